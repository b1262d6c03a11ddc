-- X9_isByte
def wpX9_isByte (v0 : Int32) (post : Int32 → Prop) : Prop := (v0 < 0 → (post 0)) ∧ (¬ v0 < 0 → ((255 < v0 → (post 0)) ∧ (¬ 255 < v0 → (post 1))))
set_option maxHeartbeats 4000000 in
set_option maxRecDepth 100000 in
theorem mtX9_isByte (l : Launch) (dC : Nat → ClassId) (dI : Nat → Nat → Nat) (cyI : ClassId) {sz : Nat} {v0 : Int32} {post : Int32 → Prop} (h : wpX9_isByte v0 post) : Met l yX9_isByte wsX9_isByte ({ frames := 0, cells := 0, slots := 0, locals := 0 }) (va_Pc [.int v0] (wk_B (dC, dI) [(cyI, .int)] [] sz)) (va_Qi (fun (r : Int32) (u : Unit) => post r ) (wk_C (dC, dI) [(cyI, .int)] (va_A [] sz) (fun (u : Unit) => [])) (va_A [] sz)) 0 0 (va_A [] sz) := by
  refine Met.ofW (cc := cX9_isByte) (maxL := 1) (ret := (some .boolean)) (by decide) rfl ?_
  intro p e s m args below meth c s₁ B hml hv
  obtain ⟨rfl, hsz, hP, hK, hD0⟩ := hv
  have hx := B.exec
  have hb := B.bytes
  have hr := B.returns
  have hts := atoms_spec (ws := wsX9_isByte) B.pre
  have hown : s.vm.findClass RX9 = some m.cls := findClass_of_methodNamed B.named
  have hlocks := B.notSynchronized
  subst hsz
  have hD := hD0.self (sz := s.heap.size)
  generalize hAe : va_A [] s.heap.size = A at hD ⊢
  have hA : ∀ q : Nat, s.heap.size ≤ q → A q := fun q h => by rw [← hAe]; exact Or.inr h
  have hS : va_S A s.heap s.heap [] := va_S.rf
  have hP : va_P (dC, dI) vwCl [] s.heap := hP
  have hl := lv_entry ([.int v0]) (n := 1) (Nat.le_of_ble_eq_true rfl)
  rw [lg_entry_eq]
  generalize (lg_sl ([.int v0]) ++ List.replicate (1 - (lg_sl ([.int v0])).length) Slot.unset).toArray = ls at hl ⊢
  have hl : lv_has ls 1 [(0, .int v0)] := hl
  have C0 : CallFix p m c cX9_isByte 1 s ([.int v0] : List Value).toArray wsX9_isByte RX9 := ⟨hx, hb, hml, hown, hts⟩
  unfold wpX9_isByte at h
  refine lv_iload_n hx hb dX9_isByte_0 rfl (lv_at hl 0 rfl) ?_
  refine lv_if_lt (tgt := 15) hx hb dX9_isByte_1 (by decide) (fun c_1 => ?_) (fun c_1 => ?_)
  · replace h := h.1 c_1
    refine lv_iconst (v := 0) hx hb dX9_isByte_15 (by decide) ?_
    have hP9 : va_P (dC, dI) vwCl [] _ := hP
    have hD9 : va_D A [] := hD
    exact W.zret (v := 0) hx hb hr rfl (fun t ht hW => ⟨⟨0, (), rfl, h, by rw [ht]; exact hP9, va_K.moved hW.alike hK, hD9⟩, hS.F ht⟩) hS.2.2 dX9_isByte_16
  · replace h := h.2 c_1
    refine lv_iload_n hx hb dX9_isByte_4 rfl (lv_at hl 0 rfl) ?_
    refine lv_sipush (v := 255) hx hb dX9_isByte_5 (by decide) ?_
    refine lv_icmp_gt (tgt := 15) hx hb dX9_isByte_8 (by decide) (fun c_2 => ?_) (fun c_2 => ?_)
    · replace h := h.1 c_2
      refine lv_iconst (v := 0) hx hb dX9_isByte_15 (by decide) ?_
      have hP9 : va_P (dC, dI) vwCl [] _ := hP
      have hD9 : va_D A [] := hD
      exact W.zret (v := 0) hx hb hr rfl (fun t ht hW => ⟨⟨0, (), rfl, h, by rw [ht]; exact hP9, va_K.moved hW.alike hK, hD9⟩, hS.F ht⟩) hS.2.2 dX9_isByte_16
    · replace h := h.2 c_2
      refine lv_iconst (v := 1) hx hb dX9_isByte_11 (by decide) ?_
      refine lv_goto (tgt := 16) hx hb dX9_isByte_12 (by decide) ?_
      have hP9 : va_P (dC, dI) vwCl [] _ := hP
      have hD9 : va_D A [] := hD
      exact W.zret (v := 1) hx hb hr rfl (fun t ht hW => ⟨⟨1, (), rfl, h, by rw [ht]; exact hP9, va_K.moved hW.alike hK, hD9⟩, hS.F ht⟩) hS.2.2 dX9_isByte_16
-- X9_mix
theorem qX9_mix_0 : Cond.constantLong RX9 256 (31) ∈ wsX9_mix := (List.mem_cons_of_mem _ (List.mem_of_getElem? (i := 0) rfl))
def wpX9_mix (v0 : Int64) (v2 : Int32) (post : Int64 → Prop) : Prop := post ((v0 * 31) + (v2.toInt64))
set_option maxHeartbeats 4000000 in
set_option maxRecDepth 100000 in
theorem mtX9_mix (l : Launch) (dC : Nat → ClassId) (dI : Nat → Nat → Nat) (cyI : ClassId) {sz : Nat} {v0 : Int64} {v2 : Int32} {post : Int64 → Prop} (h : wpX9_mix v0 v2 post) : Met l yX9_mix wsX9_mix ({ frames := 0, cells := 0, slots := 0, locals := 0 }) (va_Pc [.long v0, .int v2] (wk_B (dC, dI) [(cyI, .int)] [] sz)) (va_Ql (fun (r : Int64) (u : Unit) => post r ) (wk_C (dC, dI) [(cyI, .int)] (va_A [] sz) (fun (u : Unit) => [])) (va_A [] sz)) 0 0 (va_A [] sz) := by
  refine Met.ofW (cc := cX9_mix) (maxL := 3) (ret := (some .long)) (by decide) rfl ?_
  intro p e s m args below meth c s₁ B hml hv
  obtain ⟨rfl, hsz, hP, hK, hD0⟩ := hv
  have hx := B.exec
  have hb := B.bytes
  have hr := B.returns
  have hts := atoms_spec (ws := wsX9_mix) B.pre
  have hown : s.vm.findClass RX9 = some m.cls := findClass_of_methodNamed B.named
  have hlocks := B.notSynchronized
  subst hsz
  have hD := hD0.self (sz := s.heap.size)
  generalize hAe : va_A [] s.heap.size = A at hD ⊢
  have hA : ∀ q : Nat, s.heap.size ≤ q → A q := fun q h => by rw [← hAe]; exact Or.inr h
  have hS : va_S A s.heap s.heap [] := va_S.rf
  have hP : va_P (dC, dI) vwCl [] s.heap := hP
  have hl := lv_entry ([.long v0, .int v2]) (n := 3) (Nat.le_of_ble_eq_true rfl)
  rw [lg_entry_eq]
  generalize (lg_sl ([.long v0, .int v2]) ++ List.replicate (3 - (lg_sl ([.long v0, .int v2])).length) Slot.unset).toArray = ls at hl ⊢
  have hl : lv_has ls 3 [(0, .long v0), (2, .int v2)] := hl
  have C0 : CallFix p m c cX9_mix 3 s ([.long v0, .int v2] : List Value).toArray wsX9_mix RX9 := ⟨hx, hb, hml, hown, hts⟩
  unfold wpX9_mix at h
  refine lv_lload_n hx hb dX9_mix_0 rfl (lv_at hl 0 rfl) ?_
  refine lv_ldc2 hx hb hown (hts _ qX9_mix_0) dX9_mix_1 ?_
  refine lv_lmul hx hb dX9_mix_4 ?_
  refine lv_iload_n hx hb dX9_mix_5 rfl (lv_at hl 1 rfl) ?_
  refine lv_i2l hx hb dX9_mix_6 rfl ?_
  refine lv_ladd hx hb dX9_mix_7 ?_
  have hP9 : va_P (dC, dI) vwCl [] _ := hP
  have hD9 : va_D A [] := hD
  exact W.lret (v := (v0 * 31) + (v2.toInt64)) hx hb hr (fun t ht hW => ⟨⟨(v0 * 31) + (v2.toInt64), (), rfl, h, by rw [ht]; exact hP9, va_K.moved hW.alike hK, hD9⟩, hS.F ht⟩) hS.2.2 dX9_mix_8
-- X9_mixRow_aTb
def wpX9_mixRow_aTb_10 (v3 : Int32) (tb : Nat → Int32) (K33 : Int64 → Prop) : Nat → Int64 → Int32 → Prop
  | 0, _, _ => False
  | n10 + 1, v4, v6 => (v3 ≤ v6 → (K33 v4)) ∧ (¬ v3 ≤ v6 → (vp_in v6 64 ∧ (wpX9_mix v4 (tb v6.toNatClampNeg) (fun (r_4 : Int64) => wpX9_mixRow_aTb_10 v3 tb K33 n10 r_4 (v6 + 1)))))
set_option maxHeartbeats 4000000 in
set_option maxRecDepth 100000 in
theorem wlX9_mixRow_aTb_10 {p : Program} {l : Launch} {e : Env} {s : State} {m : MethodId} {args : Array Value} {below : List Frame} {meth : Method} {c : Code} {A : Nat → Prop} {Q : State → Prop} {dC : Nat → ClassId} {dI : Nat → Nat → Nat} {cyI : ClassId} {aTb : Nat} {v3 : Int32} {tb : Nat → Int32} {K33 : Int64 → Prop} (C0 : CallFix p m c cX9_mixRow 7 s args wsX9_mixRow RX9) (hA : ∀ q : Nat, s.heap.size ≤ q → A q) (hK : va_K (dC, dI) vwCl [(cyI, .int)] s) (hK33 : ∀ (v4 : Int64), K33 v4 → ∀ (H : Heap) (locs : List Loc) (ls : Array Slot), va_P (dC, dI) vwCl [(aTb, .inl (cyI, 64, .inl tb))] H → va_D A [(aTb, .inl (cyI, 64, .inl tb))] → va_S A s.heap H locs → lv_has ls 7 [(4, .long v4)] → W p l e ({ frames := 1, cells := 0, slots := 0, locals := 22 } : Room) s m args below meth c H locs 0 0 Q (F0 m 33 ls [])) :
    ∀ (n10 : Nat) (v4 : Int64) (v6 : Int32), wpX9_mixRow_aTb_10 v3 tb K33 n10 v4 v6 → ∀ (H : Heap) (locs : List Loc) (ls : Array Slot), va_P (dC, dI) vwCl [(aTb, .inl (cyI, 64, .inl tb))] H → va_D A [(aTb, .inl (cyI, 64, .inl tb))] → va_S A s.heap H locs → lv_has ls 7 [(2, .ref aTb), (3, .int v3), (4, .long v4), (6, .int v6)] → W p l e ({ frames := 1, cells := 0, slots := 0, locals := 22 } : Room) s m args below meth c H locs 0 0 Q (F0 m 10 ls []) := by
  obtain ⟨hx, hb, hml, hown, hts⟩ := id C0
  intro n10
  induction n10 with
  | zero => intro _ _ h; exact h.elim
  | succ n10 ih10 =>
    intro v4 v6 h H locs ls hP hD hS hl
    rw [wpX9_mixRow_aTb_10] at h
    refine lv_iload hx hb dX9_mixRow_10 (lv_at hl 3 rfl) ?_
    refine lv_iload_n hx hb dX9_mixRow_12 rfl (lv_at hl 1 rfl) ?_
    refine lv_icmp_ge (tgt := 33) hx hb dX9_mixRow_13 (by decide) (fun c_2 => ?_) (fun c_2 => ?_)
    · replace h := h.1 c_2
      exact hK33 _ h _ _ _ hP hD hS (lv_sub hl [2] rfl)
    · replace h := h.2 c_2
      refine lv_lload hx hb dX9_mixRow_16 (lv_at hl 2 rfl) ?_
      refine lv_aload_n hx hb dX9_mixRow_18 rfl (lv_at hl 0 rfl) ?_
      refine lv_iload hx hb dX9_mixRow_19 (lv_at hl 3 rfl) ?_
      obtain ⟨hi_3, h⟩ := h
      refine va_iald hx hb hK hP 0 0 rfl rfl hi_3 dX9_mixRow_21 ?_
      refine wk_calll (wc := []) (wr := [(aTb, .inl (cyI, 64, .inl tb))]) (va_runS (As := [.long v4, .int (tb v6.toNatClampNeg)]) (rest := []) C0 (mtX9_mix l dC dI cyI (sz := _) (v0 := v4) (v2 := tb v6.toNatClampNeg) h) (va_cwS 2 hts gX9_mixRow_X9_mix rfl rfl rfl (by decide +kernel) ⟨(Nat.le_of_ble_eq_true rfl), (Nat.le_of_ble_eq_true rfl)⟩) (wk_preS (wc := []) hK hP hD [] rfl (by decide)) rfl rfl hl.1 rfl (lv_room (Nat.le_of_ble_eq_true rfl)) dX9_mixRow_22 ⟨(Nat.le_of_ble_eq_true rfl), (Nat.le_of_ble_eq_true rfl)⟩) hP hD hS hA [] [0] rfl rfl (by decide) (by decide) (fun r_4 u9 H locs h hP hD hS => ?_)
      have hP : va_P (dC, dI) vwCl [(aTb, .inl (cyI, 64, .inl tb))] H := hP
      have hD : va_D A [(aTb, .inl (cyI, 64, .inl tb))] := hD
      refine lv_lstore (lv' := [(4, .long r_4), (2, .ref aTb), (3, .int v3), (6, .int v6)]) hx hb dX9_mixRow_25 hl (by decide) rfl (fun ls hl => ?_)
      refine lv_iinc (v := v6 + 1) (lv' := [(6, .int (v6 + 1)), (4, .long r_4), (2, .ref aTb), (3, .int v3)]) hx hb dX9_mixRow_27 hl (k := 3) rfl rfl (by decide) rfl (fun ls hl => ?_)
      refine lv_goto (tgt := 10) hx hb dX9_mixRow_30 (by decide) ?_
      exact ih10 _ _ h _ _ _ hP hD hS (lv_sub hl [2, 3, 1, 0] rfl)
def wpX9_mixRow_aTb (tb : Nat → Int32) (v0 : Int64) (v3 : Int32) (post : Int64 → Prop) : Prop := wpX9_mix v0 v3 (fun (r_1 : Int64) => ∃ n10 : Nat, wpX9_mixRow_aTb_10 v3 tb (fun (v4_5 : Int64) => post v4_5) n10 r_1 0)
set_option maxHeartbeats 4000000 in
set_option maxRecDepth 100000 in
theorem mtX9_mixRow_aTb (l : Launch) (dC : Nat → ClassId) (dI : Nat → Nat → Nat) (cyI : ClassId) {aTb : Nat} {sz : Nat} {tb : Nat → Int32} {v0 : Int64} {v3 : Int32} {post : Int64 → Prop} (h : wpX9_mixRow_aTb tb v0 v3 post) : Met l yX9_mixRow wsX9_mixRow ({ frames := 1, cells := 0, slots := 0, locals := 22 }) (va_Pc [.long v0, .ref aTb, .int v3] (wk_B (dC, dI) [(cyI, .int)] [(aTb, .inl (cyI, 64, .inl tb))] sz)) (va_Ql (fun (r : Int64) (u : Unit) => post r ) (wk_C (dC, dI) [(cyI, .int)] (va_A [(aTb, .inl (cyI, 64, .inl tb))] sz) (fun (u : Unit) => [(aTb, .inl (cyI, 64, .inl tb))])) (va_A [(aTb, .inl (cyI, 64, .inl tb))] sz)) 0 0 (va_A [(aTb, .inl (cyI, 64, .inl tb))] sz) := by
  refine Met.ofW (cc := cX9_mixRow) (maxL := 7) (ret := (some .long)) (by decide) rfl ?_
  intro p e s m args below meth c s₁ B hml hv
  obtain ⟨rfl, hsz, hP, hK, hD0⟩ := hv
  have hx := B.exec
  have hb := B.bytes
  have hr := B.returns
  have hts := atoms_spec (ws := wsX9_mixRow) B.pre
  have hown : s.vm.findClass RX9 = some m.cls := findClass_of_methodNamed B.named
  have hlocks := B.notSynchronized
  subst hsz
  have hD := hD0.self (sz := s.heap.size)
  generalize hAe : va_A [(aTb, .inl (cyI, 64, .inl tb))] s.heap.size = A at hD ⊢
  have hA : ∀ q : Nat, s.heap.size ≤ q → A q := fun q h => by rw [← hAe]; exact Or.inr h
  have hS : va_S A s.heap s.heap [] := va_S.rf
  have hP : va_P (dC, dI) vwCl [(aTb, .inl (cyI, 64, .inl tb))] s.heap := hP
  have hl := lv_entry ([.long v0, .ref aTb, .int v3]) (n := 7) (Nat.le_of_ble_eq_true rfl)
  rw [lg_entry_eq]
  generalize (lg_sl ([.long v0, .ref aTb, .int v3]) ++ List.replicate (7 - (lg_sl ([.long v0, .ref aTb, .int v3])).length) Slot.unset).toArray = ls at hl ⊢
  have hl : lv_has ls 7 [(0, .long v0), (2, .ref aTb), (3, .int v3)] := hl
  have C0 : CallFix p m c cX9_mixRow 7 s ([.long v0, .ref aTb, .int v3] : List Value).toArray wsX9_mixRow RX9 := ⟨hx, hb, hml, hown, hts⟩
  unfold wpX9_mixRow_aTb at h
  refine lv_lload_n hx hb dX9_mixRow_0 rfl (lv_at hl 0 rfl) ?_
  refine lv_iload_n hx hb dX9_mixRow_1 rfl (lv_at hl 2 rfl) ?_
  refine wk_calll (wc := []) (wr := [(aTb, .inl (cyI, 64, .inl tb))]) (va_runS (As := [.long v0, .int v3]) (rest := []) C0 (mtX9_mix l dC dI cyI (sz := _) (v0 := v0) (v2 := v3) h) (va_cwS 2 hts gX9_mixRow_X9_mix rfl rfl rfl (by decide +kernel) ⟨(Nat.le_of_ble_eq_true rfl), (Nat.le_of_ble_eq_true rfl)⟩) (wk_preS (wc := []) hK hP hD [] rfl (by decide)) rfl rfl hl.1 rfl (lv_room (Nat.le_of_ble_eq_true rfl)) dX9_mixRow_2 ⟨(Nat.le_of_ble_eq_true rfl), (Nat.le_of_ble_eq_true rfl)⟩) hP hD hS hA [] [0] rfl rfl (by decide) (by decide) (fun r_1 u9 H locs h hP hD hS => ?_)
  have hP : va_P (dC, dI) vwCl [(aTb, .inl (cyI, 64, .inl tb))] H := hP
  have hD : va_D A [(aTb, .inl (cyI, 64, .inl tb))] := hD
  refine lv_lstore (lv' := [(4, .long r_1), (0, .long v0), (2, .ref aTb), (3, .int v3)]) hx hb dX9_mixRow_5 hl (by decide) rfl (fun ls hl => ?_)
  refine lv_iconst (v := 0) hx hb dX9_mixRow_7 (by decide) ?_
  refine lv_istore (lv' := [(6, .int 0), (4, .long r_1), (0, .long v0), (2, .ref aTb), (3, .int v3)]) hx hb dX9_mixRow_8 hl (by decide) rfl (fun ls hl => ?_)
  obtain ⟨n10, h⟩ := h
  refine wlX9_mixRow_aTb_10 C0 hA hK ?_ n10 _ _ h _ _ _ hP hD hS (lv_sub hl [3, 4, 1, 0] rfl)
  · intro v4_5 h H locs ls hP hD hS hl
    refine lv_lload hx hb dX9_mixRow_33 (lv_at hl 0 rfl) ?_
    have hP9 : va_P (dC, dI) vwCl [(aTb, .inl (cyI, 64, .inl tb))] _ := hP
    have hD9 : va_D A [(aTb, .inl (cyI, 64, .inl tb))] := hD
    exact W.lret (v := v4_5) hx hb hr (fun t ht hW => ⟨⟨v4_5, (), rfl, h, by rw [ht]; exact hP9, va_K.moved hW.alike hK, hD9⟩, hS.F ht⟩) hS.2.2 dX9_mixRow_35
-- X9_mixRow_aBr
def wpX9_mixRow_aBr_10 (v3 : Int32) (br : Nat → Int32) (K33 : Int64 → Prop) : Nat → Int64 → Int32 → Prop
  | 0, _, _ => False
  | n10 + 1, v4, v6 => (v3 ≤ v6 → (K33 v4)) ∧ (¬ v3 ≤ v6 → (vp_in v6 800 ∧ (wpX9_mix v4 (br v6.toNatClampNeg) (fun (r_4 : Int64) => wpX9_mixRow_aBr_10 v3 br K33 n10 r_4 (v6 + 1)))))
set_option maxHeartbeats 4000000 in
set_option maxRecDepth 100000 in
theorem wlX9_mixRow_aBr_10 {p : Program} {l : Launch} {e : Env} {s : State} {m : MethodId} {args : Array Value} {below : List Frame} {meth : Method} {c : Code} {A : Nat → Prop} {Q : State → Prop} {dC : Nat → ClassId} {dI : Nat → Nat → Nat} {cyI : ClassId} {aBr : Nat} {v3 : Int32} {br : Nat → Int32} {K33 : Int64 → Prop} (C0 : CallFix p m c cX9_mixRow 7 s args wsX9_mixRow RX9) (hA : ∀ q : Nat, s.heap.size ≤ q → A q) (hK : va_K (dC, dI) vwCl [(cyI, .int)] s) (hK33 : ∀ (v4 : Int64), K33 v4 → ∀ (H : Heap) (locs : List Loc) (ls : Array Slot), va_P (dC, dI) vwCl [(aBr, .inl (cyI, 800, .inl br))] H → va_D A [(aBr, .inl (cyI, 800, .inl br))] → va_S A s.heap H locs → lv_has ls 7 [(4, .long v4)] → W p l e ({ frames := 1, cells := 0, slots := 0, locals := 22 } : Room) s m args below meth c H locs 0 0 Q (F0 m 33 ls [])) :
    ∀ (n10 : Nat) (v4 : Int64) (v6 : Int32), wpX9_mixRow_aBr_10 v3 br K33 n10 v4 v6 → ∀ (H : Heap) (locs : List Loc) (ls : Array Slot), va_P (dC, dI) vwCl [(aBr, .inl (cyI, 800, .inl br))] H → va_D A [(aBr, .inl (cyI, 800, .inl br))] → va_S A s.heap H locs → lv_has ls 7 [(2, .ref aBr), (3, .int v3), (4, .long v4), (6, .int v6)] → W p l e ({ frames := 1, cells := 0, slots := 0, locals := 22 } : Room) s m args below meth c H locs 0 0 Q (F0 m 10 ls []) := by
  obtain ⟨hx, hb, hml, hown, hts⟩ := id C0
  intro n10
  induction n10 with
  | zero => intro _ _ h; exact h.elim
  | succ n10 ih10 =>
    intro v4 v6 h H locs ls hP hD hS hl
    rw [wpX9_mixRow_aBr_10] at h
    refine lv_iload hx hb dX9_mixRow_10 (lv_at hl 3 rfl) ?_
    refine lv_iload_n hx hb dX9_mixRow_12 rfl (lv_at hl 1 rfl) ?_
    refine lv_icmp_ge (tgt := 33) hx hb dX9_mixRow_13 (by decide) (fun c_2 => ?_) (fun c_2 => ?_)
    · replace h := h.1 c_2
      exact hK33 _ h _ _ _ hP hD hS (lv_sub hl [2] rfl)
    · replace h := h.2 c_2
      refine lv_lload hx hb dX9_mixRow_16 (lv_at hl 2 rfl) ?_
      refine lv_aload_n hx hb dX9_mixRow_18 rfl (lv_at hl 0 rfl) ?_
      refine lv_iload hx hb dX9_mixRow_19 (lv_at hl 3 rfl) ?_
      obtain ⟨hi_3, h⟩ := h
      refine va_iald hx hb hK hP 0 0 rfl rfl hi_3 dX9_mixRow_21 ?_
      refine wk_calll (wc := []) (wr := [(aBr, .inl (cyI, 800, .inl br))]) (va_runS (As := [.long v4, .int (br v6.toNatClampNeg)]) (rest := []) C0 (mtX9_mix l dC dI cyI (sz := _) (v0 := v4) (v2 := br v6.toNatClampNeg) h) (va_cwS 2 hts gX9_mixRow_X9_mix rfl rfl rfl (by decide +kernel) ⟨(Nat.le_of_ble_eq_true rfl), (Nat.le_of_ble_eq_true rfl)⟩) (wk_preS (wc := []) hK hP hD [] rfl (by decide)) rfl rfl hl.1 rfl (lv_room (Nat.le_of_ble_eq_true rfl)) dX9_mixRow_22 ⟨(Nat.le_of_ble_eq_true rfl), (Nat.le_of_ble_eq_true rfl)⟩) hP hD hS hA [] [0] rfl rfl (by decide) (by decide) (fun r_4 u9 H locs h hP hD hS => ?_)
      have hP : va_P (dC, dI) vwCl [(aBr, .inl (cyI, 800, .inl br))] H := hP
      have hD : va_D A [(aBr, .inl (cyI, 800, .inl br))] := hD
      refine lv_lstore (lv' := [(4, .long r_4), (2, .ref aBr), (3, .int v3), (6, .int v6)]) hx hb dX9_mixRow_25 hl (by decide) rfl (fun ls hl => ?_)
      refine lv_iinc (v := v6 + 1) (lv' := [(6, .int (v6 + 1)), (4, .long r_4), (2, .ref aBr), (3, .int v3)]) hx hb dX9_mixRow_27 hl (k := 3) rfl rfl (by decide) rfl (fun ls hl => ?_)
      refine lv_goto (tgt := 10) hx hb dX9_mixRow_30 (by decide) ?_
      exact ih10 _ _ h _ _ _ hP hD hS (lv_sub hl [2, 3, 1, 0] rfl)
def wpX9_mixRow_aBr (br : Nat → Int32) (v0 : Int64) (v3 : Int32) (post : Int64 → Prop) : Prop := wpX9_mix v0 v3 (fun (r_1 : Int64) => ∃ n10 : Nat, wpX9_mixRow_aBr_10 v3 br (fun (v4_5 : Int64) => post v4_5) n10 r_1 0)
set_option maxHeartbeats 4000000 in
set_option maxRecDepth 100000 in
theorem mtX9_mixRow_aBr (l : Launch) (dC : Nat → ClassId) (dI : Nat → Nat → Nat) (cyI : ClassId) {aBr : Nat} {sz : Nat} {br : Nat → Int32} {v0 : Int64} {v3 : Int32} {post : Int64 → Prop} (h : wpX9_mixRow_aBr br v0 v3 post) : Met l yX9_mixRow wsX9_mixRow ({ frames := 1, cells := 0, slots := 0, locals := 22 }) (va_Pc [.long v0, .ref aBr, .int v3] (wk_B (dC, dI) [(cyI, .int)] [(aBr, .inl (cyI, 800, .inl br))] sz)) (va_Ql (fun (r : Int64) (u : Unit) => post r ) (wk_C (dC, dI) [(cyI, .int)] (va_A [(aBr, .inl (cyI, 800, .inl br))] sz) (fun (u : Unit) => [(aBr, .inl (cyI, 800, .inl br))])) (va_A [(aBr, .inl (cyI, 800, .inl br))] sz)) 0 0 (va_A [(aBr, .inl (cyI, 800, .inl br))] sz) := by
  refine Met.ofW (cc := cX9_mixRow) (maxL := 7) (ret := (some .long)) (by decide) rfl ?_
  intro p e s m args below meth c s₁ B hml hv
  obtain ⟨rfl, hsz, hP, hK, hD0⟩ := hv
  have hx := B.exec
  have hb := B.bytes
  have hr := B.returns
  have hts := atoms_spec (ws := wsX9_mixRow) B.pre
  have hown : s.vm.findClass RX9 = some m.cls := findClass_of_methodNamed B.named
  have hlocks := B.notSynchronized
  subst hsz
  have hD := hD0.self (sz := s.heap.size)
  generalize hAe : va_A [(aBr, .inl (cyI, 800, .inl br))] s.heap.size = A at hD ⊢
  have hA : ∀ q : Nat, s.heap.size ≤ q → A q := fun q h => by rw [← hAe]; exact Or.inr h
  have hS : va_S A s.heap s.heap [] := va_S.rf
  have hP : va_P (dC, dI) vwCl [(aBr, .inl (cyI, 800, .inl br))] s.heap := hP
  have hl := lv_entry ([.long v0, .ref aBr, .int v3]) (n := 7) (Nat.le_of_ble_eq_true rfl)
  rw [lg_entry_eq]
  generalize (lg_sl ([.long v0, .ref aBr, .int v3]) ++ List.replicate (7 - (lg_sl ([.long v0, .ref aBr, .int v3])).length) Slot.unset).toArray = ls at hl ⊢
  have hl : lv_has ls 7 [(0, .long v0), (2, .ref aBr), (3, .int v3)] := hl
  have C0 : CallFix p m c cX9_mixRow 7 s ([.long v0, .ref aBr, .int v3] : List Value).toArray wsX9_mixRow RX9 := ⟨hx, hb, hml, hown, hts⟩
  unfold wpX9_mixRow_aBr at h
  refine lv_lload_n hx hb dX9_mixRow_0 rfl (lv_at hl 0 rfl) ?_
  refine lv_iload_n hx hb dX9_mixRow_1 rfl (lv_at hl 2 rfl) ?_
  refine wk_calll (wc := []) (wr := [(aBr, .inl (cyI, 800, .inl br))]) (va_runS (As := [.long v0, .int v3]) (rest := []) C0 (mtX9_mix l dC dI cyI (sz := _) (v0 := v0) (v2 := v3) h) (va_cwS 2 hts gX9_mixRow_X9_mix rfl rfl rfl (by decide +kernel) ⟨(Nat.le_of_ble_eq_true rfl), (Nat.le_of_ble_eq_true rfl)⟩) (wk_preS (wc := []) hK hP hD [] rfl (by decide)) rfl rfl hl.1 rfl (lv_room (Nat.le_of_ble_eq_true rfl)) dX9_mixRow_2 ⟨(Nat.le_of_ble_eq_true rfl), (Nat.le_of_ble_eq_true rfl)⟩) hP hD hS hA [] [0] rfl rfl (by decide) (by decide) (fun r_1 u9 H locs h hP hD hS => ?_)
  have hP : va_P (dC, dI) vwCl [(aBr, .inl (cyI, 800, .inl br))] H := hP
  have hD : va_D A [(aBr, .inl (cyI, 800, .inl br))] := hD
  refine lv_lstore (lv' := [(4, .long r_1), (0, .long v0), (2, .ref aBr), (3, .int v3)]) hx hb dX9_mixRow_5 hl (by decide) rfl (fun ls hl => ?_)
  refine lv_iconst (v := 0) hx hb dX9_mixRow_7 (by decide) ?_
  refine lv_istore (lv' := [(6, .int 0), (4, .long r_1), (0, .long v0), (2, .ref aBr), (3, .int v3)]) hx hb dX9_mixRow_8 hl (by decide) rfl (fun ls hl => ?_)
  obtain ⟨n10, h⟩ := h
  refine wlX9_mixRow_aBr_10 C0 hA hK ?_ n10 _ _ h _ _ _ hP hD hS (lv_sub hl [3, 4, 1, 0] rfl)
  · intro v4_5 h H locs ls hP hD hS hl
    refine lv_lload hx hb dX9_mixRow_33 (lv_at hl 0 rfl) ?_
    have hP9 : va_P (dC, dI) vwCl [(aBr, .inl (cyI, 800, .inl br))] _ := hP
    have hD9 : va_D A [(aBr, .inl (cyI, 800, .inl br))] := hD
    exact W.lret (v := v4_5) hx hb hr (fun t ht hW => ⟨⟨v4_5, (), rfl, h, by rw [ht]; exact hP9, va_K.moved hW.alike hK, hD9⟩, hS.F ht⟩) hS.2.2 dX9_mixRow_35
-- X9_mixRow_aRb
def wpX9_mixRow_aRb_10 (v3 : Int32) (rb : Nat → Int32) (K33 : Int64 → Prop) : Nat → Int64 → Int32 → Prop
  | 0, _, _ => False
  | n10 + 1, v4, v6 => (v3 ≤ v6 → (K33 v4)) ∧ (¬ v3 ≤ v6 → (vp_in v6 200 ∧ (wpX9_mix v4 (rb v6.toNatClampNeg) (fun (r_4 : Int64) => wpX9_mixRow_aRb_10 v3 rb K33 n10 r_4 (v6 + 1)))))
set_option maxHeartbeats 4000000 in
set_option maxRecDepth 100000 in
theorem wlX9_mixRow_aRb_10 {p : Program} {l : Launch} {e : Env} {s : State} {m : MethodId} {args : Array Value} {below : List Frame} {meth : Method} {c : Code} {A : Nat → Prop} {Q : State → Prop} {dC : Nat → ClassId} {dI : Nat → Nat → Nat} {cyI : ClassId} {aRb : Nat} {v3 : Int32} {rb : Nat → Int32} {K33 : Int64 → Prop} (C0 : CallFix p m c cX9_mixRow 7 s args wsX9_mixRow RX9) (hA : ∀ q : Nat, s.heap.size ≤ q → A q) (hK : va_K (dC, dI) vwCl [(cyI, .int)] s) (hK33 : ∀ (v4 : Int64), K33 v4 → ∀ (H : Heap) (locs : List Loc) (ls : Array Slot), va_P (dC, dI) vwCl [(aRb, .inl (cyI, 200, .inl rb))] H → va_D A [(aRb, .inl (cyI, 200, .inl rb))] → va_S A s.heap H locs → lv_has ls 7 [(4, .long v4)] → W p l e ({ frames := 1, cells := 0, slots := 0, locals := 22 } : Room) s m args below meth c H locs 0 0 Q (F0 m 33 ls [])) :
    ∀ (n10 : Nat) (v4 : Int64) (v6 : Int32), wpX9_mixRow_aRb_10 v3 rb K33 n10 v4 v6 → ∀ (H : Heap) (locs : List Loc) (ls : Array Slot), va_P (dC, dI) vwCl [(aRb, .inl (cyI, 200, .inl rb))] H → va_D A [(aRb, .inl (cyI, 200, .inl rb))] → va_S A s.heap H locs → lv_has ls 7 [(2, .ref aRb), (3, .int v3), (4, .long v4), (6, .int v6)] → W p l e ({ frames := 1, cells := 0, slots := 0, locals := 22 } : Room) s m args below meth c H locs 0 0 Q (F0 m 10 ls []) := by
  obtain ⟨hx, hb, hml, hown, hts⟩ := id C0
  intro n10
  induction n10 with
  | zero => intro _ _ h; exact h.elim
  | succ n10 ih10 =>
    intro v4 v6 h H locs ls hP hD hS hl
    rw [wpX9_mixRow_aRb_10] at h
    refine lv_iload hx hb dX9_mixRow_10 (lv_at hl 3 rfl) ?_
    refine lv_iload_n hx hb dX9_mixRow_12 rfl (lv_at hl 1 rfl) ?_
    refine lv_icmp_ge (tgt := 33) hx hb dX9_mixRow_13 (by decide) (fun c_2 => ?_) (fun c_2 => ?_)
    · replace h := h.1 c_2
      exact hK33 _ h _ _ _ hP hD hS (lv_sub hl [2] rfl)
    · replace h := h.2 c_2
      refine lv_lload hx hb dX9_mixRow_16 (lv_at hl 2 rfl) ?_
      refine lv_aload_n hx hb dX9_mixRow_18 rfl (lv_at hl 0 rfl) ?_
      refine lv_iload hx hb dX9_mixRow_19 (lv_at hl 3 rfl) ?_
      obtain ⟨hi_3, h⟩ := h
      refine va_iald hx hb hK hP 0 0 rfl rfl hi_3 dX9_mixRow_21 ?_
      refine wk_calll (wc := []) (wr := [(aRb, .inl (cyI, 200, .inl rb))]) (va_runS (As := [.long v4, .int (rb v6.toNatClampNeg)]) (rest := []) C0 (mtX9_mix l dC dI cyI (sz := _) (v0 := v4) (v2 := rb v6.toNatClampNeg) h) (va_cwS 2 hts gX9_mixRow_X9_mix rfl rfl rfl (by decide +kernel) ⟨(Nat.le_of_ble_eq_true rfl), (Nat.le_of_ble_eq_true rfl)⟩) (wk_preS (wc := []) hK hP hD [] rfl (by decide)) rfl rfl hl.1 rfl (lv_room (Nat.le_of_ble_eq_true rfl)) dX9_mixRow_22 ⟨(Nat.le_of_ble_eq_true rfl), (Nat.le_of_ble_eq_true rfl)⟩) hP hD hS hA [] [0] rfl rfl (by decide) (by decide) (fun r_4 u9 H locs h hP hD hS => ?_)
      have hP : va_P (dC, dI) vwCl [(aRb, .inl (cyI, 200, .inl rb))] H := hP
      have hD : va_D A [(aRb, .inl (cyI, 200, .inl rb))] := hD
      refine lv_lstore (lv' := [(4, .long r_4), (2, .ref aRb), (3, .int v3), (6, .int v6)]) hx hb dX9_mixRow_25 hl (by decide) rfl (fun ls hl => ?_)
      refine lv_iinc (v := v6 + 1) (lv' := [(6, .int (v6 + 1)), (4, .long r_4), (2, .ref aRb), (3, .int v3)]) hx hb dX9_mixRow_27 hl (k := 3) rfl rfl (by decide) rfl (fun ls hl => ?_)
      refine lv_goto (tgt := 10) hx hb dX9_mixRow_30 (by decide) ?_
      exact ih10 _ _ h _ _ _ hP hD hS (lv_sub hl [2, 3, 1, 0] rfl)
def wpX9_mixRow_aRb (rb : Nat → Int32) (v0 : Int64) (v3 : Int32) (post : Int64 → Prop) : Prop := wpX9_mix v0 v3 (fun (r_1 : Int64) => ∃ n10 : Nat, wpX9_mixRow_aRb_10 v3 rb (fun (v4_5 : Int64) => post v4_5) n10 r_1 0)
set_option maxHeartbeats 4000000 in
set_option maxRecDepth 100000 in
theorem mtX9_mixRow_aRb (l : Launch) (dC : Nat → ClassId) (dI : Nat → Nat → Nat) (cyI : ClassId) {aRb : Nat} {sz : Nat} {rb : Nat → Int32} {v0 : Int64} {v3 : Int32} {post : Int64 → Prop} (h : wpX9_mixRow_aRb rb v0 v3 post) : Met l yX9_mixRow wsX9_mixRow ({ frames := 1, cells := 0, slots := 0, locals := 22 }) (va_Pc [.long v0, .ref aRb, .int v3] (wk_B (dC, dI) [(cyI, .int)] [(aRb, .inl (cyI, 200, .inl rb))] sz)) (va_Ql (fun (r : Int64) (u : Unit) => post r ) (wk_C (dC, dI) [(cyI, .int)] (va_A [(aRb, .inl (cyI, 200, .inl rb))] sz) (fun (u : Unit) => [(aRb, .inl (cyI, 200, .inl rb))])) (va_A [(aRb, .inl (cyI, 200, .inl rb))] sz)) 0 0 (va_A [(aRb, .inl (cyI, 200, .inl rb))] sz) := by
  refine Met.ofW (cc := cX9_mixRow) (maxL := 7) (ret := (some .long)) (by decide) rfl ?_
  intro p e s m args below meth c s₁ B hml hv
  obtain ⟨rfl, hsz, hP, hK, hD0⟩ := hv
  have hx := B.exec
  have hb := B.bytes
  have hr := B.returns
  have hts := atoms_spec (ws := wsX9_mixRow) B.pre
  have hown : s.vm.findClass RX9 = some m.cls := findClass_of_methodNamed B.named
  have hlocks := B.notSynchronized
  subst hsz
  have hD := hD0.self (sz := s.heap.size)
  generalize hAe : va_A [(aRb, .inl (cyI, 200, .inl rb))] s.heap.size = A at hD ⊢
  have hA : ∀ q : Nat, s.heap.size ≤ q → A q := fun q h => by rw [← hAe]; exact Or.inr h
  have hS : va_S A s.heap s.heap [] := va_S.rf
  have hP : va_P (dC, dI) vwCl [(aRb, .inl (cyI, 200, .inl rb))] s.heap := hP
  have hl := lv_entry ([.long v0, .ref aRb, .int v3]) (n := 7) (Nat.le_of_ble_eq_true rfl)
  rw [lg_entry_eq]
  generalize (lg_sl ([.long v0, .ref aRb, .int v3]) ++ List.replicate (7 - (lg_sl ([.long v0, .ref aRb, .int v3])).length) Slot.unset).toArray = ls at hl ⊢
  have hl : lv_has ls 7 [(0, .long v0), (2, .ref aRb), (3, .int v3)] := hl
  have C0 : CallFix p m c cX9_mixRow 7 s ([.long v0, .ref aRb, .int v3] : List Value).toArray wsX9_mixRow RX9 := ⟨hx, hb, hml, hown, hts⟩
  unfold wpX9_mixRow_aRb at h
  refine lv_lload_n hx hb dX9_mixRow_0 rfl (lv_at hl 0 rfl) ?_
  refine lv_iload_n hx hb dX9_mixRow_1 rfl (lv_at hl 2 rfl) ?_
  refine wk_calll (wc := []) (wr := [(aRb, .inl (cyI, 200, .inl rb))]) (va_runS (As := [.long v0, .int v3]) (rest := []) C0 (mtX9_mix l dC dI cyI (sz := _) (v0 := v0) (v2 := v3) h) (va_cwS 2 hts gX9_mixRow_X9_mix rfl rfl rfl (by decide +kernel) ⟨(Nat.le_of_ble_eq_true rfl), (Nat.le_of_ble_eq_true rfl)⟩) (wk_preS (wc := []) hK hP hD [] rfl (by decide)) rfl rfl hl.1 rfl (lv_room (Nat.le_of_ble_eq_true rfl)) dX9_mixRow_2 ⟨(Nat.le_of_ble_eq_true rfl), (Nat.le_of_ble_eq_true rfl)⟩) hP hD hS hA [] [0] rfl rfl (by decide) (by decide) (fun r_1 u9 H locs h hP hD hS => ?_)
  have hP : va_P (dC, dI) vwCl [(aRb, .inl (cyI, 200, .inl rb))] H := hP
  have hD : va_D A [(aRb, .inl (cyI, 200, .inl rb))] := hD
  refine lv_lstore (lv' := [(4, .long r_1), (0, .long v0), (2, .ref aRb), (3, .int v3)]) hx hb dX9_mixRow_5 hl (by decide) rfl (fun ls hl => ?_)
  refine lv_iconst (v := 0) hx hb dX9_mixRow_7 (by decide) ?_
  refine lv_istore (lv' := [(6, .int 0), (4, .long r_1), (0, .long v0), (2, .ref aRb), (3, .int v3)]) hx hb dX9_mixRow_8 hl (by decide) rfl (fun ls hl => ?_)
  obtain ⟨n10, h⟩ := h
  refine wlX9_mixRow_aRb_10 C0 hA hK ?_ n10 _ _ h _ _ _ hP hD hS (lv_sub hl [3, 4, 1, 0] rfl)
  · intro v4_5 h H locs ls hP hD hS hl
    refine lv_lload hx hb dX9_mixRow_33 (lv_at hl 0 rfl) ?_
    have hP9 : va_P (dC, dI) vwCl [(aRb, .inl (cyI, 200, .inl rb))] _ := hP
    have hD9 : va_D A [(aRb, .inl (cyI, 200, .inl rb))] := hD
    exact W.lret (v := v4_5) hx hb hr (fun t ht hW => ⟨⟨v4_5, (), rfl, h, by rw [ht]; exact hP9, va_K.moved hW.alike hK, hD9⟩, hS.F ht⟩) hS.2.2 dX9_mixRow_35
-- X9_mixPlan
theorem qX9_mixPlan_0 : Cond.fieldLink RX9 51 "MatchCoder" "plan" "LMatchCoder$Plan;" ∈ wsX9_mixPlan := (List.mem_cons_of_mem _ (List.mem_append_left _ (List.mem_append_left _ (List.mem_of_getElem? (i := 0) rfl))))
theorem qX9_mixPlan_1 : Cond.fieldLink RX9 176 "MatchCoder$Plan" "count" "I" ∈ wsX9_mixPlan := (List.mem_cons_of_mem _ (List.mem_append_left _ (List.mem_append_left _ (List.mem_of_getElem? (i := 1) rfl))))
theorem qX9_mixPlan_2 : Cond.fieldLink RX9 180 "MatchCoder$Plan" "kinds" "[I" ∈ wsX9_mixPlan := (List.mem_cons_of_mem _ (List.mem_append_left _ (List.mem_append_left _ (List.mem_of_getElem? (i := 2) rfl))))
theorem qX9_mixPlan_3 : Cond.fieldLink RX9 183 "MatchCoder$Plan" "lengths" "[I" ∈ wsX9_mixPlan := (List.mem_cons_of_mem _ (List.mem_append_left _ (List.mem_append_left _ (List.mem_of_getElem? (i := 3) rfl))))
theorem qX9_mixPlan_4 : Cond.fieldLink RX9 186 "MatchCoder$Plan" "distances" "[I" ∈ wsX9_mixPlan := (List.mem_cons_of_mem _ (List.mem_append_left _ (List.mem_append_left _ (List.mem_of_getElem? (i := 4) rfl))))
theorem inX9_mixPlan_wsX90 : ∀ w ∈ wsX90, w ∈ wsX9_mixPlan := fun _ h => List.mem_cons_of_mem _ (List.mem_append_left _ (List.mem_append_right _ h))
theorem inX9_mixPlan_wsX40 : ∀ w ∈ wsX40, w ∈ wsX9_mixPlan := fun _ h => List.mem_cons_of_mem _ (List.mem_append_right _ h)
def wpX9_mixPlan_15 (pn : Int32) (pk : Nat → Int32) (pl : Nat → Int32) (pd : Nat → Int32) (K78 : Int64 → Prop) : Nat → Int64 → Int32 → Prop
  | 0, _, _ => False
  | n15 + 1, v3, v5 => (pn ≤ v5 → (K78 v3)) ∧ (¬ pn ≤ v5 → (vp_in v5 64 ∧ (wpX9_mix v3 (pk v5.toNatClampNeg) (fun (r_4 : Int64) => wpX9_mix r_4 (pl v5.toNatClampNeg) (fun (r_5 : Int64) => wpX9_mix r_5 (pd v5.toNatClampNeg) (fun (r_6 : Int64) => wpX9_mixPlan_15 pn pk pl pd K78 n15 r_6 (v5 + 1)))))))
set_option maxHeartbeats 4000000 in
set_option maxRecDepth 100000 in
theorem wlX9_mixPlan_15 {p : Program} {l : Launch} {e : Env} {s : State} {m : MethodId} {args : Array Value} {below : List Frame} {meth : Method} {c : Code} {A : Nat → Prop} {Q : State → Prop} {dC : Nat → ClassId} {dI : Nat → Nat → Nat} {cyI : ClassId} {aX aT aS aF aQ aW aP aPk aPl aPd aPs aB aR : Nat} {pn : Int32} {pch : Int32} {pk : Nat → Int32} {pl : Nat → Int32} {pd : Nat → Int32} {K78 : Int64 → Prop} (C0 : CallFix p m c cX9_mixPlan 6 s args wsX9_mixPlan RX9) (hA : ∀ q : Nat, s.heap.size ≤ q → A q) (hK : va_K (dC, dI) vwCl [(cyI, .int)] s) (hK78 : ∀ (v3 : Int64), K78 v3 → ∀ (H : Heap) (locs : List Loc) (ls : Array Slot), va_P (dC, dI) vwCl [(aX, .inr (8, [.ref aT, .ref aS, .ref aF, .ref aQ, .ref aW, .ref aP, .ref aB, .ref aR])), (aP, .inr (3, [.ref aPk, .ref aPl, .ref aPd, .ref aPs, .int pn, .int pch])), (aPk, .inl (cyI, 64, .inl pk)), (aPl, .inl (cyI, 64, .inl pl)), (aPd, .inl (cyI, 64, .inl pd))] H → va_D A [(aX, .inr (8, [.ref aT, .ref aS, .ref aF, .ref aQ, .ref aW, .ref aP, .ref aB, .ref aR])), (aP, .inr (3, [.ref aPk, .ref aPl, .ref aPd, .ref aPs, .int pn, .int pch])), (aPk, .inl (cyI, 64, .inl pk)), (aPl, .inl (cyI, 64, .inl pl)), (aPd, .inl (cyI, 64, .inl pd))] → va_S A s.heap H locs → lv_has ls 6 [(3, .long v3)] → W p l e ({ frames := 1, cells := 0, slots := 0, locals := 22 } : Room) s m args below meth c H locs 0 0 Q (F0 m 78 ls [])) :
    ∀ (n15 : Nat) (v3 : Int64) (v5 : Int32), wpX9_mixPlan_15 pn pk pl pd K78 n15 v3 v5 → ∀ (H : Heap) (locs : List Loc) (ls : Array Slot), va_P (dC, dI) vwCl [(aX, .inr (8, [.ref aT, .ref aS, .ref aF, .ref aQ, .ref aW, .ref aP, .ref aB, .ref aR])), (aP, .inr (3, [.ref aPk, .ref aPl, .ref aPd, .ref aPs, .int pn, .int pch])), (aPk, .inl (cyI, 64, .inl pk)), (aPl, .inl (cyI, 64, .inl pl)), (aPd, .inl (cyI, 64, .inl pd))] H → va_D A [(aX, .inr (8, [.ref aT, .ref aS, .ref aF, .ref aQ, .ref aW, .ref aP, .ref aB, .ref aR])), (aP, .inr (3, [.ref aPk, .ref aPl, .ref aPd, .ref aPs, .int pn, .int pch])), (aPk, .inl (cyI, 64, .inl pk)), (aPl, .inl (cyI, 64, .inl pl)), (aPd, .inl (cyI, 64, .inl pd))] → va_S A s.heap H locs → lv_has ls 6 [(0, .ref aX), (3, .long v3), (5, .int v5)] → W p l e ({ frames := 1, cells := 0, slots := 0, locals := 22 } : Room) s m args below meth c H locs 0 0 Q (F0 m 15 ls []) := by
  obtain ⟨hx, hb, hml, hown, hts⟩ := id C0
  intro n15
  induction n15 with
  | zero => intro _ _ h; exact h.elim
  | succ n15 ih15 =>
    intro v3 v5 h H locs ls hP hD hS hl
    rw [wpX9_mixPlan_15] at h
    refine lv_iload hx hb dX9_mixPlan_15 (lv_at hl 2 rfl) ?_
    refine lv_aload_n hx hb dX9_mixPlan_17 rfl (lv_at hl 0 rfl) ?_
    refine va_get (D := (dC, dI)) (ci := 8) (v := .ref aP) (C := RX9) (T := TX9) (N := 8) hx hb hts inX9_mixPlan_wsX90 hown hK hP 0 rfl rfl 5 (by decide) (hts _ qX9_mixPlan_0) (fun _ h9 => h9) rfl dX9_mixPlan_18 ?_
    refine va_get (D := (dC, dI)) (ci := 3) (v := .int pn) (C := RX4) (T := TX4) (N := 6) hx hb hts inX9_mixPlan_wsX40 hown hK hP 1 rfl rfl 4 (by decide) (hts _ qX9_mixPlan_1) (fun _ h9 => h9) rfl dX9_mixPlan_21 ?_
    refine lv_icmp_ge (tgt := 78) hx hb dX9_mixPlan_24 (by decide) (fun c_2 => ?_) (fun c_2 => ?_)
    · replace h := h.1 c_2
      exact hK78 _ h _ _ _ hP hD hS (lv_sub hl [1] rfl)
    · replace h := h.2 c_2
      refine lv_lload_n hx hb dX9_mixPlan_27 rfl (lv_at hl 1 rfl) ?_
      refine lv_aload_n hx hb dX9_mixPlan_28 rfl (lv_at hl 0 rfl) ?_
      refine va_get (D := (dC, dI)) (ci := 8) (v := .ref aP) (C := RX9) (T := TX9) (N := 8) hx hb hts inX9_mixPlan_wsX90 hown hK hP 0 rfl rfl 5 (by decide) (hts _ qX9_mixPlan_0) (fun _ h9 => h9) rfl dX9_mixPlan_29 ?_
      refine va_get (D := (dC, dI)) (ci := 3) (v := .ref aPk) (C := RX4) (T := TX4) (N := 6) hx hb hts inX9_mixPlan_wsX40 hown hK hP 1 rfl rfl 0 (by decide) (hts _ qX9_mixPlan_2) (fun _ h9 => h9) rfl dX9_mixPlan_32 ?_
      refine lv_iload hx hb dX9_mixPlan_35 (lv_at hl 2 rfl) ?_
      obtain ⟨hi_3, h⟩ := h
      refine va_iald hx hb hK hP 2 0 rfl rfl hi_3 dX9_mixPlan_37 ?_
      refine wk_calll (wc := []) (wr := [(aX, .inr (8, [.ref aT, .ref aS, .ref aF, .ref aQ, .ref aW, .ref aP, .ref aB, .ref aR])), (aP, .inr (3, [.ref aPk, .ref aPl, .ref aPd, .ref aPs, .int pn, .int pch])), (aPk, .inl (cyI, 64, .inl pk)), (aPl, .inl (cyI, 64, .inl pl)), (aPd, .inl (cyI, 64, .inl pd))]) (va_runS (As := [.long v3, .int (pk v5.toNatClampNeg)]) (rest := []) C0 (mtX9_mix l dC dI cyI (sz := _) (v0 := v3) (v2 := pk v5.toNatClampNeg) h) (va_cwS 2 hts gX9_mixPlan_X9_mix rfl rfl rfl (by decide +kernel) ⟨(Nat.le_of_ble_eq_true rfl), (Nat.le_of_ble_eq_true rfl)⟩) (wk_preS (wc := []) hK hP hD [] rfl (by decide)) rfl rfl hl.1 rfl (lv_room (Nat.le_of_ble_eq_true rfl)) dX9_mixPlan_38 ⟨(Nat.le_of_ble_eq_true rfl), (Nat.le_of_ble_eq_true rfl)⟩) hP hD hS hA [] [0, 1, 2, 3, 4] rfl rfl (by decide) (by decide) (fun r_4 u9 H locs h hP hD hS => ?_)
      have hP : va_P (dC, dI) vwCl [(aX, .inr (8, [.ref aT, .ref aS, .ref aF, .ref aQ, .ref aW, .ref aP, .ref aB, .ref aR])), (aP, .inr (3, [.ref aPk, .ref aPl, .ref aPd, .ref aPs, .int pn, .int pch])), (aPk, .inl (cyI, 64, .inl pk)), (aPl, .inl (cyI, 64, .inl pl)), (aPd, .inl (cyI, 64, .inl pd))] H := hP
      have hD : va_D A [(aX, .inr (8, [.ref aT, .ref aS, .ref aF, .ref aQ, .ref aW, .ref aP, .ref aB, .ref aR])), (aP, .inr (3, [.ref aPk, .ref aPl, .ref aPd, .ref aPs, .int pn, .int pch])), (aPk, .inl (cyI, 64, .inl pk)), (aPl, .inl (cyI, 64, .inl pl)), (aPd, .inl (cyI, 64, .inl pd))] := hD
      refine lv_lstore_n (lv' := [(3, .long r_4), (0, .ref aX), (5, .int v5)]) hx hb dX9_mixPlan_41 rfl hl (by decide) rfl (fun ls hl => ?_)
      refine lv_lload_n hx hb dX9_mixPlan_42 rfl (lv_at hl 0 rfl) ?_
      refine lv_aload_n hx hb dX9_mixPlan_43 rfl (lv_at hl 1 rfl) ?_
      refine va_get (D := (dC, dI)) (ci := 8) (v := .ref aP) (C := RX9) (T := TX9) (N := 8) hx hb hts inX9_mixPlan_wsX90 hown hK hP 0 rfl rfl 5 (by decide) (hts _ qX9_mixPlan_0) (fun _ h9 => h9) rfl dX9_mixPlan_44 ?_
      refine va_get (D := (dC, dI)) (ci := 3) (v := .ref aPl) (C := RX4) (T := TX4) (N := 6) hx hb hts inX9_mixPlan_wsX40 hown hK hP 1 rfl rfl 1 (by decide) (hts _ qX9_mixPlan_3) (fun _ h9 => h9) rfl dX9_mixPlan_47 ?_
      refine lv_iload hx hb dX9_mixPlan_50 (lv_at hl 2 rfl) ?_
      refine va_iald hx hb hK hP 3 0 rfl rfl hi_3 dX9_mixPlan_52 ?_
      refine wk_calll (wc := []) (wr := [(aX, .inr (8, [.ref aT, .ref aS, .ref aF, .ref aQ, .ref aW, .ref aP, .ref aB, .ref aR])), (aP, .inr (3, [.ref aPk, .ref aPl, .ref aPd, .ref aPs, .int pn, .int pch])), (aPk, .inl (cyI, 64, .inl pk)), (aPl, .inl (cyI, 64, .inl pl)), (aPd, .inl (cyI, 64, .inl pd))]) (va_runS (As := [.long r_4, .int (pl v5.toNatClampNeg)]) (rest := []) C0 (mtX9_mix l dC dI cyI (sz := _) (v0 := r_4) (v2 := pl v5.toNatClampNeg) h) (va_cwS 2 hts gX9_mixPlan_X9_mix rfl rfl rfl (by decide +kernel) ⟨(Nat.le_of_ble_eq_true rfl), (Nat.le_of_ble_eq_true rfl)⟩) (wk_preS (wc := []) hK hP hD [] rfl (by decide)) rfl rfl hl.1 rfl (lv_room (Nat.le_of_ble_eq_true rfl)) dX9_mixPlan_53 ⟨(Nat.le_of_ble_eq_true rfl), (Nat.le_of_ble_eq_true rfl)⟩) hP hD hS hA [] [0, 1, 2, 3, 4] rfl rfl (by decide) (by decide) (fun r_5 u9 H locs h hP hD hS => ?_)
      have hP : va_P (dC, dI) vwCl [(aX, .inr (8, [.ref aT, .ref aS, .ref aF, .ref aQ, .ref aW, .ref aP, .ref aB, .ref aR])), (aP, .inr (3, [.ref aPk, .ref aPl, .ref aPd, .ref aPs, .int pn, .int pch])), (aPk, .inl (cyI, 64, .inl pk)), (aPl, .inl (cyI, 64, .inl pl)), (aPd, .inl (cyI, 64, .inl pd))] H := hP
      have hD : va_D A [(aX, .inr (8, [.ref aT, .ref aS, .ref aF, .ref aQ, .ref aW, .ref aP, .ref aB, .ref aR])), (aP, .inr (3, [.ref aPk, .ref aPl, .ref aPd, .ref aPs, .int pn, .int pch])), (aPk, .inl (cyI, 64, .inl pk)), (aPl, .inl (cyI, 64, .inl pl)), (aPd, .inl (cyI, 64, .inl pd))] := hD
      refine lv_lstore_n (lv' := [(3, .long r_5), (0, .ref aX), (5, .int v5)]) hx hb dX9_mixPlan_56 rfl hl (by decide) rfl (fun ls hl => ?_)
      refine lv_lload_n hx hb dX9_mixPlan_57 rfl (lv_at hl 0 rfl) ?_
      refine lv_aload_n hx hb dX9_mixPlan_58 rfl (lv_at hl 1 rfl) ?_
      refine va_get (D := (dC, dI)) (ci := 8) (v := .ref aP) (C := RX9) (T := TX9) (N := 8) hx hb hts inX9_mixPlan_wsX90 hown hK hP 0 rfl rfl 5 (by decide) (hts _ qX9_mixPlan_0) (fun _ h9 => h9) rfl dX9_mixPlan_59 ?_
      refine va_get (D := (dC, dI)) (ci := 3) (v := .ref aPd) (C := RX4) (T := TX4) (N := 6) hx hb hts inX9_mixPlan_wsX40 hown hK hP 1 rfl rfl 2 (by decide) (hts _ qX9_mixPlan_4) (fun _ h9 => h9) rfl dX9_mixPlan_62 ?_
      refine lv_iload hx hb dX9_mixPlan_65 (lv_at hl 2 rfl) ?_
      refine va_iald hx hb hK hP 4 0 rfl rfl hi_3 dX9_mixPlan_67 ?_
      refine wk_calll (wc := []) (wr := [(aX, .inr (8, [.ref aT, .ref aS, .ref aF, .ref aQ, .ref aW, .ref aP, .ref aB, .ref aR])), (aP, .inr (3, [.ref aPk, .ref aPl, .ref aPd, .ref aPs, .int pn, .int pch])), (aPk, .inl (cyI, 64, .inl pk)), (aPl, .inl (cyI, 64, .inl pl)), (aPd, .inl (cyI, 64, .inl pd))]) (va_runS (As := [.long r_5, .int (pd v5.toNatClampNeg)]) (rest := []) C0 (mtX9_mix l dC dI cyI (sz := _) (v0 := r_5) (v2 := pd v5.toNatClampNeg) h) (va_cwS 2 hts gX9_mixPlan_X9_mix rfl rfl rfl (by decide +kernel) ⟨(Nat.le_of_ble_eq_true rfl), (Nat.le_of_ble_eq_true rfl)⟩) (wk_preS (wc := []) hK hP hD [] rfl (by decide)) rfl rfl hl.1 rfl (lv_room (Nat.le_of_ble_eq_true rfl)) dX9_mixPlan_68 ⟨(Nat.le_of_ble_eq_true rfl), (Nat.le_of_ble_eq_true rfl)⟩) hP hD hS hA [] [0, 1, 2, 3, 4] rfl rfl (by decide) (by decide) (fun r_6 u9 H locs h hP hD hS => ?_)
      have hP : va_P (dC, dI) vwCl [(aX, .inr (8, [.ref aT, .ref aS, .ref aF, .ref aQ, .ref aW, .ref aP, .ref aB, .ref aR])), (aP, .inr (3, [.ref aPk, .ref aPl, .ref aPd, .ref aPs, .int pn, .int pch])), (aPk, .inl (cyI, 64, .inl pk)), (aPl, .inl (cyI, 64, .inl pl)), (aPd, .inl (cyI, 64, .inl pd))] H := hP
      have hD : va_D A [(aX, .inr (8, [.ref aT, .ref aS, .ref aF, .ref aQ, .ref aW, .ref aP, .ref aB, .ref aR])), (aP, .inr (3, [.ref aPk, .ref aPl, .ref aPd, .ref aPs, .int pn, .int pch])), (aPk, .inl (cyI, 64, .inl pk)), (aPl, .inl (cyI, 64, .inl pl)), (aPd, .inl (cyI, 64, .inl pd))] := hD
      refine lv_lstore_n (lv' := [(3, .long r_6), (0, .ref aX), (5, .int v5)]) hx hb dX9_mixPlan_71 rfl hl (by decide) rfl (fun ls hl => ?_)
      refine lv_iinc (v := v5 + 1) (lv' := [(5, .int (v5 + 1)), (3, .long r_6), (0, .ref aX)]) hx hb dX9_mixPlan_72 hl (k := 2) rfl rfl (by decide) rfl (fun ls hl => ?_)
      refine lv_goto (tgt := 15) hx hb dX9_mixPlan_75 (by decide) ?_
      exact ih15 _ _ h _ _ _ hP hD hS (lv_sub hl [2, 1, 0] rfl)
def wpX9_mixPlan (pn : Int32) (pk : Nat → Int32) (pl : Nat → Int32) (pd : Nat → Int32) (v1 : Int64) (post : Int64 → Prop) : Prop := wpX9_mix v1 pn (fun (r_1 : Int64) => ∃ n15 : Nat, wpX9_mixPlan_15 pn pk pl pd (fun (v3_7 : Int64) => post v3_7) n15 r_1 0)
set_option maxHeartbeats 4000000 in
set_option maxRecDepth 100000 in
theorem mtX9_mixPlan (l : Launch) (dC : Nat → ClassId) (dI : Nat → Nat → Nat) (cyI : ClassId) {aX aT aS aF aQ aW aP aPk aPl aPd aPs aB aR : Nat} {sz : Nat} {pn : Int32} {pch : Int32} {pk : Nat → Int32} {pl : Nat → Int32} {pd : Nat → Int32} {v1 : Int64} {post : Int64 → Prop} (h : wpX9_mixPlan pn pk pl pd v1 post) : Met l yX9_mixPlan wsX9_mixPlan ({ frames := 1, cells := 0, slots := 0, locals := 22 }) (va_Pc [.ref aX, .long v1] (wk_B (dC, dI) [(cyI, .int)] [(aX, .inr (8, [.ref aT, .ref aS, .ref aF, .ref aQ, .ref aW, .ref aP, .ref aB, .ref aR])), (aP, .inr (3, [.ref aPk, .ref aPl, .ref aPd, .ref aPs, .int pn, .int pch])), (aPk, .inl (cyI, 64, .inl pk)), (aPl, .inl (cyI, 64, .inl pl)), (aPd, .inl (cyI, 64, .inl pd))] sz)) (va_Ql (fun (r : Int64) (u : Unit) => post r ) (wk_C (dC, dI) [(cyI, .int)] (va_A [(aX, .inr (8, [.ref aT, .ref aS, .ref aF, .ref aQ, .ref aW, .ref aP, .ref aB, .ref aR])), (aP, .inr (3, [.ref aPk, .ref aPl, .ref aPd, .ref aPs, .int pn, .int pch])), (aPk, .inl (cyI, 64, .inl pk)), (aPl, .inl (cyI, 64, .inl pl)), (aPd, .inl (cyI, 64, .inl pd))] sz) (fun (u : Unit) => [(aX, .inr (8, [.ref aT, .ref aS, .ref aF, .ref aQ, .ref aW, .ref aP, .ref aB, .ref aR])), (aP, .inr (3, [.ref aPk, .ref aPl, .ref aPd, .ref aPs, .int pn, .int pch])), (aPk, .inl (cyI, 64, .inl pk)), (aPl, .inl (cyI, 64, .inl pl)), (aPd, .inl (cyI, 64, .inl pd))])) (va_A [(aX, .inr (8, [.ref aT, .ref aS, .ref aF, .ref aQ, .ref aW, .ref aP, .ref aB, .ref aR])), (aP, .inr (3, [.ref aPk, .ref aPl, .ref aPd, .ref aPs, .int pn, .int pch])), (aPk, .inl (cyI, 64, .inl pk)), (aPl, .inl (cyI, 64, .inl pl)), (aPd, .inl (cyI, 64, .inl pd))] sz)) 0 0 (va_A [(aX, .inr (8, [.ref aT, .ref aS, .ref aF, .ref aQ, .ref aW, .ref aP, .ref aB, .ref aR])), (aP, .inr (3, [.ref aPk, .ref aPl, .ref aPd, .ref aPs, .int pn, .int pch])), (aPk, .inl (cyI, 64, .inl pk)), (aPl, .inl (cyI, 64, .inl pl)), (aPd, .inl (cyI, 64, .inl pd))] sz) := by
  refine Met.ofW (cc := cX9_mixPlan) (maxL := 6) (ret := (some .long)) (by decide) rfl ?_
  intro p e s m args below meth c s₁ B hml hv
  obtain ⟨rfl, hsz, hP, hK, hD0⟩ := hv
  have hx := B.exec
  have hb := B.bytes
  have hr := B.returns
  have hts := atoms_spec (ws := wsX9_mixPlan) B.pre
  have hown : s.vm.findClass RX9 = some m.cls := findClass_of_methodNamed B.named
  have hlocks := B.notSynchronized
  subst hsz
  have hD := hD0.self (sz := s.heap.size)
  generalize hAe : va_A [(aX, .inr (8, [.ref aT, .ref aS, .ref aF, .ref aQ, .ref aW, .ref aP, .ref aB, .ref aR])), (aP, .inr (3, [.ref aPk, .ref aPl, .ref aPd, .ref aPs, .int pn, .int pch])), (aPk, .inl (cyI, 64, .inl pk)), (aPl, .inl (cyI, 64, .inl pl)), (aPd, .inl (cyI, 64, .inl pd))] s.heap.size = A at hD ⊢
  have hA : ∀ q : Nat, s.heap.size ≤ q → A q := fun q h => by rw [← hAe]; exact Or.inr h
  have hS : va_S A s.heap s.heap [] := va_S.rf
  have hP : va_P (dC, dI) vwCl [(aX, .inr (8, [.ref aT, .ref aS, .ref aF, .ref aQ, .ref aW, .ref aP, .ref aB, .ref aR])), (aP, .inr (3, [.ref aPk, .ref aPl, .ref aPd, .ref aPs, .int pn, .int pch])), (aPk, .inl (cyI, 64, .inl pk)), (aPl, .inl (cyI, 64, .inl pl)), (aPd, .inl (cyI, 64, .inl pd))] s.heap := hP
  have hl := lv_entry ([.ref aX, .long v1]) (n := 6) (Nat.le_of_ble_eq_true rfl)
  rw [lg_entry_eq]
  generalize (lg_sl ([.ref aX, .long v1]) ++ List.replicate (6 - (lg_sl ([.ref aX, .long v1])).length) Slot.unset).toArray = ls at hl ⊢
  have hl : lv_has ls 6 [(0, .ref aX), (1, .long v1)] := hl
  have C0 : CallFix p m c cX9_mixPlan 6 s ([.ref aX, .long v1] : List Value).toArray wsX9_mixPlan RX9 := ⟨hx, hb, hml, hown, hts⟩
  unfold wpX9_mixPlan at h
  refine lv_lload_n hx hb dX9_mixPlan_0 rfl (lv_at hl 1 rfl) ?_
  refine lv_aload_n hx hb dX9_mixPlan_1 rfl (lv_at hl 0 rfl) ?_
  refine va_get (D := (dC, dI)) (ci := 8) (v := .ref aP) (C := RX9) (T := TX9) (N := 8) hx hb hts inX9_mixPlan_wsX90 hown hK hP 0 rfl rfl 5 (by decide) (hts _ qX9_mixPlan_0) (fun _ h9 => h9) rfl dX9_mixPlan_2 ?_
  refine va_get (D := (dC, dI)) (ci := 3) (v := .int pn) (C := RX4) (T := TX4) (N := 6) hx hb hts inX9_mixPlan_wsX40 hown hK hP 1 rfl rfl 4 (by decide) (hts _ qX9_mixPlan_1) (fun _ h9 => h9) rfl dX9_mixPlan_5 ?_
  refine wk_calll (wc := []) (wr := [(aX, .inr (8, [.ref aT, .ref aS, .ref aF, .ref aQ, .ref aW, .ref aP, .ref aB, .ref aR])), (aP, .inr (3, [.ref aPk, .ref aPl, .ref aPd, .ref aPs, .int pn, .int pch])), (aPk, .inl (cyI, 64, .inl pk)), (aPl, .inl (cyI, 64, .inl pl)), (aPd, .inl (cyI, 64, .inl pd))]) (va_runS (As := [.long v1, .int pn]) (rest := []) C0 (mtX9_mix l dC dI cyI (sz := _) (v0 := v1) (v2 := pn) h) (va_cwS 2 hts gX9_mixPlan_X9_mix rfl rfl rfl (by decide +kernel) ⟨(Nat.le_of_ble_eq_true rfl), (Nat.le_of_ble_eq_true rfl)⟩) (wk_preS (wc := []) hK hP hD [] rfl (by decide)) rfl rfl hl.1 rfl (lv_room (Nat.le_of_ble_eq_true rfl)) dX9_mixPlan_8 ⟨(Nat.le_of_ble_eq_true rfl), (Nat.le_of_ble_eq_true rfl)⟩) hP hD hS hA [] [0, 1, 2, 3, 4] rfl rfl (by decide) (by decide) (fun r_1 u9 H locs h hP hD hS => ?_)
  have hP : va_P (dC, dI) vwCl [(aX, .inr (8, [.ref aT, .ref aS, .ref aF, .ref aQ, .ref aW, .ref aP, .ref aB, .ref aR])), (aP, .inr (3, [.ref aPk, .ref aPl, .ref aPd, .ref aPs, .int pn, .int pch])), (aPk, .inl (cyI, 64, .inl pk)), (aPl, .inl (cyI, 64, .inl pl)), (aPd, .inl (cyI, 64, .inl pd))] H := hP
  have hD : va_D A [(aX, .inr (8, [.ref aT, .ref aS, .ref aF, .ref aQ, .ref aW, .ref aP, .ref aB, .ref aR])), (aP, .inr (3, [.ref aPk, .ref aPl, .ref aPd, .ref aPs, .int pn, .int pch])), (aPk, .inl (cyI, 64, .inl pk)), (aPl, .inl (cyI, 64, .inl pl)), (aPd, .inl (cyI, 64, .inl pd))] := hD
  refine lv_lstore_n (lv' := [(3, .long r_1), (0, .ref aX), (1, .long v1)]) hx hb dX9_mixPlan_11 rfl hl (by decide) rfl (fun ls hl => ?_)
  refine lv_iconst (v := 0) hx hb dX9_mixPlan_12 (by decide) ?_
  refine lv_istore (lv' := [(5, .int 0), (3, .long r_1), (0, .ref aX), (1, .long v1)]) hx hb dX9_mixPlan_13 hl (by decide) rfl (fun ls hl => ?_)
  obtain ⟨n15, h⟩ := h
  refine wlX9_mixPlan_15 C0 hA hK ?_ n15 _ _ h _ _ _ hP hD hS (lv_sub hl [2, 1, 0] rfl)
  · intro v3_7 h H locs ls hP hD hS hl
    refine lv_lload_n hx hb dX9_mixPlan_78 rfl (lv_at hl 0 rfl) ?_
    have hP9 : va_P (dC, dI) vwCl [(aX, .inr (8, [.ref aT, .ref aS, .ref aF, .ref aQ, .ref aW, .ref aP, .ref aB, .ref aR])), (aP, .inr (3, [.ref aPk, .ref aPl, .ref aPd, .ref aPs, .int pn, .int pch])), (aPk, .inl (cyI, 64, .inl pk)), (aPl, .inl (cyI, 64, .inl pl)), (aPd, .inl (cyI, 64, .inl pd))] _ := hP
    have hD9 : va_D A [(aX, .inr (8, [.ref aT, .ref aS, .ref aF, .ref aQ, .ref aW, .ref aP, .ref aB, .ref aR])), (aP, .inr (3, [.ref aPk, .ref aPl, .ref aPd, .ref aPs, .int pn, .int pch])), (aPk, .inl (cyI, 64, .inl pk)), (aPl, .inl (cyI, 64, .inl pl)), (aPd, .inl (cyI, 64, .inl pd))] := hD
    exact W.lret (v := v3_7) hx hb hr (fun t ht hW => ⟨⟨v3_7, (), rfl, h, by rw [ht]; exact hP9, va_K.moved hW.alike hK, hD9⟩, hS.F ht⟩) hS.2.2 dX9_mixPlan_79
-- X9_costOfPlan
theorem qX9_costOfPlan_0 : Cond.fieldLink RX9 51 "MatchCoder" "plan" "LMatchCoder$Plan;" ∈ wsX9_costOfPlan := (List.mem_cons_of_mem _ (List.mem_append_left _ (List.mem_append_left _ (List.mem_append_left _ (List.mem_append_left _ (List.mem_of_getElem? (i := 0) rfl))))))
theorem qX9_costOfPlan_1 : Cond.fieldLink RX9 19 "MatchCoder" "settings" "LMatchCoder$Settings;" ∈ wsX9_costOfPlan := (List.mem_cons_of_mem _ (List.mem_append_left _ (List.mem_append_left _ (List.mem_append_left _ (List.mem_append_left _ (List.mem_of_getElem? (i := 1) rfl))))))
theorem qX9_costOfPlan_2 : Cond.fieldLink RX9 133 "MatchCoder$Settings" "price" "I" ∈ wsX9_costOfPlan := (List.mem_cons_of_mem _ (List.mem_append_left _ (List.mem_append_left _ (List.mem_append_left _ (List.mem_append_left _ (List.mem_of_getElem? (i := 2) rfl))))))
theorem qX9_costOfPlan_3 : Cond.fieldLink RX9 176 "MatchCoder$Plan" "count" "I" ∈ wsX9_costOfPlan := (List.mem_cons_of_mem _ (List.mem_append_left _ (List.mem_append_left _ (List.mem_append_left _ (List.mem_append_left _ (List.mem_of_getElem? (i := 3) rfl))))))
theorem inX9_costOfPlan_wsX90 : ∀ w ∈ wsX90, w ∈ wsX9_costOfPlan := fun _ h => List.mem_cons_of_mem _ (List.mem_append_left _ (List.mem_append_left _ (List.mem_append_right _ h)))
theorem inX9_costOfPlan_wsX70 : ∀ w ∈ wsX70, w ∈ wsX9_costOfPlan := fun _ h => List.mem_cons_of_mem _ (List.mem_append_left _ (List.mem_append_right _ h))
theorem inX9_costOfPlan_wsX40 : ∀ w ∈ wsX40, w ∈ wsX9_costOfPlan := fun _ h => List.mem_cons_of_mem _ (List.mem_append_right _ h)
def wpX9_costOfPlan (sp : Int32) (pn : Int32) (pk : Nat → Int32) (pl : Nat → Int32) (pd : Nat → Int32) (post : Int32 → Prop) : Prop := wpX4_bitsOfAll pn pk pl pd (fun (r_1 : Int32) => post (r_1 + (sp * pn)))
set_option maxHeartbeats 4000000 in
set_option maxRecDepth 100000 in
theorem mtX9_costOfPlan (l : Launch) (dC : Nat → ClassId) (dI : Nat → Nat → Nat) (cyI : ClassId) {aX aT aS aF aQ aW aP aPk aPl aPd aPs aB aR : Nat} {sz : Nat} {sw : Int32} {sl : Int32} {sg : Int32} {sp : Int32} {pn : Int32} {pch : Int32} {pk : Nat → Int32} {pl : Nat → Int32} {pd : Nat → Int32} {post : Int32 → Prop} (h : wpX9_costOfPlan sp pn pk pl pd post) : Met l yX9_costOfPlan wsX9_costOfPlan ({ frames := 4, cells := 0, slots := 0, locals := 84 }) (va_Pc [.ref aX] (wk_B (dC, dI) [(cyI, .int)] [(aX, .inr (8, [.ref aT, .ref aS, .ref aF, .ref aQ, .ref aW, .ref aP, .ref aB, .ref aR])), (aS, .inr (6, [.int sw, .int sl, .int sg, .int sp])), (aP, .inr (3, [.ref aPk, .ref aPl, .ref aPd, .ref aPs, .int pn, .int pch])), (aPk, .inl (cyI, 64, .inl pk)), (aPl, .inl (cyI, 64, .inl pl)), (aPd, .inl (cyI, 64, .inl pd))] sz)) (va_Qi (fun (r : Int32) (u : Unit) => post r ) (wk_C (dC, dI) [(cyI, .int)] (va_A [(aX, .inr (8, [.ref aT, .ref aS, .ref aF, .ref aQ, .ref aW, .ref aP, .ref aB, .ref aR])), (aS, .inr (6, [.int sw, .int sl, .int sg, .int sp])), (aP, .inr (3, [.ref aPk, .ref aPl, .ref aPd, .ref aPs, .int pn, .int pch])), (aPk, .inl (cyI, 64, .inl pk)), (aPl, .inl (cyI, 64, .inl pl)), (aPd, .inl (cyI, 64, .inl pd))] sz) (fun (u : Unit) => [(aX, .inr (8, [.ref aT, .ref aS, .ref aF, .ref aQ, .ref aW, .ref aP, .ref aB, .ref aR])), (aS, .inr (6, [.int sw, .int sl, .int sg, .int sp])), (aP, .inr (3, [.ref aPk, .ref aPl, .ref aPd, .ref aPs, .int pn, .int pch])), (aPk, .inl (cyI, 64, .inl pk)), (aPl, .inl (cyI, 64, .inl pl)), (aPd, .inl (cyI, 64, .inl pd))])) (va_A [(aX, .inr (8, [.ref aT, .ref aS, .ref aF, .ref aQ, .ref aW, .ref aP, .ref aB, .ref aR])), (aS, .inr (6, [.int sw, .int sl, .int sg, .int sp])), (aP, .inr (3, [.ref aPk, .ref aPl, .ref aPd, .ref aPs, .int pn, .int pch])), (aPk, .inl (cyI, 64, .inl pk)), (aPl, .inl (cyI, 64, .inl pl)), (aPd, .inl (cyI, 64, .inl pd))] sz)) 0 0 (va_A [(aX, .inr (8, [.ref aT, .ref aS, .ref aF, .ref aQ, .ref aW, .ref aP, .ref aB, .ref aR])), (aS, .inr (6, [.int sw, .int sl, .int sg, .int sp])), (aP, .inr (3, [.ref aPk, .ref aPl, .ref aPd, .ref aPs, .int pn, .int pch])), (aPk, .inl (cyI, 64, .inl pk)), (aPl, .inl (cyI, 64, .inl pl)), (aPd, .inl (cyI, 64, .inl pd))] sz) := by
  refine Met.ofW (cc := cX9_costOfPlan) (maxL := 1) (ret := (some .int)) (by decide) rfl ?_
  intro p e s m args below meth c s₁ B hml hv
  obtain ⟨rfl, hsz, hP, hK, hD0⟩ := hv
  have hx := B.exec
  have hb := B.bytes
  have hr := B.returns
  have hts := atoms_spec (ws := wsX9_costOfPlan) B.pre
  have hown : s.vm.findClass RX9 = some m.cls := findClass_of_methodNamed B.named
  have hlocks := B.notSynchronized
  subst hsz
  have hD := hD0.self (sz := s.heap.size)
  generalize hAe : va_A [(aX, .inr (8, [.ref aT, .ref aS, .ref aF, .ref aQ, .ref aW, .ref aP, .ref aB, .ref aR])), (aS, .inr (6, [.int sw, .int sl, .int sg, .int sp])), (aP, .inr (3, [.ref aPk, .ref aPl, .ref aPd, .ref aPs, .int pn, .int pch])), (aPk, .inl (cyI, 64, .inl pk)), (aPl, .inl (cyI, 64, .inl pl)), (aPd, .inl (cyI, 64, .inl pd))] s.heap.size = A at hD ⊢
  have hA : ∀ q : Nat, s.heap.size ≤ q → A q := fun q h => by rw [← hAe]; exact Or.inr h
  have hS : va_S A s.heap s.heap [] := va_S.rf
  have hP : va_P (dC, dI) vwCl [(aX, .inr (8, [.ref aT, .ref aS, .ref aF, .ref aQ, .ref aW, .ref aP, .ref aB, .ref aR])), (aS, .inr (6, [.int sw, .int sl, .int sg, .int sp])), (aP, .inr (3, [.ref aPk, .ref aPl, .ref aPd, .ref aPs, .int pn, .int pch])), (aPk, .inl (cyI, 64, .inl pk)), (aPl, .inl (cyI, 64, .inl pl)), (aPd, .inl (cyI, 64, .inl pd))] s.heap := hP
  have hl := lv_entry ([.ref aX]) (n := 1) (Nat.le_of_ble_eq_true rfl)
  rw [lg_entry_eq]
  generalize (lg_sl ([.ref aX]) ++ List.replicate (1 - (lg_sl ([.ref aX])).length) Slot.unset).toArray = ls at hl ⊢
  have hl : lv_has ls 1 [(0, .ref aX)] := hl
  have C0 : CallFix p m c cX9_costOfPlan 1 s ([.ref aX] : List Value).toArray wsX9_costOfPlan RX9 := ⟨hx, hb, hml, hown, hts⟩
  unfold wpX9_costOfPlan at h
  refine lv_aload_n hx hb dX9_costOfPlan_0 rfl (lv_at hl 0 rfl) ?_
  refine va_get (D := (dC, dI)) (ci := 8) (v := .ref aP) (C := RX9) (T := TX9) (N := 8) hx hb hts inX9_costOfPlan_wsX90 hown hK hP 0 rfl rfl 5 (by decide) (hts _ qX9_costOfPlan_0) (fun _ h9 => h9) rfl dX9_costOfPlan_1 ?_
  refine wk_calli (wc := [(aP, .inr (3, [.ref aPk, .ref aPl, .ref aPd, .ref aPs, .int pn, .int pch])), (aPk, .inl (cyI, 64, .inl pk)), (aPl, .inl (cyI, 64, .inl pl)), (aPd, .inl (cyI, 64, .inl pd))]) (wr := [(aX, .inr (8, [.ref aT, .ref aS, .ref aF, .ref aQ, .ref aW, .ref aP, .ref aB, .ref aR])), (aS, .inr (6, [.int sw, .int sl, .int sg, .int sp]))]) (va_runV (As := []) (rest := []) C0 (mtX4_bitsOfAll l dC dI cyI (aP := aP) (aPk := aPk) (aPl := aPl) (aPd := aPd) (aPs := aPs) (sz := _) (pn := pn) (pch := pch) (pk := pk) (pl := pl) (pd := pd) h) (cwV 0 hts gX9_costOfPlan_X4_bitsOfAll rfl rfl rfl (by decide +kernel) ⟨(Nat.le_of_ble_eq_true rfl), (Nat.le_of_ble_eq_true rfl)⟩) (wk_preV (wc := [(aP, .inr (3, [.ref aPk, .ref aPl, .ref aPd, .ref aPs, .int pn, .int pch])), (aPk, .inl (cyI, 64, .inl pk)), (aPl, .inl (cyI, 64, .inl pl)), (aPd, .inl (cyI, 64, .inl pd))]) hK hP hD [2, 3, 4, 5] rfl (by decide) (va_recv hK hP (ci := 3) (q0 := 2) rfl rfl)) rfl rfl hl.1 rfl (lv_room (Nat.le_of_ble_eq_true rfl)) dX9_costOfPlan_4 ⟨(Nat.le_of_ble_eq_true rfl), (Nat.le_of_ble_eq_true rfl)⟩) hP hD hS hA [2, 3, 4, 5] [0, 1] rfl rfl (by decide) (by decide) (fun r_1 u9 H locs h hP hD hS => ?_)
  have hP : va_P (dC, dI) vwCl [(aX, .inr (8, [.ref aT, .ref aS, .ref aF, .ref aQ, .ref aW, .ref aP, .ref aB, .ref aR])), (aS, .inr (6, [.int sw, .int sl, .int sg, .int sp])), (aP, .inr (3, [.ref aPk, .ref aPl, .ref aPd, .ref aPs, .int pn, .int pch])), (aPk, .inl (cyI, 64, .inl pk)), (aPl, .inl (cyI, 64, .inl pl)), (aPd, .inl (cyI, 64, .inl pd))] H := hP
  have hD : va_D A [(aX, .inr (8, [.ref aT, .ref aS, .ref aF, .ref aQ, .ref aW, .ref aP, .ref aB, .ref aR])), (aS, .inr (6, [.int sw, .int sl, .int sg, .int sp])), (aP, .inr (3, [.ref aPk, .ref aPl, .ref aPd, .ref aPs, .int pn, .int pch])), (aPk, .inl (cyI, 64, .inl pk)), (aPl, .inl (cyI, 64, .inl pl)), (aPd, .inl (cyI, 64, .inl pd))] := hD
  refine lv_aload_n hx hb dX9_costOfPlan_7 rfl (lv_at hl 0 rfl) ?_
  refine va_get (D := (dC, dI)) (ci := 8) (v := .ref aS) (C := RX9) (T := TX9) (N := 8) hx hb hts inX9_costOfPlan_wsX90 hown hK hP 0 rfl rfl 1 (by decide) (hts _ qX9_costOfPlan_1) (fun _ h9 => h9) rfl dX9_costOfPlan_8 ?_
  refine va_get (D := (dC, dI)) (ci := 6) (v := .int sp) (C := RX7) (T := TX7) (N := 4) hx hb hts inX9_costOfPlan_wsX70 hown hK hP 1 rfl rfl 3 (by decide) (hts _ qX9_costOfPlan_2) (fun _ h9 => h9) rfl dX9_costOfPlan_11 ?_
  refine lv_aload_n hx hb dX9_costOfPlan_14 rfl (lv_at hl 0 rfl) ?_
  refine va_get (D := (dC, dI)) (ci := 8) (v := .ref aP) (C := RX9) (T := TX9) (N := 8) hx hb hts inX9_costOfPlan_wsX90 hown hK hP 0 rfl rfl 5 (by decide) (hts _ qX9_costOfPlan_0) (fun _ h9 => h9) rfl dX9_costOfPlan_15 ?_
  refine va_get (D := (dC, dI)) (ci := 3) (v := .int pn) (C := RX4) (T := TX4) (N := 6) hx hb hts inX9_costOfPlan_wsX40 hown hK hP 2 rfl rfl 4 (by decide) (hts _ qX9_costOfPlan_3) (fun _ h9 => h9) rfl dX9_costOfPlan_18 ?_
  refine lv_imul hx hb dX9_costOfPlan_21 ?_
  refine lv_iadd hx hb dX9_costOfPlan_22 ?_
  have hP9 : va_P (dC, dI) vwCl [(aX, .inr (8, [.ref aT, .ref aS, .ref aF, .ref aQ, .ref aW, .ref aP, .ref aB, .ref aR])), (aS, .inr (6, [.int sw, .int sl, .int sg, .int sp])), (aP, .inr (3, [.ref aPk, .ref aPl, .ref aPd, .ref aPs, .int pn, .int pch])), (aPk, .inl (cyI, 64, .inl pk)), (aPl, .inl (cyI, 64, .inl pl)), (aPd, .inl (cyI, 64, .inl pd))] _ := hP
  have hD9 : va_D A [(aX, .inr (8, [.ref aT, .ref aS, .ref aF, .ref aQ, .ref aW, .ref aP, .ref aB, .ref aR])), (aS, .inr (6, [.int sw, .int sl, .int sg, .int sp])), (aP, .inr (3, [.ref aPk, .ref aPl, .ref aPd, .ref aPs, .int pn, .int pch])), (aPk, .inl (cyI, 64, .inl pk)), (aPl, .inl (cyI, 64, .inl pl)), (aPd, .inl (cyI, 64, .inl pd))] := hD
  exact W.iret (v := r_1 + (sp * pn)) hx hb hr (fun t ht hW => ⟨⟨r_1 + (sp * pn), (), rfl, h, by rw [ht]; exact hP9, va_K.moved hW.alike hK, hD9⟩, hS.F ht⟩) hS.2.2 dX9_costOfPlan_23
-- X9_writeToken
theorem qX9_writeToken_0 : Cond.fieldLink RX9 51 "MatchCoder" "plan" "LMatchCoder$Plan;" ∈ wsX9_writeToken := (List.mem_cons_of_mem _ (List.mem_append_left _ (List.mem_append_left _ (List.mem_append_left _ (List.mem_append_left _ (List.mem_of_getElem? (i := 0) rfl))))))
theorem qX9_writeToken_1 : Cond.fieldLink RX9 180 "MatchCoder$Plan" "kinds" "[I" ∈ wsX9_writeToken := (List.mem_cons_of_mem _ (List.mem_append_left _ (List.mem_append_left _ (List.mem_append_left _ (List.mem_append_left _ (List.mem_of_getElem? (i := 1) rfl))))))
theorem qX9_writeToken_2 : Cond.fieldLink RX9 58 "MatchCoder" "bits" "LMatchCoder$Bits;" ∈ wsX9_writeToken := (List.mem_cons_of_mem _ (List.mem_append_left _ (List.mem_append_left _ (List.mem_append_left _ (List.mem_append_left _ (List.mem_of_getElem? (i := 2) rfl))))))
theorem qX9_writeToken_3 : Cond.fieldLink RX9 183 "MatchCoder$Plan" "lengths" "[I" ∈ wsX9_writeToken := (List.mem_cons_of_mem _ (List.mem_append_left _ (List.mem_append_left _ (List.mem_append_left _ (List.mem_append_left _ (List.mem_of_getElem? (i := 7) rfl))))))
theorem qX9_writeToken_4 : Cond.fieldLink RX9 186 "MatchCoder$Plan" "distances" "[I" ∈ wsX9_writeToken := (List.mem_cons_of_mem _ (List.mem_append_left _ (List.mem_append_left _ (List.mem_append_left _ (List.mem_append_left _ (List.mem_of_getElem? (i := 6) rfl))))))
theorem qX9_writeToken_5 : Cond.fieldLink RX9 10 "MatchCoder" "text" "LMatchCoder$Text;" ∈ wsX9_writeToken := (List.mem_cons_of_mem _ (List.mem_append_left _ (List.mem_append_left _ (List.mem_append_left _ (List.mem_append_left _ (List.mem_of_getElem? (i := 3) rfl))))))
theorem qX9_writeToken_6 : Cond.fieldLink RX9 112 "MatchCoder$Text" "bytes" "[I" ∈ wsX9_writeToken := (List.mem_cons_of_mem _ (List.mem_append_left _ (List.mem_append_left _ (List.mem_append_left _ (List.mem_append_left _ (List.mem_of_getElem? (i := 4) rfl))))))
theorem qX9_writeToken_7 : Cond.fieldLink RX9 189 "MatchCoder$Plan" "starts" "[I" ∈ wsX9_writeToken := (List.mem_cons_of_mem _ (List.mem_append_left _ (List.mem_append_left _ (List.mem_append_left _ (List.mem_append_left _ (List.mem_of_getElem? (i := 5) rfl))))))
theorem inX9_writeToken_wsX90 : ∀ w ∈ wsX90, w ∈ wsX9_writeToken := fun _ h => List.mem_cons_of_mem _ (List.mem_append_left _ (List.mem_append_left _ (List.mem_append_left _ (List.mem_append_right _ h))))
theorem inX9_writeToken_wsX40 : ∀ w ∈ wsX40, w ∈ wsX9_writeToken := fun _ h => List.mem_cons_of_mem _ (List.mem_append_left _ (List.mem_append_left _ (List.mem_append_right _ h)))
theorem inX9_writeToken_wsX80 : ∀ w ∈ wsX80, w ∈ wsX9_writeToken := fun _ h => List.mem_cons_of_mem _ (List.mem_append_left _ (List.mem_append_right _ h))
def wpX9_writeToken (tb : Nat → Int32) (pk : Nat → Int32) (pl : Nat → Int32) (pd : Nat → Int32) (ps : Nat → Int32) (bn : Int32) (br : Nat → Int32) (v1 : Int32) (post : Int32 → (Nat → Int32) → Prop) : Prop := vp_in v1 64 ∧ (((pk v1.toNatClampNeg) = 0 → (wpX1_pushLow bn br 0 1 (fun (bn_14 : Int32) (br_15 : Nat → Int32) => vp_in (ps v1.toNatClampNeg) 64 ∧ (wpX1_pushLow bn_14 br_15 (tb (ps v1.toNatClampNeg).toNatClampNeg) 8 (fun (bn_17 : Int32) (br_18 : Nat → Int32) => post bn_17 br_18))))) ∧ (¬ (pk v1.toNatClampNeg) = 0 → (((pk v1.toNatClampNeg) = 1 → (wpX1_pushLow bn br 2 2 (fun (bn_8 : Int32) (br_9 : Nat → Int32) => wpX1_pushNumber bn_8 br_9 (pd v1.toNatClampNeg) (fun (bn_10 : Int32) (br_11 : Nat → Int32) => wpX1_pushNumber bn_10 br_11 ((pl v1.toNatClampNeg) - 1) (fun (bn_12 : Int32) (br_13 : Nat → Int32) => post bn_12 br_13))))) ∧ (¬ (pk v1.toNatClampNeg) = 1 → (wpX1_pushLow bn br 3 2 (fun (bn_4 : Int32) (br_5 : Nat → Int32) => wpX1_pushNumber bn_4 br_5 (pl v1.toNatClampNeg) (fun (bn_6 : Int32) (br_7 : Nat → Int32) => post bn_6 br_7)))))))
set_option maxHeartbeats 4000000 in
set_option maxRecDepth 100000 in
theorem mtX9_writeToken (l : Launch) (dC : Nat → ClassId) (dI : Nat → Nat → Nat) (cyI : ClassId) {aX aT aTb aS aF aQ aW aP aPk aPl aPd aPs aB aBr aR : Nat} {sz : Nat} {tn : Int32} {tb : Nat → Int32} {pn : Int32} {pch : Int32} {pk : Nat → Int32} {pl : Nat → Int32} {pd : Nat → Int32} {ps : Nat → Int32} {bn : Int32} {br : Nat → Int32} {v1 : Int32} {post : Int32 → (Nat → Int32) → Prop} (h : wpX9_writeToken tb pk pl pd ps bn br v1 post) : Met l yX9_writeToken wsX9_writeToken ({ frames := 2, cells := 0, slots := 0, locals := 44 }) (va_Pc [.ref aX, .int v1] (wk_B (dC, dI) [(cyI, .int)] [(aX, .inr (8, [.ref aT, .ref aS, .ref aF, .ref aQ, .ref aW, .ref aP, .ref aB, .ref aR])), (aT, .inr (7, [.ref aTb, .int tn])), (aTb, .inl (cyI, 64, .inl tb)), (aP, .inr (3, [.ref aPk, .ref aPl, .ref aPd, .ref aPs, .int pn, .int pch])), (aPk, .inl (cyI, 64, .inl pk)), (aPl, .inl (cyI, 64, .inl pl)), (aPd, .inl (cyI, 64, .inl pd)), (aPs, .inl (cyI, 64, .inl ps)), (aB, .inr (1, [.ref aBr, .int bn])), (aBr, .inl (cyI, 800, .inl br))] sz)) (va_Qv (fun (u : Int32 × (Nat → Int32)) => post u.1 u.2) (wk_C (dC, dI) [(cyI, .int)] (va_A [(aX, .inr (8, [.ref aT, .ref aS, .ref aF, .ref aQ, .ref aW, .ref aP, .ref aB, .ref aR])), (aT, .inr (7, [.ref aTb, .int tn])), (aTb, .inl (cyI, 64, .inl tb)), (aP, .inr (3, [.ref aPk, .ref aPl, .ref aPd, .ref aPs, .int pn, .int pch])), (aPk, .inl (cyI, 64, .inl pk)), (aPl, .inl (cyI, 64, .inl pl)), (aPd, .inl (cyI, 64, .inl pd)), (aPs, .inl (cyI, 64, .inl ps)), (aB, .inr (1, [.ref aBr, .int bn])), (aBr, .inl (cyI, 800, .inl br))] sz) (fun (u : Int32 × (Nat → Int32)) => [(aX, .inr (8, [.ref aT, .ref aS, .ref aF, .ref aQ, .ref aW, .ref aP, .ref aB, .ref aR])), (aT, .inr (7, [.ref aTb, .int tn])), (aTb, .inl (cyI, 64, .inl tb)), (aP, .inr (3, [.ref aPk, .ref aPl, .ref aPd, .ref aPs, .int pn, .int pch])), (aPk, .inl (cyI, 64, .inl pk)), (aPl, .inl (cyI, 64, .inl pl)), (aPd, .inl (cyI, 64, .inl pd)), (aPs, .inl (cyI, 64, .inl ps)), (aB, .inr (1, [.ref aBr, .int (u.1)])), (aBr, .inl (cyI, 800, .inl (u.2)))])) (va_A [(aX, .inr (8, [.ref aT, .ref aS, .ref aF, .ref aQ, .ref aW, .ref aP, .ref aB, .ref aR])), (aT, .inr (7, [.ref aTb, .int tn])), (aTb, .inl (cyI, 64, .inl tb)), (aP, .inr (3, [.ref aPk, .ref aPl, .ref aPd, .ref aPs, .int pn, .int pch])), (aPk, .inl (cyI, 64, .inl pk)), (aPl, .inl (cyI, 64, .inl pl)), (aPd, .inl (cyI, 64, .inl pd)), (aPs, .inl (cyI, 64, .inl ps)), (aB, .inr (1, [.ref aBr, .int bn])), (aBr, .inl (cyI, 800, .inl br))] sz)) 0 0 (va_A [(aX, .inr (8, [.ref aT, .ref aS, .ref aF, .ref aQ, .ref aW, .ref aP, .ref aB, .ref aR])), (aT, .inr (7, [.ref aTb, .int tn])), (aTb, .inl (cyI, 64, .inl tb)), (aP, .inr (3, [.ref aPk, .ref aPl, .ref aPd, .ref aPs, .int pn, .int pch])), (aPk, .inl (cyI, 64, .inl pk)), (aPl, .inl (cyI, 64, .inl pl)), (aPd, .inl (cyI, 64, .inl pd)), (aPs, .inl (cyI, 64, .inl ps)), (aB, .inr (1, [.ref aBr, .int bn])), (aBr, .inl (cyI, 800, .inl br))] sz) := by
  refine Met.ofW (cc := cX9_writeToken) (maxL := 3) (ret := none) (by decide) rfl ?_
  intro p e s m args below meth c s₁ B hml hv
  obtain ⟨rfl, hsz, hP, hK, hD0⟩ := hv
  have hx := B.exec
  have hb := B.bytes
  have hr := B.returns
  have hts := atoms_spec (ws := wsX9_writeToken) B.pre
  have hown : s.vm.findClass RX9 = some m.cls := findClass_of_methodNamed B.named
  have hlocks := B.notSynchronized
  subst hsz
  have hD := hD0.self (sz := s.heap.size)
  generalize hAe : va_A [(aX, .inr (8, [.ref aT, .ref aS, .ref aF, .ref aQ, .ref aW, .ref aP, .ref aB, .ref aR])), (aT, .inr (7, [.ref aTb, .int tn])), (aTb, .inl (cyI, 64, .inl tb)), (aP, .inr (3, [.ref aPk, .ref aPl, .ref aPd, .ref aPs, .int pn, .int pch])), (aPk, .inl (cyI, 64, .inl pk)), (aPl, .inl (cyI, 64, .inl pl)), (aPd, .inl (cyI, 64, .inl pd)), (aPs, .inl (cyI, 64, .inl ps)), (aB, .inr (1, [.ref aBr, .int bn])), (aBr, .inl (cyI, 800, .inl br))] s.heap.size = A at hD ⊢
  have hA : ∀ q : Nat, s.heap.size ≤ q → A q := fun q h => by rw [← hAe]; exact Or.inr h
  have hS : va_S A s.heap s.heap [] := va_S.rf
  have hP : va_P (dC, dI) vwCl [(aX, .inr (8, [.ref aT, .ref aS, .ref aF, .ref aQ, .ref aW, .ref aP, .ref aB, .ref aR])), (aT, .inr (7, [.ref aTb, .int tn])), (aTb, .inl (cyI, 64, .inl tb)), (aP, .inr (3, [.ref aPk, .ref aPl, .ref aPd, .ref aPs, .int pn, .int pch])), (aPk, .inl (cyI, 64, .inl pk)), (aPl, .inl (cyI, 64, .inl pl)), (aPd, .inl (cyI, 64, .inl pd)), (aPs, .inl (cyI, 64, .inl ps)), (aB, .inr (1, [.ref aBr, .int bn])), (aBr, .inl (cyI, 800, .inl br))] s.heap := hP
  have hl := lv_entry ([.ref aX, .int v1]) (n := 3) (Nat.le_of_ble_eq_true rfl)
  rw [lg_entry_eq]
  generalize (lg_sl ([.ref aX, .int v1]) ++ List.replicate (3 - (lg_sl ([.ref aX, .int v1])).length) Slot.unset).toArray = ls at hl ⊢
  have hl : lv_has ls 3 [(0, .ref aX), (1, .int v1)] := hl
  have C0 : CallFix p m c cX9_writeToken 3 s ([.ref aX, .int v1] : List Value).toArray wsX9_writeToken RX9 := ⟨hx, hb, hml, hown, hts⟩
  unfold wpX9_writeToken at h
  refine lv_aload_n hx hb dX9_writeToken_0 rfl (lv_at hl 0 rfl) ?_
  refine va_get (D := (dC, dI)) (ci := 8) (v := .ref aP) (C := RX9) (T := TX9) (N := 8) hx hb hts inX9_writeToken_wsX90 hown hK hP 0 rfl rfl 5 (by decide) (hts _ qX9_writeToken_0) (fun _ h9 => h9) rfl dX9_writeToken_1 ?_
  refine va_get (D := (dC, dI)) (ci := 3) (v := .ref aPk) (C := RX4) (T := TX4) (N := 6) hx hb hts inX9_writeToken_wsX40 hown hK hP 3 rfl rfl 0 (by decide) (hts _ qX9_writeToken_1) (fun _ h9 => h9) rfl dX9_writeToken_4 ?_
  refine lv_iload_n hx hb dX9_writeToken_7 rfl (lv_at hl 1 rfl) ?_
  obtain ⟨hi_1, h⟩ := h
  refine va_iald hx hb hK hP 4 0 rfl rfl hi_1 dX9_writeToken_8 ?_
  refine lv_istore_n (lv' := [(2, .int (pk v1.toNatClampNeg)), (0, .ref aX), (1, .int v1)]) hx hb dX9_writeToken_9 rfl hl (by decide) rfl (fun ls hl => ?_)
  refine lv_iload_n hx hb dX9_writeToken_10 rfl (lv_at hl 0 rfl) ?_
  refine lv_if_ne (tgt := 52) hx hb dX9_writeToken_11 (by decide) (fun c_2 => ?_) (fun c_2 => ?_)
  · replace h := h.2 c_2
    refine lv_iload_n hx hb dX9_writeToken_52 rfl (lv_at hl 0 rfl) ?_
    refine lv_iconst (v := 1) hx hb dX9_writeToken_53 (by decide) ?_
    refine lv_icmp_ne (tgt := 103) hx hb dX9_writeToken_54 (by decide) (fun c_3 => ?_) (fun c_3 => ?_)
    · replace h := h.2 c_3
      refine lv_aload_n hx hb dX9_writeToken_103 rfl (lv_at hl 1 rfl) ?_
      refine va_get (D := (dC, dI)) (ci := 8) (v := .ref aB) (C := RX9) (T := TX9) (N := 8) hx hb hts inX9_writeToken_wsX90 hown hK hP 0 rfl rfl 6 (by decide) (hts _ qX9_writeToken_2) (fun _ h9 => h9) rfl dX9_writeToken_104 ?_
      refine lv_iconst (v := 3) hx hb dX9_writeToken_107 (by decide) ?_
      refine lv_iconst (v := 2) hx hb dX9_writeToken_108 (by decide) ?_
      refine wk_callv (wc := [(aB, .inr (1, [.ref aBr, .int bn])), (aBr, .inl (cyI, 800, .inl br))]) (wr := [(aX, .inr (8, [.ref aT, .ref aS, .ref aF, .ref aQ, .ref aW, .ref aP, .ref aB, .ref aR])), (aT, .inr (7, [.ref aTb, .int tn])), (aTb, .inl (cyI, 64, .inl tb)), (aP, .inr (3, [.ref aPk, .ref aPl, .ref aPd, .ref aPs, .int pn, .int pch])), (aPk, .inl (cyI, 64, .inl pk)), (aPl, .inl (cyI, 64, .inl pl)), (aPd, .inl (cyI, 64, .inl pd)), (aPs, .inl (cyI, 64, .inl ps))]) (va_runV (As := [.int 3, .int 2]) (rest := []) C0 (mtX1_pushLow l dC dI cyI (aB := aB) (aBr := aBr) (sz := _) (bn := bn) (br := br) (v1 := 3) (v2 := 2) h) (cwV 2 hts gX9_writeToken_X1_pushLow rfl rfl rfl (by decide +kernel) ⟨(Nat.le_of_ble_eq_true rfl), (Nat.le_of_ble_eq_true rfl)⟩) (wk_preV (wc := [(aB, .inr (1, [.ref aBr, .int bn])), (aBr, .inl (cyI, 800, .inl br))]) hK hP hD [8, 9] rfl (by decide) (va_recv hK hP (ci := 1) (q0 := 8) rfl rfl)) rfl rfl hl.1 rfl (lv_room (Nat.le_of_ble_eq_true rfl)) dX9_writeToken_109 ⟨(Nat.le_of_ble_eq_true rfl), (Nat.le_of_ble_eq_true rfl)⟩) hP hD hS hA [8, 9] [0, 1, 2, 3, 4, 5, 6, 7] rfl rfl (by decide) (by decide) (fun u9 H locs h hP hD hS => ?_)
      obtain ⟨bn_4, br_5⟩ := u9
      have hP : va_P (dC, dI) vwCl [(aX, .inr (8, [.ref aT, .ref aS, .ref aF, .ref aQ, .ref aW, .ref aP, .ref aB, .ref aR])), (aT, .inr (7, [.ref aTb, .int tn])), (aTb, .inl (cyI, 64, .inl tb)), (aP, .inr (3, [.ref aPk, .ref aPl, .ref aPd, .ref aPs, .int pn, .int pch])), (aPk, .inl (cyI, 64, .inl pk)), (aPl, .inl (cyI, 64, .inl pl)), (aPd, .inl (cyI, 64, .inl pd)), (aPs, .inl (cyI, 64, .inl ps)), (aB, .inr (1, [.ref aBr, .int bn_4])), (aBr, .inl (cyI, 800, .inl br_5))] H := hP
      have hD : va_D A [(aX, .inr (8, [.ref aT, .ref aS, .ref aF, .ref aQ, .ref aW, .ref aP, .ref aB, .ref aR])), (aT, .inr (7, [.ref aTb, .int tn])), (aTb, .inl (cyI, 64, .inl tb)), (aP, .inr (3, [.ref aPk, .ref aPl, .ref aPd, .ref aPs, .int pn, .int pch])), (aPk, .inl (cyI, 64, .inl pk)), (aPl, .inl (cyI, 64, .inl pl)), (aPd, .inl (cyI, 64, .inl pd)), (aPs, .inl (cyI, 64, .inl ps)), (aB, .inr (1, [.ref aBr, .int bn_4])), (aBr, .inl (cyI, 800, .inl br_5))] := hD
      dsimp only at h
      refine lv_aload_n hx hb dX9_writeToken_112 rfl (lv_at hl 1 rfl) ?_
      refine va_get (D := (dC, dI)) (ci := 8) (v := .ref aB) (C := RX9) (T := TX9) (N := 8) hx hb hts inX9_writeToken_wsX90 hown hK hP 0 rfl rfl 6 (by decide) (hts _ qX9_writeToken_2) (fun _ h9 => h9) rfl dX9_writeToken_113 ?_
      refine lv_aload_n hx hb dX9_writeToken_116 rfl (lv_at hl 1 rfl) ?_
      refine va_get (D := (dC, dI)) (ci := 8) (v := .ref aP) (C := RX9) (T := TX9) (N := 8) hx hb hts inX9_writeToken_wsX90 hown hK hP 0 rfl rfl 5 (by decide) (hts _ qX9_writeToken_0) (fun _ h9 => h9) rfl dX9_writeToken_117 ?_
      refine va_get (D := (dC, dI)) (ci := 3) (v := .ref aPl) (C := RX4) (T := TX4) (N := 6) hx hb hts inX9_writeToken_wsX40 hown hK hP 3 rfl rfl 1 (by decide) (hts _ qX9_writeToken_3) (fun _ h9 => h9) rfl dX9_writeToken_120 ?_
      refine lv_iload_n hx hb dX9_writeToken_123 rfl (lv_at hl 2 rfl) ?_
      refine va_iald hx hb hK hP 5 0 rfl rfl hi_1 dX9_writeToken_124 ?_
      refine wk_callv (wc := [(aB, .inr (1, [.ref aBr, .int bn_4])), (aBr, .inl (cyI, 800, .inl br_5))]) (wr := [(aX, .inr (8, [.ref aT, .ref aS, .ref aF, .ref aQ, .ref aW, .ref aP, .ref aB, .ref aR])), (aT, .inr (7, [.ref aTb, .int tn])), (aTb, .inl (cyI, 64, .inl tb)), (aP, .inr (3, [.ref aPk, .ref aPl, .ref aPd, .ref aPs, .int pn, .int pch])), (aPk, .inl (cyI, 64, .inl pk)), (aPl, .inl (cyI, 64, .inl pl)), (aPd, .inl (cyI, 64, .inl pd)), (aPs, .inl (cyI, 64, .inl ps))]) (va_runV (As := [.int (pl v1.toNatClampNeg)]) (rest := []) C0 (mtX1_pushNumber l dC dI cyI (aB := aB) (aBr := aBr) (sz := _) (bn := bn_4) (br := br_5) (v1 := pl v1.toNatClampNeg) h) (cwV 1 hts gX9_writeToken_X1_pushNumber rfl rfl rfl (by decide +kernel) ⟨(Nat.le_of_ble_eq_true rfl), (Nat.le_of_ble_eq_true rfl)⟩) (wk_preV (wc := [(aB, .inr (1, [.ref aBr, .int bn_4])), (aBr, .inl (cyI, 800, .inl br_5))]) hK hP hD [8, 9] rfl (by decide) (va_recv hK hP (ci := 1) (q0 := 8) rfl rfl)) rfl rfl hl.1 rfl (lv_room (Nat.le_of_ble_eq_true rfl)) dX9_writeToken_125 ⟨(Nat.le_of_ble_eq_true rfl), (Nat.le_of_ble_eq_true rfl)⟩) hP hD hS hA [8, 9] [0, 1, 2, 3, 4, 5, 6, 7] rfl rfl (by decide) (by decide) (fun u9 H locs h hP hD hS => ?_)
      obtain ⟨bn_6, br_7⟩ := u9
      have hP : va_P (dC, dI) vwCl [(aX, .inr (8, [.ref aT, .ref aS, .ref aF, .ref aQ, .ref aW, .ref aP, .ref aB, .ref aR])), (aT, .inr (7, [.ref aTb, .int tn])), (aTb, .inl (cyI, 64, .inl tb)), (aP, .inr (3, [.ref aPk, .ref aPl, .ref aPd, .ref aPs, .int pn, .int pch])), (aPk, .inl (cyI, 64, .inl pk)), (aPl, .inl (cyI, 64, .inl pl)), (aPd, .inl (cyI, 64, .inl pd)), (aPs, .inl (cyI, 64, .inl ps)), (aB, .inr (1, [.ref aBr, .int bn_6])), (aBr, .inl (cyI, 800, .inl br_7))] H := hP
      have hD : va_D A [(aX, .inr (8, [.ref aT, .ref aS, .ref aF, .ref aQ, .ref aW, .ref aP, .ref aB, .ref aR])), (aT, .inr (7, [.ref aTb, .int tn])), (aTb, .inl (cyI, 64, .inl tb)), (aP, .inr (3, [.ref aPk, .ref aPl, .ref aPd, .ref aPs, .int pn, .int pch])), (aPk, .inl (cyI, 64, .inl pk)), (aPl, .inl (cyI, 64, .inl pl)), (aPd, .inl (cyI, 64, .inl pd)), (aPs, .inl (cyI, 64, .inl ps)), (aB, .inr (1, [.ref aBr, .int bn_6])), (aBr, .inl (cyI, 800, .inl br_7))] := hD
      dsimp only at h
      have hP9 : va_P (dC, dI) vwCl [(aX, .inr (8, [.ref aT, .ref aS, .ref aF, .ref aQ, .ref aW, .ref aP, .ref aB, .ref aR])), (aT, .inr (7, [.ref aTb, .int tn])), (aTb, .inl (cyI, 64, .inl tb)), (aP, .inr (3, [.ref aPk, .ref aPl, .ref aPd, .ref aPs, .int pn, .int pch])), (aPk, .inl (cyI, 64, .inl pk)), (aPl, .inl (cyI, 64, .inl pl)), (aPd, .inl (cyI, 64, .inl pd)), (aPs, .inl (cyI, 64, .inl ps)), (aB, .inr (1, [.ref aBr, .int bn_6])), (aBr, .inl (cyI, 800, .inl br_7))] _ := hP
      have hD9 : va_D A [(aX, .inr (8, [.ref aT, .ref aS, .ref aF, .ref aQ, .ref aW, .ref aP, .ref aB, .ref aR])), (aT, .inr (7, [.ref aTb, .int tn])), (aTb, .inl (cyI, 64, .inl tb)), (aP, .inr (3, [.ref aPk, .ref aPl, .ref aPd, .ref aPs, .int pn, .int pch])), (aPk, .inl (cyI, 64, .inl pk)), (aPl, .inl (cyI, 64, .inl pl)), (aPd, .inl (cyI, 64, .inl pd)), (aPs, .inl (cyI, 64, .inl ps)), (aB, .inr (1, [.ref aBr, .int bn_6])), (aBr, .inl (cyI, 800, .inl br_7))] := hD
      exact W.vret hx hb hr (fun t ht hW => ⟨⟨(bn_6, br_7), rfl, h, by rw [ht]; exact hP9, va_K.moved hW.alike hK, hD9⟩, hS.F ht⟩) hS.2.2 dX9_writeToken_128
    · replace h := h.1 c_3
      refine lv_aload_n hx hb dX9_writeToken_57 rfl (lv_at hl 1 rfl) ?_
      refine va_get (D := (dC, dI)) (ci := 8) (v := .ref aB) (C := RX9) (T := TX9) (N := 8) hx hb hts inX9_writeToken_wsX90 hown hK hP 0 rfl rfl 6 (by decide) (hts _ qX9_writeToken_2) (fun _ h9 => h9) rfl dX9_writeToken_58 ?_
      refine lv_iconst (v := 2) hx hb dX9_writeToken_61 (by decide) ?_
      refine lv_iconst (v := 2) hx hb dX9_writeToken_62 (by decide) ?_
      refine wk_callv (wc := [(aB, .inr (1, [.ref aBr, .int bn])), (aBr, .inl (cyI, 800, .inl br))]) (wr := [(aX, .inr (8, [.ref aT, .ref aS, .ref aF, .ref aQ, .ref aW, .ref aP, .ref aB, .ref aR])), (aT, .inr (7, [.ref aTb, .int tn])), (aTb, .inl (cyI, 64, .inl tb)), (aP, .inr (3, [.ref aPk, .ref aPl, .ref aPd, .ref aPs, .int pn, .int pch])), (aPk, .inl (cyI, 64, .inl pk)), (aPl, .inl (cyI, 64, .inl pl)), (aPd, .inl (cyI, 64, .inl pd)), (aPs, .inl (cyI, 64, .inl ps))]) (va_runV (As := [.int 2, .int 2]) (rest := []) C0 (mtX1_pushLow l dC dI cyI (aB := aB) (aBr := aBr) (sz := _) (bn := bn) (br := br) (v1 := 2) (v2 := 2) h) (cwV 2 hts gX9_writeToken_X1_pushLow rfl rfl rfl (by decide +kernel) ⟨(Nat.le_of_ble_eq_true rfl), (Nat.le_of_ble_eq_true rfl)⟩) (wk_preV (wc := [(aB, .inr (1, [.ref aBr, .int bn])), (aBr, .inl (cyI, 800, .inl br))]) hK hP hD [8, 9] rfl (by decide) (va_recv hK hP (ci := 1) (q0 := 8) rfl rfl)) rfl rfl hl.1 rfl (lv_room (Nat.le_of_ble_eq_true rfl)) dX9_writeToken_63 ⟨(Nat.le_of_ble_eq_true rfl), (Nat.le_of_ble_eq_true rfl)⟩) hP hD hS hA [8, 9] [0, 1, 2, 3, 4, 5, 6, 7] rfl rfl (by decide) (by decide) (fun u9 H locs h hP hD hS => ?_)
      obtain ⟨bn_8, br_9⟩ := u9
      have hP : va_P (dC, dI) vwCl [(aX, .inr (8, [.ref aT, .ref aS, .ref aF, .ref aQ, .ref aW, .ref aP, .ref aB, .ref aR])), (aT, .inr (7, [.ref aTb, .int tn])), (aTb, .inl (cyI, 64, .inl tb)), (aP, .inr (3, [.ref aPk, .ref aPl, .ref aPd, .ref aPs, .int pn, .int pch])), (aPk, .inl (cyI, 64, .inl pk)), (aPl, .inl (cyI, 64, .inl pl)), (aPd, .inl (cyI, 64, .inl pd)), (aPs, .inl (cyI, 64, .inl ps)), (aB, .inr (1, [.ref aBr, .int bn_8])), (aBr, .inl (cyI, 800, .inl br_9))] H := hP
      have hD : va_D A [(aX, .inr (8, [.ref aT, .ref aS, .ref aF, .ref aQ, .ref aW, .ref aP, .ref aB, .ref aR])), (aT, .inr (7, [.ref aTb, .int tn])), (aTb, .inl (cyI, 64, .inl tb)), (aP, .inr (3, [.ref aPk, .ref aPl, .ref aPd, .ref aPs, .int pn, .int pch])), (aPk, .inl (cyI, 64, .inl pk)), (aPl, .inl (cyI, 64, .inl pl)), (aPd, .inl (cyI, 64, .inl pd)), (aPs, .inl (cyI, 64, .inl ps)), (aB, .inr (1, [.ref aBr, .int bn_8])), (aBr, .inl (cyI, 800, .inl br_9))] := hD
      dsimp only at h
      refine lv_aload_n hx hb dX9_writeToken_66 rfl (lv_at hl 1 rfl) ?_
      refine va_get (D := (dC, dI)) (ci := 8) (v := .ref aB) (C := RX9) (T := TX9) (N := 8) hx hb hts inX9_writeToken_wsX90 hown hK hP 0 rfl rfl 6 (by decide) (hts _ qX9_writeToken_2) (fun _ h9 => h9) rfl dX9_writeToken_67 ?_
      refine lv_aload_n hx hb dX9_writeToken_70 rfl (lv_at hl 1 rfl) ?_
      refine va_get (D := (dC, dI)) (ci := 8) (v := .ref aP) (C := RX9) (T := TX9) (N := 8) hx hb hts inX9_writeToken_wsX90 hown hK hP 0 rfl rfl 5 (by decide) (hts _ qX9_writeToken_0) (fun _ h9 => h9) rfl dX9_writeToken_71 ?_
      refine va_get (D := (dC, dI)) (ci := 3) (v := .ref aPd) (C := RX4) (T := TX4) (N := 6) hx hb hts inX9_writeToken_wsX40 hown hK hP 3 rfl rfl 2 (by decide) (hts _ qX9_writeToken_4) (fun _ h9 => h9) rfl dX9_writeToken_74 ?_
      refine lv_iload_n hx hb dX9_writeToken_77 rfl (lv_at hl 2 rfl) ?_
      refine va_iald hx hb hK hP 6 0 rfl rfl hi_1 dX9_writeToken_78 ?_
      refine wk_callv (wc := [(aB, .inr (1, [.ref aBr, .int bn_8])), (aBr, .inl (cyI, 800, .inl br_9))]) (wr := [(aX, .inr (8, [.ref aT, .ref aS, .ref aF, .ref aQ, .ref aW, .ref aP, .ref aB, .ref aR])), (aT, .inr (7, [.ref aTb, .int tn])), (aTb, .inl (cyI, 64, .inl tb)), (aP, .inr (3, [.ref aPk, .ref aPl, .ref aPd, .ref aPs, .int pn, .int pch])), (aPk, .inl (cyI, 64, .inl pk)), (aPl, .inl (cyI, 64, .inl pl)), (aPd, .inl (cyI, 64, .inl pd)), (aPs, .inl (cyI, 64, .inl ps))]) (va_runV (As := [.int (pd v1.toNatClampNeg)]) (rest := []) C0 (mtX1_pushNumber l dC dI cyI (aB := aB) (aBr := aBr) (sz := _) (bn := bn_8) (br := br_9) (v1 := pd v1.toNatClampNeg) h) (cwV 1 hts gX9_writeToken_X1_pushNumber rfl rfl rfl (by decide +kernel) ⟨(Nat.le_of_ble_eq_true rfl), (Nat.le_of_ble_eq_true rfl)⟩) (wk_preV (wc := [(aB, .inr (1, [.ref aBr, .int bn_8])), (aBr, .inl (cyI, 800, .inl br_9))]) hK hP hD [8, 9] rfl (by decide) (va_recv hK hP (ci := 1) (q0 := 8) rfl rfl)) rfl rfl hl.1 rfl (lv_room (Nat.le_of_ble_eq_true rfl)) dX9_writeToken_79 ⟨(Nat.le_of_ble_eq_true rfl), (Nat.le_of_ble_eq_true rfl)⟩) hP hD hS hA [8, 9] [0, 1, 2, 3, 4, 5, 6, 7] rfl rfl (by decide) (by decide) (fun u9 H locs h hP hD hS => ?_)
      obtain ⟨bn_10, br_11⟩ := u9
      have hP : va_P (dC, dI) vwCl [(aX, .inr (8, [.ref aT, .ref aS, .ref aF, .ref aQ, .ref aW, .ref aP, .ref aB, .ref aR])), (aT, .inr (7, [.ref aTb, .int tn])), (aTb, .inl (cyI, 64, .inl tb)), (aP, .inr (3, [.ref aPk, .ref aPl, .ref aPd, .ref aPs, .int pn, .int pch])), (aPk, .inl (cyI, 64, .inl pk)), (aPl, .inl (cyI, 64, .inl pl)), (aPd, .inl (cyI, 64, .inl pd)), (aPs, .inl (cyI, 64, .inl ps)), (aB, .inr (1, [.ref aBr, .int bn_10])), (aBr, .inl (cyI, 800, .inl br_11))] H := hP
      have hD : va_D A [(aX, .inr (8, [.ref aT, .ref aS, .ref aF, .ref aQ, .ref aW, .ref aP, .ref aB, .ref aR])), (aT, .inr (7, [.ref aTb, .int tn])), (aTb, .inl (cyI, 64, .inl tb)), (aP, .inr (3, [.ref aPk, .ref aPl, .ref aPd, .ref aPs, .int pn, .int pch])), (aPk, .inl (cyI, 64, .inl pk)), (aPl, .inl (cyI, 64, .inl pl)), (aPd, .inl (cyI, 64, .inl pd)), (aPs, .inl (cyI, 64, .inl ps)), (aB, .inr (1, [.ref aBr, .int bn_10])), (aBr, .inl (cyI, 800, .inl br_11))] := hD
      dsimp only at h
      refine lv_aload_n hx hb dX9_writeToken_82 rfl (lv_at hl 1 rfl) ?_
      refine va_get (D := (dC, dI)) (ci := 8) (v := .ref aB) (C := RX9) (T := TX9) (N := 8) hx hb hts inX9_writeToken_wsX90 hown hK hP 0 rfl rfl 6 (by decide) (hts _ qX9_writeToken_2) (fun _ h9 => h9) rfl dX9_writeToken_83 ?_
      refine lv_aload_n hx hb dX9_writeToken_86 rfl (lv_at hl 1 rfl) ?_
      refine va_get (D := (dC, dI)) (ci := 8) (v := .ref aP) (C := RX9) (T := TX9) (N := 8) hx hb hts inX9_writeToken_wsX90 hown hK hP 0 rfl rfl 5 (by decide) (hts _ qX9_writeToken_0) (fun _ h9 => h9) rfl dX9_writeToken_87 ?_
      refine va_get (D := (dC, dI)) (ci := 3) (v := .ref aPl) (C := RX4) (T := TX4) (N := 6) hx hb hts inX9_writeToken_wsX40 hown hK hP 3 rfl rfl 1 (by decide) (hts _ qX9_writeToken_3) (fun _ h9 => h9) rfl dX9_writeToken_90 ?_
      refine lv_iload_n hx hb dX9_writeToken_93 rfl (lv_at hl 2 rfl) ?_
      refine va_iald hx hb hK hP 5 0 rfl rfl hi_1 dX9_writeToken_94 ?_
      refine lv_iconst (v := 1) hx hb dX9_writeToken_95 (by decide) ?_
      refine lv_isub hx hb dX9_writeToken_96 ?_
      refine wk_callv (wc := [(aB, .inr (1, [.ref aBr, .int bn_10])), (aBr, .inl (cyI, 800, .inl br_11))]) (wr := [(aX, .inr (8, [.ref aT, .ref aS, .ref aF, .ref aQ, .ref aW, .ref aP, .ref aB, .ref aR])), (aT, .inr (7, [.ref aTb, .int tn])), (aTb, .inl (cyI, 64, .inl tb)), (aP, .inr (3, [.ref aPk, .ref aPl, .ref aPd, .ref aPs, .int pn, .int pch])), (aPk, .inl (cyI, 64, .inl pk)), (aPl, .inl (cyI, 64, .inl pl)), (aPd, .inl (cyI, 64, .inl pd)), (aPs, .inl (cyI, 64, .inl ps))]) (va_runV (As := [.int ((pl v1.toNatClampNeg) - 1)]) (rest := []) C0 (mtX1_pushNumber l dC dI cyI (aB := aB) (aBr := aBr) (sz := _) (bn := bn_10) (br := br_11) (v1 := (pl v1.toNatClampNeg) - 1) h) (cwV 1 hts gX9_writeToken_X1_pushNumber rfl rfl rfl (by decide +kernel) ⟨(Nat.le_of_ble_eq_true rfl), (Nat.le_of_ble_eq_true rfl)⟩) (wk_preV (wc := [(aB, .inr (1, [.ref aBr, .int bn_10])), (aBr, .inl (cyI, 800, .inl br_11))]) hK hP hD [8, 9] rfl (by decide) (va_recv hK hP (ci := 1) (q0 := 8) rfl rfl)) rfl rfl hl.1 rfl (lv_room (Nat.le_of_ble_eq_true rfl)) dX9_writeToken_97 ⟨(Nat.le_of_ble_eq_true rfl), (Nat.le_of_ble_eq_true rfl)⟩) hP hD hS hA [8, 9] [0, 1, 2, 3, 4, 5, 6, 7] rfl rfl (by decide) (by decide) (fun u9 H locs h hP hD hS => ?_)
      obtain ⟨bn_12, br_13⟩ := u9
      have hP : va_P (dC, dI) vwCl [(aX, .inr (8, [.ref aT, .ref aS, .ref aF, .ref aQ, .ref aW, .ref aP, .ref aB, .ref aR])), (aT, .inr (7, [.ref aTb, .int tn])), (aTb, .inl (cyI, 64, .inl tb)), (aP, .inr (3, [.ref aPk, .ref aPl, .ref aPd, .ref aPs, .int pn, .int pch])), (aPk, .inl (cyI, 64, .inl pk)), (aPl, .inl (cyI, 64, .inl pl)), (aPd, .inl (cyI, 64, .inl pd)), (aPs, .inl (cyI, 64, .inl ps)), (aB, .inr (1, [.ref aBr, .int bn_12])), (aBr, .inl (cyI, 800, .inl br_13))] H := hP
      have hD : va_D A [(aX, .inr (8, [.ref aT, .ref aS, .ref aF, .ref aQ, .ref aW, .ref aP, .ref aB, .ref aR])), (aT, .inr (7, [.ref aTb, .int tn])), (aTb, .inl (cyI, 64, .inl tb)), (aP, .inr (3, [.ref aPk, .ref aPl, .ref aPd, .ref aPs, .int pn, .int pch])), (aPk, .inl (cyI, 64, .inl pk)), (aPl, .inl (cyI, 64, .inl pl)), (aPd, .inl (cyI, 64, .inl pd)), (aPs, .inl (cyI, 64, .inl ps)), (aB, .inr (1, [.ref aBr, .int bn_12])), (aBr, .inl (cyI, 800, .inl br_13))] := hD
      dsimp only at h
      refine lv_goto (tgt := 128) hx hb dX9_writeToken_100 (by decide) ?_
      have hP9 : va_P (dC, dI) vwCl [(aX, .inr (8, [.ref aT, .ref aS, .ref aF, .ref aQ, .ref aW, .ref aP, .ref aB, .ref aR])), (aT, .inr (7, [.ref aTb, .int tn])), (aTb, .inl (cyI, 64, .inl tb)), (aP, .inr (3, [.ref aPk, .ref aPl, .ref aPd, .ref aPs, .int pn, .int pch])), (aPk, .inl (cyI, 64, .inl pk)), (aPl, .inl (cyI, 64, .inl pl)), (aPd, .inl (cyI, 64, .inl pd)), (aPs, .inl (cyI, 64, .inl ps)), (aB, .inr (1, [.ref aBr, .int bn_12])), (aBr, .inl (cyI, 800, .inl br_13))] _ := hP
      have hD9 : va_D A [(aX, .inr (8, [.ref aT, .ref aS, .ref aF, .ref aQ, .ref aW, .ref aP, .ref aB, .ref aR])), (aT, .inr (7, [.ref aTb, .int tn])), (aTb, .inl (cyI, 64, .inl tb)), (aP, .inr (3, [.ref aPk, .ref aPl, .ref aPd, .ref aPs, .int pn, .int pch])), (aPk, .inl (cyI, 64, .inl pk)), (aPl, .inl (cyI, 64, .inl pl)), (aPd, .inl (cyI, 64, .inl pd)), (aPs, .inl (cyI, 64, .inl ps)), (aB, .inr (1, [.ref aBr, .int bn_12])), (aBr, .inl (cyI, 800, .inl br_13))] := hD
      exact W.vret hx hb hr (fun t ht hW => ⟨⟨(bn_12, br_13), rfl, h, by rw [ht]; exact hP9, va_K.moved hW.alike hK, hD9⟩, hS.F ht⟩) hS.2.2 dX9_writeToken_128
  · replace h := h.1 c_2
    refine lv_aload_n hx hb dX9_writeToken_14 rfl (lv_at hl 1 rfl) ?_
    refine va_get (D := (dC, dI)) (ci := 8) (v := .ref aB) (C := RX9) (T := TX9) (N := 8) hx hb hts inX9_writeToken_wsX90 hown hK hP 0 rfl rfl 6 (by decide) (hts _ qX9_writeToken_2) (fun _ h9 => h9) rfl dX9_writeToken_15 ?_
    refine lv_iconst (v := 0) hx hb dX9_writeToken_18 (by decide) ?_
    refine lv_iconst (v := 1) hx hb dX9_writeToken_19 (by decide) ?_
    refine wk_callv (wc := [(aB, .inr (1, [.ref aBr, .int bn])), (aBr, .inl (cyI, 800, .inl br))]) (wr := [(aX, .inr (8, [.ref aT, .ref aS, .ref aF, .ref aQ, .ref aW, .ref aP, .ref aB, .ref aR])), (aT, .inr (7, [.ref aTb, .int tn])), (aTb, .inl (cyI, 64, .inl tb)), (aP, .inr (3, [.ref aPk, .ref aPl, .ref aPd, .ref aPs, .int pn, .int pch])), (aPk, .inl (cyI, 64, .inl pk)), (aPl, .inl (cyI, 64, .inl pl)), (aPd, .inl (cyI, 64, .inl pd)), (aPs, .inl (cyI, 64, .inl ps))]) (va_runV (As := [.int 0, .int 1]) (rest := []) C0 (mtX1_pushLow l dC dI cyI (aB := aB) (aBr := aBr) (sz := _) (bn := bn) (br := br) (v1 := 0) (v2 := 1) h) (cwV 2 hts gX9_writeToken_X1_pushLow rfl rfl rfl (by decide +kernel) ⟨(Nat.le_of_ble_eq_true rfl), (Nat.le_of_ble_eq_true rfl)⟩) (wk_preV (wc := [(aB, .inr (1, [.ref aBr, .int bn])), (aBr, .inl (cyI, 800, .inl br))]) hK hP hD [8, 9] rfl (by decide) (va_recv hK hP (ci := 1) (q0 := 8) rfl rfl)) rfl rfl hl.1 rfl (lv_room (Nat.le_of_ble_eq_true rfl)) dX9_writeToken_20 ⟨(Nat.le_of_ble_eq_true rfl), (Nat.le_of_ble_eq_true rfl)⟩) hP hD hS hA [8, 9] [0, 1, 2, 3, 4, 5, 6, 7] rfl rfl (by decide) (by decide) (fun u9 H locs h hP hD hS => ?_)
    obtain ⟨bn_14, br_15⟩ := u9
    have hP : va_P (dC, dI) vwCl [(aX, .inr (8, [.ref aT, .ref aS, .ref aF, .ref aQ, .ref aW, .ref aP, .ref aB, .ref aR])), (aT, .inr (7, [.ref aTb, .int tn])), (aTb, .inl (cyI, 64, .inl tb)), (aP, .inr (3, [.ref aPk, .ref aPl, .ref aPd, .ref aPs, .int pn, .int pch])), (aPk, .inl (cyI, 64, .inl pk)), (aPl, .inl (cyI, 64, .inl pl)), (aPd, .inl (cyI, 64, .inl pd)), (aPs, .inl (cyI, 64, .inl ps)), (aB, .inr (1, [.ref aBr, .int bn_14])), (aBr, .inl (cyI, 800, .inl br_15))] H := hP
    have hD : va_D A [(aX, .inr (8, [.ref aT, .ref aS, .ref aF, .ref aQ, .ref aW, .ref aP, .ref aB, .ref aR])), (aT, .inr (7, [.ref aTb, .int tn])), (aTb, .inl (cyI, 64, .inl tb)), (aP, .inr (3, [.ref aPk, .ref aPl, .ref aPd, .ref aPs, .int pn, .int pch])), (aPk, .inl (cyI, 64, .inl pk)), (aPl, .inl (cyI, 64, .inl pl)), (aPd, .inl (cyI, 64, .inl pd)), (aPs, .inl (cyI, 64, .inl ps)), (aB, .inr (1, [.ref aBr, .int bn_14])), (aBr, .inl (cyI, 800, .inl br_15))] := hD
    dsimp only at h
    refine lv_aload_n hx hb dX9_writeToken_23 rfl (lv_at hl 1 rfl) ?_
    refine va_get (D := (dC, dI)) (ci := 8) (v := .ref aB) (C := RX9) (T := TX9) (N := 8) hx hb hts inX9_writeToken_wsX90 hown hK hP 0 rfl rfl 6 (by decide) (hts _ qX9_writeToken_2) (fun _ h9 => h9) rfl dX9_writeToken_24 ?_
    refine lv_aload_n hx hb dX9_writeToken_27 rfl (lv_at hl 1 rfl) ?_
    refine va_get (D := (dC, dI)) (ci := 8) (v := .ref aT) (C := RX9) (T := TX9) (N := 8) hx hb hts inX9_writeToken_wsX90 hown hK hP 0 rfl rfl 0 (by decide) (hts _ qX9_writeToken_5) (fun _ h9 => h9) rfl dX9_writeToken_28 ?_
    refine va_get (D := (dC, dI)) (ci := 7) (v := .ref aTb) (C := RX8) (T := TX8) (N := 2) hx hb hts inX9_writeToken_wsX80 hown hK hP 1 rfl rfl 0 (by decide) (hts _ qX9_writeToken_6) (fun _ h9 => h9) rfl dX9_writeToken_31 ?_
    refine lv_aload_n hx hb dX9_writeToken_34 rfl (lv_at hl 1 rfl) ?_
    refine va_get (D := (dC, dI)) (ci := 8) (v := .ref aP) (C := RX9) (T := TX9) (N := 8) hx hb hts inX9_writeToken_wsX90 hown hK hP 0 rfl rfl 5 (by decide) (hts _ qX9_writeToken_0) (fun _ h9 => h9) rfl dX9_writeToken_35 ?_
    refine va_get (D := (dC, dI)) (ci := 3) (v := .ref aPs) (C := RX4) (T := TX4) (N := 6) hx hb hts inX9_writeToken_wsX40 hown hK hP 3 rfl rfl 3 (by decide) (hts _ qX9_writeToken_7) (fun _ h9 => h9) rfl dX9_writeToken_38 ?_
    refine lv_iload_n hx hb dX9_writeToken_41 rfl (lv_at hl 2 rfl) ?_
    refine va_iald hx hb hK hP 7 0 rfl rfl hi_1 dX9_writeToken_42 ?_
    obtain ⟨hi_16, h⟩ := h
    refine va_iald hx hb hK hP 2 0 rfl rfl hi_16 dX9_writeToken_43 ?_
    refine lv_bipush (v := 8) hx hb dX9_writeToken_44 (by decide) ?_
    refine wk_callv (wc := [(aB, .inr (1, [.ref aBr, .int bn_14])), (aBr, .inl (cyI, 800, .inl br_15))]) (wr := [(aX, .inr (8, [.ref aT, .ref aS, .ref aF, .ref aQ, .ref aW, .ref aP, .ref aB, .ref aR])), (aT, .inr (7, [.ref aTb, .int tn])), (aTb, .inl (cyI, 64, .inl tb)), (aP, .inr (3, [.ref aPk, .ref aPl, .ref aPd, .ref aPs, .int pn, .int pch])), (aPk, .inl (cyI, 64, .inl pk)), (aPl, .inl (cyI, 64, .inl pl)), (aPd, .inl (cyI, 64, .inl pd)), (aPs, .inl (cyI, 64, .inl ps))]) (va_runV (As := [.int (tb (ps v1.toNatClampNeg).toNatClampNeg), .int 8]) (rest := []) C0 (mtX1_pushLow l dC dI cyI (aB := aB) (aBr := aBr) (sz := _) (bn := bn_14) (br := br_15) (v1 := tb (ps v1.toNatClampNeg).toNatClampNeg) (v2 := 8) h) (cwV 2 hts gX9_writeToken_X1_pushLow rfl rfl rfl (by decide +kernel) ⟨(Nat.le_of_ble_eq_true rfl), (Nat.le_of_ble_eq_true rfl)⟩) (wk_preV (wc := [(aB, .inr (1, [.ref aBr, .int bn_14])), (aBr, .inl (cyI, 800, .inl br_15))]) hK hP hD [8, 9] rfl (by decide) (va_recv hK hP (ci := 1) (q0 := 8) rfl rfl)) rfl rfl hl.1 rfl (lv_room (Nat.le_of_ble_eq_true rfl)) dX9_writeToken_46 ⟨(Nat.le_of_ble_eq_true rfl), (Nat.le_of_ble_eq_true rfl)⟩) hP hD hS hA [8, 9] [0, 1, 2, 3, 4, 5, 6, 7] rfl rfl (by decide) (by decide) (fun u9 H locs h hP hD hS => ?_)
    obtain ⟨bn_17, br_18⟩ := u9
    have hP : va_P (dC, dI) vwCl [(aX, .inr (8, [.ref aT, .ref aS, .ref aF, .ref aQ, .ref aW, .ref aP, .ref aB, .ref aR])), (aT, .inr (7, [.ref aTb, .int tn])), (aTb, .inl (cyI, 64, .inl tb)), (aP, .inr (3, [.ref aPk, .ref aPl, .ref aPd, .ref aPs, .int pn, .int pch])), (aPk, .inl (cyI, 64, .inl pk)), (aPl, .inl (cyI, 64, .inl pl)), (aPd, .inl (cyI, 64, .inl pd)), (aPs, .inl (cyI, 64, .inl ps)), (aB, .inr (1, [.ref aBr, .int bn_17])), (aBr, .inl (cyI, 800, .inl br_18))] H := hP
    have hD : va_D A [(aX, .inr (8, [.ref aT, .ref aS, .ref aF, .ref aQ, .ref aW, .ref aP, .ref aB, .ref aR])), (aT, .inr (7, [.ref aTb, .int tn])), (aTb, .inl (cyI, 64, .inl tb)), (aP, .inr (3, [.ref aPk, .ref aPl, .ref aPd, .ref aPs, .int pn, .int pch])), (aPk, .inl (cyI, 64, .inl pk)), (aPl, .inl (cyI, 64, .inl pl)), (aPd, .inl (cyI, 64, .inl pd)), (aPs, .inl (cyI, 64, .inl ps)), (aB, .inr (1, [.ref aBr, .int bn_17])), (aBr, .inl (cyI, 800, .inl br_18))] := hD
    dsimp only at h
    refine lv_goto (tgt := 128) hx hb dX9_writeToken_49 (by decide) ?_
    have hP9 : va_P (dC, dI) vwCl [(aX, .inr (8, [.ref aT, .ref aS, .ref aF, .ref aQ, .ref aW, .ref aP, .ref aB, .ref aR])), (aT, .inr (7, [.ref aTb, .int tn])), (aTb, .inl (cyI, 64, .inl tb)), (aP, .inr (3, [.ref aPk, .ref aPl, .ref aPd, .ref aPs, .int pn, .int pch])), (aPk, .inl (cyI, 64, .inl pk)), (aPl, .inl (cyI, 64, .inl pl)), (aPd, .inl (cyI, 64, .inl pd)), (aPs, .inl (cyI, 64, .inl ps)), (aB, .inr (1, [.ref aBr, .int bn_17])), (aBr, .inl (cyI, 800, .inl br_18))] _ := hP
    have hD9 : va_D A [(aX, .inr (8, [.ref aT, .ref aS, .ref aF, .ref aQ, .ref aW, .ref aP, .ref aB, .ref aR])), (aT, .inr (7, [.ref aTb, .int tn])), (aTb, .inl (cyI, 64, .inl tb)), (aP, .inr (3, [.ref aPk, .ref aPl, .ref aPd, .ref aPs, .int pn, .int pch])), (aPk, .inl (cyI, 64, .inl pk)), (aPl, .inl (cyI, 64, .inl pl)), (aPd, .inl (cyI, 64, .inl pd)), (aPs, .inl (cyI, 64, .inl ps)), (aB, .inr (1, [.ref aBr, .int bn_17])), (aBr, .inl (cyI, 800, .inl br_18))] := hD
    exact W.vret hx hb hr (fun t ht hW => ⟨⟨(bn_17, br_18), rfl, h, by rw [ht]; exact hP9, va_K.moved hW.alike hK, hD9⟩, hS.F ht⟩) hS.2.2 dX9_writeToken_128
-- X9_size
theorem qX9_size_0 : Cond.fieldLink RX9 10 "MatchCoder" "text" "LMatchCoder$Text;" ∈ wsX9_size := (List.mem_cons_of_mem _ (List.mem_append_left _ (List.mem_append_left _ (List.mem_of_getElem? (i := 0) rfl))))
theorem qX9_size_1 : Cond.fieldLink RX9 76 "MatchCoder$Text" "count" "I" ∈ wsX9_size := (List.mem_cons_of_mem _ (List.mem_append_left _ (List.mem_append_left _ (List.mem_of_getElem? (i := 1) rfl))))
theorem inX9_size_wsX90 : ∀ w ∈ wsX90, w ∈ wsX9_size := fun _ h => List.mem_cons_of_mem _ (List.mem_append_left _ (List.mem_append_right _ h))
theorem inX9_size_wsX80 : ∀ w ∈ wsX80, w ∈ wsX9_size := fun _ h => List.mem_cons_of_mem _ (List.mem_append_right _ h)
def wpX9_size (tn : Int32) (post : Int32 → Prop) : Prop := post tn
set_option maxHeartbeats 4000000 in
set_option maxRecDepth 100000 in
theorem mtX9_size (l : Launch) (dC : Nat → ClassId) (dI : Nat → Nat → Nat) (cyI : ClassId) {aX aT aTb aS aF aQ aW aP aB aR : Nat} {sz : Nat} {tn : Int32} {post : Int32 → Prop} (h : wpX9_size tn post) : Met l yX9_size wsX9_size ({ frames := 0, cells := 0, slots := 0, locals := 0 }) (va_Pc [.ref aX] (wk_B (dC, dI) [(cyI, .int)] [(aX, .inr (8, [.ref aT, .ref aS, .ref aF, .ref aQ, .ref aW, .ref aP, .ref aB, .ref aR])), (aT, .inr (7, [.ref aTb, .int tn]))] sz)) (va_Qi (fun (r : Int32) (u : Unit) => post r ) (wk_C (dC, dI) [(cyI, .int)] (va_A [(aX, .inr (8, [.ref aT, .ref aS, .ref aF, .ref aQ, .ref aW, .ref aP, .ref aB, .ref aR])), (aT, .inr (7, [.ref aTb, .int tn]))] sz) (fun (u : Unit) => [(aX, .inr (8, [.ref aT, .ref aS, .ref aF, .ref aQ, .ref aW, .ref aP, .ref aB, .ref aR])), (aT, .inr (7, [.ref aTb, .int tn]))])) (va_A [(aX, .inr (8, [.ref aT, .ref aS, .ref aF, .ref aQ, .ref aW, .ref aP, .ref aB, .ref aR])), (aT, .inr (7, [.ref aTb, .int tn]))] sz)) 0 0 (va_A [(aX, .inr (8, [.ref aT, .ref aS, .ref aF, .ref aQ, .ref aW, .ref aP, .ref aB, .ref aR])), (aT, .inr (7, [.ref aTb, .int tn]))] sz) := by
  refine Met.ofW (cc := cX9_size) (maxL := 1) (ret := (some .int)) (by decide) rfl ?_
  intro p e s m args below meth c s₁ B hml hv
  obtain ⟨rfl, hsz, hP, hK, hD0⟩ := hv
  have hx := B.exec
  have hb := B.bytes
  have hr := B.returns
  have hts := atoms_spec (ws := wsX9_size) B.pre
  have hown : s.vm.findClass RX9 = some m.cls := findClass_of_methodNamed B.named
  have hlocks := B.notSynchronized
  subst hsz
  have hD := hD0.self (sz := s.heap.size)
  generalize hAe : va_A [(aX, .inr (8, [.ref aT, .ref aS, .ref aF, .ref aQ, .ref aW, .ref aP, .ref aB, .ref aR])), (aT, .inr (7, [.ref aTb, .int tn]))] s.heap.size = A at hD ⊢
  have hA : ∀ q : Nat, s.heap.size ≤ q → A q := fun q h => by rw [← hAe]; exact Or.inr h
  have hS : va_S A s.heap s.heap [] := va_S.rf
  have hP : va_P (dC, dI) vwCl [(aX, .inr (8, [.ref aT, .ref aS, .ref aF, .ref aQ, .ref aW, .ref aP, .ref aB, .ref aR])), (aT, .inr (7, [.ref aTb, .int tn]))] s.heap := hP
  have hl := lv_entry ([.ref aX]) (n := 1) (Nat.le_of_ble_eq_true rfl)
  rw [lg_entry_eq]
  generalize (lg_sl ([.ref aX]) ++ List.replicate (1 - (lg_sl ([.ref aX])).length) Slot.unset).toArray = ls at hl ⊢
  have hl : lv_has ls 1 [(0, .ref aX)] := hl
  have C0 : CallFix p m c cX9_size 1 s ([.ref aX] : List Value).toArray wsX9_size RX9 := ⟨hx, hb, hml, hown, hts⟩
  unfold wpX9_size at h
  refine lv_aload_n hx hb dX9_size_0 rfl (lv_at hl 0 rfl) ?_
  refine va_get (D := (dC, dI)) (ci := 8) (v := .ref aT) (C := RX9) (T := TX9) (N := 8) hx hb hts inX9_size_wsX90 hown hK hP 0 rfl rfl 0 (by decide) (hts _ qX9_size_0) (fun _ h9 => h9) rfl dX9_size_1 ?_
  refine va_get (D := (dC, dI)) (ci := 7) (v := .int tn) (C := RX8) (T := TX8) (N := 2) hx hb hts inX9_size_wsX80 hown hK hP 1 rfl rfl 1 (by decide) (hts _ qX9_size_1) (fun _ h9 => h9) rfl dX9_size_4 ?_
  have hP9 : va_P (dC, dI) vwCl [(aX, .inr (8, [.ref aT, .ref aS, .ref aF, .ref aQ, .ref aW, .ref aP, .ref aB, .ref aR])), (aT, .inr (7, [.ref aTb, .int tn]))] _ := hP
  have hD9 : va_D A [(aX, .inr (8, [.ref aT, .ref aS, .ref aF, .ref aQ, .ref aW, .ref aP, .ref aB, .ref aR])), (aT, .inr (7, [.ref aTb, .int tn]))] := hD
  exact W.iret (v := tn) hx hb hr (fun t ht hW => ⟨⟨tn, (), rfl, h, by rw [ht]; exact hP9, va_K.moved hW.alike hK, hD9⟩, hS.F ht⟩) hS.2.2 dX9_size_7
-- X9_best
theorem qX9_best_0 : Cond.fieldLink RX9 44 "MatchCoder" "bestWay" "LMatchCoder$BestWay;" ∈ wsX9_best := (List.mem_cons_of_mem _ (List.mem_append_left _ (List.mem_append_left _ (List.mem_append_left _ (List.mem_append_left _ (List.mem_append_left _ (List.mem_append_left _ (List.mem_of_getElem? (i := 0) rfl))))))))
theorem qX9_best_1 : Cond.fieldLink RX9 51 "MatchCoder" "plan" "LMatchCoder$Plan;" ∈ wsX9_best := (List.mem_cons_of_mem _ (List.mem_append_left _ (List.mem_append_left _ (List.mem_append_left _ (List.mem_append_left _ (List.mem_append_left _ (List.mem_append_left _ (List.mem_of_getElem? (i := 1) rfl))))))))
theorem inX9_best_wsX90 : ∀ w ∈ wsX90, w ∈ wsX9_best := fun _ h => List.mem_cons_of_mem _ (List.mem_append_left _ (List.mem_append_left _ (List.mem_append_left _ (List.mem_append_left _ (List.mem_append_right _ h)))))
def wpX9_best (tn : Int32) (tb : Nat → Int32) (sw : Int32) (sl : Int32) (sg : Int32) (sp : Int32) (ww : Nat → Int32) (wr : Nat → Int32) (wm : Nat → Int32) (wl : Nat → Int32) (wd : Nat → Int32) (pk : Nat → Int32) (pl : Nat → Int32) (pd : Nat → Int32) (ps : Nat → Int32) (post : Int32 → (Nat → Int32) → (Nat → Int32) → (Nat → Int32) → (Nat → Int32) → (Nat → Int32) → Int32 → Int32 → (Nat → Int32) → (Nat → Int32) → (Nat → Int32) → (Nat → Int32) → Prop) : Prop := wpX0_weighStates tn tb sw sl sg sp ww wr wm wl wd (fun (ww_1 : Nat → Int32) (wr_2 : Nat → Int32) (wm_3 : Nat → Int32) (wl_4 : Nat → Int32) (wd_5 : Nat → Int32) => wpX0_choose tn tb sg sp ww_1 wm_3 wl_4 wd_5 pk pl pd ps (fun (pn_6 : Int32) (pch_7 : Int32) (pk_8 : Nat → Int32) (pl_9 : Nat → Int32) (pd_10 : Nat → Int32) (ps_11 : Nat → Int32) => wpX9_costOfPlan sp pn_6 pk_8 pl_9 pd_10 (fun (r_12 : Int32) => post r_12 ww_1 wr_2 wm_3 wl_4 wd_5 pn_6 pch_7 pk_8 pl_9 pd_10 ps_11)))
set_option maxHeartbeats 4000000 in
set_option maxRecDepth 100000 in
theorem mtX9_best (l : Launch) (dC : Nat → ClassId) (dI : Nat → Nat → Nat) (cyI : ClassId) {aX aT aTb aS aF aQ aW aWw aWr aWm aWl aWd aP aPk aPl aPd aPs aB aR : Nat} {sz : Nat} {tn : Int32} {tb : Nat → Int32} {sw : Int32} {sl : Int32} {sg : Int32} {sp : Int32} {ww : Nat → Int32} {wr : Nat → Int32} {wm : Nat → Int32} {wl : Nat → Int32} {wd : Nat → Int32} {pn : Int32} {pch : Int32} {pk : Nat → Int32} {pl : Nat → Int32} {pd : Nat → Int32} {ps : Nat → Int32} {post : Int32 → (Nat → Int32) → (Nat → Int32) → (Nat → Int32) → (Nat → Int32) → (Nat → Int32) → Int32 → Int32 → (Nat → Int32) → (Nat → Int32) → (Nat → Int32) → (Nat → Int32) → Prop} (h : wpX9_best tn tb sw sl sg sp ww wr wm wl wd pk pl pd ps post) : Met l yX9_best wsX9_best ({ frames := 6, cells := 0, slots := 0, locals := 139 }) (va_Pc [.ref aX] (wk_B (dC, dI) [(cyI, .int)] [(aX, .inr (8, [.ref aT, .ref aS, .ref aF, .ref aQ, .ref aW, .ref aP, .ref aB, .ref aR])), (aT, .inr (7, [.ref aTb, .int tn])), (aTb, .inl (cyI, 64, .inl tb)), (aS, .inr (6, [.int sw, .int sl, .int sg, .int sp])), (aW, .inr (0, [.ref aT, .ref aS, .ref aWw, .ref aWr, .ref aWm, .ref aWl, .ref aWd])), (aWw, .inl (cyI, 4225, .inl ww)), (aWr, .inl (cyI, 65, .inl wr)), (aWm, .inl (cyI, 64, .inl wm)), (aWl, .inl (cyI, 64, .inl wl)), (aWd, .inl (cyI, 64, .inl wd)), (aP, .inr (3, [.ref aPk, .ref aPl, .ref aPd, .ref aPs, .int pn, .int pch])), (aPk, .inl (cyI, 64, .inl pk)), (aPl, .inl (cyI, 64, .inl pl)), (aPd, .inl (cyI, 64, .inl pd)), (aPs, .inl (cyI, 64, .inl ps))] sz)) (va_Qi (fun (r : Int32) (u : (Nat → Int32) × (Nat → Int32) × (Nat → Int32) × (Nat → Int32) × (Nat → Int32) × Int32 × Int32 × (Nat → Int32) × (Nat → Int32) × (Nat → Int32) × (Nat → Int32)) => post r u.1 u.2.1 u.2.2.1 u.2.2.2.1 u.2.2.2.2.1 u.2.2.2.2.2.1 u.2.2.2.2.2.2.1 u.2.2.2.2.2.2.2.1 u.2.2.2.2.2.2.2.2.1 u.2.2.2.2.2.2.2.2.2.1 u.2.2.2.2.2.2.2.2.2.2) (wk_C (dC, dI) [(cyI, .int)] (va_A [(aX, .inr (8, [.ref aT, .ref aS, .ref aF, .ref aQ, .ref aW, .ref aP, .ref aB, .ref aR])), (aT, .inr (7, [.ref aTb, .int tn])), (aTb, .inl (cyI, 64, .inl tb)), (aS, .inr (6, [.int sw, .int sl, .int sg, .int sp])), (aW, .inr (0, [.ref aT, .ref aS, .ref aWw, .ref aWr, .ref aWm, .ref aWl, .ref aWd])), (aWw, .inl (cyI, 4225, .inl ww)), (aWr, .inl (cyI, 65, .inl wr)), (aWm, .inl (cyI, 64, .inl wm)), (aWl, .inl (cyI, 64, .inl wl)), (aWd, .inl (cyI, 64, .inl wd)), (aP, .inr (3, [.ref aPk, .ref aPl, .ref aPd, .ref aPs, .int pn, .int pch])), (aPk, .inl (cyI, 64, .inl pk)), (aPl, .inl (cyI, 64, .inl pl)), (aPd, .inl (cyI, 64, .inl pd)), (aPs, .inl (cyI, 64, .inl ps))] sz) (fun (u : (Nat → Int32) × (Nat → Int32) × (Nat → Int32) × (Nat → Int32) × (Nat → Int32) × Int32 × Int32 × (Nat → Int32) × (Nat → Int32) × (Nat → Int32) × (Nat → Int32)) => [(aX, .inr (8, [.ref aT, .ref aS, .ref aF, .ref aQ, .ref aW, .ref aP, .ref aB, .ref aR])), (aT, .inr (7, [.ref aTb, .int tn])), (aTb, .inl (cyI, 64, .inl tb)), (aS, .inr (6, [.int sw, .int sl, .int sg, .int sp])), (aW, .inr (0, [.ref aT, .ref aS, .ref aWw, .ref aWr, .ref aWm, .ref aWl, .ref aWd])), (aWw, .inl (cyI, 4225, .inl (u.1))), (aWr, .inl (cyI, 65, .inl (u.2.1))), (aWm, .inl (cyI, 64, .inl (u.2.2.1))), (aWl, .inl (cyI, 64, .inl (u.2.2.2.1))), (aWd, .inl (cyI, 64, .inl (u.2.2.2.2.1))), (aP, .inr (3, [.ref aPk, .ref aPl, .ref aPd, .ref aPs, .int (u.2.2.2.2.2.1), .int (u.2.2.2.2.2.2.1)])), (aPk, .inl (cyI, 64, .inl (u.2.2.2.2.2.2.2.1))), (aPl, .inl (cyI, 64, .inl (u.2.2.2.2.2.2.2.2.1))), (aPd, .inl (cyI, 64, .inl (u.2.2.2.2.2.2.2.2.2.1))), (aPs, .inl (cyI, 64, .inl (u.2.2.2.2.2.2.2.2.2.2)))])) (va_A [(aX, .inr (8, [.ref aT, .ref aS, .ref aF, .ref aQ, .ref aW, .ref aP, .ref aB, .ref aR])), (aT, .inr (7, [.ref aTb, .int tn])), (aTb, .inl (cyI, 64, .inl tb)), (aS, .inr (6, [.int sw, .int sl, .int sg, .int sp])), (aW, .inr (0, [.ref aT, .ref aS, .ref aWw, .ref aWr, .ref aWm, .ref aWl, .ref aWd])), (aWw, .inl (cyI, 4225, .inl ww)), (aWr, .inl (cyI, 65, .inl wr)), (aWm, .inl (cyI, 64, .inl wm)), (aWl, .inl (cyI, 64, .inl wl)), (aWd, .inl (cyI, 64, .inl wd)), (aP, .inr (3, [.ref aPk, .ref aPl, .ref aPd, .ref aPs, .int pn, .int pch])), (aPk, .inl (cyI, 64, .inl pk)), (aPl, .inl (cyI, 64, .inl pl)), (aPd, .inl (cyI, 64, .inl pd)), (aPs, .inl (cyI, 64, .inl ps))] sz)) 0 0 (va_A [(aX, .inr (8, [.ref aT, .ref aS, .ref aF, .ref aQ, .ref aW, .ref aP, .ref aB, .ref aR])), (aT, .inr (7, [.ref aTb, .int tn])), (aTb, .inl (cyI, 64, .inl tb)), (aS, .inr (6, [.int sw, .int sl, .int sg, .int sp])), (aW, .inr (0, [.ref aT, .ref aS, .ref aWw, .ref aWr, .ref aWm, .ref aWl, .ref aWd])), (aWw, .inl (cyI, 4225, .inl ww)), (aWr, .inl (cyI, 65, .inl wr)), (aWm, .inl (cyI, 64, .inl wm)), (aWl, .inl (cyI, 64, .inl wl)), (aWd, .inl (cyI, 64, .inl wd)), (aP, .inr (3, [.ref aPk, .ref aPl, .ref aPd, .ref aPs, .int pn, .int pch])), (aPk, .inl (cyI, 64, .inl pk)), (aPl, .inl (cyI, 64, .inl pl)), (aPd, .inl (cyI, 64, .inl pd)), (aPs, .inl (cyI, 64, .inl ps))] sz) := by
  refine Met.ofW (cc := cX9_best) (maxL := 1) (ret := (some .int)) (by decide) rfl ?_
  intro p e s m args below meth c s₁ B hml hv
  obtain ⟨rfl, hsz, hP, hK, hD0⟩ := hv
  have hx := B.exec
  have hb := B.bytes
  have hr := B.returns
  have hts := atoms_spec (ws := wsX9_best) B.pre
  have hown : s.vm.findClass RX9 = some m.cls := findClass_of_methodNamed B.named
  have hlocks := B.notSynchronized
  subst hsz
  have hD := hD0.self (sz := s.heap.size)
  generalize hAe : va_A [(aX, .inr (8, [.ref aT, .ref aS, .ref aF, .ref aQ, .ref aW, .ref aP, .ref aB, .ref aR])), (aT, .inr (7, [.ref aTb, .int tn])), (aTb, .inl (cyI, 64, .inl tb)), (aS, .inr (6, [.int sw, .int sl, .int sg, .int sp])), (aW, .inr (0, [.ref aT, .ref aS, .ref aWw, .ref aWr, .ref aWm, .ref aWl, .ref aWd])), (aWw, .inl (cyI, 4225, .inl ww)), (aWr, .inl (cyI, 65, .inl wr)), (aWm, .inl (cyI, 64, .inl wm)), (aWl, .inl (cyI, 64, .inl wl)), (aWd, .inl (cyI, 64, .inl wd)), (aP, .inr (3, [.ref aPk, .ref aPl, .ref aPd, .ref aPs, .int pn, .int pch])), (aPk, .inl (cyI, 64, .inl pk)), (aPl, .inl (cyI, 64, .inl pl)), (aPd, .inl (cyI, 64, .inl pd)), (aPs, .inl (cyI, 64, .inl ps))] s.heap.size = A at hD ⊢
  have hA : ∀ q : Nat, s.heap.size ≤ q → A q := fun q h => by rw [← hAe]; exact Or.inr h
  have hS : va_S A s.heap s.heap [] := va_S.rf
  have hP : va_P (dC, dI) vwCl [(aX, .inr (8, [.ref aT, .ref aS, .ref aF, .ref aQ, .ref aW, .ref aP, .ref aB, .ref aR])), (aT, .inr (7, [.ref aTb, .int tn])), (aTb, .inl (cyI, 64, .inl tb)), (aS, .inr (6, [.int sw, .int sl, .int sg, .int sp])), (aW, .inr (0, [.ref aT, .ref aS, .ref aWw, .ref aWr, .ref aWm, .ref aWl, .ref aWd])), (aWw, .inl (cyI, 4225, .inl ww)), (aWr, .inl (cyI, 65, .inl wr)), (aWm, .inl (cyI, 64, .inl wm)), (aWl, .inl (cyI, 64, .inl wl)), (aWd, .inl (cyI, 64, .inl wd)), (aP, .inr (3, [.ref aPk, .ref aPl, .ref aPd, .ref aPs, .int pn, .int pch])), (aPk, .inl (cyI, 64, .inl pk)), (aPl, .inl (cyI, 64, .inl pl)), (aPd, .inl (cyI, 64, .inl pd)), (aPs, .inl (cyI, 64, .inl ps))] s.heap := hP
  have hl := lv_entry ([.ref aX]) (n := 1) (Nat.le_of_ble_eq_true rfl)
  rw [lg_entry_eq]
  generalize (lg_sl ([.ref aX]) ++ List.replicate (1 - (lg_sl ([.ref aX])).length) Slot.unset).toArray = ls at hl ⊢
  have hl : lv_has ls 1 [(0, .ref aX)] := hl
  have C0 : CallFix p m c cX9_best 1 s ([.ref aX] : List Value).toArray wsX9_best RX9 := ⟨hx, hb, hml, hown, hts⟩
  unfold wpX9_best at h
  refine lv_aload_n hx hb dX9_best_0 rfl (lv_at hl 0 rfl) ?_
  refine va_get (D := (dC, dI)) (ci := 8) (v := .ref aW) (C := RX9) (T := TX9) (N := 8) hx hb hts inX9_best_wsX90 hown hK hP 0 rfl rfl 4 (by decide) (hts _ qX9_best_0) (fun _ h9 => h9) rfl dX9_best_1 ?_
  refine wk_callv (wc := [(aT, .inr (7, [.ref aTb, .int tn])), (aTb, .inl (cyI, 64, .inl tb)), (aS, .inr (6, [.int sw, .int sl, .int sg, .int sp])), (aW, .inr (0, [.ref aT, .ref aS, .ref aWw, .ref aWr, .ref aWm, .ref aWl, .ref aWd])), (aWw, .inl (cyI, 4225, .inl ww)), (aWr, .inl (cyI, 65, .inl wr)), (aWm, .inl (cyI, 64, .inl wm)), (aWl, .inl (cyI, 64, .inl wl)), (aWd, .inl (cyI, 64, .inl wd))]) (wr := [(aX, .inr (8, [.ref aT, .ref aS, .ref aF, .ref aQ, .ref aW, .ref aP, .ref aB, .ref aR])), (aP, .inr (3, [.ref aPk, .ref aPl, .ref aPd, .ref aPs, .int pn, .int pch])), (aPk, .inl (cyI, 64, .inl pk)), (aPl, .inl (cyI, 64, .inl pl)), (aPd, .inl (cyI, 64, .inl pd)), (aPs, .inl (cyI, 64, .inl ps))]) (va_runV (As := []) (rest := []) C0 (mtX0_weighStates l dC dI cyI (aT := aT) (aTb := aTb) (aS := aS) (aW := aW) (aWw := aWw) (aWr := aWr) (aWm := aWm) (aWl := aWl) (aWd := aWd) (sz := _) (tn := tn) (tb := tb) (sw := sw) (sl := sl) (sg := sg) (sp := sp) (ww := ww) (wr := wr) (wm := wm) (wl := wl) (wd := wd) h) (cwV 0 hts gX9_best_X0_weighStates rfl rfl rfl (by decide +kernel) ⟨(Nat.le_of_ble_eq_true rfl), (Nat.le_of_ble_eq_true rfl)⟩) (wk_preV (wc := [(aT, .inr (7, [.ref aTb, .int tn])), (aTb, .inl (cyI, 64, .inl tb)), (aS, .inr (6, [.int sw, .int sl, .int sg, .int sp])), (aW, .inr (0, [.ref aT, .ref aS, .ref aWw, .ref aWr, .ref aWm, .ref aWl, .ref aWd])), (aWw, .inl (cyI, 4225, .inl ww)), (aWr, .inl (cyI, 65, .inl wr)), (aWm, .inl (cyI, 64, .inl wm)), (aWl, .inl (cyI, 64, .inl wl)), (aWd, .inl (cyI, 64, .inl wd))]) hK hP hD [1, 2, 3, 4, 5, 6, 7, 8, 9] rfl (by decide) (va_recv hK hP (ci := 0) (q0 := 4) rfl rfl)) rfl rfl hl.1 rfl (lv_room (Nat.le_of_ble_eq_true rfl)) dX9_best_4 ⟨(Nat.le_of_ble_eq_true rfl), (Nat.le_of_ble_eq_true rfl)⟩) hP hD hS hA [1, 2, 3, 4, 5, 6, 7, 8, 9] [0, 10, 11, 12, 13, 14] rfl rfl (by decide) (by decide) (fun u9 H locs h hP hD hS => ?_)
  obtain ⟨ww_1, wr_2, wm_3, wl_4, wd_5⟩ := u9
  have hP : va_P (dC, dI) vwCl [(aX, .inr (8, [.ref aT, .ref aS, .ref aF, .ref aQ, .ref aW, .ref aP, .ref aB, .ref aR])), (aP, .inr (3, [.ref aPk, .ref aPl, .ref aPd, .ref aPs, .int pn, .int pch])), (aPk, .inl (cyI, 64, .inl pk)), (aPl, .inl (cyI, 64, .inl pl)), (aPd, .inl (cyI, 64, .inl pd)), (aPs, .inl (cyI, 64, .inl ps)), (aT, .inr (7, [.ref aTb, .int tn])), (aTb, .inl (cyI, 64, .inl tb)), (aS, .inr (6, [.int sw, .int sl, .int sg, .int sp])), (aW, .inr (0, [.ref aT, .ref aS, .ref aWw, .ref aWr, .ref aWm, .ref aWl, .ref aWd])), (aWw, .inl (cyI, 4225, .inl ww_1)), (aWr, .inl (cyI, 65, .inl wr_2)), (aWm, .inl (cyI, 64, .inl wm_3)), (aWl, .inl (cyI, 64, .inl wl_4)), (aWd, .inl (cyI, 64, .inl wd_5))] H := hP
  have hD : va_D A [(aX, .inr (8, [.ref aT, .ref aS, .ref aF, .ref aQ, .ref aW, .ref aP, .ref aB, .ref aR])), (aP, .inr (3, [.ref aPk, .ref aPl, .ref aPd, .ref aPs, .int pn, .int pch])), (aPk, .inl (cyI, 64, .inl pk)), (aPl, .inl (cyI, 64, .inl pl)), (aPd, .inl (cyI, 64, .inl pd)), (aPs, .inl (cyI, 64, .inl ps)), (aT, .inr (7, [.ref aTb, .int tn])), (aTb, .inl (cyI, 64, .inl tb)), (aS, .inr (6, [.int sw, .int sl, .int sg, .int sp])), (aW, .inr (0, [.ref aT, .ref aS, .ref aWw, .ref aWr, .ref aWm, .ref aWl, .ref aWd])), (aWw, .inl (cyI, 4225, .inl ww_1)), (aWr, .inl (cyI, 65, .inl wr_2)), (aWm, .inl (cyI, 64, .inl wm_3)), (aWl, .inl (cyI, 64, .inl wl_4)), (aWd, .inl (cyI, 64, .inl wd_5))] := hD
  dsimp only at h
  refine lv_aload_n hx hb dX9_best_7 rfl (lv_at hl 0 rfl) ?_
  refine va_get (D := (dC, dI)) (ci := 8) (v := .ref aW) (C := RX9) (T := TX9) (N := 8) hx hb hts inX9_best_wsX90 hown hK hP 0 rfl rfl 4 (by decide) (hts _ qX9_best_0) (fun _ h9 => h9) rfl dX9_best_8 ?_
  refine lv_aload_n hx hb dX9_best_11 rfl (lv_at hl 0 rfl) ?_
  refine va_get (D := (dC, dI)) (ci := 8) (v := .ref aP) (C := RX9) (T := TX9) (N := 8) hx hb hts inX9_best_wsX90 hown hK hP 0 rfl rfl 5 (by decide) (hts _ qX9_best_1) (fun _ h9 => h9) rfl dX9_best_12 ?_
  refine wk_callv (wc := [(aT, .inr (7, [.ref aTb, .int tn])), (aTb, .inl (cyI, 64, .inl tb)), (aS, .inr (6, [.int sw, .int sl, .int sg, .int sp])), (aW, .inr (0, [.ref aT, .ref aS, .ref aWw, .ref aWr, .ref aWm, .ref aWl, .ref aWd])), (aWw, .inl (cyI, 4225, .inl ww_1)), (aWm, .inl (cyI, 64, .inl wm_3)), (aWl, .inl (cyI, 64, .inl wl_4)), (aWd, .inl (cyI, 64, .inl wd_5)), (aP, .inr (3, [.ref aPk, .ref aPl, .ref aPd, .ref aPs, .int pn, .int pch])), (aPk, .inl (cyI, 64, .inl pk)), (aPl, .inl (cyI, 64, .inl pl)), (aPd, .inl (cyI, 64, .inl pd)), (aPs, .inl (cyI, 64, .inl ps))]) (wr := [(aX, .inr (8, [.ref aT, .ref aS, .ref aF, .ref aQ, .ref aW, .ref aP, .ref aB, .ref aR])), (aWr, .inl (cyI, 65, .inl wr_2))]) (va_runV (As := [.ref aP]) (rest := []) C0 (mtX0_choose l dC dI cyI (aT := aT) (aTb := aTb) (aS := aS) (aW := aW) (aWw := aWw) (aWr := aWr) (aWm := aWm) (aWl := aWl) (aWd := aWd) (aP := aP) (aPk := aPk) (aPl := aPl) (aPd := aPd) (aPs := aPs) (sz := _) (tn := tn) (tb := tb) (sw := sw) (sl := sl) (sg := sg) (sp := sp) (ww := ww_1) (wm := wm_3) (wl := wl_4) (wd := wd_5) (pn := pn) (pch := pch) (pk := pk) (pl := pl) (pd := pd) (ps := ps) h) (cwV 1 hts gX9_best_X0_choose rfl rfl rfl (by decide +kernel) ⟨(Nat.le_of_ble_eq_true rfl), (Nat.le_of_ble_eq_true rfl)⟩) (wk_preV (wc := [(aT, .inr (7, [.ref aTb, .int tn])), (aTb, .inl (cyI, 64, .inl tb)), (aS, .inr (6, [.int sw, .int sl, .int sg, .int sp])), (aW, .inr (0, [.ref aT, .ref aS, .ref aWw, .ref aWr, .ref aWm, .ref aWl, .ref aWd])), (aWw, .inl (cyI, 4225, .inl ww_1)), (aWm, .inl (cyI, 64, .inl wm_3)), (aWl, .inl (cyI, 64, .inl wl_4)), (aWd, .inl (cyI, 64, .inl wd_5)), (aP, .inr (3, [.ref aPk, .ref aPl, .ref aPd, .ref aPs, .int pn, .int pch])), (aPk, .inl (cyI, 64, .inl pk)), (aPl, .inl (cyI, 64, .inl pl)), (aPd, .inl (cyI, 64, .inl pd)), (aPs, .inl (cyI, 64, .inl ps))]) hK hP hD [6, 7, 8, 9, 10, 12, 13, 14, 1, 2, 3, 4, 5] rfl (by decide) (va_recv hK hP (ci := 0) (q0 := 9) rfl rfl)) rfl rfl hl.1 rfl (lv_room (Nat.le_of_ble_eq_true rfl)) dX9_best_15 ⟨(Nat.le_of_ble_eq_true rfl), (Nat.le_of_ble_eq_true rfl)⟩) hP hD hS hA [6, 7, 8, 9, 10, 12, 13, 14, 1, 2, 3, 4, 5] [0, 11] rfl rfl (by decide) (by decide) (fun u9 H locs h hP hD hS => ?_)
  obtain ⟨pn_6, pch_7, pk_8, pl_9, pd_10, ps_11⟩ := u9
  have hP : va_P (dC, dI) vwCl [(aX, .inr (8, [.ref aT, .ref aS, .ref aF, .ref aQ, .ref aW, .ref aP, .ref aB, .ref aR])), (aWr, .inl (cyI, 65, .inl wr_2)), (aT, .inr (7, [.ref aTb, .int tn])), (aTb, .inl (cyI, 64, .inl tb)), (aS, .inr (6, [.int sw, .int sl, .int sg, .int sp])), (aW, .inr (0, [.ref aT, .ref aS, .ref aWw, .ref aWr, .ref aWm, .ref aWl, .ref aWd])), (aWw, .inl (cyI, 4225, .inl ww_1)), (aWm, .inl (cyI, 64, .inl wm_3)), (aWl, .inl (cyI, 64, .inl wl_4)), (aWd, .inl (cyI, 64, .inl wd_5)), (aP, .inr (3, [.ref aPk, .ref aPl, .ref aPd, .ref aPs, .int pn_6, .int pch_7])), (aPk, .inl (cyI, 64, .inl pk_8)), (aPl, .inl (cyI, 64, .inl pl_9)), (aPd, .inl (cyI, 64, .inl pd_10)), (aPs, .inl (cyI, 64, .inl ps_11))] H := hP
  have hD : va_D A [(aX, .inr (8, [.ref aT, .ref aS, .ref aF, .ref aQ, .ref aW, .ref aP, .ref aB, .ref aR])), (aWr, .inl (cyI, 65, .inl wr_2)), (aT, .inr (7, [.ref aTb, .int tn])), (aTb, .inl (cyI, 64, .inl tb)), (aS, .inr (6, [.int sw, .int sl, .int sg, .int sp])), (aW, .inr (0, [.ref aT, .ref aS, .ref aWw, .ref aWr, .ref aWm, .ref aWl, .ref aWd])), (aWw, .inl (cyI, 4225, .inl ww_1)), (aWm, .inl (cyI, 64, .inl wm_3)), (aWl, .inl (cyI, 64, .inl wl_4)), (aWd, .inl (cyI, 64, .inl wd_5)), (aP, .inr (3, [.ref aPk, .ref aPl, .ref aPd, .ref aPs, .int pn_6, .int pch_7])), (aPk, .inl (cyI, 64, .inl pk_8)), (aPl, .inl (cyI, 64, .inl pl_9)), (aPd, .inl (cyI, 64, .inl pd_10)), (aPs, .inl (cyI, 64, .inl ps_11))] := hD
  dsimp only at h
  refine lv_aload_n hx hb dX9_best_18 rfl (lv_at hl 0 rfl) ?_
  refine wk_calli (wc := [(aX, .inr (8, [.ref aT, .ref aS, .ref aF, .ref aQ, .ref aW, .ref aP, .ref aB, .ref aR])), (aS, .inr (6, [.int sw, .int sl, .int sg, .int sp])), (aP, .inr (3, [.ref aPk, .ref aPl, .ref aPd, .ref aPs, .int pn_6, .int pch_7])), (aPk, .inl (cyI, 64, .inl pk_8)), (aPl, .inl (cyI, 64, .inl pl_9)), (aPd, .inl (cyI, 64, .inl pd_10))]) (wr := [(aWr, .inl (cyI, 65, .inl wr_2)), (aT, .inr (7, [.ref aTb, .int tn])), (aTb, .inl (cyI, 64, .inl tb)), (aW, .inr (0, [.ref aT, .ref aS, .ref aWw, .ref aWr, .ref aWm, .ref aWl, .ref aWd])), (aWw, .inl (cyI, 4225, .inl ww_1)), (aWm, .inl (cyI, 64, .inl wm_3)), (aWl, .inl (cyI, 64, .inl wl_4)), (aWd, .inl (cyI, 64, .inl wd_5)), (aPs, .inl (cyI, 64, .inl ps_11))]) (va_runV (As := []) (rest := []) C0 (mtX9_costOfPlan l dC dI cyI (aX := aX) (aT := aT) (aS := aS) (aF := aF) (aQ := aQ) (aW := aW) (aP := aP) (aPk := aPk) (aPl := aPl) (aPd := aPd) (aPs := aPs) (aB := aB) (aR := aR) (sz := _) (sw := sw) (sl := sl) (sg := sg) (sp := sp) (pn := pn_6) (pch := pch_7) (pk := pk_8) (pl := pl_9) (pd := pd_10) h) (cwV 0 hts gX9_best_X9_costOfPlan rfl rfl rfl (by decide +kernel) ⟨(Nat.le_of_ble_eq_true rfl), (Nat.le_of_ble_eq_true rfl)⟩) (wk_preV (wc := [(aX, .inr (8, [.ref aT, .ref aS, .ref aF, .ref aQ, .ref aW, .ref aP, .ref aB, .ref aR])), (aS, .inr (6, [.int sw, .int sl, .int sg, .int sp])), (aP, .inr (3, [.ref aPk, .ref aPl, .ref aPd, .ref aPs, .int pn_6, .int pch_7])), (aPk, .inl (cyI, 64, .inl pk_8)), (aPl, .inl (cyI, 64, .inl pl_9)), (aPd, .inl (cyI, 64, .inl pd_10))]) hK hP hD [0, 4, 10, 11, 12, 13] rfl (by decide) (va_recv hK hP (ci := 8) (q0 := 0) rfl rfl)) rfl rfl hl.1 rfl (lv_room (Nat.le_of_ble_eq_true rfl)) dX9_best_19 ⟨(Nat.le_of_ble_eq_true rfl), (Nat.le_of_ble_eq_true rfl)⟩) hP hD hS hA [0, 4, 10, 11, 12, 13] [1, 2, 3, 5, 6, 7, 8, 9, 14] rfl rfl (by decide) (by decide) (fun r_12 u9 H locs h hP hD hS => ?_)
  have hP : va_P (dC, dI) vwCl [(aWr, .inl (cyI, 65, .inl wr_2)), (aT, .inr (7, [.ref aTb, .int tn])), (aTb, .inl (cyI, 64, .inl tb)), (aW, .inr (0, [.ref aT, .ref aS, .ref aWw, .ref aWr, .ref aWm, .ref aWl, .ref aWd])), (aWw, .inl (cyI, 4225, .inl ww_1)), (aWm, .inl (cyI, 64, .inl wm_3)), (aWl, .inl (cyI, 64, .inl wl_4)), (aWd, .inl (cyI, 64, .inl wd_5)), (aPs, .inl (cyI, 64, .inl ps_11)), (aX, .inr (8, [.ref aT, .ref aS, .ref aF, .ref aQ, .ref aW, .ref aP, .ref aB, .ref aR])), (aS, .inr (6, [.int sw, .int sl, .int sg, .int sp])), (aP, .inr (3, [.ref aPk, .ref aPl, .ref aPd, .ref aPs, .int pn_6, .int pch_7])), (aPk, .inl (cyI, 64, .inl pk_8)), (aPl, .inl (cyI, 64, .inl pl_9)), (aPd, .inl (cyI, 64, .inl pd_10))] H := hP
  have hD : va_D A [(aWr, .inl (cyI, 65, .inl wr_2)), (aT, .inr (7, [.ref aTb, .int tn])), (aTb, .inl (cyI, 64, .inl tb)), (aW, .inr (0, [.ref aT, .ref aS, .ref aWw, .ref aWr, .ref aWm, .ref aWl, .ref aWd])), (aWw, .inl (cyI, 4225, .inl ww_1)), (aWm, .inl (cyI, 64, .inl wm_3)), (aWl, .inl (cyI, 64, .inl wl_4)), (aWd, .inl (cyI, 64, .inl wd_5)), (aPs, .inl (cyI, 64, .inl ps_11)), (aX, .inr (8, [.ref aT, .ref aS, .ref aF, .ref aQ, .ref aW, .ref aP, .ref aB, .ref aR])), (aS, .inr (6, [.int sw, .int sl, .int sg, .int sp])), (aP, .inr (3, [.ref aPk, .ref aPl, .ref aPd, .ref aPs, .int pn_6, .int pch_7])), (aPk, .inl (cyI, 64, .inl pk_8)), (aPl, .inl (cyI, 64, .inl pl_9)), (aPd, .inl (cyI, 64, .inl pd_10))] := hD
  have hP9 : va_P (dC, dI) vwCl [(aX, .inr (8, [.ref aT, .ref aS, .ref aF, .ref aQ, .ref aW, .ref aP, .ref aB, .ref aR])), (aT, .inr (7, [.ref aTb, .int tn])), (aTb, .inl (cyI, 64, .inl tb)), (aS, .inr (6, [.int sw, .int sl, .int sg, .int sp])), (aW, .inr (0, [.ref aT, .ref aS, .ref aWw, .ref aWr, .ref aWm, .ref aWl, .ref aWd])), (aWw, .inl (cyI, 4225, .inl ww_1)), (aWr, .inl (cyI, 65, .inl wr_2)), (aWm, .inl (cyI, 64, .inl wm_3)), (aWl, .inl (cyI, 64, .inl wl_4)), (aWd, .inl (cyI, 64, .inl wd_5)), (aP, .inr (3, [.ref aPk, .ref aPl, .ref aPd, .ref aPs, .int pn_6, .int pch_7])), (aPk, .inl (cyI, 64, .inl pk_8)), (aPl, .inl (cyI, 64, .inl pl_9)), (aPd, .inl (cyI, 64, .inl pd_10)), (aPs, .inl (cyI, 64, .inl ps_11))] _ := (hP.sub [9, 1, 2, 10, 3, 4, 0, 5, 6, 7, 11, 12, 13, 14, 8] rfl)
  have hD9 : va_D A [(aX, .inr (8, [.ref aT, .ref aS, .ref aF, .ref aQ, .ref aW, .ref aP, .ref aB, .ref aR])), (aT, .inr (7, [.ref aTb, .int tn])), (aTb, .inl (cyI, 64, .inl tb)), (aS, .inr (6, [.int sw, .int sl, .int sg, .int sp])), (aW, .inr (0, [.ref aT, .ref aS, .ref aWw, .ref aWr, .ref aWm, .ref aWl, .ref aWd])), (aWw, .inl (cyI, 4225, .inl ww_1)), (aWr, .inl (cyI, 65, .inl wr_2)), (aWm, .inl (cyI, 64, .inl wm_3)), (aWl, .inl (cyI, 64, .inl wl_4)), (aWd, .inl (cyI, 64, .inl wd_5)), (aP, .inr (3, [.ref aPk, .ref aPl, .ref aPd, .ref aPs, .int pn_6, .int pch_7])), (aPk, .inl (cyI, 64, .inl pk_8)), (aPl, .inl (cyI, 64, .inl pl_9)), (aPd, .inl (cyI, 64, .inl pd_10)), (aPs, .inl (cyI, 64, .inl ps_11))] := (hD.sub [9, 1, 2, 10, 3, 4, 0, 5, 6, 7, 11, 12, 13, 14, 8] (by decide) rfl)
  exact W.iret (v := r_12) hx hb hr (fun t ht hW => ⟨⟨r_12, (ww_1, wr_2, wm_3, wl_4, wd_5, pn_6, pch_7, pk_8, pl_9, pd_10, ps_11), rfl, h, by rw [ht]; exact hP9, va_K.moved hW.alike hK, hD9⟩, hS.F ht⟩) hS.2.2 dX9_best_22
-- X9_greedy
theorem qX9_greedy_0 : Cond.fieldLink RX9 37 "MatchCoder" "quickWay" "LMatchCoder$QuickWay;" ∈ wsX9_greedy := (List.mem_cons_of_mem _ (List.mem_append_left _ (List.mem_append_left _ (List.mem_append_left _ (List.mem_append_left _ (List.mem_append_left _ (List.mem_append_left _ (List.mem_append_left _ (List.mem_of_getElem? (i := 0) rfl)))))))))
theorem qX9_greedy_1 : Cond.fieldLink RX9 51 "MatchCoder" "plan" "LMatchCoder$Plan;" ∈ wsX9_greedy := (List.mem_cons_of_mem _ (List.mem_append_left _ (List.mem_append_left _ (List.mem_append_left _ (List.mem_append_left _ (List.mem_append_left _ (List.mem_append_left _ (List.mem_append_left _ (List.mem_of_getElem? (i := 1) rfl)))))))))
theorem inX9_greedy_wsX90 : ∀ w ∈ wsX90, w ∈ wsX9_greedy := fun _ h => List.mem_cons_of_mem _ (List.mem_append_left _ (List.mem_append_left _ (List.mem_append_left _ (List.mem_append_left _ (List.mem_append_left _ (List.mem_append_right _ h))))))
def wpX9_greedy (tn : Int32) (tb : Nat → Int32) (sw : Int32) (sl : Int32) (sg : Int32) (sp : Int32) (pk : Nat → Int32) (pl : Nat → Int32) (pd : Nat → Int32) (ps : Nat → Int32) (post : Int32 → Int32 → Int32 → (Nat → Int32) → (Nat → Int32) → (Nat → Int32) → (Nat → Int32) → Prop) : Prop := wpX5_choose tn tb sw sl sg pk pl pd ps 0 (fun (pn_1 : Int32) (pch_2 : Int32) (pk_3 : Nat → Int32) (pl_4 : Nat → Int32) (pd_5 : Nat → Int32) (ps_6 : Nat → Int32) => wpX9_costOfPlan sp pn_1 pk_3 pl_4 pd_5 (fun (r_7 : Int32) => post r_7 pn_1 pch_2 pk_3 pl_4 pd_5 ps_6))
set_option maxHeartbeats 4000000 in
set_option maxRecDepth 100000 in
theorem mtX9_greedy (l : Launch) (dC : Nat → ClassId) (dI : Nat → Nat → Nat) (cyI : ClassId) {aX aT aTb aS aF aQ aW aP aPk aPl aPd aPs aB aR : Nat} {sz : Nat} {tn : Int32} {tb : Nat → Int32} {sw : Int32} {sl : Int32} {sg : Int32} {sp : Int32} {pn : Int32} {pch : Int32} {pk : Nat → Int32} {pl : Nat → Int32} {pd : Nat → Int32} {ps : Nat → Int32} {post : Int32 → Int32 → Int32 → (Nat → Int32) → (Nat → Int32) → (Nat → Int32) → (Nat → Int32) → Prop} (h : wpX9_greedy tn tb sw sl sg sp pk pl pd ps post) : Met l yX9_greedy wsX9_greedy ({ frames := 5, cells := 0, slots := 0, locals := 118 }) (va_Pc [.ref aX] (wk_B (dC, dI) [(cyI, .int)] [(aX, .inr (8, [.ref aT, .ref aS, .ref aF, .ref aQ, .ref aW, .ref aP, .ref aB, .ref aR])), (aT, .inr (7, [.ref aTb, .int tn])), (aTb, .inl (cyI, 64, .inl tb)), (aS, .inr (6, [.int sw, .int sl, .int sg, .int sp])), (aF, .inr (2, [.ref aT, .ref aS])), (aQ, .inr (4, [.ref aT, .ref aF])), (aP, .inr (3, [.ref aPk, .ref aPl, .ref aPd, .ref aPs, .int pn, .int pch])), (aPk, .inl (cyI, 64, .inl pk)), (aPl, .inl (cyI, 64, .inl pl)), (aPd, .inl (cyI, 64, .inl pd)), (aPs, .inl (cyI, 64, .inl ps))] sz)) (va_Qi (fun (r : Int32) (u : Int32 × Int32 × (Nat → Int32) × (Nat → Int32) × (Nat → Int32) × (Nat → Int32)) => post r u.1 u.2.1 u.2.2.1 u.2.2.2.1 u.2.2.2.2.1 u.2.2.2.2.2) (wk_C (dC, dI) [(cyI, .int)] (va_A [(aX, .inr (8, [.ref aT, .ref aS, .ref aF, .ref aQ, .ref aW, .ref aP, .ref aB, .ref aR])), (aT, .inr (7, [.ref aTb, .int tn])), (aTb, .inl (cyI, 64, .inl tb)), (aS, .inr (6, [.int sw, .int sl, .int sg, .int sp])), (aF, .inr (2, [.ref aT, .ref aS])), (aQ, .inr (4, [.ref aT, .ref aF])), (aP, .inr (3, [.ref aPk, .ref aPl, .ref aPd, .ref aPs, .int pn, .int pch])), (aPk, .inl (cyI, 64, .inl pk)), (aPl, .inl (cyI, 64, .inl pl)), (aPd, .inl (cyI, 64, .inl pd)), (aPs, .inl (cyI, 64, .inl ps))] sz) (fun (u : Int32 × Int32 × (Nat → Int32) × (Nat → Int32) × (Nat → Int32) × (Nat → Int32)) => [(aX, .inr (8, [.ref aT, .ref aS, .ref aF, .ref aQ, .ref aW, .ref aP, .ref aB, .ref aR])), (aT, .inr (7, [.ref aTb, .int tn])), (aTb, .inl (cyI, 64, .inl tb)), (aS, .inr (6, [.int sw, .int sl, .int sg, .int sp])), (aF, .inr (2, [.ref aT, .ref aS])), (aQ, .inr (4, [.ref aT, .ref aF])), (aP, .inr (3, [.ref aPk, .ref aPl, .ref aPd, .ref aPs, .int (u.1), .int (u.2.1)])), (aPk, .inl (cyI, 64, .inl (u.2.2.1))), (aPl, .inl (cyI, 64, .inl (u.2.2.2.1))), (aPd, .inl (cyI, 64, .inl (u.2.2.2.2.1))), (aPs, .inl (cyI, 64, .inl (u.2.2.2.2.2)))])) (va_A [(aX, .inr (8, [.ref aT, .ref aS, .ref aF, .ref aQ, .ref aW, .ref aP, .ref aB, .ref aR])), (aT, .inr (7, [.ref aTb, .int tn])), (aTb, .inl (cyI, 64, .inl tb)), (aS, .inr (6, [.int sw, .int sl, .int sg, .int sp])), (aF, .inr (2, [.ref aT, .ref aS])), (aQ, .inr (4, [.ref aT, .ref aF])), (aP, .inr (3, [.ref aPk, .ref aPl, .ref aPd, .ref aPs, .int pn, .int pch])), (aPk, .inl (cyI, 64, .inl pk)), (aPl, .inl (cyI, 64, .inl pl)), (aPd, .inl (cyI, 64, .inl pd)), (aPs, .inl (cyI, 64, .inl ps))] sz)) 0 0 (va_A [(aX, .inr (8, [.ref aT, .ref aS, .ref aF, .ref aQ, .ref aW, .ref aP, .ref aB, .ref aR])), (aT, .inr (7, [.ref aTb, .int tn])), (aTb, .inl (cyI, 64, .inl tb)), (aS, .inr (6, [.int sw, .int sl, .int sg, .int sp])), (aF, .inr (2, [.ref aT, .ref aS])), (aQ, .inr (4, [.ref aT, .ref aF])), (aP, .inr (3, [.ref aPk, .ref aPl, .ref aPd, .ref aPs, .int pn, .int pch])), (aPk, .inl (cyI, 64, .inl pk)), (aPl, .inl (cyI, 64, .inl pl)), (aPd, .inl (cyI, 64, .inl pd)), (aPs, .inl (cyI, 64, .inl ps))] sz) := by
  refine Met.ofW (cc := cX9_greedy) (maxL := 1) (ret := (some .int)) (by decide) rfl ?_
  intro p e s m args below meth c s₁ B hml hv
  obtain ⟨rfl, hsz, hP, hK, hD0⟩ := hv
  have hx := B.exec
  have hb := B.bytes
  have hr := B.returns
  have hts := atoms_spec (ws := wsX9_greedy) B.pre
  have hown : s.vm.findClass RX9 = some m.cls := findClass_of_methodNamed B.named
  have hlocks := B.notSynchronized
  subst hsz
  have hD := hD0.self (sz := s.heap.size)
  generalize hAe : va_A [(aX, .inr (8, [.ref aT, .ref aS, .ref aF, .ref aQ, .ref aW, .ref aP, .ref aB, .ref aR])), (aT, .inr (7, [.ref aTb, .int tn])), (aTb, .inl (cyI, 64, .inl tb)), (aS, .inr (6, [.int sw, .int sl, .int sg, .int sp])), (aF, .inr (2, [.ref aT, .ref aS])), (aQ, .inr (4, [.ref aT, .ref aF])), (aP, .inr (3, [.ref aPk, .ref aPl, .ref aPd, .ref aPs, .int pn, .int pch])), (aPk, .inl (cyI, 64, .inl pk)), (aPl, .inl (cyI, 64, .inl pl)), (aPd, .inl (cyI, 64, .inl pd)), (aPs, .inl (cyI, 64, .inl ps))] s.heap.size = A at hD ⊢
  have hA : ∀ q : Nat, s.heap.size ≤ q → A q := fun q h => by rw [← hAe]; exact Or.inr h
  have hS : va_S A s.heap s.heap [] := va_S.rf
  have hP : va_P (dC, dI) vwCl [(aX, .inr (8, [.ref aT, .ref aS, .ref aF, .ref aQ, .ref aW, .ref aP, .ref aB, .ref aR])), (aT, .inr (7, [.ref aTb, .int tn])), (aTb, .inl (cyI, 64, .inl tb)), (aS, .inr (6, [.int sw, .int sl, .int sg, .int sp])), (aF, .inr (2, [.ref aT, .ref aS])), (aQ, .inr (4, [.ref aT, .ref aF])), (aP, .inr (3, [.ref aPk, .ref aPl, .ref aPd, .ref aPs, .int pn, .int pch])), (aPk, .inl (cyI, 64, .inl pk)), (aPl, .inl (cyI, 64, .inl pl)), (aPd, .inl (cyI, 64, .inl pd)), (aPs, .inl (cyI, 64, .inl ps))] s.heap := hP
  have hl := lv_entry ([.ref aX]) (n := 1) (Nat.le_of_ble_eq_true rfl)
  rw [lg_entry_eq]
  generalize (lg_sl ([.ref aX]) ++ List.replicate (1 - (lg_sl ([.ref aX])).length) Slot.unset).toArray = ls at hl ⊢
  have hl : lv_has ls 1 [(0, .ref aX)] := hl
  have C0 : CallFix p m c cX9_greedy 1 s ([.ref aX] : List Value).toArray wsX9_greedy RX9 := ⟨hx, hb, hml, hown, hts⟩
  unfold wpX9_greedy at h
  refine lv_aload_n hx hb dX9_greedy_0 rfl (lv_at hl 0 rfl) ?_
  refine va_get (D := (dC, dI)) (ci := 8) (v := .ref aQ) (C := RX9) (T := TX9) (N := 8) hx hb hts inX9_greedy_wsX90 hown hK hP 0 rfl rfl 3 (by decide) (hts _ qX9_greedy_0) (fun _ h9 => h9) rfl dX9_greedy_1 ?_
  refine lv_aload_n hx hb dX9_greedy_4 rfl (lv_at hl 0 rfl) ?_
  refine va_get (D := (dC, dI)) (ci := 8) (v := .ref aP) (C := RX9) (T := TX9) (N := 8) hx hb hts inX9_greedy_wsX90 hown hK hP 0 rfl rfl 5 (by decide) (hts _ qX9_greedy_1) (fun _ h9 => h9) rfl dX9_greedy_5 ?_
  refine lv_iconst (v := 0) hx hb dX9_greedy_8 (by decide) ?_
  refine wk_callv (wc := [(aT, .inr (7, [.ref aTb, .int tn])), (aTb, .inl (cyI, 64, .inl tb)), (aS, .inr (6, [.int sw, .int sl, .int sg, .int sp])), (aF, .inr (2, [.ref aT, .ref aS])), (aQ, .inr (4, [.ref aT, .ref aF])), (aP, .inr (3, [.ref aPk, .ref aPl, .ref aPd, .ref aPs, .int pn, .int pch])), (aPk, .inl (cyI, 64, .inl pk)), (aPl, .inl (cyI, 64, .inl pl)), (aPd, .inl (cyI, 64, .inl pd)), (aPs, .inl (cyI, 64, .inl ps))]) (wr := [(aX, .inr (8, [.ref aT, .ref aS, .ref aF, .ref aQ, .ref aW, .ref aP, .ref aB, .ref aR]))]) (va_runV (As := [.ref aP, .int 0]) (rest := []) C0 (mtX5_choose l dC dI cyI (aT := aT) (aTb := aTb) (aS := aS) (aF := aF) (aQ := aQ) (aP := aP) (aPk := aPk) (aPl := aPl) (aPd := aPd) (aPs := aPs) (sz := _) (tn := tn) (tb := tb) (sw := sw) (sl := sl) (sg := sg) (sp := sp) (pn := pn) (pch := pch) (pk := pk) (pl := pl) (pd := pd) (ps := ps) (v2 := 0) h) (cwV 2 hts gX9_greedy_X5_choose rfl rfl rfl (by decide +kernel) ⟨(Nat.le_of_ble_eq_true rfl), (Nat.le_of_ble_eq_true rfl)⟩) (wk_preV (wc := [(aT, .inr (7, [.ref aTb, .int tn])), (aTb, .inl (cyI, 64, .inl tb)), (aS, .inr (6, [.int sw, .int sl, .int sg, .int sp])), (aF, .inr (2, [.ref aT, .ref aS])), (aQ, .inr (4, [.ref aT, .ref aF])), (aP, .inr (3, [.ref aPk, .ref aPl, .ref aPd, .ref aPs, .int pn, .int pch])), (aPk, .inl (cyI, 64, .inl pk)), (aPl, .inl (cyI, 64, .inl pl)), (aPd, .inl (cyI, 64, .inl pd)), (aPs, .inl (cyI, 64, .inl ps))]) hK hP hD [1, 2, 3, 4, 5, 6, 7, 8, 9, 10] rfl (by decide) (va_recv hK hP (ci := 4) (q0 := 5) rfl rfl)) rfl rfl hl.1 rfl (lv_room (Nat.le_of_ble_eq_true rfl)) dX9_greedy_9 ⟨(Nat.le_of_ble_eq_true rfl), (Nat.le_of_ble_eq_true rfl)⟩) hP hD hS hA [1, 2, 3, 4, 5, 6, 7, 8, 9, 10] [0] rfl rfl (by decide) (by decide) (fun u9 H locs h hP hD hS => ?_)
  obtain ⟨pn_1, pch_2, pk_3, pl_4, pd_5, ps_6⟩ := u9
  have hP : va_P (dC, dI) vwCl [(aX, .inr (8, [.ref aT, .ref aS, .ref aF, .ref aQ, .ref aW, .ref aP, .ref aB, .ref aR])), (aT, .inr (7, [.ref aTb, .int tn])), (aTb, .inl (cyI, 64, .inl tb)), (aS, .inr (6, [.int sw, .int sl, .int sg, .int sp])), (aF, .inr (2, [.ref aT, .ref aS])), (aQ, .inr (4, [.ref aT, .ref aF])), (aP, .inr (3, [.ref aPk, .ref aPl, .ref aPd, .ref aPs, .int pn_1, .int pch_2])), (aPk, .inl (cyI, 64, .inl pk_3)), (aPl, .inl (cyI, 64, .inl pl_4)), (aPd, .inl (cyI, 64, .inl pd_5)), (aPs, .inl (cyI, 64, .inl ps_6))] H := hP
  have hD : va_D A [(aX, .inr (8, [.ref aT, .ref aS, .ref aF, .ref aQ, .ref aW, .ref aP, .ref aB, .ref aR])), (aT, .inr (7, [.ref aTb, .int tn])), (aTb, .inl (cyI, 64, .inl tb)), (aS, .inr (6, [.int sw, .int sl, .int sg, .int sp])), (aF, .inr (2, [.ref aT, .ref aS])), (aQ, .inr (4, [.ref aT, .ref aF])), (aP, .inr (3, [.ref aPk, .ref aPl, .ref aPd, .ref aPs, .int pn_1, .int pch_2])), (aPk, .inl (cyI, 64, .inl pk_3)), (aPl, .inl (cyI, 64, .inl pl_4)), (aPd, .inl (cyI, 64, .inl pd_5)), (aPs, .inl (cyI, 64, .inl ps_6))] := hD
  dsimp only at h
  refine lv_aload_n hx hb dX9_greedy_12 rfl (lv_at hl 0 rfl) ?_
  refine wk_calli (wc := [(aX, .inr (8, [.ref aT, .ref aS, .ref aF, .ref aQ, .ref aW, .ref aP, .ref aB, .ref aR])), (aS, .inr (6, [.int sw, .int sl, .int sg, .int sp])), (aP, .inr (3, [.ref aPk, .ref aPl, .ref aPd, .ref aPs, .int pn_1, .int pch_2])), (aPk, .inl (cyI, 64, .inl pk_3)), (aPl, .inl (cyI, 64, .inl pl_4)), (aPd, .inl (cyI, 64, .inl pd_5))]) (wr := [(aT, .inr (7, [.ref aTb, .int tn])), (aTb, .inl (cyI, 64, .inl tb)), (aF, .inr (2, [.ref aT, .ref aS])), (aQ, .inr (4, [.ref aT, .ref aF])), (aPs, .inl (cyI, 64, .inl ps_6))]) (va_runV (As := []) (rest := []) C0 (mtX9_costOfPlan l dC dI cyI (aX := aX) (aT := aT) (aS := aS) (aF := aF) (aQ := aQ) (aW := aW) (aP := aP) (aPk := aPk) (aPl := aPl) (aPd := aPd) (aPs := aPs) (aB := aB) (aR := aR) (sz := _) (sw := sw) (sl := sl) (sg := sg) (sp := sp) (pn := pn_1) (pch := pch_2) (pk := pk_3) (pl := pl_4) (pd := pd_5) h) (cwV 0 hts gX9_greedy_X9_costOfPlan rfl rfl rfl (by decide +kernel) ⟨(Nat.le_of_ble_eq_true rfl), (Nat.le_of_ble_eq_true rfl)⟩) (wk_preV (wc := [(aX, .inr (8, [.ref aT, .ref aS, .ref aF, .ref aQ, .ref aW, .ref aP, .ref aB, .ref aR])), (aS, .inr (6, [.int sw, .int sl, .int sg, .int sp])), (aP, .inr (3, [.ref aPk, .ref aPl, .ref aPd, .ref aPs, .int pn_1, .int pch_2])), (aPk, .inl (cyI, 64, .inl pk_3)), (aPl, .inl (cyI, 64, .inl pl_4)), (aPd, .inl (cyI, 64, .inl pd_5))]) hK hP hD [0, 3, 6, 7, 8, 9] rfl (by decide) (va_recv hK hP (ci := 8) (q0 := 0) rfl rfl)) rfl rfl hl.1 rfl (lv_room (Nat.le_of_ble_eq_true rfl)) dX9_greedy_13 ⟨(Nat.le_of_ble_eq_true rfl), (Nat.le_of_ble_eq_true rfl)⟩) hP hD hS hA [0, 3, 6, 7, 8, 9] [1, 2, 4, 5, 10] rfl rfl (by decide) (by decide) (fun r_7 u9 H locs h hP hD hS => ?_)
  have hP : va_P (dC, dI) vwCl [(aT, .inr (7, [.ref aTb, .int tn])), (aTb, .inl (cyI, 64, .inl tb)), (aF, .inr (2, [.ref aT, .ref aS])), (aQ, .inr (4, [.ref aT, .ref aF])), (aPs, .inl (cyI, 64, .inl ps_6)), (aX, .inr (8, [.ref aT, .ref aS, .ref aF, .ref aQ, .ref aW, .ref aP, .ref aB, .ref aR])), (aS, .inr (6, [.int sw, .int sl, .int sg, .int sp])), (aP, .inr (3, [.ref aPk, .ref aPl, .ref aPd, .ref aPs, .int pn_1, .int pch_2])), (aPk, .inl (cyI, 64, .inl pk_3)), (aPl, .inl (cyI, 64, .inl pl_4)), (aPd, .inl (cyI, 64, .inl pd_5))] H := hP
  have hD : va_D A [(aT, .inr (7, [.ref aTb, .int tn])), (aTb, .inl (cyI, 64, .inl tb)), (aF, .inr (2, [.ref aT, .ref aS])), (aQ, .inr (4, [.ref aT, .ref aF])), (aPs, .inl (cyI, 64, .inl ps_6)), (aX, .inr (8, [.ref aT, .ref aS, .ref aF, .ref aQ, .ref aW, .ref aP, .ref aB, .ref aR])), (aS, .inr (6, [.int sw, .int sl, .int sg, .int sp])), (aP, .inr (3, [.ref aPk, .ref aPl, .ref aPd, .ref aPs, .int pn_1, .int pch_2])), (aPk, .inl (cyI, 64, .inl pk_3)), (aPl, .inl (cyI, 64, .inl pl_4)), (aPd, .inl (cyI, 64, .inl pd_5))] := hD
  have hP9 : va_P (dC, dI) vwCl [(aX, .inr (8, [.ref aT, .ref aS, .ref aF, .ref aQ, .ref aW, .ref aP, .ref aB, .ref aR])), (aT, .inr (7, [.ref aTb, .int tn])), (aTb, .inl (cyI, 64, .inl tb)), (aS, .inr (6, [.int sw, .int sl, .int sg, .int sp])), (aF, .inr (2, [.ref aT, .ref aS])), (aQ, .inr (4, [.ref aT, .ref aF])), (aP, .inr (3, [.ref aPk, .ref aPl, .ref aPd, .ref aPs, .int pn_1, .int pch_2])), (aPk, .inl (cyI, 64, .inl pk_3)), (aPl, .inl (cyI, 64, .inl pl_4)), (aPd, .inl (cyI, 64, .inl pd_5)), (aPs, .inl (cyI, 64, .inl ps_6))] _ := (hP.sub [5, 0, 1, 6, 2, 3, 7, 8, 9, 10, 4] rfl)
  have hD9 : va_D A [(aX, .inr (8, [.ref aT, .ref aS, .ref aF, .ref aQ, .ref aW, .ref aP, .ref aB, .ref aR])), (aT, .inr (7, [.ref aTb, .int tn])), (aTb, .inl (cyI, 64, .inl tb)), (aS, .inr (6, [.int sw, .int sl, .int sg, .int sp])), (aF, .inr (2, [.ref aT, .ref aS])), (aQ, .inr (4, [.ref aT, .ref aF])), (aP, .inr (3, [.ref aPk, .ref aPl, .ref aPd, .ref aPs, .int pn_1, .int pch_2])), (aPk, .inl (cyI, 64, .inl pk_3)), (aPl, .inl (cyI, 64, .inl pl_4)), (aPd, .inl (cyI, 64, .inl pd_5)), (aPs, .inl (cyI, 64, .inl ps_6))] := (hD.sub [5, 0, 1, 6, 2, 3, 7, 8, 9, 10, 4] (by decide) rfl)
  exact W.iret (v := r_7) hx hb hr (fun t ht hW => ⟨⟨r_7, (pn_1, pch_2, pk_3, pl_4, pd_5, ps_6), rfl, h, by rw [ht]; exact hP9, va_K.moved hW.alike hK, hD9⟩, hS.F ht⟩) hS.2.2 dX9_greedy_16
-- X9_lazy
theorem qX9_lazy_0 : Cond.fieldLink RX9 37 "MatchCoder" "quickWay" "LMatchCoder$QuickWay;" ∈ wsX9_lazy := (List.mem_cons_of_mem _ (List.mem_append_left _ (List.mem_append_left _ (List.mem_append_left _ (List.mem_append_left _ (List.mem_append_left _ (List.mem_append_left _ (List.mem_append_left _ (List.mem_of_getElem? (i := 0) rfl)))))))))
theorem qX9_lazy_1 : Cond.fieldLink RX9 51 "MatchCoder" "plan" "LMatchCoder$Plan;" ∈ wsX9_lazy := (List.mem_cons_of_mem _ (List.mem_append_left _ (List.mem_append_left _ (List.mem_append_left _ (List.mem_append_left _ (List.mem_append_left _ (List.mem_append_left _ (List.mem_append_left _ (List.mem_of_getElem? (i := 1) rfl)))))))))
theorem inX9_lazy_wsX90 : ∀ w ∈ wsX90, w ∈ wsX9_lazy := fun _ h => List.mem_cons_of_mem _ (List.mem_append_left _ (List.mem_append_left _ (List.mem_append_left _ (List.mem_append_left _ (List.mem_append_left _ (List.mem_append_right _ h))))))
def wpX9_lazy (tn : Int32) (tb : Nat → Int32) (sw : Int32) (sl : Int32) (sg : Int32) (sp : Int32) (pk : Nat → Int32) (pl : Nat → Int32) (pd : Nat → Int32) (ps : Nat → Int32) (post : Int32 → Int32 → Int32 → (Nat → Int32) → (Nat → Int32) → (Nat → Int32) → (Nat → Int32) → Prop) : Prop := wpX5_choose tn tb sw sl sg pk pl pd ps 1 (fun (pn_1 : Int32) (pch_2 : Int32) (pk_3 : Nat → Int32) (pl_4 : Nat → Int32) (pd_5 : Nat → Int32) (ps_6 : Nat → Int32) => wpX9_costOfPlan sp pn_1 pk_3 pl_4 pd_5 (fun (r_7 : Int32) => post r_7 pn_1 pch_2 pk_3 pl_4 pd_5 ps_6))
set_option maxHeartbeats 4000000 in
set_option maxRecDepth 100000 in
theorem mtX9_lazy (l : Launch) (dC : Nat → ClassId) (dI : Nat → Nat → Nat) (cyI : ClassId) {aX aT aTb aS aF aQ aW aP aPk aPl aPd aPs aB aR : Nat} {sz : Nat} {tn : Int32} {tb : Nat → Int32} {sw : Int32} {sl : Int32} {sg : Int32} {sp : Int32} {pn : Int32} {pch : Int32} {pk : Nat → Int32} {pl : Nat → Int32} {pd : Nat → Int32} {ps : Nat → Int32} {post : Int32 → Int32 → Int32 → (Nat → Int32) → (Nat → Int32) → (Nat → Int32) → (Nat → Int32) → Prop} (h : wpX9_lazy tn tb sw sl sg sp pk pl pd ps post) : Met l yX9_lazy wsX9_lazy ({ frames := 5, cells := 0, slots := 0, locals := 118 }) (va_Pc [.ref aX] (wk_B (dC, dI) [(cyI, .int)] [(aX, .inr (8, [.ref aT, .ref aS, .ref aF, .ref aQ, .ref aW, .ref aP, .ref aB, .ref aR])), (aT, .inr (7, [.ref aTb, .int tn])), (aTb, .inl (cyI, 64, .inl tb)), (aS, .inr (6, [.int sw, .int sl, .int sg, .int sp])), (aF, .inr (2, [.ref aT, .ref aS])), (aQ, .inr (4, [.ref aT, .ref aF])), (aP, .inr (3, [.ref aPk, .ref aPl, .ref aPd, .ref aPs, .int pn, .int pch])), (aPk, .inl (cyI, 64, .inl pk)), (aPl, .inl (cyI, 64, .inl pl)), (aPd, .inl (cyI, 64, .inl pd)), (aPs, .inl (cyI, 64, .inl ps))] sz)) (va_Qi (fun (r : Int32) (u : Int32 × Int32 × (Nat → Int32) × (Nat → Int32) × (Nat → Int32) × (Nat → Int32)) => post r u.1 u.2.1 u.2.2.1 u.2.2.2.1 u.2.2.2.2.1 u.2.2.2.2.2) (wk_C (dC, dI) [(cyI, .int)] (va_A [(aX, .inr (8, [.ref aT, .ref aS, .ref aF, .ref aQ, .ref aW, .ref aP, .ref aB, .ref aR])), (aT, .inr (7, [.ref aTb, .int tn])), (aTb, .inl (cyI, 64, .inl tb)), (aS, .inr (6, [.int sw, .int sl, .int sg, .int sp])), (aF, .inr (2, [.ref aT, .ref aS])), (aQ, .inr (4, [.ref aT, .ref aF])), (aP, .inr (3, [.ref aPk, .ref aPl, .ref aPd, .ref aPs, .int pn, .int pch])), (aPk, .inl (cyI, 64, .inl pk)), (aPl, .inl (cyI, 64, .inl pl)), (aPd, .inl (cyI, 64, .inl pd)), (aPs, .inl (cyI, 64, .inl ps))] sz) (fun (u : Int32 × Int32 × (Nat → Int32) × (Nat → Int32) × (Nat → Int32) × (Nat → Int32)) => [(aX, .inr (8, [.ref aT, .ref aS, .ref aF, .ref aQ, .ref aW, .ref aP, .ref aB, .ref aR])), (aT, .inr (7, [.ref aTb, .int tn])), (aTb, .inl (cyI, 64, .inl tb)), (aS, .inr (6, [.int sw, .int sl, .int sg, .int sp])), (aF, .inr (2, [.ref aT, .ref aS])), (aQ, .inr (4, [.ref aT, .ref aF])), (aP, .inr (3, [.ref aPk, .ref aPl, .ref aPd, .ref aPs, .int (u.1), .int (u.2.1)])), (aPk, .inl (cyI, 64, .inl (u.2.2.1))), (aPl, .inl (cyI, 64, .inl (u.2.2.2.1))), (aPd, .inl (cyI, 64, .inl (u.2.2.2.2.1))), (aPs, .inl (cyI, 64, .inl (u.2.2.2.2.2)))])) (va_A [(aX, .inr (8, [.ref aT, .ref aS, .ref aF, .ref aQ, .ref aW, .ref aP, .ref aB, .ref aR])), (aT, .inr (7, [.ref aTb, .int tn])), (aTb, .inl (cyI, 64, .inl tb)), (aS, .inr (6, [.int sw, .int sl, .int sg, .int sp])), (aF, .inr (2, [.ref aT, .ref aS])), (aQ, .inr (4, [.ref aT, .ref aF])), (aP, .inr (3, [.ref aPk, .ref aPl, .ref aPd, .ref aPs, .int pn, .int pch])), (aPk, .inl (cyI, 64, .inl pk)), (aPl, .inl (cyI, 64, .inl pl)), (aPd, .inl (cyI, 64, .inl pd)), (aPs, .inl (cyI, 64, .inl ps))] sz)) 0 0 (va_A [(aX, .inr (8, [.ref aT, .ref aS, .ref aF, .ref aQ, .ref aW, .ref aP, .ref aB, .ref aR])), (aT, .inr (7, [.ref aTb, .int tn])), (aTb, .inl (cyI, 64, .inl tb)), (aS, .inr (6, [.int sw, .int sl, .int sg, .int sp])), (aF, .inr (2, [.ref aT, .ref aS])), (aQ, .inr (4, [.ref aT, .ref aF])), (aP, .inr (3, [.ref aPk, .ref aPl, .ref aPd, .ref aPs, .int pn, .int pch])), (aPk, .inl (cyI, 64, .inl pk)), (aPl, .inl (cyI, 64, .inl pl)), (aPd, .inl (cyI, 64, .inl pd)), (aPs, .inl (cyI, 64, .inl ps))] sz) := by
  refine Met.ofW (cc := cX9_lazy) (maxL := 1) (ret := (some .int)) (by decide) rfl ?_
  intro p e s m args below meth c s₁ B hml hv
  obtain ⟨rfl, hsz, hP, hK, hD0⟩ := hv
  have hx := B.exec
  have hb := B.bytes
  have hr := B.returns
  have hts := atoms_spec (ws := wsX9_lazy) B.pre
  have hown : s.vm.findClass RX9 = some m.cls := findClass_of_methodNamed B.named
  have hlocks := B.notSynchronized
  subst hsz
  have hD := hD0.self (sz := s.heap.size)
  generalize hAe : va_A [(aX, .inr (8, [.ref aT, .ref aS, .ref aF, .ref aQ, .ref aW, .ref aP, .ref aB, .ref aR])), (aT, .inr (7, [.ref aTb, .int tn])), (aTb, .inl (cyI, 64, .inl tb)), (aS, .inr (6, [.int sw, .int sl, .int sg, .int sp])), (aF, .inr (2, [.ref aT, .ref aS])), (aQ, .inr (4, [.ref aT, .ref aF])), (aP, .inr (3, [.ref aPk, .ref aPl, .ref aPd, .ref aPs, .int pn, .int pch])), (aPk, .inl (cyI, 64, .inl pk)), (aPl, .inl (cyI, 64, .inl pl)), (aPd, .inl (cyI, 64, .inl pd)), (aPs, .inl (cyI, 64, .inl ps))] s.heap.size = A at hD ⊢
  have hA : ∀ q : Nat, s.heap.size ≤ q → A q := fun q h => by rw [← hAe]; exact Or.inr h
  have hS : va_S A s.heap s.heap [] := va_S.rf
  have hP : va_P (dC, dI) vwCl [(aX, .inr (8, [.ref aT, .ref aS, .ref aF, .ref aQ, .ref aW, .ref aP, .ref aB, .ref aR])), (aT, .inr (7, [.ref aTb, .int tn])), (aTb, .inl (cyI, 64, .inl tb)), (aS, .inr (6, [.int sw, .int sl, .int sg, .int sp])), (aF, .inr (2, [.ref aT, .ref aS])), (aQ, .inr (4, [.ref aT, .ref aF])), (aP, .inr (3, [.ref aPk, .ref aPl, .ref aPd, .ref aPs, .int pn, .int pch])), (aPk, .inl (cyI, 64, .inl pk)), (aPl, .inl (cyI, 64, .inl pl)), (aPd, .inl (cyI, 64, .inl pd)), (aPs, .inl (cyI, 64, .inl ps))] s.heap := hP
  have hl := lv_entry ([.ref aX]) (n := 1) (Nat.le_of_ble_eq_true rfl)
  rw [lg_entry_eq]
  generalize (lg_sl ([.ref aX]) ++ List.replicate (1 - (lg_sl ([.ref aX])).length) Slot.unset).toArray = ls at hl ⊢
  have hl : lv_has ls 1 [(0, .ref aX)] := hl
  have C0 : CallFix p m c cX9_lazy 1 s ([.ref aX] : List Value).toArray wsX9_lazy RX9 := ⟨hx, hb, hml, hown, hts⟩
  unfold wpX9_lazy at h
  refine lv_aload_n hx hb dX9_lazy_0 rfl (lv_at hl 0 rfl) ?_
  refine va_get (D := (dC, dI)) (ci := 8) (v := .ref aQ) (C := RX9) (T := TX9) (N := 8) hx hb hts inX9_lazy_wsX90 hown hK hP 0 rfl rfl 3 (by decide) (hts _ qX9_lazy_0) (fun _ h9 => h9) rfl dX9_lazy_1 ?_
  refine lv_aload_n hx hb dX9_lazy_4 rfl (lv_at hl 0 rfl) ?_
  refine va_get (D := (dC, dI)) (ci := 8) (v := .ref aP) (C := RX9) (T := TX9) (N := 8) hx hb hts inX9_lazy_wsX90 hown hK hP 0 rfl rfl 5 (by decide) (hts _ qX9_lazy_1) (fun _ h9 => h9) rfl dX9_lazy_5 ?_
  refine lv_iconst (v := 1) hx hb dX9_lazy_8 (by decide) ?_
  refine wk_callv (wc := [(aT, .inr (7, [.ref aTb, .int tn])), (aTb, .inl (cyI, 64, .inl tb)), (aS, .inr (6, [.int sw, .int sl, .int sg, .int sp])), (aF, .inr (2, [.ref aT, .ref aS])), (aQ, .inr (4, [.ref aT, .ref aF])), (aP, .inr (3, [.ref aPk, .ref aPl, .ref aPd, .ref aPs, .int pn, .int pch])), (aPk, .inl (cyI, 64, .inl pk)), (aPl, .inl (cyI, 64, .inl pl)), (aPd, .inl (cyI, 64, .inl pd)), (aPs, .inl (cyI, 64, .inl ps))]) (wr := [(aX, .inr (8, [.ref aT, .ref aS, .ref aF, .ref aQ, .ref aW, .ref aP, .ref aB, .ref aR]))]) (va_runV (As := [.ref aP, .int 1]) (rest := []) C0 (mtX5_choose l dC dI cyI (aT := aT) (aTb := aTb) (aS := aS) (aF := aF) (aQ := aQ) (aP := aP) (aPk := aPk) (aPl := aPl) (aPd := aPd) (aPs := aPs) (sz := _) (tn := tn) (tb := tb) (sw := sw) (sl := sl) (sg := sg) (sp := sp) (pn := pn) (pch := pch) (pk := pk) (pl := pl) (pd := pd) (ps := ps) (v2 := 1) h) (cwV 2 hts gX9_lazy_X5_choose rfl rfl rfl (by decide +kernel) ⟨(Nat.le_of_ble_eq_true rfl), (Nat.le_of_ble_eq_true rfl)⟩) (wk_preV (wc := [(aT, .inr (7, [.ref aTb, .int tn])), (aTb, .inl (cyI, 64, .inl tb)), (aS, .inr (6, [.int sw, .int sl, .int sg, .int sp])), (aF, .inr (2, [.ref aT, .ref aS])), (aQ, .inr (4, [.ref aT, .ref aF])), (aP, .inr (3, [.ref aPk, .ref aPl, .ref aPd, .ref aPs, .int pn, .int pch])), (aPk, .inl (cyI, 64, .inl pk)), (aPl, .inl (cyI, 64, .inl pl)), (aPd, .inl (cyI, 64, .inl pd)), (aPs, .inl (cyI, 64, .inl ps))]) hK hP hD [1, 2, 3, 4, 5, 6, 7, 8, 9, 10] rfl (by decide) (va_recv hK hP (ci := 4) (q0 := 5) rfl rfl)) rfl rfl hl.1 rfl (lv_room (Nat.le_of_ble_eq_true rfl)) dX9_lazy_9 ⟨(Nat.le_of_ble_eq_true rfl), (Nat.le_of_ble_eq_true rfl)⟩) hP hD hS hA [1, 2, 3, 4, 5, 6, 7, 8, 9, 10] [0] rfl rfl (by decide) (by decide) (fun u9 H locs h hP hD hS => ?_)
  obtain ⟨pn_1, pch_2, pk_3, pl_4, pd_5, ps_6⟩ := u9
  have hP : va_P (dC, dI) vwCl [(aX, .inr (8, [.ref aT, .ref aS, .ref aF, .ref aQ, .ref aW, .ref aP, .ref aB, .ref aR])), (aT, .inr (7, [.ref aTb, .int tn])), (aTb, .inl (cyI, 64, .inl tb)), (aS, .inr (6, [.int sw, .int sl, .int sg, .int sp])), (aF, .inr (2, [.ref aT, .ref aS])), (aQ, .inr (4, [.ref aT, .ref aF])), (aP, .inr (3, [.ref aPk, .ref aPl, .ref aPd, .ref aPs, .int pn_1, .int pch_2])), (aPk, .inl (cyI, 64, .inl pk_3)), (aPl, .inl (cyI, 64, .inl pl_4)), (aPd, .inl (cyI, 64, .inl pd_5)), (aPs, .inl (cyI, 64, .inl ps_6))] H := hP
  have hD : va_D A [(aX, .inr (8, [.ref aT, .ref aS, .ref aF, .ref aQ, .ref aW, .ref aP, .ref aB, .ref aR])), (aT, .inr (7, [.ref aTb, .int tn])), (aTb, .inl (cyI, 64, .inl tb)), (aS, .inr (6, [.int sw, .int sl, .int sg, .int sp])), (aF, .inr (2, [.ref aT, .ref aS])), (aQ, .inr (4, [.ref aT, .ref aF])), (aP, .inr (3, [.ref aPk, .ref aPl, .ref aPd, .ref aPs, .int pn_1, .int pch_2])), (aPk, .inl (cyI, 64, .inl pk_3)), (aPl, .inl (cyI, 64, .inl pl_4)), (aPd, .inl (cyI, 64, .inl pd_5)), (aPs, .inl (cyI, 64, .inl ps_6))] := hD
  dsimp only at h
  refine lv_aload_n hx hb dX9_lazy_12 rfl (lv_at hl 0 rfl) ?_
  refine wk_calli (wc := [(aX, .inr (8, [.ref aT, .ref aS, .ref aF, .ref aQ, .ref aW, .ref aP, .ref aB, .ref aR])), (aS, .inr (6, [.int sw, .int sl, .int sg, .int sp])), (aP, .inr (3, [.ref aPk, .ref aPl, .ref aPd, .ref aPs, .int pn_1, .int pch_2])), (aPk, .inl (cyI, 64, .inl pk_3)), (aPl, .inl (cyI, 64, .inl pl_4)), (aPd, .inl (cyI, 64, .inl pd_5))]) (wr := [(aT, .inr (7, [.ref aTb, .int tn])), (aTb, .inl (cyI, 64, .inl tb)), (aF, .inr (2, [.ref aT, .ref aS])), (aQ, .inr (4, [.ref aT, .ref aF])), (aPs, .inl (cyI, 64, .inl ps_6))]) (va_runV (As := []) (rest := []) C0 (mtX9_costOfPlan l dC dI cyI (aX := aX) (aT := aT) (aS := aS) (aF := aF) (aQ := aQ) (aW := aW) (aP := aP) (aPk := aPk) (aPl := aPl) (aPd := aPd) (aPs := aPs) (aB := aB) (aR := aR) (sz := _) (sw := sw) (sl := sl) (sg := sg) (sp := sp) (pn := pn_1) (pch := pch_2) (pk := pk_3) (pl := pl_4) (pd := pd_5) h) (cwV 0 hts gX9_lazy_X9_costOfPlan rfl rfl rfl (by decide +kernel) ⟨(Nat.le_of_ble_eq_true rfl), (Nat.le_of_ble_eq_true rfl)⟩) (wk_preV (wc := [(aX, .inr (8, [.ref aT, .ref aS, .ref aF, .ref aQ, .ref aW, .ref aP, .ref aB, .ref aR])), (aS, .inr (6, [.int sw, .int sl, .int sg, .int sp])), (aP, .inr (3, [.ref aPk, .ref aPl, .ref aPd, .ref aPs, .int pn_1, .int pch_2])), (aPk, .inl (cyI, 64, .inl pk_3)), (aPl, .inl (cyI, 64, .inl pl_4)), (aPd, .inl (cyI, 64, .inl pd_5))]) hK hP hD [0, 3, 6, 7, 8, 9] rfl (by decide) (va_recv hK hP (ci := 8) (q0 := 0) rfl rfl)) rfl rfl hl.1 rfl (lv_room (Nat.le_of_ble_eq_true rfl)) dX9_lazy_13 ⟨(Nat.le_of_ble_eq_true rfl), (Nat.le_of_ble_eq_true rfl)⟩) hP hD hS hA [0, 3, 6, 7, 8, 9] [1, 2, 4, 5, 10] rfl rfl (by decide) (by decide) (fun r_7 u9 H locs h hP hD hS => ?_)
  have hP : va_P (dC, dI) vwCl [(aT, .inr (7, [.ref aTb, .int tn])), (aTb, .inl (cyI, 64, .inl tb)), (aF, .inr (2, [.ref aT, .ref aS])), (aQ, .inr (4, [.ref aT, .ref aF])), (aPs, .inl (cyI, 64, .inl ps_6)), (aX, .inr (8, [.ref aT, .ref aS, .ref aF, .ref aQ, .ref aW, .ref aP, .ref aB, .ref aR])), (aS, .inr (6, [.int sw, .int sl, .int sg, .int sp])), (aP, .inr (3, [.ref aPk, .ref aPl, .ref aPd, .ref aPs, .int pn_1, .int pch_2])), (aPk, .inl (cyI, 64, .inl pk_3)), (aPl, .inl (cyI, 64, .inl pl_4)), (aPd, .inl (cyI, 64, .inl pd_5))] H := hP
  have hD : va_D A [(aT, .inr (7, [.ref aTb, .int tn])), (aTb, .inl (cyI, 64, .inl tb)), (aF, .inr (2, [.ref aT, .ref aS])), (aQ, .inr (4, [.ref aT, .ref aF])), (aPs, .inl (cyI, 64, .inl ps_6)), (aX, .inr (8, [.ref aT, .ref aS, .ref aF, .ref aQ, .ref aW, .ref aP, .ref aB, .ref aR])), (aS, .inr (6, [.int sw, .int sl, .int sg, .int sp])), (aP, .inr (3, [.ref aPk, .ref aPl, .ref aPd, .ref aPs, .int pn_1, .int pch_2])), (aPk, .inl (cyI, 64, .inl pk_3)), (aPl, .inl (cyI, 64, .inl pl_4)), (aPd, .inl (cyI, 64, .inl pd_5))] := hD
  have hP9 : va_P (dC, dI) vwCl [(aX, .inr (8, [.ref aT, .ref aS, .ref aF, .ref aQ, .ref aW, .ref aP, .ref aB, .ref aR])), (aT, .inr (7, [.ref aTb, .int tn])), (aTb, .inl (cyI, 64, .inl tb)), (aS, .inr (6, [.int sw, .int sl, .int sg, .int sp])), (aF, .inr (2, [.ref aT, .ref aS])), (aQ, .inr (4, [.ref aT, .ref aF])), (aP, .inr (3, [.ref aPk, .ref aPl, .ref aPd, .ref aPs, .int pn_1, .int pch_2])), (aPk, .inl (cyI, 64, .inl pk_3)), (aPl, .inl (cyI, 64, .inl pl_4)), (aPd, .inl (cyI, 64, .inl pd_5)), (aPs, .inl (cyI, 64, .inl ps_6))] _ := (hP.sub [5, 0, 1, 6, 2, 3, 7, 8, 9, 10, 4] rfl)
  have hD9 : va_D A [(aX, .inr (8, [.ref aT, .ref aS, .ref aF, .ref aQ, .ref aW, .ref aP, .ref aB, .ref aR])), (aT, .inr (7, [.ref aTb, .int tn])), (aTb, .inl (cyI, 64, .inl tb)), (aS, .inr (6, [.int sw, .int sl, .int sg, .int sp])), (aF, .inr (2, [.ref aT, .ref aS])), (aQ, .inr (4, [.ref aT, .ref aF])), (aP, .inr (3, [.ref aPk, .ref aPl, .ref aPd, .ref aPs, .int pn_1, .int pch_2])), (aPk, .inl (cyI, 64, .inl pk_3)), (aPl, .inl (cyI, 64, .inl pl_4)), (aPd, .inl (cyI, 64, .inl pd_5)), (aPs, .inl (cyI, 64, .inl ps_6))] := (hD.sub [5, 0, 1, 6, 2, 3, 7, 8, 9, 10, 4] (by decide) rfl)
  exact W.iret (v := r_7) hx hb hr (fun t ht hW => ⟨⟨r_7, (pn_1, pch_2, pk_3, pl_4, pd_5, ps_6), rfl, h, by rw [ht]; exact hP9, va_K.moved hW.alike hK, hD9⟩, hS.F ht⟩) hS.2.2 dX9_lazy_16
-- X9_hasPlan
theorem qX9_hasPlan_0 : Cond.fieldLink RX9 51 "MatchCoder" "plan" "LMatchCoder$Plan;" ∈ wsX9_hasPlan := (List.mem_cons_of_mem _ (List.mem_append_left _ (List.mem_append_left _ (List.mem_of_getElem? (i := 0) rfl))))
theorem qX9_hasPlan_1 : Cond.fieldLink RX9 170 "MatchCoder$Plan" "chosen" "Z" ∈ wsX9_hasPlan := (List.mem_cons_of_mem _ (List.mem_append_left _ (List.mem_append_left _ (List.mem_of_getElem? (i := 1) rfl))))
theorem inX9_hasPlan_wsX90 : ∀ w ∈ wsX90, w ∈ wsX9_hasPlan := fun _ h => List.mem_cons_of_mem _ (List.mem_append_left _ (List.mem_append_right _ h))
theorem inX9_hasPlan_wsX40 : ∀ w ∈ wsX40, w ∈ wsX9_hasPlan := fun _ h => List.mem_cons_of_mem _ (List.mem_append_right _ h)
def wpX9_hasPlan (pch : Int32) (post : Int32 → Prop) : Prop := nb9 pch ∧ post pch
set_option maxHeartbeats 4000000 in
set_option maxRecDepth 100000 in
theorem mtX9_hasPlan (l : Launch) (dC : Nat → ClassId) (dI : Nat → Nat → Nat) (cyI : ClassId) {aX aT aS aF aQ aW aP aPk aPl aPd aPs aB aR : Nat} {sz : Nat} {pn : Int32} {pch : Int32} {post : Int32 → Prop} (h : wpX9_hasPlan pch post) : Met l yX9_hasPlan wsX9_hasPlan ({ frames := 0, cells := 0, slots := 0, locals := 0 }) (va_Pc [.ref aX] (wk_B (dC, dI) [(cyI, .int)] [(aX, .inr (8, [.ref aT, .ref aS, .ref aF, .ref aQ, .ref aW, .ref aP, .ref aB, .ref aR])), (aP, .inr (3, [.ref aPk, .ref aPl, .ref aPd, .ref aPs, .int pn, .int pch]))] sz)) (va_Qi (fun (r : Int32) (u : Unit) => post r ) (wk_C (dC, dI) [(cyI, .int)] (va_A [(aX, .inr (8, [.ref aT, .ref aS, .ref aF, .ref aQ, .ref aW, .ref aP, .ref aB, .ref aR])), (aP, .inr (3, [.ref aPk, .ref aPl, .ref aPd, .ref aPs, .int pn, .int pch]))] sz) (fun (u : Unit) => [(aX, .inr (8, [.ref aT, .ref aS, .ref aF, .ref aQ, .ref aW, .ref aP, .ref aB, .ref aR])), (aP, .inr (3, [.ref aPk, .ref aPl, .ref aPd, .ref aPs, .int pn, .int pch]))])) (va_A [(aX, .inr (8, [.ref aT, .ref aS, .ref aF, .ref aQ, .ref aW, .ref aP, .ref aB, .ref aR])), (aP, .inr (3, [.ref aPk, .ref aPl, .ref aPd, .ref aPs, .int pn, .int pch]))] sz)) 0 0 (va_A [(aX, .inr (8, [.ref aT, .ref aS, .ref aF, .ref aQ, .ref aW, .ref aP, .ref aB, .ref aR])), (aP, .inr (3, [.ref aPk, .ref aPl, .ref aPd, .ref aPs, .int pn, .int pch]))] sz) := by
  refine Met.ofW (cc := cX9_hasPlan) (maxL := 1) (ret := (some .boolean)) (by decide) rfl ?_
  intro p e s m args below meth c s₁ B hml hv
  obtain ⟨rfl, hsz, hP, hK, hD0⟩ := hv
  have hx := B.exec
  have hb := B.bytes
  have hr := B.returns
  have hts := atoms_spec (ws := wsX9_hasPlan) B.pre
  have hown : s.vm.findClass RX9 = some m.cls := findClass_of_methodNamed B.named
  have hlocks := B.notSynchronized
  subst hsz
  have hD := hD0.self (sz := s.heap.size)
  generalize hAe : va_A [(aX, .inr (8, [.ref aT, .ref aS, .ref aF, .ref aQ, .ref aW, .ref aP, .ref aB, .ref aR])), (aP, .inr (3, [.ref aPk, .ref aPl, .ref aPd, .ref aPs, .int pn, .int pch]))] s.heap.size = A at hD ⊢
  have hA : ∀ q : Nat, s.heap.size ≤ q → A q := fun q h => by rw [← hAe]; exact Or.inr h
  have hS : va_S A s.heap s.heap [] := va_S.rf
  have hP : va_P (dC, dI) vwCl [(aX, .inr (8, [.ref aT, .ref aS, .ref aF, .ref aQ, .ref aW, .ref aP, .ref aB, .ref aR])), (aP, .inr (3, [.ref aPk, .ref aPl, .ref aPd, .ref aPs, .int pn, .int pch]))] s.heap := hP
  have hl := lv_entry ([.ref aX]) (n := 1) (Nat.le_of_ble_eq_true rfl)
  rw [lg_entry_eq]
  generalize (lg_sl ([.ref aX]) ++ List.replicate (1 - (lg_sl ([.ref aX])).length) Slot.unset).toArray = ls at hl ⊢
  have hl : lv_has ls 1 [(0, .ref aX)] := hl
  have C0 : CallFix p m c cX9_hasPlan 1 s ([.ref aX] : List Value).toArray wsX9_hasPlan RX9 := ⟨hx, hb, hml, hown, hts⟩
  unfold wpX9_hasPlan at h
  refine lv_aload_n hx hb dX9_hasPlan_0 rfl (lv_at hl 0 rfl) ?_
  refine va_get (D := (dC, dI)) (ci := 8) (v := .ref aP) (C := RX9) (T := TX9) (N := 8) hx hb hts inX9_hasPlan_wsX90 hown hK hP 0 rfl rfl 5 (by decide) (hts _ qX9_hasPlan_0) (fun _ h9 => h9) rfl dX9_hasPlan_1 ?_
  refine va_get (D := (dC, dI)) (ci := 3) (v := .int pch) (C := RX4) (T := TX4) (N := 6) hx hb hts inX9_hasPlan_wsX40 hown hK hP 1 rfl rfl 5 (by decide) (hts _ qX9_hasPlan_1) (fun _ h9 => h9) rfl dX9_hasPlan_4 ?_
  obtain ⟨hn9, h⟩ := h
  have hP9 : va_P (dC, dI) vwCl [(aX, .inr (8, [.ref aT, .ref aS, .ref aF, .ref aQ, .ref aW, .ref aP, .ref aB, .ref aR])), (aP, .inr (3, [.ref aPk, .ref aPl, .ref aPd, .ref aPs, .int pn, .int pch]))] _ := hP
  have hD9 : va_D A [(aX, .inr (8, [.ref aT, .ref aS, .ref aF, .ref aQ, .ref aW, .ref aP, .ref aB, .ref aR])), (aP, .inr (3, [.ref aPk, .ref aPl, .ref aPd, .ref aPs, .int pn, .int pch]))] := hD
  exact W.zret (v := pch) hx hb hr hn9 (fun t ht hW => ⟨⟨pch, (), rfl, h, by rw [ht]; exact hP9, va_K.moved hW.alike hK, hD9⟩, hS.F ht⟩) hS.2.2 dX9_hasPlan_7
-- X9_bitCount
theorem qX9_bitCount_0 : Cond.fieldLink RX9 58 "MatchCoder" "bits" "LMatchCoder$Bits;" ∈ wsX9_bitCount := (List.mem_cons_of_mem _ (List.mem_append_left _ (List.mem_append_left _ (List.mem_of_getElem? (i := 0) rfl))))
theorem qX9_bitCount_1 : Cond.fieldLink RX9 200 "MatchCoder$Bits" "count" "I" ∈ wsX9_bitCount := (List.mem_cons_of_mem _ (List.mem_append_left _ (List.mem_append_left _ (List.mem_of_getElem? (i := 1) rfl))))
theorem inX9_bitCount_wsX90 : ∀ w ∈ wsX90, w ∈ wsX9_bitCount := fun _ h => List.mem_cons_of_mem _ (List.mem_append_left _ (List.mem_append_right _ h))
theorem inX9_bitCount_wsX10 : ∀ w ∈ wsX10, w ∈ wsX9_bitCount := fun _ h => List.mem_cons_of_mem _ (List.mem_append_right _ h)
def wpX9_bitCount (bn : Int32) (post : Int32 → Prop) : Prop := post bn
set_option maxHeartbeats 4000000 in
set_option maxRecDepth 100000 in
theorem mtX9_bitCount (l : Launch) (dC : Nat → ClassId) (dI : Nat → Nat → Nat) (cyI : ClassId) {aX aT aS aF aQ aW aP aB aBr aR : Nat} {sz : Nat} {bn : Int32} {post : Int32 → Prop} (h : wpX9_bitCount bn post) : Met l yX9_bitCount wsX9_bitCount ({ frames := 0, cells := 0, slots := 0, locals := 0 }) (va_Pc [.ref aX] (wk_B (dC, dI) [(cyI, .int)] [(aX, .inr (8, [.ref aT, .ref aS, .ref aF, .ref aQ, .ref aW, .ref aP, .ref aB, .ref aR])), (aB, .inr (1, [.ref aBr, .int bn]))] sz)) (va_Qi (fun (r : Int32) (u : Unit) => post r ) (wk_C (dC, dI) [(cyI, .int)] (va_A [(aX, .inr (8, [.ref aT, .ref aS, .ref aF, .ref aQ, .ref aW, .ref aP, .ref aB, .ref aR])), (aB, .inr (1, [.ref aBr, .int bn]))] sz) (fun (u : Unit) => [(aX, .inr (8, [.ref aT, .ref aS, .ref aF, .ref aQ, .ref aW, .ref aP, .ref aB, .ref aR])), (aB, .inr (1, [.ref aBr, .int bn]))])) (va_A [(aX, .inr (8, [.ref aT, .ref aS, .ref aF, .ref aQ, .ref aW, .ref aP, .ref aB, .ref aR])), (aB, .inr (1, [.ref aBr, .int bn]))] sz)) 0 0 (va_A [(aX, .inr (8, [.ref aT, .ref aS, .ref aF, .ref aQ, .ref aW, .ref aP, .ref aB, .ref aR])), (aB, .inr (1, [.ref aBr, .int bn]))] sz) := by
  refine Met.ofW (cc := cX9_bitCount) (maxL := 1) (ret := (some .int)) (by decide) rfl ?_
  intro p e s m args below meth c s₁ B hml hv
  obtain ⟨rfl, hsz, hP, hK, hD0⟩ := hv
  have hx := B.exec
  have hb := B.bytes
  have hr := B.returns
  have hts := atoms_spec (ws := wsX9_bitCount) B.pre
  have hown : s.vm.findClass RX9 = some m.cls := findClass_of_methodNamed B.named
  have hlocks := B.notSynchronized
  subst hsz
  have hD := hD0.self (sz := s.heap.size)
  generalize hAe : va_A [(aX, .inr (8, [.ref aT, .ref aS, .ref aF, .ref aQ, .ref aW, .ref aP, .ref aB, .ref aR])), (aB, .inr (1, [.ref aBr, .int bn]))] s.heap.size = A at hD ⊢
  have hA : ∀ q : Nat, s.heap.size ≤ q → A q := fun q h => by rw [← hAe]; exact Or.inr h
  have hS : va_S A s.heap s.heap [] := va_S.rf
  have hP : va_P (dC, dI) vwCl [(aX, .inr (8, [.ref aT, .ref aS, .ref aF, .ref aQ, .ref aW, .ref aP, .ref aB, .ref aR])), (aB, .inr (1, [.ref aBr, .int bn]))] s.heap := hP
  have hl := lv_entry ([.ref aX]) (n := 1) (Nat.le_of_ble_eq_true rfl)
  rw [lg_entry_eq]
  generalize (lg_sl ([.ref aX]) ++ List.replicate (1 - (lg_sl ([.ref aX])).length) Slot.unset).toArray = ls at hl ⊢
  have hl : lv_has ls 1 [(0, .ref aX)] := hl
  have C0 : CallFix p m c cX9_bitCount 1 s ([.ref aX] : List Value).toArray wsX9_bitCount RX9 := ⟨hx, hb, hml, hown, hts⟩
  unfold wpX9_bitCount at h
  refine lv_aload_n hx hb dX9_bitCount_0 rfl (lv_at hl 0 rfl) ?_
  refine va_get (D := (dC, dI)) (ci := 8) (v := .ref aB) (C := RX9) (T := TX9) (N := 8) hx hb hts inX9_bitCount_wsX90 hown hK hP 0 rfl rfl 6 (by decide) (hts _ qX9_bitCount_0) (fun _ h9 => h9) rfl dX9_bitCount_1 ?_
  refine va_get (D := (dC, dI)) (ci := 1) (v := .int bn) (C := RX1) (T := TX1) (N := 2) hx hb hts inX9_bitCount_wsX10 hown hK hP 1 rfl rfl 1 (by decide) (hts _ qX9_bitCount_1) (fun _ h9 => h9) rfl dX9_bitCount_4 ?_
  have hP9 : va_P (dC, dI) vwCl [(aX, .inr (8, [.ref aT, .ref aS, .ref aF, .ref aQ, .ref aW, .ref aP, .ref aB, .ref aR])), (aB, .inr (1, [.ref aBr, .int bn]))] _ := hP
  have hD9 : va_D A [(aX, .inr (8, [.ref aT, .ref aS, .ref aF, .ref aQ, .ref aW, .ref aP, .ref aB, .ref aR])), (aB, .inr (1, [.ref aBr, .int bn]))] := hD
  exact W.iret (v := bn) hx hb hr (fun t ht hW => ⟨⟨bn, (), rfl, h, by rw [ht]; exact hP9, va_K.moved hW.alike hK, hD9⟩, hS.F ht⟩) hS.2.2 dX9_bitCount_7
-- X9_read
theorem qX9_read_0 : Cond.fieldLink RX9 65 "MatchCoder" "reading" "LMatchCoder$Reading;" ∈ wsX9_read := (List.mem_cons_of_mem _ (List.mem_append_left _ (List.mem_append_left _ (List.mem_append_left _ (List.mem_append_left _ (List.mem_of_getElem? (i := 0) rfl))))))
theorem qX9_read_1 : Cond.fieldLink RX9 58 "MatchCoder" "bits" "LMatchCoder$Bits;" ∈ wsX9_read := (List.mem_cons_of_mem _ (List.mem_append_left _ (List.mem_append_left _ (List.mem_append_left _ (List.mem_append_left _ (List.mem_of_getElem? (i := 1) rfl))))))
theorem inX9_read_wsX90 : ∀ w ∈ wsX90, w ∈ wsX9_read := fun _ h => List.mem_cons_of_mem _ (List.mem_append_left _ (List.mem_append_left _ (List.mem_append_right _ h)))
def wpX9_read (bn : Int32) (br : Nat → Int32) (rb : Nat → Int32) (post : Int32 → Int32 → Int32 → Int32 → Int32 → (Nat → Int32) → Prop) : Prop := wpX6_readAll bn br rb (fun (r_1 : Int32) (rn_2 : Int32) (rf_3 : Int32) (rx_4 : Int32) (rp_5 : Int32) (rb_6 : Nat → Int32) => post r_1 rn_2 rf_3 rx_4 rp_5 rb_6)
set_option maxHeartbeats 4000000 in
set_option maxRecDepth 100000 in
theorem mtX9_read (l : Launch) (dC : Nat → ClassId) (dI : Nat → Nat → Nat) (cyI : ClassId) {aX aT aS aF aQ aW aP aB aBr aR aRb : Nat} {sz : Nat} {bn : Int32} {br : Nat → Int32} {rn : Int32} {rf : Int32} {rx : Int32} {rp : Int32} {rb : Nat → Int32} {post : Int32 → Int32 → Int32 → Int32 → Int32 → (Nat → Int32) → Prop} (h : wpX9_read bn br rb post) : Met l yX9_read wsX9_read ({ frames := 6, cells := 0, slots := 0, locals := 142 }) (va_Pc [.ref aX] (wk_B (dC, dI) [(cyI, .int)] [(aX, .inr (8, [.ref aT, .ref aS, .ref aF, .ref aQ, .ref aW, .ref aP, .ref aB, .ref aR])), (aB, .inr (1, [.ref aBr, .int bn])), (aBr, .inl (cyI, 800, .inl br)), (aR, .inr (5, [.ref aRb, .int rn, .int rf, .int rx, .int rp])), (aRb, .inl (cyI, 200, .inl rb))] sz)) (va_Qi (fun (r : Int32) (u : Int32 × Int32 × Int32 × Int32 × (Nat → Int32)) => post r u.1 u.2.1 u.2.2.1 u.2.2.2.1 u.2.2.2.2) (wk_C (dC, dI) [(cyI, .int)] (va_A [(aX, .inr (8, [.ref aT, .ref aS, .ref aF, .ref aQ, .ref aW, .ref aP, .ref aB, .ref aR])), (aB, .inr (1, [.ref aBr, .int bn])), (aBr, .inl (cyI, 800, .inl br)), (aR, .inr (5, [.ref aRb, .int rn, .int rf, .int rx, .int rp])), (aRb, .inl (cyI, 200, .inl rb))] sz) (fun (u : Int32 × Int32 × Int32 × Int32 × (Nat → Int32)) => [(aX, .inr (8, [.ref aT, .ref aS, .ref aF, .ref aQ, .ref aW, .ref aP, .ref aB, .ref aR])), (aB, .inr (1, [.ref aBr, .int bn])), (aBr, .inl (cyI, 800, .inl br)), (aR, .inr (5, [.ref aRb, .int (u.1), .int (u.2.1), .int (u.2.2.1), .int (u.2.2.2.1)])), (aRb, .inl (cyI, 200, .inl (u.2.2.2.2)))])) (va_A [(aX, .inr (8, [.ref aT, .ref aS, .ref aF, .ref aQ, .ref aW, .ref aP, .ref aB, .ref aR])), (aB, .inr (1, [.ref aBr, .int bn])), (aBr, .inl (cyI, 800, .inl br)), (aR, .inr (5, [.ref aRb, .int rn, .int rf, .int rx, .int rp])), (aRb, .inl (cyI, 200, .inl rb))] sz)) 0 0 (va_A [(aX, .inr (8, [.ref aT, .ref aS, .ref aF, .ref aQ, .ref aW, .ref aP, .ref aB, .ref aR])), (aB, .inr (1, [.ref aBr, .int bn])), (aBr, .inl (cyI, 800, .inl br)), (aR, .inr (5, [.ref aRb, .int rn, .int rf, .int rx, .int rp])), (aRb, .inl (cyI, 200, .inl rb))] sz) := by
  refine Met.ofW (cc := cX9_read) (maxL := 1) (ret := (some .int)) (by decide) rfl ?_
  intro p e s m args below meth c s₁ B hml hv
  obtain ⟨rfl, hsz, hP, hK, hD0⟩ := hv
  have hx := B.exec
  have hb := B.bytes
  have hr := B.returns
  have hts := atoms_spec (ws := wsX9_read) B.pre
  have hown : s.vm.findClass RX9 = some m.cls := findClass_of_methodNamed B.named
  have hlocks := B.notSynchronized
  subst hsz
  have hD := hD0.self (sz := s.heap.size)
  generalize hAe : va_A [(aX, .inr (8, [.ref aT, .ref aS, .ref aF, .ref aQ, .ref aW, .ref aP, .ref aB, .ref aR])), (aB, .inr (1, [.ref aBr, .int bn])), (aBr, .inl (cyI, 800, .inl br)), (aR, .inr (5, [.ref aRb, .int rn, .int rf, .int rx, .int rp])), (aRb, .inl (cyI, 200, .inl rb))] s.heap.size = A at hD ⊢
  have hA : ∀ q : Nat, s.heap.size ≤ q → A q := fun q h => by rw [← hAe]; exact Or.inr h
  have hS : va_S A s.heap s.heap [] := va_S.rf
  have hP : va_P (dC, dI) vwCl [(aX, .inr (8, [.ref aT, .ref aS, .ref aF, .ref aQ, .ref aW, .ref aP, .ref aB, .ref aR])), (aB, .inr (1, [.ref aBr, .int bn])), (aBr, .inl (cyI, 800, .inl br)), (aR, .inr (5, [.ref aRb, .int rn, .int rf, .int rx, .int rp])), (aRb, .inl (cyI, 200, .inl rb))] s.heap := hP
  have hl := lv_entry ([.ref aX]) (n := 1) (Nat.le_of_ble_eq_true rfl)
  rw [lg_entry_eq]
  generalize (lg_sl ([.ref aX]) ++ List.replicate (1 - (lg_sl ([.ref aX])).length) Slot.unset).toArray = ls at hl ⊢
  have hl : lv_has ls 1 [(0, .ref aX)] := hl
  have C0 : CallFix p m c cX9_read 1 s ([.ref aX] : List Value).toArray wsX9_read RX9 := ⟨hx, hb, hml, hown, hts⟩
  unfold wpX9_read at h
  refine lv_aload_n hx hb dX9_read_0 rfl (lv_at hl 0 rfl) ?_
  refine va_get (D := (dC, dI)) (ci := 8) (v := .ref aR) (C := RX9) (T := TX9) (N := 8) hx hb hts inX9_read_wsX90 hown hK hP 0 rfl rfl 7 (by decide) (hts _ qX9_read_0) (fun _ h9 => h9) rfl dX9_read_1 ?_
  refine lv_aload_n hx hb dX9_read_4 rfl (lv_at hl 0 rfl) ?_
  refine va_get (D := (dC, dI)) (ci := 8) (v := .ref aB) (C := RX9) (T := TX9) (N := 8) hx hb hts inX9_read_wsX90 hown hK hP 0 rfl rfl 6 (by decide) (hts _ qX9_read_1) (fun _ h9 => h9) rfl dX9_read_5 ?_
  refine wk_calli (wc := [(aB, .inr (1, [.ref aBr, .int bn])), (aBr, .inl (cyI, 800, .inl br)), (aR, .inr (5, [.ref aRb, .int rn, .int rf, .int rx, .int rp])), (aRb, .inl (cyI, 200, .inl rb))]) (wr := [(aX, .inr (8, [.ref aT, .ref aS, .ref aF, .ref aQ, .ref aW, .ref aP, .ref aB, .ref aR]))]) (va_runV (As := [.ref aB]) (rest := []) C0 (mtX6_readAll l dC dI cyI (aB := aB) (aBr := aBr) (aR := aR) (aRb := aRb) (sz := _) (bn := bn) (br := br) (rn := rn) (rf := rf) (rx := rx) (rp := rp) (rb := rb) h) (cwV 1 hts gX9_read_X6_readAll rfl rfl rfl (by decide +kernel) ⟨(Nat.le_of_ble_eq_true rfl), (Nat.le_of_ble_eq_true rfl)⟩) (wk_preV (wc := [(aB, .inr (1, [.ref aBr, .int bn])), (aBr, .inl (cyI, 800, .inl br)), (aR, .inr (5, [.ref aRb, .int rn, .int rf, .int rx, .int rp])), (aRb, .inl (cyI, 200, .inl rb))]) hK hP hD [1, 2, 3, 4] rfl (by decide) (va_recv hK hP (ci := 5) (q0 := 3) rfl rfl)) rfl rfl hl.1 rfl (lv_room (Nat.le_of_ble_eq_true rfl)) dX9_read_8 ⟨(Nat.le_of_ble_eq_true rfl), (Nat.le_of_ble_eq_true rfl)⟩) hP hD hS hA [1, 2, 3, 4] [0] rfl rfl (by decide) (by decide) (fun r_1 u9 H locs h hP hD hS => ?_)
  obtain ⟨rn_2, rf_3, rx_4, rp_5, rb_6⟩ := u9
  have hP : va_P (dC, dI) vwCl [(aX, .inr (8, [.ref aT, .ref aS, .ref aF, .ref aQ, .ref aW, .ref aP, .ref aB, .ref aR])), (aB, .inr (1, [.ref aBr, .int bn])), (aBr, .inl (cyI, 800, .inl br)), (aR, .inr (5, [.ref aRb, .int rn_2, .int rf_3, .int rx_4, .int rp_5])), (aRb, .inl (cyI, 200, .inl rb_6))] H := hP
  have hD : va_D A [(aX, .inr (8, [.ref aT, .ref aS, .ref aF, .ref aQ, .ref aW, .ref aP, .ref aB, .ref aR])), (aB, .inr (1, [.ref aBr, .int bn])), (aBr, .inl (cyI, 800, .inl br)), (aR, .inr (5, [.ref aRb, .int rn_2, .int rf_3, .int rx_4, .int rp_5])), (aRb, .inl (cyI, 200, .inl rb_6))] := hD
  dsimp only at h
  have hP9 : va_P (dC, dI) vwCl [(aX, .inr (8, [.ref aT, .ref aS, .ref aF, .ref aQ, .ref aW, .ref aP, .ref aB, .ref aR])), (aB, .inr (1, [.ref aBr, .int bn])), (aBr, .inl (cyI, 800, .inl br)), (aR, .inr (5, [.ref aRb, .int rn_2, .int rf_3, .int rx_4, .int rp_5])), (aRb, .inl (cyI, 200, .inl rb_6))] _ := hP
  have hD9 : va_D A [(aX, .inr (8, [.ref aT, .ref aS, .ref aF, .ref aQ, .ref aW, .ref aP, .ref aB, .ref aR])), (aB, .inr (1, [.ref aBr, .int bn])), (aBr, .inl (cyI, 800, .inl br)), (aR, .inr (5, [.ref aRb, .int rn_2, .int rf_3, .int rx_4, .int rp_5])), (aRb, .inl (cyI, 200, .inl rb_6))] := hD
  exact W.iret (v := r_1) hx hb hr (fun t ht hW => ⟨⟨r_1, (rn_2, rf_3, rx_4, rp_5, rb_6), rfl, h, by rw [ht]; exact hP9, va_K.moved hW.alike hK, hD9⟩, hS.F ht⟩) hS.2.2 dX9_read_11
-- X9_errorPosition
theorem qX9_errorPosition_0 : Cond.fieldLink RX9 65 "MatchCoder" "reading" "LMatchCoder$Reading;" ∈ wsX9_errorPosition := (List.mem_cons_of_mem _ (List.mem_append_left _ (List.mem_append_left _ (List.mem_of_getElem? (i := 0) rfl))))
theorem qX9_errorPosition_1 : Cond.fieldLink RX9 224 "MatchCoder$Reading" "failedAt" "I" ∈ wsX9_errorPosition := (List.mem_cons_of_mem _ (List.mem_append_left _ (List.mem_append_left _ (List.mem_of_getElem? (i := 1) rfl))))
theorem inX9_errorPosition_wsX90 : ∀ w ∈ wsX90, w ∈ wsX9_errorPosition := fun _ h => List.mem_cons_of_mem _ (List.mem_append_left _ (List.mem_append_right _ h))
theorem inX9_errorPosition_wsX60 : ∀ w ∈ wsX60, w ∈ wsX9_errorPosition := fun _ h => List.mem_cons_of_mem _ (List.mem_append_right _ h)
def wpX9_errorPosition (rf : Int32) (post : Int32 → Prop) : Prop := post rf
set_option maxHeartbeats 4000000 in
set_option maxRecDepth 100000 in
theorem mtX9_errorPosition (l : Launch) (dC : Nat → ClassId) (dI : Nat → Nat → Nat) (cyI : ClassId) {aX aT aS aF aQ aW aP aB aR aRb : Nat} {sz : Nat} {rn : Int32} {rf : Int32} {rx : Int32} {rp : Int32} {post : Int32 → Prop} (h : wpX9_errorPosition rf post) : Met l yX9_errorPosition wsX9_errorPosition ({ frames := 0, cells := 0, slots := 0, locals := 0 }) (va_Pc [.ref aX] (wk_B (dC, dI) [(cyI, .int)] [(aX, .inr (8, [.ref aT, .ref aS, .ref aF, .ref aQ, .ref aW, .ref aP, .ref aB, .ref aR])), (aR, .inr (5, [.ref aRb, .int rn, .int rf, .int rx, .int rp]))] sz)) (va_Qi (fun (r : Int32) (u : Unit) => post r ) (wk_C (dC, dI) [(cyI, .int)] (va_A [(aX, .inr (8, [.ref aT, .ref aS, .ref aF, .ref aQ, .ref aW, .ref aP, .ref aB, .ref aR])), (aR, .inr (5, [.ref aRb, .int rn, .int rf, .int rx, .int rp]))] sz) (fun (u : Unit) => [(aX, .inr (8, [.ref aT, .ref aS, .ref aF, .ref aQ, .ref aW, .ref aP, .ref aB, .ref aR])), (aR, .inr (5, [.ref aRb, .int rn, .int rf, .int rx, .int rp]))])) (va_A [(aX, .inr (8, [.ref aT, .ref aS, .ref aF, .ref aQ, .ref aW, .ref aP, .ref aB, .ref aR])), (aR, .inr (5, [.ref aRb, .int rn, .int rf, .int rx, .int rp]))] sz)) 0 0 (va_A [(aX, .inr (8, [.ref aT, .ref aS, .ref aF, .ref aQ, .ref aW, .ref aP, .ref aB, .ref aR])), (aR, .inr (5, [.ref aRb, .int rn, .int rf, .int rx, .int rp]))] sz) := by
  refine Met.ofW (cc := cX9_errorPosition) (maxL := 1) (ret := (some .int)) (by decide) rfl ?_
  intro p e s m args below meth c s₁ B hml hv
  obtain ⟨rfl, hsz, hP, hK, hD0⟩ := hv
  have hx := B.exec
  have hb := B.bytes
  have hr := B.returns
  have hts := atoms_spec (ws := wsX9_errorPosition) B.pre
  have hown : s.vm.findClass RX9 = some m.cls := findClass_of_methodNamed B.named
  have hlocks := B.notSynchronized
  subst hsz
  have hD := hD0.self (sz := s.heap.size)
  generalize hAe : va_A [(aX, .inr (8, [.ref aT, .ref aS, .ref aF, .ref aQ, .ref aW, .ref aP, .ref aB, .ref aR])), (aR, .inr (5, [.ref aRb, .int rn, .int rf, .int rx, .int rp]))] s.heap.size = A at hD ⊢
  have hA : ∀ q : Nat, s.heap.size ≤ q → A q := fun q h => by rw [← hAe]; exact Or.inr h
  have hS : va_S A s.heap s.heap [] := va_S.rf
  have hP : va_P (dC, dI) vwCl [(aX, .inr (8, [.ref aT, .ref aS, .ref aF, .ref aQ, .ref aW, .ref aP, .ref aB, .ref aR])), (aR, .inr (5, [.ref aRb, .int rn, .int rf, .int rx, .int rp]))] s.heap := hP
  have hl := lv_entry ([.ref aX]) (n := 1) (Nat.le_of_ble_eq_true rfl)
  rw [lg_entry_eq]
  generalize (lg_sl ([.ref aX]) ++ List.replicate (1 - (lg_sl ([.ref aX])).length) Slot.unset).toArray = ls at hl ⊢
  have hl : lv_has ls 1 [(0, .ref aX)] := hl
  have C0 : CallFix p m c cX9_errorPosition 1 s ([.ref aX] : List Value).toArray wsX9_errorPosition RX9 := ⟨hx, hb, hml, hown, hts⟩
  unfold wpX9_errorPosition at h
  refine lv_aload_n hx hb dX9_errorPosition_0 rfl (lv_at hl 0 rfl) ?_
  refine va_get (D := (dC, dI)) (ci := 8) (v := .ref aR) (C := RX9) (T := TX9) (N := 8) hx hb hts inX9_errorPosition_wsX90 hown hK hP 0 rfl rfl 7 (by decide) (hts _ qX9_errorPosition_0) (fun _ h9 => h9) rfl dX9_errorPosition_1 ?_
  refine va_get (D := (dC, dI)) (ci := 5) (v := .int rf) (C := RX6) (T := TX6) (N := 5) hx hb hts inX9_errorPosition_wsX60 hown hK hP 1 rfl rfl 2 (by decide) (hts _ qX9_errorPosition_1) (fun _ h9 => h9) rfl dX9_errorPosition_4 ?_
  have hP9 : va_P (dC, dI) vwCl [(aX, .inr (8, [.ref aT, .ref aS, .ref aF, .ref aQ, .ref aW, .ref aP, .ref aB, .ref aR])), (aR, .inr (5, [.ref aRb, .int rn, .int rf, .int rx, .int rp]))] _ := hP
  have hD9 : va_D A [(aX, .inr (8, [.ref aT, .ref aS, .ref aF, .ref aQ, .ref aW, .ref aP, .ref aB, .ref aR])), (aR, .inr (5, [.ref aRb, .int rn, .int rf, .int rx, .int rp]))] := hD
  exact W.iret (v := rf) hx hb hr (fun t ht hW => ⟨⟨rf, (), rfl, h, by rw [ht]; exact hP9, va_K.moved hW.alike hK, hD9⟩, hS.F ht⟩) hS.2.2 dX9_errorPosition_7
-- X9_outputSize
theorem qX9_outputSize_0 : Cond.fieldLink RX9 65 "MatchCoder" "reading" "LMatchCoder$Reading;" ∈ wsX9_outputSize := (List.mem_cons_of_mem _ (List.mem_append_left _ (List.mem_append_left _ (List.mem_of_getElem? (i := 0) rfl))))
theorem qX9_outputSize_1 : Cond.fieldLink RX9 227 "MatchCoder$Reading" "count" "I" ∈ wsX9_outputSize := (List.mem_cons_of_mem _ (List.mem_append_left _ (List.mem_append_left _ (List.mem_of_getElem? (i := 1) rfl))))
theorem inX9_outputSize_wsX90 : ∀ w ∈ wsX90, w ∈ wsX9_outputSize := fun _ h => List.mem_cons_of_mem _ (List.mem_append_left _ (List.mem_append_right _ h))
theorem inX9_outputSize_wsX60 : ∀ w ∈ wsX60, w ∈ wsX9_outputSize := fun _ h => List.mem_cons_of_mem _ (List.mem_append_right _ h)
def wpX9_outputSize (rn : Int32) (post : Int32 → Prop) : Prop := post rn
set_option maxHeartbeats 4000000 in
set_option maxRecDepth 100000 in
theorem mtX9_outputSize (l : Launch) (dC : Nat → ClassId) (dI : Nat → Nat → Nat) (cyI : ClassId) {aX aT aS aF aQ aW aP aB aR aRb : Nat} {sz : Nat} {rn : Int32} {rf : Int32} {rx : Int32} {rp : Int32} {post : Int32 → Prop} (h : wpX9_outputSize rn post) : Met l yX9_outputSize wsX9_outputSize ({ frames := 0, cells := 0, slots := 0, locals := 0 }) (va_Pc [.ref aX] (wk_B (dC, dI) [(cyI, .int)] [(aX, .inr (8, [.ref aT, .ref aS, .ref aF, .ref aQ, .ref aW, .ref aP, .ref aB, .ref aR])), (aR, .inr (5, [.ref aRb, .int rn, .int rf, .int rx, .int rp]))] sz)) (va_Qi (fun (r : Int32) (u : Unit) => post r ) (wk_C (dC, dI) [(cyI, .int)] (va_A [(aX, .inr (8, [.ref aT, .ref aS, .ref aF, .ref aQ, .ref aW, .ref aP, .ref aB, .ref aR])), (aR, .inr (5, [.ref aRb, .int rn, .int rf, .int rx, .int rp]))] sz) (fun (u : Unit) => [(aX, .inr (8, [.ref aT, .ref aS, .ref aF, .ref aQ, .ref aW, .ref aP, .ref aB, .ref aR])), (aR, .inr (5, [.ref aRb, .int rn, .int rf, .int rx, .int rp]))])) (va_A [(aX, .inr (8, [.ref aT, .ref aS, .ref aF, .ref aQ, .ref aW, .ref aP, .ref aB, .ref aR])), (aR, .inr (5, [.ref aRb, .int rn, .int rf, .int rx, .int rp]))] sz)) 0 0 (va_A [(aX, .inr (8, [.ref aT, .ref aS, .ref aF, .ref aQ, .ref aW, .ref aP, .ref aB, .ref aR])), (aR, .inr (5, [.ref aRb, .int rn, .int rf, .int rx, .int rp]))] sz) := by
  refine Met.ofW (cc := cX9_outputSize) (maxL := 1) (ret := (some .int)) (by decide) rfl ?_
  intro p e s m args below meth c s₁ B hml hv
  obtain ⟨rfl, hsz, hP, hK, hD0⟩ := hv
  have hx := B.exec
  have hb := B.bytes
  have hr := B.returns
  have hts := atoms_spec (ws := wsX9_outputSize) B.pre
  have hown : s.vm.findClass RX9 = some m.cls := findClass_of_methodNamed B.named
  have hlocks := B.notSynchronized
  subst hsz
  have hD := hD0.self (sz := s.heap.size)
  generalize hAe : va_A [(aX, .inr (8, [.ref aT, .ref aS, .ref aF, .ref aQ, .ref aW, .ref aP, .ref aB, .ref aR])), (aR, .inr (5, [.ref aRb, .int rn, .int rf, .int rx, .int rp]))] s.heap.size = A at hD ⊢
  have hA : ∀ q : Nat, s.heap.size ≤ q → A q := fun q h => by rw [← hAe]; exact Or.inr h
  have hS : va_S A s.heap s.heap [] := va_S.rf
  have hP : va_P (dC, dI) vwCl [(aX, .inr (8, [.ref aT, .ref aS, .ref aF, .ref aQ, .ref aW, .ref aP, .ref aB, .ref aR])), (aR, .inr (5, [.ref aRb, .int rn, .int rf, .int rx, .int rp]))] s.heap := hP
  have hl := lv_entry ([.ref aX]) (n := 1) (Nat.le_of_ble_eq_true rfl)
  rw [lg_entry_eq]
  generalize (lg_sl ([.ref aX]) ++ List.replicate (1 - (lg_sl ([.ref aX])).length) Slot.unset).toArray = ls at hl ⊢
  have hl : lv_has ls 1 [(0, .ref aX)] := hl
  have C0 : CallFix p m c cX9_outputSize 1 s ([.ref aX] : List Value).toArray wsX9_outputSize RX9 := ⟨hx, hb, hml, hown, hts⟩
  unfold wpX9_outputSize at h
  refine lv_aload_n hx hb dX9_outputSize_0 rfl (lv_at hl 0 rfl) ?_
  refine va_get (D := (dC, dI)) (ci := 8) (v := .ref aR) (C := RX9) (T := TX9) (N := 8) hx hb hts inX9_outputSize_wsX90 hown hK hP 0 rfl rfl 7 (by decide) (hts _ qX9_outputSize_0) (fun _ h9 => h9) rfl dX9_outputSize_1 ?_
  refine va_get (D := (dC, dI)) (ci := 5) (v := .int rn) (C := RX6) (T := TX6) (N := 5) hx hb hts inX9_outputSize_wsX60 hown hK hP 1 rfl rfl 1 (by decide) (hts _ qX9_outputSize_1) (fun _ h9 => h9) rfl dX9_outputSize_4 ?_
  have hP9 : va_P (dC, dI) vwCl [(aX, .inr (8, [.ref aT, .ref aS, .ref aF, .ref aQ, .ref aW, .ref aP, .ref aB, .ref aR])), (aR, .inr (5, [.ref aRb, .int rn, .int rf, .int rx, .int rp]))] _ := hP
  have hD9 : va_D A [(aX, .inr (8, [.ref aT, .ref aS, .ref aF, .ref aQ, .ref aW, .ref aP, .ref aB, .ref aR])), (aR, .inr (5, [.ref aRb, .int rn, .int rf, .int rx, .int rp]))] := hD
  exact W.iret (v := rn) hx hb hr (fun t ht hW => ⟨⟨rn, (), rfl, h, by rw [ht]; exact hP9, va_K.moved hW.alike hK, hD9⟩, hS.F ht⟩) hS.2.2 dX9_outputSize_7
-- X9_differences
theorem qX9_differences_0 : Cond.fieldLink RX9 10 "MatchCoder" "text" "LMatchCoder$Text;" ∈ wsX9_differences := (List.mem_cons_of_mem _ (List.mem_append_left _ (List.mem_append_left _ (List.mem_append_left _ (List.mem_of_getElem? (i := 0) rfl)))))
theorem qX9_differences_1 : Cond.fieldLink RX9 76 "MatchCoder$Text" "count" "I" ∈ wsX9_differences := (List.mem_cons_of_mem _ (List.mem_append_left _ (List.mem_append_left _ (List.mem_append_left _ (List.mem_of_getElem? (i := 1) rfl)))))
theorem qX9_differences_2 : Cond.fieldLink RX9 65 "MatchCoder" "reading" "LMatchCoder$Reading;" ∈ wsX9_differences := (List.mem_cons_of_mem _ (List.mem_append_left _ (List.mem_append_left _ (List.mem_append_left _ (List.mem_of_getElem? (i := 2) rfl)))))
theorem qX9_differences_3 : Cond.fieldLink RX9 227 "MatchCoder$Reading" "count" "I" ∈ wsX9_differences := (List.mem_cons_of_mem _ (List.mem_append_left _ (List.mem_append_left _ (List.mem_append_left _ (List.mem_of_getElem? (i := 3) rfl)))))
theorem qX9_differences_4 : Cond.methodLink RX9 229 Lib.Math.min.name ∈ wsX9_differences := (List.mem_cons_of_mem _ (List.mem_append_left _ (List.mem_append_left _ (List.mem_append_left _ (List.mem_of_getElem? (i := 4) rfl)))))
theorem qX9_differences_5 : Cond.static Lib.Math.min.name ∈ wsX9_differences := (List.mem_cons_of_mem _ (List.mem_append_left _ (List.mem_append_left _ (List.mem_append_left _ (List.mem_of_getElem? (i := 5) rfl)))))
theorem qX9_differences_6 : Cond.initialized "java/lang/Math" ∈ wsX9_differences := (List.mem_cons_of_mem _ (List.mem_append_left _ (List.mem_append_left _ (List.mem_append_left _ (List.mem_of_getElem? (i := 6) rfl)))))
theorem qX9_differences_7 : Cond.code Lib.Math.min.name Lib.Math.min.code 2 (some .int) ∈ wsX9_differences := (List.mem_cons_of_mem _ (List.mem_append_left _ (List.mem_append_left _ (List.mem_append_left _ (List.mem_of_getElem? (i := 7) rfl)))))
theorem qX9_differences_8 : Cond.methodLink RX9 234 Lib.Math.max.name ∈ wsX9_differences := (List.mem_cons_of_mem _ (List.mem_append_left _ (List.mem_append_left _ (List.mem_append_left _ (List.mem_of_getElem? (i := 8) rfl)))))
theorem qX9_differences_9 : Cond.static Lib.Math.max.name ∈ wsX9_differences := (List.mem_cons_of_mem _ (List.mem_append_left _ (List.mem_append_left _ (List.mem_append_left _ (List.mem_of_getElem? (i := 9) rfl)))))
theorem qX9_differences_10 : Cond.code Lib.Math.max.name Lib.Math.max.code 2 (some .int) ∈ wsX9_differences := (List.mem_cons_of_mem _ (List.mem_append_left _ (List.mem_append_left _ (List.mem_append_left _ (List.mem_of_getElem? (i := 10) rfl)))))
theorem qX9_differences_11 : Cond.fieldLink RX9 112 "MatchCoder$Text" "bytes" "[I" ∈ wsX9_differences := (List.mem_cons_of_mem _ (List.mem_append_left _ (List.mem_append_left _ (List.mem_append_left _ (List.mem_of_getElem? (i := 11) rfl)))))
theorem qX9_differences_12 : Cond.fieldLink RX9 228 "MatchCoder$Reading" "bytes" "[I" ∈ wsX9_differences := (List.mem_cons_of_mem _ (List.mem_append_left _ (List.mem_append_left _ (List.mem_append_left _ (List.mem_of_getElem? (i := 12) rfl)))))
theorem inX9_differences_wsX90 : ∀ w ∈ wsX90, w ∈ wsX9_differences := fun _ h => List.mem_cons_of_mem _ (List.mem_append_left _ (List.mem_append_left _ (List.mem_append_right _ h)))
theorem inX9_differences_wsX80 : ∀ w ∈ wsX80, w ∈ wsX9_differences := fun _ h => List.mem_cons_of_mem _ (List.mem_append_left _ (List.mem_append_right _ h))
theorem inX9_differences_wsX60 : ∀ w ∈ wsX60, w ∈ wsX9_differences := fun _ h => List.mem_cons_of_mem _ (List.mem_append_right _ h)
def wpX9_differences_75 (v3 : Int32) (v4 : Int32) (KB : Int32 → Int32 → Prop) (K81 : Int32 → Prop) : Prop := KB v3 (v4 + 1)
set_option maxHeartbeats 4000000 in
set_option maxRecDepth 100000 in
theorem wjX9_differences_75 {p : Program} {l : Launch} {e : Env} {s : State} {m : MethodId} {args : Array Value} {below : List Frame} {meth : Method} {c : Code} {A : Nat → Prop} {Q : State → Prop} {dC : Nat → ClassId} {dI : Nat → Nat → Nat} {cyI : ClassId} {aX aT aTb aS aF aQ aW aP aB aR aRb : Nat} {v1 : Int32} {v3 : Int32} {v4 : Int32} {tn : Int32} {tb : Nat → Int32} {rn : Int32} {rf : Int32} {rx : Int32} {rp : Int32} {rb : Nat → Int32} {KB : Int32 → Int32 → Prop} {K81 : Int32 → Prop} (C0 : CallFix p m c cX9_differences 5 s args wsX9_differences RX9) (hA : ∀ q : Nat, s.heap.size ≤ q → A q) (hK : va_K (dC, dI) vwCl [(cyI, .int)] s) (h : wpX9_differences_75 v3 v4 KB K81) (H : Heap) (locs : List Loc) (ls : Array Slot) (hP : va_P (dC, dI) vwCl [(aX, .inr (8, [.ref aT, .ref aS, .ref aF, .ref aQ, .ref aW, .ref aP, .ref aB, .ref aR])), (aT, .inr (7, [.ref aTb, .int tn])), (aTb, .inl (cyI, 64, .inl tb)), (aR, .inr (5, [.ref aRb, .int rn, .int rf, .int rx, .int rp])), (aRb, .inl (cyI, 200, .inl rb))] H) (hD : va_D A [(aX, .inr (8, [.ref aT, .ref aS, .ref aF, .ref aQ, .ref aW, .ref aP, .ref aB, .ref aR])), (aT, .inr (7, [.ref aTb, .int tn])), (aTb, .inl (cyI, 64, .inl tb)), (aR, .inr (5, [.ref aRb, .int rn, .int rf, .int rx, .int rp])), (aRb, .inl (cyI, 200, .inl rb))]) (hS : va_S A s.heap H locs) (hl : lv_has ls 5 [(0, .ref aX), (1, .int v1), (3, .int v3), (4, .int v4)]) (hKB : ∀ (v3 : Int32) (v4 : Int32), KB v3 v4 → ∀ (H : Heap) (locs : List Loc) (ls : Array Slot), va_P (dC, dI) vwCl [(aX, .inr (8, [.ref aT, .ref aS, .ref aF, .ref aQ, .ref aW, .ref aP, .ref aB, .ref aR])), (aT, .inr (7, [.ref aTb, .int tn])), (aTb, .inl (cyI, 64, .inl tb)), (aR, .inr (5, [.ref aRb, .int rn, .int rf, .int rx, .int rp])), (aRb, .inl (cyI, 200, .inl rb))] H → va_D A [(aX, .inr (8, [.ref aT, .ref aS, .ref aF, .ref aQ, .ref aW, .ref aP, .ref aB, .ref aR])), (aT, .inr (7, [.ref aTb, .int tn])), (aTb, .inl (cyI, 64, .inl tb)), (aR, .inr (5, [.ref aRb, .int rn, .int rf, .int rx, .int rp])), (aRb, .inl (cyI, 200, .inl rb))] → va_S A s.heap H locs → lv_has ls 5 [(0, .ref aX), (1, .int v1), (3, .int v3), (4, .int v4)] → W p l e ({ frames := 1, cells := 0, slots := 0, locals := 13 } : Room) s m args below meth c H locs 0 0 Q (F0 m 43 ls [])) (hK81 : ∀ (v3 : Int32), K81 v3 → ∀ (H : Heap) (locs : List Loc) (ls : Array Slot), va_P (dC, dI) vwCl [(aX, .inr (8, [.ref aT, .ref aS, .ref aF, .ref aQ, .ref aW, .ref aP, .ref aB, .ref aR])), (aT, .inr (7, [.ref aTb, .int tn])), (aTb, .inl (cyI, 64, .inl tb)), (aR, .inr (5, [.ref aRb, .int rn, .int rf, .int rx, .int rp])), (aRb, .inl (cyI, 200, .inl rb))] H → va_D A [(aX, .inr (8, [.ref aT, .ref aS, .ref aF, .ref aQ, .ref aW, .ref aP, .ref aB, .ref aR])), (aT, .inr (7, [.ref aTb, .int tn])), (aTb, .inl (cyI, 64, .inl tb)), (aR, .inr (5, [.ref aRb, .int rn, .int rf, .int rx, .int rp])), (aRb, .inl (cyI, 200, .inl rb))] → va_S A s.heap H locs → lv_has ls 5 [(3, .int v3)] → W p l e ({ frames := 1, cells := 0, slots := 0, locals := 13 } : Room) s m args below meth c H locs 0 0 Q (F0 m 81 ls [])) : W p l e ({ frames := 1, cells := 0, slots := 0, locals := 13 } : Room) s m args below meth c H locs 0 0 Q (F0 m 75 ls []) := by
  obtain ⟨hx, hb, hml, hown, hts⟩ := id C0
  unfold wpX9_differences_75 at h
  refine lv_iinc (v := v4 + 1) (lv' := [(4, .int (v4 + 1)), (0, .ref aX), (1, .int v1), (3, .int v3)]) hx hb dX9_differences_75 hl (k := 3) rfl rfl (by decide) rfl (fun ls hl => ?_)
  refine lv_goto (tgt := 43) hx hb dX9_differences_78 (by decide) ?_
  exact hKB _ _ h _ _ _ hP hD hS (lv_sub hl [1, 2, 3, 0] rfl)
def wpX9_differences_43 (v1 : Int32) (tb : Nat → Int32) (rb : Nat → Int32) (K81 : Int32 → Prop) : Nat → Int32 → Int32 → Prop
  | 0, _, _ => False
  | n43 + 1, v3, v4 => (v1 ≤ v4 → (K81 v3)) ∧ (¬ v1 ≤ v4 → (vp_in v4 64 ∧ (vp_in v4 200 ∧ (((tb v4.toNatClampNeg) = (rb v4.toNatClampNeg) → (wpX9_differences_75 v3 v4 (wpX9_differences_43 v1 tb rb K81 n43) K81)) ∧ (¬ (tb v4.toNatClampNeg) = (rb v4.toNatClampNeg) → (wpX9_differences_75 (v3 + 1) v4 (wpX9_differences_43 v1 tb rb K81 n43) K81))))))
set_option maxHeartbeats 4000000 in
set_option maxRecDepth 100000 in
theorem wlX9_differences_43 {p : Program} {l : Launch} {e : Env} {s : State} {m : MethodId} {args : Array Value} {below : List Frame} {meth : Method} {c : Code} {A : Nat → Prop} {Q : State → Prop} {dC : Nat → ClassId} {dI : Nat → Nat → Nat} {cyI : ClassId} {aX aT aTb aS aF aQ aW aP aB aR aRb : Nat} {v1 : Int32} {tn : Int32} {tb : Nat → Int32} {rn : Int32} {rf : Int32} {rx : Int32} {rp : Int32} {rb : Nat → Int32} {K81 : Int32 → Prop} (C0 : CallFix p m c cX9_differences 5 s args wsX9_differences RX9) (hA : ∀ q : Nat, s.heap.size ≤ q → A q) (hK : va_K (dC, dI) vwCl [(cyI, .int)] s) (hK81 : ∀ (v3 : Int32), K81 v3 → ∀ (H : Heap) (locs : List Loc) (ls : Array Slot), va_P (dC, dI) vwCl [(aX, .inr (8, [.ref aT, .ref aS, .ref aF, .ref aQ, .ref aW, .ref aP, .ref aB, .ref aR])), (aT, .inr (7, [.ref aTb, .int tn])), (aTb, .inl (cyI, 64, .inl tb)), (aR, .inr (5, [.ref aRb, .int rn, .int rf, .int rx, .int rp])), (aRb, .inl (cyI, 200, .inl rb))] H → va_D A [(aX, .inr (8, [.ref aT, .ref aS, .ref aF, .ref aQ, .ref aW, .ref aP, .ref aB, .ref aR])), (aT, .inr (7, [.ref aTb, .int tn])), (aTb, .inl (cyI, 64, .inl tb)), (aR, .inr (5, [.ref aRb, .int rn, .int rf, .int rx, .int rp])), (aRb, .inl (cyI, 200, .inl rb))] → va_S A s.heap H locs → lv_has ls 5 [(3, .int v3)] → W p l e ({ frames := 1, cells := 0, slots := 0, locals := 13 } : Room) s m args below meth c H locs 0 0 Q (F0 m 81 ls [])) :
    ∀ (n43 : Nat) (v3 : Int32) (v4 : Int32), wpX9_differences_43 v1 tb rb K81 n43 v3 v4 → ∀ (H : Heap) (locs : List Loc) (ls : Array Slot), va_P (dC, dI) vwCl [(aX, .inr (8, [.ref aT, .ref aS, .ref aF, .ref aQ, .ref aW, .ref aP, .ref aB, .ref aR])), (aT, .inr (7, [.ref aTb, .int tn])), (aTb, .inl (cyI, 64, .inl tb)), (aR, .inr (5, [.ref aRb, .int rn, .int rf, .int rx, .int rp])), (aRb, .inl (cyI, 200, .inl rb))] H → va_D A [(aX, .inr (8, [.ref aT, .ref aS, .ref aF, .ref aQ, .ref aW, .ref aP, .ref aB, .ref aR])), (aT, .inr (7, [.ref aTb, .int tn])), (aTb, .inl (cyI, 64, .inl tb)), (aR, .inr (5, [.ref aRb, .int rn, .int rf, .int rx, .int rp])), (aRb, .inl (cyI, 200, .inl rb))] → va_S A s.heap H locs → lv_has ls 5 [(0, .ref aX), (1, .int v1), (3, .int v3), (4, .int v4)] → W p l e ({ frames := 1, cells := 0, slots := 0, locals := 13 } : Room) s m args below meth c H locs 0 0 Q (F0 m 43 ls []) := by
  obtain ⟨hx, hb, hml, hown, hts⟩ := id C0
  intro n43
  induction n43 with
  | zero => intro _ _ h; exact h.elim
  | succ n43 ih43 =>
    intro v3 v4 h H locs ls hP hD hS hl
    rw [wpX9_differences_43] at h
    refine lv_iload hx hb dX9_differences_43 (lv_at hl 3 rfl) ?_
    refine lv_iload_n hx hb dX9_differences_45 rfl (lv_at hl 1 rfl) ?_
    refine lv_icmp_ge (tgt := 81) hx hb dX9_differences_46 (by decide) (fun c_1 => ?_) (fun c_1 => ?_)
    · replace h := h.1 c_1
      exact hK81 _ h _ _ _ hP hD hS (lv_sub hl [2] rfl)
    · replace h := h.2 c_1
      refine lv_aload_n hx hb dX9_differences_49 rfl (lv_at hl 0 rfl) ?_
      refine va_get (D := (dC, dI)) (ci := 8) (v := .ref aT) (C := RX9) (T := TX9) (N := 8) hx hb hts inX9_differences_wsX90 hown hK hP 0 rfl rfl 0 (by decide) (hts _ qX9_differences_0) (fun _ h9 => h9) rfl dX9_differences_50 ?_
      refine va_get (D := (dC, dI)) (ci := 7) (v := .ref aTb) (C := RX8) (T := TX8) (N := 2) hx hb hts inX9_differences_wsX80 hown hK hP 1 rfl rfl 0 (by decide) (hts _ qX9_differences_11) (fun _ h9 => h9) rfl dX9_differences_53 ?_
      refine lv_iload hx hb dX9_differences_56 (lv_at hl 3 rfl) ?_
      obtain ⟨hi_2, h⟩ := h
      refine va_iald hx hb hK hP 2 0 rfl rfl hi_2 dX9_differences_58 ?_
      refine lv_aload_n hx hb dX9_differences_59 rfl (lv_at hl 0 rfl) ?_
      refine va_get (D := (dC, dI)) (ci := 8) (v := .ref aR) (C := RX9) (T := TX9) (N := 8) hx hb hts inX9_differences_wsX90 hown hK hP 0 rfl rfl 7 (by decide) (hts _ qX9_differences_2) (fun _ h9 => h9) rfl dX9_differences_60 ?_
      refine va_get (D := (dC, dI)) (ci := 5) (v := .ref aRb) (C := RX6) (T := TX6) (N := 5) hx hb hts inX9_differences_wsX60 hown hK hP 3 rfl rfl 0 (by decide) (hts _ qX9_differences_12) (fun _ h9 => h9) rfl dX9_differences_63 ?_
      refine lv_iload hx hb dX9_differences_66 (lv_at hl 3 rfl) ?_
      obtain ⟨hi_3, h⟩ := h
      refine va_iald hx hb hK hP 4 0 rfl rfl hi_3 dX9_differences_68 ?_
      refine lv_icmp_eq (tgt := 75) hx hb dX9_differences_69 (by decide) (fun c_4 => ?_) (fun c_4 => ?_)
      · replace h := h.1 c_4
        exact wjX9_differences_75 C0 hA hK h _ _ _ hP hD hS (lv_sub hl [0, 1, 2, 3] rfl) ih43 hK81
      · replace h := h.2 c_4
        refine lv_iinc (v := v3 + 1) (lv' := [(3, .int (v3 + 1)), (0, .ref aX), (1, .int v1), (4, .int v4)]) hx hb dX9_differences_72 hl (k := 2) rfl rfl (by decide) rfl (fun ls hl => ?_)
        exact wjX9_differences_75 C0 hA hK h _ _ _ hP hD hS (lv_sub hl [1, 2, 0, 3] rfl) ih43 hK81
def wpX9_differences (tn : Int32) (tb : Nat → Int32) (rn : Int32) (rb : Nat → Int32) (post : Int32 → Prop) : Prop := ∃ n43 : Nat, wpX9_differences_43 (if rn < tn then rn else tn) tb rb (fun (v3_5 : Int32) => post v3_5) n43 ((if tn < rn then rn else tn) - (if rn < tn then rn else tn)) 0
set_option maxHeartbeats 4000000 in
set_option maxRecDepth 100000 in
theorem mtX9_differences (l : Launch) (dC : Nat → ClassId) (dI : Nat → Nat → Nat) (cyI : ClassId) {aX aT aTb aS aF aQ aW aP aB aR aRb : Nat} {sz : Nat} {tn : Int32} {tb : Nat → Int32} {rn : Int32} {rf : Int32} {rx : Int32} {rp : Int32} {rb : Nat → Int32} {post : Int32 → Prop} (h : wpX9_differences tn tb rn rb post) : Met l yX9_differences wsX9_differences ({ frames := 1, cells := 0, slots := 0, locals := 13 }) (va_Pc [.ref aX] (wk_B (dC, dI) [(cyI, .int)] [(aX, .inr (8, [.ref aT, .ref aS, .ref aF, .ref aQ, .ref aW, .ref aP, .ref aB, .ref aR])), (aT, .inr (7, [.ref aTb, .int tn])), (aTb, .inl (cyI, 64, .inl tb)), (aR, .inr (5, [.ref aRb, .int rn, .int rf, .int rx, .int rp])), (aRb, .inl (cyI, 200, .inl rb))] sz)) (va_Qi (fun (r : Int32) (u : Unit) => post r ) (wk_C (dC, dI) [(cyI, .int)] (va_A [(aX, .inr (8, [.ref aT, .ref aS, .ref aF, .ref aQ, .ref aW, .ref aP, .ref aB, .ref aR])), (aT, .inr (7, [.ref aTb, .int tn])), (aTb, .inl (cyI, 64, .inl tb)), (aR, .inr (5, [.ref aRb, .int rn, .int rf, .int rx, .int rp])), (aRb, .inl (cyI, 200, .inl rb))] sz) (fun (u : Unit) => [(aX, .inr (8, [.ref aT, .ref aS, .ref aF, .ref aQ, .ref aW, .ref aP, .ref aB, .ref aR])), (aT, .inr (7, [.ref aTb, .int tn])), (aTb, .inl (cyI, 64, .inl tb)), (aR, .inr (5, [.ref aRb, .int rn, .int rf, .int rx, .int rp])), (aRb, .inl (cyI, 200, .inl rb))])) (va_A [(aX, .inr (8, [.ref aT, .ref aS, .ref aF, .ref aQ, .ref aW, .ref aP, .ref aB, .ref aR])), (aT, .inr (7, [.ref aTb, .int tn])), (aTb, .inl (cyI, 64, .inl tb)), (aR, .inr (5, [.ref aRb, .int rn, .int rf, .int rx, .int rp])), (aRb, .inl (cyI, 200, .inl rb))] sz)) 0 0 (va_A [(aX, .inr (8, [.ref aT, .ref aS, .ref aF, .ref aQ, .ref aW, .ref aP, .ref aB, .ref aR])), (aT, .inr (7, [.ref aTb, .int tn])), (aTb, .inl (cyI, 64, .inl tb)), (aR, .inr (5, [.ref aRb, .int rn, .int rf, .int rx, .int rp])), (aRb, .inl (cyI, 200, .inl rb))] sz) := by
  refine Met.ofW (cc := cX9_differences) (maxL := 5) (ret := (some .int)) (by decide) rfl ?_
  intro p e s m args below meth c s₁ B hml hv
  obtain ⟨rfl, hsz, hP, hK, hD0⟩ := hv
  have hx := B.exec
  have hb := B.bytes
  have hr := B.returns
  have hts := atoms_spec (ws := wsX9_differences) B.pre
  have hown : s.vm.findClass RX9 = some m.cls := findClass_of_methodNamed B.named
  have hlocks := B.notSynchronized
  subst hsz
  have hD := hD0.self (sz := s.heap.size)
  generalize hAe : va_A [(aX, .inr (8, [.ref aT, .ref aS, .ref aF, .ref aQ, .ref aW, .ref aP, .ref aB, .ref aR])), (aT, .inr (7, [.ref aTb, .int tn])), (aTb, .inl (cyI, 64, .inl tb)), (aR, .inr (5, [.ref aRb, .int rn, .int rf, .int rx, .int rp])), (aRb, .inl (cyI, 200, .inl rb))] s.heap.size = A at hD ⊢
  have hA : ∀ q : Nat, s.heap.size ≤ q → A q := fun q h => by rw [← hAe]; exact Or.inr h
  have hS : va_S A s.heap s.heap [] := va_S.rf
  have hP : va_P (dC, dI) vwCl [(aX, .inr (8, [.ref aT, .ref aS, .ref aF, .ref aQ, .ref aW, .ref aP, .ref aB, .ref aR])), (aT, .inr (7, [.ref aTb, .int tn])), (aTb, .inl (cyI, 64, .inl tb)), (aR, .inr (5, [.ref aRb, .int rn, .int rf, .int rx, .int rp])), (aRb, .inl (cyI, 200, .inl rb))] s.heap := hP
  have hl := lv_entry ([.ref aX]) (n := 5) (Nat.le_of_ble_eq_true rfl)
  rw [lg_entry_eq]
  generalize (lg_sl ([.ref aX]) ++ List.replicate (5 - (lg_sl ([.ref aX])).length) Slot.unset).toArray = ls at hl ⊢
  have hl : lv_has ls 5 [(0, .ref aX)] := hl
  have C0 : CallFix p m c cX9_differences 5 s ([.ref aX] : List Value).toArray wsX9_differences RX9 := ⟨hx, hb, hml, hown, hts⟩
  unfold wpX9_differences at h
  refine lv_aload_n hx hb dX9_differences_0 rfl (lv_at hl 0 rfl) ?_
  refine va_get (D := (dC, dI)) (ci := 8) (v := .ref aT) (C := RX9) (T := TX9) (N := 8) hx hb hts inX9_differences_wsX90 hown hK hP 0 rfl rfl 0 (by decide) (hts _ qX9_differences_0) (fun _ h9 => h9) rfl dX9_differences_1 ?_
  refine va_get (D := (dC, dI)) (ci := 7) (v := .int tn) (C := RX8) (T := TX8) (N := 2) hx hb hts inX9_differences_wsX80 hown hK hP 1 rfl rfl 1 (by decide) (hts _ qX9_differences_1) (fun _ h9 => h9) rfl dX9_differences_4 ?_
  refine lv_aload_n hx hb dX9_differences_7 rfl (lv_at hl 0 rfl) ?_
  refine va_get (D := (dC, dI)) (ci := 8) (v := .ref aR) (C := RX9) (T := TX9) (N := 8) hx hb hts inX9_differences_wsX90 hown hK hP 0 rfl rfl 7 (by decide) (hts _ qX9_differences_2) (fun _ h9 => h9) rfl dX9_differences_8 ?_
  refine va_get (D := (dC, dI)) (ci := 5) (v := .int rn) (C := RX6) (T := TX6) (N := 5) hx hb hts inX9_differences_wsX60 hown hK hP 3 rfl rfl 1 (by decide) (hts _ qX9_differences_3) (fun _ h9 => h9) rfl dX9_differences_11 ?_
  refine va_mmin hx hb (hml.trans hl.1.symm) hown (hts _ qX9_differences_4) (hts _ qX9_differences_5) (hts _ qX9_differences_6) (hts _ qX9_differences_7) (Nat.le_of_ble_eq_true rfl) (Nat.le_of_ble_eq_true rfl) (Nat.zero_le _) (Nat.zero_le _) dX9_differences_14 ?_
  refine lv_istore_n (lv' := [(1, .int (if rn < tn then rn else tn)), (0, .ref aX)]) hx hb dX9_differences_17 rfl hl (by decide) rfl (fun ls hl => ?_)
  refine lv_aload_n hx hb dX9_differences_18 rfl (lv_at hl 1 rfl) ?_
  refine va_get (D := (dC, dI)) (ci := 8) (v := .ref aT) (C := RX9) (T := TX9) (N := 8) hx hb hts inX9_differences_wsX90 hown hK hP 0 rfl rfl 0 (by decide) (hts _ qX9_differences_0) (fun _ h9 => h9) rfl dX9_differences_19 ?_
  refine va_get (D := (dC, dI)) (ci := 7) (v := .int tn) (C := RX8) (T := TX8) (N := 2) hx hb hts inX9_differences_wsX80 hown hK hP 1 rfl rfl 1 (by decide) (hts _ qX9_differences_1) (fun _ h9 => h9) rfl dX9_differences_22 ?_
  refine lv_aload_n hx hb dX9_differences_25 rfl (lv_at hl 1 rfl) ?_
  refine va_get (D := (dC, dI)) (ci := 8) (v := .ref aR) (C := RX9) (T := TX9) (N := 8) hx hb hts inX9_differences_wsX90 hown hK hP 0 rfl rfl 7 (by decide) (hts _ qX9_differences_2) (fun _ h9 => h9) rfl dX9_differences_26 ?_
  refine va_get (D := (dC, dI)) (ci := 5) (v := .int rn) (C := RX6) (T := TX6) (N := 5) hx hb hts inX9_differences_wsX60 hown hK hP 3 rfl rfl 1 (by decide) (hts _ qX9_differences_3) (fun _ h9 => h9) rfl dX9_differences_29 ?_
  refine va_mmax hx hb (hml.trans hl.1.symm) hown (hts _ qX9_differences_8) (hts _ qX9_differences_9) (hts _ qX9_differences_6) (hts _ qX9_differences_10) (Nat.le_of_ble_eq_true rfl) (Nat.le_of_ble_eq_true rfl) (Nat.zero_le _) (Nat.zero_le _) dX9_differences_32 ?_
  refine lv_istore_n (lv' := [(2, .int (if tn < rn then rn else tn)), (1, .int (if rn < tn then rn else tn)), (0, .ref aX)]) hx hb dX9_differences_35 rfl hl (by decide) rfl (fun ls hl => ?_)
  refine lv_iload_n hx hb dX9_differences_36 rfl (lv_at hl 0 rfl) ?_
  refine lv_iload_n hx hb dX9_differences_37 rfl (lv_at hl 1 rfl) ?_
  refine lv_isub hx hb dX9_differences_38 ?_
  refine lv_istore_n (lv' := [(3, .int ((if tn < rn then rn else tn) - (if rn < tn then rn else tn))), (2, .int (if tn < rn then rn else tn)), (1, .int (if rn < tn then rn else tn)), (0, .ref aX)]) hx hb dX9_differences_39 rfl hl (by decide) rfl (fun ls hl => ?_)
  refine lv_iconst (v := 0) hx hb dX9_differences_40 (by decide) ?_
  refine lv_istore (lv' := [(4, .int 0), (3, .int ((if tn < rn then rn else tn) - (if rn < tn then rn else tn))), (2, .int (if tn < rn then rn else tn)), (1, .int (if rn < tn then rn else tn)), (0, .ref aX)]) hx hb dX9_differences_41 hl (by decide) rfl (fun ls hl => ?_)
  obtain ⟨n43, h⟩ := h
  refine wlX9_differences_43 C0 hA hK ?_ n43 _ _ h _ _ _ hP hD hS (lv_sub hl [4, 3, 1, 0] rfl)
  · intro v3_5 h H locs ls hP hD hS hl
    refine lv_iload_n hx hb dX9_differences_81 rfl (lv_at hl 0 rfl) ?_
    have hP9 : va_P (dC, dI) vwCl [(aX, .inr (8, [.ref aT, .ref aS, .ref aF, .ref aQ, .ref aW, .ref aP, .ref aB, .ref aR])), (aT, .inr (7, [.ref aTb, .int tn])), (aTb, .inl (cyI, 64, .inl tb)), (aR, .inr (5, [.ref aRb, .int rn, .int rf, .int rx, .int rp])), (aRb, .inl (cyI, 200, .inl rb))] _ := hP
    have hD9 : va_D A [(aX, .inr (8, [.ref aT, .ref aS, .ref aF, .ref aQ, .ref aW, .ref aP, .ref aB, .ref aR])), (aT, .inr (7, [.ref aTb, .int tn])), (aTb, .inl (cyI, 64, .inl tb)), (aR, .inr (5, [.ref aRb, .int rn, .int rf, .int rx, .int rp])), (aRb, .inl (cyI, 200, .inl rb))] := hD
    exact W.iret (v := v3_5) hx hb hr (fun t ht hW => ⟨⟨v3_5, (), rfl, h, by rw [ht]; exact hP9, va_K.moved hW.alike hK, hD9⟩, hS.F ht⟩) hS.2.2 dX9_differences_82
-- X9_digest
theorem qX9_digest_0 : Cond.constantLong RX9 237 (107) ∈ wsX9_digest := (List.mem_cons_of_mem _ (List.mem_append_left _ (List.mem_append_left _ (List.mem_append_left _ (List.mem_append_left _ (List.mem_append_left _ (List.mem_append_left _ (List.mem_append_left _ (List.mem_of_getElem? (i := 0) rfl)))))))))
theorem qX9_digest_1 : Cond.fieldLink RX9 10 "MatchCoder" "text" "LMatchCoder$Text;" ∈ wsX9_digest := (List.mem_cons_of_mem _ (List.mem_append_left _ (List.mem_append_left _ (List.mem_append_left _ (List.mem_append_left _ (List.mem_append_left _ (List.mem_append_left _ (List.mem_append_left _ (List.mem_of_getElem? (i := 1) rfl)))))))))
theorem qX9_digest_2 : Cond.fieldLink RX9 112 "MatchCoder$Text" "bytes" "[I" ∈ wsX9_digest := (List.mem_cons_of_mem _ (List.mem_append_left _ (List.mem_append_left _ (List.mem_append_left _ (List.mem_append_left _ (List.mem_append_left _ (List.mem_append_left _ (List.mem_append_left _ (List.mem_of_getElem? (i := 2) rfl)))))))))
theorem qX9_digest_3 : Cond.fieldLink RX9 76 "MatchCoder$Text" "count" "I" ∈ wsX9_digest := (List.mem_cons_of_mem _ (List.mem_append_left _ (List.mem_append_left _ (List.mem_append_left _ (List.mem_append_left _ (List.mem_append_left _ (List.mem_append_left _ (List.mem_append_left _ (List.mem_of_getElem? (i := 3) rfl)))))))))
theorem qX9_digest_4 : Cond.fieldLink RX9 19 "MatchCoder" "settings" "LMatchCoder$Settings;" ∈ wsX9_digest := (List.mem_cons_of_mem _ (List.mem_append_left _ (List.mem_append_left _ (List.mem_append_left _ (List.mem_append_left _ (List.mem_append_left _ (List.mem_append_left _ (List.mem_append_left _ (List.mem_of_getElem? (i := 4) rfl)))))))))
theorem qX9_digest_5 : Cond.fieldLink RX9 118 "MatchCoder$Settings" "window" "I" ∈ wsX9_digest := (List.mem_cons_of_mem _ (List.mem_append_left _ (List.mem_append_left _ (List.mem_append_left _ (List.mem_append_left _ (List.mem_append_left _ (List.mem_append_left _ (List.mem_append_left _ (List.mem_of_getElem? (i := 5) rfl)))))))))
theorem qX9_digest_6 : Cond.fieldLink RX9 125 "MatchCoder$Settings" "least" "I" ∈ wsX9_digest := (List.mem_cons_of_mem _ (List.mem_append_left _ (List.mem_append_left _ (List.mem_append_left _ (List.mem_append_left _ (List.mem_append_left _ (List.mem_append_left _ (List.mem_append_left _ (List.mem_of_getElem? (i := 6) rfl)))))))))
theorem qX9_digest_7 : Cond.fieldLink RX9 128 "MatchCoder$Settings" "greatest" "I" ∈ wsX9_digest := (List.mem_cons_of_mem _ (List.mem_append_left _ (List.mem_append_left _ (List.mem_append_left _ (List.mem_append_left _ (List.mem_append_left _ (List.mem_append_left _ (List.mem_append_left _ (List.mem_of_getElem? (i := 7) rfl)))))))))
theorem qX9_digest_8 : Cond.fieldLink RX9 133 "MatchCoder$Settings" "price" "I" ∈ wsX9_digest := (List.mem_cons_of_mem _ (List.mem_append_left _ (List.mem_append_left _ (List.mem_append_left _ (List.mem_append_left _ (List.mem_append_left _ (List.mem_append_left _ (List.mem_append_left _ (List.mem_of_getElem? (i := 8) rfl)))))))))
theorem qX9_digest_9 : Cond.fieldLink RX9 51 "MatchCoder" "plan" "LMatchCoder$Plan;" ∈ wsX9_digest := (List.mem_cons_of_mem _ (List.mem_append_left _ (List.mem_append_left _ (List.mem_append_left _ (List.mem_append_left _ (List.mem_append_left _ (List.mem_append_left _ (List.mem_append_left _ (List.mem_of_getElem? (i := 9) rfl)))))))))
theorem qX9_digest_10 : Cond.fieldLink RX9 170 "MatchCoder$Plan" "chosen" "Z" ∈ wsX9_digest := (List.mem_cons_of_mem _ (List.mem_append_left _ (List.mem_append_left _ (List.mem_append_left _ (List.mem_append_left _ (List.mem_append_left _ (List.mem_append_left _ (List.mem_append_left _ (List.mem_of_getElem? (i := 10) rfl)))))))))
theorem qX9_digest_11 : Cond.fieldLink RX9 58 "MatchCoder" "bits" "LMatchCoder$Bits;" ∈ wsX9_digest := (List.mem_cons_of_mem _ (List.mem_append_left _ (List.mem_append_left _ (List.mem_append_left _ (List.mem_append_left _ (List.mem_append_left _ (List.mem_append_left _ (List.mem_append_left _ (List.mem_of_getElem? (i := 11) rfl)))))))))
theorem qX9_digest_12 : Cond.fieldLink RX9 207 "MatchCoder$Bits" "row" "[I" ∈ wsX9_digest := (List.mem_cons_of_mem _ (List.mem_append_left _ (List.mem_append_left _ (List.mem_append_left _ (List.mem_append_left _ (List.mem_append_left _ (List.mem_append_left _ (List.mem_append_left _ (List.mem_of_getElem? (i := 12) rfl)))))))))
theorem qX9_digest_13 : Cond.fieldLink RX9 200 "MatchCoder$Bits" "count" "I" ∈ wsX9_digest := (List.mem_cons_of_mem _ (List.mem_append_left _ (List.mem_append_left _ (List.mem_append_left _ (List.mem_append_left _ (List.mem_append_left _ (List.mem_append_left _ (List.mem_append_left _ (List.mem_of_getElem? (i := 13) rfl)))))))))
theorem qX9_digest_14 : Cond.fieldLink RX9 65 "MatchCoder" "reading" "LMatchCoder$Reading;" ∈ wsX9_digest := (List.mem_cons_of_mem _ (List.mem_append_left _ (List.mem_append_left _ (List.mem_append_left _ (List.mem_append_left _ (List.mem_append_left _ (List.mem_append_left _ (List.mem_append_left _ (List.mem_of_getElem? (i := 14) rfl)))))))))
theorem qX9_digest_15 : Cond.fieldLink RX9 228 "MatchCoder$Reading" "bytes" "[I" ∈ wsX9_digest := (List.mem_cons_of_mem _ (List.mem_append_left _ (List.mem_append_left _ (List.mem_append_left _ (List.mem_append_left _ (List.mem_append_left _ (List.mem_append_left _ (List.mem_append_left _ (List.mem_of_getElem? (i := 15) rfl)))))))))
theorem qX9_digest_16 : Cond.fieldLink RX9 227 "MatchCoder$Reading" "count" "I" ∈ wsX9_digest := (List.mem_cons_of_mem _ (List.mem_append_left _ (List.mem_append_left _ (List.mem_append_left _ (List.mem_append_left _ (List.mem_append_left _ (List.mem_append_left _ (List.mem_append_left _ (List.mem_of_getElem? (i := 16) rfl)))))))))
theorem inX9_digest_wsX90 : ∀ w ∈ wsX90, w ∈ wsX9_digest := fun _ h => List.mem_cons_of_mem _ (List.mem_append_left _ (List.mem_append_left _ (List.mem_append_left _ (List.mem_append_left _ (List.mem_append_left _ (List.mem_append_right _ h))))))
theorem inX9_digest_wsX80 : ∀ w ∈ wsX80, w ∈ wsX9_digest := fun _ h => List.mem_cons_of_mem _ (List.mem_append_left _ (List.mem_append_left _ (List.mem_append_left _ (List.mem_append_left _ (List.mem_append_right _ h)))))
theorem inX9_digest_wsX70 : ∀ w ∈ wsX70, w ∈ wsX9_digest := fun _ h => List.mem_cons_of_mem _ (List.mem_append_left _ (List.mem_append_left _ (List.mem_append_left _ (List.mem_append_right _ h))))
theorem inX9_digest_wsX40 : ∀ w ∈ wsX40, w ∈ wsX9_digest := fun _ h => List.mem_cons_of_mem _ (List.mem_append_left _ (List.mem_append_left _ (List.mem_append_right _ h)))
theorem inX9_digest_wsX10 : ∀ w ∈ wsX10, w ∈ wsX9_digest := fun _ h => List.mem_cons_of_mem _ (List.mem_append_left _ (List.mem_append_right _ h))
theorem inX9_digest_wsX60 : ∀ w ∈ wsX60, w ∈ wsX9_digest := fun _ h => List.mem_cons_of_mem _ (List.mem_append_right _ h)
def wpX9_digest_85 (v1 : Int64) (bn : Int32) (br : Nat → Int32) (rn : Int32) (rb : Nat → Int32) (post : Int64 → Prop) : Prop := wpX9_mixRow_aBr br v1 bn (fun (r_7 : Int64) => wpX9_mixRow_aRb rb r_7 rn (fun (r_8 : Int64) => post r_8))
set_option maxHeartbeats 4000000 in
set_option maxRecDepth 100000 in
theorem wjX9_digest_85 {p : Program} {l : Launch} {e : Env} {s : State} {m : MethodId} {args : Array Value} {below : List Frame} {meth : Method} {c : Code} {A : Nat → Prop} {Q : State → Prop} {dC : Nat → ClassId} {dI : Nat → Nat → Nat} {cyI : ClassId} {aX aT aTb aS aF aQ aW aP aPk aPl aPd aPs aB aBr aR aRb : Nat} {v1 : Int64} {tn : Int32} {tb : Nat → Int32} {sw : Int32} {sl : Int32} {sg : Int32} {sp : Int32} {pn : Int32} {pch : Int32} {pk : Nat → Int32} {pl : Nat → Int32} {pd : Nat → Int32} {bn : Int32} {br : Nat → Int32} {rn : Int32} {rf : Int32} {rx : Int32} {rp : Int32} {rb : Nat → Int32} {post : Int64 → Prop} (C0 : CallFix p m c cX9_digest 3 s args wsX9_digest RX9) (hA : ∀ q : Nat, s.heap.size ≤ q → A q) (hK : va_K (dC, dI) vwCl [(cyI, .int)] s) (h : wpX9_digest_85 v1 bn br rn rb post) (H : Heap) (locs : List Loc) (ls : Array Slot) (hP : va_P (dC, dI) vwCl [(aX, .inr (8, [.ref aT, .ref aS, .ref aF, .ref aQ, .ref aW, .ref aP, .ref aB, .ref aR])), (aT, .inr (7, [.ref aTb, .int tn])), (aTb, .inl (cyI, 64, .inl tb)), (aS, .inr (6, [.int sw, .int sl, .int sg, .int sp])), (aP, .inr (3, [.ref aPk, .ref aPl, .ref aPd, .ref aPs, .int pn, .int pch])), (aPk, .inl (cyI, 64, .inl pk)), (aPl, .inl (cyI, 64, .inl pl)), (aPd, .inl (cyI, 64, .inl pd)), (aB, .inr (1, [.ref aBr, .int bn])), (aBr, .inl (cyI, 800, .inl br)), (aR, .inr (5, [.ref aRb, .int rn, .int rf, .int rx, .int rp])), (aRb, .inl (cyI, 200, .inl rb))] H) (hD : va_D A [(aX, .inr (8, [.ref aT, .ref aS, .ref aF, .ref aQ, .ref aW, .ref aP, .ref aB, .ref aR])), (aT, .inr (7, [.ref aTb, .int tn])), (aTb, .inl (cyI, 64, .inl tb)), (aS, .inr (6, [.int sw, .int sl, .int sg, .int sp])), (aP, .inr (3, [.ref aPk, .ref aPl, .ref aPd, .ref aPs, .int pn, .int pch])), (aPk, .inl (cyI, 64, .inl pk)), (aPl, .inl (cyI, 64, .inl pl)), (aPd, .inl (cyI, 64, .inl pd)), (aB, .inr (1, [.ref aBr, .int bn])), (aBr, .inl (cyI, 800, .inl br)), (aR, .inr (5, [.ref aRb, .int rn, .int rf, .int rx, .int rp])), (aRb, .inl (cyI, 200, .inl rb))]) (hS : va_S A s.heap H locs) (hl : lv_has ls 3 [(0, .ref aX), (1, .long v1)]) (hR122 : ∀ (r9 : Int64), post r9 → ∀ (H : Heap) (locs : List Loc) (ls : Array Slot), va_P (dC, dI) vwCl [(aX, .inr (8, [.ref aT, .ref aS, .ref aF, .ref aQ, .ref aW, .ref aP, .ref aB, .ref aR])), (aT, .inr (7, [.ref aTb, .int tn])), (aTb, .inl (cyI, 64, .inl tb)), (aS, .inr (6, [.int sw, .int sl, .int sg, .int sp])), (aP, .inr (3, [.ref aPk, .ref aPl, .ref aPd, .ref aPs, .int pn, .int pch])), (aPk, .inl (cyI, 64, .inl pk)), (aPl, .inl (cyI, 64, .inl pl)), (aPd, .inl (cyI, 64, .inl pd)), (aB, .inr (1, [.ref aBr, .int bn])), (aBr, .inl (cyI, 800, .inl br)), (aR, .inr (5, [.ref aRb, .int rn, .int rf, .int rx, .int rp])), (aRb, .inl (cyI, 200, .inl rb))] H → va_D A [(aX, .inr (8, [.ref aT, .ref aS, .ref aF, .ref aQ, .ref aW, .ref aP, .ref aB, .ref aR])), (aT, .inr (7, [.ref aTb, .int tn])), (aTb, .inl (cyI, 64, .inl tb)), (aS, .inr (6, [.int sw, .int sl, .int sg, .int sp])), (aP, .inr (3, [.ref aPk, .ref aPl, .ref aPd, .ref aPs, .int pn, .int pch])), (aPk, .inl (cyI, 64, .inl pk)), (aPl, .inl (cyI, 64, .inl pl)), (aPd, .inl (cyI, 64, .inl pd)), (aB, .inr (1, [.ref aBr, .int bn])), (aBr, .inl (cyI, 800, .inl br)), (aR, .inr (5, [.ref aRb, .int rn, .int rf, .int rx, .int rp])), (aRb, .inl (cyI, 200, .inl rb))] → va_S A s.heap H locs → W p l e ({ frames := 2, cells := 0, slots := 0, locals := 48 } : Room) s m args below meth c H locs 0 0 Q (F0 m 122 ls [.long r9])) : W p l e ({ frames := 2, cells := 0, slots := 0, locals := 48 } : Room) s m args below meth c H locs 0 0 Q (F0 m 85 ls []) := by
  obtain ⟨hx, hb, hml, hown, hts⟩ := id C0
  unfold wpX9_digest_85 at h
  refine lv_lload_n hx hb dX9_digest_85 rfl (lv_at hl 1 rfl) ?_
  refine lv_aload_n hx hb dX9_digest_86 rfl (lv_at hl 0 rfl) ?_
  refine va_get (D := (dC, dI)) (ci := 8) (v := .ref aB) (C := RX9) (T := TX9) (N := 8) hx hb hts inX9_digest_wsX90 hown hK hP 0 rfl rfl 6 (by decide) (hts _ qX9_digest_11) (fun _ h9 => h9) rfl dX9_digest_87 ?_
  refine va_get (D := (dC, dI)) (ci := 1) (v := .ref aBr) (C := RX1) (T := TX1) (N := 2) hx hb hts inX9_digest_wsX10 hown hK hP 8 rfl rfl 0 (by decide) (hts _ qX9_digest_12) (fun _ h9 => h9) rfl dX9_digest_90 ?_
  refine lv_aload_n hx hb dX9_digest_93 rfl (lv_at hl 0 rfl) ?_
  refine va_get (D := (dC, dI)) (ci := 8) (v := .ref aB) (C := RX9) (T := TX9) (N := 8) hx hb hts inX9_digest_wsX90 hown hK hP 0 rfl rfl 6 (by decide) (hts _ qX9_digest_11) (fun _ h9 => h9) rfl dX9_digest_94 ?_
  refine va_get (D := (dC, dI)) (ci := 1) (v := .int bn) (C := RX1) (T := TX1) (N := 2) hx hb hts inX9_digest_wsX10 hown hK hP 8 rfl rfl 1 (by decide) (hts _ qX9_digest_13) (fun _ h9 => h9) rfl dX9_digest_97 ?_
  refine wk_calll (wc := [(aBr, .inl (cyI, 800, .inl br))]) (wr := [(aX, .inr (8, [.ref aT, .ref aS, .ref aF, .ref aQ, .ref aW, .ref aP, .ref aB, .ref aR])), (aT, .inr (7, [.ref aTb, .int tn])), (aTb, .inl (cyI, 64, .inl tb)), (aS, .inr (6, [.int sw, .int sl, .int sg, .int sp])), (aP, .inr (3, [.ref aPk, .ref aPl, .ref aPd, .ref aPs, .int pn, .int pch])), (aPk, .inl (cyI, 64, .inl pk)), (aPl, .inl (cyI, 64, .inl pl)), (aPd, .inl (cyI, 64, .inl pd)), (aB, .inr (1, [.ref aBr, .int bn])), (aR, .inr (5, [.ref aRb, .int rn, .int rf, .int rx, .int rp])), (aRb, .inl (cyI, 200, .inl rb))]) (va_runS (As := [.long v1, .ref aBr, .int bn]) (rest := []) C0 (mtX9_mixRow_aBr l dC dI cyI (aBr := aBr) (sz := _) (br := br) (v0 := v1) (v3 := bn) h) (va_cwS 3 hts gX9_digest_X9_mixRow rfl rfl rfl (by decide +kernel) ⟨(Nat.le_of_ble_eq_true rfl), (Nat.le_of_ble_eq_true rfl)⟩) (wk_preS (wc := [(aBr, .inl (cyI, 800, .inl br))]) hK hP hD [9] rfl (by decide)) rfl rfl hl.1 rfl (lv_room (Nat.le_of_ble_eq_true rfl)) dX9_digest_100 ⟨(Nat.le_of_ble_eq_true rfl), (Nat.le_of_ble_eq_true rfl)⟩) hP hD hS hA [9] [0, 1, 2, 3, 4, 5, 6, 7, 8, 10, 11] rfl rfl (by decide) (by decide) (fun r_7 u9 H locs h hP hD hS => ?_)
  have hP : va_P (dC, dI) vwCl [(aX, .inr (8, [.ref aT, .ref aS, .ref aF, .ref aQ, .ref aW, .ref aP, .ref aB, .ref aR])), (aT, .inr (7, [.ref aTb, .int tn])), (aTb, .inl (cyI, 64, .inl tb)), (aS, .inr (6, [.int sw, .int sl, .int sg, .int sp])), (aP, .inr (3, [.ref aPk, .ref aPl, .ref aPd, .ref aPs, .int pn, .int pch])), (aPk, .inl (cyI, 64, .inl pk)), (aPl, .inl (cyI, 64, .inl pl)), (aPd, .inl (cyI, 64, .inl pd)), (aB, .inr (1, [.ref aBr, .int bn])), (aR, .inr (5, [.ref aRb, .int rn, .int rf, .int rx, .int rp])), (aRb, .inl (cyI, 200, .inl rb)), (aBr, .inl (cyI, 800, .inl br))] H := hP
  have hD : va_D A [(aX, .inr (8, [.ref aT, .ref aS, .ref aF, .ref aQ, .ref aW, .ref aP, .ref aB, .ref aR])), (aT, .inr (7, [.ref aTb, .int tn])), (aTb, .inl (cyI, 64, .inl tb)), (aS, .inr (6, [.int sw, .int sl, .int sg, .int sp])), (aP, .inr (3, [.ref aPk, .ref aPl, .ref aPd, .ref aPs, .int pn, .int pch])), (aPk, .inl (cyI, 64, .inl pk)), (aPl, .inl (cyI, 64, .inl pl)), (aPd, .inl (cyI, 64, .inl pd)), (aB, .inr (1, [.ref aBr, .int bn])), (aR, .inr (5, [.ref aRb, .int rn, .int rf, .int rx, .int rp])), (aRb, .inl (cyI, 200, .inl rb)), (aBr, .inl (cyI, 800, .inl br))] := hD
  refine lv_lstore_n (lv' := [(1, .long r_7), (0, .ref aX)]) hx hb dX9_digest_103 rfl hl (by decide) rfl (fun ls hl => ?_)
  refine lv_lload_n hx hb dX9_digest_104 rfl (lv_at hl 0 rfl) ?_
  refine lv_aload_n hx hb dX9_digest_105 rfl (lv_at hl 1 rfl) ?_
  refine va_get (D := (dC, dI)) (ci := 8) (v := .ref aR) (C := RX9) (T := TX9) (N := 8) hx hb hts inX9_digest_wsX90 hown hK hP 0 rfl rfl 7 (by decide) (hts _ qX9_digest_14) (fun _ h9 => h9) rfl dX9_digest_106 ?_
  refine va_get (D := (dC, dI)) (ci := 5) (v := .ref aRb) (C := RX6) (T := TX6) (N := 5) hx hb hts inX9_digest_wsX60 hown hK hP 9 rfl rfl 0 (by decide) (hts _ qX9_digest_15) (fun _ h9 => h9) rfl dX9_digest_109 ?_
  refine lv_aload_n hx hb dX9_digest_112 rfl (lv_at hl 1 rfl) ?_
  refine va_get (D := (dC, dI)) (ci := 8) (v := .ref aR) (C := RX9) (T := TX9) (N := 8) hx hb hts inX9_digest_wsX90 hown hK hP 0 rfl rfl 7 (by decide) (hts _ qX9_digest_14) (fun _ h9 => h9) rfl dX9_digest_113 ?_
  refine va_get (D := (dC, dI)) (ci := 5) (v := .int rn) (C := RX6) (T := TX6) (N := 5) hx hb hts inX9_digest_wsX60 hown hK hP 9 rfl rfl 1 (by decide) (hts _ qX9_digest_16) (fun _ h9 => h9) rfl dX9_digest_116 ?_
  refine wk_calll (wc := [(aRb, .inl (cyI, 200, .inl rb))]) (wr := [(aX, .inr (8, [.ref aT, .ref aS, .ref aF, .ref aQ, .ref aW, .ref aP, .ref aB, .ref aR])), (aT, .inr (7, [.ref aTb, .int tn])), (aTb, .inl (cyI, 64, .inl tb)), (aS, .inr (6, [.int sw, .int sl, .int sg, .int sp])), (aP, .inr (3, [.ref aPk, .ref aPl, .ref aPd, .ref aPs, .int pn, .int pch])), (aPk, .inl (cyI, 64, .inl pk)), (aPl, .inl (cyI, 64, .inl pl)), (aPd, .inl (cyI, 64, .inl pd)), (aB, .inr (1, [.ref aBr, .int bn])), (aR, .inr (5, [.ref aRb, .int rn, .int rf, .int rx, .int rp])), (aBr, .inl (cyI, 800, .inl br))]) (va_runS (As := [.long r_7, .ref aRb, .int rn]) (rest := []) C0 (mtX9_mixRow_aRb l dC dI cyI (aRb := aRb) (sz := _) (rb := rb) (v0 := r_7) (v3 := rn) h) (va_cwS 3 hts gX9_digest_X9_mixRow rfl rfl rfl (by decide +kernel) ⟨(Nat.le_of_ble_eq_true rfl), (Nat.le_of_ble_eq_true rfl)⟩) (wk_preS (wc := [(aRb, .inl (cyI, 200, .inl rb))]) hK hP hD [10] rfl (by decide)) rfl rfl hl.1 rfl (lv_room (Nat.le_of_ble_eq_true rfl)) dX9_digest_119 ⟨(Nat.le_of_ble_eq_true rfl), (Nat.le_of_ble_eq_true rfl)⟩) hP hD hS hA [10] [0, 1, 2, 3, 4, 5, 6, 7, 8, 9, 11] rfl rfl (by decide) (by decide) (fun r_8 u9 H locs h hP hD hS => ?_)
  have hP : va_P (dC, dI) vwCl [(aX, .inr (8, [.ref aT, .ref aS, .ref aF, .ref aQ, .ref aW, .ref aP, .ref aB, .ref aR])), (aT, .inr (7, [.ref aTb, .int tn])), (aTb, .inl (cyI, 64, .inl tb)), (aS, .inr (6, [.int sw, .int sl, .int sg, .int sp])), (aP, .inr (3, [.ref aPk, .ref aPl, .ref aPd, .ref aPs, .int pn, .int pch])), (aPk, .inl (cyI, 64, .inl pk)), (aPl, .inl (cyI, 64, .inl pl)), (aPd, .inl (cyI, 64, .inl pd)), (aB, .inr (1, [.ref aBr, .int bn])), (aR, .inr (5, [.ref aRb, .int rn, .int rf, .int rx, .int rp])), (aBr, .inl (cyI, 800, .inl br)), (aRb, .inl (cyI, 200, .inl rb))] H := hP
  have hD : va_D A [(aX, .inr (8, [.ref aT, .ref aS, .ref aF, .ref aQ, .ref aW, .ref aP, .ref aB, .ref aR])), (aT, .inr (7, [.ref aTb, .int tn])), (aTb, .inl (cyI, 64, .inl tb)), (aS, .inr (6, [.int sw, .int sl, .int sg, .int sp])), (aP, .inr (3, [.ref aPk, .ref aPl, .ref aPd, .ref aPs, .int pn, .int pch])), (aPk, .inl (cyI, 64, .inl pk)), (aPl, .inl (cyI, 64, .inl pl)), (aPd, .inl (cyI, 64, .inl pd)), (aB, .inr (1, [.ref aBr, .int bn])), (aR, .inr (5, [.ref aRb, .int rn, .int rf, .int rx, .int rp])), (aBr, .inl (cyI, 800, .inl br)), (aRb, .inl (cyI, 200, .inl rb))] := hD
  exact hR122 _ h _ _ _ (hP.sub [0, 1, 2, 3, 4, 5, 6, 7, 8, 10, 9, 11] rfl) (hD.sub [0, 1, 2, 3, 4, 5, 6, 7, 8, 10, 9, 11] (by decide) rfl) hS
def wpX9_digest (tn : Int32) (tb : Nat → Int32) (sw : Int32) (sl : Int32) (sg : Int32) (sp : Int32) (pn : Int32) (pch : Int32) (pk : Nat → Int32) (pl : Nat → Int32) (pd : Nat → Int32) (bn : Int32) (br : Nat → Int32) (rn : Int32) (rb : Nat → Int32) (post : Int64 → Prop) : Prop := wpX9_mixRow_aTb tb 107 tn (fun (r_1 : Int64) => wpX9_mix r_1 sw (fun (r_2 : Int64) => wpX9_mix r_2 sl (fun (r_3 : Int64) => wpX9_mix r_3 sg (fun (r_4 : Int64) => wpX9_mix r_4 sp (fun (r_5 : Int64) => (pch = 0 → (wpX9_digest_85 r_5 bn br rn rb post)) ∧ (¬ pch = 0 → (wpX9_mixPlan pn pk pl pd r_5 (fun (r_10 : Int64) => wpX9_digest_85 r_10 bn br rn rb post))))))))
set_option maxHeartbeats 4000000 in
set_option maxRecDepth 100000 in
theorem mtX9_digest (l : Launch) (dC : Nat → ClassId) (dI : Nat → Nat → Nat) (cyI : ClassId) {aX aT aTb aS aF aQ aW aP aPk aPl aPd aPs aB aBr aR aRb : Nat} {sz : Nat} {tn : Int32} {tb : Nat → Int32} {sw : Int32} {sl : Int32} {sg : Int32} {sp : Int32} {pn : Int32} {pch : Int32} {pk : Nat → Int32} {pl : Nat → Int32} {pd : Nat → Int32} {bn : Int32} {br : Nat → Int32} {rn : Int32} {rf : Int32} {rx : Int32} {rp : Int32} {rb : Nat → Int32} {post : Int64 → Prop} (h : wpX9_digest tn tb sw sl sg sp pn pch pk pl pd bn br rn rb post) : Met l yX9_digest wsX9_digest ({ frames := 2, cells := 0, slots := 0, locals := 48 }) (va_Pc [.ref aX] (wk_B (dC, dI) [(cyI, .int)] [(aX, .inr (8, [.ref aT, .ref aS, .ref aF, .ref aQ, .ref aW, .ref aP, .ref aB, .ref aR])), (aT, .inr (7, [.ref aTb, .int tn])), (aTb, .inl (cyI, 64, .inl tb)), (aS, .inr (6, [.int sw, .int sl, .int sg, .int sp])), (aP, .inr (3, [.ref aPk, .ref aPl, .ref aPd, .ref aPs, .int pn, .int pch])), (aPk, .inl (cyI, 64, .inl pk)), (aPl, .inl (cyI, 64, .inl pl)), (aPd, .inl (cyI, 64, .inl pd)), (aB, .inr (1, [.ref aBr, .int bn])), (aBr, .inl (cyI, 800, .inl br)), (aR, .inr (5, [.ref aRb, .int rn, .int rf, .int rx, .int rp])), (aRb, .inl (cyI, 200, .inl rb))] sz)) (va_Ql (fun (r : Int64) (u : Unit) => post r ) (wk_C (dC, dI) [(cyI, .int)] (va_A [(aX, .inr (8, [.ref aT, .ref aS, .ref aF, .ref aQ, .ref aW, .ref aP, .ref aB, .ref aR])), (aT, .inr (7, [.ref aTb, .int tn])), (aTb, .inl (cyI, 64, .inl tb)), (aS, .inr (6, [.int sw, .int sl, .int sg, .int sp])), (aP, .inr (3, [.ref aPk, .ref aPl, .ref aPd, .ref aPs, .int pn, .int pch])), (aPk, .inl (cyI, 64, .inl pk)), (aPl, .inl (cyI, 64, .inl pl)), (aPd, .inl (cyI, 64, .inl pd)), (aB, .inr (1, [.ref aBr, .int bn])), (aBr, .inl (cyI, 800, .inl br)), (aR, .inr (5, [.ref aRb, .int rn, .int rf, .int rx, .int rp])), (aRb, .inl (cyI, 200, .inl rb))] sz) (fun (u : Unit) => [(aX, .inr (8, [.ref aT, .ref aS, .ref aF, .ref aQ, .ref aW, .ref aP, .ref aB, .ref aR])), (aT, .inr (7, [.ref aTb, .int tn])), (aTb, .inl (cyI, 64, .inl tb)), (aS, .inr (6, [.int sw, .int sl, .int sg, .int sp])), (aP, .inr (3, [.ref aPk, .ref aPl, .ref aPd, .ref aPs, .int pn, .int pch])), (aPk, .inl (cyI, 64, .inl pk)), (aPl, .inl (cyI, 64, .inl pl)), (aPd, .inl (cyI, 64, .inl pd)), (aB, .inr (1, [.ref aBr, .int bn])), (aBr, .inl (cyI, 800, .inl br)), (aR, .inr (5, [.ref aRb, .int rn, .int rf, .int rx, .int rp])), (aRb, .inl (cyI, 200, .inl rb))])) (va_A [(aX, .inr (8, [.ref aT, .ref aS, .ref aF, .ref aQ, .ref aW, .ref aP, .ref aB, .ref aR])), (aT, .inr (7, [.ref aTb, .int tn])), (aTb, .inl (cyI, 64, .inl tb)), (aS, .inr (6, [.int sw, .int sl, .int sg, .int sp])), (aP, .inr (3, [.ref aPk, .ref aPl, .ref aPd, .ref aPs, .int pn, .int pch])), (aPk, .inl (cyI, 64, .inl pk)), (aPl, .inl (cyI, 64, .inl pl)), (aPd, .inl (cyI, 64, .inl pd)), (aB, .inr (1, [.ref aBr, .int bn])), (aBr, .inl (cyI, 800, .inl br)), (aR, .inr (5, [.ref aRb, .int rn, .int rf, .int rx, .int rp])), (aRb, .inl (cyI, 200, .inl rb))] sz)) 0 0 (va_A [(aX, .inr (8, [.ref aT, .ref aS, .ref aF, .ref aQ, .ref aW, .ref aP, .ref aB, .ref aR])), (aT, .inr (7, [.ref aTb, .int tn])), (aTb, .inl (cyI, 64, .inl tb)), (aS, .inr (6, [.int sw, .int sl, .int sg, .int sp])), (aP, .inr (3, [.ref aPk, .ref aPl, .ref aPd, .ref aPs, .int pn, .int pch])), (aPk, .inl (cyI, 64, .inl pk)), (aPl, .inl (cyI, 64, .inl pl)), (aPd, .inl (cyI, 64, .inl pd)), (aB, .inr (1, [.ref aBr, .int bn])), (aBr, .inl (cyI, 800, .inl br)), (aR, .inr (5, [.ref aRb, .int rn, .int rf, .int rx, .int rp])), (aRb, .inl (cyI, 200, .inl rb))] sz) := by
  refine Met.ofW (cc := cX9_digest) (maxL := 3) (ret := (some .long)) (by decide) rfl ?_
  intro p e s m args below meth c s₁ B hml hv
  obtain ⟨rfl, hsz, hP, hK, hD0⟩ := hv
  have hx := B.exec
  have hb := B.bytes
  have hr := B.returns
  have hts := atoms_spec (ws := wsX9_digest) B.pre
  have hown : s.vm.findClass RX9 = some m.cls := findClass_of_methodNamed B.named
  have hlocks := B.notSynchronized
  subst hsz
  have hD := hD0.self (sz := s.heap.size)
  generalize hAe : va_A [(aX, .inr (8, [.ref aT, .ref aS, .ref aF, .ref aQ, .ref aW, .ref aP, .ref aB, .ref aR])), (aT, .inr (7, [.ref aTb, .int tn])), (aTb, .inl (cyI, 64, .inl tb)), (aS, .inr (6, [.int sw, .int sl, .int sg, .int sp])), (aP, .inr (3, [.ref aPk, .ref aPl, .ref aPd, .ref aPs, .int pn, .int pch])), (aPk, .inl (cyI, 64, .inl pk)), (aPl, .inl (cyI, 64, .inl pl)), (aPd, .inl (cyI, 64, .inl pd)), (aB, .inr (1, [.ref aBr, .int bn])), (aBr, .inl (cyI, 800, .inl br)), (aR, .inr (5, [.ref aRb, .int rn, .int rf, .int rx, .int rp])), (aRb, .inl (cyI, 200, .inl rb))] s.heap.size = A at hD ⊢
  have hA : ∀ q : Nat, s.heap.size ≤ q → A q := fun q h => by rw [← hAe]; exact Or.inr h
  have hS : va_S A s.heap s.heap [] := va_S.rf
  have hP : va_P (dC, dI) vwCl [(aX, .inr (8, [.ref aT, .ref aS, .ref aF, .ref aQ, .ref aW, .ref aP, .ref aB, .ref aR])), (aT, .inr (7, [.ref aTb, .int tn])), (aTb, .inl (cyI, 64, .inl tb)), (aS, .inr (6, [.int sw, .int sl, .int sg, .int sp])), (aP, .inr (3, [.ref aPk, .ref aPl, .ref aPd, .ref aPs, .int pn, .int pch])), (aPk, .inl (cyI, 64, .inl pk)), (aPl, .inl (cyI, 64, .inl pl)), (aPd, .inl (cyI, 64, .inl pd)), (aB, .inr (1, [.ref aBr, .int bn])), (aBr, .inl (cyI, 800, .inl br)), (aR, .inr (5, [.ref aRb, .int rn, .int rf, .int rx, .int rp])), (aRb, .inl (cyI, 200, .inl rb))] s.heap := hP
  have hl := lv_entry ([.ref aX]) (n := 3) (Nat.le_of_ble_eq_true rfl)
  rw [lg_entry_eq]
  generalize (lg_sl ([.ref aX]) ++ List.replicate (3 - (lg_sl ([.ref aX])).length) Slot.unset).toArray = ls at hl ⊢
  have hl : lv_has ls 3 [(0, .ref aX)] := hl
  have C0 : CallFix p m c cX9_digest 3 s ([.ref aX] : List Value).toArray wsX9_digest RX9 := ⟨hx, hb, hml, hown, hts⟩
  unfold wpX9_digest at h
  refine lv_ldc2 hx hb hown (hts _ qX9_digest_0) dX9_digest_0 ?_
  refine lv_aload_n hx hb dX9_digest_3 rfl (lv_at hl 0 rfl) ?_
  refine va_get (D := (dC, dI)) (ci := 8) (v := .ref aT) (C := RX9) (T := TX9) (N := 8) hx hb hts inX9_digest_wsX90 hown hK hP 0 rfl rfl 0 (by decide) (hts _ qX9_digest_1) (fun _ h9 => h9) rfl dX9_digest_4 ?_
  refine va_get (D := (dC, dI)) (ci := 7) (v := .ref aTb) (C := RX8) (T := TX8) (N := 2) hx hb hts inX9_digest_wsX80 hown hK hP 1 rfl rfl 0 (by decide) (hts _ qX9_digest_2) (fun _ h9 => h9) rfl dX9_digest_7 ?_
  refine lv_aload_n hx hb dX9_digest_10 rfl (lv_at hl 0 rfl) ?_
  refine va_get (D := (dC, dI)) (ci := 8) (v := .ref aT) (C := RX9) (T := TX9) (N := 8) hx hb hts inX9_digest_wsX90 hown hK hP 0 rfl rfl 0 (by decide) (hts _ qX9_digest_1) (fun _ h9 => h9) rfl dX9_digest_11 ?_
  refine va_get (D := (dC, dI)) (ci := 7) (v := .int tn) (C := RX8) (T := TX8) (N := 2) hx hb hts inX9_digest_wsX80 hown hK hP 1 rfl rfl 1 (by decide) (hts _ qX9_digest_3) (fun _ h9 => h9) rfl dX9_digest_14 ?_
  refine wk_calll (wc := [(aTb, .inl (cyI, 64, .inl tb))]) (wr := [(aX, .inr (8, [.ref aT, .ref aS, .ref aF, .ref aQ, .ref aW, .ref aP, .ref aB, .ref aR])), (aT, .inr (7, [.ref aTb, .int tn])), (aS, .inr (6, [.int sw, .int sl, .int sg, .int sp])), (aP, .inr (3, [.ref aPk, .ref aPl, .ref aPd, .ref aPs, .int pn, .int pch])), (aPk, .inl (cyI, 64, .inl pk)), (aPl, .inl (cyI, 64, .inl pl)), (aPd, .inl (cyI, 64, .inl pd)), (aB, .inr (1, [.ref aBr, .int bn])), (aBr, .inl (cyI, 800, .inl br)), (aR, .inr (5, [.ref aRb, .int rn, .int rf, .int rx, .int rp])), (aRb, .inl (cyI, 200, .inl rb))]) (va_runS (As := [.long 107, .ref aTb, .int tn]) (rest := []) C0 (mtX9_mixRow_aTb l dC dI cyI (aTb := aTb) (sz := _) (tb := tb) (v0 := 107) (v3 := tn) h) (va_cwS 3 hts gX9_digest_X9_mixRow rfl rfl rfl (by decide +kernel) ⟨(Nat.le_of_ble_eq_true rfl), (Nat.le_of_ble_eq_true rfl)⟩) (wk_preS (wc := [(aTb, .inl (cyI, 64, .inl tb))]) hK hP hD [2] rfl (by decide)) rfl rfl hl.1 rfl (lv_room (Nat.le_of_ble_eq_true rfl)) dX9_digest_17 ⟨(Nat.le_of_ble_eq_true rfl), (Nat.le_of_ble_eq_true rfl)⟩) hP hD hS hA [2] [0, 1, 3, 4, 5, 6, 7, 8, 9, 10, 11] rfl rfl (by decide) (by decide) (fun r_1 u9 H locs h hP hD hS => ?_)
  have hP : va_P (dC, dI) vwCl [(aX, .inr (8, [.ref aT, .ref aS, .ref aF, .ref aQ, .ref aW, .ref aP, .ref aB, .ref aR])), (aT, .inr (7, [.ref aTb, .int tn])), (aS, .inr (6, [.int sw, .int sl, .int sg, .int sp])), (aP, .inr (3, [.ref aPk, .ref aPl, .ref aPd, .ref aPs, .int pn, .int pch])), (aPk, .inl (cyI, 64, .inl pk)), (aPl, .inl (cyI, 64, .inl pl)), (aPd, .inl (cyI, 64, .inl pd)), (aB, .inr (1, [.ref aBr, .int bn])), (aBr, .inl (cyI, 800, .inl br)), (aR, .inr (5, [.ref aRb, .int rn, .int rf, .int rx, .int rp])), (aRb, .inl (cyI, 200, .inl rb)), (aTb, .inl (cyI, 64, .inl tb))] H := hP
  have hD : va_D A [(aX, .inr (8, [.ref aT, .ref aS, .ref aF, .ref aQ, .ref aW, .ref aP, .ref aB, .ref aR])), (aT, .inr (7, [.ref aTb, .int tn])), (aS, .inr (6, [.int sw, .int sl, .int sg, .int sp])), (aP, .inr (3, [.ref aPk, .ref aPl, .ref aPd, .ref aPs, .int pn, .int pch])), (aPk, .inl (cyI, 64, .inl pk)), (aPl, .inl (cyI, 64, .inl pl)), (aPd, .inl (cyI, 64, .inl pd)), (aB, .inr (1, [.ref aBr, .int bn])), (aBr, .inl (cyI, 800, .inl br)), (aR, .inr (5, [.ref aRb, .int rn, .int rf, .int rx, .int rp])), (aRb, .inl (cyI, 200, .inl rb)), (aTb, .inl (cyI, 64, .inl tb))] := hD
  refine lv_lstore_n (lv' := [(1, .long r_1), (0, .ref aX)]) hx hb dX9_digest_20 rfl hl (by decide) rfl (fun ls hl => ?_)
  refine lv_lload_n hx hb dX9_digest_21 rfl (lv_at hl 0 rfl) ?_
  refine lv_aload_n hx hb dX9_digest_22 rfl (lv_at hl 1 rfl) ?_
  refine va_get (D := (dC, dI)) (ci := 8) (v := .ref aS) (C := RX9) (T := TX9) (N := 8) hx hb hts inX9_digest_wsX90 hown hK hP 0 rfl rfl 1 (by decide) (hts _ qX9_digest_4) (fun _ h9 => h9) rfl dX9_digest_23 ?_
  refine va_get (D := (dC, dI)) (ci := 6) (v := .int sw) (C := RX7) (T := TX7) (N := 4) hx hb hts inX9_digest_wsX70 hown hK hP 2 rfl rfl 0 (by decide) (hts _ qX9_digest_5) (fun _ h9 => h9) rfl dX9_digest_26 ?_
  refine wk_calll (wc := []) (wr := [(aX, .inr (8, [.ref aT, .ref aS, .ref aF, .ref aQ, .ref aW, .ref aP, .ref aB, .ref aR])), (aT, .inr (7, [.ref aTb, .int tn])), (aS, .inr (6, [.int sw, .int sl, .int sg, .int sp])), (aP, .inr (3, [.ref aPk, .ref aPl, .ref aPd, .ref aPs, .int pn, .int pch])), (aPk, .inl (cyI, 64, .inl pk)), (aPl, .inl (cyI, 64, .inl pl)), (aPd, .inl (cyI, 64, .inl pd)), (aB, .inr (1, [.ref aBr, .int bn])), (aBr, .inl (cyI, 800, .inl br)), (aR, .inr (5, [.ref aRb, .int rn, .int rf, .int rx, .int rp])), (aRb, .inl (cyI, 200, .inl rb)), (aTb, .inl (cyI, 64, .inl tb))]) (va_runS (As := [.long r_1, .int sw]) (rest := []) C0 (mtX9_mix l dC dI cyI (sz := _) (v0 := r_1) (v2 := sw) h) (va_cwS 2 hts gX9_digest_X9_mix rfl rfl rfl (by decide +kernel) ⟨(Nat.le_of_ble_eq_true rfl), (Nat.le_of_ble_eq_true rfl)⟩) (wk_preS (wc := []) hK hP hD [] rfl (by decide)) rfl rfl hl.1 rfl (lv_room (Nat.le_of_ble_eq_true rfl)) dX9_digest_29 ⟨(Nat.le_of_ble_eq_true rfl), (Nat.le_of_ble_eq_true rfl)⟩) hP hD hS hA [] [0, 1, 2, 3, 4, 5, 6, 7, 8, 9, 10, 11] rfl rfl (by decide) (by decide) (fun r_2 u9 H locs h hP hD hS => ?_)
  have hP : va_P (dC, dI) vwCl [(aX, .inr (8, [.ref aT, .ref aS, .ref aF, .ref aQ, .ref aW, .ref aP, .ref aB, .ref aR])), (aT, .inr (7, [.ref aTb, .int tn])), (aS, .inr (6, [.int sw, .int sl, .int sg, .int sp])), (aP, .inr (3, [.ref aPk, .ref aPl, .ref aPd, .ref aPs, .int pn, .int pch])), (aPk, .inl (cyI, 64, .inl pk)), (aPl, .inl (cyI, 64, .inl pl)), (aPd, .inl (cyI, 64, .inl pd)), (aB, .inr (1, [.ref aBr, .int bn])), (aBr, .inl (cyI, 800, .inl br)), (aR, .inr (5, [.ref aRb, .int rn, .int rf, .int rx, .int rp])), (aRb, .inl (cyI, 200, .inl rb)), (aTb, .inl (cyI, 64, .inl tb))] H := hP
  have hD : va_D A [(aX, .inr (8, [.ref aT, .ref aS, .ref aF, .ref aQ, .ref aW, .ref aP, .ref aB, .ref aR])), (aT, .inr (7, [.ref aTb, .int tn])), (aS, .inr (6, [.int sw, .int sl, .int sg, .int sp])), (aP, .inr (3, [.ref aPk, .ref aPl, .ref aPd, .ref aPs, .int pn, .int pch])), (aPk, .inl (cyI, 64, .inl pk)), (aPl, .inl (cyI, 64, .inl pl)), (aPd, .inl (cyI, 64, .inl pd)), (aB, .inr (1, [.ref aBr, .int bn])), (aBr, .inl (cyI, 800, .inl br)), (aR, .inr (5, [.ref aRb, .int rn, .int rf, .int rx, .int rp])), (aRb, .inl (cyI, 200, .inl rb)), (aTb, .inl (cyI, 64, .inl tb))] := hD
  refine lv_lstore_n (lv' := [(1, .long r_2), (0, .ref aX)]) hx hb dX9_digest_32 rfl hl (by decide) rfl (fun ls hl => ?_)
  refine lv_lload_n hx hb dX9_digest_33 rfl (lv_at hl 0 rfl) ?_
  refine lv_aload_n hx hb dX9_digest_34 rfl (lv_at hl 1 rfl) ?_
  refine va_get (D := (dC, dI)) (ci := 8) (v := .ref aS) (C := RX9) (T := TX9) (N := 8) hx hb hts inX9_digest_wsX90 hown hK hP 0 rfl rfl 1 (by decide) (hts _ qX9_digest_4) (fun _ h9 => h9) rfl dX9_digest_35 ?_
  refine va_get (D := (dC, dI)) (ci := 6) (v := .int sl) (C := RX7) (T := TX7) (N := 4) hx hb hts inX9_digest_wsX70 hown hK hP 2 rfl rfl 1 (by decide) (hts _ qX9_digest_6) (fun _ h9 => h9) rfl dX9_digest_38 ?_
  refine wk_calll (wc := []) (wr := [(aX, .inr (8, [.ref aT, .ref aS, .ref aF, .ref aQ, .ref aW, .ref aP, .ref aB, .ref aR])), (aT, .inr (7, [.ref aTb, .int tn])), (aS, .inr (6, [.int sw, .int sl, .int sg, .int sp])), (aP, .inr (3, [.ref aPk, .ref aPl, .ref aPd, .ref aPs, .int pn, .int pch])), (aPk, .inl (cyI, 64, .inl pk)), (aPl, .inl (cyI, 64, .inl pl)), (aPd, .inl (cyI, 64, .inl pd)), (aB, .inr (1, [.ref aBr, .int bn])), (aBr, .inl (cyI, 800, .inl br)), (aR, .inr (5, [.ref aRb, .int rn, .int rf, .int rx, .int rp])), (aRb, .inl (cyI, 200, .inl rb)), (aTb, .inl (cyI, 64, .inl tb))]) (va_runS (As := [.long r_2, .int sl]) (rest := []) C0 (mtX9_mix l dC dI cyI (sz := _) (v0 := r_2) (v2 := sl) h) (va_cwS 2 hts gX9_digest_X9_mix rfl rfl rfl (by decide +kernel) ⟨(Nat.le_of_ble_eq_true rfl), (Nat.le_of_ble_eq_true rfl)⟩) (wk_preS (wc := []) hK hP hD [] rfl (by decide)) rfl rfl hl.1 rfl (lv_room (Nat.le_of_ble_eq_true rfl)) dX9_digest_41 ⟨(Nat.le_of_ble_eq_true rfl), (Nat.le_of_ble_eq_true rfl)⟩) hP hD hS hA [] [0, 1, 2, 3, 4, 5, 6, 7, 8, 9, 10, 11] rfl rfl (by decide) (by decide) (fun r_3 u9 H locs h hP hD hS => ?_)
  have hP : va_P (dC, dI) vwCl [(aX, .inr (8, [.ref aT, .ref aS, .ref aF, .ref aQ, .ref aW, .ref aP, .ref aB, .ref aR])), (aT, .inr (7, [.ref aTb, .int tn])), (aS, .inr (6, [.int sw, .int sl, .int sg, .int sp])), (aP, .inr (3, [.ref aPk, .ref aPl, .ref aPd, .ref aPs, .int pn, .int pch])), (aPk, .inl (cyI, 64, .inl pk)), (aPl, .inl (cyI, 64, .inl pl)), (aPd, .inl (cyI, 64, .inl pd)), (aB, .inr (1, [.ref aBr, .int bn])), (aBr, .inl (cyI, 800, .inl br)), (aR, .inr (5, [.ref aRb, .int rn, .int rf, .int rx, .int rp])), (aRb, .inl (cyI, 200, .inl rb)), (aTb, .inl (cyI, 64, .inl tb))] H := hP
  have hD : va_D A [(aX, .inr (8, [.ref aT, .ref aS, .ref aF, .ref aQ, .ref aW, .ref aP, .ref aB, .ref aR])), (aT, .inr (7, [.ref aTb, .int tn])), (aS, .inr (6, [.int sw, .int sl, .int sg, .int sp])), (aP, .inr (3, [.ref aPk, .ref aPl, .ref aPd, .ref aPs, .int pn, .int pch])), (aPk, .inl (cyI, 64, .inl pk)), (aPl, .inl (cyI, 64, .inl pl)), (aPd, .inl (cyI, 64, .inl pd)), (aB, .inr (1, [.ref aBr, .int bn])), (aBr, .inl (cyI, 800, .inl br)), (aR, .inr (5, [.ref aRb, .int rn, .int rf, .int rx, .int rp])), (aRb, .inl (cyI, 200, .inl rb)), (aTb, .inl (cyI, 64, .inl tb))] := hD
  refine lv_lstore_n (lv' := [(1, .long r_3), (0, .ref aX)]) hx hb dX9_digest_44 rfl hl (by decide) rfl (fun ls hl => ?_)
  refine lv_lload_n hx hb dX9_digest_45 rfl (lv_at hl 0 rfl) ?_
  refine lv_aload_n hx hb dX9_digest_46 rfl (lv_at hl 1 rfl) ?_
  refine va_get (D := (dC, dI)) (ci := 8) (v := .ref aS) (C := RX9) (T := TX9) (N := 8) hx hb hts inX9_digest_wsX90 hown hK hP 0 rfl rfl 1 (by decide) (hts _ qX9_digest_4) (fun _ h9 => h9) rfl dX9_digest_47 ?_
  refine va_get (D := (dC, dI)) (ci := 6) (v := .int sg) (C := RX7) (T := TX7) (N := 4) hx hb hts inX9_digest_wsX70 hown hK hP 2 rfl rfl 2 (by decide) (hts _ qX9_digest_7) (fun _ h9 => h9) rfl dX9_digest_50 ?_
  refine wk_calll (wc := []) (wr := [(aX, .inr (8, [.ref aT, .ref aS, .ref aF, .ref aQ, .ref aW, .ref aP, .ref aB, .ref aR])), (aT, .inr (7, [.ref aTb, .int tn])), (aS, .inr (6, [.int sw, .int sl, .int sg, .int sp])), (aP, .inr (3, [.ref aPk, .ref aPl, .ref aPd, .ref aPs, .int pn, .int pch])), (aPk, .inl (cyI, 64, .inl pk)), (aPl, .inl (cyI, 64, .inl pl)), (aPd, .inl (cyI, 64, .inl pd)), (aB, .inr (1, [.ref aBr, .int bn])), (aBr, .inl (cyI, 800, .inl br)), (aR, .inr (5, [.ref aRb, .int rn, .int rf, .int rx, .int rp])), (aRb, .inl (cyI, 200, .inl rb)), (aTb, .inl (cyI, 64, .inl tb))]) (va_runS (As := [.long r_3, .int sg]) (rest := []) C0 (mtX9_mix l dC dI cyI (sz := _) (v0 := r_3) (v2 := sg) h) (va_cwS 2 hts gX9_digest_X9_mix rfl rfl rfl (by decide +kernel) ⟨(Nat.le_of_ble_eq_true rfl), (Nat.le_of_ble_eq_true rfl)⟩) (wk_preS (wc := []) hK hP hD [] rfl (by decide)) rfl rfl hl.1 rfl (lv_room (Nat.le_of_ble_eq_true rfl)) dX9_digest_53 ⟨(Nat.le_of_ble_eq_true rfl), (Nat.le_of_ble_eq_true rfl)⟩) hP hD hS hA [] [0, 1, 2, 3, 4, 5, 6, 7, 8, 9, 10, 11] rfl rfl (by decide) (by decide) (fun r_4 u9 H locs h hP hD hS => ?_)
  have hP : va_P (dC, dI) vwCl [(aX, .inr (8, [.ref aT, .ref aS, .ref aF, .ref aQ, .ref aW, .ref aP, .ref aB, .ref aR])), (aT, .inr (7, [.ref aTb, .int tn])), (aS, .inr (6, [.int sw, .int sl, .int sg, .int sp])), (aP, .inr (3, [.ref aPk, .ref aPl, .ref aPd, .ref aPs, .int pn, .int pch])), (aPk, .inl (cyI, 64, .inl pk)), (aPl, .inl (cyI, 64, .inl pl)), (aPd, .inl (cyI, 64, .inl pd)), (aB, .inr (1, [.ref aBr, .int bn])), (aBr, .inl (cyI, 800, .inl br)), (aR, .inr (5, [.ref aRb, .int rn, .int rf, .int rx, .int rp])), (aRb, .inl (cyI, 200, .inl rb)), (aTb, .inl (cyI, 64, .inl tb))] H := hP
  have hD : va_D A [(aX, .inr (8, [.ref aT, .ref aS, .ref aF, .ref aQ, .ref aW, .ref aP, .ref aB, .ref aR])), (aT, .inr (7, [.ref aTb, .int tn])), (aS, .inr (6, [.int sw, .int sl, .int sg, .int sp])), (aP, .inr (3, [.ref aPk, .ref aPl, .ref aPd, .ref aPs, .int pn, .int pch])), (aPk, .inl (cyI, 64, .inl pk)), (aPl, .inl (cyI, 64, .inl pl)), (aPd, .inl (cyI, 64, .inl pd)), (aB, .inr (1, [.ref aBr, .int bn])), (aBr, .inl (cyI, 800, .inl br)), (aR, .inr (5, [.ref aRb, .int rn, .int rf, .int rx, .int rp])), (aRb, .inl (cyI, 200, .inl rb)), (aTb, .inl (cyI, 64, .inl tb))] := hD
  refine lv_lstore_n (lv' := [(1, .long r_4), (0, .ref aX)]) hx hb dX9_digest_56 rfl hl (by decide) rfl (fun ls hl => ?_)
  refine lv_lload_n hx hb dX9_digest_57 rfl (lv_at hl 0 rfl) ?_
  refine lv_aload_n hx hb dX9_digest_58 rfl (lv_at hl 1 rfl) ?_
  refine va_get (D := (dC, dI)) (ci := 8) (v := .ref aS) (C := RX9) (T := TX9) (N := 8) hx hb hts inX9_digest_wsX90 hown hK hP 0 rfl rfl 1 (by decide) (hts _ qX9_digest_4) (fun _ h9 => h9) rfl dX9_digest_59 ?_
  refine va_get (D := (dC, dI)) (ci := 6) (v := .int sp) (C := RX7) (T := TX7) (N := 4) hx hb hts inX9_digest_wsX70 hown hK hP 2 rfl rfl 3 (by decide) (hts _ qX9_digest_8) (fun _ h9 => h9) rfl dX9_digest_62 ?_
  refine wk_calll (wc := []) (wr := [(aX, .inr (8, [.ref aT, .ref aS, .ref aF, .ref aQ, .ref aW, .ref aP, .ref aB, .ref aR])), (aT, .inr (7, [.ref aTb, .int tn])), (aS, .inr (6, [.int sw, .int sl, .int sg, .int sp])), (aP, .inr (3, [.ref aPk, .ref aPl, .ref aPd, .ref aPs, .int pn, .int pch])), (aPk, .inl (cyI, 64, .inl pk)), (aPl, .inl (cyI, 64, .inl pl)), (aPd, .inl (cyI, 64, .inl pd)), (aB, .inr (1, [.ref aBr, .int bn])), (aBr, .inl (cyI, 800, .inl br)), (aR, .inr (5, [.ref aRb, .int rn, .int rf, .int rx, .int rp])), (aRb, .inl (cyI, 200, .inl rb)), (aTb, .inl (cyI, 64, .inl tb))]) (va_runS (As := [.long r_4, .int sp]) (rest := []) C0 (mtX9_mix l dC dI cyI (sz := _) (v0 := r_4) (v2 := sp) h) (va_cwS 2 hts gX9_digest_X9_mix rfl rfl rfl (by decide +kernel) ⟨(Nat.le_of_ble_eq_true rfl), (Nat.le_of_ble_eq_true rfl)⟩) (wk_preS (wc := []) hK hP hD [] rfl (by decide)) rfl rfl hl.1 rfl (lv_room (Nat.le_of_ble_eq_true rfl)) dX9_digest_65 ⟨(Nat.le_of_ble_eq_true rfl), (Nat.le_of_ble_eq_true rfl)⟩) hP hD hS hA [] [0, 1, 2, 3, 4, 5, 6, 7, 8, 9, 10, 11] rfl rfl (by decide) (by decide) (fun r_5 u9 H locs h hP hD hS => ?_)
  have hP : va_P (dC, dI) vwCl [(aX, .inr (8, [.ref aT, .ref aS, .ref aF, .ref aQ, .ref aW, .ref aP, .ref aB, .ref aR])), (aT, .inr (7, [.ref aTb, .int tn])), (aS, .inr (6, [.int sw, .int sl, .int sg, .int sp])), (aP, .inr (3, [.ref aPk, .ref aPl, .ref aPd, .ref aPs, .int pn, .int pch])), (aPk, .inl (cyI, 64, .inl pk)), (aPl, .inl (cyI, 64, .inl pl)), (aPd, .inl (cyI, 64, .inl pd)), (aB, .inr (1, [.ref aBr, .int bn])), (aBr, .inl (cyI, 800, .inl br)), (aR, .inr (5, [.ref aRb, .int rn, .int rf, .int rx, .int rp])), (aRb, .inl (cyI, 200, .inl rb)), (aTb, .inl (cyI, 64, .inl tb))] H := hP
  have hD : va_D A [(aX, .inr (8, [.ref aT, .ref aS, .ref aF, .ref aQ, .ref aW, .ref aP, .ref aB, .ref aR])), (aT, .inr (7, [.ref aTb, .int tn])), (aS, .inr (6, [.int sw, .int sl, .int sg, .int sp])), (aP, .inr (3, [.ref aPk, .ref aPl, .ref aPd, .ref aPs, .int pn, .int pch])), (aPk, .inl (cyI, 64, .inl pk)), (aPl, .inl (cyI, 64, .inl pl)), (aPd, .inl (cyI, 64, .inl pd)), (aB, .inr (1, [.ref aBr, .int bn])), (aBr, .inl (cyI, 800, .inl br)), (aR, .inr (5, [.ref aRb, .int rn, .int rf, .int rx, .int rp])), (aRb, .inl (cyI, 200, .inl rb)), (aTb, .inl (cyI, 64, .inl tb))] := hD
  refine lv_lstore_n (lv' := [(1, .long r_5), (0, .ref aX)]) hx hb dX9_digest_68 rfl hl (by decide) rfl (fun ls hl => ?_)
  refine lv_aload_n hx hb dX9_digest_69 rfl (lv_at hl 1 rfl) ?_
  refine va_get (D := (dC, dI)) (ci := 8) (v := .ref aP) (C := RX9) (T := TX9) (N := 8) hx hb hts inX9_digest_wsX90 hown hK hP 0 rfl rfl 5 (by decide) (hts _ qX9_digest_9) (fun _ h9 => h9) rfl dX9_digest_70 ?_
  refine va_get (D := (dC, dI)) (ci := 3) (v := .int pch) (C := RX4) (T := TX4) (N := 6) hx hb hts inX9_digest_wsX40 hown hK hP 3 rfl rfl 5 (by decide) (hts _ qX9_digest_10) (fun _ h9 => h9) rfl dX9_digest_73 ?_
  refine lv_if_eq (tgt := 85) hx hb dX9_digest_76 (by decide) (fun c_6 => ?_) (fun c_6 => ?_)
  · replace h := h.1 c_6
    refine wjX9_digest_85 C0 hA hK h _ _ _ (hP.sub [0, 1, 11, 2, 3, 4, 5, 6, 7, 8, 9, 10] rfl) (hD.sub [0, 1, 11, 2, 3, 4, 5, 6, 7, 8, 9, 10] (by decide) rfl) hS (lv_sub hl [1, 0] rfl) ?_
    · intro r_9 h H locs ls hP hD hS
      have hP9 : va_P (dC, dI) vwCl [(aX, .inr (8, [.ref aT, .ref aS, .ref aF, .ref aQ, .ref aW, .ref aP, .ref aB, .ref aR])), (aT, .inr (7, [.ref aTb, .int tn])), (aTb, .inl (cyI, 64, .inl tb)), (aS, .inr (6, [.int sw, .int sl, .int sg, .int sp])), (aP, .inr (3, [.ref aPk, .ref aPl, .ref aPd, .ref aPs, .int pn, .int pch])), (aPk, .inl (cyI, 64, .inl pk)), (aPl, .inl (cyI, 64, .inl pl)), (aPd, .inl (cyI, 64, .inl pd)), (aB, .inr (1, [.ref aBr, .int bn])), (aBr, .inl (cyI, 800, .inl br)), (aR, .inr (5, [.ref aRb, .int rn, .int rf, .int rx, .int rp])), (aRb, .inl (cyI, 200, .inl rb))] _ := hP
      have hD9 : va_D A [(aX, .inr (8, [.ref aT, .ref aS, .ref aF, .ref aQ, .ref aW, .ref aP, .ref aB, .ref aR])), (aT, .inr (7, [.ref aTb, .int tn])), (aTb, .inl (cyI, 64, .inl tb)), (aS, .inr (6, [.int sw, .int sl, .int sg, .int sp])), (aP, .inr (3, [.ref aPk, .ref aPl, .ref aPd, .ref aPs, .int pn, .int pch])), (aPk, .inl (cyI, 64, .inl pk)), (aPl, .inl (cyI, 64, .inl pl)), (aPd, .inl (cyI, 64, .inl pd)), (aB, .inr (1, [.ref aBr, .int bn])), (aBr, .inl (cyI, 800, .inl br)), (aR, .inr (5, [.ref aRb, .int rn, .int rf, .int rx, .int rp])), (aRb, .inl (cyI, 200, .inl rb))] := hD
      exact W.lret (v := r_9) hx hb hr (fun t ht hW => ⟨⟨r_9, (), rfl, h, by rw [ht]; exact hP9, va_K.moved hW.alike hK, hD9⟩, hS.F ht⟩) hS.2.2 dX9_digest_122
  · replace h := h.2 c_6
    refine lv_aload_n hx hb dX9_digest_79 rfl (lv_at hl 1 rfl) ?_
    refine lv_lload_n hx hb dX9_digest_80 rfl (lv_at hl 0 rfl) ?_
    refine wk_calll (wc := [(aX, .inr (8, [.ref aT, .ref aS, .ref aF, .ref aQ, .ref aW, .ref aP, .ref aB, .ref aR])), (aP, .inr (3, [.ref aPk, .ref aPl, .ref aPd, .ref aPs, .int pn, .int pch])), (aPk, .inl (cyI, 64, .inl pk)), (aPl, .inl (cyI, 64, .inl pl)), (aPd, .inl (cyI, 64, .inl pd))]) (wr := [(aT, .inr (7, [.ref aTb, .int tn])), (aS, .inr (6, [.int sw, .int sl, .int sg, .int sp])), (aB, .inr (1, [.ref aBr, .int bn])), (aBr, .inl (cyI, 800, .inl br)), (aR, .inr (5, [.ref aRb, .int rn, .int rf, .int rx, .int rp])), (aRb, .inl (cyI, 200, .inl rb)), (aTb, .inl (cyI, 64, .inl tb))]) (va_runV (As := [.long r_5]) (rest := []) C0 (mtX9_mixPlan l dC dI cyI (aX := aX) (aT := aT) (aS := aS) (aF := aF) (aQ := aQ) (aW := aW) (aP := aP) (aPk := aPk) (aPl := aPl) (aPd := aPd) (aPs := aPs) (aB := aB) (aR := aR) (sz := _) (pn := pn) (pch := pch) (pk := pk) (pl := pl) (pd := pd) (v1 := r_5) h) (cwV 1 hts gX9_digest_X9_mixPlan rfl rfl rfl (by decide +kernel) ⟨(Nat.le_of_ble_eq_true rfl), (Nat.le_of_ble_eq_true rfl)⟩) (wk_preV (wc := [(aX, .inr (8, [.ref aT, .ref aS, .ref aF, .ref aQ, .ref aW, .ref aP, .ref aB, .ref aR])), (aP, .inr (3, [.ref aPk, .ref aPl, .ref aPd, .ref aPs, .int pn, .int pch])), (aPk, .inl (cyI, 64, .inl pk)), (aPl, .inl (cyI, 64, .inl pl)), (aPd, .inl (cyI, 64, .inl pd))]) hK hP hD [0, 3, 4, 5, 6] rfl (by decide) (va_recv hK hP (ci := 8) (q0 := 0) rfl rfl)) rfl rfl hl.1 rfl (lv_room (Nat.le_of_ble_eq_true rfl)) dX9_digest_81 ⟨(Nat.le_of_ble_eq_true rfl), (Nat.le_of_ble_eq_true rfl)⟩) hP hD hS hA [0, 3, 4, 5, 6] [1, 2, 7, 8, 9, 10, 11] rfl rfl (by decide) (by decide) (fun r_10 u9 H locs h hP hD hS => ?_)
    have hP : va_P (dC, dI) vwCl [(aT, .inr (7, [.ref aTb, .int tn])), (aS, .inr (6, [.int sw, .int sl, .int sg, .int sp])), (aB, .inr (1, [.ref aBr, .int bn])), (aBr, .inl (cyI, 800, .inl br)), (aR, .inr (5, [.ref aRb, .int rn, .int rf, .int rx, .int rp])), (aRb, .inl (cyI, 200, .inl rb)), (aTb, .inl (cyI, 64, .inl tb)), (aX, .inr (8, [.ref aT, .ref aS, .ref aF, .ref aQ, .ref aW, .ref aP, .ref aB, .ref aR])), (aP, .inr (3, [.ref aPk, .ref aPl, .ref aPd, .ref aPs, .int pn, .int pch])), (aPk, .inl (cyI, 64, .inl pk)), (aPl, .inl (cyI, 64, .inl pl)), (aPd, .inl (cyI, 64, .inl pd))] H := hP
    have hD : va_D A [(aT, .inr (7, [.ref aTb, .int tn])), (aS, .inr (6, [.int sw, .int sl, .int sg, .int sp])), (aB, .inr (1, [.ref aBr, .int bn])), (aBr, .inl (cyI, 800, .inl br)), (aR, .inr (5, [.ref aRb, .int rn, .int rf, .int rx, .int rp])), (aRb, .inl (cyI, 200, .inl rb)), (aTb, .inl (cyI, 64, .inl tb)), (aX, .inr (8, [.ref aT, .ref aS, .ref aF, .ref aQ, .ref aW, .ref aP, .ref aB, .ref aR])), (aP, .inr (3, [.ref aPk, .ref aPl, .ref aPd, .ref aPs, .int pn, .int pch])), (aPk, .inl (cyI, 64, .inl pk)), (aPl, .inl (cyI, 64, .inl pl)), (aPd, .inl (cyI, 64, .inl pd))] := hD
    refine lv_lstore_n (lv' := [(1, .long r_10), (0, .ref aX)]) hx hb dX9_digest_84 rfl hl (by decide) rfl (fun ls hl => ?_)
    refine wjX9_digest_85 C0 hA hK h _ _ _ (hP.sub [7, 0, 6, 1, 8, 9, 10, 11, 2, 3, 4, 5] rfl) (hD.sub [7, 0, 6, 1, 8, 9, 10, 11, 2, 3, 4, 5] (by decide) rfl) hS (lv_sub hl [1, 0] rfl) ?_
    · intro r_11 h H locs ls hP hD hS
      have hP9 : va_P (dC, dI) vwCl [(aX, .inr (8, [.ref aT, .ref aS, .ref aF, .ref aQ, .ref aW, .ref aP, .ref aB, .ref aR])), (aT, .inr (7, [.ref aTb, .int tn])), (aTb, .inl (cyI, 64, .inl tb)), (aS, .inr (6, [.int sw, .int sl, .int sg, .int sp])), (aP, .inr (3, [.ref aPk, .ref aPl, .ref aPd, .ref aPs, .int pn, .int pch])), (aPk, .inl (cyI, 64, .inl pk)), (aPl, .inl (cyI, 64, .inl pl)), (aPd, .inl (cyI, 64, .inl pd)), (aB, .inr (1, [.ref aBr, .int bn])), (aBr, .inl (cyI, 800, .inl br)), (aR, .inr (5, [.ref aRb, .int rn, .int rf, .int rx, .int rp])), (aRb, .inl (cyI, 200, .inl rb))] _ := hP
      have hD9 : va_D A [(aX, .inr (8, [.ref aT, .ref aS, .ref aF, .ref aQ, .ref aW, .ref aP, .ref aB, .ref aR])), (aT, .inr (7, [.ref aTb, .int tn])), (aTb, .inl (cyI, 64, .inl tb)), (aS, .inr (6, [.int sw, .int sl, .int sg, .int sp])), (aP, .inr (3, [.ref aPk, .ref aPl, .ref aPd, .ref aPs, .int pn, .int pch])), (aPk, .inl (cyI, 64, .inl pk)), (aPl, .inl (cyI, 64, .inl pl)), (aPd, .inl (cyI, 64, .inl pd)), (aB, .inr (1, [.ref aBr, .int bn])), (aBr, .inl (cyI, 800, .inl br)), (aR, .inr (5, [.ref aRb, .int rn, .int rf, .int rx, .int rp])), (aRb, .inl (cyI, 200, .inl rb))] := hD
      exact W.lret (v := r_11) hx hb hr (fun t ht hW => ⟨⟨r_11, (), rfl, h, by rw [ht]; exact hP9, va_K.moved hW.alike hK, hD9⟩, hS.F ht⟩) hS.2.2 dX9_digest_122
