-- X6_takeBit
theorem qX6_takeBit_0 : Cond.fieldLink RX6 22 "MatchCoder$Reading" "next" "I" ∈ wsX6_takeBit := (List.mem_cons_of_mem _ (List.mem_append_left _ (List.mem_append_left _ (List.mem_of_getElem? (i := 0) rfl))))
theorem qX6_takeBit_1 : Cond.fieldLink RX6 28 "MatchCoder$Bits" "count" "I" ∈ wsX6_takeBit := (List.mem_cons_of_mem _ (List.mem_append_left _ (List.mem_append_left _ (List.mem_of_getElem? (i := 1) rfl))))
theorem qX6_takeBit_2 : Cond.fieldLink RX6 58 "MatchCoder$Bits" "row" "[I" ∈ wsX6_takeBit := (List.mem_cons_of_mem _ (List.mem_append_left _ (List.mem_append_left _ (List.mem_of_getElem? (i := 2) rfl))))
theorem inX6_takeBit_wsX60 : ∀ w ∈ wsX60, w ∈ wsX6_takeBit := fun _ h => List.mem_cons_of_mem _ (List.mem_append_left _ (List.mem_append_right _ h))
theorem inX6_takeBit_wsX10 : ∀ w ∈ wsX10, w ∈ wsX6_takeBit := fun _ h => List.mem_cons_of_mem _ (List.mem_append_right _ h)
def wpX6_takeBit (bn : Int32) (br : Nat → Int32) (rx : Int32) (post : Int32 → Int32 → Prop) : Prop := (rx < bn → (vp_in ((rx + 1) - 1) 800 ∧ (post (br ((rx + 1) - 1).toNatClampNeg) (rx + 1)))) ∧ (¬ rx < bn → (post (-1) rx))
set_option maxHeartbeats 4000000 in
set_option maxRecDepth 100000 in
theorem mtX6_takeBit (l : Launch) (dC : Nat → ClassId) (dI : Nat → Nat → Nat) (cyI : ClassId) {aB aBr aR aRb : Nat} {sz : Nat} {bn : Int32} {br : Nat → Int32} {rn : Int32} {rf : Int32} {rx : Int32} {rp : Int32} {post : Int32 → Int32 → Prop} (h : wpX6_takeBit bn br rx post) : Met l yX6_takeBit wsX6_takeBit ({ frames := 0, cells := 0, slots := 0, locals := 0 }) (va_Pc [.ref aR, .ref aB] (wk_B (dC, dI) [(cyI, .int)] [(aB, .inr (1, [.ref aBr, .int bn])), (aBr, .inl (cyI, 800, .inl br)), (aR, .inr (5, [.ref aRb, .int rn, .int rf, .int rx, .int rp]))] sz)) (va_Qi (fun (r : Int32) (u : Int32) => post r u) (wk_C (dC, dI) [(cyI, .int)] (va_A [(aB, .inr (1, [.ref aBr, .int bn])), (aBr, .inl (cyI, 800, .inl br)), (aR, .inr (5, [.ref aRb, .int rn, .int rf, .int rx, .int rp]))] sz) (fun (u : Int32) => [(aB, .inr (1, [.ref aBr, .int bn])), (aBr, .inl (cyI, 800, .inl br)), (aR, .inr (5, [.ref aRb, .int rn, .int rf, .int (u), .int rp]))])) (va_A [(aB, .inr (1, [.ref aBr, .int bn])), (aBr, .inl (cyI, 800, .inl br)), (aR, .inr (5, [.ref aRb, .int rn, .int rf, .int rx, .int rp]))] sz)) 0 0 (va_A [(aB, .inr (1, [.ref aBr, .int bn])), (aBr, .inl (cyI, 800, .inl br)), (aR, .inr (5, [.ref aRb, .int rn, .int rf, .int rx, .int rp]))] sz) := by
  refine Met.ofW (cc := cX6_takeBit) (maxL := 2) (ret := (some .int)) (by decide) rfl ?_
  intro p e s m args below meth c s₁ B hml hv
  obtain ⟨rfl, hsz, hP, hK, hD0⟩ := hv
  have hx := B.exec
  have hb := B.bytes
  have hr := B.returns
  have hts := atoms_spec (ws := wsX6_takeBit) B.pre
  have hown : s.vm.findClass RX6 = some m.cls := findClass_of_methodNamed B.named
  have hlocks := B.notSynchronized
  subst hsz
  have hD := hD0.self (sz := s.heap.size)
  generalize hAe : va_A [(aB, .inr (1, [.ref aBr, .int bn])), (aBr, .inl (cyI, 800, .inl br)), (aR, .inr (5, [.ref aRb, .int rn, .int rf, .int rx, .int rp]))] s.heap.size = A at hD ⊢
  have hA : ∀ q : Nat, s.heap.size ≤ q → A q := fun q h => by rw [← hAe]; exact Or.inr h
  have hS : va_S A s.heap s.heap [] := va_S.rf
  have hP : va_P (dC, dI) vwCl [(aB, .inr (1, [.ref aBr, .int bn])), (aBr, .inl (cyI, 800, .inl br)), (aR, .inr (5, [.ref aRb, .int rn, .int rf, .int rx, .int rp]))] s.heap := hP
  have hl := lv_entry ([.ref aR, .ref aB]) (n := 2) (Nat.le_of_ble_eq_true rfl)
  rw [lg_entry_eq]
  generalize (lg_sl ([.ref aR, .ref aB]) ++ List.replicate (2 - (lg_sl ([.ref aR, .ref aB])).length) Slot.unset).toArray = ls at hl ⊢
  have hl : lv_has ls 2 [(0, .ref aR), (1, .ref aB)] := hl
  have C0 : CallFix p m c cX6_takeBit 2 s ([.ref aR, .ref aB] : List Value).toArray wsX6_takeBit RX6 := ⟨hx, hb, hml, hown, hts⟩
  unfold wpX6_takeBit at h
  refine lv_aload_n hx hb dX6_takeBit_0 rfl (lv_at hl 0 rfl) ?_
  refine va_get (D := (dC, dI)) (ci := 5) (v := .int rx) (C := RX6) (T := TX6) (N := 5) hx hb hts inX6_takeBit_wsX60 hown hK hP 2 rfl rfl 3 (by decide) (hts _ qX6_takeBit_0) (fun _ h9 => h9) rfl dX6_takeBit_1 ?_
  refine lv_aload_n hx hb dX6_takeBit_4 rfl (lv_at hl 1 rfl) ?_
  refine va_get (D := (dC, dI)) (ci := 1) (v := .int bn) (C := RX1) (T := TX1) (N := 2) hx hb hts inX6_takeBit_wsX10 hown hK hP 0 rfl rfl 1 (by decide) (hts _ qX6_takeBit_1) (fun _ h9 => h9) rfl dX6_takeBit_5 ?_
  refine lv_icmp_lt (tgt := 13) hx hb dX6_takeBit_8 (by decide) (fun c_1 => ?_) (fun c_1 => ?_)
  · replace h := h.1 c_1
    refine lv_aload_n hx hb dX6_takeBit_13 rfl (lv_at hl 0 rfl) ?_
    refine lv_dup hx hb dX6_takeBit_14 rfl ?_
    refine va_get (D := (dC, dI)) (ci := 5) (v := .int rx) (C := RX6) (T := TX6) (N := 5) hx hb hts inX6_takeBit_wsX60 hown hK hP 2 rfl rfl 3 (by decide) (hts _ qX6_takeBit_0) (fun _ h9 => h9) rfl dX6_takeBit_15 ?_
    refine lv_iconst (v := 1) hx hb dX6_takeBit_18 (by decide) ?_
    refine lv_iadd hx hb dX6_takeBit_19 ?_
    refine va_put (D := (dC, dI)) (ci := 5) (v := .int (rx + 1)) (ty := .int) (C := RX6) (T := TX6) (N := 5) hx hb hts inX6_takeBit_wsX60 tyX6 tyX6_ok nmX6 hown hK hP hD hS 2 rfl rfl 3 (by decide) (hts _ qX6_takeBit_0) (fun _ h9 => h9) rfl (by decide +kernel) rfl rfl (Nat.le_of_ble_eq_true rfl) dX6_takeBit_20 (fun H locs hP hD hS => ?_)
    have hP : va_P (dC, dI) vwCl [(aB, .inr (1, [.ref aBr, .int bn])), (aBr, .inl (cyI, 800, .inl br)), (aR, .inr (5, [.ref aRb, .int rn, .int rf, .int (rx + 1), .int rp]))] H := hP
    have hD : va_D A [(aB, .inr (1, [.ref aBr, .int bn])), (aBr, .inl (cyI, 800, .inl br)), (aR, .inr (5, [.ref aRb, .int rn, .int rf, .int (rx + 1), .int rp]))] := hD
    refine lv_aload_n hx hb dX6_takeBit_23 rfl (lv_at hl 1 rfl) ?_
    refine va_get (D := (dC, dI)) (ci := 1) (v := .ref aBr) (C := RX1) (T := TX1) (N := 2) hx hb hts inX6_takeBit_wsX10 hown hK hP 0 rfl rfl 0 (by decide) (hts _ qX6_takeBit_2) (fun _ h9 => h9) rfl dX6_takeBit_24 ?_
    refine lv_aload_n hx hb dX6_takeBit_27 rfl (lv_at hl 0 rfl) ?_
    refine va_get (D := (dC, dI)) (ci := 5) (v := .int (rx + 1)) (C := RX6) (T := TX6) (N := 5) hx hb hts inX6_takeBit_wsX60 hown hK hP 2 rfl rfl 3 (by decide) (hts _ qX6_takeBit_0) (fun _ h9 => h9) rfl dX6_takeBit_28 ?_
    refine lv_iconst (v := 1) hx hb dX6_takeBit_31 (by decide) ?_
    refine lv_isub hx hb dX6_takeBit_32 ?_
    obtain ⟨hi_2, h⟩ := h
    refine va_iald hx hb hK hP 1 0 rfl rfl hi_2 dX6_takeBit_33 ?_
    have hP9 : va_P (dC, dI) vwCl [(aB, .inr (1, [.ref aBr, .int bn])), (aBr, .inl (cyI, 800, .inl br)), (aR, .inr (5, [.ref aRb, .int rn, .int rf, .int (rx + 1), .int rp]))] _ := hP
    have hD9 : va_D A [(aB, .inr (1, [.ref aBr, .int bn])), (aBr, .inl (cyI, 800, .inl br)), (aR, .inr (5, [.ref aRb, .int rn, .int rf, .int (rx + 1), .int rp]))] := hD
    exact W.iret (v := br ((rx + 1) - 1).toNatClampNeg) hx hb hr (fun t ht hW => ⟨⟨br ((rx + 1) - 1).toNatClampNeg, rx + 1, rfl, h, by rw [ht]; exact hP9, va_K.moved hW.alike hK, hD9⟩, hS.F ht⟩) hS.2.2 dX6_takeBit_34
  · replace h := h.2 c_1
    refine lv_iconst (v := (-1)) hx hb dX6_takeBit_11 (by decide) ?_
    have hP9 : va_P (dC, dI) vwCl [(aB, .inr (1, [.ref aBr, .int bn])), (aBr, .inl (cyI, 800, .inl br)), (aR, .inr (5, [.ref aRb, .int rn, .int rf, .int rx, .int rp]))] _ := hP
    have hD9 : va_D A [(aB, .inr (1, [.ref aBr, .int bn])), (aBr, .inl (cyI, 800, .inl br)), (aR, .inr (5, [.ref aRb, .int rn, .int rf, .int rx, .int rp]))] := hD
    exact W.iret (v := (-1)) hx hb hr (fun t ht hW => ⟨⟨(-1), rx, rfl, h, by rw [ht]; exact hP9, va_K.moved hW.alike hK, hD9⟩, hS.F ht⟩) hS.2.2 dX6_takeBit_12
-- X6_takeBehind
def wpX6_takeBehind_6 (v3 : Int32) (bn : Int32) (br : Nat → Int32) (K24 : Int32 → Prop) (K41 : Int32 → Int32 → Prop) : Nat → Int32 → Int32 → Int32 → Prop
  | 0, _, _, _ => False
  | n6 + 1, v4, v5, rx => (v3 ≤ v5 → (K41 v4 rx)) ∧ (¬ v3 ≤ v5 → (wpX6_takeBit bn br rx (fun (r_2 : Int32) (rx_3 : Int32) => (0 ≤ r_2 → (wpX6_takeBehind_6 v3 bn br K24 K41 n6 ((2 * v4) + r_2) (v5 + 1) rx_3)) ∧ (¬ 0 ≤ r_2 → (K24 rx_3)))))
set_option maxHeartbeats 4000000 in
set_option maxRecDepth 100000 in
theorem wlX6_takeBehind_6 {p : Program} {l : Launch} {e : Env} {s : State} {m : MethodId} {args : Array Value} {below : List Frame} {meth : Method} {c : Code} {A : Nat → Prop} {Q : State → Prop} {dC : Nat → ClassId} {dI : Nat → Nat → Nat} {cyI : ClassId} {aB aBr aR aRb : Nat} {v3 : Int32} {bn : Int32} {br : Nat → Int32} {rn : Int32} {rf : Int32} {rp : Int32} {K24 : Int32 → Prop} {K41 : Int32 → Int32 → Prop} (C0 : CallFix p m c cX6_takeBehind 7 s args wsX6_takeBehind RX6) (hA : ∀ q : Nat, s.heap.size ≤ q → A q) (hK : va_K (dC, dI) vwCl [(cyI, .int)] s) (hK24 : ∀ (rx : Int32), K24 rx → ∀ (H : Heap) (locs : List Loc) (ls : Array Slot), va_P (dC, dI) vwCl [(aB, .inr (1, [.ref aBr, .int bn])), (aBr, .inl (cyI, 800, .inl br)), (aR, .inr (5, [.ref aRb, .int rn, .int rf, .int rx, .int rp]))] H → va_D A [(aB, .inr (1, [.ref aBr, .int bn])), (aBr, .inl (cyI, 800, .inl br)), (aR, .inr (5, [.ref aRb, .int rn, .int rf, .int rx, .int rp]))] → va_S A s.heap H locs → lv_has ls 7 [] → W p l e ({ frames := 1, cells := 0, slots := 0, locals := 21 } : Room) s m args below meth c H locs 0 0 Q (F0 m 24 ls [])) (hK41 : ∀ (v4 : Int32) (rx : Int32), K41 v4 rx → ∀ (H : Heap) (locs : List Loc) (ls : Array Slot), va_P (dC, dI) vwCl [(aB, .inr (1, [.ref aBr, .int bn])), (aBr, .inl (cyI, 800, .inl br)), (aR, .inr (5, [.ref aRb, .int rn, .int rf, .int rx, .int rp]))] H → va_D A [(aB, .inr (1, [.ref aBr, .int bn])), (aBr, .inl (cyI, 800, .inl br)), (aR, .inr (5, [.ref aRb, .int rn, .int rf, .int rx, .int rp]))] → va_S A s.heap H locs → lv_has ls 7 [(4, .int v4)] → W p l e ({ frames := 1, cells := 0, slots := 0, locals := 21 } : Room) s m args below meth c H locs 0 0 Q (F0 m 41 ls [])) :
    ∀ (n6 : Nat) (v4 : Int32) (v5 : Int32) (rx : Int32), wpX6_takeBehind_6 v3 bn br K24 K41 n6 v4 v5 rx → ∀ (H : Heap) (locs : List Loc) (ls : Array Slot), va_P (dC, dI) vwCl [(aB, .inr (1, [.ref aBr, .int bn])), (aBr, .inl (cyI, 800, .inl br)), (aR, .inr (5, [.ref aRb, .int rn, .int rf, .int rx, .int rp]))] H → va_D A [(aB, .inr (1, [.ref aBr, .int bn])), (aBr, .inl (cyI, 800, .inl br)), (aR, .inr (5, [.ref aRb, .int rn, .int rf, .int rx, .int rp]))] → va_S A s.heap H locs → lv_has ls 7 [(0, .ref aR), (1, .ref aB), (3, .int v3), (4, .int v4), (5, .int v5)] → W p l e ({ frames := 1, cells := 0, slots := 0, locals := 21 } : Room) s m args below meth c H locs 0 0 Q (F0 m 6 ls []) := by
  obtain ⟨hx, hb, hml, hown, hts⟩ := id C0
  intro n6
  induction n6 with
  | zero => intro _ _ _ h; exact h.elim
  | succ n6 ih6 =>
    intro v4 v5 rx h H locs ls hP hD hS hl
    rw [wpX6_takeBehind_6] at h
    refine lv_iload hx hb dX6_takeBehind_6 (lv_at hl 4 rfl) ?_
    refine lv_iload_n hx hb dX6_takeBehind_8 rfl (lv_at hl 2 rfl) ?_
    refine lv_icmp_ge (tgt := 41) hx hb dX6_takeBehind_9 (by decide) (fun c_1 => ?_) (fun c_1 => ?_)
    · replace h := h.1 c_1
      exact hK41 _ _ h _ _ _ hP hD hS (lv_sub hl [3] rfl)
    · replace h := h.2 c_1
      refine lv_aload_n hx hb dX6_takeBehind_12 rfl (lv_at hl 0 rfl) ?_
      refine lv_aload_n hx hb dX6_takeBehind_13 rfl (lv_at hl 1 rfl) ?_
      refine wk_calli (wc := [(aB, .inr (1, [.ref aBr, .int bn])), (aBr, .inl (cyI, 800, .inl br)), (aR, .inr (5, [.ref aRb, .int rn, .int rf, .int rx, .int rp]))]) (wr := []) (va_runV (As := [.ref aB]) (rest := []) C0 (mtX6_takeBit l dC dI cyI (aB := aB) (aBr := aBr) (aR := aR) (aRb := aRb) (sz := _) (bn := bn) (br := br) (rn := rn) (rf := rf) (rx := rx) (rp := rp) h) (cwV 1 hts gX6_takeBehind_X6_takeBit rfl rfl rfl (by decide +kernel) ⟨(Nat.le_of_ble_eq_true rfl), (Nat.le_of_ble_eq_true rfl)⟩) (wk_preV (wc := [(aB, .inr (1, [.ref aBr, .int bn])), (aBr, .inl (cyI, 800, .inl br)), (aR, .inr (5, [.ref aRb, .int rn, .int rf, .int rx, .int rp]))]) hK hP hD [0, 1, 2] rfl (by decide) (va_recv hK hP (ci := 5) (q0 := 2) rfl rfl)) rfl rfl hl.1 rfl (lv_room (Nat.le_of_ble_eq_true rfl)) dX6_takeBehind_14 ⟨(Nat.le_of_ble_eq_true rfl), (Nat.le_of_ble_eq_true rfl)⟩) hP hD hS hA [0, 1, 2] [] rfl rfl (by decide) (by decide) (fun r_2 u9 H locs h hP hD hS => ?_)
      obtain ⟨rx_3, rfl⟩ : ∃ z9, z9 = u9 := ⟨_, rfl⟩
      have hP : va_P (dC, dI) vwCl [(aB, .inr (1, [.ref aBr, .int bn])), (aBr, .inl (cyI, 800, .inl br)), (aR, .inr (5, [.ref aRb, .int rn, .int rf, .int rx_3, .int rp]))] H := hP
      have hD : va_D A [(aB, .inr (1, [.ref aBr, .int bn])), (aBr, .inl (cyI, 800, .inl br)), (aR, .inr (5, [.ref aRb, .int rn, .int rf, .int rx_3, .int rp]))] := hD
      refine lv_istore (lv' := [(6, .int r_2), (0, .ref aR), (1, .ref aB), (3, .int v3), (4, .int v4), (5, .int v5)]) hx hb dX6_takeBehind_17 hl (by decide) rfl (fun ls hl => ?_)
      refine lv_iload hx hb dX6_takeBehind_19 (lv_at hl 0 rfl) ?_
      refine lv_if_ge (tgt := 26) hx hb dX6_takeBehind_21 (by decide) (fun c_4 => ?_) (fun c_4 => ?_)
      · replace h := h.1 c_4
        refine lv_iconst (v := 2) hx hb dX6_takeBehind_26 (by decide) ?_
        refine lv_iload hx hb dX6_takeBehind_27 (lv_at hl 4 rfl) ?_
        refine lv_imul hx hb dX6_takeBehind_29 ?_
        refine lv_iload hx hb dX6_takeBehind_30 (lv_at hl 0 rfl) ?_
        refine lv_iadd hx hb dX6_takeBehind_32 ?_
        refine lv_istore (lv' := [(4, .int ((2 * v4) + r_2)), (6, .int r_2), (0, .ref aR), (1, .ref aB), (3, .int v3), (5, .int v5)]) hx hb dX6_takeBehind_33 hl (by decide) rfl (fun ls hl => ?_)
        refine lv_iinc (v := v5 + 1) (lv' := [(5, .int (v5 + 1)), (4, .int ((2 * v4) + r_2)), (6, .int r_2), (0, .ref aR), (1, .ref aB), (3, .int v3)]) hx hb dX6_takeBehind_35 hl (k := 5) rfl rfl (by decide) rfl (fun ls hl => ?_)
        refine lv_goto (tgt := 6) hx hb dX6_takeBehind_38 (by decide) ?_
        exact ih6 _ _ _ h _ _ _ hP hD hS (lv_sub hl [3, 4, 5, 1, 0] rfl)
      · replace h := h.2 c_4
        exact hK24 _ h _ _ _ hP hD hS (lv_sub hl [] rfl)
def wpX6_takeBehind (bn : Int32) (br : Nat → Int32) (rx : Int32) (v2 : Int32) (v3 : Int32) (post : Int32 → Int32 → Prop) : Prop := ∃ n6 : Nat, wpX6_takeBehind_6 v3 bn br (fun (rx_5 : Int32) => post (-1) rx_5) (fun (v4_6 : Int32) (rx_7 : Int32) => post v4_6 rx_7) n6 v2 0 rx
set_option maxHeartbeats 4000000 in
set_option maxRecDepth 100000 in
theorem mtX6_takeBehind (l : Launch) (dC : Nat → ClassId) (dI : Nat → Nat → Nat) (cyI : ClassId) {aB aBr aR aRb : Nat} {sz : Nat} {bn : Int32} {br : Nat → Int32} {rn : Int32} {rf : Int32} {rx : Int32} {rp : Int32} {v2 : Int32} {v3 : Int32} {post : Int32 → Int32 → Prop} (h : wpX6_takeBehind bn br rx v2 v3 post) : Met l yX6_takeBehind wsX6_takeBehind ({ frames := 1, cells := 0, slots := 0, locals := 21 }) (va_Pc [.ref aR, .ref aB, .int v2, .int v3] (wk_B (dC, dI) [(cyI, .int)] [(aB, .inr (1, [.ref aBr, .int bn])), (aBr, .inl (cyI, 800, .inl br)), (aR, .inr (5, [.ref aRb, .int rn, .int rf, .int rx, .int rp]))] sz)) (va_Qi (fun (r : Int32) (u : Int32) => post r u) (wk_C (dC, dI) [(cyI, .int)] (va_A [(aB, .inr (1, [.ref aBr, .int bn])), (aBr, .inl (cyI, 800, .inl br)), (aR, .inr (5, [.ref aRb, .int rn, .int rf, .int rx, .int rp]))] sz) (fun (u : Int32) => [(aB, .inr (1, [.ref aBr, .int bn])), (aBr, .inl (cyI, 800, .inl br)), (aR, .inr (5, [.ref aRb, .int rn, .int rf, .int (u), .int rp]))])) (va_A [(aB, .inr (1, [.ref aBr, .int bn])), (aBr, .inl (cyI, 800, .inl br)), (aR, .inr (5, [.ref aRb, .int rn, .int rf, .int rx, .int rp]))] sz)) 0 0 (va_A [(aB, .inr (1, [.ref aBr, .int bn])), (aBr, .inl (cyI, 800, .inl br)), (aR, .inr (5, [.ref aRb, .int rn, .int rf, .int rx, .int rp]))] sz) := by
  refine Met.ofW (cc := cX6_takeBehind) (maxL := 7) (ret := (some .int)) (by decide) rfl ?_
  intro p e s m args below meth c s₁ B hml hv
  obtain ⟨rfl, hsz, hP, hK, hD0⟩ := hv
  have hx := B.exec
  have hb := B.bytes
  have hr := B.returns
  have hts := atoms_spec (ws := wsX6_takeBehind) B.pre
  have hown : s.vm.findClass RX6 = some m.cls := findClass_of_methodNamed B.named
  have hlocks := B.notSynchronized
  subst hsz
  have hD := hD0.self (sz := s.heap.size)
  generalize hAe : va_A [(aB, .inr (1, [.ref aBr, .int bn])), (aBr, .inl (cyI, 800, .inl br)), (aR, .inr (5, [.ref aRb, .int rn, .int rf, .int rx, .int rp]))] s.heap.size = A at hD ⊢
  have hA : ∀ q : Nat, s.heap.size ≤ q → A q := fun q h => by rw [← hAe]; exact Or.inr h
  have hS : va_S A s.heap s.heap [] := va_S.rf
  have hP : va_P (dC, dI) vwCl [(aB, .inr (1, [.ref aBr, .int bn])), (aBr, .inl (cyI, 800, .inl br)), (aR, .inr (5, [.ref aRb, .int rn, .int rf, .int rx, .int rp]))] s.heap := hP
  have hl := lv_entry ([.ref aR, .ref aB, .int v2, .int v3]) (n := 7) (Nat.le_of_ble_eq_true rfl)
  rw [lg_entry_eq]
  generalize (lg_sl ([.ref aR, .ref aB, .int v2, .int v3]) ++ List.replicate (7 - (lg_sl ([.ref aR, .ref aB, .int v2, .int v3])).length) Slot.unset).toArray = ls at hl ⊢
  have hl : lv_has ls 7 [(0, .ref aR), (1, .ref aB), (2, .int v2), (3, .int v3)] := hl
  have C0 : CallFix p m c cX6_takeBehind 7 s ([.ref aR, .ref aB, .int v2, .int v3] : List Value).toArray wsX6_takeBehind RX6 := ⟨hx, hb, hml, hown, hts⟩
  unfold wpX6_takeBehind at h
  refine lv_iload_n hx hb dX6_takeBehind_0 rfl (lv_at hl 2 rfl) ?_
  refine lv_istore (lv' := [(4, .int v2), (0, .ref aR), (1, .ref aB), (2, .int v2), (3, .int v3)]) hx hb dX6_takeBehind_1 hl (by decide) rfl (fun ls hl => ?_)
  refine lv_iconst (v := 0) hx hb dX6_takeBehind_3 (by decide) ?_
  refine lv_istore (lv' := [(5, .int 0), (4, .int v2), (0, .ref aR), (1, .ref aB), (2, .int v2), (3, .int v3)]) hx hb dX6_takeBehind_4 hl (by decide) rfl (fun ls hl => ?_)
  obtain ⟨n6, h⟩ := h
  refine wlX6_takeBehind_6 C0 hA hK ?_ ?_ n6 _ _ _ h _ _ _ hP hD hS (lv_sub hl [2, 3, 5, 1, 0] rfl)
  · intro rx_5 h H locs ls hP hD hS hl
    refine lv_iconst (v := (-1)) hx hb dX6_takeBehind_24 (by decide) ?_
    have hP9 : va_P (dC, dI) vwCl [(aB, .inr (1, [.ref aBr, .int bn])), (aBr, .inl (cyI, 800, .inl br)), (aR, .inr (5, [.ref aRb, .int rn, .int rf, .int rx_5, .int rp]))] _ := hP
    have hD9 : va_D A [(aB, .inr (1, [.ref aBr, .int bn])), (aBr, .inl (cyI, 800, .inl br)), (aR, .inr (5, [.ref aRb, .int rn, .int rf, .int rx_5, .int rp]))] := hD
    exact W.iret (v := (-1)) hx hb hr (fun t ht hW => ⟨⟨(-1), rx_5, rfl, h, by rw [ht]; exact hP9, va_K.moved hW.alike hK, hD9⟩, hS.F ht⟩) hS.2.2 dX6_takeBehind_25
  · intro v4_6 rx_7 h H locs ls hP hD hS hl
    refine lv_iload hx hb dX6_takeBehind_41 (lv_at hl 0 rfl) ?_
    have hP9 : va_P (dC, dI) vwCl [(aB, .inr (1, [.ref aBr, .int bn])), (aBr, .inl (cyI, 800, .inl br)), (aR, .inr (5, [.ref aRb, .int rn, .int rf, .int rx_7, .int rp]))] _ := hP
    have hD9 : va_D A [(aB, .inr (1, [.ref aBr, .int bn])), (aBr, .inl (cyI, 800, .inl br)), (aR, .inr (5, [.ref aRb, .int rn, .int rf, .int rx_7, .int rp]))] := hD
    exact W.iret (v := v4_6) hx hb hr (fun t ht hW => ⟨⟨v4_6, rx_7, rfl, h, by rw [ht]; exact hP9, va_K.moved hW.alike hK, hD9⟩, hS.F ht⟩) hS.2.2 dX6_takeBehind_43
-- X6_takeNumber
def wpX6_takeNumber_2 (bn : Int32) (br : Nat → Int32) (K18 : Int32 → Prop) (K25 : Int32 → Int32 → Prop) (K52 : Int32 → Prop) : Nat → Int32 → Int32 → Prop
  | 0, _, _ => False
  | n2 + 1, v2, rx => (7 < v2 → (K52 rx)) ∧ (¬ 7 < v2 → (wpX6_takeBit bn br rx (fun (r_2 : Int32) (rx_3 : Int32) => (0 ≤ r_2 → ((r_2 = 1 → (K25 v2 rx_3)) ∧ (¬ r_2 = 1 → (wpX6_takeNumber_2 bn br K18 K25 K52 n2 (v2 + 1) rx_3)))) ∧ (¬ 0 ≤ r_2 → (K18 rx_3)))))
set_option maxHeartbeats 4000000 in
set_option maxRecDepth 100000 in
theorem wlX6_takeNumber_2 {p : Program} {l : Launch} {e : Env} {s : State} {m : MethodId} {args : Array Value} {below : List Frame} {meth : Method} {c : Code} {A : Nat → Prop} {Q : State → Prop} {dC : Nat → ClassId} {dI : Nat → Nat → Nat} {cyI : ClassId} {aB aBr aR aRb : Nat} {bn : Int32} {br : Nat → Int32} {rn : Int32} {rf : Int32} {rp : Int32} {K18 : Int32 → Prop} {K25 : Int32 → Int32 → Prop} {K52 : Int32 → Prop} (C0 : CallFix p m c cX6_takeNumber 5 s args wsX6_takeNumber RX6) (hA : ∀ q : Nat, s.heap.size ≤ q → A q) (hK : va_K (dC, dI) vwCl [(cyI, .int)] s) (hK18 : ∀ (rx : Int32), K18 rx → ∀ (H : Heap) (locs : List Loc) (ls : Array Slot), va_P (dC, dI) vwCl [(aB, .inr (1, [.ref aBr, .int bn])), (aBr, .inl (cyI, 800, .inl br)), (aR, .inr (5, [.ref aRb, .int rn, .int rf, .int rx, .int rp]))] H → va_D A [(aB, .inr (1, [.ref aBr, .int bn])), (aBr, .inl (cyI, 800, .inl br)), (aR, .inr (5, [.ref aRb, .int rn, .int rf, .int rx, .int rp]))] → va_S A s.heap H locs → lv_has ls 5 [] → W p l e ({ frames := 2, cells := 0, slots := 0, locals := 47 } : Room) s m args below meth c H locs 0 0 Q (F0 m 18 ls [])) (hK25 : ∀ (v2 : Int32) (rx : Int32), K25 v2 rx → ∀ (H : Heap) (locs : List Loc) (ls : Array Slot), va_P (dC, dI) vwCl [(aB, .inr (1, [.ref aBr, .int bn])), (aBr, .inl (cyI, 800, .inl br)), (aR, .inr (5, [.ref aRb, .int rn, .int rf, .int rx, .int rp]))] H → va_D A [(aB, .inr (1, [.ref aBr, .int bn])), (aBr, .inl (cyI, 800, .inl br)), (aR, .inr (5, [.ref aRb, .int rn, .int rf, .int rx, .int rp]))] → va_S A s.heap H locs → lv_has ls 5 [(0, .ref aR), (1, .ref aB), (2, .int v2)] → W p l e ({ frames := 2, cells := 0, slots := 0, locals := 47 } : Room) s m args below meth c H locs 0 0 Q (F0 m 25 ls [])) (hK52 : ∀ (rx : Int32), K52 rx → ∀ (H : Heap) (locs : List Loc) (ls : Array Slot), va_P (dC, dI) vwCl [(aB, .inr (1, [.ref aBr, .int bn])), (aBr, .inl (cyI, 800, .inl br)), (aR, .inr (5, [.ref aRb, .int rn, .int rf, .int rx, .int rp]))] H → va_D A [(aB, .inr (1, [.ref aBr, .int bn])), (aBr, .inl (cyI, 800, .inl br)), (aR, .inr (5, [.ref aRb, .int rn, .int rf, .int rx, .int rp]))] → va_S A s.heap H locs → lv_has ls 5 [] → W p l e ({ frames := 2, cells := 0, slots := 0, locals := 47 } : Room) s m args below meth c H locs 0 0 Q (F0 m 52 ls [])) :
    ∀ (n2 : Nat) (v2 : Int32) (rx : Int32), wpX6_takeNumber_2 bn br K18 K25 K52 n2 v2 rx → ∀ (H : Heap) (locs : List Loc) (ls : Array Slot), va_P (dC, dI) vwCl [(aB, .inr (1, [.ref aBr, .int bn])), (aBr, .inl (cyI, 800, .inl br)), (aR, .inr (5, [.ref aRb, .int rn, .int rf, .int rx, .int rp]))] H → va_D A [(aB, .inr (1, [.ref aBr, .int bn])), (aBr, .inl (cyI, 800, .inl br)), (aR, .inr (5, [.ref aRb, .int rn, .int rf, .int rx, .int rp]))] → va_S A s.heap H locs → lv_has ls 5 [(0, .ref aR), (1, .ref aB), (2, .int v2)] → W p l e ({ frames := 2, cells := 0, slots := 0, locals := 47 } : Room) s m args below meth c H locs 0 0 Q (F0 m 2 ls []) := by
  obtain ⟨hx, hb, hml, hown, hts⟩ := id C0
  intro n2
  induction n2 with
  | zero => intro _ _ h; exact h.elim
  | succ n2 ih2 =>
    intro v2 rx h H locs ls hP hD hS hl
    rw [wpX6_takeNumber_2] at h
    refine lv_iload_n hx hb dX6_takeNumber_2 rfl (lv_at hl 2 rfl) ?_
    refine lv_bipush (v := 7) hx hb dX6_takeNumber_3 (by decide) ?_
    refine lv_icmp_gt (tgt := 52) hx hb dX6_takeNumber_5 (by decide) (fun c_1 => ?_) (fun c_1 => ?_)
    · replace h := h.1 c_1
      exact hK52 _ h _ _ _ hP hD hS (lv_sub hl [] rfl)
    · replace h := h.2 c_1
      refine lv_aload_n hx hb dX6_takeNumber_8 rfl (lv_at hl 0 rfl) ?_
      refine lv_aload_n hx hb dX6_takeNumber_9 rfl (lv_at hl 1 rfl) ?_
      refine wk_calli (wc := [(aB, .inr (1, [.ref aBr, .int bn])), (aBr, .inl (cyI, 800, .inl br)), (aR, .inr (5, [.ref aRb, .int rn, .int rf, .int rx, .int rp]))]) (wr := []) (va_runV (As := [.ref aB]) (rest := []) C0 (mtX6_takeBit l dC dI cyI (aB := aB) (aBr := aBr) (aR := aR) (aRb := aRb) (sz := _) (bn := bn) (br := br) (rn := rn) (rf := rf) (rx := rx) (rp := rp) h) (cwV 1 hts gX6_takeNumber_X6_takeBit rfl rfl rfl (by decide +kernel) ⟨(Nat.le_of_ble_eq_true rfl), (Nat.le_of_ble_eq_true rfl)⟩) (wk_preV (wc := [(aB, .inr (1, [.ref aBr, .int bn])), (aBr, .inl (cyI, 800, .inl br)), (aR, .inr (5, [.ref aRb, .int rn, .int rf, .int rx, .int rp]))]) hK hP hD [0, 1, 2] rfl (by decide) (va_recv hK hP (ci := 5) (q0 := 2) rfl rfl)) rfl rfl hl.1 rfl (lv_room (Nat.le_of_ble_eq_true rfl)) dX6_takeNumber_10 ⟨(Nat.le_of_ble_eq_true rfl), (Nat.le_of_ble_eq_true rfl)⟩) hP hD hS hA [0, 1, 2] [] rfl rfl (by decide) (by decide) (fun r_2 u9 H locs h hP hD hS => ?_)
      obtain ⟨rx_3, rfl⟩ : ∃ z9, z9 = u9 := ⟨_, rfl⟩
      have hP : va_P (dC, dI) vwCl [(aB, .inr (1, [.ref aBr, .int bn])), (aBr, .inl (cyI, 800, .inl br)), (aR, .inr (5, [.ref aRb, .int rn, .int rf, .int rx_3, .int rp]))] H := hP
      have hD : va_D A [(aB, .inr (1, [.ref aBr, .int bn])), (aBr, .inl (cyI, 800, .inl br)), (aR, .inr (5, [.ref aRb, .int rn, .int rf, .int rx_3, .int rp]))] := hD
      refine lv_istore_n (lv' := [(3, .int r_2), (0, .ref aR), (1, .ref aB), (2, .int v2)]) hx hb dX6_takeNumber_13 rfl hl (by decide) rfl (fun ls hl => ?_)
      refine lv_iload_n hx hb dX6_takeNumber_14 rfl (lv_at hl 0 rfl) ?_
      refine lv_if_ge (tgt := 20) hx hb dX6_takeNumber_15 (by decide) (fun c_4 => ?_) (fun c_4 => ?_)
      · replace h := h.1 c_4
        refine lv_iload_n hx hb dX6_takeNumber_20 rfl (lv_at hl 0 rfl) ?_
        refine lv_iconst (v := 1) hx hb dX6_takeNumber_21 (by decide) ?_
        refine lv_icmp_ne (tgt := 46) hx hb dX6_takeNumber_22 (by decide) (fun c_5 => ?_) (fun c_5 => ?_)
        · replace h := h.2 c_5
          refine lv_iinc (v := v2 + 1) (lv' := [(2, .int (v2 + 1)), (3, .int r_2), (0, .ref aR), (1, .ref aB)]) hx hb dX6_takeNumber_46 hl (k := 3) rfl rfl (by decide) rfl (fun ls hl => ?_)
          refine lv_goto (tgt := 2) hx hb dX6_takeNumber_49 (by decide) ?_
          exact ih2 _ _ h _ _ _ hP hD hS (lv_sub hl [2, 3, 0] rfl)
        · replace h := h.1 c_5
          exact hK25 _ _ h _ _ _ hP hD hS (lv_sub hl [1, 2, 3] rfl)
      · replace h := h.2 c_4
        exact hK18 _ h _ _ _ hP hD hS (lv_sub hl [] rfl)
def wpX6_takeNumber (bn : Int32) (br : Nat → Int32) (rx : Int32) (post : Int32 → Int32 → Prop) : Prop := ∃ n2 : Nat, wpX6_takeNumber_2 bn br (fun (rx_6 : Int32) => post (-1) rx_6) (fun (v2_7 : Int32) (rx_8 : Int32) => wpX6_takeBehind bn br rx_8 1 v2_7 (fun (r_9 : Int32) (rx_10 : Int32) => (0 ≤ r_9 → (post r_9 rx_10)) ∧ (¬ 0 ≤ r_9 → (post (-1) rx_10)))) (fun (rx_12 : Int32) => post (-2) rx_12) n2 0 rx
set_option maxHeartbeats 4000000 in
set_option maxRecDepth 100000 in
theorem mtX6_takeNumber (l : Launch) (dC : Nat → ClassId) (dI : Nat → Nat → Nat) (cyI : ClassId) {aB aBr aR aRb : Nat} {sz : Nat} {bn : Int32} {br : Nat → Int32} {rn : Int32} {rf : Int32} {rx : Int32} {rp : Int32} {post : Int32 → Int32 → Prop} (h : wpX6_takeNumber bn br rx post) : Met l yX6_takeNumber wsX6_takeNumber ({ frames := 2, cells := 0, slots := 0, locals := 47 }) (va_Pc [.ref aR, .ref aB] (wk_B (dC, dI) [(cyI, .int)] [(aB, .inr (1, [.ref aBr, .int bn])), (aBr, .inl (cyI, 800, .inl br)), (aR, .inr (5, [.ref aRb, .int rn, .int rf, .int rx, .int rp]))] sz)) (va_Qi (fun (r : Int32) (u : Int32) => post r u) (wk_C (dC, dI) [(cyI, .int)] (va_A [(aB, .inr (1, [.ref aBr, .int bn])), (aBr, .inl (cyI, 800, .inl br)), (aR, .inr (5, [.ref aRb, .int rn, .int rf, .int rx, .int rp]))] sz) (fun (u : Int32) => [(aB, .inr (1, [.ref aBr, .int bn])), (aBr, .inl (cyI, 800, .inl br)), (aR, .inr (5, [.ref aRb, .int rn, .int rf, .int (u), .int rp]))])) (va_A [(aB, .inr (1, [.ref aBr, .int bn])), (aBr, .inl (cyI, 800, .inl br)), (aR, .inr (5, [.ref aRb, .int rn, .int rf, .int rx, .int rp]))] sz)) 0 0 (va_A [(aB, .inr (1, [.ref aBr, .int bn])), (aBr, .inl (cyI, 800, .inl br)), (aR, .inr (5, [.ref aRb, .int rn, .int rf, .int rx, .int rp]))] sz) := by
  refine Met.ofW (cc := cX6_takeNumber) (maxL := 5) (ret := (some .int)) (by decide) rfl ?_
  intro p e s m args below meth c s₁ B hml hv
  obtain ⟨rfl, hsz, hP, hK, hD0⟩ := hv
  have hx := B.exec
  have hb := B.bytes
  have hr := B.returns
  have hts := atoms_spec (ws := wsX6_takeNumber) B.pre
  have hown : s.vm.findClass RX6 = some m.cls := findClass_of_methodNamed B.named
  have hlocks := B.notSynchronized
  subst hsz
  have hD := hD0.self (sz := s.heap.size)
  generalize hAe : va_A [(aB, .inr (1, [.ref aBr, .int bn])), (aBr, .inl (cyI, 800, .inl br)), (aR, .inr (5, [.ref aRb, .int rn, .int rf, .int rx, .int rp]))] s.heap.size = A at hD ⊢
  have hA : ∀ q : Nat, s.heap.size ≤ q → A q := fun q h => by rw [← hAe]; exact Or.inr h
  have hS : va_S A s.heap s.heap [] := va_S.rf
  have hP : va_P (dC, dI) vwCl [(aB, .inr (1, [.ref aBr, .int bn])), (aBr, .inl (cyI, 800, .inl br)), (aR, .inr (5, [.ref aRb, .int rn, .int rf, .int rx, .int rp]))] s.heap := hP
  have hl := lv_entry ([.ref aR, .ref aB]) (n := 5) (Nat.le_of_ble_eq_true rfl)
  rw [lg_entry_eq]
  generalize (lg_sl ([.ref aR, .ref aB]) ++ List.replicate (5 - (lg_sl ([.ref aR, .ref aB])).length) Slot.unset).toArray = ls at hl ⊢
  have hl : lv_has ls 5 [(0, .ref aR), (1, .ref aB)] := hl
  have C0 : CallFix p m c cX6_takeNumber 5 s ([.ref aR, .ref aB] : List Value).toArray wsX6_takeNumber RX6 := ⟨hx, hb, hml, hown, hts⟩
  unfold wpX6_takeNumber at h
  refine lv_iconst (v := 0) hx hb dX6_takeNumber_0 (by decide) ?_
  refine lv_istore_n (lv' := [(2, .int 0), (0, .ref aR), (1, .ref aB)]) hx hb dX6_takeNumber_1 rfl hl (by decide) rfl (fun ls hl => ?_)
  obtain ⟨n2, h⟩ := h
  refine wlX6_takeNumber_2 C0 hA hK ?_ ?_ ?_ n2 _ _ h _ _ _ hP hD hS (lv_sub hl [1, 2, 0] rfl)
  · intro rx_6 h H locs ls hP hD hS hl
    refine lv_iconst (v := (-1)) hx hb dX6_takeNumber_18 (by decide) ?_
    have hP9 : va_P (dC, dI) vwCl [(aB, .inr (1, [.ref aBr, .int bn])), (aBr, .inl (cyI, 800, .inl br)), (aR, .inr (5, [.ref aRb, .int rn, .int rf, .int rx_6, .int rp]))] _ := hP
    have hD9 : va_D A [(aB, .inr (1, [.ref aBr, .int bn])), (aBr, .inl (cyI, 800, .inl br)), (aR, .inr (5, [.ref aRb, .int rn, .int rf, .int rx_6, .int rp]))] := hD
    exact W.iret (v := (-1)) hx hb hr (fun t ht hW => ⟨⟨(-1), rx_6, rfl, h, by rw [ht]; exact hP9, va_K.moved hW.alike hK, hD9⟩, hS.F ht⟩) hS.2.2 dX6_takeNumber_19
  · intro v2_7 rx_8 h H locs ls hP hD hS hl
    refine lv_aload_n hx hb dX6_takeNumber_25 rfl (lv_at hl 0 rfl) ?_
    refine lv_aload_n hx hb dX6_takeNumber_26 rfl (lv_at hl 1 rfl) ?_
    refine lv_iconst (v := 1) hx hb dX6_takeNumber_27 (by decide) ?_
    refine lv_iload_n hx hb dX6_takeNumber_28 rfl (lv_at hl 2 rfl) ?_
    refine wk_calli (wc := [(aB, .inr (1, [.ref aBr, .int bn])), (aBr, .inl (cyI, 800, .inl br)), (aR, .inr (5, [.ref aRb, .int rn, .int rf, .int rx_8, .int rp]))]) (wr := []) (va_runV (As := [.ref aB, .int 1, .int v2_7]) (rest := []) C0 (mtX6_takeBehind l dC dI cyI (aB := aB) (aBr := aBr) (aR := aR) (aRb := aRb) (sz := _) (bn := bn) (br := br) (rn := rn) (rf := rf) (rx := rx_8) (rp := rp) (v2 := 1) (v3 := v2_7) h) (cwV 3 hts gX6_takeNumber_X6_takeBehind rfl rfl rfl (by decide +kernel) ⟨(Nat.le_of_ble_eq_true rfl), (Nat.le_of_ble_eq_true rfl)⟩) (wk_preV (wc := [(aB, .inr (1, [.ref aBr, .int bn])), (aBr, .inl (cyI, 800, .inl br)), (aR, .inr (5, [.ref aRb, .int rn, .int rf, .int rx_8, .int rp]))]) hK hP hD [0, 1, 2] rfl (by decide) (va_recv hK hP (ci := 5) (q0 := 2) rfl rfl)) rfl rfl hl.1 rfl (lv_room (Nat.le_of_ble_eq_true rfl)) dX6_takeNumber_29 ⟨(Nat.le_of_ble_eq_true rfl), (Nat.le_of_ble_eq_true rfl)⟩) hP hD hS hA [0, 1, 2] [] rfl rfl (by decide) (by decide) (fun r_9 u9 H locs h hP hD hS => ?_)
    obtain ⟨rx_10, rfl⟩ : ∃ z9, z9 = u9 := ⟨_, rfl⟩
    have hP : va_P (dC, dI) vwCl [(aB, .inr (1, [.ref aBr, .int bn])), (aBr, .inl (cyI, 800, .inl br)), (aR, .inr (5, [.ref aRb, .int rn, .int rf, .int rx_10, .int rp]))] H := hP
    have hD : va_D A [(aB, .inr (1, [.ref aBr, .int bn])), (aBr, .inl (cyI, 800, .inl br)), (aR, .inr (5, [.ref aRb, .int rn, .int rf, .int rx_10, .int rp]))] := hD
    refine lv_istore (lv' := [(4, .int r_9), (0, .ref aR), (1, .ref aB), (2, .int v2_7)]) hx hb dX6_takeNumber_32 hl (by decide) rfl (fun ls hl => ?_)
    refine lv_iload hx hb dX6_takeNumber_34 (lv_at hl 0 rfl) ?_
    refine lv_if_ge (tgt := 43) hx hb dX6_takeNumber_36 (by decide) (fun c_11 => ?_) (fun c_11 => ?_)
    · replace h := h.1 c_11
      refine lv_iload hx hb dX6_takeNumber_43 (lv_at hl 0 rfl) ?_
      have hP9 : va_P (dC, dI) vwCl [(aB, .inr (1, [.ref aBr, .int bn])), (aBr, .inl (cyI, 800, .inl br)), (aR, .inr (5, [.ref aRb, .int rn, .int rf, .int rx_10, .int rp]))] _ := hP
      have hD9 : va_D A [(aB, .inr (1, [.ref aBr, .int bn])), (aBr, .inl (cyI, 800, .inl br)), (aR, .inr (5, [.ref aRb, .int rn, .int rf, .int rx_10, .int rp]))] := hD
      exact W.iret (v := r_9) hx hb hr (fun t ht hW => ⟨⟨r_9, rx_10, rfl, h, by rw [ht]; exact hP9, va_K.moved hW.alike hK, hD9⟩, hS.F ht⟩) hS.2.2 dX6_takeNumber_45
    · replace h := h.2 c_11
      refine lv_iconst (v := (-1)) hx hb dX6_takeNumber_39 (by decide) ?_
      refine lv_goto (tgt := 45) hx hb dX6_takeNumber_40 (by decide) ?_
      have hP9 : va_P (dC, dI) vwCl [(aB, .inr (1, [.ref aBr, .int bn])), (aBr, .inl (cyI, 800, .inl br)), (aR, .inr (5, [.ref aRb, .int rn, .int rf, .int rx_10, .int rp]))] _ := hP
      have hD9 : va_D A [(aB, .inr (1, [.ref aBr, .int bn])), (aBr, .inl (cyI, 800, .inl br)), (aR, .inr (5, [.ref aRb, .int rn, .int rf, .int rx_10, .int rp]))] := hD
      exact W.iret (v := (-1)) hx hb hr (fun t ht hW => ⟨⟨(-1), rx_10, rfl, h, by rw [ht]; exact hP9, va_K.moved hW.alike hK, hD9⟩, hS.F ht⟩) hS.2.2 dX6_takeNumber_45
  · intro rx_12 h H locs ls hP hD hS hl
    refine lv_bipush (v := (-2)) hx hb dX6_takeNumber_52 (by decide) ?_
    have hP9 : va_P (dC, dI) vwCl [(aB, .inr (1, [.ref aBr, .int bn])), (aBr, .inl (cyI, 800, .inl br)), (aR, .inr (5, [.ref aRb, .int rn, .int rf, .int rx_12, .int rp]))] _ := hP
    have hD9 : va_D A [(aB, .inr (1, [.ref aBr, .int bn])), (aBr, .inl (cyI, 800, .inl br)), (aR, .inr (5, [.ref aRb, .int rn, .int rf, .int rx_12, .int rp]))] := hD
    exact W.iret (v := (-2)) hx hb hr (fun t ht hW => ⟨⟨(-2), rx_12, rfl, h, by rw [ht]; exact hP9, va_K.moved hW.alike hK, hD9⟩, hS.F ht⟩) hS.2.2 dX6_takeNumber_54
-- X6_copy
theorem qX6_copy_0 : Cond.fieldLink RX6 15 "MatchCoder$Reading" "count" "I" ∈ wsX6_copy := (List.mem_cons_of_mem _ (List.mem_append_left _ (List.mem_of_getElem? (i := 0) rfl)))
theorem qX6_copy_1 : Cond.fieldLink RX6 9 "MatchCoder$Reading" "bytes" "[I" ∈ wsX6_copy := (List.mem_cons_of_mem _ (List.mem_append_left _ (List.mem_of_getElem? (i := 1) rfl)))
theorem inX6_copy_wsX60 : ∀ w ∈ wsX60, w ∈ wsX6_copy := fun _ h => List.mem_cons_of_mem _ (List.mem_append_right _ h)
def wpX6_copy_16 (v1 : Int32) (v2 : Int32) (K57 : Int32 → (Nat → Int32) → Prop) : Nat → Int32 → Int32 → (Nat → Int32) → Prop
  | 0, _, _, _ => False
  | n16 + 1, v3, rn, rb => (v2 ≤ v3 → (K57 rn rb)) ∧ (¬ v2 ≤ v3 → (vp_in (rn - v1) 200 ∧ (vp_in rn 200 ∧ (wpX6_copy_16 v1 v2 K57 n16 (v3 + 1) (rn + 1) (upd rb rn.toNatClampNeg (rb (rn - v1).toNatClampNeg))))))
set_option maxHeartbeats 4000000 in
set_option maxRecDepth 100000 in
theorem wlX6_copy_16 {p : Program} {l : Launch} {e : Env} {s : State} {m : MethodId} {args : Array Value} {below : List Frame} {meth : Method} {c : Code} {A : Nat → Prop} {Q : State → Prop} {dC : Nat → ClassId} {dI : Nat → Nat → Nat} {cyI : ClassId} {aR aRb : Nat} {v1 : Int32} {v2 : Int32} {rf : Int32} {rx : Int32} {rp : Int32} {K57 : Int32 → (Nat → Int32) → Prop} (C0 : CallFix p m c cX6_copy 4 s args wsX6_copy RX6) (hA : ∀ q : Nat, s.heap.size ≤ q → A q) (hK : va_K (dC, dI) vwCl [(cyI, .int)] s) (hK57 : ∀ (rn : Int32) (rb : Nat → Int32), K57 rn rb → ∀ (H : Heap) (locs : List Loc) (ls : Array Slot), va_P (dC, dI) vwCl [(aR, .inr (5, [.ref aRb, .int rn, .int rf, .int rx, .int rp])), (aRb, .inl (cyI, 200, .inl rb))] H → va_D A [(aR, .inr (5, [.ref aRb, .int rn, .int rf, .int rx, .int rp])), (aRb, .inl (cyI, 200, .inl rb))] → va_S A s.heap H locs → lv_has ls 4 [] → W p l e ({ frames := 0, cells := 0, slots := 0, locals := 0 } : Room) s m args below meth c H locs 0 0 Q (F0 m 57 ls [])) :
    ∀ (n16 : Nat) (v3 : Int32) (rn : Int32) (rb : Nat → Int32), wpX6_copy_16 v1 v2 K57 n16 v3 rn rb → ∀ (H : Heap) (locs : List Loc) (ls : Array Slot), va_P (dC, dI) vwCl [(aR, .inr (5, [.ref aRb, .int rn, .int rf, .int rx, .int rp])), (aRb, .inl (cyI, 200, .inl rb))] H → va_D A [(aR, .inr (5, [.ref aRb, .int rn, .int rf, .int rx, .int rp])), (aRb, .inl (cyI, 200, .inl rb))] → va_S A s.heap H locs → lv_has ls 4 [(0, .ref aR), (1, .int v1), (2, .int v2), (3, .int v3)] → W p l e ({ frames := 0, cells := 0, slots := 0, locals := 0 } : Room) s m args below meth c H locs 0 0 Q (F0 m 16 ls []) := by
  obtain ⟨hx, hb, hml, hown, hts⟩ := id C0
  intro n16
  induction n16 with
  | zero => intro _ _ _ h; exact h.elim
  | succ n16 ih16 =>
    intro v3 rn rb h H locs ls hP hD hS hl
    rw [wpX6_copy_16] at h
    refine lv_iload_n hx hb dX6_copy_16 rfl (lv_at hl 3 rfl) ?_
    refine lv_iload_n hx hb dX6_copy_17 rfl (lv_at hl 2 rfl) ?_
    refine lv_icmp_ge (tgt := 57) hx hb dX6_copy_18 (by decide) (fun c_2 => ?_) (fun c_2 => ?_)
    · replace h := h.1 c_2
      exact hK57 _ _ h _ _ _ hP hD hS (lv_sub hl [] rfl)
    · replace h := h.2 c_2
      refine lv_aload_n hx hb dX6_copy_21 rfl (lv_at hl 0 rfl) ?_
      refine va_get (D := (dC, dI)) (ci := 5) (v := .ref aRb) (C := RX6) (T := TX6) (N := 5) hx hb hts inX6_copy_wsX60 hown hK hP 0 rfl rfl 0 (by decide) (hts _ qX6_copy_1) (fun _ h9 => h9) rfl dX6_copy_22 ?_
      refine lv_aload_n hx hb dX6_copy_25 rfl (lv_at hl 0 rfl) ?_
      refine va_get (D := (dC, dI)) (ci := 5) (v := .int rn) (C := RX6) (T := TX6) (N := 5) hx hb hts inX6_copy_wsX60 hown hK hP 0 rfl rfl 1 (by decide) (hts _ qX6_copy_0) (fun _ h9 => h9) rfl dX6_copy_26 ?_
      refine lv_aload_n hx hb dX6_copy_29 rfl (lv_at hl 0 rfl) ?_
      refine va_get (D := (dC, dI)) (ci := 5) (v := .ref aRb) (C := RX6) (T := TX6) (N := 5) hx hb hts inX6_copy_wsX60 hown hK hP 0 rfl rfl 0 (by decide) (hts _ qX6_copy_1) (fun _ h9 => h9) rfl dX6_copy_30 ?_
      refine lv_aload_n hx hb dX6_copy_33 rfl (lv_at hl 0 rfl) ?_
      refine va_get (D := (dC, dI)) (ci := 5) (v := .int rn) (C := RX6) (T := TX6) (N := 5) hx hb hts inX6_copy_wsX60 hown hK hP 0 rfl rfl 1 (by decide) (hts _ qX6_copy_0) (fun _ h9 => h9) rfl dX6_copy_34 ?_
      refine lv_iload_n hx hb dX6_copy_37 rfl (lv_at hl 1 rfl) ?_
      refine lv_isub hx hb dX6_copy_38 ?_
      obtain ⟨hi_3, h⟩ := h
      refine va_iald hx hb hK hP 1 0 rfl rfl hi_3 dX6_copy_39 ?_
      obtain ⟨hi_4, h⟩ := h
      refine va_iast hx hb hK hP hD hS 1 0 rfl rfl hi_4 dX6_copy_40 (fun H locs hP hD hS => ?_)
      have hP : va_P (dC, dI) vwCl [(aR, .inr (5, [.ref aRb, .int rn, .int rf, .int rx, .int rp])), (aRb, .inl (cyI, 200, .inl (upd rb rn.toNatClampNeg (rb (rn - v1).toNatClampNeg))))] H := hP
      have hD : va_D A [(aR, .inr (5, [.ref aRb, .int rn, .int rf, .int rx, .int rp])), (aRb, .inl (cyI, 200, .inl (upd rb rn.toNatClampNeg (rb (rn - v1).toNatClampNeg))))] := hD
      refine lv_aload_n hx hb dX6_copy_41 rfl (lv_at hl 0 rfl) ?_
      refine lv_dup hx hb dX6_copy_42 rfl ?_
      refine va_get (D := (dC, dI)) (ci := 5) (v := .int rn) (C := RX6) (T := TX6) (N := 5) hx hb hts inX6_copy_wsX60 hown hK hP 0 rfl rfl 1 (by decide) (hts _ qX6_copy_0) (fun _ h9 => h9) rfl dX6_copy_43 ?_
      refine lv_iconst (v := 1) hx hb dX6_copy_46 (by decide) ?_
      refine lv_iadd hx hb dX6_copy_47 ?_
      refine va_put (D := (dC, dI)) (ci := 5) (v := .int (rn + 1)) (ty := .int) (C := RX6) (T := TX6) (N := 5) hx hb hts inX6_copy_wsX60 tyX6 tyX6_ok nmX6 hown hK hP hD hS 0 rfl rfl 1 (by decide) (hts _ qX6_copy_0) (fun _ h9 => h9) rfl (by decide +kernel) rfl rfl (Nat.le_of_ble_eq_true rfl) dX6_copy_48 (fun H locs hP hD hS => ?_)
      have hP : va_P (dC, dI) vwCl [(aR, .inr (5, [.ref aRb, .int (rn + 1), .int rf, .int rx, .int rp])), (aRb, .inl (cyI, 200, .inl (upd rb rn.toNatClampNeg (rb (rn - v1).toNatClampNeg))))] H := hP
      have hD : va_D A [(aR, .inr (5, [.ref aRb, .int (rn + 1), .int rf, .int rx, .int rp])), (aRb, .inl (cyI, 200, .inl (upd rb rn.toNatClampNeg (rb (rn - v1).toNatClampNeg))))] := hD
      refine lv_iinc (v := v3 + 1) (lv' := [(3, .int (v3 + 1)), (0, .ref aR), (1, .int v1), (2, .int v2)]) hx hb dX6_copy_51 hl (k := 3) rfl rfl (by decide) rfl (fun ls hl => ?_)
      refine lv_goto (tgt := 16) hx hb dX6_copy_54 (by decide) ?_
      exact ih16 _ _ _ h _ _ _ hP hD hS (lv_sub hl [1, 2, 3, 0] rfl)
def wpX6_copy (rn : Int32) (rb : Nat → Int32) (v1 : Int32) (v2 : Int32) (post : Int32 → Int32 → (Nat → Int32) → Prop) : Prop := (v2 ≤ (200 - rn) → (∃ n16 : Nat, wpX6_copy_16 v1 v2 (fun (rn_5 : Int32) (rb_6 : Nat → Int32) => post 0 rn_5 rb_6) n16 0 rn rb)) ∧ (¬ v2 ≤ (200 - rn) → (post 5 rn rb))
set_option maxHeartbeats 4000000 in
set_option maxRecDepth 100000 in
theorem mtX6_copy (l : Launch) (dC : Nat → ClassId) (dI : Nat → Nat → Nat) (cyI : ClassId) {aR aRb : Nat} {sz : Nat} {rn : Int32} {rf : Int32} {rx : Int32} {rp : Int32} {rb : Nat → Int32} {v1 : Int32} {v2 : Int32} {post : Int32 → Int32 → (Nat → Int32) → Prop} (h : wpX6_copy rn rb v1 v2 post) : Met l yX6_copy wsX6_copy ({ frames := 0, cells := 0, slots := 0, locals := 0 }) (va_Pc [.ref aR, .int v1, .int v2] (wk_B (dC, dI) [(cyI, .int)] [(aR, .inr (5, [.ref aRb, .int rn, .int rf, .int rx, .int rp])), (aRb, .inl (cyI, 200, .inl rb))] sz)) (va_Qi (fun (r : Int32) (u : Int32 × (Nat → Int32)) => post r u.1 u.2) (wk_C (dC, dI) [(cyI, .int)] (va_A [(aR, .inr (5, [.ref aRb, .int rn, .int rf, .int rx, .int rp])), (aRb, .inl (cyI, 200, .inl rb))] sz) (fun (u : Int32 × (Nat → Int32)) => [(aR, .inr (5, [.ref aRb, .int (u.1), .int rf, .int rx, .int rp])), (aRb, .inl (cyI, 200, .inl (u.2)))])) (va_A [(aR, .inr (5, [.ref aRb, .int rn, .int rf, .int rx, .int rp])), (aRb, .inl (cyI, 200, .inl rb))] sz)) 0 0 (va_A [(aR, .inr (5, [.ref aRb, .int rn, .int rf, .int rx, .int rp])), (aRb, .inl (cyI, 200, .inl rb))] sz) := by
  refine Met.ofW (cc := cX6_copy) (maxL := 4) (ret := (some .int)) (by decide) rfl ?_
  intro p e s m args below meth c s₁ B hml hv
  obtain ⟨rfl, hsz, hP, hK, hD0⟩ := hv
  have hx := B.exec
  have hb := B.bytes
  have hr := B.returns
  have hts := atoms_spec (ws := wsX6_copy) B.pre
  have hown : s.vm.findClass RX6 = some m.cls := findClass_of_methodNamed B.named
  have hlocks := B.notSynchronized
  subst hsz
  have hD := hD0.self (sz := s.heap.size)
  generalize hAe : va_A [(aR, .inr (5, [.ref aRb, .int rn, .int rf, .int rx, .int rp])), (aRb, .inl (cyI, 200, .inl rb))] s.heap.size = A at hD ⊢
  have hA : ∀ q : Nat, s.heap.size ≤ q → A q := fun q h => by rw [← hAe]; exact Or.inr h
  have hS : va_S A s.heap s.heap [] := va_S.rf
  have hP : va_P (dC, dI) vwCl [(aR, .inr (5, [.ref aRb, .int rn, .int rf, .int rx, .int rp])), (aRb, .inl (cyI, 200, .inl rb))] s.heap := hP
  have hl := lv_entry ([.ref aR, .int v1, .int v2]) (n := 4) (Nat.le_of_ble_eq_true rfl)
  rw [lg_entry_eq]
  generalize (lg_sl ([.ref aR, .int v1, .int v2]) ++ List.replicate (4 - (lg_sl ([.ref aR, .int v1, .int v2])).length) Slot.unset).toArray = ls at hl ⊢
  have hl : lv_has ls 4 [(0, .ref aR), (1, .int v1), (2, .int v2)] := hl
  have C0 : CallFix p m c cX6_copy 4 s ([.ref aR, .int v1, .int v2] : List Value).toArray wsX6_copy RX6 := ⟨hx, hb, hml, hown, hts⟩
  unfold wpX6_copy at h
  refine lv_iload_n hx hb dX6_copy_0 rfl (lv_at hl 2 rfl) ?_
  refine lv_sipush (v := 200) hx hb dX6_copy_1 (by decide) ?_
  refine lv_aload_n hx hb dX6_copy_4 rfl (lv_at hl 0 rfl) ?_
  refine va_get (D := (dC, dI)) (ci := 5) (v := .int rn) (C := RX6) (T := TX6) (N := 5) hx hb hts inX6_copy_wsX60 hown hK hP 0 rfl rfl 1 (by decide) (hts _ qX6_copy_0) (fun _ h9 => h9) rfl dX6_copy_5 ?_
  refine lv_isub hx hb dX6_copy_8 ?_
  refine lv_icmp_le (tgt := 14) hx hb dX6_copy_9 (by decide) (fun c_1 => ?_) (fun c_1 => ?_)
  · replace h := h.1 c_1
    refine lv_iconst (v := 0) hx hb dX6_copy_14 (by decide) ?_
    refine lv_istore_n (lv' := [(3, .int 0), (0, .ref aR), (1, .int v1), (2, .int v2)]) hx hb dX6_copy_15 rfl hl (by decide) rfl (fun ls hl => ?_)
    obtain ⟨n16, h⟩ := h
    refine wlX6_copy_16 C0 hA hK ?_ n16 _ _ _ h _ _ _ hP hD hS (lv_sub hl [1, 2, 3, 0] rfl)
    · intro rn_5 rb_6 h H locs ls hP hD hS hl
      refine lv_iconst (v := 0) hx hb dX6_copy_57 (by decide) ?_
      have hP9 : va_P (dC, dI) vwCl [(aR, .inr (5, [.ref aRb, .int rn_5, .int rf, .int rx, .int rp])), (aRb, .inl (cyI, 200, .inl rb_6))] _ := hP
      have hD9 : va_D A [(aR, .inr (5, [.ref aRb, .int rn_5, .int rf, .int rx, .int rp])), (aRb, .inl (cyI, 200, .inl rb_6))] := hD
      exact W.iret (v := 0) hx hb hr (fun t ht hW => ⟨⟨0, (rn_5, rb_6), rfl, h, by rw [ht]; exact hP9, va_K.moved hW.alike hK, hD9⟩, hS.F ht⟩) hS.2.2 dX6_copy_58
  · replace h := h.2 c_1
    refine lv_iconst (v := 5) hx hb dX6_copy_12 (by decide) ?_
    have hP9 : va_P (dC, dI) vwCl [(aR, .inr (5, [.ref aRb, .int rn, .int rf, .int rx, .int rp])), (aRb, .inl (cyI, 200, .inl rb))] _ := hP
    have hD9 : va_D A [(aR, .inr (5, [.ref aRb, .int rn, .int rf, .int rx, .int rp])), (aRb, .inl (cyI, 200, .inl rb))] := hD
    exact W.iret (v := 5) hx hb hr (fun t ht hW => ⟨⟨5, (rn, rb), rfl, h, by rw [ht]; exact hP9, va_K.moved hW.alike hK, hD9⟩, hS.F ht⟩) hS.2.2 dX6_copy_13
-- X6_readLiteral
theorem qX6_readLiteral_0 : Cond.fieldLink RX6 15 "MatchCoder$Reading" "count" "I" ∈ wsX6_readLiteral := (List.mem_cons_of_mem _ (List.mem_append_left _ (List.mem_append_left _ (List.mem_of_getElem? (i := 0) rfl))))
theorem qX6_readLiteral_1 : Cond.fieldLink RX6 9 "MatchCoder$Reading" "bytes" "[I" ∈ wsX6_readLiteral := (List.mem_cons_of_mem _ (List.mem_append_left _ (List.mem_append_left _ (List.mem_of_getElem? (i := 1) rfl))))
theorem inX6_readLiteral_wsX60 : ∀ w ∈ wsX60, w ∈ wsX6_readLiteral := fun _ h => List.mem_cons_of_mem _ (List.mem_append_left _ (List.mem_append_right _ h))
def wpX6_readLiteral (bn : Int32) (br : Nat → Int32) (rn : Int32) (rx : Int32) (rb : Nat → Int32) (post : Int32 → Int32 → Int32 → (Nat → Int32) → Prop) : Prop := wpX6_takeBehind bn br rx 0 8 (fun (r_1 : Int32) (rx_2 : Int32) => (0 ≤ r_1 → ((rn < 200 → (vp_in rn 200 ∧ (post 0 (rn + 1) rx_2 (upd rb rn.toNatClampNeg r_1)))) ∧ (¬ rn < 200 → (post 5 rn rx_2 rb)))) ∧ (¬ 0 ≤ r_1 → (post 1 rn rx_2 rb)))
set_option maxHeartbeats 4000000 in
set_option maxRecDepth 100000 in
theorem mtX6_readLiteral (l : Launch) (dC : Nat → ClassId) (dI : Nat → Nat → Nat) (cyI : ClassId) {aB aBr aR aRb : Nat} {sz : Nat} {bn : Int32} {br : Nat → Int32} {rn : Int32} {rf : Int32} {rx : Int32} {rp : Int32} {rb : Nat → Int32} {post : Int32 → Int32 → Int32 → (Nat → Int32) → Prop} (h : wpX6_readLiteral bn br rn rx rb post) : Met l yX6_readLiteral wsX6_readLiteral ({ frames := 2, cells := 0, slots := 0, locals := 47 }) (va_Pc [.ref aR, .ref aB] (wk_B (dC, dI) [(cyI, .int)] [(aB, .inr (1, [.ref aBr, .int bn])), (aBr, .inl (cyI, 800, .inl br)), (aR, .inr (5, [.ref aRb, .int rn, .int rf, .int rx, .int rp])), (aRb, .inl (cyI, 200, .inl rb))] sz)) (va_Qi (fun (r : Int32) (u : Int32 × Int32 × (Nat → Int32)) => post r u.1 u.2.1 u.2.2) (wk_C (dC, dI) [(cyI, .int)] (va_A [(aB, .inr (1, [.ref aBr, .int bn])), (aBr, .inl (cyI, 800, .inl br)), (aR, .inr (5, [.ref aRb, .int rn, .int rf, .int rx, .int rp])), (aRb, .inl (cyI, 200, .inl rb))] sz) (fun (u : Int32 × Int32 × (Nat → Int32)) => [(aB, .inr (1, [.ref aBr, .int bn])), (aBr, .inl (cyI, 800, .inl br)), (aR, .inr (5, [.ref aRb, .int (u.1), .int rf, .int (u.2.1), .int rp])), (aRb, .inl (cyI, 200, .inl (u.2.2)))])) (va_A [(aB, .inr (1, [.ref aBr, .int bn])), (aBr, .inl (cyI, 800, .inl br)), (aR, .inr (5, [.ref aRb, .int rn, .int rf, .int rx, .int rp])), (aRb, .inl (cyI, 200, .inl rb))] sz)) 0 0 (va_A [(aB, .inr (1, [.ref aBr, .int bn])), (aBr, .inl (cyI, 800, .inl br)), (aR, .inr (5, [.ref aRb, .int rn, .int rf, .int rx, .int rp])), (aRb, .inl (cyI, 200, .inl rb))] sz) := by
  refine Met.ofW (cc := cX6_readLiteral) (maxL := 3) (ret := (some .int)) (by decide) rfl ?_
  intro p e s m args below meth c s₁ B hml hv
  obtain ⟨rfl, hsz, hP, hK, hD0⟩ := hv
  have hx := B.exec
  have hb := B.bytes
  have hr := B.returns
  have hts := atoms_spec (ws := wsX6_readLiteral) B.pre
  have hown : s.vm.findClass RX6 = some m.cls := findClass_of_methodNamed B.named
  have hlocks := B.notSynchronized
  subst hsz
  have hD := hD0.self (sz := s.heap.size)
  generalize hAe : va_A [(aB, .inr (1, [.ref aBr, .int bn])), (aBr, .inl (cyI, 800, .inl br)), (aR, .inr (5, [.ref aRb, .int rn, .int rf, .int rx, .int rp])), (aRb, .inl (cyI, 200, .inl rb))] s.heap.size = A at hD ⊢
  have hA : ∀ q : Nat, s.heap.size ≤ q → A q := fun q h => by rw [← hAe]; exact Or.inr h
  have hS : va_S A s.heap s.heap [] := va_S.rf
  have hP : va_P (dC, dI) vwCl [(aB, .inr (1, [.ref aBr, .int bn])), (aBr, .inl (cyI, 800, .inl br)), (aR, .inr (5, [.ref aRb, .int rn, .int rf, .int rx, .int rp])), (aRb, .inl (cyI, 200, .inl rb))] s.heap := hP
  have hl := lv_entry ([.ref aR, .ref aB]) (n := 3) (Nat.le_of_ble_eq_true rfl)
  rw [lg_entry_eq]
  generalize (lg_sl ([.ref aR, .ref aB]) ++ List.replicate (3 - (lg_sl ([.ref aR, .ref aB])).length) Slot.unset).toArray = ls at hl ⊢
  have hl : lv_has ls 3 [(0, .ref aR), (1, .ref aB)] := hl
  have C0 : CallFix p m c cX6_readLiteral 3 s ([.ref aR, .ref aB] : List Value).toArray wsX6_readLiteral RX6 := ⟨hx, hb, hml, hown, hts⟩
  unfold wpX6_readLiteral at h
  refine lv_aload_n hx hb dX6_readLiteral_0 rfl (lv_at hl 0 rfl) ?_
  refine lv_aload_n hx hb dX6_readLiteral_1 rfl (lv_at hl 1 rfl) ?_
  refine lv_iconst (v := 0) hx hb dX6_readLiteral_2 (by decide) ?_
  refine lv_bipush (v := 8) hx hb dX6_readLiteral_3 (by decide) ?_
  refine wk_calli (wc := [(aB, .inr (1, [.ref aBr, .int bn])), (aBr, .inl (cyI, 800, .inl br)), (aR, .inr (5, [.ref aRb, .int rn, .int rf, .int rx, .int rp]))]) (wr := [(aRb, .inl (cyI, 200, .inl rb))]) (va_runV (As := [.ref aB, .int 0, .int 8]) (rest := []) C0 (mtX6_takeBehind l dC dI cyI (aB := aB) (aBr := aBr) (aR := aR) (aRb := aRb) (sz := _) (bn := bn) (br := br) (rn := rn) (rf := rf) (rx := rx) (rp := rp) (v2 := 0) (v3 := 8) h) (cwV 3 hts gX6_readLiteral_X6_takeBehind rfl rfl rfl (by decide +kernel) ⟨(Nat.le_of_ble_eq_true rfl), (Nat.le_of_ble_eq_true rfl)⟩) (wk_preV (wc := [(aB, .inr (1, [.ref aBr, .int bn])), (aBr, .inl (cyI, 800, .inl br)), (aR, .inr (5, [.ref aRb, .int rn, .int rf, .int rx, .int rp]))]) hK hP hD [0, 1, 2] rfl (by decide) (va_recv hK hP (ci := 5) (q0 := 2) rfl rfl)) rfl rfl hl.1 rfl (lv_room (Nat.le_of_ble_eq_true rfl)) dX6_readLiteral_5 ⟨(Nat.le_of_ble_eq_true rfl), (Nat.le_of_ble_eq_true rfl)⟩) hP hD hS hA [0, 1, 2] [3] rfl rfl (by decide) (by decide) (fun r_1 u9 H locs h hP hD hS => ?_)
  obtain ⟨rx_2, rfl⟩ : ∃ z9, z9 = u9 := ⟨_, rfl⟩
  have hP : va_P (dC, dI) vwCl [(aRb, .inl (cyI, 200, .inl rb)), (aB, .inr (1, [.ref aBr, .int bn])), (aBr, .inl (cyI, 800, .inl br)), (aR, .inr (5, [.ref aRb, .int rn, .int rf, .int rx_2, .int rp]))] H := hP
  have hD : va_D A [(aRb, .inl (cyI, 200, .inl rb)), (aB, .inr (1, [.ref aBr, .int bn])), (aBr, .inl (cyI, 800, .inl br)), (aR, .inr (5, [.ref aRb, .int rn, .int rf, .int rx_2, .int rp]))] := hD
  refine lv_istore_n (lv' := [(2, .int r_1), (0, .ref aR), (1, .ref aB)]) hx hb dX6_readLiteral_8 rfl hl (by decide) rfl (fun ls hl => ?_)
  refine lv_iload_n hx hb dX6_readLiteral_9 rfl (lv_at hl 0 rfl) ?_
  refine lv_if_ge (tgt := 15) hx hb dX6_readLiteral_10 (by decide) (fun c_3 => ?_) (fun c_3 => ?_)
  · replace h := h.1 c_3
    refine lv_aload_n hx hb dX6_readLiteral_15 rfl (lv_at hl 1 rfl) ?_
    refine va_get (D := (dC, dI)) (ci := 5) (v := .int rn) (C := RX6) (T := TX6) (N := 5) hx hb hts inX6_readLiteral_wsX60 hown hK hP 3 rfl rfl 1 (by decide) (hts _ qX6_readLiteral_0) (fun _ h9 => h9) rfl dX6_readLiteral_16 ?_
    refine lv_sipush (v := 200) hx hb dX6_readLiteral_19 (by decide) ?_
    refine lv_icmp_lt (tgt := 27) hx hb dX6_readLiteral_22 (by decide) (fun c_4 => ?_) (fun c_4 => ?_)
    · replace h := h.1 c_4
      refine lv_aload_n hx hb dX6_readLiteral_27 rfl (lv_at hl 1 rfl) ?_
      refine va_get (D := (dC, dI)) (ci := 5) (v := .ref aRb) (C := RX6) (T := TX6) (N := 5) hx hb hts inX6_readLiteral_wsX60 hown hK hP 3 rfl rfl 0 (by decide) (hts _ qX6_readLiteral_1) (fun _ h9 => h9) rfl dX6_readLiteral_28 ?_
      refine lv_aload_n hx hb dX6_readLiteral_31 rfl (lv_at hl 1 rfl) ?_
      refine va_get (D := (dC, dI)) (ci := 5) (v := .int rn) (C := RX6) (T := TX6) (N := 5) hx hb hts inX6_readLiteral_wsX60 hown hK hP 3 rfl rfl 1 (by decide) (hts _ qX6_readLiteral_0) (fun _ h9 => h9) rfl dX6_readLiteral_32 ?_
      refine lv_iload_n hx hb dX6_readLiteral_35 rfl (lv_at hl 0 rfl) ?_
      obtain ⟨hi_5, h⟩ := h
      refine va_iast hx hb hK hP hD hS 0 0 rfl rfl hi_5 dX6_readLiteral_36 (fun H locs hP hD hS => ?_)
      have hP : va_P (dC, dI) vwCl [(aRb, .inl (cyI, 200, .inl (upd rb rn.toNatClampNeg r_1))), (aB, .inr (1, [.ref aBr, .int bn])), (aBr, .inl (cyI, 800, .inl br)), (aR, .inr (5, [.ref aRb, .int rn, .int rf, .int rx_2, .int rp]))] H := hP
      have hD : va_D A [(aRb, .inl (cyI, 200, .inl (upd rb rn.toNatClampNeg r_1))), (aB, .inr (1, [.ref aBr, .int bn])), (aBr, .inl (cyI, 800, .inl br)), (aR, .inr (5, [.ref aRb, .int rn, .int rf, .int rx_2, .int rp]))] := hD
      refine lv_aload_n hx hb dX6_readLiteral_37 rfl (lv_at hl 1 rfl) ?_
      refine lv_dup hx hb dX6_readLiteral_38 rfl ?_
      refine va_get (D := (dC, dI)) (ci := 5) (v := .int rn) (C := RX6) (T := TX6) (N := 5) hx hb hts inX6_readLiteral_wsX60 hown hK hP 3 rfl rfl 1 (by decide) (hts _ qX6_readLiteral_0) (fun _ h9 => h9) rfl dX6_readLiteral_39 ?_
      refine lv_iconst (v := 1) hx hb dX6_readLiteral_42 (by decide) ?_
      refine lv_iadd hx hb dX6_readLiteral_43 ?_
      refine va_put (D := (dC, dI)) (ci := 5) (v := .int (rn + 1)) (ty := .int) (C := RX6) (T := TX6) (N := 5) hx hb hts inX6_readLiteral_wsX60 tyX6 tyX6_ok nmX6 hown hK hP hD hS 3 rfl rfl 1 (by decide) (hts _ qX6_readLiteral_0) (fun _ h9 => h9) rfl (by decide +kernel) rfl rfl (Nat.le_of_ble_eq_true rfl) dX6_readLiteral_44 (fun H locs hP hD hS => ?_)
      have hP : va_P (dC, dI) vwCl [(aRb, .inl (cyI, 200, .inl (upd rb rn.toNatClampNeg r_1))), (aB, .inr (1, [.ref aBr, .int bn])), (aBr, .inl (cyI, 800, .inl br)), (aR, .inr (5, [.ref aRb, .int (rn + 1), .int rf, .int rx_2, .int rp]))] H := hP
      have hD : va_D A [(aRb, .inl (cyI, 200, .inl (upd rb rn.toNatClampNeg r_1))), (aB, .inr (1, [.ref aBr, .int bn])), (aBr, .inl (cyI, 800, .inl br)), (aR, .inr (5, [.ref aRb, .int (rn + 1), .int rf, .int rx_2, .int rp]))] := hD
      refine lv_iconst (v := 0) hx hb dX6_readLiteral_47 (by decide) ?_
      have hP9 : va_P (dC, dI) vwCl [(aB, .inr (1, [.ref aBr, .int bn])), (aBr, .inl (cyI, 800, .inl br)), (aR, .inr (5, [.ref aRb, .int (rn + 1), .int rf, .int rx_2, .int rp])), (aRb, .inl (cyI, 200, .inl (upd rb rn.toNatClampNeg r_1)))] _ := (hP.sub [1, 2, 3, 0] rfl)
      have hD9 : va_D A [(aB, .inr (1, [.ref aBr, .int bn])), (aBr, .inl (cyI, 800, .inl br)), (aR, .inr (5, [.ref aRb, .int (rn + 1), .int rf, .int rx_2, .int rp])), (aRb, .inl (cyI, 200, .inl (upd rb rn.toNatClampNeg r_1)))] := (hD.sub [1, 2, 3, 0] (by decide) rfl)
      exact W.iret (v := 0) hx hb hr (fun t ht hW => ⟨⟨0, (rn + 1, rx_2, upd rb rn.toNatClampNeg r_1), rfl, h, by rw [ht]; exact hP9, va_K.moved hW.alike hK, hD9⟩, hS.F ht⟩) hS.2.2 dX6_readLiteral_48
    · replace h := h.2 c_4
      refine lv_iconst (v := 5) hx hb dX6_readLiteral_25 (by decide) ?_
      have hP9 : va_P (dC, dI) vwCl [(aB, .inr (1, [.ref aBr, .int bn])), (aBr, .inl (cyI, 800, .inl br)), (aR, .inr (5, [.ref aRb, .int rn, .int rf, .int rx_2, .int rp])), (aRb, .inl (cyI, 200, .inl rb))] _ := (hP.sub [1, 2, 3, 0] rfl)
      have hD9 : va_D A [(aB, .inr (1, [.ref aBr, .int bn])), (aBr, .inl (cyI, 800, .inl br)), (aR, .inr (5, [.ref aRb, .int rn, .int rf, .int rx_2, .int rp])), (aRb, .inl (cyI, 200, .inl rb))] := (hD.sub [1, 2, 3, 0] (by decide) rfl)
      exact W.iret (v := 5) hx hb hr (fun t ht hW => ⟨⟨5, (rn, rx_2, rb), rfl, h, by rw [ht]; exact hP9, va_K.moved hW.alike hK, hD9⟩, hS.F ht⟩) hS.2.2 dX6_readLiteral_26
  · replace h := h.2 c_3
    refine lv_iconst (v := 1) hx hb dX6_readLiteral_13 (by decide) ?_
    have hP9 : va_P (dC, dI) vwCl [(aB, .inr (1, [.ref aBr, .int bn])), (aBr, .inl (cyI, 800, .inl br)), (aR, .inr (5, [.ref aRb, .int rn, .int rf, .int rx_2, .int rp])), (aRb, .inl (cyI, 200, .inl rb))] _ := (hP.sub [1, 2, 3, 0] rfl)
    have hD9 : va_D A [(aB, .inr (1, [.ref aBr, .int bn])), (aBr, .inl (cyI, 800, .inl br)), (aR, .inr (5, [.ref aRb, .int rn, .int rf, .int rx_2, .int rp])), (aRb, .inl (cyI, 200, .inl rb))] := (hD.sub [1, 2, 3, 0] (by decide) rfl)
    exact W.iret (v := 1) hx hb hr (fun t ht hW => ⟨⟨1, (rn, rx_2, rb), rfl, h, by rw [ht]; exact hP9, va_K.moved hW.alike hK, hD9⟩, hS.F ht⟩) hS.2.2 dX6_readLiteral_14
-- X6_readMatch
theorem qX6_readMatch_0 : Cond.fieldLink RX6 15 "MatchCoder$Reading" "count" "I" ∈ wsX6_readMatch := (List.mem_cons_of_mem _ (List.mem_append_left _ (List.mem_append_left _ (List.mem_of_getElem? (i := 0) rfl))))
theorem qX6_readMatch_1 : Cond.fieldLink RX6 25 "MatchCoder$Reading" "present" "I" ∈ wsX6_readMatch := (List.mem_cons_of_mem _ (List.mem_append_left _ (List.mem_append_left _ (List.mem_of_getElem? (i := 1) rfl))))
theorem inX6_readMatch_wsX60 : ∀ w ∈ wsX60, w ∈ wsX6_readMatch := fun _ h => List.mem_cons_of_mem _ (List.mem_append_left _ (List.mem_append_right _ h))
def wpX6_readMatch (bn : Int32) (br : Nat → Int32) (rn : Int32) (rx : Int32) (rp : Int32) (rb : Nat → Int32) (post : Int32 → Int32 → Int32 → Int32 → (Nat → Int32) → Prop) : Prop := wpX6_takeNumber bn br rx (fun (r_1 : Int32) (rx_2 : Int32) => (0 ≤ r_1 → (wpX6_takeNumber bn br rx_2 (fun (r_4 : Int32) (rx_5 : Int32) => (0 ≤ r_4 → ((r_1 ≤ rn → (wpX6_copy rn rb r_1 (r_4 + 1) (fun (r_8 : Int32) (rn_9 : Int32) (rb_10 : Nat → Int32) => (r_8 = 0 → (post r_8 rn_9 rx_5 r_1 rb_10)) ∧ (¬ r_8 = 0 → (post r_8 rn_9 rx_5 rp rb_10))))) ∧ (¬ r_1 ≤ rn → (post 3 rn rx_5 rp rb)))) ∧ (¬ 0 ≤ r_4 → (post (-r_4) rn rx_5 rp rb))))) ∧ (¬ 0 ≤ r_1 → (post (-r_1) rn rx_2 rp rb)))
set_option maxHeartbeats 4000000 in
set_option maxRecDepth 100000 in
theorem mtX6_readMatch (l : Launch) (dC : Nat → ClassId) (dI : Nat → Nat → Nat) (cyI : ClassId) {aB aBr aR aRb : Nat} {sz : Nat} {bn : Int32} {br : Nat → Int32} {rn : Int32} {rf : Int32} {rx : Int32} {rp : Int32} {rb : Nat → Int32} {post : Int32 → Int32 → Int32 → Int32 → (Nat → Int32) → Prop} (h : wpX6_readMatch bn br rn rx rp rb post) : Met l yX6_readMatch wsX6_readMatch ({ frames := 3, cells := 0, slots := 0, locals := 71 }) (va_Pc [.ref aR, .ref aB] (wk_B (dC, dI) [(cyI, .int)] [(aB, .inr (1, [.ref aBr, .int bn])), (aBr, .inl (cyI, 800, .inl br)), (aR, .inr (5, [.ref aRb, .int rn, .int rf, .int rx, .int rp])), (aRb, .inl (cyI, 200, .inl rb))] sz)) (va_Qi (fun (r : Int32) (u : Int32 × Int32 × Int32 × (Nat → Int32)) => post r u.1 u.2.1 u.2.2.1 u.2.2.2) (wk_C (dC, dI) [(cyI, .int)] (va_A [(aB, .inr (1, [.ref aBr, .int bn])), (aBr, .inl (cyI, 800, .inl br)), (aR, .inr (5, [.ref aRb, .int rn, .int rf, .int rx, .int rp])), (aRb, .inl (cyI, 200, .inl rb))] sz) (fun (u : Int32 × Int32 × Int32 × (Nat → Int32)) => [(aB, .inr (1, [.ref aBr, .int bn])), (aBr, .inl (cyI, 800, .inl br)), (aR, .inr (5, [.ref aRb, .int (u.1), .int rf, .int (u.2.1), .int (u.2.2.1)])), (aRb, .inl (cyI, 200, .inl (u.2.2.2)))])) (va_A [(aB, .inr (1, [.ref aBr, .int bn])), (aBr, .inl (cyI, 800, .inl br)), (aR, .inr (5, [.ref aRb, .int rn, .int rf, .int rx, .int rp])), (aRb, .inl (cyI, 200, .inl rb))] sz)) 0 0 (va_A [(aB, .inr (1, [.ref aBr, .int bn])), (aBr, .inl (cyI, 800, .inl br)), (aR, .inr (5, [.ref aRb, .int rn, .int rf, .int rx, .int rp])), (aRb, .inl (cyI, 200, .inl rb))] sz) := by
  refine Met.ofW (cc := cX6_readMatch) (maxL := 5) (ret := (some .int)) (by decide) rfl ?_
  intro p e s m args below meth c s₁ B hml hv
  obtain ⟨rfl, hsz, hP, hK, hD0⟩ := hv
  have hx := B.exec
  have hb := B.bytes
  have hr := B.returns
  have hts := atoms_spec (ws := wsX6_readMatch) B.pre
  have hown : s.vm.findClass RX6 = some m.cls := findClass_of_methodNamed B.named
  have hlocks := B.notSynchronized
  subst hsz
  have hD := hD0.self (sz := s.heap.size)
  generalize hAe : va_A [(aB, .inr (1, [.ref aBr, .int bn])), (aBr, .inl (cyI, 800, .inl br)), (aR, .inr (5, [.ref aRb, .int rn, .int rf, .int rx, .int rp])), (aRb, .inl (cyI, 200, .inl rb))] s.heap.size = A at hD ⊢
  have hA : ∀ q : Nat, s.heap.size ≤ q → A q := fun q h => by rw [← hAe]; exact Or.inr h
  have hS : va_S A s.heap s.heap [] := va_S.rf
  have hP : va_P (dC, dI) vwCl [(aB, .inr (1, [.ref aBr, .int bn])), (aBr, .inl (cyI, 800, .inl br)), (aR, .inr (5, [.ref aRb, .int rn, .int rf, .int rx, .int rp])), (aRb, .inl (cyI, 200, .inl rb))] s.heap := hP
  have hl := lv_entry ([.ref aR, .ref aB]) (n := 5) (Nat.le_of_ble_eq_true rfl)
  rw [lg_entry_eq]
  generalize (lg_sl ([.ref aR, .ref aB]) ++ List.replicate (5 - (lg_sl ([.ref aR, .ref aB])).length) Slot.unset).toArray = ls at hl ⊢
  have hl : lv_has ls 5 [(0, .ref aR), (1, .ref aB)] := hl
  have C0 : CallFix p m c cX6_readMatch 5 s ([.ref aR, .ref aB] : List Value).toArray wsX6_readMatch RX6 := ⟨hx, hb, hml, hown, hts⟩
  unfold wpX6_readMatch at h
  refine lv_aload_n hx hb dX6_readMatch_0 rfl (lv_at hl 0 rfl) ?_
  refine lv_aload_n hx hb dX6_readMatch_1 rfl (lv_at hl 1 rfl) ?_
  refine wk_calli (wc := [(aB, .inr (1, [.ref aBr, .int bn])), (aBr, .inl (cyI, 800, .inl br)), (aR, .inr (5, [.ref aRb, .int rn, .int rf, .int rx, .int rp]))]) (wr := [(aRb, .inl (cyI, 200, .inl rb))]) (va_runV (As := [.ref aB]) (rest := []) C0 (mtX6_takeNumber l dC dI cyI (aB := aB) (aBr := aBr) (aR := aR) (aRb := aRb) (sz := _) (bn := bn) (br := br) (rn := rn) (rf := rf) (rx := rx) (rp := rp) h) (cwV 1 hts gX6_readMatch_X6_takeNumber rfl rfl rfl (by decide +kernel) ⟨(Nat.le_of_ble_eq_true rfl), (Nat.le_of_ble_eq_true rfl)⟩) (wk_preV (wc := [(aB, .inr (1, [.ref aBr, .int bn])), (aBr, .inl (cyI, 800, .inl br)), (aR, .inr (5, [.ref aRb, .int rn, .int rf, .int rx, .int rp]))]) hK hP hD [0, 1, 2] rfl (by decide) (va_recv hK hP (ci := 5) (q0 := 2) rfl rfl)) rfl rfl hl.1 rfl (lv_room (Nat.le_of_ble_eq_true rfl)) dX6_readMatch_2 ⟨(Nat.le_of_ble_eq_true rfl), (Nat.le_of_ble_eq_true rfl)⟩) hP hD hS hA [0, 1, 2] [3] rfl rfl (by decide) (by decide) (fun r_1 u9 H locs h hP hD hS => ?_)
  obtain ⟨rx_2, rfl⟩ : ∃ z9, z9 = u9 := ⟨_, rfl⟩
  have hP : va_P (dC, dI) vwCl [(aRb, .inl (cyI, 200, .inl rb)), (aB, .inr (1, [.ref aBr, .int bn])), (aBr, .inl (cyI, 800, .inl br)), (aR, .inr (5, [.ref aRb, .int rn, .int rf, .int rx_2, .int rp]))] H := hP
  have hD : va_D A [(aRb, .inl (cyI, 200, .inl rb)), (aB, .inr (1, [.ref aBr, .int bn])), (aBr, .inl (cyI, 800, .inl br)), (aR, .inr (5, [.ref aRb, .int rn, .int rf, .int rx_2, .int rp]))] := hD
  refine lv_istore_n (lv' := [(2, .int r_1), (0, .ref aR), (1, .ref aB)]) hx hb dX6_readMatch_5 rfl hl (by decide) rfl (fun ls hl => ?_)
  refine lv_iload_n hx hb dX6_readMatch_6 rfl (lv_at hl 0 rfl) ?_
  refine lv_if_ge (tgt := 13) hx hb dX6_readMatch_7 (by decide) (fun c_3 => ?_) (fun c_3 => ?_)
  · replace h := h.1 c_3
    refine lv_aload_n hx hb dX6_readMatch_13 rfl (lv_at hl 1 rfl) ?_
    refine lv_aload_n hx hb dX6_readMatch_14 rfl (lv_at hl 2 rfl) ?_
    refine wk_calli (wc := [(aB, .inr (1, [.ref aBr, .int bn])), (aBr, .inl (cyI, 800, .inl br)), (aR, .inr (5, [.ref aRb, .int rn, .int rf, .int rx_2, .int rp]))]) (wr := [(aRb, .inl (cyI, 200, .inl rb))]) (va_runV (As := [.ref aB]) (rest := []) C0 (mtX6_takeNumber l dC dI cyI (aB := aB) (aBr := aBr) (aR := aR) (aRb := aRb) (sz := _) (bn := bn) (br := br) (rn := rn) (rf := rf) (rx := rx_2) (rp := rp) h) (cwV 1 hts gX6_readMatch_X6_takeNumber rfl rfl rfl (by decide +kernel) ⟨(Nat.le_of_ble_eq_true rfl), (Nat.le_of_ble_eq_true rfl)⟩) (wk_preV (wc := [(aB, .inr (1, [.ref aBr, .int bn])), (aBr, .inl (cyI, 800, .inl br)), (aR, .inr (5, [.ref aRb, .int rn, .int rf, .int rx_2, .int rp]))]) hK hP hD [1, 2, 3] rfl (by decide) (va_recv hK hP (ci := 5) (q0 := 3) rfl rfl)) rfl rfl hl.1 rfl (lv_room (Nat.le_of_ble_eq_true rfl)) dX6_readMatch_15 ⟨(Nat.le_of_ble_eq_true rfl), (Nat.le_of_ble_eq_true rfl)⟩) hP hD hS hA [1, 2, 3] [0] rfl rfl (by decide) (by decide) (fun r_4 u9 H locs h hP hD hS => ?_)
    obtain ⟨rx_5, rfl⟩ : ∃ z9, z9 = u9 := ⟨_, rfl⟩
    have hP : va_P (dC, dI) vwCl [(aRb, .inl (cyI, 200, .inl rb)), (aB, .inr (1, [.ref aBr, .int bn])), (aBr, .inl (cyI, 800, .inl br)), (aR, .inr (5, [.ref aRb, .int rn, .int rf, .int rx_5, .int rp]))] H := hP
    have hD : va_D A [(aRb, .inl (cyI, 200, .inl rb)), (aB, .inr (1, [.ref aBr, .int bn])), (aBr, .inl (cyI, 800, .inl br)), (aR, .inr (5, [.ref aRb, .int rn, .int rf, .int rx_5, .int rp]))] := hD
    refine lv_istore_n (lv' := [(3, .int r_4), (2, .int r_1), (0, .ref aR), (1, .ref aB)]) hx hb dX6_readMatch_18 rfl hl (by decide) rfl (fun ls hl => ?_)
    refine lv_iload_n hx hb dX6_readMatch_19 rfl (lv_at hl 0 rfl) ?_
    refine lv_if_ge (tgt := 26) hx hb dX6_readMatch_20 (by decide) (fun c_6 => ?_) (fun c_6 => ?_)
    · replace h := h.1 c_6
      refine lv_iload_n hx hb dX6_readMatch_26 rfl (lv_at hl 1 rfl) ?_
      refine lv_aload_n hx hb dX6_readMatch_27 rfl (lv_at hl 2 rfl) ?_
      refine va_get (D := (dC, dI)) (ci := 5) (v := .int rn) (C := RX6) (T := TX6) (N := 5) hx hb hts inX6_readMatch_wsX60 hown hK hP 3 rfl rfl 1 (by decide) (hts _ qX6_readMatch_0) (fun _ h9 => h9) rfl dX6_readMatch_28 ?_
      refine lv_icmp_le (tgt := 36) hx hb dX6_readMatch_31 (by decide) (fun c_7 => ?_) (fun c_7 => ?_)
      · replace h := h.1 c_7
        refine lv_aload_n hx hb dX6_readMatch_36 rfl (lv_at hl 2 rfl) ?_
        refine lv_iload_n hx hb dX6_readMatch_37 rfl (lv_at hl 1 rfl) ?_
        refine lv_iload_n hx hb dX6_readMatch_38 rfl (lv_at hl 0 rfl) ?_
        refine lv_iconst (v := 1) hx hb dX6_readMatch_39 (by decide) ?_
        refine lv_iadd hx hb dX6_readMatch_40 ?_
        refine wk_calli (wc := [(aR, .inr (5, [.ref aRb, .int rn, .int rf, .int rx_5, .int rp])), (aRb, .inl (cyI, 200, .inl rb))]) (wr := [(aB, .inr (1, [.ref aBr, .int bn])), (aBr, .inl (cyI, 800, .inl br))]) (va_runV (As := [.int r_1, .int (r_4 + 1)]) (rest := []) C0 (mtX6_copy l dC dI cyI (aR := aR) (aRb := aRb) (sz := _) (rn := rn) (rf := rf) (rx := rx_5) (rp := rp) (rb := rb) (v1 := r_1) (v2 := r_4 + 1) h) (cwV 2 hts gX6_readMatch_X6_copy rfl rfl rfl (by decide +kernel) ⟨(Nat.le_of_ble_eq_true rfl), (Nat.le_of_ble_eq_true rfl)⟩) (wk_preV (wc := [(aR, .inr (5, [.ref aRb, .int rn, .int rf, .int rx_5, .int rp])), (aRb, .inl (cyI, 200, .inl rb))]) hK hP hD [3, 0] rfl (by decide) (va_recv hK hP (ci := 5) (q0 := 3) rfl rfl)) rfl rfl hl.1 rfl (lv_room (Nat.le_of_ble_eq_true rfl)) dX6_readMatch_41 ⟨(Nat.le_of_ble_eq_true rfl), (Nat.le_of_ble_eq_true rfl)⟩) hP hD hS hA [3, 0] [1, 2] rfl rfl (by decide) (by decide) (fun r_8 u9 H locs h hP hD hS => ?_)
        obtain ⟨rn_9, rb_10⟩ := u9
        have hP : va_P (dC, dI) vwCl [(aB, .inr (1, [.ref aBr, .int bn])), (aBr, .inl (cyI, 800, .inl br)), (aR, .inr (5, [.ref aRb, .int rn_9, .int rf, .int rx_5, .int rp])), (aRb, .inl (cyI, 200, .inl rb_10))] H := hP
        have hD : va_D A [(aB, .inr (1, [.ref aBr, .int bn])), (aBr, .inl (cyI, 800, .inl br)), (aR, .inr (5, [.ref aRb, .int rn_9, .int rf, .int rx_5, .int rp])), (aRb, .inl (cyI, 200, .inl rb_10))] := hD
        dsimp only at h
        refine lv_istore (lv' := [(4, .int r_8), (3, .int r_4), (2, .int r_1), (0, .ref aR), (1, .ref aB)]) hx hb dX6_readMatch_44 hl (by decide) rfl (fun ls hl => ?_)
        refine lv_iload hx hb dX6_readMatch_46 (lv_at hl 0 rfl) ?_
        refine lv_if_ne (tgt := 56) hx hb dX6_readMatch_48 (by decide) (fun c_11 => ?_) (fun c_11 => ?_)
        · replace h := h.2 c_11
          refine lv_iload hx hb dX6_readMatch_56 (lv_at hl 0 rfl) ?_
          have hP9 : va_P (dC, dI) vwCl [(aB, .inr (1, [.ref aBr, .int bn])), (aBr, .inl (cyI, 800, .inl br)), (aR, .inr (5, [.ref aRb, .int rn_9, .int rf, .int rx_5, .int rp])), (aRb, .inl (cyI, 200, .inl rb_10))] _ := hP
          have hD9 : va_D A [(aB, .inr (1, [.ref aBr, .int bn])), (aBr, .inl (cyI, 800, .inl br)), (aR, .inr (5, [.ref aRb, .int rn_9, .int rf, .int rx_5, .int rp])), (aRb, .inl (cyI, 200, .inl rb_10))] := hD
          exact W.iret (v := r_8) hx hb hr (fun t ht hW => ⟨⟨r_8, (rn_9, rx_5, rp, rb_10), rfl, h, by rw [ht]; exact hP9, va_K.moved hW.alike hK, hD9⟩, hS.F ht⟩) hS.2.2 dX6_readMatch_58
        · replace h := h.1 c_11
          refine lv_aload_n hx hb dX6_readMatch_51 rfl (lv_at hl 3 rfl) ?_
          refine lv_iload_n hx hb dX6_readMatch_52 rfl (lv_at hl 2 rfl) ?_
          refine va_put (D := (dC, dI)) (ci := 5) (v := .int r_1) (ty := .int) (C := RX6) (T := TX6) (N := 5) hx hb hts inX6_readMatch_wsX60 tyX6 tyX6_ok nmX6 hown hK hP hD hS 2 rfl rfl 4 (by decide) (hts _ qX6_readMatch_1) (fun _ h9 => h9) rfl (by decide +kernel) rfl rfl (Nat.le_of_ble_eq_true rfl) dX6_readMatch_53 (fun H locs hP hD hS => ?_)
          have hP : va_P (dC, dI) vwCl [(aB, .inr (1, [.ref aBr, .int bn])), (aBr, .inl (cyI, 800, .inl br)), (aR, .inr (5, [.ref aRb, .int rn_9, .int rf, .int rx_5, .int r_1])), (aRb, .inl (cyI, 200, .inl rb_10))] H := hP
          have hD : va_D A [(aB, .inr (1, [.ref aBr, .int bn])), (aBr, .inl (cyI, 800, .inl br)), (aR, .inr (5, [.ref aRb, .int rn_9, .int rf, .int rx_5, .int r_1])), (aRb, .inl (cyI, 200, .inl rb_10))] := hD
          refine lv_iload hx hb dX6_readMatch_56 (lv_at hl 0 rfl) ?_
          have hP9 : va_P (dC, dI) vwCl [(aB, .inr (1, [.ref aBr, .int bn])), (aBr, .inl (cyI, 800, .inl br)), (aR, .inr (5, [.ref aRb, .int rn_9, .int rf, .int rx_5, .int r_1])), (aRb, .inl (cyI, 200, .inl rb_10))] _ := hP
          have hD9 : va_D A [(aB, .inr (1, [.ref aBr, .int bn])), (aBr, .inl (cyI, 800, .inl br)), (aR, .inr (5, [.ref aRb, .int rn_9, .int rf, .int rx_5, .int r_1])), (aRb, .inl (cyI, 200, .inl rb_10))] := hD
          exact W.iret (v := r_8) hx hb hr (fun t ht hW => ⟨⟨r_8, (rn_9, rx_5, r_1, rb_10), rfl, h, by rw [ht]; exact hP9, va_K.moved hW.alike hK, hD9⟩, hS.F ht⟩) hS.2.2 dX6_readMatch_58
      · replace h := h.2 c_7
        refine lv_iconst (v := 3) hx hb dX6_readMatch_34 (by decide) ?_
        have hP9 : va_P (dC, dI) vwCl [(aB, .inr (1, [.ref aBr, .int bn])), (aBr, .inl (cyI, 800, .inl br)), (aR, .inr (5, [.ref aRb, .int rn, .int rf, .int rx_5, .int rp])), (aRb, .inl (cyI, 200, .inl rb))] _ := (hP.sub [1, 2, 3, 0] rfl)
        have hD9 : va_D A [(aB, .inr (1, [.ref aBr, .int bn])), (aBr, .inl (cyI, 800, .inl br)), (aR, .inr (5, [.ref aRb, .int rn, .int rf, .int rx_5, .int rp])), (aRb, .inl (cyI, 200, .inl rb))] := (hD.sub [1, 2, 3, 0] (by decide) rfl)
        exact W.iret (v := 3) hx hb hr (fun t ht hW => ⟨⟨3, (rn, rx_5, rp, rb), rfl, h, by rw [ht]; exact hP9, va_K.moved hW.alike hK, hD9⟩, hS.F ht⟩) hS.2.2 dX6_readMatch_35
    · replace h := h.2 c_6
      refine lv_iload_n hx hb dX6_readMatch_23 rfl (lv_at hl 0 rfl) ?_
      refine lv_ineg hx hb dX6_readMatch_24 ?_
      have hP9 : va_P (dC, dI) vwCl [(aB, .inr (1, [.ref aBr, .int bn])), (aBr, .inl (cyI, 800, .inl br)), (aR, .inr (5, [.ref aRb, .int rn, .int rf, .int rx_5, .int rp])), (aRb, .inl (cyI, 200, .inl rb))] _ := (hP.sub [1, 2, 3, 0] rfl)
      have hD9 : va_D A [(aB, .inr (1, [.ref aBr, .int bn])), (aBr, .inl (cyI, 800, .inl br)), (aR, .inr (5, [.ref aRb, .int rn, .int rf, .int rx_5, .int rp])), (aRb, .inl (cyI, 200, .inl rb))] := (hD.sub [1, 2, 3, 0] (by decide) rfl)
      exact W.iret (v := -r_4) hx hb hr (fun t ht hW => ⟨⟨-r_4, (rn, rx_5, rp, rb), rfl, h, by rw [ht]; exact hP9, va_K.moved hW.alike hK, hD9⟩, hS.F ht⟩) hS.2.2 dX6_readMatch_25
  · replace h := h.2 c_3
    refine lv_iload_n hx hb dX6_readMatch_10 rfl (lv_at hl 0 rfl) ?_
    refine lv_ineg hx hb dX6_readMatch_11 ?_
    have hP9 : va_P (dC, dI) vwCl [(aB, .inr (1, [.ref aBr, .int bn])), (aBr, .inl (cyI, 800, .inl br)), (aR, .inr (5, [.ref aRb, .int rn, .int rf, .int rx_2, .int rp])), (aRb, .inl (cyI, 200, .inl rb))] _ := (hP.sub [1, 2, 3, 0] rfl)
    have hD9 : va_D A [(aB, .inr (1, [.ref aBr, .int bn])), (aBr, .inl (cyI, 800, .inl br)), (aR, .inr (5, [.ref aRb, .int rn, .int rf, .int rx_2, .int rp])), (aRb, .inl (cyI, 200, .inl rb))] := (hD.sub [1, 2, 3, 0] (by decide) rfl)
    exact W.iret (v := -r_1) hx hb hr (fun t ht hW => ⟨⟨-r_1, (rn, rx_2, rp, rb), rfl, h, by rw [ht]; exact hP9, va_K.moved hW.alike hK, hD9⟩, hS.F ht⟩) hS.2.2 dX6_readMatch_12
-- X6_readAgain
theorem qX6_readAgain_0 : Cond.fieldLink RX6 25 "MatchCoder$Reading" "present" "I" ∈ wsX6_readAgain := (List.mem_cons_of_mem _ (List.mem_append_left _ (List.mem_append_left _ (List.mem_of_getElem? (i := 0) rfl))))
theorem inX6_readAgain_wsX60 : ∀ w ∈ wsX60, w ∈ wsX6_readAgain := fun _ h => List.mem_cons_of_mem _ (List.mem_append_left _ (List.mem_append_right _ h))
def wpX6_readAgain (bn : Int32) (br : Nat → Int32) (rn : Int32) (rx : Int32) (rp : Int32) (rb : Nat → Int32) (post : Int32 → Int32 → Int32 → (Nat → Int32) → Prop) : Prop := wpX6_takeNumber bn br rx (fun (r_1 : Int32) (rx_2 : Int32) => (0 ≤ r_1 → ((rp = 0 → (post 4 rn rx_2 rb)) ∧ (¬ rp = 0 → (wpX6_copy rn rb rp r_1 (fun (r_5 : Int32) (rn_6 : Int32) (rb_7 : Nat → Int32) => post r_5 rn_6 rx_2 rb_7))))) ∧ (¬ 0 ≤ r_1 → (post (-r_1) rn rx_2 rb)))
set_option maxHeartbeats 4000000 in
set_option maxRecDepth 100000 in
theorem mtX6_readAgain (l : Launch) (dC : Nat → ClassId) (dI : Nat → Nat → Nat) (cyI : ClassId) {aB aBr aR aRb : Nat} {sz : Nat} {bn : Int32} {br : Nat → Int32} {rn : Int32} {rf : Int32} {rx : Int32} {rp : Int32} {rb : Nat → Int32} {post : Int32 → Int32 → Int32 → (Nat → Int32) → Prop} (h : wpX6_readAgain bn br rn rx rp rb post) : Met l yX6_readAgain wsX6_readAgain ({ frames := 3, cells := 0, slots := 0, locals := 71 }) (va_Pc [.ref aR, .ref aB] (wk_B (dC, dI) [(cyI, .int)] [(aB, .inr (1, [.ref aBr, .int bn])), (aBr, .inl (cyI, 800, .inl br)), (aR, .inr (5, [.ref aRb, .int rn, .int rf, .int rx, .int rp])), (aRb, .inl (cyI, 200, .inl rb))] sz)) (va_Qi (fun (r : Int32) (u : Int32 × Int32 × (Nat → Int32)) => post r u.1 u.2.1 u.2.2) (wk_C (dC, dI) [(cyI, .int)] (va_A [(aB, .inr (1, [.ref aBr, .int bn])), (aBr, .inl (cyI, 800, .inl br)), (aR, .inr (5, [.ref aRb, .int rn, .int rf, .int rx, .int rp])), (aRb, .inl (cyI, 200, .inl rb))] sz) (fun (u : Int32 × Int32 × (Nat → Int32)) => [(aB, .inr (1, [.ref aBr, .int bn])), (aBr, .inl (cyI, 800, .inl br)), (aR, .inr (5, [.ref aRb, .int (u.1), .int rf, .int (u.2.1), .int rp])), (aRb, .inl (cyI, 200, .inl (u.2.2)))])) (va_A [(aB, .inr (1, [.ref aBr, .int bn])), (aBr, .inl (cyI, 800, .inl br)), (aR, .inr (5, [.ref aRb, .int rn, .int rf, .int rx, .int rp])), (aRb, .inl (cyI, 200, .inl rb))] sz)) 0 0 (va_A [(aB, .inr (1, [.ref aBr, .int bn])), (aBr, .inl (cyI, 800, .inl br)), (aR, .inr (5, [.ref aRb, .int rn, .int rf, .int rx, .int rp])), (aRb, .inl (cyI, 200, .inl rb))] sz) := by
  refine Met.ofW (cc := cX6_readAgain) (maxL := 3) (ret := (some .int)) (by decide) rfl ?_
  intro p e s m args below meth c s₁ B hml hv
  obtain ⟨rfl, hsz, hP, hK, hD0⟩ := hv
  have hx := B.exec
  have hb := B.bytes
  have hr := B.returns
  have hts := atoms_spec (ws := wsX6_readAgain) B.pre
  have hown : s.vm.findClass RX6 = some m.cls := findClass_of_methodNamed B.named
  have hlocks := B.notSynchronized
  subst hsz
  have hD := hD0.self (sz := s.heap.size)
  generalize hAe : va_A [(aB, .inr (1, [.ref aBr, .int bn])), (aBr, .inl (cyI, 800, .inl br)), (aR, .inr (5, [.ref aRb, .int rn, .int rf, .int rx, .int rp])), (aRb, .inl (cyI, 200, .inl rb))] s.heap.size = A at hD ⊢
  have hA : ∀ q : Nat, s.heap.size ≤ q → A q := fun q h => by rw [← hAe]; exact Or.inr h
  have hS : va_S A s.heap s.heap [] := va_S.rf
  have hP : va_P (dC, dI) vwCl [(aB, .inr (1, [.ref aBr, .int bn])), (aBr, .inl (cyI, 800, .inl br)), (aR, .inr (5, [.ref aRb, .int rn, .int rf, .int rx, .int rp])), (aRb, .inl (cyI, 200, .inl rb))] s.heap := hP
  have hl := lv_entry ([.ref aR, .ref aB]) (n := 3) (Nat.le_of_ble_eq_true rfl)
  rw [lg_entry_eq]
  generalize (lg_sl ([.ref aR, .ref aB]) ++ List.replicate (3 - (lg_sl ([.ref aR, .ref aB])).length) Slot.unset).toArray = ls at hl ⊢
  have hl : lv_has ls 3 [(0, .ref aR), (1, .ref aB)] := hl
  have C0 : CallFix p m c cX6_readAgain 3 s ([.ref aR, .ref aB] : List Value).toArray wsX6_readAgain RX6 := ⟨hx, hb, hml, hown, hts⟩
  unfold wpX6_readAgain at h
  refine lv_aload_n hx hb dX6_readAgain_0 rfl (lv_at hl 0 rfl) ?_
  refine lv_aload_n hx hb dX6_readAgain_1 rfl (lv_at hl 1 rfl) ?_
  refine wk_calli (wc := [(aB, .inr (1, [.ref aBr, .int bn])), (aBr, .inl (cyI, 800, .inl br)), (aR, .inr (5, [.ref aRb, .int rn, .int rf, .int rx, .int rp]))]) (wr := [(aRb, .inl (cyI, 200, .inl rb))]) (va_runV (As := [.ref aB]) (rest := []) C0 (mtX6_takeNumber l dC dI cyI (aB := aB) (aBr := aBr) (aR := aR) (aRb := aRb) (sz := _) (bn := bn) (br := br) (rn := rn) (rf := rf) (rx := rx) (rp := rp) h) (cwV 1 hts gX6_readAgain_X6_takeNumber rfl rfl rfl (by decide +kernel) ⟨(Nat.le_of_ble_eq_true rfl), (Nat.le_of_ble_eq_true rfl)⟩) (wk_preV (wc := [(aB, .inr (1, [.ref aBr, .int bn])), (aBr, .inl (cyI, 800, .inl br)), (aR, .inr (5, [.ref aRb, .int rn, .int rf, .int rx, .int rp]))]) hK hP hD [0, 1, 2] rfl (by decide) (va_recv hK hP (ci := 5) (q0 := 2) rfl rfl)) rfl rfl hl.1 rfl (lv_room (Nat.le_of_ble_eq_true rfl)) dX6_readAgain_2 ⟨(Nat.le_of_ble_eq_true rfl), (Nat.le_of_ble_eq_true rfl)⟩) hP hD hS hA [0, 1, 2] [3] rfl rfl (by decide) (by decide) (fun r_1 u9 H locs h hP hD hS => ?_)
  obtain ⟨rx_2, rfl⟩ : ∃ z9, z9 = u9 := ⟨_, rfl⟩
  have hP : va_P (dC, dI) vwCl [(aRb, .inl (cyI, 200, .inl rb)), (aB, .inr (1, [.ref aBr, .int bn])), (aBr, .inl (cyI, 800, .inl br)), (aR, .inr (5, [.ref aRb, .int rn, .int rf, .int rx_2, .int rp]))] H := hP
  have hD : va_D A [(aRb, .inl (cyI, 200, .inl rb)), (aB, .inr (1, [.ref aBr, .int bn])), (aBr, .inl (cyI, 800, .inl br)), (aR, .inr (5, [.ref aRb, .int rn, .int rf, .int rx_2, .int rp]))] := hD
  refine lv_istore_n (lv' := [(2, .int r_1), (0, .ref aR), (1, .ref aB)]) hx hb dX6_readAgain_5 rfl hl (by decide) rfl (fun ls hl => ?_)
  refine lv_iload_n hx hb dX6_readAgain_6 rfl (lv_at hl 0 rfl) ?_
  refine lv_if_ge (tgt := 13) hx hb dX6_readAgain_7 (by decide) (fun c_3 => ?_) (fun c_3 => ?_)
  · replace h := h.1 c_3
    refine lv_aload_n hx hb dX6_readAgain_13 rfl (lv_at hl 1 rfl) ?_
    refine va_get (D := (dC, dI)) (ci := 5) (v := .int rp) (C := RX6) (T := TX6) (N := 5) hx hb hts inX6_readAgain_wsX60 hown hK hP 3 rfl rfl 4 (by decide) (hts _ qX6_readAgain_0) (fun _ h9 => h9) rfl dX6_readAgain_14 ?_
    refine lv_if_ne (tgt := 24) hx hb dX6_readAgain_17 (by decide) (fun c_4 => ?_) (fun c_4 => ?_)
    · replace h := h.2 c_4
      refine lv_aload_n hx hb dX6_readAgain_24 rfl (lv_at hl 1 rfl) ?_
      refine lv_aload_n hx hb dX6_readAgain_25 rfl (lv_at hl 1 rfl) ?_
      refine va_get (D := (dC, dI)) (ci := 5) (v := .int rp) (C := RX6) (T := TX6) (N := 5) hx hb hts inX6_readAgain_wsX60 hown hK hP 3 rfl rfl 4 (by decide) (hts _ qX6_readAgain_0) (fun _ h9 => h9) rfl dX6_readAgain_26 ?_
      refine lv_iload_n hx hb dX6_readAgain_29 rfl (lv_at hl 0 rfl) ?_
      refine wk_calli (wc := [(aR, .inr (5, [.ref aRb, .int rn, .int rf, .int rx_2, .int rp])), (aRb, .inl (cyI, 200, .inl rb))]) (wr := [(aB, .inr (1, [.ref aBr, .int bn])), (aBr, .inl (cyI, 800, .inl br))]) (va_runV (As := [.int rp, .int r_1]) (rest := []) C0 (mtX6_copy l dC dI cyI (aR := aR) (aRb := aRb) (sz := _) (rn := rn) (rf := rf) (rx := rx_2) (rp := rp) (rb := rb) (v1 := rp) (v2 := r_1) h) (cwV 2 hts gX6_readAgain_X6_copy rfl rfl rfl (by decide +kernel) ⟨(Nat.le_of_ble_eq_true rfl), (Nat.le_of_ble_eq_true rfl)⟩) (wk_preV (wc := [(aR, .inr (5, [.ref aRb, .int rn, .int rf, .int rx_2, .int rp])), (aRb, .inl (cyI, 200, .inl rb))]) hK hP hD [3, 0] rfl (by decide) (va_recv hK hP (ci := 5) (q0 := 3) rfl rfl)) rfl rfl hl.1 rfl (lv_room (Nat.le_of_ble_eq_true rfl)) dX6_readAgain_30 ⟨(Nat.le_of_ble_eq_true rfl), (Nat.le_of_ble_eq_true rfl)⟩) hP hD hS hA [3, 0] [1, 2] rfl rfl (by decide) (by decide) (fun r_5 u9 H locs h hP hD hS => ?_)
      obtain ⟨rn_6, rb_7⟩ := u9
      have hP : va_P (dC, dI) vwCl [(aB, .inr (1, [.ref aBr, .int bn])), (aBr, .inl (cyI, 800, .inl br)), (aR, .inr (5, [.ref aRb, .int rn_6, .int rf, .int rx_2, .int rp])), (aRb, .inl (cyI, 200, .inl rb_7))] H := hP
      have hD : va_D A [(aB, .inr (1, [.ref aBr, .int bn])), (aBr, .inl (cyI, 800, .inl br)), (aR, .inr (5, [.ref aRb, .int rn_6, .int rf, .int rx_2, .int rp])), (aRb, .inl (cyI, 200, .inl rb_7))] := hD
      dsimp only at h
      have hP9 : va_P (dC, dI) vwCl [(aB, .inr (1, [.ref aBr, .int bn])), (aBr, .inl (cyI, 800, .inl br)), (aR, .inr (5, [.ref aRb, .int rn_6, .int rf, .int rx_2, .int rp])), (aRb, .inl (cyI, 200, .inl rb_7))] _ := hP
      have hD9 : va_D A [(aB, .inr (1, [.ref aBr, .int bn])), (aBr, .inl (cyI, 800, .inl br)), (aR, .inr (5, [.ref aRb, .int rn_6, .int rf, .int rx_2, .int rp])), (aRb, .inl (cyI, 200, .inl rb_7))] := hD
      exact W.iret (v := r_5) hx hb hr (fun t ht hW => ⟨⟨r_5, (rn_6, rx_2, rb_7), rfl, h, by rw [ht]; exact hP9, va_K.moved hW.alike hK, hD9⟩, hS.F ht⟩) hS.2.2 dX6_readAgain_33
    · replace h := h.1 c_4
      refine lv_iconst (v := 4) hx hb dX6_readAgain_20 (by decide) ?_
      refine lv_goto (tgt := 33) hx hb dX6_readAgain_21 (by decide) ?_
      have hP9 : va_P (dC, dI) vwCl [(aB, .inr (1, [.ref aBr, .int bn])), (aBr, .inl (cyI, 800, .inl br)), (aR, .inr (5, [.ref aRb, .int rn, .int rf, .int rx_2, .int rp])), (aRb, .inl (cyI, 200, .inl rb))] _ := (hP.sub [1, 2, 3, 0] rfl)
      have hD9 : va_D A [(aB, .inr (1, [.ref aBr, .int bn])), (aBr, .inl (cyI, 800, .inl br)), (aR, .inr (5, [.ref aRb, .int rn, .int rf, .int rx_2, .int rp])), (aRb, .inl (cyI, 200, .inl rb))] := (hD.sub [1, 2, 3, 0] (by decide) rfl)
      exact W.iret (v := 4) hx hb hr (fun t ht hW => ⟨⟨4, (rn, rx_2, rb), rfl, h, by rw [ht]; exact hP9, va_K.moved hW.alike hK, hD9⟩, hS.F ht⟩) hS.2.2 dX6_readAgain_33
  · replace h := h.2 c_3
    refine lv_iload_n hx hb dX6_readAgain_10 rfl (lv_at hl 0 rfl) ?_
    refine lv_ineg hx hb dX6_readAgain_11 ?_
    have hP9 : va_P (dC, dI) vwCl [(aB, .inr (1, [.ref aBr, .int bn])), (aBr, .inl (cyI, 800, .inl br)), (aR, .inr (5, [.ref aRb, .int rn, .int rf, .int rx_2, .int rp])), (aRb, .inl (cyI, 200, .inl rb))] _ := (hP.sub [1, 2, 3, 0] rfl)
    have hD9 : va_D A [(aB, .inr (1, [.ref aBr, .int bn])), (aBr, .inl (cyI, 800, .inl br)), (aR, .inr (5, [.ref aRb, .int rn, .int rf, .int rx_2, .int rp])), (aRb, .inl (cyI, 200, .inl rb))] := (hD.sub [1, 2, 3, 0] (by decide) rfl)
    exact W.iret (v := -r_1) hx hb hr (fun t ht hW => ⟨⟨-r_1, (rn, rx_2, rb), rfl, h, by rw [ht]; exact hP9, va_K.moved hW.alike hK, hD9⟩, hS.F ht⟩) hS.2.2 dX6_readAgain_12
-- X6_readToken
def wpX6_readToken (bn : Int32) (br : Nat → Int32) (rn : Int32) (rx : Int32) (rp : Int32) (rb : Nat → Int32) (post : Int32 → Int32 → Int32 → Int32 → (Nat → Int32) → Prop) : Prop := wpX6_takeBit bn br rx (fun (r_1 : Int32) (rx_2 : Int32) => (r_1 = 0 → (wpX6_readLiteral bn br rn rx_2 rb (fun (r_17 : Int32) (rn_18 : Int32) (rx_19 : Int32) (rb_20 : Nat → Int32) => post r_17 rn_18 rx_19 rp rb_20))) ∧ (¬ r_1 = 0 → (wpX6_takeBit bn br rx_2 (fun (r_4 : Int32) (rx_5 : Int32) => (0 ≤ r_4 → ((r_4 = 0 → (wpX6_readMatch bn br rn rx_5 rp rb (fun (r_12 : Int32) (rn_13 : Int32) (rx_14 : Int32) (rp_15 : Int32) (rb_16 : Nat → Int32) => post r_12 rn_13 rx_14 rp_15 rb_16))) ∧ (¬ r_4 = 0 → (wpX6_readAgain bn br rn rx_5 rp rb (fun (r_8 : Int32) (rn_9 : Int32) (rx_10 : Int32) (rb_11 : Nat → Int32) => post r_8 rn_9 rx_10 rp rb_11))))) ∧ (¬ 0 ≤ r_4 → (post 1 rn rx_5 rp rb))))))
set_option maxHeartbeats 4000000 in
set_option maxRecDepth 100000 in
theorem mtX6_readToken (l : Launch) (dC : Nat → ClassId) (dI : Nat → Nat → Nat) (cyI : ClassId) {aB aBr aR aRb : Nat} {sz : Nat} {bn : Int32} {br : Nat → Int32} {rn : Int32} {rf : Int32} {rx : Int32} {rp : Int32} {rb : Nat → Int32} {post : Int32 → Int32 → Int32 → Int32 → (Nat → Int32) → Prop} (h : wpX6_readToken bn br rn rx rp rb post) : Met l yX6_readToken wsX6_readToken ({ frames := 4, cells := 0, slots := 0, locals := 95 }) (va_Pc [.ref aR, .ref aB] (wk_B (dC, dI) [(cyI, .int)] [(aB, .inr (1, [.ref aBr, .int bn])), (aBr, .inl (cyI, 800, .inl br)), (aR, .inr (5, [.ref aRb, .int rn, .int rf, .int rx, .int rp])), (aRb, .inl (cyI, 200, .inl rb))] sz)) (va_Qi (fun (r : Int32) (u : Int32 × Int32 × Int32 × (Nat → Int32)) => post r u.1 u.2.1 u.2.2.1 u.2.2.2) (wk_C (dC, dI) [(cyI, .int)] (va_A [(aB, .inr (1, [.ref aBr, .int bn])), (aBr, .inl (cyI, 800, .inl br)), (aR, .inr (5, [.ref aRb, .int rn, .int rf, .int rx, .int rp])), (aRb, .inl (cyI, 200, .inl rb))] sz) (fun (u : Int32 × Int32 × Int32 × (Nat → Int32)) => [(aB, .inr (1, [.ref aBr, .int bn])), (aBr, .inl (cyI, 800, .inl br)), (aR, .inr (5, [.ref aRb, .int (u.1), .int rf, .int (u.2.1), .int (u.2.2.1)])), (aRb, .inl (cyI, 200, .inl (u.2.2.2)))])) (va_A [(aB, .inr (1, [.ref aBr, .int bn])), (aBr, .inl (cyI, 800, .inl br)), (aR, .inr (5, [.ref aRb, .int rn, .int rf, .int rx, .int rp])), (aRb, .inl (cyI, 200, .inl rb))] sz)) 0 0 (va_A [(aB, .inr (1, [.ref aBr, .int bn])), (aBr, .inl (cyI, 800, .inl br)), (aR, .inr (5, [.ref aRb, .int rn, .int rf, .int rx, .int rp])), (aRb, .inl (cyI, 200, .inl rb))] sz) := by
  refine Met.ofW (cc := cX6_readToken) (maxL := 4) (ret := (some .int)) (by decide) rfl ?_
  intro p e s m args below meth c s₁ B hml hv
  obtain ⟨rfl, hsz, hP, hK, hD0⟩ := hv
  have hx := B.exec
  have hb := B.bytes
  have hr := B.returns
  have hts := atoms_spec (ws := wsX6_readToken) B.pre
  have hown : s.vm.findClass RX6 = some m.cls := findClass_of_methodNamed B.named
  have hlocks := B.notSynchronized
  subst hsz
  have hD := hD0.self (sz := s.heap.size)
  generalize hAe : va_A [(aB, .inr (1, [.ref aBr, .int bn])), (aBr, .inl (cyI, 800, .inl br)), (aR, .inr (5, [.ref aRb, .int rn, .int rf, .int rx, .int rp])), (aRb, .inl (cyI, 200, .inl rb))] s.heap.size = A at hD ⊢
  have hA : ∀ q : Nat, s.heap.size ≤ q → A q := fun q h => by rw [← hAe]; exact Or.inr h
  have hS : va_S A s.heap s.heap [] := va_S.rf
  have hP : va_P (dC, dI) vwCl [(aB, .inr (1, [.ref aBr, .int bn])), (aBr, .inl (cyI, 800, .inl br)), (aR, .inr (5, [.ref aRb, .int rn, .int rf, .int rx, .int rp])), (aRb, .inl (cyI, 200, .inl rb))] s.heap := hP
  have hl := lv_entry ([.ref aR, .ref aB]) (n := 4) (Nat.le_of_ble_eq_true rfl)
  rw [lg_entry_eq]
  generalize (lg_sl ([.ref aR, .ref aB]) ++ List.replicate (4 - (lg_sl ([.ref aR, .ref aB])).length) Slot.unset).toArray = ls at hl ⊢
  have hl : lv_has ls 4 [(0, .ref aR), (1, .ref aB)] := hl
  have C0 : CallFix p m c cX6_readToken 4 s ([.ref aR, .ref aB] : List Value).toArray wsX6_readToken RX6 := ⟨hx, hb, hml, hown, hts⟩
  unfold wpX6_readToken at h
  refine lv_aload_n hx hb dX6_readToken_0 rfl (lv_at hl 0 rfl) ?_
  refine lv_aload_n hx hb dX6_readToken_1 rfl (lv_at hl 1 rfl) ?_
  refine wk_calli (wc := [(aB, .inr (1, [.ref aBr, .int bn])), (aBr, .inl (cyI, 800, .inl br)), (aR, .inr (5, [.ref aRb, .int rn, .int rf, .int rx, .int rp]))]) (wr := [(aRb, .inl (cyI, 200, .inl rb))]) (va_runV (As := [.ref aB]) (rest := []) C0 (mtX6_takeBit l dC dI cyI (aB := aB) (aBr := aBr) (aR := aR) (aRb := aRb) (sz := _) (bn := bn) (br := br) (rn := rn) (rf := rf) (rx := rx) (rp := rp) h) (cwV 1 hts gX6_readToken_X6_takeBit rfl rfl rfl (by decide +kernel) ⟨(Nat.le_of_ble_eq_true rfl), (Nat.le_of_ble_eq_true rfl)⟩) (wk_preV (wc := [(aB, .inr (1, [.ref aBr, .int bn])), (aBr, .inl (cyI, 800, .inl br)), (aR, .inr (5, [.ref aRb, .int rn, .int rf, .int rx, .int rp]))]) hK hP hD [0, 1, 2] rfl (by decide) (va_recv hK hP (ci := 5) (q0 := 2) rfl rfl)) rfl rfl hl.1 rfl (lv_room (Nat.le_of_ble_eq_true rfl)) dX6_readToken_2 ⟨(Nat.le_of_ble_eq_true rfl), (Nat.le_of_ble_eq_true rfl)⟩) hP hD hS hA [0, 1, 2] [3] rfl rfl (by decide) (by decide) (fun r_1 u9 H locs h hP hD hS => ?_)
  obtain ⟨rx_2, rfl⟩ : ∃ z9, z9 = u9 := ⟨_, rfl⟩
  have hP : va_P (dC, dI) vwCl [(aRb, .inl (cyI, 200, .inl rb)), (aB, .inr (1, [.ref aBr, .int bn])), (aBr, .inl (cyI, 800, .inl br)), (aR, .inr (5, [.ref aRb, .int rn, .int rf, .int rx_2, .int rp]))] H := hP
  have hD : va_D A [(aRb, .inl (cyI, 200, .inl rb)), (aB, .inr (1, [.ref aBr, .int bn])), (aBr, .inl (cyI, 800, .inl br)), (aR, .inr (5, [.ref aRb, .int rn, .int rf, .int rx_2, .int rp]))] := hD
  refine lv_istore_n (lv' := [(2, .int r_1), (0, .ref aR), (1, .ref aB)]) hx hb dX6_readToken_5 rfl hl (by decide) rfl (fun ls hl => ?_)
  refine lv_iload_n hx hb dX6_readToken_6 rfl (lv_at hl 0 rfl) ?_
  refine lv_if_ne (tgt := 16) hx hb dX6_readToken_7 (by decide) (fun c_3 => ?_) (fun c_3 => ?_)
  · replace h := h.2 c_3
    refine lv_aload_n hx hb dX6_readToken_16 rfl (lv_at hl 1 rfl) ?_
    refine lv_aload_n hx hb dX6_readToken_17 rfl (lv_at hl 2 rfl) ?_
    refine wk_calli (wc := [(aB, .inr (1, [.ref aBr, .int bn])), (aBr, .inl (cyI, 800, .inl br)), (aR, .inr (5, [.ref aRb, .int rn, .int rf, .int rx_2, .int rp]))]) (wr := [(aRb, .inl (cyI, 200, .inl rb))]) (va_runV (As := [.ref aB]) (rest := []) C0 (mtX6_takeBit l dC dI cyI (aB := aB) (aBr := aBr) (aR := aR) (aRb := aRb) (sz := _) (bn := bn) (br := br) (rn := rn) (rf := rf) (rx := rx_2) (rp := rp) h) (cwV 1 hts gX6_readToken_X6_takeBit rfl rfl rfl (by decide +kernel) ⟨(Nat.le_of_ble_eq_true rfl), (Nat.le_of_ble_eq_true rfl)⟩) (wk_preV (wc := [(aB, .inr (1, [.ref aBr, .int bn])), (aBr, .inl (cyI, 800, .inl br)), (aR, .inr (5, [.ref aRb, .int rn, .int rf, .int rx_2, .int rp]))]) hK hP hD [1, 2, 3] rfl (by decide) (va_recv hK hP (ci := 5) (q0 := 3) rfl rfl)) rfl rfl hl.1 rfl (lv_room (Nat.le_of_ble_eq_true rfl)) dX6_readToken_18 ⟨(Nat.le_of_ble_eq_true rfl), (Nat.le_of_ble_eq_true rfl)⟩) hP hD hS hA [1, 2, 3] [0] rfl rfl (by decide) (by decide) (fun r_4 u9 H locs h hP hD hS => ?_)
    obtain ⟨rx_5, rfl⟩ : ∃ z9, z9 = u9 := ⟨_, rfl⟩
    have hP : va_P (dC, dI) vwCl [(aRb, .inl (cyI, 200, .inl rb)), (aB, .inr (1, [.ref aBr, .int bn])), (aBr, .inl (cyI, 800, .inl br)), (aR, .inr (5, [.ref aRb, .int rn, .int rf, .int rx_5, .int rp]))] H := hP
    have hD : va_D A [(aRb, .inl (cyI, 200, .inl rb)), (aB, .inr (1, [.ref aBr, .int bn])), (aBr, .inl (cyI, 800, .inl br)), (aR, .inr (5, [.ref aRb, .int rn, .int rf, .int rx_5, .int rp]))] := hD
    refine lv_istore_n (lv' := [(3, .int r_4), (2, .int r_1), (0, .ref aR), (1, .ref aB)]) hx hb dX6_readToken_21 rfl hl (by decide) rfl (fun ls hl => ?_)
    refine lv_iload_n hx hb dX6_readToken_22 rfl (lv_at hl 0 rfl) ?_
    refine lv_if_ge (tgt := 28) hx hb dX6_readToken_23 (by decide) (fun c_6 => ?_) (fun c_6 => ?_)
    · replace h := h.1 c_6
      refine lv_iload_n hx hb dX6_readToken_28 rfl (lv_at hl 0 rfl) ?_
      refine lv_if_ne (tgt := 40) hx hb dX6_readToken_29 (by decide) (fun c_7 => ?_) (fun c_7 => ?_)
      · replace h := h.2 c_7
        refine lv_aload_n hx hb dX6_readToken_40 rfl (lv_at hl 2 rfl) ?_
        refine lv_aload_n hx hb dX6_readToken_41 rfl (lv_at hl 3 rfl) ?_
        refine wk_calli (wc := [(aB, .inr (1, [.ref aBr, .int bn])), (aBr, .inl (cyI, 800, .inl br)), (aR, .inr (5, [.ref aRb, .int rn, .int rf, .int rx_5, .int rp])), (aRb, .inl (cyI, 200, .inl rb))]) (wr := []) (va_runV (As := [.ref aB]) (rest := []) C0 (mtX6_readAgain l dC dI cyI (aB := aB) (aBr := aBr) (aR := aR) (aRb := aRb) (sz := _) (bn := bn) (br := br) (rn := rn) (rf := rf) (rx := rx_5) (rp := rp) (rb := rb) h) (cwV 1 hts gX6_readToken_X6_readAgain rfl rfl rfl (by decide +kernel) ⟨(Nat.le_of_ble_eq_true rfl), (Nat.le_of_ble_eq_true rfl)⟩) (wk_preV (wc := [(aB, .inr (1, [.ref aBr, .int bn])), (aBr, .inl (cyI, 800, .inl br)), (aR, .inr (5, [.ref aRb, .int rn, .int rf, .int rx_5, .int rp])), (aRb, .inl (cyI, 200, .inl rb))]) hK hP hD [1, 2, 3, 0] rfl (by decide) (va_recv hK hP (ci := 5) (q0 := 3) rfl rfl)) rfl rfl hl.1 rfl (lv_room (Nat.le_of_ble_eq_true rfl)) dX6_readToken_42 ⟨(Nat.le_of_ble_eq_true rfl), (Nat.le_of_ble_eq_true rfl)⟩) hP hD hS hA [1, 2, 3, 0] [] rfl rfl (by decide) (by decide) (fun r_8 u9 H locs h hP hD hS => ?_)
        obtain ⟨rn_9, rx_10, rb_11⟩ := u9
        have hP : va_P (dC, dI) vwCl [(aB, .inr (1, [.ref aBr, .int bn])), (aBr, .inl (cyI, 800, .inl br)), (aR, .inr (5, [.ref aRb, .int rn_9, .int rf, .int rx_10, .int rp])), (aRb, .inl (cyI, 200, .inl rb_11))] H := hP
        have hD : va_D A [(aB, .inr (1, [.ref aBr, .int bn])), (aBr, .inl (cyI, 800, .inl br)), (aR, .inr (5, [.ref aRb, .int rn_9, .int rf, .int rx_10, .int rp])), (aRb, .inl (cyI, 200, .inl rb_11))] := hD
        dsimp only at h
        have hP9 : va_P (dC, dI) vwCl [(aB, .inr (1, [.ref aBr, .int bn])), (aBr, .inl (cyI, 800, .inl br)), (aR, .inr (5, [.ref aRb, .int rn_9, .int rf, .int rx_10, .int rp])), (aRb, .inl (cyI, 200, .inl rb_11))] _ := hP
        have hD9 : va_D A [(aB, .inr (1, [.ref aBr, .int bn])), (aBr, .inl (cyI, 800, .inl br)), (aR, .inr (5, [.ref aRb, .int rn_9, .int rf, .int rx_10, .int rp])), (aRb, .inl (cyI, 200, .inl rb_11))] := hD
        exact W.iret (v := r_8) hx hb hr (fun t ht hW => ⟨⟨r_8, (rn_9, rx_10, rp, rb_11), rfl, h, by rw [ht]; exact hP9, va_K.moved hW.alike hK, hD9⟩, hS.F ht⟩) hS.2.2 dX6_readToken_45
      · replace h := h.1 c_7
        refine lv_aload_n hx hb dX6_readToken_32 rfl (lv_at hl 2 rfl) ?_
        refine lv_aload_n hx hb dX6_readToken_33 rfl (lv_at hl 3 rfl) ?_
        refine wk_calli (wc := [(aB, .inr (1, [.ref aBr, .int bn])), (aBr, .inl (cyI, 800, .inl br)), (aR, .inr (5, [.ref aRb, .int rn, .int rf, .int rx_5, .int rp])), (aRb, .inl (cyI, 200, .inl rb))]) (wr := []) (va_runV (As := [.ref aB]) (rest := []) C0 (mtX6_readMatch l dC dI cyI (aB := aB) (aBr := aBr) (aR := aR) (aRb := aRb) (sz := _) (bn := bn) (br := br) (rn := rn) (rf := rf) (rx := rx_5) (rp := rp) (rb := rb) h) (cwV 1 hts gX6_readToken_X6_readMatch rfl rfl rfl (by decide +kernel) ⟨(Nat.le_of_ble_eq_true rfl), (Nat.le_of_ble_eq_true rfl)⟩) (wk_preV (wc := [(aB, .inr (1, [.ref aBr, .int bn])), (aBr, .inl (cyI, 800, .inl br)), (aR, .inr (5, [.ref aRb, .int rn, .int rf, .int rx_5, .int rp])), (aRb, .inl (cyI, 200, .inl rb))]) hK hP hD [1, 2, 3, 0] rfl (by decide) (va_recv hK hP (ci := 5) (q0 := 3) rfl rfl)) rfl rfl hl.1 rfl (lv_room (Nat.le_of_ble_eq_true rfl)) dX6_readToken_34 ⟨(Nat.le_of_ble_eq_true rfl), (Nat.le_of_ble_eq_true rfl)⟩) hP hD hS hA [1, 2, 3, 0] [] rfl rfl (by decide) (by decide) (fun r_12 u9 H locs h hP hD hS => ?_)
        obtain ⟨rn_13, rx_14, rp_15, rb_16⟩ := u9
        have hP : va_P (dC, dI) vwCl [(aB, .inr (1, [.ref aBr, .int bn])), (aBr, .inl (cyI, 800, .inl br)), (aR, .inr (5, [.ref aRb, .int rn_13, .int rf, .int rx_14, .int rp_15])), (aRb, .inl (cyI, 200, .inl rb_16))] H := hP
        have hD : va_D A [(aB, .inr (1, [.ref aBr, .int bn])), (aBr, .inl (cyI, 800, .inl br)), (aR, .inr (5, [.ref aRb, .int rn_13, .int rf, .int rx_14, .int rp_15])), (aRb, .inl (cyI, 200, .inl rb_16))] := hD
        dsimp only at h
        refine lv_goto (tgt := 45) hx hb dX6_readToken_37 (by decide) ?_
        have hP9 : va_P (dC, dI) vwCl [(aB, .inr (1, [.ref aBr, .int bn])), (aBr, .inl (cyI, 800, .inl br)), (aR, .inr (5, [.ref aRb, .int rn_13, .int rf, .int rx_14, .int rp_15])), (aRb, .inl (cyI, 200, .inl rb_16))] _ := hP
        have hD9 : va_D A [(aB, .inr (1, [.ref aBr, .int bn])), (aBr, .inl (cyI, 800, .inl br)), (aR, .inr (5, [.ref aRb, .int rn_13, .int rf, .int rx_14, .int rp_15])), (aRb, .inl (cyI, 200, .inl rb_16))] := hD
        exact W.iret (v := r_12) hx hb hr (fun t ht hW => ⟨⟨r_12, (rn_13, rx_14, rp_15, rb_16), rfl, h, by rw [ht]; exact hP9, va_K.moved hW.alike hK, hD9⟩, hS.F ht⟩) hS.2.2 dX6_readToken_45
    · replace h := h.2 c_6
      refine lv_iconst (v := 1) hx hb dX6_readToken_26 (by decide) ?_
      have hP9 : va_P (dC, dI) vwCl [(aB, .inr (1, [.ref aBr, .int bn])), (aBr, .inl (cyI, 800, .inl br)), (aR, .inr (5, [.ref aRb, .int rn, .int rf, .int rx_5, .int rp])), (aRb, .inl (cyI, 200, .inl rb))] _ := (hP.sub [1, 2, 3, 0] rfl)
      have hD9 : va_D A [(aB, .inr (1, [.ref aBr, .int bn])), (aBr, .inl (cyI, 800, .inl br)), (aR, .inr (5, [.ref aRb, .int rn, .int rf, .int rx_5, .int rp])), (aRb, .inl (cyI, 200, .inl rb))] := (hD.sub [1, 2, 3, 0] (by decide) rfl)
      exact W.iret (v := 1) hx hb hr (fun t ht hW => ⟨⟨1, (rn, rx_5, rp, rb), rfl, h, by rw [ht]; exact hP9, va_K.moved hW.alike hK, hD9⟩, hS.F ht⟩) hS.2.2 dX6_readToken_27
  · replace h := h.1 c_3
    refine lv_aload_n hx hb dX6_readToken_10 rfl (lv_at hl 1 rfl) ?_
    refine lv_aload_n hx hb dX6_readToken_11 rfl (lv_at hl 2 rfl) ?_
    refine wk_calli (wc := [(aB, .inr (1, [.ref aBr, .int bn])), (aBr, .inl (cyI, 800, .inl br)), (aR, .inr (5, [.ref aRb, .int rn, .int rf, .int rx_2, .int rp])), (aRb, .inl (cyI, 200, .inl rb))]) (wr := []) (va_runV (As := [.ref aB]) (rest := []) C0 (mtX6_readLiteral l dC dI cyI (aB := aB) (aBr := aBr) (aR := aR) (aRb := aRb) (sz := _) (bn := bn) (br := br) (rn := rn) (rf := rf) (rx := rx_2) (rp := rp) (rb := rb) h) (cwV 1 hts gX6_readToken_X6_readLiteral rfl rfl rfl (by decide +kernel) ⟨(Nat.le_of_ble_eq_true rfl), (Nat.le_of_ble_eq_true rfl)⟩) (wk_preV (wc := [(aB, .inr (1, [.ref aBr, .int bn])), (aBr, .inl (cyI, 800, .inl br)), (aR, .inr (5, [.ref aRb, .int rn, .int rf, .int rx_2, .int rp])), (aRb, .inl (cyI, 200, .inl rb))]) hK hP hD [1, 2, 3, 0] rfl (by decide) (va_recv hK hP (ci := 5) (q0 := 3) rfl rfl)) rfl rfl hl.1 rfl (lv_room (Nat.le_of_ble_eq_true rfl)) dX6_readToken_12 ⟨(Nat.le_of_ble_eq_true rfl), (Nat.le_of_ble_eq_true rfl)⟩) hP hD hS hA [1, 2, 3, 0] [] rfl rfl (by decide) (by decide) (fun r_17 u9 H locs h hP hD hS => ?_)
    obtain ⟨rn_18, rx_19, rb_20⟩ := u9
    have hP : va_P (dC, dI) vwCl [(aB, .inr (1, [.ref aBr, .int bn])), (aBr, .inl (cyI, 800, .inl br)), (aR, .inr (5, [.ref aRb, .int rn_18, .int rf, .int rx_19, .int rp])), (aRb, .inl (cyI, 200, .inl rb_20))] H := hP
    have hD : va_D A [(aB, .inr (1, [.ref aBr, .int bn])), (aBr, .inl (cyI, 800, .inl br)), (aR, .inr (5, [.ref aRb, .int rn_18, .int rf, .int rx_19, .int rp])), (aRb, .inl (cyI, 200, .inl rb_20))] := hD
    dsimp only at h
    have hP9 : va_P (dC, dI) vwCl [(aB, .inr (1, [.ref aBr, .int bn])), (aBr, .inl (cyI, 800, .inl br)), (aR, .inr (5, [.ref aRb, .int rn_18, .int rf, .int rx_19, .int rp])), (aRb, .inl (cyI, 200, .inl rb_20))] _ := hP
    have hD9 : va_D A [(aB, .inr (1, [.ref aBr, .int bn])), (aBr, .inl (cyI, 800, .inl br)), (aR, .inr (5, [.ref aRb, .int rn_18, .int rf, .int rx_19, .int rp])), (aRb, .inl (cyI, 200, .inl rb_20))] := hD
    exact W.iret (v := r_17) hx hb hr (fun t ht hW => ⟨⟨r_17, (rn_18, rx_19, rp, rb_20), rfl, h, by rw [ht]; exact hP9, va_K.moved hW.alike hK, hD9⟩, hS.F ht⟩) hS.2.2 dX6_readToken_15
-- X6_readAll
theorem qX6_readAll_0 : Cond.fieldLink RX6 15 "MatchCoder$Reading" "count" "I" ∈ wsX6_readAll := (List.mem_cons_of_mem _ (List.mem_append_left _ (List.mem_append_left _ (List.mem_append_left _ (List.mem_of_getElem? (i := 0) rfl)))))
theorem qX6_readAll_1 : Cond.fieldLink RX6 19 "MatchCoder$Reading" "failedAt" "I" ∈ wsX6_readAll := (List.mem_cons_of_mem _ (List.mem_append_left _ (List.mem_append_left _ (List.mem_append_left _ (List.mem_of_getElem? (i := 1) rfl)))))
theorem qX6_readAll_2 : Cond.fieldLink RX6 22 "MatchCoder$Reading" "next" "I" ∈ wsX6_readAll := (List.mem_cons_of_mem _ (List.mem_append_left _ (List.mem_append_left _ (List.mem_append_left _ (List.mem_of_getElem? (i := 2) rfl)))))
theorem qX6_readAll_3 : Cond.fieldLink RX6 25 "MatchCoder$Reading" "present" "I" ∈ wsX6_readAll := (List.mem_cons_of_mem _ (List.mem_append_left _ (List.mem_append_left _ (List.mem_append_left _ (List.mem_of_getElem? (i := 3) rfl)))))
theorem qX6_readAll_4 : Cond.fieldLink RX6 28 "MatchCoder$Bits" "count" "I" ∈ wsX6_readAll := (List.mem_cons_of_mem _ (List.mem_append_left _ (List.mem_append_left _ (List.mem_append_left _ (List.mem_of_getElem? (i := 4) rfl)))))
theorem inX6_readAll_wsX60 : ∀ w ∈ wsX60, w ∈ wsX6_readAll := fun _ h => List.mem_cons_of_mem _ (List.mem_append_left _ (List.mem_append_right _ h))
theorem inX6_readAll_wsX10 : ∀ w ∈ wsX10, w ∈ wsX6_readAll := fun _ h => List.mem_cons_of_mem _ (List.mem_append_right _ h)
def wpX6_readAll_22 (bn : Int32) (br : Nat → Int32) (K57 : Int32 → Int32 → Int32 → Int32 → Int32 → (Nat → Int32) → Prop) (K71 : Int32 → Int32 → Int32 → (Nat → Int32) → Prop) : Nat → Int32 → Int32 → Int32 → Int32 → (Nat → Int32) → Prop
  | 0, _, _, _, _, _ => False
  | n22 + 1, v2, rn, rx, rp, rb => (800 ≤ v2 → (K71 rn rx rp rb)) ∧ (¬ 800 ≤ v2 → ((bn ≤ rx → (K71 rn rx rp rb)) ∧ (¬ bn ≤ rx → (wpX6_readToken bn br rn rx rp rb (fun (r_3 : Int32) (rn_4 : Int32) (rx_5 : Int32) (rp_6 : Int32) (rb_7 : Nat → Int32) => (r_3 = 0 → (wpX6_readAll_22 bn br K57 K71 n22 (v2 + 1) rn_4 rx_5 rp_6 rb_7)) ∧ (¬ r_3 = 0 → (K57 rx r_3 rn_4 rx_5 rp_6 rb_7)))))))
set_option maxHeartbeats 4000000 in
set_option maxRecDepth 100000 in
theorem wlX6_readAll_22 {p : Program} {l : Launch} {e : Env} {s : State} {m : MethodId} {args : Array Value} {below : List Frame} {meth : Method} {c : Code} {A : Nat → Prop} {Q : State → Prop} {dC : Nat → ClassId} {dI : Nat → Nat → Nat} {cyI : ClassId} {aB aBr aR aRb : Nat} {bn : Int32} {br : Nat → Int32} {rf : Int32} {K57 : Int32 → Int32 → Int32 → Int32 → Int32 → (Nat → Int32) → Prop} {K71 : Int32 → Int32 → Int32 → (Nat → Int32) → Prop} (C0 : CallFix p m c cX6_readAll 5 s args wsX6_readAll RX6) (hA : ∀ q : Nat, s.heap.size ≤ q → A q) (hK : va_K (dC, dI) vwCl [(cyI, .int)] s) (hK57 : ∀ (v3 : Int32) (v4 : Int32) (rn : Int32) (rx : Int32) (rp : Int32) (rb : Nat → Int32), K57 v3 v4 rn rx rp rb → ∀ (H : Heap) (locs : List Loc) (ls : Array Slot), va_P (dC, dI) vwCl [(aB, .inr (1, [.ref aBr, .int bn])), (aBr, .inl (cyI, 800, .inl br)), (aR, .inr (5, [.ref aRb, .int rn, .int rf, .int rx, .int rp])), (aRb, .inl (cyI, 200, .inl rb))] H → va_D A [(aB, .inr (1, [.ref aBr, .int bn])), (aBr, .inl (cyI, 800, .inl br)), (aR, .inr (5, [.ref aRb, .int rn, .int rf, .int rx, .int rp])), (aRb, .inl (cyI, 200, .inl rb))] → va_S A s.heap H locs → lv_has ls 5 [(0, .ref aR), (3, .int v3), (4, .int v4)] → W p l e ({ frames := 5, cells := 0, slots := 0, locals := 118 } : Room) s m args below meth c H locs 0 0 Q (F0 m 57 ls [])) (hK71 : ∀ (rn : Int32) (rx : Int32) (rp : Int32) (rb : Nat → Int32), K71 rn rx rp rb → ∀ (H : Heap) (locs : List Loc) (ls : Array Slot), va_P (dC, dI) vwCl [(aB, .inr (1, [.ref aBr, .int bn])), (aBr, .inl (cyI, 800, .inl br)), (aR, .inr (5, [.ref aRb, .int rn, .int rf, .int rx, .int rp])), (aRb, .inl (cyI, 200, .inl rb))] H → va_D A [(aB, .inr (1, [.ref aBr, .int bn])), (aBr, .inl (cyI, 800, .inl br)), (aR, .inr (5, [.ref aRb, .int rn, .int rf, .int rx, .int rp])), (aRb, .inl (cyI, 200, .inl rb))] → va_S A s.heap H locs → lv_has ls 5 [] → W p l e ({ frames := 5, cells := 0, slots := 0, locals := 118 } : Room) s m args below meth c H locs 0 0 Q (F0 m 71 ls [])) :
    ∀ (n22 : Nat) (v2 : Int32) (rn : Int32) (rx : Int32) (rp : Int32) (rb : Nat → Int32), wpX6_readAll_22 bn br K57 K71 n22 v2 rn rx rp rb → ∀ (H : Heap) (locs : List Loc) (ls : Array Slot), va_P (dC, dI) vwCl [(aB, .inr (1, [.ref aBr, .int bn])), (aBr, .inl (cyI, 800, .inl br)), (aR, .inr (5, [.ref aRb, .int rn, .int rf, .int rx, .int rp])), (aRb, .inl (cyI, 200, .inl rb))] H → va_D A [(aB, .inr (1, [.ref aBr, .int bn])), (aBr, .inl (cyI, 800, .inl br)), (aR, .inr (5, [.ref aRb, .int rn, .int rf, .int rx, .int rp])), (aRb, .inl (cyI, 200, .inl rb))] → va_S A s.heap H locs → lv_has ls 5 [(0, .ref aR), (1, .ref aB), (2, .int v2)] → W p l e ({ frames := 5, cells := 0, slots := 0, locals := 118 } : Room) s m args below meth c H locs 0 0 Q (F0 m 22 ls []) := by
  obtain ⟨hx, hb, hml, hown, hts⟩ := id C0
  intro n22
  induction n22 with
  | zero => intro _ _ _ _ _ h; exact h.elim
  | succ n22 ih22 =>
    intro v2 rn rx rp rb h H locs ls hP hD hS hl
    rw [wpX6_readAll_22] at h
    refine lv_iload_n hx hb dX6_readAll_22 rfl (lv_at hl 2 rfl) ?_
    refine lv_sipush (v := 800) hx hb dX6_readAll_23 (by decide) ?_
    refine lv_icmp_ge (tgt := 71) hx hb dX6_readAll_26 (by decide) (fun c_1 => ?_) (fun c_1 => ?_)
    · replace h := h.1 c_1
      exact hK71 _ _ _ _ h _ _ _ hP hD hS (lv_sub hl [] rfl)
    · replace h := h.2 c_1
      refine lv_aload_n hx hb dX6_readAll_29 rfl (lv_at hl 0 rfl) ?_
      refine va_get (D := (dC, dI)) (ci := 5) (v := .int rx) (C := RX6) (T := TX6) (N := 5) hx hb hts inX6_readAll_wsX60 hown hK hP 2 rfl rfl 3 (by decide) (hts _ qX6_readAll_2) (fun _ h9 => h9) rfl dX6_readAll_30 ?_
      refine lv_aload_n hx hb dX6_readAll_33 rfl (lv_at hl 1 rfl) ?_
      refine va_get (D := (dC, dI)) (ci := 1) (v := .int bn) (C := RX1) (T := TX1) (N := 2) hx hb hts inX6_readAll_wsX10 hown hK hP 0 rfl rfl 1 (by decide) (hts _ qX6_readAll_4) (fun _ h9 => h9) rfl dX6_readAll_34 ?_
      refine lv_icmp_ge (tgt := 71) hx hb dX6_readAll_37 (by decide) (fun c_2 => ?_) (fun c_2 => ?_)
      · replace h := h.1 c_2
        exact hK71 _ _ _ _ h _ _ _ hP hD hS (lv_sub hl [] rfl)
      · replace h := h.2 c_2
        refine lv_aload_n hx hb dX6_readAll_40 rfl (lv_at hl 0 rfl) ?_
        refine va_get (D := (dC, dI)) (ci := 5) (v := .int rx) (C := RX6) (T := TX6) (N := 5) hx hb hts inX6_readAll_wsX60 hown hK hP 2 rfl rfl 3 (by decide) (hts _ qX6_readAll_2) (fun _ h9 => h9) rfl dX6_readAll_41 ?_
        refine lv_istore_n (lv' := [(3, .int rx), (0, .ref aR), (1, .ref aB), (2, .int v2)]) hx hb dX6_readAll_44 rfl hl (by decide) rfl (fun ls hl => ?_)
        refine lv_aload_n hx hb dX6_readAll_45 rfl (lv_at hl 1 rfl) ?_
        refine lv_aload_n hx hb dX6_readAll_46 rfl (lv_at hl 2 rfl) ?_
        refine wk_calli (wc := [(aB, .inr (1, [.ref aBr, .int bn])), (aBr, .inl (cyI, 800, .inl br)), (aR, .inr (5, [.ref aRb, .int rn, .int rf, .int rx, .int rp])), (aRb, .inl (cyI, 200, .inl rb))]) (wr := []) (va_runV (As := [.ref aB]) (rest := []) C0 (mtX6_readToken l dC dI cyI (aB := aB) (aBr := aBr) (aR := aR) (aRb := aRb) (sz := _) (bn := bn) (br := br) (rn := rn) (rf := rf) (rx := rx) (rp := rp) (rb := rb) h) (cwV 1 hts gX6_readAll_X6_readToken rfl rfl rfl (by decide +kernel) ⟨(Nat.le_of_ble_eq_true rfl), (Nat.le_of_ble_eq_true rfl)⟩) (wk_preV (wc := [(aB, .inr (1, [.ref aBr, .int bn])), (aBr, .inl (cyI, 800, .inl br)), (aR, .inr (5, [.ref aRb, .int rn, .int rf, .int rx, .int rp])), (aRb, .inl (cyI, 200, .inl rb))]) hK hP hD [0, 1, 2, 3] rfl (by decide) (va_recv hK hP (ci := 5) (q0 := 2) rfl rfl)) rfl rfl hl.1 rfl (lv_room (Nat.le_of_ble_eq_true rfl)) dX6_readAll_47 ⟨(Nat.le_of_ble_eq_true rfl), (Nat.le_of_ble_eq_true rfl)⟩) hP hD hS hA [0, 1, 2, 3] [] rfl rfl (by decide) (by decide) (fun r_3 u9 H locs h hP hD hS => ?_)
        obtain ⟨rn_4, rx_5, rp_6, rb_7⟩ := u9
        have hP : va_P (dC, dI) vwCl [(aB, .inr (1, [.ref aBr, .int bn])), (aBr, .inl (cyI, 800, .inl br)), (aR, .inr (5, [.ref aRb, .int rn_4, .int rf, .int rx_5, .int rp_6])), (aRb, .inl (cyI, 200, .inl rb_7))] H := hP
        have hD : va_D A [(aB, .inr (1, [.ref aBr, .int bn])), (aBr, .inl (cyI, 800, .inl br)), (aR, .inr (5, [.ref aRb, .int rn_4, .int rf, .int rx_5, .int rp_6])), (aRb, .inl (cyI, 200, .inl rb_7))] := hD
        dsimp only at h
        refine lv_istore (lv' := [(4, .int r_3), (3, .int rx), (0, .ref aR), (1, .ref aB), (2, .int v2)]) hx hb dX6_readAll_50 hl (by decide) rfl (fun ls hl => ?_)
        refine lv_iload hx hb dX6_readAll_52 (lv_at hl 0 rfl) ?_
        refine lv_if_eq (tgt := 65) hx hb dX6_readAll_54 (by decide) (fun c_8 => ?_) (fun c_8 => ?_)
        · replace h := h.1 c_8
          refine lv_iinc (v := v2 + 1) (lv' := [(2, .int (v2 + 1)), (4, .int r_3), (3, .int rx), (0, .ref aR), (1, .ref aB)]) hx hb dX6_readAll_65 hl (k := 4) rfl rfl (by decide) rfl (fun ls hl => ?_)
          refine lv_goto (tgt := 22) hx hb dX6_readAll_68 (by decide) ?_
          exact ih22 _ _ _ _ _ h _ _ _ hP hD hS (lv_sub hl [3, 4, 0] rfl)
        · replace h := h.2 c_8
          exact hK57 _ _ _ _ _ _ h _ _ _ hP hD hS (lv_sub hl [2, 1, 0] rfl)
def wpX6_readAll (bn : Int32) (br : Nat → Int32) (rb : Nat → Int32) (post : Int32 → Int32 → Int32 → Int32 → Int32 → (Nat → Int32) → Prop) : Prop := ∃ n22 : Nat, wpX6_readAll_22 bn br (fun (v3_9 : Int32) (v4_10 : Int32) (rn_11 : Int32) (rx_12 : Int32) (rp_13 : Int32) (rb_14 : Nat → Int32) => post v4_10 rn_11 v3_9 rx_12 rp_13 rb_14) (fun (rn_15 : Int32) (rx_16 : Int32) (rp_17 : Int32) (rb_18 : Nat → Int32) => post 0 rn_15 (-1) rx_16 rp_17 rb_18) n22 0 0 0 0 rb
set_option maxHeartbeats 4000000 in
set_option maxRecDepth 100000 in
theorem mtX6_readAll (l : Launch) (dC : Nat → ClassId) (dI : Nat → Nat → Nat) (cyI : ClassId) {aB aBr aR aRb : Nat} {sz : Nat} {bn : Int32} {br : Nat → Int32} {rn : Int32} {rf : Int32} {rx : Int32} {rp : Int32} {rb : Nat → Int32} {post : Int32 → Int32 → Int32 → Int32 → Int32 → (Nat → Int32) → Prop} (h : wpX6_readAll bn br rb post) : Met l yX6_readAll wsX6_readAll ({ frames := 5, cells := 0, slots := 0, locals := 118 }) (va_Pc [.ref aR, .ref aB] (wk_B (dC, dI) [(cyI, .int)] [(aB, .inr (1, [.ref aBr, .int bn])), (aBr, .inl (cyI, 800, .inl br)), (aR, .inr (5, [.ref aRb, .int rn, .int rf, .int rx, .int rp])), (aRb, .inl (cyI, 200, .inl rb))] sz)) (va_Qi (fun (r : Int32) (u : Int32 × Int32 × Int32 × Int32 × (Nat → Int32)) => post r u.1 u.2.1 u.2.2.1 u.2.2.2.1 u.2.2.2.2) (wk_C (dC, dI) [(cyI, .int)] (va_A [(aB, .inr (1, [.ref aBr, .int bn])), (aBr, .inl (cyI, 800, .inl br)), (aR, .inr (5, [.ref aRb, .int rn, .int rf, .int rx, .int rp])), (aRb, .inl (cyI, 200, .inl rb))] sz) (fun (u : Int32 × Int32 × Int32 × Int32 × (Nat → Int32)) => [(aB, .inr (1, [.ref aBr, .int bn])), (aBr, .inl (cyI, 800, .inl br)), (aR, .inr (5, [.ref aRb, .int (u.1), .int (u.2.1), .int (u.2.2.1), .int (u.2.2.2.1)])), (aRb, .inl (cyI, 200, .inl (u.2.2.2.2)))])) (va_A [(aB, .inr (1, [.ref aBr, .int bn])), (aBr, .inl (cyI, 800, .inl br)), (aR, .inr (5, [.ref aRb, .int rn, .int rf, .int rx, .int rp])), (aRb, .inl (cyI, 200, .inl rb))] sz)) 0 0 (va_A [(aB, .inr (1, [.ref aBr, .int bn])), (aBr, .inl (cyI, 800, .inl br)), (aR, .inr (5, [.ref aRb, .int rn, .int rf, .int rx, .int rp])), (aRb, .inl (cyI, 200, .inl rb))] sz) := by
  refine Met.ofW (cc := cX6_readAll) (maxL := 5) (ret := (some .int)) (by decide) rfl ?_
  intro p e s m args below meth c s₁ B hml hv
  obtain ⟨rfl, hsz, hP, hK, hD0⟩ := hv
  have hx := B.exec
  have hb := B.bytes
  have hr := B.returns
  have hts := atoms_spec (ws := wsX6_readAll) B.pre
  have hown : s.vm.findClass RX6 = some m.cls := findClass_of_methodNamed B.named
  have hlocks := B.notSynchronized
  subst hsz
  have hD := hD0.self (sz := s.heap.size)
  generalize hAe : va_A [(aB, .inr (1, [.ref aBr, .int bn])), (aBr, .inl (cyI, 800, .inl br)), (aR, .inr (5, [.ref aRb, .int rn, .int rf, .int rx, .int rp])), (aRb, .inl (cyI, 200, .inl rb))] s.heap.size = A at hD ⊢
  have hA : ∀ q : Nat, s.heap.size ≤ q → A q := fun q h => by rw [← hAe]; exact Or.inr h
  have hS : va_S A s.heap s.heap [] := va_S.rf
  have hP : va_P (dC, dI) vwCl [(aB, .inr (1, [.ref aBr, .int bn])), (aBr, .inl (cyI, 800, .inl br)), (aR, .inr (5, [.ref aRb, .int rn, .int rf, .int rx, .int rp])), (aRb, .inl (cyI, 200, .inl rb))] s.heap := hP
  have hl := lv_entry ([.ref aR, .ref aB]) (n := 5) (Nat.le_of_ble_eq_true rfl)
  rw [lg_entry_eq]
  generalize (lg_sl ([.ref aR, .ref aB]) ++ List.replicate (5 - (lg_sl ([.ref aR, .ref aB])).length) Slot.unset).toArray = ls at hl ⊢
  have hl : lv_has ls 5 [(0, .ref aR), (1, .ref aB)] := hl
  have C0 : CallFix p m c cX6_readAll 5 s ([.ref aR, .ref aB] : List Value).toArray wsX6_readAll RX6 := ⟨hx, hb, hml, hown, hts⟩
  unfold wpX6_readAll at h
  refine lv_aload_n hx hb dX6_readAll_0 rfl (lv_at hl 0 rfl) ?_
  refine lv_iconst (v := 0) hx hb dX6_readAll_1 (by decide) ?_
  refine va_put (D := (dC, dI)) (ci := 5) (v := .int 0) (ty := .int) (C := RX6) (T := TX6) (N := 5) hx hb hts inX6_readAll_wsX60 tyX6 tyX6_ok nmX6 hown hK hP hD hS 2 rfl rfl 1 (by decide) (hts _ qX6_readAll_0) (fun _ h9 => h9) rfl (by decide +kernel) rfl rfl (Nat.le_of_ble_eq_true rfl) dX6_readAll_2 (fun H locs hP hD hS => ?_)
  have hP : va_P (dC, dI) vwCl [(aB, .inr (1, [.ref aBr, .int bn])), (aBr, .inl (cyI, 800, .inl br)), (aR, .inr (5, [.ref aRb, .int 0, .int rf, .int rx, .int rp])), (aRb, .inl (cyI, 200, .inl rb))] H := hP
  have hD : va_D A [(aB, .inr (1, [.ref aBr, .int bn])), (aBr, .inl (cyI, 800, .inl br)), (aR, .inr (5, [.ref aRb, .int 0, .int rf, .int rx, .int rp])), (aRb, .inl (cyI, 200, .inl rb))] := hD
  refine lv_aload_n hx hb dX6_readAll_5 rfl (lv_at hl 0 rfl) ?_
  refine lv_iconst (v := (-1)) hx hb dX6_readAll_6 (by decide) ?_
  refine va_put (D := (dC, dI)) (ci := 5) (v := .int (-1)) (ty := .int) (C := RX6) (T := TX6) (N := 5) hx hb hts inX6_readAll_wsX60 tyX6 tyX6_ok nmX6 hown hK hP hD hS 2 rfl rfl 2 (by decide) (hts _ qX6_readAll_1) (fun _ h9 => h9) rfl (by decide +kernel) rfl rfl (Nat.le_of_ble_eq_true rfl) dX6_readAll_7 (fun H locs hP hD hS => ?_)
  have hP : va_P (dC, dI) vwCl [(aB, .inr (1, [.ref aBr, .int bn])), (aBr, .inl (cyI, 800, .inl br)), (aR, .inr (5, [.ref aRb, .int 0, .int (-1), .int rx, .int rp])), (aRb, .inl (cyI, 200, .inl rb))] H := hP
  have hD : va_D A [(aB, .inr (1, [.ref aBr, .int bn])), (aBr, .inl (cyI, 800, .inl br)), (aR, .inr (5, [.ref aRb, .int 0, .int (-1), .int rx, .int rp])), (aRb, .inl (cyI, 200, .inl rb))] := hD
  refine lv_aload_n hx hb dX6_readAll_10 rfl (lv_at hl 0 rfl) ?_
  refine lv_iconst (v := 0) hx hb dX6_readAll_11 (by decide) ?_
  refine va_put (D := (dC, dI)) (ci := 5) (v := .int 0) (ty := .int) (C := RX6) (T := TX6) (N := 5) hx hb hts inX6_readAll_wsX60 tyX6 tyX6_ok nmX6 hown hK hP hD hS 2 rfl rfl 3 (by decide) (hts _ qX6_readAll_2) (fun _ h9 => h9) rfl (by decide +kernel) rfl rfl (Nat.le_of_ble_eq_true rfl) dX6_readAll_12 (fun H locs hP hD hS => ?_)
  have hP : va_P (dC, dI) vwCl [(aB, .inr (1, [.ref aBr, .int bn])), (aBr, .inl (cyI, 800, .inl br)), (aR, .inr (5, [.ref aRb, .int 0, .int (-1), .int 0, .int rp])), (aRb, .inl (cyI, 200, .inl rb))] H := hP
  have hD : va_D A [(aB, .inr (1, [.ref aBr, .int bn])), (aBr, .inl (cyI, 800, .inl br)), (aR, .inr (5, [.ref aRb, .int 0, .int (-1), .int 0, .int rp])), (aRb, .inl (cyI, 200, .inl rb))] := hD
  refine lv_aload_n hx hb dX6_readAll_15 rfl (lv_at hl 0 rfl) ?_
  refine lv_iconst (v := 0) hx hb dX6_readAll_16 (by decide) ?_
  refine va_put (D := (dC, dI)) (ci := 5) (v := .int 0) (ty := .int) (C := RX6) (T := TX6) (N := 5) hx hb hts inX6_readAll_wsX60 tyX6 tyX6_ok nmX6 hown hK hP hD hS 2 rfl rfl 4 (by decide) (hts _ qX6_readAll_3) (fun _ h9 => h9) rfl (by decide +kernel) rfl rfl (Nat.le_of_ble_eq_true rfl) dX6_readAll_17 (fun H locs hP hD hS => ?_)
  have hP : va_P (dC, dI) vwCl [(aB, .inr (1, [.ref aBr, .int bn])), (aBr, .inl (cyI, 800, .inl br)), (aR, .inr (5, [.ref aRb, .int 0, .int (-1), .int 0, .int 0])), (aRb, .inl (cyI, 200, .inl rb))] H := hP
  have hD : va_D A [(aB, .inr (1, [.ref aBr, .int bn])), (aBr, .inl (cyI, 800, .inl br)), (aR, .inr (5, [.ref aRb, .int 0, .int (-1), .int 0, .int 0])), (aRb, .inl (cyI, 200, .inl rb))] := hD
  refine lv_iconst (v := 0) hx hb dX6_readAll_20 (by decide) ?_
  refine lv_istore_n (lv' := [(2, .int 0), (0, .ref aR), (1, .ref aB)]) hx hb dX6_readAll_21 rfl hl (by decide) rfl (fun ls hl => ?_)
  obtain ⟨n22, h⟩ := h
  refine wlX6_readAll_22 C0 hA hK ?_ ?_ n22 _ _ _ _ _ h _ _ _ hP hD hS (lv_sub hl [1, 2, 0] rfl)
  · intro v3_9 v4_10 rn_11 rx_12 rp_13 rb_14 h H locs ls hP hD hS hl
    refine lv_aload_n hx hb dX6_readAll_57 rfl (lv_at hl 0 rfl) ?_
    refine lv_iload_n hx hb dX6_readAll_58 rfl (lv_at hl 1 rfl) ?_
    refine va_put (D := (dC, dI)) (ci := 5) (v := .int v3_9) (ty := .int) (C := RX6) (T := TX6) (N := 5) hx hb hts inX6_readAll_wsX60 tyX6 tyX6_ok nmX6 hown hK hP hD hS 2 rfl rfl 2 (by decide) (hts _ qX6_readAll_1) (fun _ h9 => h9) rfl (by decide +kernel) rfl rfl (Nat.le_of_ble_eq_true rfl) dX6_readAll_59 (fun H locs hP hD hS => ?_)
    have hP : va_P (dC, dI) vwCl [(aB, .inr (1, [.ref aBr, .int bn])), (aBr, .inl (cyI, 800, .inl br)), (aR, .inr (5, [.ref aRb, .int rn_11, .int v3_9, .int rx_12, .int rp_13])), (aRb, .inl (cyI, 200, .inl rb_14))] H := hP
    have hD : va_D A [(aB, .inr (1, [.ref aBr, .int bn])), (aBr, .inl (cyI, 800, .inl br)), (aR, .inr (5, [.ref aRb, .int rn_11, .int v3_9, .int rx_12, .int rp_13])), (aRb, .inl (cyI, 200, .inl rb_14))] := hD
    refine lv_iload hx hb dX6_readAll_62 (lv_at hl 2 rfl) ?_
    have hP9 : va_P (dC, dI) vwCl [(aB, .inr (1, [.ref aBr, .int bn])), (aBr, .inl (cyI, 800, .inl br)), (aR, .inr (5, [.ref aRb, .int rn_11, .int v3_9, .int rx_12, .int rp_13])), (aRb, .inl (cyI, 200, .inl rb_14))] _ := hP
    have hD9 : va_D A [(aB, .inr (1, [.ref aBr, .int bn])), (aBr, .inl (cyI, 800, .inl br)), (aR, .inr (5, [.ref aRb, .int rn_11, .int v3_9, .int rx_12, .int rp_13])), (aRb, .inl (cyI, 200, .inl rb_14))] := hD
    exact W.iret (v := v4_10) hx hb hr (fun t ht hW => ⟨⟨v4_10, (rn_11, v3_9, rx_12, rp_13, rb_14), rfl, h, by rw [ht]; exact hP9, va_K.moved hW.alike hK, hD9⟩, hS.F ht⟩) hS.2.2 dX6_readAll_64
  · intro rn_15 rx_16 rp_17 rb_18 h H locs ls hP hD hS hl
    refine lv_iconst (v := 0) hx hb dX6_readAll_71 (by decide) ?_
    have hP9 : va_P (dC, dI) vwCl [(aB, .inr (1, [.ref aBr, .int bn])), (aBr, .inl (cyI, 800, .inl br)), (aR, .inr (5, [.ref aRb, .int rn_15, .int (-1), .int rx_16, .int rp_17])), (aRb, .inl (cyI, 200, .inl rb_18))] _ := hP
    have hD9 : va_D A [(aB, .inr (1, [.ref aBr, .int bn])), (aBr, .inl (cyI, 800, .inl br)), (aR, .inr (5, [.ref aRb, .int rn_15, .int (-1), .int rx_16, .int rp_17])), (aRb, .inl (cyI, 200, .inl rb_18))] := hD
    exact W.iret (v := 0) hx hb hr (fun t ht hW => ⟨⟨0, (rn_15, (-1), rx_16, rp_17, rb_18), rfl, h, by rw [ht]; exact hP9, va_K.moved hW.alike hK, hD9⟩, hS.F ht⟩) hS.2.2 dX6_readAll_72
