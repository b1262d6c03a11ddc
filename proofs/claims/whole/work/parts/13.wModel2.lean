-- X10_goesOn
theorem qX10_goesOn_0 : Cond.fieldLink RX10 68 "MatchCoderModel" "size" "I" ∈ wsX10_goesOn := (List.mem_cons_of_mem _ (List.mem_append_left _ (List.mem_of_getElem? (i := 0) rfl)))
theorem qX10_goesOn_1 : Cond.fieldLink RX10 9 "MatchCoderModel" "text" "[I" ∈ wsX10_goesOn := (List.mem_cons_of_mem _ (List.mem_append_left _ (List.mem_of_getElem? (i := 1) rfl)))
theorem inX10_goesOn_wsX100 : ∀ w ∈ wsX100, w ∈ wsX10_goesOn := fun _ h => List.mem_cons_of_mem _ (List.mem_append_right _ h)
def wpX10_goesOn_2 (v1 : Int32) (v2 : Int32) (msz : Int32) (mtx : Nat → Int32) (K39 : Int32 → Prop) : Nat → Int32 → Prop
  | 0, _ => False
  | n2 + 1, v3 => (msz ≤ (v1 + v3) → (K39 v3)) ∧ (¬ msz ≤ (v1 + v3) → (vp_in (v1 + v3) 64 ∧ (vp_in ((v1 + v3) - v2) 64 ∧ (((mtx (v1 + v3).toNatClampNeg) = (mtx ((v1 + v3) - v2).toNatClampNeg) → (wpX10_goesOn_2 v1 v2 msz mtx K39 n2 (v3 + 1))) ∧ (¬ (mtx (v1 + v3).toNatClampNeg) = (mtx ((v1 + v3) - v2).toNatClampNeg) → (K39 v3))))))
set_option maxHeartbeats 4000000 in
set_option maxRecDepth 100000 in
theorem wlX10_goesOn_2 {p : Program} {l : Launch} {e : Env} {s : State} {m : MethodId} {args : Array Value} {below : List Frame} {meth : Method} {c : Code} {A : Nat → Prop} {Q : State → Prop} {dC : Nat → ClassId} {dI : Nat → Nat → Nat} {cyI : ClassId} {aM aMt aMk aMl aMd aMs aMb aMo aMc aMn aMfk aMfl aMfd aMg aMm : Nat} {v1 : Int32} {v2 : Int32} {mth : Int32} {msz : Int32} {mwi : Int32} {mle : Int32} {mgr : Int32} {mpr : Int32} {mhp : Int32} {mtk : Int32} {mbn : Int32} {mmd : Int32} {mep : Int32} {mat : Int32} {mer : Int32} {mtx : Nat → Int32} {K39 : Int32 → Prop} (C0 : CallFix p m c cX10_goesOn 4 s args wsX10_goesOn RX10) (hA : ∀ q : Nat, s.heap.size ≤ q → A q) (hK : va_K (dC, dI) vwCl [(cyI, .int)] s) (hK39 : ∀ (v3 : Int32), K39 v3 → ∀ (H : Heap) (locs : List Loc) (ls : Array Slot), va_P (dC, dI) vwCl [(aM, .inr (9, [.int mth, .int msz, .ref aMt, .int mwi, .int mle, .int mgr, .int mpr, .int mhp, .int mtk, .ref aMk, .ref aMl, .ref aMd, .ref aMs, .int mbn, .ref aMb, .int mmd, .ref aMo, .int mep, .ref aMc, .ref aMn, .ref aMfk, .ref aMfl, .ref aMfd, .ref aMg, .ref aMm, .int mat, .int mer])), (aMt, .inl (cyI, 64, .inl mtx))] H → va_D A [(aM, .inr (9, [.int mth, .int msz, .ref aMt, .int mwi, .int mle, .int mgr, .int mpr, .int mhp, .int mtk, .ref aMk, .ref aMl, .ref aMd, .ref aMs, .int mbn, .ref aMb, .int mmd, .ref aMo, .int mep, .ref aMc, .ref aMn, .ref aMfk, .ref aMfl, .ref aMfd, .ref aMg, .ref aMm, .int mat, .int mer])), (aMt, .inl (cyI, 64, .inl mtx))] → va_S A s.heap H locs → lv_has ls 4 [(3, .int v3)] → W p l e ({ frames := 0, cells := 0, slots := 0, locals := 0 } : Room) s m args below meth c H locs 0 0 Q (F0 m 39 ls [])) :
    ∀ (n2 : Nat) (v3 : Int32), wpX10_goesOn_2 v1 v2 msz mtx K39 n2 v3 → ∀ (H : Heap) (locs : List Loc) (ls : Array Slot), va_P (dC, dI) vwCl [(aM, .inr (9, [.int mth, .int msz, .ref aMt, .int mwi, .int mle, .int mgr, .int mpr, .int mhp, .int mtk, .ref aMk, .ref aMl, .ref aMd, .ref aMs, .int mbn, .ref aMb, .int mmd, .ref aMo, .int mep, .ref aMc, .ref aMn, .ref aMfk, .ref aMfl, .ref aMfd, .ref aMg, .ref aMm, .int mat, .int mer])), (aMt, .inl (cyI, 64, .inl mtx))] H → va_D A [(aM, .inr (9, [.int mth, .int msz, .ref aMt, .int mwi, .int mle, .int mgr, .int mpr, .int mhp, .int mtk, .ref aMk, .ref aMl, .ref aMd, .ref aMs, .int mbn, .ref aMb, .int mmd, .ref aMo, .int mep, .ref aMc, .ref aMn, .ref aMfk, .ref aMfl, .ref aMfd, .ref aMg, .ref aMm, .int mat, .int mer])), (aMt, .inl (cyI, 64, .inl mtx))] → va_S A s.heap H locs → lv_has ls 4 [(0, .ref aM), (1, .int v1), (2, .int v2), (3, .int v3)] → W p l e ({ frames := 0, cells := 0, slots := 0, locals := 0 } : Room) s m args below meth c H locs 0 0 Q (F0 m 2 ls []) := by
  obtain ⟨hx, hb, hml, hown, hts⟩ := id C0
  intro n2
  induction n2 with
  | zero => intro _ h; exact h.elim
  | succ n2 ih2 =>
    intro v3 h H locs ls hP hD hS hl
    rw [wpX10_goesOn_2] at h
    refine lv_iload_n hx hb dX10_goesOn_2 rfl (lv_at hl 1 rfl) ?_
    refine lv_iload_n hx hb dX10_goesOn_3 rfl (lv_at hl 3 rfl) ?_
    refine lv_iadd hx hb dX10_goesOn_4 ?_
    refine lv_aload_n hx hb dX10_goesOn_5 rfl (lv_at hl 0 rfl) ?_
    refine va_get (D := (dC, dI)) (ci := 9) (v := .int msz) (C := RX10) (T := TX10) (N := 27) hx hb hts inX10_goesOn_wsX100 hown hK hP 0 rfl rfl 1 (by decide) (hts _ qX10_goesOn_0) (fun _ h9 => h9) rfl dX10_goesOn_6 ?_
    refine lv_icmp_ge (tgt := 39) hx hb dX10_goesOn_9 (by decide) (fun c_1 => ?_) (fun c_1 => ?_)
    · replace h := h.1 c_1
      exact hK39 _ h _ _ _ hP hD hS (lv_sub hl [3] rfl)
    · replace h := h.2 c_1
      refine lv_aload_n hx hb dX10_goesOn_12 rfl (lv_at hl 0 rfl) ?_
      refine va_get (D := (dC, dI)) (ci := 9) (v := .ref aMt) (C := RX10) (T := TX10) (N := 27) hx hb hts inX10_goesOn_wsX100 hown hK hP 0 rfl rfl 2 (by decide) (hts _ qX10_goesOn_1) (fun _ h9 => h9) rfl dX10_goesOn_13 ?_
      refine lv_iload_n hx hb dX10_goesOn_16 rfl (lv_at hl 1 rfl) ?_
      refine lv_iload_n hx hb dX10_goesOn_17 rfl (lv_at hl 3 rfl) ?_
      refine lv_iadd hx hb dX10_goesOn_18 ?_
      obtain ⟨hi_2, h⟩ := h
      refine va_iald hx hb hK hP 1 0 rfl rfl hi_2 dX10_goesOn_19 ?_
      refine lv_aload_n hx hb dX10_goesOn_20 rfl (lv_at hl 0 rfl) ?_
      refine va_get (D := (dC, dI)) (ci := 9) (v := .ref aMt) (C := RX10) (T := TX10) (N := 27) hx hb hts inX10_goesOn_wsX100 hown hK hP 0 rfl rfl 2 (by decide) (hts _ qX10_goesOn_1) (fun _ h9 => h9) rfl dX10_goesOn_21 ?_
      refine lv_iload_n hx hb dX10_goesOn_24 rfl (lv_at hl 1 rfl) ?_
      refine lv_iload_n hx hb dX10_goesOn_25 rfl (lv_at hl 3 rfl) ?_
      refine lv_iadd hx hb dX10_goesOn_26 ?_
      refine lv_iload_n hx hb dX10_goesOn_27 rfl (lv_at hl 2 rfl) ?_
      refine lv_isub hx hb dX10_goesOn_28 ?_
      obtain ⟨hi_3, h⟩ := h
      refine va_iald hx hb hK hP 1 0 rfl rfl hi_3 dX10_goesOn_29 ?_
      refine lv_icmp_ne (tgt := 39) hx hb dX10_goesOn_30 (by decide) (fun c_4 => ?_) (fun c_4 => ?_)
      · replace h := h.2 c_4
        exact hK39 _ h _ _ _ hP hD hS (lv_sub hl [3] rfl)
      · replace h := h.1 c_4
        refine lv_iinc (v := v3 + 1) (lv' := [(3, .int (v3 + 1)), (0, .ref aM), (1, .int v1), (2, .int v2)]) hx hb dX10_goesOn_33 hl (k := 3) rfl rfl (by decide) rfl (fun ls hl => ?_)
        refine lv_goto (tgt := 2) hx hb dX10_goesOn_36 (by decide) ?_
        exact ih2 _ h _ _ _ hP hD hS (lv_sub hl [1, 2, 3, 0] rfl)
def wpX10_goesOn (msz : Int32) (mtx : Nat → Int32) (v1 : Int32) (v2 : Int32) (post : Int32 → Prop) : Prop := ∃ n2 : Nat, wpX10_goesOn_2 v1 v2 msz mtx (fun (v3_5 : Int32) => post v3_5) n2 0
set_option maxHeartbeats 4000000 in
set_option maxRecDepth 100000 in
theorem mtX10_goesOn (l : Launch) (dC : Nat → ClassId) (dI : Nat → Nat → Nat) (cyI : ClassId) {aM aMt aMk aMl aMd aMs aMb aMo aMc aMn aMfk aMfl aMfd aMg aMm : Nat} {sz : Nat} {mth : Int32} {msz : Int32} {mwi : Int32} {mle : Int32} {mgr : Int32} {mpr : Int32} {mhp : Int32} {mtk : Int32} {mbn : Int32} {mmd : Int32} {mep : Int32} {mat : Int32} {mer : Int32} {mtx : Nat → Int32} {v1 : Int32} {v2 : Int32} {post : Int32 → Prop} (h : wpX10_goesOn msz mtx v1 v2 post) : Met l yX10_goesOn wsX10_goesOn ({ frames := 0, cells := 0, slots := 0, locals := 0 }) (va_Pc [.ref aM, .int v1, .int v2] (wk_B (dC, dI) [(cyI, .int)] [(aM, .inr (9, [.int mth, .int msz, .ref aMt, .int mwi, .int mle, .int mgr, .int mpr, .int mhp, .int mtk, .ref aMk, .ref aMl, .ref aMd, .ref aMs, .int mbn, .ref aMb, .int mmd, .ref aMo, .int mep, .ref aMc, .ref aMn, .ref aMfk, .ref aMfl, .ref aMfd, .ref aMg, .ref aMm, .int mat, .int mer])), (aMt, .inl (cyI, 64, .inl mtx))] sz)) (va_Qi (fun (r : Int32) (u : Unit) => post r ) (wk_C (dC, dI) [(cyI, .int)] (va_A [(aM, .inr (9, [.int mth, .int msz, .ref aMt, .int mwi, .int mle, .int mgr, .int mpr, .int mhp, .int mtk, .ref aMk, .ref aMl, .ref aMd, .ref aMs, .int mbn, .ref aMb, .int mmd, .ref aMo, .int mep, .ref aMc, .ref aMn, .ref aMfk, .ref aMfl, .ref aMfd, .ref aMg, .ref aMm, .int mat, .int mer])), (aMt, .inl (cyI, 64, .inl mtx))] sz) (fun (u : Unit) => [(aM, .inr (9, [.int mth, .int msz, .ref aMt, .int mwi, .int mle, .int mgr, .int mpr, .int mhp, .int mtk, .ref aMk, .ref aMl, .ref aMd, .ref aMs, .int mbn, .ref aMb, .int mmd, .ref aMo, .int mep, .ref aMc, .ref aMn, .ref aMfk, .ref aMfl, .ref aMfd, .ref aMg, .ref aMm, .int mat, .int mer])), (aMt, .inl (cyI, 64, .inl mtx))])) (va_A [(aM, .inr (9, [.int mth, .int msz, .ref aMt, .int mwi, .int mle, .int mgr, .int mpr, .int mhp, .int mtk, .ref aMk, .ref aMl, .ref aMd, .ref aMs, .int mbn, .ref aMb, .int mmd, .ref aMo, .int mep, .ref aMc, .ref aMn, .ref aMfk, .ref aMfl, .ref aMfd, .ref aMg, .ref aMm, .int mat, .int mer])), (aMt, .inl (cyI, 64, .inl mtx))] sz)) 0 0 (va_A [(aM, .inr (9, [.int mth, .int msz, .ref aMt, .int mwi, .int mle, .int mgr, .int mpr, .int mhp, .int mtk, .ref aMk, .ref aMl, .ref aMd, .ref aMs, .int mbn, .ref aMb, .int mmd, .ref aMo, .int mep, .ref aMc, .ref aMn, .ref aMfk, .ref aMfl, .ref aMfd, .ref aMg, .ref aMm, .int mat, .int mer])), (aMt, .inl (cyI, 64, .inl mtx))] sz) := by
  refine Met.ofW (cc := cX10_goesOn) (maxL := 4) (ret := (some .int)) (by decide) rfl ?_
  intro p e s m args below meth c s₁ B hml hv
  obtain ⟨rfl, hsz, hP, hK, hD0⟩ := hv
  have hx := B.exec
  have hb := B.bytes
  have hr := B.returns
  have hts := atoms_spec (ws := wsX10_goesOn) B.pre
  have hown : s.vm.findClass RX10 = some m.cls := findClass_of_methodNamed B.named
  have hlocks := B.notSynchronized
  subst hsz
  have hD := hD0.self (sz := s.heap.size)
  generalize hAe : va_A [(aM, .inr (9, [.int mth, .int msz, .ref aMt, .int mwi, .int mle, .int mgr, .int mpr, .int mhp, .int mtk, .ref aMk, .ref aMl, .ref aMd, .ref aMs, .int mbn, .ref aMb, .int mmd, .ref aMo, .int mep, .ref aMc, .ref aMn, .ref aMfk, .ref aMfl, .ref aMfd, .ref aMg, .ref aMm, .int mat, .int mer])), (aMt, .inl (cyI, 64, .inl mtx))] s.heap.size = A at hD ⊢
  have hA : ∀ q : Nat, s.heap.size ≤ q → A q := fun q h => by rw [← hAe]; exact Or.inr h
  have hS : va_S A s.heap s.heap [] := va_S.rf
  have hP : va_P (dC, dI) vwCl [(aM, .inr (9, [.int mth, .int msz, .ref aMt, .int mwi, .int mle, .int mgr, .int mpr, .int mhp, .int mtk, .ref aMk, .ref aMl, .ref aMd, .ref aMs, .int mbn, .ref aMb, .int mmd, .ref aMo, .int mep, .ref aMc, .ref aMn, .ref aMfk, .ref aMfl, .ref aMfd, .ref aMg, .ref aMm, .int mat, .int mer])), (aMt, .inl (cyI, 64, .inl mtx))] s.heap := hP
  have hl := lv_entry ([.ref aM, .int v1, .int v2]) (n := 4) (Nat.le_of_ble_eq_true rfl)
  rw [lg_entry_eq]
  generalize (lg_sl ([.ref aM, .int v1, .int v2]) ++ List.replicate (4 - (lg_sl ([.ref aM, .int v1, .int v2])).length) Slot.unset).toArray = ls at hl ⊢
  have hl : lv_has ls 4 [(0, .ref aM), (1, .int v1), (2, .int v2)] := hl
  have C0 : CallFix p m c cX10_goesOn 4 s ([.ref aM, .int v1, .int v2] : List Value).toArray wsX10_goesOn RX10 := ⟨hx, hb, hml, hown, hts⟩
  unfold wpX10_goesOn at h
  refine lv_iconst (v := 0) hx hb dX10_goesOn_0 (by decide) ?_
  refine lv_istore_n (lv' := [(3, .int 0), (0, .ref aM), (1, .int v1), (2, .int v2)]) hx hb dX10_goesOn_1 rfl hl (by decide) rfl (fun ls hl => ?_)
  obtain ⟨n2, h⟩ := h
  refine wlX10_goesOn_2 C0 hA hK ?_ n2 _ h _ _ _ hP hD hS (lv_sub hl [1, 2, 3, 0] rfl)
  · intro v3_5 h H locs ls hP hD hS hl
    refine lv_iload_n hx hb dX10_goesOn_39 rfl (lv_at hl 0 rfl) ?_
    have hP9 : va_P (dC, dI) vwCl [(aM, .inr (9, [.int mth, .int msz, .ref aMt, .int mwi, .int mle, .int mgr, .int mpr, .int mhp, .int mtk, .ref aMk, .ref aMl, .ref aMd, .ref aMs, .int mbn, .ref aMb, .int mmd, .ref aMo, .int mep, .ref aMc, .ref aMn, .ref aMfk, .ref aMfl, .ref aMfd, .ref aMg, .ref aMm, .int mat, .int mer])), (aMt, .inl (cyI, 64, .inl mtx))] _ := hP
    have hD9 : va_D A [(aM, .inr (9, [.int mth, .int msz, .ref aMt, .int mwi, .int mle, .int mgr, .int mpr, .int mhp, .int mtk, .ref aMk, .ref aMl, .ref aMd, .ref aMs, .int mbn, .ref aMb, .int mmd, .ref aMo, .int mep, .ref aMc, .ref aMn, .ref aMfk, .ref aMfl, .ref aMfd, .ref aMg, .ref aMm, .int mat, .int mer])), (aMt, .inl (cyI, 64, .inl mtx))] := hD
    exact W.iret (v := v3_5) hx hb hr (fun t ht hW => ⟨⟨v3_5, (), rfl, h, by rw [ht]; exact hP9, va_K.moved hW.alike hK, hD9⟩, hS.F ht⟩) hS.2.2 dX10_goesOn_40
-- X10_matchWith
theorem qX10_matchWith_0 : Cond.fieldLink RX10 20 "MatchCoderModel" "greatest" "I" ∈ wsX10_matchWith := (List.mem_cons_of_mem _ (List.mem_append_left _ (List.mem_of_getElem? (i := 0) rfl)))
theorem qX10_matchWith_1 : Cond.methodLink RX10 96 Lib.Math.min.name ∈ wsX10_matchWith := (List.mem_cons_of_mem _ (List.mem_append_left _ (List.mem_of_getElem? (i := 1) rfl)))
theorem qX10_matchWith_2 : Cond.static Lib.Math.min.name ∈ wsX10_matchWith := (List.mem_cons_of_mem _ (List.mem_append_left _ (List.mem_of_getElem? (i := 2) rfl)))
theorem qX10_matchWith_3 : Cond.initialized "java/lang/Math" ∈ wsX10_matchWith := (List.mem_cons_of_mem _ (List.mem_append_left _ (List.mem_of_getElem? (i := 3) rfl)))
theorem qX10_matchWith_4 : Cond.code Lib.Math.min.name Lib.Math.min.code 2 (some .int) ∈ wsX10_matchWith := (List.mem_cons_of_mem _ (List.mem_append_left _ (List.mem_of_getElem? (i := 4) rfl)))
theorem qX10_matchWith_5 : Cond.fieldLink RX10 17 "MatchCoderModel" "least" "I" ∈ wsX10_matchWith := (List.mem_cons_of_mem _ (List.mem_append_left _ (List.mem_of_getElem? (i := 5) rfl)))
theorem inX10_matchWith_wsX100 : ∀ w ∈ wsX100, w ∈ wsX10_matchWith := fun _ h => List.mem_cons_of_mem _ (List.mem_append_right _ h)
def wpX10_matchWith (msz : Int32) (mle : Int32) (mgr : Int32) (mtx : Nat → Int32) (v1 : Int32) (v2 : Int32) (post : Int32 → Prop) : Prop := wpX10_goesOn msz mtx v1 v2 (fun (r_1 : Int32) => (mle ≤ (if mgr < r_1 then mgr else r_1) → (post (if mgr < r_1 then mgr else r_1))) ∧ (¬ mle ≤ (if mgr < r_1 then mgr else r_1) → (post 0)))
set_option maxHeartbeats 4000000 in
set_option maxRecDepth 100000 in
theorem mtX10_matchWith (l : Launch) (dC : Nat → ClassId) (dI : Nat → Nat → Nat) (cyI : ClassId) {aM aMt aMk aMl aMd aMs aMb aMo aMc aMn aMfk aMfl aMfd aMg aMm : Nat} {sz : Nat} {mth : Int32} {msz : Int32} {mwi : Int32} {mle : Int32} {mgr : Int32} {mpr : Int32} {mhp : Int32} {mtk : Int32} {mbn : Int32} {mmd : Int32} {mep : Int32} {mat : Int32} {mer : Int32} {mtx : Nat → Int32} {v1 : Int32} {v2 : Int32} {post : Int32 → Prop} (h : wpX10_matchWith msz mle mgr mtx v1 v2 post) : Met l yX10_matchWith wsX10_matchWith ({ frames := 1, cells := 0, slots := 0, locals := 23 }) (va_Pc [.ref aM, .int v1, .int v2] (wk_B (dC, dI) [(cyI, .int)] [(aM, .inr (9, [.int mth, .int msz, .ref aMt, .int mwi, .int mle, .int mgr, .int mpr, .int mhp, .int mtk, .ref aMk, .ref aMl, .ref aMd, .ref aMs, .int mbn, .ref aMb, .int mmd, .ref aMo, .int mep, .ref aMc, .ref aMn, .ref aMfk, .ref aMfl, .ref aMfd, .ref aMg, .ref aMm, .int mat, .int mer])), (aMt, .inl (cyI, 64, .inl mtx))] sz)) (va_Qi (fun (r : Int32) (u : Unit) => post r ) (wk_C (dC, dI) [(cyI, .int)] (va_A [(aM, .inr (9, [.int mth, .int msz, .ref aMt, .int mwi, .int mle, .int mgr, .int mpr, .int mhp, .int mtk, .ref aMk, .ref aMl, .ref aMd, .ref aMs, .int mbn, .ref aMb, .int mmd, .ref aMo, .int mep, .ref aMc, .ref aMn, .ref aMfk, .ref aMfl, .ref aMfd, .ref aMg, .ref aMm, .int mat, .int mer])), (aMt, .inl (cyI, 64, .inl mtx))] sz) (fun (u : Unit) => [(aM, .inr (9, [.int mth, .int msz, .ref aMt, .int mwi, .int mle, .int mgr, .int mpr, .int mhp, .int mtk, .ref aMk, .ref aMl, .ref aMd, .ref aMs, .int mbn, .ref aMb, .int mmd, .ref aMo, .int mep, .ref aMc, .ref aMn, .ref aMfk, .ref aMfl, .ref aMfd, .ref aMg, .ref aMm, .int mat, .int mer])), (aMt, .inl (cyI, 64, .inl mtx))])) (va_A [(aM, .inr (9, [.int mth, .int msz, .ref aMt, .int mwi, .int mle, .int mgr, .int mpr, .int mhp, .int mtk, .ref aMk, .ref aMl, .ref aMd, .ref aMs, .int mbn, .ref aMb, .int mmd, .ref aMo, .int mep, .ref aMc, .ref aMn, .ref aMfk, .ref aMfl, .ref aMfd, .ref aMg, .ref aMm, .int mat, .int mer])), (aMt, .inl (cyI, 64, .inl mtx))] sz)) 0 0 (va_A [(aM, .inr (9, [.int mth, .int msz, .ref aMt, .int mwi, .int mle, .int mgr, .int mpr, .int mhp, .int mtk, .ref aMk, .ref aMl, .ref aMd, .ref aMs, .int mbn, .ref aMb, .int mmd, .ref aMo, .int mep, .ref aMc, .ref aMn, .ref aMfk, .ref aMfl, .ref aMfd, .ref aMg, .ref aMm, .int mat, .int mer])), (aMt, .inl (cyI, 64, .inl mtx))] sz) := by
  refine Met.ofW (cc := cX10_matchWith) (maxL := 4) (ret := (some .int)) (by decide) rfl ?_
  intro p e s m args below meth c s₁ B hml hv
  obtain ⟨rfl, hsz, hP, hK, hD0⟩ := hv
  have hx := B.exec
  have hb := B.bytes
  have hr := B.returns
  have hts := atoms_spec (ws := wsX10_matchWith) B.pre
  have hown : s.vm.findClass RX10 = some m.cls := findClass_of_methodNamed B.named
  have hlocks := B.notSynchronized
  subst hsz
  have hD := hD0.self (sz := s.heap.size)
  generalize hAe : va_A [(aM, .inr (9, [.int mth, .int msz, .ref aMt, .int mwi, .int mle, .int mgr, .int mpr, .int mhp, .int mtk, .ref aMk, .ref aMl, .ref aMd, .ref aMs, .int mbn, .ref aMb, .int mmd, .ref aMo, .int mep, .ref aMc, .ref aMn, .ref aMfk, .ref aMfl, .ref aMfd, .ref aMg, .ref aMm, .int mat, .int mer])), (aMt, .inl (cyI, 64, .inl mtx))] s.heap.size = A at hD ⊢
  have hA : ∀ q : Nat, s.heap.size ≤ q → A q := fun q h => by rw [← hAe]; exact Or.inr h
  have hS : va_S A s.heap s.heap [] := va_S.rf
  have hP : va_P (dC, dI) vwCl [(aM, .inr (9, [.int mth, .int msz, .ref aMt, .int mwi, .int mle, .int mgr, .int mpr, .int mhp, .int mtk, .ref aMk, .ref aMl, .ref aMd, .ref aMs, .int mbn, .ref aMb, .int mmd, .ref aMo, .int mep, .ref aMc, .ref aMn, .ref aMfk, .ref aMfl, .ref aMfd, .ref aMg, .ref aMm, .int mat, .int mer])), (aMt, .inl (cyI, 64, .inl mtx))] s.heap := hP
  have hl := lv_entry ([.ref aM, .int v1, .int v2]) (n := 4) (Nat.le_of_ble_eq_true rfl)
  rw [lg_entry_eq]
  generalize (lg_sl ([.ref aM, .int v1, .int v2]) ++ List.replicate (4 - (lg_sl ([.ref aM, .int v1, .int v2])).length) Slot.unset).toArray = ls at hl ⊢
  have hl : lv_has ls 4 [(0, .ref aM), (1, .int v1), (2, .int v2)] := hl
  have C0 : CallFix p m c cX10_matchWith 4 s ([.ref aM, .int v1, .int v2] : List Value).toArray wsX10_matchWith RX10 := ⟨hx, hb, hml, hown, hts⟩
  unfold wpX10_matchWith at h
  refine lv_aload_n hx hb dX10_matchWith_0 rfl (lv_at hl 0 rfl) ?_
  refine lv_iload_n hx hb dX10_matchWith_1 rfl (lv_at hl 1 rfl) ?_
  refine lv_iload_n hx hb dX10_matchWith_2 rfl (lv_at hl 2 rfl) ?_
  refine wk_calli (wc := [(aM, .inr (9, [.int mth, .int msz, .ref aMt, .int mwi, .int mle, .int mgr, .int mpr, .int mhp, .int mtk, .ref aMk, .ref aMl, .ref aMd, .ref aMs, .int mbn, .ref aMb, .int mmd, .ref aMo, .int mep, .ref aMc, .ref aMn, .ref aMfk, .ref aMfl, .ref aMfd, .ref aMg, .ref aMm, .int mat, .int mer])), (aMt, .inl (cyI, 64, .inl mtx))]) (wr := []) (va_runV (As := [.int v1, .int v2]) (rest := []) C0 (mtX10_goesOn l dC dI cyI (aM := aM) (aMt := aMt) (aMk := aMk) (aMl := aMl) (aMd := aMd) (aMs := aMs) (aMb := aMb) (aMo := aMo) (aMc := aMc) (aMn := aMn) (aMfk := aMfk) (aMfl := aMfl) (aMfd := aMfd) (aMg := aMg) (aMm := aMm) (sz := _) (mth := mth) (msz := msz) (mwi := mwi) (mle := mle) (mgr := mgr) (mpr := mpr) (mhp := mhp) (mtk := mtk) (mbn := mbn) (mmd := mmd) (mep := mep) (mat := mat) (mer := mer) (mtx := mtx) (v1 := v1) (v2 := v2) h) (cwV 2 hts gX10_matchWith_X10_goesOn rfl rfl rfl (by decide +kernel) ⟨(Nat.le_of_ble_eq_true rfl), (Nat.le_of_ble_eq_true rfl)⟩) (wk_preV (wc := [(aM, .inr (9, [.int mth, .int msz, .ref aMt, .int mwi, .int mle, .int mgr, .int mpr, .int mhp, .int mtk, .ref aMk, .ref aMl, .ref aMd, .ref aMs, .int mbn, .ref aMb, .int mmd, .ref aMo, .int mep, .ref aMc, .ref aMn, .ref aMfk, .ref aMfl, .ref aMfd, .ref aMg, .ref aMm, .int mat, .int mer])), (aMt, .inl (cyI, 64, .inl mtx))]) hK hP hD [0, 1] rfl (by decide) (va_recv hK hP (ci := 9) (q0 := 0) rfl rfl)) rfl rfl hl.1 rfl (lv_room (Nat.le_of_ble_eq_true rfl)) dX10_matchWith_3 ⟨(Nat.le_of_ble_eq_true rfl), (Nat.le_of_ble_eq_true rfl)⟩) hP hD hS hA [0, 1] [] rfl rfl (by decide) (by decide) (fun r_1 u9 H locs h hP hD hS => ?_)
  have hP : va_P (dC, dI) vwCl [(aM, .inr (9, [.int mth, .int msz, .ref aMt, .int mwi, .int mle, .int mgr, .int mpr, .int mhp, .int mtk, .ref aMk, .ref aMl, .ref aMd, .ref aMs, .int mbn, .ref aMb, .int mmd, .ref aMo, .int mep, .ref aMc, .ref aMn, .ref aMfk, .ref aMfl, .ref aMfd, .ref aMg, .ref aMm, .int mat, .int mer])), (aMt, .inl (cyI, 64, .inl mtx))] H := hP
  have hD : va_D A [(aM, .inr (9, [.int mth, .int msz, .ref aMt, .int mwi, .int mle, .int mgr, .int mpr, .int mhp, .int mtk, .ref aMk, .ref aMl, .ref aMd, .ref aMs, .int mbn, .ref aMb, .int mmd, .ref aMo, .int mep, .ref aMc, .ref aMn, .ref aMfk, .ref aMfl, .ref aMfd, .ref aMg, .ref aMm, .int mat, .int mer])), (aMt, .inl (cyI, 64, .inl mtx))] := hD
  refine lv_aload_n hx hb dX10_matchWith_6 rfl (lv_at hl 0 rfl) ?_
  refine va_get (D := (dC, dI)) (ci := 9) (v := .int mgr) (C := RX10) (T := TX10) (N := 27) hx hb hts inX10_matchWith_wsX100 hown hK hP 0 rfl rfl 5 (by decide) (hts _ qX10_matchWith_0) (fun _ h9 => h9) rfl dX10_matchWith_7 ?_
  refine va_mmin hx hb (hml.trans hl.1.symm) hown (hts _ qX10_matchWith_1) (hts _ qX10_matchWith_2) (hts _ qX10_matchWith_3) (hts _ qX10_matchWith_4) (Nat.le_of_ble_eq_true rfl) (Nat.le_of_ble_eq_true rfl) (Nat.zero_le _) (Nat.zero_le _) dX10_matchWith_10 ?_
  refine lv_istore_n (lv' := [(3, .int (if mgr < r_1 then mgr else r_1)), (0, .ref aM), (1, .int v1), (2, .int v2)]) hx hb dX10_matchWith_13 rfl hl (by decide) rfl (fun ls hl => ?_)
  refine lv_iload_n hx hb dX10_matchWith_14 rfl (lv_at hl 0 rfl) ?_
  refine lv_aload_n hx hb dX10_matchWith_15 rfl (lv_at hl 1 rfl) ?_
  refine va_get (D := (dC, dI)) (ci := 9) (v := .int mle) (C := RX10) (T := TX10) (N := 27) hx hb hts inX10_matchWith_wsX100 hown hK hP 0 rfl rfl 4 (by decide) (hts _ qX10_matchWith_5) (fun _ h9 => h9) rfl dX10_matchWith_16 ?_
  refine lv_icmp_ge (tgt := 26) hx hb dX10_matchWith_19 (by decide) (fun c_2 => ?_) (fun c_2 => ?_)
  · replace h := h.1 c_2
    refine lv_iload_n hx hb dX10_matchWith_26 rfl (lv_at hl 0 rfl) ?_
    have hP9 : va_P (dC, dI) vwCl [(aM, .inr (9, [.int mth, .int msz, .ref aMt, .int mwi, .int mle, .int mgr, .int mpr, .int mhp, .int mtk, .ref aMk, .ref aMl, .ref aMd, .ref aMs, .int mbn, .ref aMb, .int mmd, .ref aMo, .int mep, .ref aMc, .ref aMn, .ref aMfk, .ref aMfl, .ref aMfd, .ref aMg, .ref aMm, .int mat, .int mer])), (aMt, .inl (cyI, 64, .inl mtx))] _ := hP
    have hD9 : va_D A [(aM, .inr (9, [.int mth, .int msz, .ref aMt, .int mwi, .int mle, .int mgr, .int mpr, .int mhp, .int mtk, .ref aMk, .ref aMl, .ref aMd, .ref aMs, .int mbn, .ref aMb, .int mmd, .ref aMo, .int mep, .ref aMc, .ref aMn, .ref aMfk, .ref aMfl, .ref aMfd, .ref aMg, .ref aMm, .int mat, .int mer])), (aMt, .inl (cyI, 64, .inl mtx))] := hD
    exact W.iret (v := (if mgr < r_1 then mgr else r_1)) hx hb hr (fun t ht hW => ⟨⟨(if mgr < r_1 then mgr else r_1), (), rfl, h, by rw [ht]; exact hP9, va_K.moved hW.alike hK, hD9⟩, hS.F ht⟩) hS.2.2 dX10_matchWith_27
  · replace h := h.2 c_2
    refine lv_iconst (v := 0) hx hb dX10_matchWith_22 (by decide) ?_
    refine lv_goto (tgt := 27) hx hb dX10_matchWith_23 (by decide) ?_
    have hP9 : va_P (dC, dI) vwCl [(aM, .inr (9, [.int mth, .int msz, .ref aMt, .int mwi, .int mle, .int mgr, .int mpr, .int mhp, .int mtk, .ref aMk, .ref aMl, .ref aMd, .ref aMs, .int mbn, .ref aMb, .int mmd, .ref aMo, .int mep, .ref aMc, .ref aMn, .ref aMfk, .ref aMfl, .ref aMfd, .ref aMg, .ref aMm, .int mat, .int mer])), (aMt, .inl (cyI, 64, .inl mtx))] _ := hP
    have hD9 : va_D A [(aM, .inr (9, [.int mth, .int msz, .ref aMt, .int mwi, .int mle, .int mgr, .int mpr, .int mhp, .int mtk, .ref aMk, .ref aMl, .ref aMd, .ref aMs, .int mbn, .ref aMb, .int mmd, .ref aMo, .int mep, .ref aMc, .ref aMn, .ref aMfk, .ref aMfl, .ref aMfd, .ref aMg, .ref aMm, .int mat, .int mer])), (aMt, .inl (cyI, 64, .inl mtx))] := hD
    exact W.iret (v := 0) hx hb hr (fun t ht hW => ⟨⟨0, (), rfl, h, by rw [ht]; exact hP9, va_K.moved hW.alike hK, hD9⟩, hS.F ht⟩) hS.2.2 dX10_matchWith_27
-- X10_farthest
theorem qX10_farthest_0 : Cond.fieldLink RX10 13 "MatchCoderModel" "window" "I" ∈ wsX10_farthest := (List.mem_cons_of_mem _ (List.mem_append_left _ (List.mem_of_getElem? (i := 0) rfl)))
theorem qX10_farthest_1 : Cond.methodLink RX10 96 Lib.Math.min.name ∈ wsX10_farthest := (List.mem_cons_of_mem _ (List.mem_append_left _ (List.mem_of_getElem? (i := 1) rfl)))
theorem qX10_farthest_2 : Cond.static Lib.Math.min.name ∈ wsX10_farthest := (List.mem_cons_of_mem _ (List.mem_append_left _ (List.mem_of_getElem? (i := 2) rfl)))
theorem qX10_farthest_3 : Cond.initialized "java/lang/Math" ∈ wsX10_farthest := (List.mem_cons_of_mem _ (List.mem_append_left _ (List.mem_of_getElem? (i := 3) rfl)))
theorem qX10_farthest_4 : Cond.code Lib.Math.min.name Lib.Math.min.code 2 (some .int) ∈ wsX10_farthest := (List.mem_cons_of_mem _ (List.mem_append_left _ (List.mem_of_getElem? (i := 4) rfl)))
theorem inX10_farthest_wsX100 : ∀ w ∈ wsX100, w ∈ wsX10_farthest := fun _ h => List.mem_cons_of_mem _ (List.mem_append_right _ h)
def wpX10_farthest (mwi : Int32) (v1 : Int32) (post : Int32 → Prop) : Prop := post (if v1 < mwi then v1 else mwi)
set_option maxHeartbeats 4000000 in
set_option maxRecDepth 100000 in
theorem mtX10_farthest (l : Launch) (dC : Nat → ClassId) (dI : Nat → Nat → Nat) (cyI : ClassId) {aM aMt aMk aMl aMd aMs aMb aMo aMc aMn aMfk aMfl aMfd aMg aMm : Nat} {sz : Nat} {mth : Int32} {msz : Int32} {mwi : Int32} {mle : Int32} {mgr : Int32} {mpr : Int32} {mhp : Int32} {mtk : Int32} {mbn : Int32} {mmd : Int32} {mep : Int32} {mat : Int32} {mer : Int32} {v1 : Int32} {post : Int32 → Prop} (h : wpX10_farthest mwi v1 post) : Met l yX10_farthest wsX10_farthest ({ frames := 1, cells := 0, slots := 0, locals := 13 }) (va_Pc [.ref aM, .int v1] (wk_B (dC, dI) [(cyI, .int)] [(aM, .inr (9, [.int mth, .int msz, .ref aMt, .int mwi, .int mle, .int mgr, .int mpr, .int mhp, .int mtk, .ref aMk, .ref aMl, .ref aMd, .ref aMs, .int mbn, .ref aMb, .int mmd, .ref aMo, .int mep, .ref aMc, .ref aMn, .ref aMfk, .ref aMfl, .ref aMfd, .ref aMg, .ref aMm, .int mat, .int mer]))] sz)) (va_Qi (fun (r : Int32) (u : Unit) => post r ) (wk_C (dC, dI) [(cyI, .int)] (va_A [(aM, .inr (9, [.int mth, .int msz, .ref aMt, .int mwi, .int mle, .int mgr, .int mpr, .int mhp, .int mtk, .ref aMk, .ref aMl, .ref aMd, .ref aMs, .int mbn, .ref aMb, .int mmd, .ref aMo, .int mep, .ref aMc, .ref aMn, .ref aMfk, .ref aMfl, .ref aMfd, .ref aMg, .ref aMm, .int mat, .int mer]))] sz) (fun (u : Unit) => [(aM, .inr (9, [.int mth, .int msz, .ref aMt, .int mwi, .int mle, .int mgr, .int mpr, .int mhp, .int mtk, .ref aMk, .ref aMl, .ref aMd, .ref aMs, .int mbn, .ref aMb, .int mmd, .ref aMo, .int mep, .ref aMc, .ref aMn, .ref aMfk, .ref aMfl, .ref aMfd, .ref aMg, .ref aMm, .int mat, .int mer]))])) (va_A [(aM, .inr (9, [.int mth, .int msz, .ref aMt, .int mwi, .int mle, .int mgr, .int mpr, .int mhp, .int mtk, .ref aMk, .ref aMl, .ref aMd, .ref aMs, .int mbn, .ref aMb, .int mmd, .ref aMo, .int mep, .ref aMc, .ref aMn, .ref aMfk, .ref aMfl, .ref aMfd, .ref aMg, .ref aMm, .int mat, .int mer]))] sz)) 0 0 (va_A [(aM, .inr (9, [.int mth, .int msz, .ref aMt, .int mwi, .int mle, .int mgr, .int mpr, .int mhp, .int mtk, .ref aMk, .ref aMl, .ref aMd, .ref aMs, .int mbn, .ref aMb, .int mmd, .ref aMo, .int mep, .ref aMc, .ref aMn, .ref aMfk, .ref aMfl, .ref aMfd, .ref aMg, .ref aMm, .int mat, .int mer]))] sz) := by
  refine Met.ofW (cc := cX10_farthest) (maxL := 2) (ret := (some .int)) (by decide) rfl ?_
  intro p e s m args below meth c s₁ B hml hv
  obtain ⟨rfl, hsz, hP, hK, hD0⟩ := hv
  have hx := B.exec
  have hb := B.bytes
  have hr := B.returns
  have hts := atoms_spec (ws := wsX10_farthest) B.pre
  have hown : s.vm.findClass RX10 = some m.cls := findClass_of_methodNamed B.named
  have hlocks := B.notSynchronized
  subst hsz
  have hD := hD0.self (sz := s.heap.size)
  generalize hAe : va_A [(aM, .inr (9, [.int mth, .int msz, .ref aMt, .int mwi, .int mle, .int mgr, .int mpr, .int mhp, .int mtk, .ref aMk, .ref aMl, .ref aMd, .ref aMs, .int mbn, .ref aMb, .int mmd, .ref aMo, .int mep, .ref aMc, .ref aMn, .ref aMfk, .ref aMfl, .ref aMfd, .ref aMg, .ref aMm, .int mat, .int mer]))] s.heap.size = A at hD ⊢
  have hA : ∀ q : Nat, s.heap.size ≤ q → A q := fun q h => by rw [← hAe]; exact Or.inr h
  have hS : va_S A s.heap s.heap [] := va_S.rf
  have hP : va_P (dC, dI) vwCl [(aM, .inr (9, [.int mth, .int msz, .ref aMt, .int mwi, .int mle, .int mgr, .int mpr, .int mhp, .int mtk, .ref aMk, .ref aMl, .ref aMd, .ref aMs, .int mbn, .ref aMb, .int mmd, .ref aMo, .int mep, .ref aMc, .ref aMn, .ref aMfk, .ref aMfl, .ref aMfd, .ref aMg, .ref aMm, .int mat, .int mer]))] s.heap := hP
  have hl := lv_entry ([.ref aM, .int v1]) (n := 2) (Nat.le_of_ble_eq_true rfl)
  rw [lg_entry_eq]
  generalize (lg_sl ([.ref aM, .int v1]) ++ List.replicate (2 - (lg_sl ([.ref aM, .int v1])).length) Slot.unset).toArray = ls at hl ⊢
  have hl : lv_has ls 2 [(0, .ref aM), (1, .int v1)] := hl
  have C0 : CallFix p m c cX10_farthest 2 s ([.ref aM, .int v1] : List Value).toArray wsX10_farthest RX10 := ⟨hx, hb, hml, hown, hts⟩
  unfold wpX10_farthest at h
  refine lv_aload_n hx hb dX10_farthest_0 rfl (lv_at hl 0 rfl) ?_
  refine va_get (D := (dC, dI)) (ci := 9) (v := .int mwi) (C := RX10) (T := TX10) (N := 27) hx hb hts inX10_farthest_wsX100 hown hK hP 0 rfl rfl 3 (by decide) (hts _ qX10_farthest_0) (fun _ h9 => h9) rfl dX10_farthest_1 ?_
  refine lv_iload_n hx hb dX10_farthest_4 rfl (lv_at hl 1 rfl) ?_
  refine va_mmin hx hb (hml.trans hl.1.symm) hown (hts _ qX10_farthest_1) (hts _ qX10_farthest_2) (hts _ qX10_farthest_3) (hts _ qX10_farthest_4) (Nat.le_of_ble_eq_true rfl) (Nat.le_of_ble_eq_true rfl) (Nat.zero_le _) (Nat.zero_le _) dX10_farthest_5 ?_
  have hP9 : va_P (dC, dI) vwCl [(aM, .inr (9, [.int mth, .int msz, .ref aMt, .int mwi, .int mle, .int mgr, .int mpr, .int mhp, .int mtk, .ref aMk, .ref aMl, .ref aMd, .ref aMs, .int mbn, .ref aMb, .int mmd, .ref aMo, .int mep, .ref aMc, .ref aMn, .ref aMfk, .ref aMfl, .ref aMfd, .ref aMg, .ref aMm, .int mat, .int mer]))] _ := hP
  have hD9 : va_D A [(aM, .inr (9, [.int mth, .int msz, .ref aMt, .int mwi, .int mle, .int mgr, .int mpr, .int mhp, .int mtk, .ref aMk, .ref aMl, .ref aMd, .ref aMs, .int mbn, .ref aMb, .int mmd, .ref aMo, .int mep, .ref aMc, .ref aMn, .ref aMfk, .ref aMfl, .ref aMfd, .ref aMg, .ref aMm, .int mat, .int mer]))] := hD
  exact W.iret (v := (if v1 < mwi then v1 else mwi)) hx hb hr (fun t ht hW => ⟨⟨(if v1 < mwi then v1 else mwi), (), rfl, h, by rw [ht]; exact hP9, va_K.moved hW.alike hK, hD9⟩, hS.F ht⟩) hS.2.2 dX10_farthest_8
-- X10_longestAt
theorem qX10_longestAt_0 : Cond.methodLink RX10 107 Lib.Math.max.name ∈ wsX10_longestAt := (List.mem_cons_of_mem _ (List.mem_append_left _ (List.mem_append_left _ (List.mem_of_getElem? (i := 0) rfl))))
theorem qX10_longestAt_1 : Cond.static Lib.Math.max.name ∈ wsX10_longestAt := (List.mem_cons_of_mem _ (List.mem_append_left _ (List.mem_append_left _ (List.mem_of_getElem? (i := 1) rfl))))
theorem qX10_longestAt_2 : Cond.initialized "java/lang/Math" ∈ wsX10_longestAt := (List.mem_cons_of_mem _ (List.mem_append_left _ (List.mem_append_left _ (List.mem_of_getElem? (i := 2) rfl))))
theorem qX10_longestAt_3 : Cond.code Lib.Math.max.name Lib.Math.max.code 2 (some .int) ∈ wsX10_longestAt := (List.mem_cons_of_mem _ (List.mem_append_left _ (List.mem_append_left _ (List.mem_of_getElem? (i := 3) rfl))))
def wpX10_longestAt_4 (v1 : Int32) (msz : Int32) (mwi : Int32) (mle : Int32) (mgr : Int32) (mtx : Nat → Int32) (K30 : Int32 → Prop) : Nat → Int32 → Int32 → Prop
  | 0, _, _ => False
  | n4 + 1, v2, v3 => wpX10_farthest mwi v1 (fun (r_1 : Int32) => (r_1 < v3 → (K30 v2)) ∧ (¬ r_1 < v3 → (wpX10_matchWith msz mle mgr mtx v1 v3 (fun (r_3 : Int32) => wpX10_longestAt_4 v1 msz mwi mle mgr mtx K30 n4 (if v2 < r_3 then r_3 else v2) (v3 + 1)))))
set_option maxHeartbeats 4000000 in
set_option maxRecDepth 100000 in
theorem wlX10_longestAt_4 {p : Program} {l : Launch} {e : Env} {s : State} {m : MethodId} {args : Array Value} {below : List Frame} {meth : Method} {c : Code} {A : Nat → Prop} {Q : State → Prop} {dC : Nat → ClassId} {dI : Nat → Nat → Nat} {cyI : ClassId} {aM aMt aMk aMl aMd aMs aMb aMo aMc aMn aMfk aMfl aMfd aMg aMm : Nat} {v1 : Int32} {mth : Int32} {msz : Int32} {mwi : Int32} {mle : Int32} {mgr : Int32} {mpr : Int32} {mhp : Int32} {mtk : Int32} {mbn : Int32} {mmd : Int32} {mep : Int32} {mat : Int32} {mer : Int32} {mtx : Nat → Int32} {K30 : Int32 → Prop} (C0 : CallFix p m c cX10_longestAt 4 s args wsX10_longestAt RX10) (hA : ∀ q : Nat, s.heap.size ≤ q → A q) (hK : va_K (dC, dI) vwCl [(cyI, .int)] s) (hK30 : ∀ (v2 : Int32), K30 v2 → ∀ (H : Heap) (locs : List Loc) (ls : Array Slot), va_P (dC, dI) vwCl [(aM, .inr (9, [.int mth, .int msz, .ref aMt, .int mwi, .int mle, .int mgr, .int mpr, .int mhp, .int mtk, .ref aMk, .ref aMl, .ref aMd, .ref aMs, .int mbn, .ref aMb, .int mmd, .ref aMo, .int mep, .ref aMc, .ref aMn, .ref aMfk, .ref aMfl, .ref aMfd, .ref aMg, .ref aMm, .int mat, .int mer])), (aMt, .inl (cyI, 64, .inl mtx))] H → va_D A [(aM, .inr (9, [.int mth, .int msz, .ref aMt, .int mwi, .int mle, .int mgr, .int mpr, .int mhp, .int mtk, .ref aMk, .ref aMl, .ref aMd, .ref aMs, .int mbn, .ref aMb, .int mmd, .ref aMo, .int mep, .ref aMc, .ref aMn, .ref aMfk, .ref aMfl, .ref aMfd, .ref aMg, .ref aMm, .int mat, .int mer])), (aMt, .inl (cyI, 64, .inl mtx))] → va_S A s.heap H locs → lv_has ls 4 [(2, .int v2)] → W p l e ({ frames := 2, cells := 0, slots := 0, locals := 46 } : Room) s m args below meth c H locs 0 0 Q (F0 m 30 ls [])) :
    ∀ (n4 : Nat) (v2 : Int32) (v3 : Int32), wpX10_longestAt_4 v1 msz mwi mle mgr mtx K30 n4 v2 v3 → ∀ (H : Heap) (locs : List Loc) (ls : Array Slot), va_P (dC, dI) vwCl [(aM, .inr (9, [.int mth, .int msz, .ref aMt, .int mwi, .int mle, .int mgr, .int mpr, .int mhp, .int mtk, .ref aMk, .ref aMl, .ref aMd, .ref aMs, .int mbn, .ref aMb, .int mmd, .ref aMo, .int mep, .ref aMc, .ref aMn, .ref aMfk, .ref aMfl, .ref aMfd, .ref aMg, .ref aMm, .int mat, .int mer])), (aMt, .inl (cyI, 64, .inl mtx))] H → va_D A [(aM, .inr (9, [.int mth, .int msz, .ref aMt, .int mwi, .int mle, .int mgr, .int mpr, .int mhp, .int mtk, .ref aMk, .ref aMl, .ref aMd, .ref aMs, .int mbn, .ref aMb, .int mmd, .ref aMo, .int mep, .ref aMc, .ref aMn, .ref aMfk, .ref aMfl, .ref aMfd, .ref aMg, .ref aMm, .int mat, .int mer])), (aMt, .inl (cyI, 64, .inl mtx))] → va_S A s.heap H locs → lv_has ls 4 [(0, .ref aM), (1, .int v1), (2, .int v2), (3, .int v3)] → W p l e ({ frames := 2, cells := 0, slots := 0, locals := 46 } : Room) s m args below meth c H locs 0 0 Q (F0 m 4 ls []) := by
  obtain ⟨hx, hb, hml, hown, hts⟩ := id C0
  intro n4
  induction n4 with
  | zero => intro _ _ h; exact h.elim
  | succ n4 ih4 =>
    intro v2 v3 h H locs ls hP hD hS hl
    rw [wpX10_longestAt_4] at h
    refine lv_iload_n hx hb dX10_longestAt_4 rfl (lv_at hl 3 rfl) ?_
    refine lv_aload_n hx hb dX10_longestAt_5 rfl (lv_at hl 0 rfl) ?_
    refine lv_iload_n hx hb dX10_longestAt_6 rfl (lv_at hl 1 rfl) ?_
    refine wk_calli (wc := [(aM, .inr (9, [.int mth, .int msz, .ref aMt, .int mwi, .int mle, .int mgr, .int mpr, .int mhp, .int mtk, .ref aMk, .ref aMl, .ref aMd, .ref aMs, .int mbn, .ref aMb, .int mmd, .ref aMo, .int mep, .ref aMc, .ref aMn, .ref aMfk, .ref aMfl, .ref aMfd, .ref aMg, .ref aMm, .int mat, .int mer]))]) (wr := [(aMt, .inl (cyI, 64, .inl mtx))]) (va_runV (As := [.int v1]) (rest := [.int v3]) C0 (mtX10_farthest l dC dI cyI (aM := aM) (aMt := aMt) (aMk := aMk) (aMl := aMl) (aMd := aMd) (aMs := aMs) (aMb := aMb) (aMo := aMo) (aMc := aMc) (aMn := aMn) (aMfk := aMfk) (aMfl := aMfl) (aMfd := aMfd) (aMg := aMg) (aMm := aMm) (sz := _) (mth := mth) (msz := msz) (mwi := mwi) (mle := mle) (mgr := mgr) (mpr := mpr) (mhp := mhp) (mtk := mtk) (mbn := mbn) (mmd := mmd) (mep := mep) (mat := mat) (mer := mer) (v1 := v1) h) (cwV 1 hts gX10_longestAt_X10_farthest rfl rfl rfl (by decide +kernel) ⟨(Nat.le_of_ble_eq_true rfl), (Nat.le_of_ble_eq_true rfl)⟩) (wk_preV (wc := [(aM, .inr (9, [.int mth, .int msz, .ref aMt, .int mwi, .int mle, .int mgr, .int mpr, .int mhp, .int mtk, .ref aMk, .ref aMl, .ref aMd, .ref aMs, .int mbn, .ref aMb, .int mmd, .ref aMo, .int mep, .ref aMc, .ref aMn, .ref aMfk, .ref aMfl, .ref aMfd, .ref aMg, .ref aMm, .int mat, .int mer]))]) hK hP hD [0] rfl (by decide) (va_recv hK hP (ci := 9) (q0 := 0) rfl rfl)) rfl rfl hl.1 rfl (lv_room (Nat.le_of_ble_eq_true rfl)) dX10_longestAt_7 ⟨(Nat.le_of_ble_eq_true rfl), (Nat.le_of_ble_eq_true rfl)⟩) hP hD hS hA [0] [1] rfl rfl (by decide) (by decide) (fun r_1 u9 H locs h hP hD hS => ?_)
    have hP : va_P (dC, dI) vwCl [(aMt, .inl (cyI, 64, .inl mtx)), (aM, .inr (9, [.int mth, .int msz, .ref aMt, .int mwi, .int mle, .int mgr, .int mpr, .int mhp, .int mtk, .ref aMk, .ref aMl, .ref aMd, .ref aMs, .int mbn, .ref aMb, .int mmd, .ref aMo, .int mep, .ref aMc, .ref aMn, .ref aMfk, .ref aMfl, .ref aMfd, .ref aMg, .ref aMm, .int mat, .int mer]))] H := hP
    have hD : va_D A [(aMt, .inl (cyI, 64, .inl mtx)), (aM, .inr (9, [.int mth, .int msz, .ref aMt, .int mwi, .int mle, .int mgr, .int mpr, .int mhp, .int mtk, .ref aMk, .ref aMl, .ref aMd, .ref aMs, .int mbn, .ref aMb, .int mmd, .ref aMo, .int mep, .ref aMc, .ref aMn, .ref aMfk, .ref aMfl, .ref aMfd, .ref aMg, .ref aMm, .int mat, .int mer]))] := hD
    refine lv_icmp_gt (tgt := 30) hx hb dX10_longestAt_10 (by decide) (fun c_2 => ?_) (fun c_2 => ?_)
    · replace h := h.1 c_2
      exact hK30 _ h _ _ _ (hP.sub [1, 0] rfl) (hD.sub [1, 0] (by decide) rfl) hS (lv_sub hl [2] rfl)
    · replace h := h.2 c_2
      refine lv_iload_n hx hb dX10_longestAt_13 rfl (lv_at hl 2 rfl) ?_
      refine lv_aload_n hx hb dX10_longestAt_14 rfl (lv_at hl 0 rfl) ?_
      refine lv_iload_n hx hb dX10_longestAt_15 rfl (lv_at hl 1 rfl) ?_
      refine lv_iload_n hx hb dX10_longestAt_16 rfl (lv_at hl 3 rfl) ?_
      refine wk_calli (wc := [(aM, .inr (9, [.int mth, .int msz, .ref aMt, .int mwi, .int mle, .int mgr, .int mpr, .int mhp, .int mtk, .ref aMk, .ref aMl, .ref aMd, .ref aMs, .int mbn, .ref aMb, .int mmd, .ref aMo, .int mep, .ref aMc, .ref aMn, .ref aMfk, .ref aMfl, .ref aMfd, .ref aMg, .ref aMm, .int mat, .int mer])), (aMt, .inl (cyI, 64, .inl mtx))]) (wr := []) (va_runV (As := [.int v1, .int v3]) (rest := [.int v2]) C0 (mtX10_matchWith l dC dI cyI (aM := aM) (aMt := aMt) (aMk := aMk) (aMl := aMl) (aMd := aMd) (aMs := aMs) (aMb := aMb) (aMo := aMo) (aMc := aMc) (aMn := aMn) (aMfk := aMfk) (aMfl := aMfl) (aMfd := aMfd) (aMg := aMg) (aMm := aMm) (sz := _) (mth := mth) (msz := msz) (mwi := mwi) (mle := mle) (mgr := mgr) (mpr := mpr) (mhp := mhp) (mtk := mtk) (mbn := mbn) (mmd := mmd) (mep := mep) (mat := mat) (mer := mer) (mtx := mtx) (v1 := v1) (v2 := v3) h) (cwV 2 hts gX10_longestAt_X10_matchWith rfl rfl rfl (by decide +kernel) ⟨(Nat.le_of_ble_eq_true rfl), (Nat.le_of_ble_eq_true rfl)⟩) (wk_preV (wc := [(aM, .inr (9, [.int mth, .int msz, .ref aMt, .int mwi, .int mle, .int mgr, .int mpr, .int mhp, .int mtk, .ref aMk, .ref aMl, .ref aMd, .ref aMs, .int mbn, .ref aMb, .int mmd, .ref aMo, .int mep, .ref aMc, .ref aMn, .ref aMfk, .ref aMfl, .ref aMfd, .ref aMg, .ref aMm, .int mat, .int mer])), (aMt, .inl (cyI, 64, .inl mtx))]) hK hP hD [1, 0] rfl (by decide) (va_recv hK hP (ci := 9) (q0 := 1) rfl rfl)) rfl rfl hl.1 rfl (lv_room (Nat.le_of_ble_eq_true rfl)) dX10_longestAt_17 ⟨(Nat.le_of_ble_eq_true rfl), (Nat.le_of_ble_eq_true rfl)⟩) hP hD hS hA [1, 0] [] rfl rfl (by decide) (by decide) (fun r_3 u9 H locs h hP hD hS => ?_)
      have hP : va_P (dC, dI) vwCl [(aM, .inr (9, [.int mth, .int msz, .ref aMt, .int mwi, .int mle, .int mgr, .int mpr, .int mhp, .int mtk, .ref aMk, .ref aMl, .ref aMd, .ref aMs, .int mbn, .ref aMb, .int mmd, .ref aMo, .int mep, .ref aMc, .ref aMn, .ref aMfk, .ref aMfl, .ref aMfd, .ref aMg, .ref aMm, .int mat, .int mer])), (aMt, .inl (cyI, 64, .inl mtx))] H := hP
      have hD : va_D A [(aM, .inr (9, [.int mth, .int msz, .ref aMt, .int mwi, .int mle, .int mgr, .int mpr, .int mhp, .int mtk, .ref aMk, .ref aMl, .ref aMd, .ref aMs, .int mbn, .ref aMb, .int mmd, .ref aMo, .int mep, .ref aMc, .ref aMn, .ref aMfk, .ref aMfl, .ref aMfd, .ref aMg, .ref aMm, .int mat, .int mer])), (aMt, .inl (cyI, 64, .inl mtx))] := hD
      refine va_mmax hx hb (hml.trans hl.1.symm) hown (hts _ qX10_longestAt_0) (hts _ qX10_longestAt_1) (hts _ qX10_longestAt_2) (hts _ qX10_longestAt_3) (Nat.le_of_ble_eq_true rfl) (Nat.le_of_ble_eq_true rfl) (Nat.zero_le _) (Nat.zero_le _) dX10_longestAt_20 ?_
      refine lv_istore_n (lv' := [(2, .int (if v2 < r_3 then r_3 else v2)), (0, .ref aM), (1, .int v1), (3, .int v3)]) hx hb dX10_longestAt_23 rfl hl (by decide) rfl (fun ls hl => ?_)
      refine lv_iinc (v := v3 + 1) (lv' := [(3, .int (v3 + 1)), (2, .int (if v2 < r_3 then r_3 else v2)), (0, .ref aM), (1, .int v1)]) hx hb dX10_longestAt_24 hl (k := 3) rfl rfl (by decide) rfl (fun ls hl => ?_)
      refine lv_goto (tgt := 4) hx hb dX10_longestAt_27 (by decide) ?_
      exact ih4 _ _ h _ _ _ hP hD hS (lv_sub hl [2, 3, 1, 0] rfl)
def wpX10_longestAt (msz : Int32) (mwi : Int32) (mle : Int32) (mgr : Int32) (mtx : Nat → Int32) (v1 : Int32) (post : Int32 → Prop) : Prop := ∃ n4 : Nat, wpX10_longestAt_4 v1 msz mwi mle mgr mtx (fun (v2_4 : Int32) => post v2_4) n4 0 1
set_option maxHeartbeats 4000000 in
set_option maxRecDepth 100000 in
theorem mtX10_longestAt (l : Launch) (dC : Nat → ClassId) (dI : Nat → Nat → Nat) (cyI : ClassId) {aM aMt aMk aMl aMd aMs aMb aMo aMc aMn aMfk aMfl aMfd aMg aMm : Nat} {sz : Nat} {mth : Int32} {msz : Int32} {mwi : Int32} {mle : Int32} {mgr : Int32} {mpr : Int32} {mhp : Int32} {mtk : Int32} {mbn : Int32} {mmd : Int32} {mep : Int32} {mat : Int32} {mer : Int32} {mtx : Nat → Int32} {v1 : Int32} {post : Int32 → Prop} (h : wpX10_longestAt msz mwi mle mgr mtx v1 post) : Met l yX10_longestAt wsX10_longestAt ({ frames := 2, cells := 0, slots := 0, locals := 46 }) (va_Pc [.ref aM, .int v1] (wk_B (dC, dI) [(cyI, .int)] [(aM, .inr (9, [.int mth, .int msz, .ref aMt, .int mwi, .int mle, .int mgr, .int mpr, .int mhp, .int mtk, .ref aMk, .ref aMl, .ref aMd, .ref aMs, .int mbn, .ref aMb, .int mmd, .ref aMo, .int mep, .ref aMc, .ref aMn, .ref aMfk, .ref aMfl, .ref aMfd, .ref aMg, .ref aMm, .int mat, .int mer])), (aMt, .inl (cyI, 64, .inl mtx))] sz)) (va_Qi (fun (r : Int32) (u : Unit) => post r ) (wk_C (dC, dI) [(cyI, .int)] (va_A [(aM, .inr (9, [.int mth, .int msz, .ref aMt, .int mwi, .int mle, .int mgr, .int mpr, .int mhp, .int mtk, .ref aMk, .ref aMl, .ref aMd, .ref aMs, .int mbn, .ref aMb, .int mmd, .ref aMo, .int mep, .ref aMc, .ref aMn, .ref aMfk, .ref aMfl, .ref aMfd, .ref aMg, .ref aMm, .int mat, .int mer])), (aMt, .inl (cyI, 64, .inl mtx))] sz) (fun (u : Unit) => [(aM, .inr (9, [.int mth, .int msz, .ref aMt, .int mwi, .int mle, .int mgr, .int mpr, .int mhp, .int mtk, .ref aMk, .ref aMl, .ref aMd, .ref aMs, .int mbn, .ref aMb, .int mmd, .ref aMo, .int mep, .ref aMc, .ref aMn, .ref aMfk, .ref aMfl, .ref aMfd, .ref aMg, .ref aMm, .int mat, .int mer])), (aMt, .inl (cyI, 64, .inl mtx))])) (va_A [(aM, .inr (9, [.int mth, .int msz, .ref aMt, .int mwi, .int mle, .int mgr, .int mpr, .int mhp, .int mtk, .ref aMk, .ref aMl, .ref aMd, .ref aMs, .int mbn, .ref aMb, .int mmd, .ref aMo, .int mep, .ref aMc, .ref aMn, .ref aMfk, .ref aMfl, .ref aMfd, .ref aMg, .ref aMm, .int mat, .int mer])), (aMt, .inl (cyI, 64, .inl mtx))] sz)) 0 0 (va_A [(aM, .inr (9, [.int mth, .int msz, .ref aMt, .int mwi, .int mle, .int mgr, .int mpr, .int mhp, .int mtk, .ref aMk, .ref aMl, .ref aMd, .ref aMs, .int mbn, .ref aMb, .int mmd, .ref aMo, .int mep, .ref aMc, .ref aMn, .ref aMfk, .ref aMfl, .ref aMfd, .ref aMg, .ref aMm, .int mat, .int mer])), (aMt, .inl (cyI, 64, .inl mtx))] sz) := by
  refine Met.ofW (cc := cX10_longestAt) (maxL := 4) (ret := (some .int)) (by decide) rfl ?_
  intro p e s m args below meth c s₁ B hml hv
  obtain ⟨rfl, hsz, hP, hK, hD0⟩ := hv
  have hx := B.exec
  have hb := B.bytes
  have hr := B.returns
  have hts := atoms_spec (ws := wsX10_longestAt) B.pre
  have hown : s.vm.findClass RX10 = some m.cls := findClass_of_methodNamed B.named
  have hlocks := B.notSynchronized
  subst hsz
  have hD := hD0.self (sz := s.heap.size)
  generalize hAe : va_A [(aM, .inr (9, [.int mth, .int msz, .ref aMt, .int mwi, .int mle, .int mgr, .int mpr, .int mhp, .int mtk, .ref aMk, .ref aMl, .ref aMd, .ref aMs, .int mbn, .ref aMb, .int mmd, .ref aMo, .int mep, .ref aMc, .ref aMn, .ref aMfk, .ref aMfl, .ref aMfd, .ref aMg, .ref aMm, .int mat, .int mer])), (aMt, .inl (cyI, 64, .inl mtx))] s.heap.size = A at hD ⊢
  have hA : ∀ q : Nat, s.heap.size ≤ q → A q := fun q h => by rw [← hAe]; exact Or.inr h
  have hS : va_S A s.heap s.heap [] := va_S.rf
  have hP : va_P (dC, dI) vwCl [(aM, .inr (9, [.int mth, .int msz, .ref aMt, .int mwi, .int mle, .int mgr, .int mpr, .int mhp, .int mtk, .ref aMk, .ref aMl, .ref aMd, .ref aMs, .int mbn, .ref aMb, .int mmd, .ref aMo, .int mep, .ref aMc, .ref aMn, .ref aMfk, .ref aMfl, .ref aMfd, .ref aMg, .ref aMm, .int mat, .int mer])), (aMt, .inl (cyI, 64, .inl mtx))] s.heap := hP
  have hl := lv_entry ([.ref aM, .int v1]) (n := 4) (Nat.le_of_ble_eq_true rfl)
  rw [lg_entry_eq]
  generalize (lg_sl ([.ref aM, .int v1]) ++ List.replicate (4 - (lg_sl ([.ref aM, .int v1])).length) Slot.unset).toArray = ls at hl ⊢
  have hl : lv_has ls 4 [(0, .ref aM), (1, .int v1)] := hl
  have C0 : CallFix p m c cX10_longestAt 4 s ([.ref aM, .int v1] : List Value).toArray wsX10_longestAt RX10 := ⟨hx, hb, hml, hown, hts⟩
  unfold wpX10_longestAt at h
  refine lv_iconst (v := 0) hx hb dX10_longestAt_0 (by decide) ?_
  refine lv_istore_n (lv' := [(2, .int 0), (0, .ref aM), (1, .int v1)]) hx hb dX10_longestAt_1 rfl hl (by decide) rfl (fun ls hl => ?_)
  refine lv_iconst (v := 1) hx hb dX10_longestAt_2 (by decide) ?_
  refine lv_istore_n (lv' := [(3, .int 1), (2, .int 0), (0, .ref aM), (1, .int v1)]) hx hb dX10_longestAt_3 rfl hl (by decide) rfl (fun ls hl => ?_)
  obtain ⟨n4, h⟩ := h
  refine wlX10_longestAt_4 C0 hA hK ?_ n4 _ _ h _ _ _ hP hD hS (lv_sub hl [2, 3, 1, 0] rfl)
  · intro v2_4 h H locs ls hP hD hS hl
    refine lv_iload_n hx hb dX10_longestAt_30 rfl (lv_at hl 0 rfl) ?_
    have hP9 : va_P (dC, dI) vwCl [(aM, .inr (9, [.int mth, .int msz, .ref aMt, .int mwi, .int mle, .int mgr, .int mpr, .int mhp, .int mtk, .ref aMk, .ref aMl, .ref aMd, .ref aMs, .int mbn, .ref aMb, .int mmd, .ref aMo, .int mep, .ref aMc, .ref aMn, .ref aMfk, .ref aMfl, .ref aMfd, .ref aMg, .ref aMm, .int mat, .int mer])), (aMt, .inl (cyI, 64, .inl mtx))] _ := hP
    have hD9 : va_D A [(aM, .inr (9, [.int mth, .int msz, .ref aMt, .int mwi, .int mle, .int mgr, .int mpr, .int mhp, .int mtk, .ref aMk, .ref aMl, .ref aMd, .ref aMs, .int mbn, .ref aMb, .int mmd, .ref aMo, .int mep, .ref aMc, .ref aMn, .ref aMfk, .ref aMfl, .ref aMfd, .ref aMg, .ref aMm, .int mat, .int mer])), (aMt, .inl (cyI, 64, .inl mtx))] := hD
    exact W.iret (v := v2_4) hx hb hr (fun t ht hW => ⟨⟨v2_4, (), rfl, h, by rw [ht]; exact hP9, va_K.moved hW.alike hK, hD9⟩, hS.F ht⟩) hS.2.2 dX10_longestAt_31
-- X10_nearestAt
def wpX10_nearestAt_8 (v1 : Int32) (v2 : Int32) (msz : Int32) (mle : Int32) (mgr : Int32) (mtx : Nat → Int32) (K28 : Int32 → Prop) : Nat → Int32 → Prop
  | 0, _ => False
  | n8 + 1, v3 => (v2 ≤ 0 → (K28 v3)) ∧ (¬ v2 ≤ 0 → (wpX10_matchWith msz mle mgr mtx v1 v3 (fun (r_3 : Int32) => (v2 ≤ r_3 → (K28 v3)) ∧ (¬ v2 ≤ r_3 → (wpX10_nearestAt_8 v1 v2 msz mle mgr mtx K28 n8 (v3 + 1))))))
set_option maxHeartbeats 4000000 in
set_option maxRecDepth 100000 in
theorem wlX10_nearestAt_8 {p : Program} {l : Launch} {e : Env} {s : State} {m : MethodId} {args : Array Value} {below : List Frame} {meth : Method} {c : Code} {A : Nat → Prop} {Q : State → Prop} {dC : Nat → ClassId} {dI : Nat → Nat → Nat} {cyI : ClassId} {aM aMt aMk aMl aMd aMs aMb aMo aMc aMn aMfk aMfl aMfd aMg aMm : Nat} {v1 : Int32} {v2 : Int32} {mth : Int32} {msz : Int32} {mwi : Int32} {mle : Int32} {mgr : Int32} {mpr : Int32} {mhp : Int32} {mtk : Int32} {mbn : Int32} {mmd : Int32} {mep : Int32} {mat : Int32} {mer : Int32} {mtx : Nat → Int32} {K28 : Int32 → Prop} (C0 : CallFix p m c cX10_nearestAt 4 s args wsX10_nearestAt RX10) (hA : ∀ q : Nat, s.heap.size ≤ q → A q) (hK : va_K (dC, dI) vwCl [(cyI, .int)] s) (hK28 : ∀ (v3 : Int32), K28 v3 → ∀ (H : Heap) (locs : List Loc) (ls : Array Slot), va_P (dC, dI) vwCl [(aM, .inr (9, [.int mth, .int msz, .ref aMt, .int mwi, .int mle, .int mgr, .int mpr, .int mhp, .int mtk, .ref aMk, .ref aMl, .ref aMd, .ref aMs, .int mbn, .ref aMb, .int mmd, .ref aMo, .int mep, .ref aMc, .ref aMn, .ref aMfk, .ref aMfl, .ref aMfd, .ref aMg, .ref aMm, .int mat, .int mer])), (aMt, .inl (cyI, 64, .inl mtx))] H → va_D A [(aM, .inr (9, [.int mth, .int msz, .ref aMt, .int mwi, .int mle, .int mgr, .int mpr, .int mhp, .int mtk, .ref aMk, .ref aMl, .ref aMd, .ref aMs, .int mbn, .ref aMb, .int mmd, .ref aMo, .int mep, .ref aMc, .ref aMn, .ref aMfk, .ref aMfl, .ref aMfd, .ref aMg, .ref aMm, .int mat, .int mer])), (aMt, .inl (cyI, 64, .inl mtx))] → va_S A s.heap H locs → lv_has ls 4 [(2, .int v2), (3, .int v3)] → W p l e ({ frames := 3, cells := 0, slots := 0, locals := 69 } : Room) s m args below meth c H locs 0 0 Q (F0 m 28 ls [])) :
    ∀ (n8 : Nat) (v3 : Int32), wpX10_nearestAt_8 v1 v2 msz mle mgr mtx K28 n8 v3 → ∀ (H : Heap) (locs : List Loc) (ls : Array Slot), va_P (dC, dI) vwCl [(aM, .inr (9, [.int mth, .int msz, .ref aMt, .int mwi, .int mle, .int mgr, .int mpr, .int mhp, .int mtk, .ref aMk, .ref aMl, .ref aMd, .ref aMs, .int mbn, .ref aMb, .int mmd, .ref aMo, .int mep, .ref aMc, .ref aMn, .ref aMfk, .ref aMfl, .ref aMfd, .ref aMg, .ref aMm, .int mat, .int mer])), (aMt, .inl (cyI, 64, .inl mtx))] H → va_D A [(aM, .inr (9, [.int mth, .int msz, .ref aMt, .int mwi, .int mle, .int mgr, .int mpr, .int mhp, .int mtk, .ref aMk, .ref aMl, .ref aMd, .ref aMs, .int mbn, .ref aMb, .int mmd, .ref aMo, .int mep, .ref aMc, .ref aMn, .ref aMfk, .ref aMfl, .ref aMfd, .ref aMg, .ref aMm, .int mat, .int mer])), (aMt, .inl (cyI, 64, .inl mtx))] → va_S A s.heap H locs → lv_has ls 4 [(0, .ref aM), (1, .int v1), (2, .int v2), (3, .int v3)] → W p l e ({ frames := 3, cells := 0, slots := 0, locals := 69 } : Room) s m args below meth c H locs 0 0 Q (F0 m 8 ls []) := by
  obtain ⟨hx, hb, hml, hown, hts⟩ := id C0
  intro n8
  induction n8 with
  | zero => intro _ h; exact h.elim
  | succ n8 ih8 =>
    intro v3 h H locs ls hP hD hS hl
    rw [wpX10_nearestAt_8] at h
    refine lv_iload_n hx hb dX10_nearestAt_8 rfl (lv_at hl 2 rfl) ?_
    refine lv_if_le (tgt := 28) hx hb dX10_nearestAt_9 (by decide) (fun c_2 => ?_) (fun c_2 => ?_)
    · replace h := h.1 c_2
      exact hK28 _ h _ _ _ hP hD hS (lv_sub hl [2, 3] rfl)
    · replace h := h.2 c_2
      refine lv_aload_n hx hb dX10_nearestAt_12 rfl (lv_at hl 0 rfl) ?_
      refine lv_iload_n hx hb dX10_nearestAt_13 rfl (lv_at hl 1 rfl) ?_
      refine lv_iload_n hx hb dX10_nearestAt_14 rfl (lv_at hl 3 rfl) ?_
      refine wk_calli (wc := [(aM, .inr (9, [.int mth, .int msz, .ref aMt, .int mwi, .int mle, .int mgr, .int mpr, .int mhp, .int mtk, .ref aMk, .ref aMl, .ref aMd, .ref aMs, .int mbn, .ref aMb, .int mmd, .ref aMo, .int mep, .ref aMc, .ref aMn, .ref aMfk, .ref aMfl, .ref aMfd, .ref aMg, .ref aMm, .int mat, .int mer])), (aMt, .inl (cyI, 64, .inl mtx))]) (wr := []) (va_runV (As := [.int v1, .int v3]) (rest := []) C0 (mtX10_matchWith l dC dI cyI (aM := aM) (aMt := aMt) (aMk := aMk) (aMl := aMl) (aMd := aMd) (aMs := aMs) (aMb := aMb) (aMo := aMo) (aMc := aMc) (aMn := aMn) (aMfk := aMfk) (aMfl := aMfl) (aMfd := aMfd) (aMg := aMg) (aMm := aMm) (sz := _) (mth := mth) (msz := msz) (mwi := mwi) (mle := mle) (mgr := mgr) (mpr := mpr) (mhp := mhp) (mtk := mtk) (mbn := mbn) (mmd := mmd) (mep := mep) (mat := mat) (mer := mer) (mtx := mtx) (v1 := v1) (v2 := v3) h) (cwV 2 hts gX10_nearestAt_X10_matchWith rfl rfl rfl (by decide +kernel) ⟨(Nat.le_of_ble_eq_true rfl), (Nat.le_of_ble_eq_true rfl)⟩) (wk_preV (wc := [(aM, .inr (9, [.int mth, .int msz, .ref aMt, .int mwi, .int mle, .int mgr, .int mpr, .int mhp, .int mtk, .ref aMk, .ref aMl, .ref aMd, .ref aMs, .int mbn, .ref aMb, .int mmd, .ref aMo, .int mep, .ref aMc, .ref aMn, .ref aMfk, .ref aMfl, .ref aMfd, .ref aMg, .ref aMm, .int mat, .int mer])), (aMt, .inl (cyI, 64, .inl mtx))]) hK hP hD [0, 1] rfl (by decide) (va_recv hK hP (ci := 9) (q0 := 0) rfl rfl)) rfl rfl hl.1 rfl (lv_room (Nat.le_of_ble_eq_true rfl)) dX10_nearestAt_15 ⟨(Nat.le_of_ble_eq_true rfl), (Nat.le_of_ble_eq_true rfl)⟩) hP hD hS hA [0, 1] [] rfl rfl (by decide) (by decide) (fun r_3 u9 H locs h hP hD hS => ?_)
      have hP : va_P (dC, dI) vwCl [(aM, .inr (9, [.int mth, .int msz, .ref aMt, .int mwi, .int mle, .int mgr, .int mpr, .int mhp, .int mtk, .ref aMk, .ref aMl, .ref aMd, .ref aMs, .int mbn, .ref aMb, .int mmd, .ref aMo, .int mep, .ref aMc, .ref aMn, .ref aMfk, .ref aMfl, .ref aMfd, .ref aMg, .ref aMm, .int mat, .int mer])), (aMt, .inl (cyI, 64, .inl mtx))] H := hP
      have hD : va_D A [(aM, .inr (9, [.int mth, .int msz, .ref aMt, .int mwi, .int mle, .int mgr, .int mpr, .int mhp, .int mtk, .ref aMk, .ref aMl, .ref aMd, .ref aMs, .int mbn, .ref aMb, .int mmd, .ref aMo, .int mep, .ref aMc, .ref aMn, .ref aMfk, .ref aMfl, .ref aMfd, .ref aMg, .ref aMm, .int mat, .int mer])), (aMt, .inl (cyI, 64, .inl mtx))] := hD
      refine lv_iload_n hx hb dX10_nearestAt_18 rfl (lv_at hl 2 rfl) ?_
      refine lv_icmp_ge (tgt := 28) hx hb dX10_nearestAt_19 (by decide) (fun c_4 => ?_) (fun c_4 => ?_)
      · replace h := h.1 c_4
        exact hK28 _ h _ _ _ hP hD hS (lv_sub hl [2, 3] rfl)
      · replace h := h.2 c_4
        refine lv_iinc (v := v3 + 1) (lv' := [(3, .int (v3 + 1)), (0, .ref aM), (1, .int v1), (2, .int v2)]) hx hb dX10_nearestAt_22 hl (k := 3) rfl rfl (by decide) rfl (fun ls hl => ?_)
        refine lv_goto (tgt := 8) hx hb dX10_nearestAt_25 (by decide) ?_
        exact ih8 _ h _ _ _ hP hD hS (lv_sub hl [1, 2, 3, 0] rfl)
def wpX10_nearestAt (msz : Int32) (mwi : Int32) (mle : Int32) (mgr : Int32) (mtx : Nat → Int32) (v1 : Int32) (post : Int32 → Prop) : Prop := wpX10_longestAt msz mwi mle mgr mtx v1 (fun (r_1 : Int32) => ∃ n8 : Nat, wpX10_nearestAt_8 v1 r_1 msz mle mgr mtx (fun (v3_5 : Int32) => (r_1 = 0 → (post 0)) ∧ (¬ r_1 = 0 → (post v3_5))) n8 1)
set_option maxHeartbeats 4000000 in
set_option maxRecDepth 100000 in
theorem mtX10_nearestAt (l : Launch) (dC : Nat → ClassId) (dI : Nat → Nat → Nat) (cyI : ClassId) {aM aMt aMk aMl aMd aMs aMb aMo aMc aMn aMfk aMfl aMfd aMg aMm : Nat} {sz : Nat} {mth : Int32} {msz : Int32} {mwi : Int32} {mle : Int32} {mgr : Int32} {mpr : Int32} {mhp : Int32} {mtk : Int32} {mbn : Int32} {mmd : Int32} {mep : Int32} {mat : Int32} {mer : Int32} {mtx : Nat → Int32} {v1 : Int32} {post : Int32 → Prop} (h : wpX10_nearestAt msz mwi mle mgr mtx v1 post) : Met l yX10_nearestAt wsX10_nearestAt ({ frames := 3, cells := 0, slots := 0, locals := 69 }) (va_Pc [.ref aM, .int v1] (wk_B (dC, dI) [(cyI, .int)] [(aM, .inr (9, [.int mth, .int msz, .ref aMt, .int mwi, .int mle, .int mgr, .int mpr, .int mhp, .int mtk, .ref aMk, .ref aMl, .ref aMd, .ref aMs, .int mbn, .ref aMb, .int mmd, .ref aMo, .int mep, .ref aMc, .ref aMn, .ref aMfk, .ref aMfl, .ref aMfd, .ref aMg, .ref aMm, .int mat, .int mer])), (aMt, .inl (cyI, 64, .inl mtx))] sz)) (va_Qi (fun (r : Int32) (u : Unit) => post r ) (wk_C (dC, dI) [(cyI, .int)] (va_A [(aM, .inr (9, [.int mth, .int msz, .ref aMt, .int mwi, .int mle, .int mgr, .int mpr, .int mhp, .int mtk, .ref aMk, .ref aMl, .ref aMd, .ref aMs, .int mbn, .ref aMb, .int mmd, .ref aMo, .int mep, .ref aMc, .ref aMn, .ref aMfk, .ref aMfl, .ref aMfd, .ref aMg, .ref aMm, .int mat, .int mer])), (aMt, .inl (cyI, 64, .inl mtx))] sz) (fun (u : Unit) => [(aM, .inr (9, [.int mth, .int msz, .ref aMt, .int mwi, .int mle, .int mgr, .int mpr, .int mhp, .int mtk, .ref aMk, .ref aMl, .ref aMd, .ref aMs, .int mbn, .ref aMb, .int mmd, .ref aMo, .int mep, .ref aMc, .ref aMn, .ref aMfk, .ref aMfl, .ref aMfd, .ref aMg, .ref aMm, .int mat, .int mer])), (aMt, .inl (cyI, 64, .inl mtx))])) (va_A [(aM, .inr (9, [.int mth, .int msz, .ref aMt, .int mwi, .int mle, .int mgr, .int mpr, .int mhp, .int mtk, .ref aMk, .ref aMl, .ref aMd, .ref aMs, .int mbn, .ref aMb, .int mmd, .ref aMo, .int mep, .ref aMc, .ref aMn, .ref aMfk, .ref aMfl, .ref aMfd, .ref aMg, .ref aMm, .int mat, .int mer])), (aMt, .inl (cyI, 64, .inl mtx))] sz)) 0 0 (va_A [(aM, .inr (9, [.int mth, .int msz, .ref aMt, .int mwi, .int mle, .int mgr, .int mpr, .int mhp, .int mtk, .ref aMk, .ref aMl, .ref aMd, .ref aMs, .int mbn, .ref aMb, .int mmd, .ref aMo, .int mep, .ref aMc, .ref aMn, .ref aMfk, .ref aMfl, .ref aMfd, .ref aMg, .ref aMm, .int mat, .int mer])), (aMt, .inl (cyI, 64, .inl mtx))] sz) := by
  refine Met.ofW (cc := cX10_nearestAt) (maxL := 4) (ret := (some .int)) (by decide) rfl ?_
  intro p e s m args below meth c s₁ B hml hv
  obtain ⟨rfl, hsz, hP, hK, hD0⟩ := hv
  have hx := B.exec
  have hb := B.bytes
  have hr := B.returns
  have hts := atoms_spec (ws := wsX10_nearestAt) B.pre
  have hown : s.vm.findClass RX10 = some m.cls := findClass_of_methodNamed B.named
  have hlocks := B.notSynchronized
  subst hsz
  have hD := hD0.self (sz := s.heap.size)
  generalize hAe : va_A [(aM, .inr (9, [.int mth, .int msz, .ref aMt, .int mwi, .int mle, .int mgr, .int mpr, .int mhp, .int mtk, .ref aMk, .ref aMl, .ref aMd, .ref aMs, .int mbn, .ref aMb, .int mmd, .ref aMo, .int mep, .ref aMc, .ref aMn, .ref aMfk, .ref aMfl, .ref aMfd, .ref aMg, .ref aMm, .int mat, .int mer])), (aMt, .inl (cyI, 64, .inl mtx))] s.heap.size = A at hD ⊢
  have hA : ∀ q : Nat, s.heap.size ≤ q → A q := fun q h => by rw [← hAe]; exact Or.inr h
  have hS : va_S A s.heap s.heap [] := va_S.rf
  have hP : va_P (dC, dI) vwCl [(aM, .inr (9, [.int mth, .int msz, .ref aMt, .int mwi, .int mle, .int mgr, .int mpr, .int mhp, .int mtk, .ref aMk, .ref aMl, .ref aMd, .ref aMs, .int mbn, .ref aMb, .int mmd, .ref aMo, .int mep, .ref aMc, .ref aMn, .ref aMfk, .ref aMfl, .ref aMfd, .ref aMg, .ref aMm, .int mat, .int mer])), (aMt, .inl (cyI, 64, .inl mtx))] s.heap := hP
  have hl := lv_entry ([.ref aM, .int v1]) (n := 4) (Nat.le_of_ble_eq_true rfl)
  rw [lg_entry_eq]
  generalize (lg_sl ([.ref aM, .int v1]) ++ List.replicate (4 - (lg_sl ([.ref aM, .int v1])).length) Slot.unset).toArray = ls at hl ⊢
  have hl : lv_has ls 4 [(0, .ref aM), (1, .int v1)] := hl
  have C0 : CallFix p m c cX10_nearestAt 4 s ([.ref aM, .int v1] : List Value).toArray wsX10_nearestAt RX10 := ⟨hx, hb, hml, hown, hts⟩
  unfold wpX10_nearestAt at h
  refine lv_aload_n hx hb dX10_nearestAt_0 rfl (lv_at hl 0 rfl) ?_
  refine lv_iload_n hx hb dX10_nearestAt_1 rfl (lv_at hl 1 rfl) ?_
  refine wk_calli (wc := [(aM, .inr (9, [.int mth, .int msz, .ref aMt, .int mwi, .int mle, .int mgr, .int mpr, .int mhp, .int mtk, .ref aMk, .ref aMl, .ref aMd, .ref aMs, .int mbn, .ref aMb, .int mmd, .ref aMo, .int mep, .ref aMc, .ref aMn, .ref aMfk, .ref aMfl, .ref aMfd, .ref aMg, .ref aMm, .int mat, .int mer])), (aMt, .inl (cyI, 64, .inl mtx))]) (wr := []) (va_runV (As := [.int v1]) (rest := []) C0 (mtX10_longestAt l dC dI cyI (aM := aM) (aMt := aMt) (aMk := aMk) (aMl := aMl) (aMd := aMd) (aMs := aMs) (aMb := aMb) (aMo := aMo) (aMc := aMc) (aMn := aMn) (aMfk := aMfk) (aMfl := aMfl) (aMfd := aMfd) (aMg := aMg) (aMm := aMm) (sz := _) (mth := mth) (msz := msz) (mwi := mwi) (mle := mle) (mgr := mgr) (mpr := mpr) (mhp := mhp) (mtk := mtk) (mbn := mbn) (mmd := mmd) (mep := mep) (mat := mat) (mer := mer) (mtx := mtx) (v1 := v1) h) (cwV 1 hts gX10_nearestAt_X10_longestAt rfl rfl rfl (by decide +kernel) ⟨(Nat.le_of_ble_eq_true rfl), (Nat.le_of_ble_eq_true rfl)⟩) (wk_preV (wc := [(aM, .inr (9, [.int mth, .int msz, .ref aMt, .int mwi, .int mle, .int mgr, .int mpr, .int mhp, .int mtk, .ref aMk, .ref aMl, .ref aMd, .ref aMs, .int mbn, .ref aMb, .int mmd, .ref aMo, .int mep, .ref aMc, .ref aMn, .ref aMfk, .ref aMfl, .ref aMfd, .ref aMg, .ref aMm, .int mat, .int mer])), (aMt, .inl (cyI, 64, .inl mtx))]) hK hP hD [0, 1] rfl (by decide) (va_recv hK hP (ci := 9) (q0 := 0) rfl rfl)) rfl rfl hl.1 rfl (lv_room (Nat.le_of_ble_eq_true rfl)) dX10_nearestAt_2 ⟨(Nat.le_of_ble_eq_true rfl), (Nat.le_of_ble_eq_true rfl)⟩) hP hD hS hA [0, 1] [] rfl rfl (by decide) (by decide) (fun r_1 u9 H locs h hP hD hS => ?_)
  have hP : va_P (dC, dI) vwCl [(aM, .inr (9, [.int mth, .int msz, .ref aMt, .int mwi, .int mle, .int mgr, .int mpr, .int mhp, .int mtk, .ref aMk, .ref aMl, .ref aMd, .ref aMs, .int mbn, .ref aMb, .int mmd, .ref aMo, .int mep, .ref aMc, .ref aMn, .ref aMfk, .ref aMfl, .ref aMfd, .ref aMg, .ref aMm, .int mat, .int mer])), (aMt, .inl (cyI, 64, .inl mtx))] H := hP
  have hD : va_D A [(aM, .inr (9, [.int mth, .int msz, .ref aMt, .int mwi, .int mle, .int mgr, .int mpr, .int mhp, .int mtk, .ref aMk, .ref aMl, .ref aMd, .ref aMs, .int mbn, .ref aMb, .int mmd, .ref aMo, .int mep, .ref aMc, .ref aMn, .ref aMfk, .ref aMfl, .ref aMfd, .ref aMg, .ref aMm, .int mat, .int mer])), (aMt, .inl (cyI, 64, .inl mtx))] := hD
  refine lv_istore_n (lv' := [(2, .int r_1), (0, .ref aM), (1, .int v1)]) hx hb dX10_nearestAt_5 rfl hl (by decide) rfl (fun ls hl => ?_)
  refine lv_iconst (v := 1) hx hb dX10_nearestAt_6 (by decide) ?_
  refine lv_istore_n (lv' := [(3, .int 1), (2, .int r_1), (0, .ref aM), (1, .int v1)]) hx hb dX10_nearestAt_7 rfl hl (by decide) rfl (fun ls hl => ?_)
  obtain ⟨n8, h⟩ := h
  refine wlX10_nearestAt_8 C0 hA hK ?_ n8 _ h _ _ _ hP hD hS (lv_sub hl [2, 3, 1, 0] rfl)
  · intro v3_5 h H locs ls hP hD hS hl
    refine lv_iload_n hx hb dX10_nearestAt_28 rfl (lv_at hl 0 rfl) ?_
    refine lv_if_ne (tgt := 36) hx hb dX10_nearestAt_29 (by decide) (fun c_6 => ?_) (fun c_6 => ?_)
    · replace h := h.2 c_6
      refine lv_iload_n hx hb dX10_nearestAt_36 rfl (lv_at hl 1 rfl) ?_
      have hP9 : va_P (dC, dI) vwCl [(aM, .inr (9, [.int mth, .int msz, .ref aMt, .int mwi, .int mle, .int mgr, .int mpr, .int mhp, .int mtk, .ref aMk, .ref aMl, .ref aMd, .ref aMs, .int mbn, .ref aMb, .int mmd, .ref aMo, .int mep, .ref aMc, .ref aMn, .ref aMfk, .ref aMfl, .ref aMfd, .ref aMg, .ref aMm, .int mat, .int mer])), (aMt, .inl (cyI, 64, .inl mtx))] _ := hP
      have hD9 : va_D A [(aM, .inr (9, [.int mth, .int msz, .ref aMt, .int mwi, .int mle, .int mgr, .int mpr, .int mhp, .int mtk, .ref aMk, .ref aMl, .ref aMd, .ref aMs, .int mbn, .ref aMb, .int mmd, .ref aMo, .int mep, .ref aMc, .ref aMn, .ref aMfk, .ref aMfl, .ref aMfd, .ref aMg, .ref aMm, .int mat, .int mer])), (aMt, .inl (cyI, 64, .inl mtx))] := hD
      exact W.iret (v := v3_5) hx hb hr (fun t ht hW => ⟨⟨v3_5, (), rfl, h, by rw [ht]; exact hP9, va_K.moved hW.alike hK, hD9⟩, hS.F ht⟩) hS.2.2 dX10_nearestAt_37
    · replace h := h.1 c_6
      refine lv_iconst (v := 0) hx hb dX10_nearestAt_32 (by decide) ?_
      refine lv_goto (tgt := 37) hx hb dX10_nearestAt_33 (by decide) ?_
      have hP9 : va_P (dC, dI) vwCl [(aM, .inr (9, [.int mth, .int msz, .ref aMt, .int mwi, .int mle, .int mgr, .int mpr, .int mhp, .int mtk, .ref aMk, .ref aMl, .ref aMd, .ref aMs, .int mbn, .ref aMb, .int mmd, .ref aMo, .int mep, .ref aMc, .ref aMn, .ref aMfk, .ref aMfl, .ref aMfd, .ref aMg, .ref aMm, .int mat, .int mer])), (aMt, .inl (cyI, 64, .inl mtx))] _ := hP
      have hD9 : va_D A [(aM, .inr (9, [.int mth, .int msz, .ref aMt, .int mwi, .int mle, .int mgr, .int mpr, .int mhp, .int mtk, .ref aMk, .ref aMl, .ref aMd, .ref aMs, .int mbn, .ref aMb, .int mmd, .ref aMo, .int mep, .ref aMc, .ref aMn, .ref aMfk, .ref aMfl, .ref aMfd, .ref aMg, .ref aMm, .int mat, .int mer])), (aMt, .inl (cyI, 64, .inl mtx))] := hD
      exact W.iret (v := 0) hx hb hr (fun t ht hW => ⟨⟨0, (), rfl, h, by rw [ht]; exact hP9, va_K.moved hW.alike hK, hD9⟩, hS.F ht⟩) hS.2.2 dX10_nearestAt_37
-- X10_longest
theorem qX10_longest_0 : Cond.fieldLink RX10 65 "MatchCoderModel" "thrown" "I" ∈ wsX10_longest := (List.mem_cons_of_mem _ (List.mem_append_left _ (List.mem_append_left _ (List.mem_of_getElem? (i := 0) rfl))))
theorem inX10_longest_wsX100 : ∀ w ∈ wsX100, w ∈ wsX10_longest := fun _ h => List.mem_cons_of_mem _ (List.mem_append_right _ h)
def wpX10_longest (msz : Int32) (mwi : Int32) (mle : Int32) (mgr : Int32) (mtx : Nat → Int32) (v1 : Int32) (post : Int32 → Int32 → Prop) : Prop := wpX10_isPlace msz v1 (fun (r_1 : Int32) => (r_1 = 0 → (wpX10_no 1 (fun (r_3 : Int32) (mth_4 : Int32) => post r_3 mth_4))) ∧ (¬ r_1 = 0 → (wpX10_longestAt msz mwi mle mgr mtx v1 (fun (r_5 : Int32) => post r_5 0))))
set_option maxHeartbeats 4000000 in
set_option maxRecDepth 100000 in
theorem mtX10_longest (l : Launch) (dC : Nat → ClassId) (dI : Nat → Nat → Nat) (cyI : ClassId) {aM aMt aMk aMl aMd aMs aMb aMo aMc aMn aMfk aMfl aMfd aMg aMm : Nat} {sz : Nat} {mth : Int32} {msz : Int32} {mwi : Int32} {mle : Int32} {mgr : Int32} {mpr : Int32} {mhp : Int32} {mtk : Int32} {mbn : Int32} {mmd : Int32} {mep : Int32} {mat : Int32} {mer : Int32} {mtx : Nat → Int32} {v1 : Int32} {post : Int32 → Int32 → Prop} (h : wpX10_longest msz mwi mle mgr mtx v1 post) : Met l yX10_longest wsX10_longest ({ frames := 3, cells := 0, slots := 0, locals := 69 }) (va_Pc [.ref aM, .int v1] (wk_B (dC, dI) [(cyI, .int)] [(aM, .inr (9, [.int mth, .int msz, .ref aMt, .int mwi, .int mle, .int mgr, .int mpr, .int mhp, .int mtk, .ref aMk, .ref aMl, .ref aMd, .ref aMs, .int mbn, .ref aMb, .int mmd, .ref aMo, .int mep, .ref aMc, .ref aMn, .ref aMfk, .ref aMfl, .ref aMfd, .ref aMg, .ref aMm, .int mat, .int mer])), (aMt, .inl (cyI, 64, .inl mtx))] sz)) (va_Qi (fun (r : Int32) (u : Int32) => post r u) (wk_C (dC, dI) [(cyI, .int)] (va_A [(aM, .inr (9, [.int mth, .int msz, .ref aMt, .int mwi, .int mle, .int mgr, .int mpr, .int mhp, .int mtk, .ref aMk, .ref aMl, .ref aMd, .ref aMs, .int mbn, .ref aMb, .int mmd, .ref aMo, .int mep, .ref aMc, .ref aMn, .ref aMfk, .ref aMfl, .ref aMfd, .ref aMg, .ref aMm, .int mat, .int mer])), (aMt, .inl (cyI, 64, .inl mtx))] sz) (fun (u : Int32) => [(aM, .inr (9, [.int (u), .int msz, .ref aMt, .int mwi, .int mle, .int mgr, .int mpr, .int mhp, .int mtk, .ref aMk, .ref aMl, .ref aMd, .ref aMs, .int mbn, .ref aMb, .int mmd, .ref aMo, .int mep, .ref aMc, .ref aMn, .ref aMfk, .ref aMfl, .ref aMfd, .ref aMg, .ref aMm, .int mat, .int mer])), (aMt, .inl (cyI, 64, .inl mtx))])) (va_A [(aM, .inr (9, [.int mth, .int msz, .ref aMt, .int mwi, .int mle, .int mgr, .int mpr, .int mhp, .int mtk, .ref aMk, .ref aMl, .ref aMd, .ref aMs, .int mbn, .ref aMb, .int mmd, .ref aMo, .int mep, .ref aMc, .ref aMn, .ref aMfk, .ref aMfl, .ref aMfd, .ref aMg, .ref aMm, .int mat, .int mer])), (aMt, .inl (cyI, 64, .inl mtx))] sz)) 0 0 (va_A [(aM, .inr (9, [.int mth, .int msz, .ref aMt, .int mwi, .int mle, .int mgr, .int mpr, .int mhp, .int mtk, .ref aMk, .ref aMl, .ref aMd, .ref aMs, .int mbn, .ref aMb, .int mmd, .ref aMo, .int mep, .ref aMc, .ref aMn, .ref aMfk, .ref aMfl, .ref aMfd, .ref aMg, .ref aMm, .int mat, .int mer])), (aMt, .inl (cyI, 64, .inl mtx))] sz) := by
  refine Met.ofW (cc := cX10_longest) (maxL := 2) (ret := (some .int)) (by decide) rfl ?_
  intro p e s m args below meth c s₁ B hml hv
  obtain ⟨rfl, hsz, hP, hK, hD0⟩ := hv
  have hx := B.exec
  have hb := B.bytes
  have hr := B.returns
  have hts := atoms_spec (ws := wsX10_longest) B.pre
  have hown : s.vm.findClass RX10 = some m.cls := findClass_of_methodNamed B.named
  have hlocks := B.notSynchronized
  subst hsz
  have hD := hD0.self (sz := s.heap.size)
  generalize hAe : va_A [(aM, .inr (9, [.int mth, .int msz, .ref aMt, .int mwi, .int mle, .int mgr, .int mpr, .int mhp, .int mtk, .ref aMk, .ref aMl, .ref aMd, .ref aMs, .int mbn, .ref aMb, .int mmd, .ref aMo, .int mep, .ref aMc, .ref aMn, .ref aMfk, .ref aMfl, .ref aMfd, .ref aMg, .ref aMm, .int mat, .int mer])), (aMt, .inl (cyI, 64, .inl mtx))] s.heap.size = A at hD ⊢
  have hA : ∀ q : Nat, s.heap.size ≤ q → A q := fun q h => by rw [← hAe]; exact Or.inr h
  have hS : va_S A s.heap s.heap [] := va_S.rf
  have hP : va_P (dC, dI) vwCl [(aM, .inr (9, [.int mth, .int msz, .ref aMt, .int mwi, .int mle, .int mgr, .int mpr, .int mhp, .int mtk, .ref aMk, .ref aMl, .ref aMd, .ref aMs, .int mbn, .ref aMb, .int mmd, .ref aMo, .int mep, .ref aMc, .ref aMn, .ref aMfk, .ref aMfl, .ref aMfd, .ref aMg, .ref aMm, .int mat, .int mer])), (aMt, .inl (cyI, 64, .inl mtx))] s.heap := hP
  have hl := lv_entry ([.ref aM, .int v1]) (n := 2) (Nat.le_of_ble_eq_true rfl)
  rw [lg_entry_eq]
  generalize (lg_sl ([.ref aM, .int v1]) ++ List.replicate (2 - (lg_sl ([.ref aM, .int v1])).length) Slot.unset).toArray = ls at hl ⊢
  have hl : lv_has ls 2 [(0, .ref aM), (1, .int v1)] := hl
  have C0 : CallFix p m c cX10_longest 2 s ([.ref aM, .int v1] : List Value).toArray wsX10_longest RX10 := ⟨hx, hb, hml, hown, hts⟩
  unfold wpX10_longest at h
  refine lv_aload_n hx hb dX10_longest_0 rfl (lv_at hl 0 rfl) ?_
  refine lv_iconst (v := 0) hx hb dX10_longest_1 (by decide) ?_
  refine va_put (D := (dC, dI)) (ci := 9) (v := .int 0) (ty := .int) (C := RX10) (T := TX10) (N := 27) hx hb hts inX10_longest_wsX100 tyX10 tyX10_ok nmX10 hown hK hP hD hS 0 rfl rfl 0 (by decide) (hts _ qX10_longest_0) (fun _ h9 => h9) rfl (by decide +kernel) rfl rfl (Nat.le_of_ble_eq_true rfl) dX10_longest_2 (fun H locs hP hD hS => ?_)
  have hP : va_P (dC, dI) vwCl [(aM, .inr (9, [.int 0, .int msz, .ref aMt, .int mwi, .int mle, .int mgr, .int mpr, .int mhp, .int mtk, .ref aMk, .ref aMl, .ref aMd, .ref aMs, .int mbn, .ref aMb, .int mmd, .ref aMo, .int mep, .ref aMc, .ref aMn, .ref aMfk, .ref aMfl, .ref aMfd, .ref aMg, .ref aMm, .int mat, .int mer])), (aMt, .inl (cyI, 64, .inl mtx))] H := hP
  have hD : va_D A [(aM, .inr (9, [.int 0, .int msz, .ref aMt, .int mwi, .int mle, .int mgr, .int mpr, .int mhp, .int mtk, .ref aMk, .ref aMl, .ref aMd, .ref aMs, .int mbn, .ref aMb, .int mmd, .ref aMo, .int mep, .ref aMc, .ref aMn, .ref aMfk, .ref aMfl, .ref aMfd, .ref aMg, .ref aMm, .int mat, .int mer])), (aMt, .inl (cyI, 64, .inl mtx))] := hD
  refine lv_aload_n hx hb dX10_longest_5 rfl (lv_at hl 0 rfl) ?_
  refine lv_iload_n hx hb dX10_longest_6 rfl (lv_at hl 1 rfl) ?_
  refine wk_calli (wc := [(aM, .inr (9, [.int 0, .int msz, .ref aMt, .int mwi, .int mle, .int mgr, .int mpr, .int mhp, .int mtk, .ref aMk, .ref aMl, .ref aMd, .ref aMs, .int mbn, .ref aMb, .int mmd, .ref aMo, .int mep, .ref aMc, .ref aMn, .ref aMfk, .ref aMfl, .ref aMfd, .ref aMg, .ref aMm, .int mat, .int mer]))]) (wr := [(aMt, .inl (cyI, 64, .inl mtx))]) (va_runV (As := [.int v1]) (rest := []) C0 (mtX10_isPlace l dC dI cyI (aM := aM) (aMt := aMt) (aMk := aMk) (aMl := aMl) (aMd := aMd) (aMs := aMs) (aMb := aMb) (aMo := aMo) (aMc := aMc) (aMn := aMn) (aMfk := aMfk) (aMfl := aMfl) (aMfd := aMfd) (aMg := aMg) (aMm := aMm) (sz := _) (mth := 0) (msz := msz) (mwi := mwi) (mle := mle) (mgr := mgr) (mpr := mpr) (mhp := mhp) (mtk := mtk) (mbn := mbn) (mmd := mmd) (mep := mep) (mat := mat) (mer := mer) (v1 := v1) h) (cwV 1 hts gX10_longest_X10_isPlace rfl rfl rfl (by decide +kernel) ⟨(Nat.le_of_ble_eq_true rfl), (Nat.le_of_ble_eq_true rfl)⟩) (wk_preV (wc := [(aM, .inr (9, [.int 0, .int msz, .ref aMt, .int mwi, .int mle, .int mgr, .int mpr, .int mhp, .int mtk, .ref aMk, .ref aMl, .ref aMd, .ref aMs, .int mbn, .ref aMb, .int mmd, .ref aMo, .int mep, .ref aMc, .ref aMn, .ref aMfk, .ref aMfl, .ref aMfd, .ref aMg, .ref aMm, .int mat, .int mer]))]) hK hP hD [0] rfl (by decide) (va_recv hK hP (ci := 9) (q0 := 0) rfl rfl)) rfl rfl hl.1 rfl (lv_room (Nat.le_of_ble_eq_true rfl)) dX10_longest_7 ⟨(Nat.le_of_ble_eq_true rfl), (Nat.le_of_ble_eq_true rfl)⟩) hP hD hS hA [0] [1] rfl rfl (by decide) (by decide) (fun r_1 u9 H locs h hP hD hS => ?_)
  have hP : va_P (dC, dI) vwCl [(aMt, .inl (cyI, 64, .inl mtx)), (aM, .inr (9, [.int 0, .int msz, .ref aMt, .int mwi, .int mle, .int mgr, .int mpr, .int mhp, .int mtk, .ref aMk, .ref aMl, .ref aMd, .ref aMs, .int mbn, .ref aMb, .int mmd, .ref aMo, .int mep, .ref aMc, .ref aMn, .ref aMfk, .ref aMfl, .ref aMfd, .ref aMg, .ref aMm, .int mat, .int mer]))] H := hP
  have hD : va_D A [(aMt, .inl (cyI, 64, .inl mtx)), (aM, .inr (9, [.int 0, .int msz, .ref aMt, .int mwi, .int mle, .int mgr, .int mpr, .int mhp, .int mtk, .ref aMk, .ref aMl, .ref aMd, .ref aMs, .int mbn, .ref aMb, .int mmd, .ref aMo, .int mep, .ref aMc, .ref aMn, .ref aMfk, .ref aMfl, .ref aMfd, .ref aMg, .ref aMm, .int mat, .int mer]))] := hD
  refine lv_if_eq (tgt := 21) hx hb dX10_longest_10 (by decide) (fun c_2 => ?_) (fun c_2 => ?_)
  · replace h := h.1 c_2
    refine lv_aload_n hx hb dX10_longest_21 rfl (lv_at hl 0 rfl) ?_
    refine lv_iconst (v := 1) hx hb dX10_longest_22 (by decide) ?_
    refine wk_calli (wc := [(aM, .inr (9, [.int 0, .int msz, .ref aMt, .int mwi, .int mle, .int mgr, .int mpr, .int mhp, .int mtk, .ref aMk, .ref aMl, .ref aMd, .ref aMs, .int mbn, .ref aMb, .int mmd, .ref aMo, .int mep, .ref aMc, .ref aMn, .ref aMfk, .ref aMfl, .ref aMfd, .ref aMg, .ref aMm, .int mat, .int mer]))]) (wr := [(aMt, .inl (cyI, 64, .inl mtx))]) (va_runV (As := [.int 1]) (rest := []) C0 (mtX10_no l dC dI cyI (aM := aM) (aMt := aMt) (aMk := aMk) (aMl := aMl) (aMd := aMd) (aMs := aMs) (aMb := aMb) (aMo := aMo) (aMc := aMc) (aMn := aMn) (aMfk := aMfk) (aMfl := aMfl) (aMfd := aMfd) (aMg := aMg) (aMm := aMm) (sz := _) (mth := 0) (msz := msz) (mwi := mwi) (mle := mle) (mgr := mgr) (mpr := mpr) (mhp := mhp) (mtk := mtk) (mbn := mbn) (mmd := mmd) (mep := mep) (mat := mat) (mer := mer) (v1 := 1) h) (cwV 1 hts gX10_longest_X10_no rfl rfl rfl (by decide +kernel) ⟨(Nat.le_of_ble_eq_true rfl), (Nat.le_of_ble_eq_true rfl)⟩) (wk_preV (wc := [(aM, .inr (9, [.int 0, .int msz, .ref aMt, .int mwi, .int mle, .int mgr, .int mpr, .int mhp, .int mtk, .ref aMk, .ref aMl, .ref aMd, .ref aMs, .int mbn, .ref aMb, .int mmd, .ref aMo, .int mep, .ref aMc, .ref aMn, .ref aMfk, .ref aMfl, .ref aMfd, .ref aMg, .ref aMm, .int mat, .int mer]))]) hK hP hD [1] rfl (by decide) (va_recv hK hP (ci := 9) (q0 := 1) rfl rfl)) rfl rfl hl.1 rfl (lv_room (Nat.le_of_ble_eq_true rfl)) dX10_longest_23 ⟨(Nat.le_of_ble_eq_true rfl), (Nat.le_of_ble_eq_true rfl)⟩) hP hD hS hA [1] [0] rfl rfl (by decide) (by decide) (fun r_3 u9 H locs h hP hD hS => ?_)
    obtain ⟨mth_4, rfl⟩ : ∃ z9, z9 = u9 := ⟨_, rfl⟩
    have hP : va_P (dC, dI) vwCl [(aMt, .inl (cyI, 64, .inl mtx)), (aM, .inr (9, [.int mth_4, .int msz, .ref aMt, .int mwi, .int mle, .int mgr, .int mpr, .int mhp, .int mtk, .ref aMk, .ref aMl, .ref aMd, .ref aMs, .int mbn, .ref aMb, .int mmd, .ref aMo, .int mep, .ref aMc, .ref aMn, .ref aMfk, .ref aMfl, .ref aMfd, .ref aMg, .ref aMm, .int mat, .int mer]))] H := hP
    have hD : va_D A [(aMt, .inl (cyI, 64, .inl mtx)), (aM, .inr (9, [.int mth_4, .int msz, .ref aMt, .int mwi, .int mle, .int mgr, .int mpr, .int mhp, .int mtk, .ref aMk, .ref aMl, .ref aMd, .ref aMs, .int mbn, .ref aMb, .int mmd, .ref aMo, .int mep, .ref aMc, .ref aMn, .ref aMfk, .ref aMfl, .ref aMfd, .ref aMg, .ref aMm, .int mat, .int mer]))] := hD
    have hP9 : va_P (dC, dI) vwCl [(aM, .inr (9, [.int mth_4, .int msz, .ref aMt, .int mwi, .int mle, .int mgr, .int mpr, .int mhp, .int mtk, .ref aMk, .ref aMl, .ref aMd, .ref aMs, .int mbn, .ref aMb, .int mmd, .ref aMo, .int mep, .ref aMc, .ref aMn, .ref aMfk, .ref aMfl, .ref aMfd, .ref aMg, .ref aMm, .int mat, .int mer])), (aMt, .inl (cyI, 64, .inl mtx))] _ := (hP.sub [1, 0] rfl)
    have hD9 : va_D A [(aM, .inr (9, [.int mth_4, .int msz, .ref aMt, .int mwi, .int mle, .int mgr, .int mpr, .int mhp, .int mtk, .ref aMk, .ref aMl, .ref aMd, .ref aMs, .int mbn, .ref aMb, .int mmd, .ref aMo, .int mep, .ref aMc, .ref aMn, .ref aMfk, .ref aMfl, .ref aMfd, .ref aMg, .ref aMm, .int mat, .int mer])), (aMt, .inl (cyI, 64, .inl mtx))] := (hD.sub [1, 0] (by decide) rfl)
    exact W.iret (v := r_3) hx hb hr (fun t ht hW => ⟨⟨r_3, mth_4, rfl, h, by rw [ht]; exact hP9, va_K.moved hW.alike hK, hD9⟩, hS.F ht⟩) hS.2.2 dX10_longest_26
  · replace h := h.2 c_2
    refine lv_aload_n hx hb dX10_longest_13 rfl (lv_at hl 0 rfl) ?_
    refine lv_iload_n hx hb dX10_longest_14 rfl (lv_at hl 1 rfl) ?_
    refine wk_calli (wc := [(aM, .inr (9, [.int 0, .int msz, .ref aMt, .int mwi, .int mle, .int mgr, .int mpr, .int mhp, .int mtk, .ref aMk, .ref aMl, .ref aMd, .ref aMs, .int mbn, .ref aMb, .int mmd, .ref aMo, .int mep, .ref aMc, .ref aMn, .ref aMfk, .ref aMfl, .ref aMfd, .ref aMg, .ref aMm, .int mat, .int mer])), (aMt, .inl (cyI, 64, .inl mtx))]) (wr := []) (va_runV (As := [.int v1]) (rest := []) C0 (mtX10_longestAt l dC dI cyI (aM := aM) (aMt := aMt) (aMk := aMk) (aMl := aMl) (aMd := aMd) (aMs := aMs) (aMb := aMb) (aMo := aMo) (aMc := aMc) (aMn := aMn) (aMfk := aMfk) (aMfl := aMfl) (aMfd := aMfd) (aMg := aMg) (aMm := aMm) (sz := _) (mth := 0) (msz := msz) (mwi := mwi) (mle := mle) (mgr := mgr) (mpr := mpr) (mhp := mhp) (mtk := mtk) (mbn := mbn) (mmd := mmd) (mep := mep) (mat := mat) (mer := mer) (mtx := mtx) (v1 := v1) h) (cwV 1 hts gX10_longest_X10_longestAt rfl rfl rfl (by decide +kernel) ⟨(Nat.le_of_ble_eq_true rfl), (Nat.le_of_ble_eq_true rfl)⟩) (wk_preV (wc := [(aM, .inr (9, [.int 0, .int msz, .ref aMt, .int mwi, .int mle, .int mgr, .int mpr, .int mhp, .int mtk, .ref aMk, .ref aMl, .ref aMd, .ref aMs, .int mbn, .ref aMb, .int mmd, .ref aMo, .int mep, .ref aMc, .ref aMn, .ref aMfk, .ref aMfl, .ref aMfd, .ref aMg, .ref aMm, .int mat, .int mer])), (aMt, .inl (cyI, 64, .inl mtx))]) hK hP hD [1, 0] rfl (by decide) (va_recv hK hP (ci := 9) (q0 := 1) rfl rfl)) rfl rfl hl.1 rfl (lv_room (Nat.le_of_ble_eq_true rfl)) dX10_longest_15 ⟨(Nat.le_of_ble_eq_true rfl), (Nat.le_of_ble_eq_true rfl)⟩) hP hD hS hA [1, 0] [] rfl rfl (by decide) (by decide) (fun r_5 u9 H locs h hP hD hS => ?_)
    have hP : va_P (dC, dI) vwCl [(aM, .inr (9, [.int 0, .int msz, .ref aMt, .int mwi, .int mle, .int mgr, .int mpr, .int mhp, .int mtk, .ref aMk, .ref aMl, .ref aMd, .ref aMs, .int mbn, .ref aMb, .int mmd, .ref aMo, .int mep, .ref aMc, .ref aMn, .ref aMfk, .ref aMfl, .ref aMfd, .ref aMg, .ref aMm, .int mat, .int mer])), (aMt, .inl (cyI, 64, .inl mtx))] H := hP
    have hD : va_D A [(aM, .inr (9, [.int 0, .int msz, .ref aMt, .int mwi, .int mle, .int mgr, .int mpr, .int mhp, .int mtk, .ref aMk, .ref aMl, .ref aMd, .ref aMs, .int mbn, .ref aMb, .int mmd, .ref aMo, .int mep, .ref aMc, .ref aMn, .ref aMfk, .ref aMfl, .ref aMfd, .ref aMg, .ref aMm, .int mat, .int mer])), (aMt, .inl (cyI, 64, .inl mtx))] := hD
    refine lv_goto (tgt := 26) hx hb dX10_longest_18 (by decide) ?_
    have hP9 : va_P (dC, dI) vwCl [(aM, .inr (9, [.int 0, .int msz, .ref aMt, .int mwi, .int mle, .int mgr, .int mpr, .int mhp, .int mtk, .ref aMk, .ref aMl, .ref aMd, .ref aMs, .int mbn, .ref aMb, .int mmd, .ref aMo, .int mep, .ref aMc, .ref aMn, .ref aMfk, .ref aMfl, .ref aMfd, .ref aMg, .ref aMm, .int mat, .int mer])), (aMt, .inl (cyI, 64, .inl mtx))] _ := hP
    have hD9 : va_D A [(aM, .inr (9, [.int 0, .int msz, .ref aMt, .int mwi, .int mle, .int mgr, .int mpr, .int mhp, .int mtk, .ref aMk, .ref aMl, .ref aMd, .ref aMs, .int mbn, .ref aMb, .int mmd, .ref aMo, .int mep, .ref aMc, .ref aMn, .ref aMfk, .ref aMfl, .ref aMfd, .ref aMg, .ref aMm, .int mat, .int mer])), (aMt, .inl (cyI, 64, .inl mtx))] := hD
    exact W.iret (v := r_5) hx hb hr (fun t ht hW => ⟨⟨r_5, 0, rfl, h, by rw [ht]; exact hP9, va_K.moved hW.alike hK, hD9⟩, hS.F ht⟩) hS.2.2 dX10_longest_26
-- X10_nearest
theorem qX10_nearest_0 : Cond.fieldLink RX10 65 "MatchCoderModel" "thrown" "I" ∈ wsX10_nearest := (List.mem_cons_of_mem _ (List.mem_append_left _ (List.mem_append_left _ (List.mem_of_getElem? (i := 0) rfl))))
theorem inX10_nearest_wsX100 : ∀ w ∈ wsX100, w ∈ wsX10_nearest := fun _ h => List.mem_cons_of_mem _ (List.mem_append_right _ h)
def wpX10_nearest (msz : Int32) (mwi : Int32) (mle : Int32) (mgr : Int32) (mtx : Nat → Int32) (v1 : Int32) (post : Int32 → Int32 → Prop) : Prop := wpX10_isPlace msz v1 (fun (r_1 : Int32) => (r_1 = 0 → (wpX10_no 1 (fun (r_3 : Int32) (mth_4 : Int32) => post r_3 mth_4))) ∧ (¬ r_1 = 0 → (wpX10_nearestAt msz mwi mle mgr mtx v1 (fun (r_5 : Int32) => post r_5 0))))
set_option maxHeartbeats 4000000 in
set_option maxRecDepth 100000 in
theorem mtX10_nearest (l : Launch) (dC : Nat → ClassId) (dI : Nat → Nat → Nat) (cyI : ClassId) {aM aMt aMk aMl aMd aMs aMb aMo aMc aMn aMfk aMfl aMfd aMg aMm : Nat} {sz : Nat} {mth : Int32} {msz : Int32} {mwi : Int32} {mle : Int32} {mgr : Int32} {mpr : Int32} {mhp : Int32} {mtk : Int32} {mbn : Int32} {mmd : Int32} {mep : Int32} {mat : Int32} {mer : Int32} {mtx : Nat → Int32} {v1 : Int32} {post : Int32 → Int32 → Prop} (h : wpX10_nearest msz mwi mle mgr mtx v1 post) : Met l yX10_nearest wsX10_nearest ({ frames := 4, cells := 0, slots := 0, locals := 92 }) (va_Pc [.ref aM, .int v1] (wk_B (dC, dI) [(cyI, .int)] [(aM, .inr (9, [.int mth, .int msz, .ref aMt, .int mwi, .int mle, .int mgr, .int mpr, .int mhp, .int mtk, .ref aMk, .ref aMl, .ref aMd, .ref aMs, .int mbn, .ref aMb, .int mmd, .ref aMo, .int mep, .ref aMc, .ref aMn, .ref aMfk, .ref aMfl, .ref aMfd, .ref aMg, .ref aMm, .int mat, .int mer])), (aMt, .inl (cyI, 64, .inl mtx))] sz)) (va_Qi (fun (r : Int32) (u : Int32) => post r u) (wk_C (dC, dI) [(cyI, .int)] (va_A [(aM, .inr (9, [.int mth, .int msz, .ref aMt, .int mwi, .int mle, .int mgr, .int mpr, .int mhp, .int mtk, .ref aMk, .ref aMl, .ref aMd, .ref aMs, .int mbn, .ref aMb, .int mmd, .ref aMo, .int mep, .ref aMc, .ref aMn, .ref aMfk, .ref aMfl, .ref aMfd, .ref aMg, .ref aMm, .int mat, .int mer])), (aMt, .inl (cyI, 64, .inl mtx))] sz) (fun (u : Int32) => [(aM, .inr (9, [.int (u), .int msz, .ref aMt, .int mwi, .int mle, .int mgr, .int mpr, .int mhp, .int mtk, .ref aMk, .ref aMl, .ref aMd, .ref aMs, .int mbn, .ref aMb, .int mmd, .ref aMo, .int mep, .ref aMc, .ref aMn, .ref aMfk, .ref aMfl, .ref aMfd, .ref aMg, .ref aMm, .int mat, .int mer])), (aMt, .inl (cyI, 64, .inl mtx))])) (va_A [(aM, .inr (9, [.int mth, .int msz, .ref aMt, .int mwi, .int mle, .int mgr, .int mpr, .int mhp, .int mtk, .ref aMk, .ref aMl, .ref aMd, .ref aMs, .int mbn, .ref aMb, .int mmd, .ref aMo, .int mep, .ref aMc, .ref aMn, .ref aMfk, .ref aMfl, .ref aMfd, .ref aMg, .ref aMm, .int mat, .int mer])), (aMt, .inl (cyI, 64, .inl mtx))] sz)) 0 0 (va_A [(aM, .inr (9, [.int mth, .int msz, .ref aMt, .int mwi, .int mle, .int mgr, .int mpr, .int mhp, .int mtk, .ref aMk, .ref aMl, .ref aMd, .ref aMs, .int mbn, .ref aMb, .int mmd, .ref aMo, .int mep, .ref aMc, .ref aMn, .ref aMfk, .ref aMfl, .ref aMfd, .ref aMg, .ref aMm, .int mat, .int mer])), (aMt, .inl (cyI, 64, .inl mtx))] sz) := by
  refine Met.ofW (cc := cX10_nearest) (maxL := 2) (ret := (some .int)) (by decide) rfl ?_
  intro p e s m args below meth c s₁ B hml hv
  obtain ⟨rfl, hsz, hP, hK, hD0⟩ := hv
  have hx := B.exec
  have hb := B.bytes
  have hr := B.returns
  have hts := atoms_spec (ws := wsX10_nearest) B.pre
  have hown : s.vm.findClass RX10 = some m.cls := findClass_of_methodNamed B.named
  have hlocks := B.notSynchronized
  subst hsz
  have hD := hD0.self (sz := s.heap.size)
  generalize hAe : va_A [(aM, .inr (9, [.int mth, .int msz, .ref aMt, .int mwi, .int mle, .int mgr, .int mpr, .int mhp, .int mtk, .ref aMk, .ref aMl, .ref aMd, .ref aMs, .int mbn, .ref aMb, .int mmd, .ref aMo, .int mep, .ref aMc, .ref aMn, .ref aMfk, .ref aMfl, .ref aMfd, .ref aMg, .ref aMm, .int mat, .int mer])), (aMt, .inl (cyI, 64, .inl mtx))] s.heap.size = A at hD ⊢
  have hA : ∀ q : Nat, s.heap.size ≤ q → A q := fun q h => by rw [← hAe]; exact Or.inr h
  have hS : va_S A s.heap s.heap [] := va_S.rf
  have hP : va_P (dC, dI) vwCl [(aM, .inr (9, [.int mth, .int msz, .ref aMt, .int mwi, .int mle, .int mgr, .int mpr, .int mhp, .int mtk, .ref aMk, .ref aMl, .ref aMd, .ref aMs, .int mbn, .ref aMb, .int mmd, .ref aMo, .int mep, .ref aMc, .ref aMn, .ref aMfk, .ref aMfl, .ref aMfd, .ref aMg, .ref aMm, .int mat, .int mer])), (aMt, .inl (cyI, 64, .inl mtx))] s.heap := hP
  have hl := lv_entry ([.ref aM, .int v1]) (n := 2) (Nat.le_of_ble_eq_true rfl)
  rw [lg_entry_eq]
  generalize (lg_sl ([.ref aM, .int v1]) ++ List.replicate (2 - (lg_sl ([.ref aM, .int v1])).length) Slot.unset).toArray = ls at hl ⊢
  have hl : lv_has ls 2 [(0, .ref aM), (1, .int v1)] := hl
  have C0 : CallFix p m c cX10_nearest 2 s ([.ref aM, .int v1] : List Value).toArray wsX10_nearest RX10 := ⟨hx, hb, hml, hown, hts⟩
  unfold wpX10_nearest at h
  refine lv_aload_n hx hb dX10_nearest_0 rfl (lv_at hl 0 rfl) ?_
  refine lv_iconst (v := 0) hx hb dX10_nearest_1 (by decide) ?_
  refine va_put (D := (dC, dI)) (ci := 9) (v := .int 0) (ty := .int) (C := RX10) (T := TX10) (N := 27) hx hb hts inX10_nearest_wsX100 tyX10 tyX10_ok nmX10 hown hK hP hD hS 0 rfl rfl 0 (by decide) (hts _ qX10_nearest_0) (fun _ h9 => h9) rfl (by decide +kernel) rfl rfl (Nat.le_of_ble_eq_true rfl) dX10_nearest_2 (fun H locs hP hD hS => ?_)
  have hP : va_P (dC, dI) vwCl [(aM, .inr (9, [.int 0, .int msz, .ref aMt, .int mwi, .int mle, .int mgr, .int mpr, .int mhp, .int mtk, .ref aMk, .ref aMl, .ref aMd, .ref aMs, .int mbn, .ref aMb, .int mmd, .ref aMo, .int mep, .ref aMc, .ref aMn, .ref aMfk, .ref aMfl, .ref aMfd, .ref aMg, .ref aMm, .int mat, .int mer])), (aMt, .inl (cyI, 64, .inl mtx))] H := hP
  have hD : va_D A [(aM, .inr (9, [.int 0, .int msz, .ref aMt, .int mwi, .int mle, .int mgr, .int mpr, .int mhp, .int mtk, .ref aMk, .ref aMl, .ref aMd, .ref aMs, .int mbn, .ref aMb, .int mmd, .ref aMo, .int mep, .ref aMc, .ref aMn, .ref aMfk, .ref aMfl, .ref aMfd, .ref aMg, .ref aMm, .int mat, .int mer])), (aMt, .inl (cyI, 64, .inl mtx))] := hD
  refine lv_aload_n hx hb dX10_nearest_5 rfl (lv_at hl 0 rfl) ?_
  refine lv_iload_n hx hb dX10_nearest_6 rfl (lv_at hl 1 rfl) ?_
  refine wk_calli (wc := [(aM, .inr (9, [.int 0, .int msz, .ref aMt, .int mwi, .int mle, .int mgr, .int mpr, .int mhp, .int mtk, .ref aMk, .ref aMl, .ref aMd, .ref aMs, .int mbn, .ref aMb, .int mmd, .ref aMo, .int mep, .ref aMc, .ref aMn, .ref aMfk, .ref aMfl, .ref aMfd, .ref aMg, .ref aMm, .int mat, .int mer]))]) (wr := [(aMt, .inl (cyI, 64, .inl mtx))]) (va_runV (As := [.int v1]) (rest := []) C0 (mtX10_isPlace l dC dI cyI (aM := aM) (aMt := aMt) (aMk := aMk) (aMl := aMl) (aMd := aMd) (aMs := aMs) (aMb := aMb) (aMo := aMo) (aMc := aMc) (aMn := aMn) (aMfk := aMfk) (aMfl := aMfl) (aMfd := aMfd) (aMg := aMg) (aMm := aMm) (sz := _) (mth := 0) (msz := msz) (mwi := mwi) (mle := mle) (mgr := mgr) (mpr := mpr) (mhp := mhp) (mtk := mtk) (mbn := mbn) (mmd := mmd) (mep := mep) (mat := mat) (mer := mer) (v1 := v1) h) (cwV 1 hts gX10_nearest_X10_isPlace rfl rfl rfl (by decide +kernel) ⟨(Nat.le_of_ble_eq_true rfl), (Nat.le_of_ble_eq_true rfl)⟩) (wk_preV (wc := [(aM, .inr (9, [.int 0, .int msz, .ref aMt, .int mwi, .int mle, .int mgr, .int mpr, .int mhp, .int mtk, .ref aMk, .ref aMl, .ref aMd, .ref aMs, .int mbn, .ref aMb, .int mmd, .ref aMo, .int mep, .ref aMc, .ref aMn, .ref aMfk, .ref aMfl, .ref aMfd, .ref aMg, .ref aMm, .int mat, .int mer]))]) hK hP hD [0] rfl (by decide) (va_recv hK hP (ci := 9) (q0 := 0) rfl rfl)) rfl rfl hl.1 rfl (lv_room (Nat.le_of_ble_eq_true rfl)) dX10_nearest_7 ⟨(Nat.le_of_ble_eq_true rfl), (Nat.le_of_ble_eq_true rfl)⟩) hP hD hS hA [0] [1] rfl rfl (by decide) (by decide) (fun r_1 u9 H locs h hP hD hS => ?_)
  have hP : va_P (dC, dI) vwCl [(aMt, .inl (cyI, 64, .inl mtx)), (aM, .inr (9, [.int 0, .int msz, .ref aMt, .int mwi, .int mle, .int mgr, .int mpr, .int mhp, .int mtk, .ref aMk, .ref aMl, .ref aMd, .ref aMs, .int mbn, .ref aMb, .int mmd, .ref aMo, .int mep, .ref aMc, .ref aMn, .ref aMfk, .ref aMfl, .ref aMfd, .ref aMg, .ref aMm, .int mat, .int mer]))] H := hP
  have hD : va_D A [(aMt, .inl (cyI, 64, .inl mtx)), (aM, .inr (9, [.int 0, .int msz, .ref aMt, .int mwi, .int mle, .int mgr, .int mpr, .int mhp, .int mtk, .ref aMk, .ref aMl, .ref aMd, .ref aMs, .int mbn, .ref aMb, .int mmd, .ref aMo, .int mep, .ref aMc, .ref aMn, .ref aMfk, .ref aMfl, .ref aMfd, .ref aMg, .ref aMm, .int mat, .int mer]))] := hD
  refine lv_if_eq (tgt := 21) hx hb dX10_nearest_10 (by decide) (fun c_2 => ?_) (fun c_2 => ?_)
  · replace h := h.1 c_2
    refine lv_aload_n hx hb dX10_nearest_21 rfl (lv_at hl 0 rfl) ?_
    refine lv_iconst (v := 1) hx hb dX10_nearest_22 (by decide) ?_
    refine wk_calli (wc := [(aM, .inr (9, [.int 0, .int msz, .ref aMt, .int mwi, .int mle, .int mgr, .int mpr, .int mhp, .int mtk, .ref aMk, .ref aMl, .ref aMd, .ref aMs, .int mbn, .ref aMb, .int mmd, .ref aMo, .int mep, .ref aMc, .ref aMn, .ref aMfk, .ref aMfl, .ref aMfd, .ref aMg, .ref aMm, .int mat, .int mer]))]) (wr := [(aMt, .inl (cyI, 64, .inl mtx))]) (va_runV (As := [.int 1]) (rest := []) C0 (mtX10_no l dC dI cyI (aM := aM) (aMt := aMt) (aMk := aMk) (aMl := aMl) (aMd := aMd) (aMs := aMs) (aMb := aMb) (aMo := aMo) (aMc := aMc) (aMn := aMn) (aMfk := aMfk) (aMfl := aMfl) (aMfd := aMfd) (aMg := aMg) (aMm := aMm) (sz := _) (mth := 0) (msz := msz) (mwi := mwi) (mle := mle) (mgr := mgr) (mpr := mpr) (mhp := mhp) (mtk := mtk) (mbn := mbn) (mmd := mmd) (mep := mep) (mat := mat) (mer := mer) (v1 := 1) h) (cwV 1 hts gX10_nearest_X10_no rfl rfl rfl (by decide +kernel) ⟨(Nat.le_of_ble_eq_true rfl), (Nat.le_of_ble_eq_true rfl)⟩) (wk_preV (wc := [(aM, .inr (9, [.int 0, .int msz, .ref aMt, .int mwi, .int mle, .int mgr, .int mpr, .int mhp, .int mtk, .ref aMk, .ref aMl, .ref aMd, .ref aMs, .int mbn, .ref aMb, .int mmd, .ref aMo, .int mep, .ref aMc, .ref aMn, .ref aMfk, .ref aMfl, .ref aMfd, .ref aMg, .ref aMm, .int mat, .int mer]))]) hK hP hD [1] rfl (by decide) (va_recv hK hP (ci := 9) (q0 := 1) rfl rfl)) rfl rfl hl.1 rfl (lv_room (Nat.le_of_ble_eq_true rfl)) dX10_nearest_23 ⟨(Nat.le_of_ble_eq_true rfl), (Nat.le_of_ble_eq_true rfl)⟩) hP hD hS hA [1] [0] rfl rfl (by decide) (by decide) (fun r_3 u9 H locs h hP hD hS => ?_)
    obtain ⟨mth_4, rfl⟩ : ∃ z9, z9 = u9 := ⟨_, rfl⟩
    have hP : va_P (dC, dI) vwCl [(aMt, .inl (cyI, 64, .inl mtx)), (aM, .inr (9, [.int mth_4, .int msz, .ref aMt, .int mwi, .int mle, .int mgr, .int mpr, .int mhp, .int mtk, .ref aMk, .ref aMl, .ref aMd, .ref aMs, .int mbn, .ref aMb, .int mmd, .ref aMo, .int mep, .ref aMc, .ref aMn, .ref aMfk, .ref aMfl, .ref aMfd, .ref aMg, .ref aMm, .int mat, .int mer]))] H := hP
    have hD : va_D A [(aMt, .inl (cyI, 64, .inl mtx)), (aM, .inr (9, [.int mth_4, .int msz, .ref aMt, .int mwi, .int mle, .int mgr, .int mpr, .int mhp, .int mtk, .ref aMk, .ref aMl, .ref aMd, .ref aMs, .int mbn, .ref aMb, .int mmd, .ref aMo, .int mep, .ref aMc, .ref aMn, .ref aMfk, .ref aMfl, .ref aMfd, .ref aMg, .ref aMm, .int mat, .int mer]))] := hD
    have hP9 : va_P (dC, dI) vwCl [(aM, .inr (9, [.int mth_4, .int msz, .ref aMt, .int mwi, .int mle, .int mgr, .int mpr, .int mhp, .int mtk, .ref aMk, .ref aMl, .ref aMd, .ref aMs, .int mbn, .ref aMb, .int mmd, .ref aMo, .int mep, .ref aMc, .ref aMn, .ref aMfk, .ref aMfl, .ref aMfd, .ref aMg, .ref aMm, .int mat, .int mer])), (aMt, .inl (cyI, 64, .inl mtx))] _ := (hP.sub [1, 0] rfl)
    have hD9 : va_D A [(aM, .inr (9, [.int mth_4, .int msz, .ref aMt, .int mwi, .int mle, .int mgr, .int mpr, .int mhp, .int mtk, .ref aMk, .ref aMl, .ref aMd, .ref aMs, .int mbn, .ref aMb, .int mmd, .ref aMo, .int mep, .ref aMc, .ref aMn, .ref aMfk, .ref aMfl, .ref aMfd, .ref aMg, .ref aMm, .int mat, .int mer])), (aMt, .inl (cyI, 64, .inl mtx))] := (hD.sub [1, 0] (by decide) rfl)
    exact W.iret (v := r_3) hx hb hr (fun t ht hW => ⟨⟨r_3, mth_4, rfl, h, by rw [ht]; exact hP9, va_K.moved hW.alike hK, hD9⟩, hS.F ht⟩) hS.2.2 dX10_nearest_26
  · replace h := h.2 c_2
    refine lv_aload_n hx hb dX10_nearest_13 rfl (lv_at hl 0 rfl) ?_
    refine lv_iload_n hx hb dX10_nearest_14 rfl (lv_at hl 1 rfl) ?_
    refine wk_calli (wc := [(aM, .inr (9, [.int 0, .int msz, .ref aMt, .int mwi, .int mle, .int mgr, .int mpr, .int mhp, .int mtk, .ref aMk, .ref aMl, .ref aMd, .ref aMs, .int mbn, .ref aMb, .int mmd, .ref aMo, .int mep, .ref aMc, .ref aMn, .ref aMfk, .ref aMfl, .ref aMfd, .ref aMg, .ref aMm, .int mat, .int mer])), (aMt, .inl (cyI, 64, .inl mtx))]) (wr := []) (va_runV (As := [.int v1]) (rest := []) C0 (mtX10_nearestAt l dC dI cyI (aM := aM) (aMt := aMt) (aMk := aMk) (aMl := aMl) (aMd := aMd) (aMs := aMs) (aMb := aMb) (aMo := aMo) (aMc := aMc) (aMn := aMn) (aMfk := aMfk) (aMfl := aMfl) (aMfd := aMfd) (aMg := aMg) (aMm := aMm) (sz := _) (mth := 0) (msz := msz) (mwi := mwi) (mle := mle) (mgr := mgr) (mpr := mpr) (mhp := mhp) (mtk := mtk) (mbn := mbn) (mmd := mmd) (mep := mep) (mat := mat) (mer := mer) (mtx := mtx) (v1 := v1) h) (cwV 1 hts gX10_nearest_X10_nearestAt rfl rfl rfl (by decide +kernel) ⟨(Nat.le_of_ble_eq_true rfl), (Nat.le_of_ble_eq_true rfl)⟩) (wk_preV (wc := [(aM, .inr (9, [.int 0, .int msz, .ref aMt, .int mwi, .int mle, .int mgr, .int mpr, .int mhp, .int mtk, .ref aMk, .ref aMl, .ref aMd, .ref aMs, .int mbn, .ref aMb, .int mmd, .ref aMo, .int mep, .ref aMc, .ref aMn, .ref aMfk, .ref aMfl, .ref aMfd, .ref aMg, .ref aMm, .int mat, .int mer])), (aMt, .inl (cyI, 64, .inl mtx))]) hK hP hD [1, 0] rfl (by decide) (va_recv hK hP (ci := 9) (q0 := 1) rfl rfl)) rfl rfl hl.1 rfl (lv_room (Nat.le_of_ble_eq_true rfl)) dX10_nearest_15 ⟨(Nat.le_of_ble_eq_true rfl), (Nat.le_of_ble_eq_true rfl)⟩) hP hD hS hA [1, 0] [] rfl rfl (by decide) (by decide) (fun r_5 u9 H locs h hP hD hS => ?_)
    have hP : va_P (dC, dI) vwCl [(aM, .inr (9, [.int 0, .int msz, .ref aMt, .int mwi, .int mle, .int mgr, .int mpr, .int mhp, .int mtk, .ref aMk, .ref aMl, .ref aMd, .ref aMs, .int mbn, .ref aMb, .int mmd, .ref aMo, .int mep, .ref aMc, .ref aMn, .ref aMfk, .ref aMfl, .ref aMfd, .ref aMg, .ref aMm, .int mat, .int mer])), (aMt, .inl (cyI, 64, .inl mtx))] H := hP
    have hD : va_D A [(aM, .inr (9, [.int 0, .int msz, .ref aMt, .int mwi, .int mle, .int mgr, .int mpr, .int mhp, .int mtk, .ref aMk, .ref aMl, .ref aMd, .ref aMs, .int mbn, .ref aMb, .int mmd, .ref aMo, .int mep, .ref aMc, .ref aMn, .ref aMfk, .ref aMfl, .ref aMfd, .ref aMg, .ref aMm, .int mat, .int mer])), (aMt, .inl (cyI, 64, .inl mtx))] := hD
    refine lv_goto (tgt := 26) hx hb dX10_nearest_18 (by decide) ?_
    have hP9 : va_P (dC, dI) vwCl [(aM, .inr (9, [.int 0, .int msz, .ref aMt, .int mwi, .int mle, .int mgr, .int mpr, .int mhp, .int mtk, .ref aMk, .ref aMl, .ref aMd, .ref aMs, .int mbn, .ref aMb, .int mmd, .ref aMo, .int mep, .ref aMc, .ref aMn, .ref aMfk, .ref aMfl, .ref aMfd, .ref aMg, .ref aMm, .int mat, .int mer])), (aMt, .inl (cyI, 64, .inl mtx))] _ := hP
    have hD9 : va_D A [(aM, .inr (9, [.int 0, .int msz, .ref aMt, .int mwi, .int mle, .int mgr, .int mpr, .int mhp, .int mtk, .ref aMk, .ref aMl, .ref aMd, .ref aMs, .int mbn, .ref aMb, .int mmd, .ref aMo, .int mep, .ref aMc, .ref aMn, .ref aMfk, .ref aMfl, .ref aMfd, .ref aMg, .ref aMm, .int mat, .int mer])), (aMt, .inl (cyI, 64, .inl mtx))] := hD
    exact W.iret (v := r_5) hx hb hr (fun t ht hW => ⟨⟨r_5, 0, rfl, h, by rw [ht]; exact hP9, va_K.moved hW.alike hK, hD9⟩, hS.F ht⟩) hS.2.2 dX10_nearest_26
-- X10_common
theorem qX10_common_0 : Cond.fieldLink RX10 65 "MatchCoderModel" "thrown" "I" ∈ wsX10_common := (List.mem_cons_of_mem _ (List.mem_append_left _ (List.mem_of_getElem? (i := 0) rfl)))
theorem inX10_common_wsX100 : ∀ w ∈ wsX100, w ∈ wsX10_common := fun _ h => List.mem_cons_of_mem _ (List.mem_append_right _ h)
def wpX10_common (msz : Int32) (mtx : Nat → Int32) (v1 : Int32) (v2 : Int32) (post : Int32 → Int32 → Prop) : Prop := wpX10_isPlace msz v1 (fun (r_1 : Int32) => (r_1 = 0 → (wpX10_no 1 (fun (r_11 : Int32) (mth_12 : Int32) => post r_11 mth_12))) ∧ (¬ r_1 = 0 → (wpX10_isIn v2 1 64 (fun (r_3 : Int32) => (r_3 = 0 → (wpX10_no 2 (fun (r_5 : Int32) (mth_6 : Int32) => post r_5 mth_6))) ∧ (¬ r_3 = 0 → ((v1 < v2 → (wpX10_no 2 (fun (r_8 : Int32) (mth_9 : Int32) => post r_8 mth_9))) ∧ (¬ v1 < v2 → (wpX10_goesOn msz mtx v1 v2 (fun (r_10 : Int32) => post r_10 0)))))))))
set_option maxHeartbeats 4000000 in
set_option maxRecDepth 100000 in
theorem mtX10_common (l : Launch) (dC : Nat → ClassId) (dI : Nat → Nat → Nat) (cyI : ClassId) {aM aMt aMk aMl aMd aMs aMb aMo aMc aMn aMfk aMfl aMfd aMg aMm : Nat} {sz : Nat} {mth : Int32} {msz : Int32} {mwi : Int32} {mle : Int32} {mgr : Int32} {mpr : Int32} {mhp : Int32} {mtk : Int32} {mbn : Int32} {mmd : Int32} {mep : Int32} {mat : Int32} {mer : Int32} {mtx : Nat → Int32} {v1 : Int32} {v2 : Int32} {post : Int32 → Int32 → Prop} (h : wpX10_common msz mtx v1 v2 post) : Met l yX10_common wsX10_common ({ frames := 2, cells := 0, slots := 0, locals := 43 }) (va_Pc [.ref aM, .int v1, .int v2] (wk_B (dC, dI) [(cyI, .int)] [(aM, .inr (9, [.int mth, .int msz, .ref aMt, .int mwi, .int mle, .int mgr, .int mpr, .int mhp, .int mtk, .ref aMk, .ref aMl, .ref aMd, .ref aMs, .int mbn, .ref aMb, .int mmd, .ref aMo, .int mep, .ref aMc, .ref aMn, .ref aMfk, .ref aMfl, .ref aMfd, .ref aMg, .ref aMm, .int mat, .int mer])), (aMt, .inl (cyI, 64, .inl mtx))] sz)) (va_Qi (fun (r : Int32) (u : Int32) => post r u) (wk_C (dC, dI) [(cyI, .int)] (va_A [(aM, .inr (9, [.int mth, .int msz, .ref aMt, .int mwi, .int mle, .int mgr, .int mpr, .int mhp, .int mtk, .ref aMk, .ref aMl, .ref aMd, .ref aMs, .int mbn, .ref aMb, .int mmd, .ref aMo, .int mep, .ref aMc, .ref aMn, .ref aMfk, .ref aMfl, .ref aMfd, .ref aMg, .ref aMm, .int mat, .int mer])), (aMt, .inl (cyI, 64, .inl mtx))] sz) (fun (u : Int32) => [(aM, .inr (9, [.int (u), .int msz, .ref aMt, .int mwi, .int mle, .int mgr, .int mpr, .int mhp, .int mtk, .ref aMk, .ref aMl, .ref aMd, .ref aMs, .int mbn, .ref aMb, .int mmd, .ref aMo, .int mep, .ref aMc, .ref aMn, .ref aMfk, .ref aMfl, .ref aMfd, .ref aMg, .ref aMm, .int mat, .int mer])), (aMt, .inl (cyI, 64, .inl mtx))])) (va_A [(aM, .inr (9, [.int mth, .int msz, .ref aMt, .int mwi, .int mle, .int mgr, .int mpr, .int mhp, .int mtk, .ref aMk, .ref aMl, .ref aMd, .ref aMs, .int mbn, .ref aMb, .int mmd, .ref aMo, .int mep, .ref aMc, .ref aMn, .ref aMfk, .ref aMfl, .ref aMfd, .ref aMg, .ref aMm, .int mat, .int mer])), (aMt, .inl (cyI, 64, .inl mtx))] sz)) 0 0 (va_A [(aM, .inr (9, [.int mth, .int msz, .ref aMt, .int mwi, .int mle, .int mgr, .int mpr, .int mhp, .int mtk, .ref aMk, .ref aMl, .ref aMd, .ref aMs, .int mbn, .ref aMb, .int mmd, .ref aMo, .int mep, .ref aMc, .ref aMn, .ref aMfk, .ref aMfl, .ref aMfd, .ref aMg, .ref aMm, .int mat, .int mer])), (aMt, .inl (cyI, 64, .inl mtx))] sz) := by
  refine Met.ofW (cc := cX10_common) (maxL := 3) (ret := (some .int)) (by decide) rfl ?_
  intro p e s m args below meth c s₁ B hml hv
  obtain ⟨rfl, hsz, hP, hK, hD0⟩ := hv
  have hx := B.exec
  have hb := B.bytes
  have hr := B.returns
  have hts := atoms_spec (ws := wsX10_common) B.pre
  have hown : s.vm.findClass RX10 = some m.cls := findClass_of_methodNamed B.named
  have hlocks := B.notSynchronized
  subst hsz
  have hD := hD0.self (sz := s.heap.size)
  generalize hAe : va_A [(aM, .inr (9, [.int mth, .int msz, .ref aMt, .int mwi, .int mle, .int mgr, .int mpr, .int mhp, .int mtk, .ref aMk, .ref aMl, .ref aMd, .ref aMs, .int mbn, .ref aMb, .int mmd, .ref aMo, .int mep, .ref aMc, .ref aMn, .ref aMfk, .ref aMfl, .ref aMfd, .ref aMg, .ref aMm, .int mat, .int mer])), (aMt, .inl (cyI, 64, .inl mtx))] s.heap.size = A at hD ⊢
  have hA : ∀ q : Nat, s.heap.size ≤ q → A q := fun q h => by rw [← hAe]; exact Or.inr h
  have hS : va_S A s.heap s.heap [] := va_S.rf
  have hP : va_P (dC, dI) vwCl [(aM, .inr (9, [.int mth, .int msz, .ref aMt, .int mwi, .int mle, .int mgr, .int mpr, .int mhp, .int mtk, .ref aMk, .ref aMl, .ref aMd, .ref aMs, .int mbn, .ref aMb, .int mmd, .ref aMo, .int mep, .ref aMc, .ref aMn, .ref aMfk, .ref aMfl, .ref aMfd, .ref aMg, .ref aMm, .int mat, .int mer])), (aMt, .inl (cyI, 64, .inl mtx))] s.heap := hP
  have hl := lv_entry ([.ref aM, .int v1, .int v2]) (n := 3) (Nat.le_of_ble_eq_true rfl)
  rw [lg_entry_eq]
  generalize (lg_sl ([.ref aM, .int v1, .int v2]) ++ List.replicate (3 - (lg_sl ([.ref aM, .int v1, .int v2])).length) Slot.unset).toArray = ls at hl ⊢
  have hl : lv_has ls 3 [(0, .ref aM), (1, .int v1), (2, .int v2)] := hl
  have C0 : CallFix p m c cX10_common 3 s ([.ref aM, .int v1, .int v2] : List Value).toArray wsX10_common RX10 := ⟨hx, hb, hml, hown, hts⟩
  unfold wpX10_common at h
  refine lv_aload_n hx hb dX10_common_0 rfl (lv_at hl 0 rfl) ?_
  refine lv_iconst (v := 0) hx hb dX10_common_1 (by decide) ?_
  refine va_put (D := (dC, dI)) (ci := 9) (v := .int 0) (ty := .int) (C := RX10) (T := TX10) (N := 27) hx hb hts inX10_common_wsX100 tyX10 tyX10_ok nmX10 hown hK hP hD hS 0 rfl rfl 0 (by decide) (hts _ qX10_common_0) (fun _ h9 => h9) rfl (by decide +kernel) rfl rfl (Nat.le_of_ble_eq_true rfl) dX10_common_2 (fun H locs hP hD hS => ?_)
  have hP : va_P (dC, dI) vwCl [(aM, .inr (9, [.int 0, .int msz, .ref aMt, .int mwi, .int mle, .int mgr, .int mpr, .int mhp, .int mtk, .ref aMk, .ref aMl, .ref aMd, .ref aMs, .int mbn, .ref aMb, .int mmd, .ref aMo, .int mep, .ref aMc, .ref aMn, .ref aMfk, .ref aMfl, .ref aMfd, .ref aMg, .ref aMm, .int mat, .int mer])), (aMt, .inl (cyI, 64, .inl mtx))] H := hP
  have hD : va_D A [(aM, .inr (9, [.int 0, .int msz, .ref aMt, .int mwi, .int mle, .int mgr, .int mpr, .int mhp, .int mtk, .ref aMk, .ref aMl, .ref aMd, .ref aMs, .int mbn, .ref aMb, .int mmd, .ref aMo, .int mep, .ref aMc, .ref aMn, .ref aMfk, .ref aMfl, .ref aMfd, .ref aMg, .ref aMm, .int mat, .int mer])), (aMt, .inl (cyI, 64, .inl mtx))] := hD
  refine lv_aload_n hx hb dX10_common_5 rfl (lv_at hl 0 rfl) ?_
  refine lv_iload_n hx hb dX10_common_6 rfl (lv_at hl 1 rfl) ?_
  refine wk_calli (wc := [(aM, .inr (9, [.int 0, .int msz, .ref aMt, .int mwi, .int mle, .int mgr, .int mpr, .int mhp, .int mtk, .ref aMk, .ref aMl, .ref aMd, .ref aMs, .int mbn, .ref aMb, .int mmd, .ref aMo, .int mep, .ref aMc, .ref aMn, .ref aMfk, .ref aMfl, .ref aMfd, .ref aMg, .ref aMm, .int mat, .int mer]))]) (wr := [(aMt, .inl (cyI, 64, .inl mtx))]) (va_runV (As := [.int v1]) (rest := []) C0 (mtX10_isPlace l dC dI cyI (aM := aM) (aMt := aMt) (aMk := aMk) (aMl := aMl) (aMd := aMd) (aMs := aMs) (aMb := aMb) (aMo := aMo) (aMc := aMc) (aMn := aMn) (aMfk := aMfk) (aMfl := aMfl) (aMfd := aMfd) (aMg := aMg) (aMm := aMm) (sz := _) (mth := 0) (msz := msz) (mwi := mwi) (mle := mle) (mgr := mgr) (mpr := mpr) (mhp := mhp) (mtk := mtk) (mbn := mbn) (mmd := mmd) (mep := mep) (mat := mat) (mer := mer) (v1 := v1) h) (cwV 1 hts gX10_common_X10_isPlace rfl rfl rfl (by decide +kernel) ⟨(Nat.le_of_ble_eq_true rfl), (Nat.le_of_ble_eq_true rfl)⟩) (wk_preV (wc := [(aM, .inr (9, [.int 0, .int msz, .ref aMt, .int mwi, .int mle, .int mgr, .int mpr, .int mhp, .int mtk, .ref aMk, .ref aMl, .ref aMd, .ref aMs, .int mbn, .ref aMb, .int mmd, .ref aMo, .int mep, .ref aMc, .ref aMn, .ref aMfk, .ref aMfl, .ref aMfd, .ref aMg, .ref aMm, .int mat, .int mer]))]) hK hP hD [0] rfl (by decide) (va_recv hK hP (ci := 9) (q0 := 0) rfl rfl)) rfl rfl hl.1 rfl (lv_room (Nat.le_of_ble_eq_true rfl)) dX10_common_7 ⟨(Nat.le_of_ble_eq_true rfl), (Nat.le_of_ble_eq_true rfl)⟩) hP hD hS hA [0] [1] rfl rfl (by decide) (by decide) (fun r_1 u9 H locs h hP hD hS => ?_)
  have hP : va_P (dC, dI) vwCl [(aMt, .inl (cyI, 64, .inl mtx)), (aM, .inr (9, [.int 0, .int msz, .ref aMt, .int mwi, .int mle, .int mgr, .int mpr, .int mhp, .int mtk, .ref aMk, .ref aMl, .ref aMd, .ref aMs, .int mbn, .ref aMb, .int mmd, .ref aMo, .int mep, .ref aMc, .ref aMn, .ref aMfk, .ref aMfl, .ref aMfd, .ref aMg, .ref aMm, .int mat, .int mer]))] H := hP
  have hD : va_D A [(aMt, .inl (cyI, 64, .inl mtx)), (aM, .inr (9, [.int 0, .int msz, .ref aMt, .int mwi, .int mle, .int mgr, .int mpr, .int mhp, .int mtk, .ref aMk, .ref aMl, .ref aMd, .ref aMs, .int mbn, .ref aMb, .int mmd, .ref aMo, .int mep, .ref aMc, .ref aMn, .ref aMfk, .ref aMfl, .ref aMfd, .ref aMg, .ref aMm, .int mat, .int mer]))] := hD
  refine lv_if_ne (tgt := 19) hx hb dX10_common_10 (by decide) (fun c_2 => ?_) (fun c_2 => ?_)
  · replace h := h.2 c_2
    refine lv_iload_n hx hb dX10_common_19 rfl (lv_at hl 2 rfl) ?_
    refine lv_iconst (v := 1) hx hb dX10_common_20 (by decide) ?_
    refine lv_bipush (v := 64) hx hb dX10_common_21 (by decide) ?_
    refine wk_calli (wc := []) (wr := [(aMt, .inl (cyI, 64, .inl mtx)), (aM, .inr (9, [.int 0, .int msz, .ref aMt, .int mwi, .int mle, .int mgr, .int mpr, .int mhp, .int mtk, .ref aMk, .ref aMl, .ref aMd, .ref aMs, .int mbn, .ref aMb, .int mmd, .ref aMo, .int mep, .ref aMc, .ref aMn, .ref aMfk, .ref aMfl, .ref aMfd, .ref aMg, .ref aMm, .int mat, .int mer]))]) (va_runS (As := [.int v2, .int 1, .int 64]) (rest := []) C0 (mtX10_isIn l dC dI cyI (sz := _) (v0 := v2) (v1 := 1) (v2 := 64) h) (va_cwS 3 hts gX10_common_X10_isIn rfl rfl rfl (by decide +kernel) ⟨(Nat.le_of_ble_eq_true rfl), (Nat.le_of_ble_eq_true rfl)⟩) (wk_preS (wc := []) hK hP hD [] rfl (by decide)) rfl rfl hl.1 rfl (lv_room (Nat.le_of_ble_eq_true rfl)) dX10_common_23 ⟨(Nat.le_of_ble_eq_true rfl), (Nat.le_of_ble_eq_true rfl)⟩) hP hD hS hA [] [0, 1] rfl rfl (by decide) (by decide) (fun r_3 u9 H locs h hP hD hS => ?_)
    have hP : va_P (dC, dI) vwCl [(aMt, .inl (cyI, 64, .inl mtx)), (aM, .inr (9, [.int 0, .int msz, .ref aMt, .int mwi, .int mle, .int mgr, .int mpr, .int mhp, .int mtk, .ref aMk, .ref aMl, .ref aMd, .ref aMs, .int mbn, .ref aMb, .int mmd, .ref aMo, .int mep, .ref aMc, .ref aMn, .ref aMfk, .ref aMfl, .ref aMfd, .ref aMg, .ref aMm, .int mat, .int mer]))] H := hP
    have hD : va_D A [(aMt, .inl (cyI, 64, .inl mtx)), (aM, .inr (9, [.int 0, .int msz, .ref aMt, .int mwi, .int mle, .int mgr, .int mpr, .int mhp, .int mtk, .ref aMk, .ref aMl, .ref aMd, .ref aMs, .int mbn, .ref aMb, .int mmd, .ref aMo, .int mep, .ref aMc, .ref aMn, .ref aMfk, .ref aMfl, .ref aMfd, .ref aMg, .ref aMm, .int mat, .int mer]))] := hD
    refine lv_if_eq (tgt := 43) hx hb dX10_common_26 (by decide) (fun c_4 => ?_) (fun c_4 => ?_)
    · replace h := h.1 c_4
      refine lv_aload_n hx hb dX10_common_43 rfl (lv_at hl 0 rfl) ?_
      refine lv_iconst (v := 2) hx hb dX10_common_44 (by decide) ?_
      refine wk_calli (wc := [(aM, .inr (9, [.int 0, .int msz, .ref aMt, .int mwi, .int mle, .int mgr, .int mpr, .int mhp, .int mtk, .ref aMk, .ref aMl, .ref aMd, .ref aMs, .int mbn, .ref aMb, .int mmd, .ref aMo, .int mep, .ref aMc, .ref aMn, .ref aMfk, .ref aMfl, .ref aMfd, .ref aMg, .ref aMm, .int mat, .int mer]))]) (wr := [(aMt, .inl (cyI, 64, .inl mtx))]) (va_runV (As := [.int 2]) (rest := []) C0 (mtX10_no l dC dI cyI (aM := aM) (aMt := aMt) (aMk := aMk) (aMl := aMl) (aMd := aMd) (aMs := aMs) (aMb := aMb) (aMo := aMo) (aMc := aMc) (aMn := aMn) (aMfk := aMfk) (aMfl := aMfl) (aMfd := aMfd) (aMg := aMg) (aMm := aMm) (sz := _) (mth := 0) (msz := msz) (mwi := mwi) (mle := mle) (mgr := mgr) (mpr := mpr) (mhp := mhp) (mtk := mtk) (mbn := mbn) (mmd := mmd) (mep := mep) (mat := mat) (mer := mer) (v1 := 2) h) (cwV 1 hts gX10_common_X10_no rfl rfl rfl (by decide +kernel) ⟨(Nat.le_of_ble_eq_true rfl), (Nat.le_of_ble_eq_true rfl)⟩) (wk_preV (wc := [(aM, .inr (9, [.int 0, .int msz, .ref aMt, .int mwi, .int mle, .int mgr, .int mpr, .int mhp, .int mtk, .ref aMk, .ref aMl, .ref aMd, .ref aMs, .int mbn, .ref aMb, .int mmd, .ref aMo, .int mep, .ref aMc, .ref aMn, .ref aMfk, .ref aMfl, .ref aMfd, .ref aMg, .ref aMm, .int mat, .int mer]))]) hK hP hD [1] rfl (by decide) (va_recv hK hP (ci := 9) (q0 := 1) rfl rfl)) rfl rfl hl.1 rfl (lv_room (Nat.le_of_ble_eq_true rfl)) dX10_common_45 ⟨(Nat.le_of_ble_eq_true rfl), (Nat.le_of_ble_eq_true rfl)⟩) hP hD hS hA [1] [0] rfl rfl (by decide) (by decide) (fun r_5 u9 H locs h hP hD hS => ?_)
      obtain ⟨mth_6, rfl⟩ : ∃ z9, z9 = u9 := ⟨_, rfl⟩
      have hP : va_P (dC, dI) vwCl [(aMt, .inl (cyI, 64, .inl mtx)), (aM, .inr (9, [.int mth_6, .int msz, .ref aMt, .int mwi, .int mle, .int mgr, .int mpr, .int mhp, .int mtk, .ref aMk, .ref aMl, .ref aMd, .ref aMs, .int mbn, .ref aMb, .int mmd, .ref aMo, .int mep, .ref aMc, .ref aMn, .ref aMfk, .ref aMfl, .ref aMfd, .ref aMg, .ref aMm, .int mat, .int mer]))] H := hP
      have hD : va_D A [(aMt, .inl (cyI, 64, .inl mtx)), (aM, .inr (9, [.int mth_6, .int msz, .ref aMt, .int mwi, .int mle, .int mgr, .int mpr, .int mhp, .int mtk, .ref aMk, .ref aMl, .ref aMd, .ref aMs, .int mbn, .ref aMb, .int mmd, .ref aMo, .int mep, .ref aMc, .ref aMn, .ref aMfk, .ref aMfl, .ref aMfd, .ref aMg, .ref aMm, .int mat, .int mer]))] := hD
      have hP9 : va_P (dC, dI) vwCl [(aM, .inr (9, [.int mth_6, .int msz, .ref aMt, .int mwi, .int mle, .int mgr, .int mpr, .int mhp, .int mtk, .ref aMk, .ref aMl, .ref aMd, .ref aMs, .int mbn, .ref aMb, .int mmd, .ref aMo, .int mep, .ref aMc, .ref aMn, .ref aMfk, .ref aMfl, .ref aMfd, .ref aMg, .ref aMm, .int mat, .int mer])), (aMt, .inl (cyI, 64, .inl mtx))] _ := (hP.sub [1, 0] rfl)
      have hD9 : va_D A [(aM, .inr (9, [.int mth_6, .int msz, .ref aMt, .int mwi, .int mle, .int mgr, .int mpr, .int mhp, .int mtk, .ref aMk, .ref aMl, .ref aMd, .ref aMs, .int mbn, .ref aMb, .int mmd, .ref aMo, .int mep, .ref aMc, .ref aMn, .ref aMfk, .ref aMfl, .ref aMfd, .ref aMg, .ref aMm, .int mat, .int mer])), (aMt, .inl (cyI, 64, .inl mtx))] := (hD.sub [1, 0] (by decide) rfl)
      exact W.iret (v := r_5) hx hb hr (fun t ht hW => ⟨⟨r_5, mth_6, rfl, h, by rw [ht]; exact hP9, va_K.moved hW.alike hK, hD9⟩, hS.F ht⟩) hS.2.2 dX10_common_48
    · replace h := h.2 c_4
      refine lv_iload_n hx hb dX10_common_29 rfl (lv_at hl 2 rfl) ?_
      refine lv_iload_n hx hb dX10_common_30 rfl (lv_at hl 1 rfl) ?_
      refine lv_icmp_gt (tgt := 43) hx hb dX10_common_31 (by decide) (fun c_7 => ?_) (fun c_7 => ?_)
      · replace h := h.1 c_7
        refine lv_aload_n hx hb dX10_common_43 rfl (lv_at hl 0 rfl) ?_
        refine lv_iconst (v := 2) hx hb dX10_common_44 (by decide) ?_
        refine wk_calli (wc := [(aM, .inr (9, [.int 0, .int msz, .ref aMt, .int mwi, .int mle, .int mgr, .int mpr, .int mhp, .int mtk, .ref aMk, .ref aMl, .ref aMd, .ref aMs, .int mbn, .ref aMb, .int mmd, .ref aMo, .int mep, .ref aMc, .ref aMn, .ref aMfk, .ref aMfl, .ref aMfd, .ref aMg, .ref aMm, .int mat, .int mer]))]) (wr := [(aMt, .inl (cyI, 64, .inl mtx))]) (va_runV (As := [.int 2]) (rest := []) C0 (mtX10_no l dC dI cyI (aM := aM) (aMt := aMt) (aMk := aMk) (aMl := aMl) (aMd := aMd) (aMs := aMs) (aMb := aMb) (aMo := aMo) (aMc := aMc) (aMn := aMn) (aMfk := aMfk) (aMfl := aMfl) (aMfd := aMfd) (aMg := aMg) (aMm := aMm) (sz := _) (mth := 0) (msz := msz) (mwi := mwi) (mle := mle) (mgr := mgr) (mpr := mpr) (mhp := mhp) (mtk := mtk) (mbn := mbn) (mmd := mmd) (mep := mep) (mat := mat) (mer := mer) (v1 := 2) h) (cwV 1 hts gX10_common_X10_no rfl rfl rfl (by decide +kernel) ⟨(Nat.le_of_ble_eq_true rfl), (Nat.le_of_ble_eq_true rfl)⟩) (wk_preV (wc := [(aM, .inr (9, [.int 0, .int msz, .ref aMt, .int mwi, .int mle, .int mgr, .int mpr, .int mhp, .int mtk, .ref aMk, .ref aMl, .ref aMd, .ref aMs, .int mbn, .ref aMb, .int mmd, .ref aMo, .int mep, .ref aMc, .ref aMn, .ref aMfk, .ref aMfl, .ref aMfd, .ref aMg, .ref aMm, .int mat, .int mer]))]) hK hP hD [1] rfl (by decide) (va_recv hK hP (ci := 9) (q0 := 1) rfl rfl)) rfl rfl hl.1 rfl (lv_room (Nat.le_of_ble_eq_true rfl)) dX10_common_45 ⟨(Nat.le_of_ble_eq_true rfl), (Nat.le_of_ble_eq_true rfl)⟩) hP hD hS hA [1] [0] rfl rfl (by decide) (by decide) (fun r_8 u9 H locs h hP hD hS => ?_)
        obtain ⟨mth_9, rfl⟩ : ∃ z9, z9 = u9 := ⟨_, rfl⟩
        have hP : va_P (dC, dI) vwCl [(aMt, .inl (cyI, 64, .inl mtx)), (aM, .inr (9, [.int mth_9, .int msz, .ref aMt, .int mwi, .int mle, .int mgr, .int mpr, .int mhp, .int mtk, .ref aMk, .ref aMl, .ref aMd, .ref aMs, .int mbn, .ref aMb, .int mmd, .ref aMo, .int mep, .ref aMc, .ref aMn, .ref aMfk, .ref aMfl, .ref aMfd, .ref aMg, .ref aMm, .int mat, .int mer]))] H := hP
        have hD : va_D A [(aMt, .inl (cyI, 64, .inl mtx)), (aM, .inr (9, [.int mth_9, .int msz, .ref aMt, .int mwi, .int mle, .int mgr, .int mpr, .int mhp, .int mtk, .ref aMk, .ref aMl, .ref aMd, .ref aMs, .int mbn, .ref aMb, .int mmd, .ref aMo, .int mep, .ref aMc, .ref aMn, .ref aMfk, .ref aMfl, .ref aMfd, .ref aMg, .ref aMm, .int mat, .int mer]))] := hD
        have hP9 : va_P (dC, dI) vwCl [(aM, .inr (9, [.int mth_9, .int msz, .ref aMt, .int mwi, .int mle, .int mgr, .int mpr, .int mhp, .int mtk, .ref aMk, .ref aMl, .ref aMd, .ref aMs, .int mbn, .ref aMb, .int mmd, .ref aMo, .int mep, .ref aMc, .ref aMn, .ref aMfk, .ref aMfl, .ref aMfd, .ref aMg, .ref aMm, .int mat, .int mer])), (aMt, .inl (cyI, 64, .inl mtx))] _ := (hP.sub [1, 0] rfl)
        have hD9 : va_D A [(aM, .inr (9, [.int mth_9, .int msz, .ref aMt, .int mwi, .int mle, .int mgr, .int mpr, .int mhp, .int mtk, .ref aMk, .ref aMl, .ref aMd, .ref aMs, .int mbn, .ref aMb, .int mmd, .ref aMo, .int mep, .ref aMc, .ref aMn, .ref aMfk, .ref aMfl, .ref aMfd, .ref aMg, .ref aMm, .int mat, .int mer])), (aMt, .inl (cyI, 64, .inl mtx))] := (hD.sub [1, 0] (by decide) rfl)
        exact W.iret (v := r_8) hx hb hr (fun t ht hW => ⟨⟨r_8, mth_9, rfl, h, by rw [ht]; exact hP9, va_K.moved hW.alike hK, hD9⟩, hS.F ht⟩) hS.2.2 dX10_common_48
      · replace h := h.2 c_7
        refine lv_aload_n hx hb dX10_common_34 rfl (lv_at hl 0 rfl) ?_
        refine lv_iload_n hx hb dX10_common_35 rfl (lv_at hl 1 rfl) ?_
        refine lv_iload_n hx hb dX10_common_36 rfl (lv_at hl 2 rfl) ?_
        refine wk_calli (wc := [(aM, .inr (9, [.int 0, .int msz, .ref aMt, .int mwi, .int mle, .int mgr, .int mpr, .int mhp, .int mtk, .ref aMk, .ref aMl, .ref aMd, .ref aMs, .int mbn, .ref aMb, .int mmd, .ref aMo, .int mep, .ref aMc, .ref aMn, .ref aMfk, .ref aMfl, .ref aMfd, .ref aMg, .ref aMm, .int mat, .int mer])), (aMt, .inl (cyI, 64, .inl mtx))]) (wr := []) (va_runV (As := [.int v1, .int v2]) (rest := []) C0 (mtX10_goesOn l dC dI cyI (aM := aM) (aMt := aMt) (aMk := aMk) (aMl := aMl) (aMd := aMd) (aMs := aMs) (aMb := aMb) (aMo := aMo) (aMc := aMc) (aMn := aMn) (aMfk := aMfk) (aMfl := aMfl) (aMfd := aMfd) (aMg := aMg) (aMm := aMm) (sz := _) (mth := 0) (msz := msz) (mwi := mwi) (mle := mle) (mgr := mgr) (mpr := mpr) (mhp := mhp) (mtk := mtk) (mbn := mbn) (mmd := mmd) (mep := mep) (mat := mat) (mer := mer) (mtx := mtx) (v1 := v1) (v2 := v2) h) (cwV 2 hts gX10_common_X10_goesOn rfl rfl rfl (by decide +kernel) ⟨(Nat.le_of_ble_eq_true rfl), (Nat.le_of_ble_eq_true rfl)⟩) (wk_preV (wc := [(aM, .inr (9, [.int 0, .int msz, .ref aMt, .int mwi, .int mle, .int mgr, .int mpr, .int mhp, .int mtk, .ref aMk, .ref aMl, .ref aMd, .ref aMs, .int mbn, .ref aMb, .int mmd, .ref aMo, .int mep, .ref aMc, .ref aMn, .ref aMfk, .ref aMfl, .ref aMfd, .ref aMg, .ref aMm, .int mat, .int mer])), (aMt, .inl (cyI, 64, .inl mtx))]) hK hP hD [1, 0] rfl (by decide) (va_recv hK hP (ci := 9) (q0 := 1) rfl rfl)) rfl rfl hl.1 rfl (lv_room (Nat.le_of_ble_eq_true rfl)) dX10_common_37 ⟨(Nat.le_of_ble_eq_true rfl), (Nat.le_of_ble_eq_true rfl)⟩) hP hD hS hA [1, 0] [] rfl rfl (by decide) (by decide) (fun r_10 u9 H locs h hP hD hS => ?_)
        have hP : va_P (dC, dI) vwCl [(aM, .inr (9, [.int 0, .int msz, .ref aMt, .int mwi, .int mle, .int mgr, .int mpr, .int mhp, .int mtk, .ref aMk, .ref aMl, .ref aMd, .ref aMs, .int mbn, .ref aMb, .int mmd, .ref aMo, .int mep, .ref aMc, .ref aMn, .ref aMfk, .ref aMfl, .ref aMfd, .ref aMg, .ref aMm, .int mat, .int mer])), (aMt, .inl (cyI, 64, .inl mtx))] H := hP
        have hD : va_D A [(aM, .inr (9, [.int 0, .int msz, .ref aMt, .int mwi, .int mle, .int mgr, .int mpr, .int mhp, .int mtk, .ref aMk, .ref aMl, .ref aMd, .ref aMs, .int mbn, .ref aMb, .int mmd, .ref aMo, .int mep, .ref aMc, .ref aMn, .ref aMfk, .ref aMfl, .ref aMfd, .ref aMg, .ref aMm, .int mat, .int mer])), (aMt, .inl (cyI, 64, .inl mtx))] := hD
        refine lv_goto (tgt := 48) hx hb dX10_common_40 (by decide) ?_
        have hP9 : va_P (dC, dI) vwCl [(aM, .inr (9, [.int 0, .int msz, .ref aMt, .int mwi, .int mle, .int mgr, .int mpr, .int mhp, .int mtk, .ref aMk, .ref aMl, .ref aMd, .ref aMs, .int mbn, .ref aMb, .int mmd, .ref aMo, .int mep, .ref aMc, .ref aMn, .ref aMfk, .ref aMfl, .ref aMfd, .ref aMg, .ref aMm, .int mat, .int mer])), (aMt, .inl (cyI, 64, .inl mtx))] _ := hP
        have hD9 : va_D A [(aM, .inr (9, [.int 0, .int msz, .ref aMt, .int mwi, .int mle, .int mgr, .int mpr, .int mhp, .int mtk, .ref aMk, .ref aMl, .ref aMd, .ref aMs, .int mbn, .ref aMb, .int mmd, .ref aMo, .int mep, .ref aMc, .ref aMn, .ref aMfk, .ref aMfl, .ref aMfd, .ref aMg, .ref aMm, .int mat, .int mer])), (aMt, .inl (cyI, 64, .inl mtx))] := hD
        exact W.iret (v := r_10) hx hb hr (fun t ht hW => ⟨⟨r_10, 0, rfl, h, by rw [ht]; exact hP9, va_K.moved hW.alike hK, hD9⟩, hS.F ht⟩) hS.2.2 dX10_common_48
  · replace h := h.1 c_2
    refine lv_aload_n hx hb dX10_common_13 rfl (lv_at hl 0 rfl) ?_
    refine lv_iconst (v := 1) hx hb dX10_common_14 (by decide) ?_
    refine wk_calli (wc := [(aM, .inr (9, [.int 0, .int msz, .ref aMt, .int mwi, .int mle, .int mgr, .int mpr, .int mhp, .int mtk, .ref aMk, .ref aMl, .ref aMd, .ref aMs, .int mbn, .ref aMb, .int mmd, .ref aMo, .int mep, .ref aMc, .ref aMn, .ref aMfk, .ref aMfl, .ref aMfd, .ref aMg, .ref aMm, .int mat, .int mer]))]) (wr := [(aMt, .inl (cyI, 64, .inl mtx))]) (va_runV (As := [.int 1]) (rest := []) C0 (mtX10_no l dC dI cyI (aM := aM) (aMt := aMt) (aMk := aMk) (aMl := aMl) (aMd := aMd) (aMs := aMs) (aMb := aMb) (aMo := aMo) (aMc := aMc) (aMn := aMn) (aMfk := aMfk) (aMfl := aMfl) (aMfd := aMfd) (aMg := aMg) (aMm := aMm) (sz := _) (mth := 0) (msz := msz) (mwi := mwi) (mle := mle) (mgr := mgr) (mpr := mpr) (mhp := mhp) (mtk := mtk) (mbn := mbn) (mmd := mmd) (mep := mep) (mat := mat) (mer := mer) (v1 := 1) h) (cwV 1 hts gX10_common_X10_no rfl rfl rfl (by decide +kernel) ⟨(Nat.le_of_ble_eq_true rfl), (Nat.le_of_ble_eq_true rfl)⟩) (wk_preV (wc := [(aM, .inr (9, [.int 0, .int msz, .ref aMt, .int mwi, .int mle, .int mgr, .int mpr, .int mhp, .int mtk, .ref aMk, .ref aMl, .ref aMd, .ref aMs, .int mbn, .ref aMb, .int mmd, .ref aMo, .int mep, .ref aMc, .ref aMn, .ref aMfk, .ref aMfl, .ref aMfd, .ref aMg, .ref aMm, .int mat, .int mer]))]) hK hP hD [1] rfl (by decide) (va_recv hK hP (ci := 9) (q0 := 1) rfl rfl)) rfl rfl hl.1 rfl (lv_room (Nat.le_of_ble_eq_true rfl)) dX10_common_15 ⟨(Nat.le_of_ble_eq_true rfl), (Nat.le_of_ble_eq_true rfl)⟩) hP hD hS hA [1] [0] rfl rfl (by decide) (by decide) (fun r_11 u9 H locs h hP hD hS => ?_)
    obtain ⟨mth_12, rfl⟩ : ∃ z9, z9 = u9 := ⟨_, rfl⟩
    have hP : va_P (dC, dI) vwCl [(aMt, .inl (cyI, 64, .inl mtx)), (aM, .inr (9, [.int mth_12, .int msz, .ref aMt, .int mwi, .int mle, .int mgr, .int mpr, .int mhp, .int mtk, .ref aMk, .ref aMl, .ref aMd, .ref aMs, .int mbn, .ref aMb, .int mmd, .ref aMo, .int mep, .ref aMc, .ref aMn, .ref aMfk, .ref aMfl, .ref aMfd, .ref aMg, .ref aMm, .int mat, .int mer]))] H := hP
    have hD : va_D A [(aMt, .inl (cyI, 64, .inl mtx)), (aM, .inr (9, [.int mth_12, .int msz, .ref aMt, .int mwi, .int mle, .int mgr, .int mpr, .int mhp, .int mtk, .ref aMk, .ref aMl, .ref aMd, .ref aMs, .int mbn, .ref aMb, .int mmd, .ref aMo, .int mep, .ref aMc, .ref aMn, .ref aMfk, .ref aMfl, .ref aMfd, .ref aMg, .ref aMm, .int mat, .int mer]))] := hD
    have hP9 : va_P (dC, dI) vwCl [(aM, .inr (9, [.int mth_12, .int msz, .ref aMt, .int mwi, .int mle, .int mgr, .int mpr, .int mhp, .int mtk, .ref aMk, .ref aMl, .ref aMd, .ref aMs, .int mbn, .ref aMb, .int mmd, .ref aMo, .int mep, .ref aMc, .ref aMn, .ref aMfk, .ref aMfl, .ref aMfd, .ref aMg, .ref aMm, .int mat, .int mer])), (aMt, .inl (cyI, 64, .inl mtx))] _ := (hP.sub [1, 0] rfl)
    have hD9 : va_D A [(aM, .inr (9, [.int mth_12, .int msz, .ref aMt, .int mwi, .int mle, .int mgr, .int mpr, .int mhp, .int mtk, .ref aMk, .ref aMl, .ref aMd, .ref aMs, .int mbn, .ref aMb, .int mmd, .ref aMo, .int mep, .ref aMc, .ref aMn, .ref aMfk, .ref aMfl, .ref aMfd, .ref aMg, .ref aMm, .int mat, .int mer])), (aMt, .inl (cyI, 64, .inl mtx))] := (hD.sub [1, 0] (by decide) rfl)
    exact W.iret (v := r_11) hx hb hr (fun t ht hW => ⟨⟨r_11, mth_12, rfl, h, by rw [ht]; exact hP9, va_K.moved hW.alike hK, hD9⟩, hS.F ht⟩) hS.2.2 dX10_common_18
-- X10_width
def wpX10_width_2 (v0 : Int32) (K14 : Int32 → Prop) : Nat → Int32 → Prop
  | 0, _ => False
  | n2 + 1, v1 => ((v0 >>> (v1 &&& 31)) ≤ 0 → (K14 v1)) ∧ (¬ (v0 >>> (v1 &&& 31)) ≤ 0 → (wpX10_width_2 v0 K14 n2 (v1 + 1)))
set_option maxHeartbeats 4000000 in
set_option maxRecDepth 100000 in
theorem wlX10_width_2 {p : Program} {l : Launch} {e : Env} {s : State} {m : MethodId} {args : Array Value} {below : List Frame} {meth : Method} {c : Code} {A : Nat → Prop} {Q : State → Prop} {dC : Nat → ClassId} {dI : Nat → Nat → Nat} {cyI : ClassId} {v0 : Int32} {K14 : Int32 → Prop} (C0 : CallFix p m c cX10_width 2 s args wsX10_width RX10) (hA : ∀ q : Nat, s.heap.size ≤ q → A q) (hK : va_K (dC, dI) vwCl [(cyI, .int)] s) (hK14 : ∀ (v1 : Int32), K14 v1 → ∀ (H : Heap) (locs : List Loc) (ls : Array Slot), va_P (dC, dI) vwCl [] H → va_D A [] → va_S A s.heap H locs → lv_has ls 2 [(1, .int v1)] → W p l e ({ frames := 0, cells := 0, slots := 0, locals := 0 } : Room) s m args below meth c H locs 0 0 Q (F0 m 14 ls [])) :
    ∀ (n2 : Nat) (v1 : Int32), wpX10_width_2 v0 K14 n2 v1 → ∀ (H : Heap) (locs : List Loc) (ls : Array Slot), va_P (dC, dI) vwCl [] H → va_D A [] → va_S A s.heap H locs → lv_has ls 2 [(0, .int v0), (1, .int v1)] → W p l e ({ frames := 0, cells := 0, slots := 0, locals := 0 } : Room) s m args below meth c H locs 0 0 Q (F0 m 2 ls []) := by
  obtain ⟨hx, hb, hml, hown, hts⟩ := id C0
  intro n2
  induction n2 with
  | zero => intro _ h; exact h.elim
  | succ n2 ih2 =>
    intro v1 h H locs ls hP hD hS hl
    rw [wpX10_width_2] at h
    refine lv_iload_n hx hb dX10_width_2 rfl (lv_at hl 0 rfl) ?_
    refine lv_iload_n hx hb dX10_width_3 rfl (lv_at hl 1 rfl) ?_
    refine lv_ishr hx hb dX10_width_4 ?_
    refine lv_if_le (tgt := 14) hx hb dX10_width_5 (by decide) (fun c_1 => ?_) (fun c_1 => ?_)
    · replace h := h.1 c_1
      exact hK14 _ h _ _ _ hP hD hS (lv_sub hl [1] rfl)
    · replace h := h.2 c_1
      refine lv_iinc (v := v1 + 1) (lv' := [(1, .int (v1 + 1)), (0, .int v0)]) hx hb dX10_width_8 hl (k := 1) rfl rfl (by decide) rfl (fun ls hl => ?_)
      refine lv_goto (tgt := 2) hx hb dX10_width_11 (by decide) ?_
      exact ih2 _ h _ _ _ hP hD hS (lv_sub hl [1, 0] rfl)
def wpX10_width (v0 : Int32) (post : Int32 → Prop) : Prop := ∃ n2 : Nat, wpX10_width_2 v0 (fun (v1_2 : Int32) => post ((2 * v1_2) - 1)) n2 0
set_option maxHeartbeats 4000000 in
set_option maxRecDepth 100000 in
theorem mtX10_width (l : Launch) (dC : Nat → ClassId) (dI : Nat → Nat → Nat) (cyI : ClassId) {sz : Nat} {v0 : Int32} {post : Int32 → Prop} (h : wpX10_width v0 post) : Met l yX10_width wsX10_width ({ frames := 0, cells := 0, slots := 0, locals := 0 }) (va_Pc [.int v0] (wk_B (dC, dI) [(cyI, .int)] [] sz)) (va_Qi (fun (r : Int32) (u : Unit) => post r ) (wk_C (dC, dI) [(cyI, .int)] (va_A [] sz) (fun (u : Unit) => [])) (va_A [] sz)) 0 0 (va_A [] sz) := by
  refine Met.ofW (cc := cX10_width) (maxL := 2) (ret := (some .int)) (by decide) rfl ?_
  intro p e s m args below meth c s₁ B hml hv
  obtain ⟨rfl, hsz, hP, hK, hD0⟩ := hv
  have hx := B.exec
  have hb := B.bytes
  have hr := B.returns
  have hts := atoms_spec (ws := wsX10_width) B.pre
  have hown : s.vm.findClass RX10 = some m.cls := findClass_of_methodNamed B.named
  have hlocks := B.notSynchronized
  subst hsz
  have hD := hD0.self (sz := s.heap.size)
  generalize hAe : va_A [] s.heap.size = A at hD ⊢
  have hA : ∀ q : Nat, s.heap.size ≤ q → A q := fun q h => by rw [← hAe]; exact Or.inr h
  have hS : va_S A s.heap s.heap [] := va_S.rf
  have hP : va_P (dC, dI) vwCl [] s.heap := hP
  have hl := lv_entry ([.int v0]) (n := 2) (Nat.le_of_ble_eq_true rfl)
  rw [lg_entry_eq]
  generalize (lg_sl ([.int v0]) ++ List.replicate (2 - (lg_sl ([.int v0])).length) Slot.unset).toArray = ls at hl ⊢
  have hl : lv_has ls 2 [(0, .int v0)] := hl
  have C0 : CallFix p m c cX10_width 2 s ([.int v0] : List Value).toArray wsX10_width RX10 := ⟨hx, hb, hml, hown, hts⟩
  unfold wpX10_width at h
  refine lv_iconst (v := 0) hx hb dX10_width_0 (by decide) ?_
  refine lv_istore_n (lv' := [(1, .int 0), (0, .int v0)]) hx hb dX10_width_1 rfl hl (by decide) rfl (fun ls hl => ?_)
  obtain ⟨n2, h⟩ := h
  refine wlX10_width_2 C0 hA hK ?_ n2 _ h _ _ _ hP hD hS (lv_sub hl [1, 0] rfl)
  · intro v1_2 h H locs ls hP hD hS hl
    refine lv_iconst (v := 2) hx hb dX10_width_14 (by decide) ?_
    refine lv_iload_n hx hb dX10_width_15 rfl (lv_at hl 0 rfl) ?_
    refine lv_imul hx hb dX10_width_16 ?_
    refine lv_iconst (v := 1) hx hb dX10_width_17 (by decide) ?_
    refine lv_isub hx hb dX10_width_18 ?_
    have hP9 : va_P (dC, dI) vwCl [] _ := hP
    have hD9 : va_D A [] := hD
    exact W.iret (v := (2 * v1_2) - 1) hx hb hr (fun t ht hW => ⟨⟨(2 * v1_2) - 1, (), rfl, h, by rw [ht]; exact hP9, va_K.moved hW.alike hK, hD9⟩, hS.F ht⟩) hS.2.2 dX10_width_19
-- X10_widthOf
theorem qX10_widthOf_0 : Cond.fieldLink RX10 65 "MatchCoderModel" "thrown" "I" ∈ wsX10_widthOf := (List.mem_cons_of_mem _ (List.mem_append_left _ (List.mem_of_getElem? (i := 0) rfl)))
theorem inX10_widthOf_wsX100 : ∀ w ∈ wsX100, w ∈ wsX10_widthOf := fun _ h => List.mem_cons_of_mem _ (List.mem_append_right _ h)
def wpX10_widthOf (v1 : Int32) (post : Int32 → Int32 → Prop) : Prop := wpX10_isIn v1 1 255 (fun (r_1 : Int32) => (r_1 = 0 → (wpX10_no 1 (fun (r_3 : Int32) (mth_4 : Int32) => post r_3 mth_4))) ∧ (¬ r_1 = 0 → (wpX10_width v1 (fun (r_5 : Int32) => post r_5 0))))
set_option maxHeartbeats 4000000 in
set_option maxRecDepth 100000 in
theorem mtX10_widthOf (l : Launch) (dC : Nat → ClassId) (dI : Nat → Nat → Nat) (cyI : ClassId) {aM aMt aMk aMl aMd aMs aMb aMo aMc aMn aMfk aMfl aMfd aMg aMm : Nat} {sz : Nat} {mth : Int32} {msz : Int32} {mwi : Int32} {mle : Int32} {mgr : Int32} {mpr : Int32} {mhp : Int32} {mtk : Int32} {mbn : Int32} {mmd : Int32} {mep : Int32} {mat : Int32} {mer : Int32} {v1 : Int32} {post : Int32 → Int32 → Prop} (h : wpX10_widthOf v1 post) : Met l yX10_widthOf wsX10_widthOf ({ frames := 1, cells := 0, slots := 0, locals := 22 }) (va_Pc [.ref aM, .int v1] (wk_B (dC, dI) [(cyI, .int)] [(aM, .inr (9, [.int mth, .int msz, .ref aMt, .int mwi, .int mle, .int mgr, .int mpr, .int mhp, .int mtk, .ref aMk, .ref aMl, .ref aMd, .ref aMs, .int mbn, .ref aMb, .int mmd, .ref aMo, .int mep, .ref aMc, .ref aMn, .ref aMfk, .ref aMfl, .ref aMfd, .ref aMg, .ref aMm, .int mat, .int mer]))] sz)) (va_Qi (fun (r : Int32) (u : Int32) => post r u) (wk_C (dC, dI) [(cyI, .int)] (va_A [(aM, .inr (9, [.int mth, .int msz, .ref aMt, .int mwi, .int mle, .int mgr, .int mpr, .int mhp, .int mtk, .ref aMk, .ref aMl, .ref aMd, .ref aMs, .int mbn, .ref aMb, .int mmd, .ref aMo, .int mep, .ref aMc, .ref aMn, .ref aMfk, .ref aMfl, .ref aMfd, .ref aMg, .ref aMm, .int mat, .int mer]))] sz) (fun (u : Int32) => [(aM, .inr (9, [.int (u), .int msz, .ref aMt, .int mwi, .int mle, .int mgr, .int mpr, .int mhp, .int mtk, .ref aMk, .ref aMl, .ref aMd, .ref aMs, .int mbn, .ref aMb, .int mmd, .ref aMo, .int mep, .ref aMc, .ref aMn, .ref aMfk, .ref aMfl, .ref aMfd, .ref aMg, .ref aMm, .int mat, .int mer]))])) (va_A [(aM, .inr (9, [.int mth, .int msz, .ref aMt, .int mwi, .int mle, .int mgr, .int mpr, .int mhp, .int mtk, .ref aMk, .ref aMl, .ref aMd, .ref aMs, .int mbn, .ref aMb, .int mmd, .ref aMo, .int mep, .ref aMc, .ref aMn, .ref aMfk, .ref aMfl, .ref aMfd, .ref aMg, .ref aMm, .int mat, .int mer]))] sz)) 0 0 (va_A [(aM, .inr (9, [.int mth, .int msz, .ref aMt, .int mwi, .int mle, .int mgr, .int mpr, .int mhp, .int mtk, .ref aMk, .ref aMl, .ref aMd, .ref aMs, .int mbn, .ref aMb, .int mmd, .ref aMo, .int mep, .ref aMc, .ref aMn, .ref aMfk, .ref aMfl, .ref aMfd, .ref aMg, .ref aMm, .int mat, .int mer]))] sz) := by
  refine Met.ofW (cc := cX10_widthOf) (maxL := 2) (ret := (some .int)) (by decide) rfl ?_
  intro p e s m args below meth c s₁ B hml hv
  obtain ⟨rfl, hsz, hP, hK, hD0⟩ := hv
  have hx := B.exec
  have hb := B.bytes
  have hr := B.returns
  have hts := atoms_spec (ws := wsX10_widthOf) B.pre
  have hown : s.vm.findClass RX10 = some m.cls := findClass_of_methodNamed B.named
  have hlocks := B.notSynchronized
  subst hsz
  have hD := hD0.self (sz := s.heap.size)
  generalize hAe : va_A [(aM, .inr (9, [.int mth, .int msz, .ref aMt, .int mwi, .int mle, .int mgr, .int mpr, .int mhp, .int mtk, .ref aMk, .ref aMl, .ref aMd, .ref aMs, .int mbn, .ref aMb, .int mmd, .ref aMo, .int mep, .ref aMc, .ref aMn, .ref aMfk, .ref aMfl, .ref aMfd, .ref aMg, .ref aMm, .int mat, .int mer]))] s.heap.size = A at hD ⊢
  have hA : ∀ q : Nat, s.heap.size ≤ q → A q := fun q h => by rw [← hAe]; exact Or.inr h
  have hS : va_S A s.heap s.heap [] := va_S.rf
  have hP : va_P (dC, dI) vwCl [(aM, .inr (9, [.int mth, .int msz, .ref aMt, .int mwi, .int mle, .int mgr, .int mpr, .int mhp, .int mtk, .ref aMk, .ref aMl, .ref aMd, .ref aMs, .int mbn, .ref aMb, .int mmd, .ref aMo, .int mep, .ref aMc, .ref aMn, .ref aMfk, .ref aMfl, .ref aMfd, .ref aMg, .ref aMm, .int mat, .int mer]))] s.heap := hP
  have hl := lv_entry ([.ref aM, .int v1]) (n := 2) (Nat.le_of_ble_eq_true rfl)
  rw [lg_entry_eq]
  generalize (lg_sl ([.ref aM, .int v1]) ++ List.replicate (2 - (lg_sl ([.ref aM, .int v1])).length) Slot.unset).toArray = ls at hl ⊢
  have hl : lv_has ls 2 [(0, .ref aM), (1, .int v1)] := hl
  have C0 : CallFix p m c cX10_widthOf 2 s ([.ref aM, .int v1] : List Value).toArray wsX10_widthOf RX10 := ⟨hx, hb, hml, hown, hts⟩
  unfold wpX10_widthOf at h
  refine lv_aload_n hx hb dX10_widthOf_0 rfl (lv_at hl 0 rfl) ?_
  refine lv_iconst (v := 0) hx hb dX10_widthOf_1 (by decide) ?_
  refine va_put (D := (dC, dI)) (ci := 9) (v := .int 0) (ty := .int) (C := RX10) (T := TX10) (N := 27) hx hb hts inX10_widthOf_wsX100 tyX10 tyX10_ok nmX10 hown hK hP hD hS 0 rfl rfl 0 (by decide) (hts _ qX10_widthOf_0) (fun _ h9 => h9) rfl (by decide +kernel) rfl rfl (Nat.le_of_ble_eq_true rfl) dX10_widthOf_2 (fun H locs hP hD hS => ?_)
  have hP : va_P (dC, dI) vwCl [(aM, .inr (9, [.int 0, .int msz, .ref aMt, .int mwi, .int mle, .int mgr, .int mpr, .int mhp, .int mtk, .ref aMk, .ref aMl, .ref aMd, .ref aMs, .int mbn, .ref aMb, .int mmd, .ref aMo, .int mep, .ref aMc, .ref aMn, .ref aMfk, .ref aMfl, .ref aMfd, .ref aMg, .ref aMm, .int mat, .int mer]))] H := hP
  have hD : va_D A [(aM, .inr (9, [.int 0, .int msz, .ref aMt, .int mwi, .int mle, .int mgr, .int mpr, .int mhp, .int mtk, .ref aMk, .ref aMl, .ref aMd, .ref aMs, .int mbn, .ref aMb, .int mmd, .ref aMo, .int mep, .ref aMc, .ref aMn, .ref aMfk, .ref aMfl, .ref aMfd, .ref aMg, .ref aMm, .int mat, .int mer]))] := hD
  refine lv_iload_n hx hb dX10_widthOf_5 rfl (lv_at hl 1 rfl) ?_
  refine lv_iconst (v := 1) hx hb dX10_widthOf_6 (by decide) ?_
  refine lv_sipush (v := 255) hx hb dX10_widthOf_7 (by decide) ?_
  refine wk_calli (wc := []) (wr := [(aM, .inr (9, [.int 0, .int msz, .ref aMt, .int mwi, .int mle, .int mgr, .int mpr, .int mhp, .int mtk, .ref aMk, .ref aMl, .ref aMd, .ref aMs, .int mbn, .ref aMb, .int mmd, .ref aMo, .int mep, .ref aMc, .ref aMn, .ref aMfk, .ref aMfl, .ref aMfd, .ref aMg, .ref aMm, .int mat, .int mer]))]) (va_runS (As := [.int v1, .int 1, .int 255]) (rest := []) C0 (mtX10_isIn l dC dI cyI (sz := _) (v0 := v1) (v1 := 1) (v2 := 255) h) (va_cwS 3 hts gX10_widthOf_X10_isIn rfl rfl rfl (by decide +kernel) ⟨(Nat.le_of_ble_eq_true rfl), (Nat.le_of_ble_eq_true rfl)⟩) (wk_preS (wc := []) hK hP hD [] rfl (by decide)) rfl rfl hl.1 rfl (lv_room (Nat.le_of_ble_eq_true rfl)) dX10_widthOf_10 ⟨(Nat.le_of_ble_eq_true rfl), (Nat.le_of_ble_eq_true rfl)⟩) hP hD hS hA [] [0] rfl rfl (by decide) (by decide) (fun r_1 u9 H locs h hP hD hS => ?_)
  have hP : va_P (dC, dI) vwCl [(aM, .inr (9, [.int 0, .int msz, .ref aMt, .int mwi, .int mle, .int mgr, .int mpr, .int mhp, .int mtk, .ref aMk, .ref aMl, .ref aMd, .ref aMs, .int mbn, .ref aMb, .int mmd, .ref aMo, .int mep, .ref aMc, .ref aMn, .ref aMfk, .ref aMfl, .ref aMfd, .ref aMg, .ref aMm, .int mat, .int mer]))] H := hP
  have hD : va_D A [(aM, .inr (9, [.int 0, .int msz, .ref aMt, .int mwi, .int mle, .int mgr, .int mpr, .int mhp, .int mtk, .ref aMk, .ref aMl, .ref aMd, .ref aMs, .int mbn, .ref aMb, .int mmd, .ref aMo, .int mep, .ref aMc, .ref aMn, .ref aMfk, .ref aMfl, .ref aMfd, .ref aMg, .ref aMm, .int mat, .int mer]))] := hD
  refine lv_if_eq (tgt := 23) hx hb dX10_widthOf_13 (by decide) (fun c_2 => ?_) (fun c_2 => ?_)
  · replace h := h.1 c_2
    refine lv_aload_n hx hb dX10_widthOf_23 rfl (lv_at hl 0 rfl) ?_
    refine lv_iconst (v := 1) hx hb dX10_widthOf_24 (by decide) ?_
    refine wk_calli (wc := [(aM, .inr (9, [.int 0, .int msz, .ref aMt, .int mwi, .int mle, .int mgr, .int mpr, .int mhp, .int mtk, .ref aMk, .ref aMl, .ref aMd, .ref aMs, .int mbn, .ref aMb, .int mmd, .ref aMo, .int mep, .ref aMc, .ref aMn, .ref aMfk, .ref aMfl, .ref aMfd, .ref aMg, .ref aMm, .int mat, .int mer]))]) (wr := []) (va_runV (As := [.int 1]) (rest := []) C0 (mtX10_no l dC dI cyI (aM := aM) (aMt := aMt) (aMk := aMk) (aMl := aMl) (aMd := aMd) (aMs := aMs) (aMb := aMb) (aMo := aMo) (aMc := aMc) (aMn := aMn) (aMfk := aMfk) (aMfl := aMfl) (aMfd := aMfd) (aMg := aMg) (aMm := aMm) (sz := _) (mth := 0) (msz := msz) (mwi := mwi) (mle := mle) (mgr := mgr) (mpr := mpr) (mhp := mhp) (mtk := mtk) (mbn := mbn) (mmd := mmd) (mep := mep) (mat := mat) (mer := mer) (v1 := 1) h) (cwV 1 hts gX10_widthOf_X10_no rfl rfl rfl (by decide +kernel) ⟨(Nat.le_of_ble_eq_true rfl), (Nat.le_of_ble_eq_true rfl)⟩) (wk_preV (wc := [(aM, .inr (9, [.int 0, .int msz, .ref aMt, .int mwi, .int mle, .int mgr, .int mpr, .int mhp, .int mtk, .ref aMk, .ref aMl, .ref aMd, .ref aMs, .int mbn, .ref aMb, .int mmd, .ref aMo, .int mep, .ref aMc, .ref aMn, .ref aMfk, .ref aMfl, .ref aMfd, .ref aMg, .ref aMm, .int mat, .int mer]))]) hK hP hD [0] rfl (by decide) (va_recv hK hP (ci := 9) (q0 := 0) rfl rfl)) rfl rfl hl.1 rfl (lv_room (Nat.le_of_ble_eq_true rfl)) dX10_widthOf_25 ⟨(Nat.le_of_ble_eq_true rfl), (Nat.le_of_ble_eq_true rfl)⟩) hP hD hS hA [0] [] rfl rfl (by decide) (by decide) (fun r_3 u9 H locs h hP hD hS => ?_)
    obtain ⟨mth_4, rfl⟩ : ∃ z9, z9 = u9 := ⟨_, rfl⟩
    have hP : va_P (dC, dI) vwCl [(aM, .inr (9, [.int mth_4, .int msz, .ref aMt, .int mwi, .int mle, .int mgr, .int mpr, .int mhp, .int mtk, .ref aMk, .ref aMl, .ref aMd, .ref aMs, .int mbn, .ref aMb, .int mmd, .ref aMo, .int mep, .ref aMc, .ref aMn, .ref aMfk, .ref aMfl, .ref aMfd, .ref aMg, .ref aMm, .int mat, .int mer]))] H := hP
    have hD : va_D A [(aM, .inr (9, [.int mth_4, .int msz, .ref aMt, .int mwi, .int mle, .int mgr, .int mpr, .int mhp, .int mtk, .ref aMk, .ref aMl, .ref aMd, .ref aMs, .int mbn, .ref aMb, .int mmd, .ref aMo, .int mep, .ref aMc, .ref aMn, .ref aMfk, .ref aMfl, .ref aMfd, .ref aMg, .ref aMm, .int mat, .int mer]))] := hD
    have hP9 : va_P (dC, dI) vwCl [(aM, .inr (9, [.int mth_4, .int msz, .ref aMt, .int mwi, .int mle, .int mgr, .int mpr, .int mhp, .int mtk, .ref aMk, .ref aMl, .ref aMd, .ref aMs, .int mbn, .ref aMb, .int mmd, .ref aMo, .int mep, .ref aMc, .ref aMn, .ref aMfk, .ref aMfl, .ref aMfd, .ref aMg, .ref aMm, .int mat, .int mer]))] _ := hP
    have hD9 : va_D A [(aM, .inr (9, [.int mth_4, .int msz, .ref aMt, .int mwi, .int mle, .int mgr, .int mpr, .int mhp, .int mtk, .ref aMk, .ref aMl, .ref aMd, .ref aMs, .int mbn, .ref aMb, .int mmd, .ref aMo, .int mep, .ref aMc, .ref aMn, .ref aMfk, .ref aMfl, .ref aMfd, .ref aMg, .ref aMm, .int mat, .int mer]))] := hD
    exact W.iret (v := r_3) hx hb hr (fun t ht hW => ⟨⟨r_3, mth_4, rfl, h, by rw [ht]; exact hP9, va_K.moved hW.alike hK, hD9⟩, hS.F ht⟩) hS.2.2 dX10_widthOf_28
  · replace h := h.2 c_2
    refine lv_iload_n hx hb dX10_widthOf_16 rfl (lv_at hl 1 rfl) ?_
    refine wk_calli (wc := []) (wr := [(aM, .inr (9, [.int 0, .int msz, .ref aMt, .int mwi, .int mle, .int mgr, .int mpr, .int mhp, .int mtk, .ref aMk, .ref aMl, .ref aMd, .ref aMs, .int mbn, .ref aMb, .int mmd, .ref aMo, .int mep, .ref aMc, .ref aMn, .ref aMfk, .ref aMfl, .ref aMfd, .ref aMg, .ref aMm, .int mat, .int mer]))]) (va_runS (As := [.int v1]) (rest := []) C0 (mtX10_width l dC dI cyI (sz := _) (v0 := v1) h) (va_cwS 1 hts gX10_widthOf_X10_width rfl rfl rfl (by decide +kernel) ⟨(Nat.le_of_ble_eq_true rfl), (Nat.le_of_ble_eq_true rfl)⟩) (wk_preS (wc := []) hK hP hD [] rfl (by decide)) rfl rfl hl.1 rfl (lv_room (Nat.le_of_ble_eq_true rfl)) dX10_widthOf_17 ⟨(Nat.le_of_ble_eq_true rfl), (Nat.le_of_ble_eq_true rfl)⟩) hP hD hS hA [] [0] rfl rfl (by decide) (by decide) (fun r_5 u9 H locs h hP hD hS => ?_)
    have hP : va_P (dC, dI) vwCl [(aM, .inr (9, [.int 0, .int msz, .ref aMt, .int mwi, .int mle, .int mgr, .int mpr, .int mhp, .int mtk, .ref aMk, .ref aMl, .ref aMd, .ref aMs, .int mbn, .ref aMb, .int mmd, .ref aMo, .int mep, .ref aMc, .ref aMn, .ref aMfk, .ref aMfl, .ref aMfd, .ref aMg, .ref aMm, .int mat, .int mer]))] H := hP
    have hD : va_D A [(aM, .inr (9, [.int 0, .int msz, .ref aMt, .int mwi, .int mle, .int mgr, .int mpr, .int mhp, .int mtk, .ref aMk, .ref aMl, .ref aMd, .ref aMs, .int mbn, .ref aMb, .int mmd, .ref aMo, .int mep, .ref aMc, .ref aMn, .ref aMfk, .ref aMfl, .ref aMfd, .ref aMg, .ref aMm, .int mat, .int mer]))] := hD
    refine lv_goto (tgt := 28) hx hb dX10_widthOf_20 (by decide) ?_
    have hP9 : va_P (dC, dI) vwCl [(aM, .inr (9, [.int 0, .int msz, .ref aMt, .int mwi, .int mle, .int mgr, .int mpr, .int mhp, .int mtk, .ref aMk, .ref aMl, .ref aMd, .ref aMs, .int mbn, .ref aMb, .int mmd, .ref aMo, .int mep, .ref aMc, .ref aMn, .ref aMfk, .ref aMfl, .ref aMfd, .ref aMg, .ref aMm, .int mat, .int mer]))] _ := hP
    have hD9 : va_D A [(aM, .inr (9, [.int 0, .int msz, .ref aMt, .int mwi, .int mle, .int mgr, .int mpr, .int mhp, .int mtk, .ref aMk, .ref aMl, .ref aMd, .ref aMs, .int mbn, .ref aMb, .int mmd, .ref aMo, .int mep, .ref aMc, .ref aMn, .ref aMfk, .ref aMfl, .ref aMfd, .ref aMg, .ref aMm, .int mat, .int mer]))] := hD
    exact W.iret (v := r_5) hx hb hr (fun t ht hW => ⟨⟨r_5, 0, rfl, h, by rw [ht]; exact hP9, va_K.moved hW.alike hK, hD9⟩, hS.F ht⟩) hS.2.2 dX10_widthOf_28
-- X10_bitsOf
def wpX10_bitsOf (v0 : Int32) (v1 : Int32) (v2 : Int32) (post : Int32 → Prop) : Prop := (v0 = 0 → (post 9)) ∧ (¬ v0 = 0 → ((v0 = 1 → (wpX10_width v2 (fun (r_4 : Int32) => wpX10_width (v1 - 1) (fun (r_5 : Int32) => post ((2 + r_4) + r_5))))) ∧ (¬ v0 = 1 → (wpX10_width v1 (fun (r_3 : Int32) => post (2 + r_3))))))
set_option maxHeartbeats 4000000 in
set_option maxRecDepth 100000 in
theorem mtX10_bitsOf (l : Launch) (dC : Nat → ClassId) (dI : Nat → Nat → Nat) (cyI : ClassId) {sz : Nat} {v0 : Int32} {v1 : Int32} {v2 : Int32} {post : Int32 → Prop} (h : wpX10_bitsOf v0 v1 v2 post) : Met l yX10_bitsOf wsX10_bitsOf ({ frames := 1, cells := 0, slots := 0, locals := 21 }) (va_Pc [.int v0, .int v1, .int v2] (wk_B (dC, dI) [(cyI, .int)] [] sz)) (va_Qi (fun (r : Int32) (u : Unit) => post r ) (wk_C (dC, dI) [(cyI, .int)] (va_A [] sz) (fun (u : Unit) => [])) (va_A [] sz)) 0 0 (va_A [] sz) := by
  refine Met.ofW (cc := cX10_bitsOf) (maxL := 3) (ret := (some .int)) (by decide) rfl ?_
  intro p e s m args below meth c s₁ B hml hv
  obtain ⟨rfl, hsz, hP, hK, hD0⟩ := hv
  have hx := B.exec
  have hb := B.bytes
  have hr := B.returns
  have hts := atoms_spec (ws := wsX10_bitsOf) B.pre
  have hown : s.vm.findClass RX10 = some m.cls := findClass_of_methodNamed B.named
  have hlocks := B.notSynchronized
  subst hsz
  have hD := hD0.self (sz := s.heap.size)
  generalize hAe : va_A [] s.heap.size = A at hD ⊢
  have hA : ∀ q : Nat, s.heap.size ≤ q → A q := fun q h => by rw [← hAe]; exact Or.inr h
  have hS : va_S A s.heap s.heap [] := va_S.rf
  have hP : va_P (dC, dI) vwCl [] s.heap := hP
  have hl := lv_entry ([.int v0, .int v1, .int v2]) (n := 3) (Nat.le_of_ble_eq_true rfl)
  rw [lg_entry_eq]
  generalize (lg_sl ([.int v0, .int v1, .int v2]) ++ List.replicate (3 - (lg_sl ([.int v0, .int v1, .int v2])).length) Slot.unset).toArray = ls at hl ⊢
  have hl : lv_has ls 3 [(0, .int v0), (1, .int v1), (2, .int v2)] := hl
  have C0 : CallFix p m c cX10_bitsOf 3 s ([.int v0, .int v1, .int v2] : List Value).toArray wsX10_bitsOf RX10 := ⟨hx, hb, hml, hown, hts⟩
  unfold wpX10_bitsOf at h
  refine lv_iload_n hx hb dX10_bitsOf_0 rfl (lv_at hl 0 rfl) ?_
  refine lv_if_ne (tgt := 9) hx hb dX10_bitsOf_1 (by decide) (fun c_1 => ?_) (fun c_1 => ?_)
  · replace h := h.2 c_1
    refine lv_iload_n hx hb dX10_bitsOf_9 rfl (lv_at hl 0 rfl) ?_
    refine lv_iconst (v := 1) hx hb dX10_bitsOf_10 (by decide) ?_
    refine lv_icmp_ne (tgt := 30) hx hb dX10_bitsOf_11 (by decide) (fun c_2 => ?_) (fun c_2 => ?_)
    · replace h := h.2 c_2
      refine lv_iconst (v := 2) hx hb dX10_bitsOf_30 (by decide) ?_
      refine lv_iload_n hx hb dX10_bitsOf_31 rfl (lv_at hl 1 rfl) ?_
      refine wk_calli (wc := []) (wr := []) (va_runS (As := [.int v1]) (rest := [.int 2]) C0 (mtX10_width l dC dI cyI (sz := _) (v0 := v1) h) (va_cwS 1 hts gX10_bitsOf_X10_width rfl rfl rfl (by decide +kernel) ⟨(Nat.le_of_ble_eq_true rfl), (Nat.le_of_ble_eq_true rfl)⟩) (wk_preS (wc := []) hK hP hD [] rfl (by decide)) rfl rfl hl.1 rfl (lv_room (Nat.le_of_ble_eq_true rfl)) dX10_bitsOf_32 ⟨(Nat.le_of_ble_eq_true rfl), (Nat.le_of_ble_eq_true rfl)⟩) hP hD hS hA [] [] rfl rfl (by decide) (by decide) (fun r_3 u9 H locs h hP hD hS => ?_)
      have hP : va_P (dC, dI) vwCl [] H := hP
      have hD : va_D A [] := hD
      refine lv_iadd hx hb dX10_bitsOf_35 ?_
      have hP9 : va_P (dC, dI) vwCl [] _ := hP
      have hD9 : va_D A [] := hD
      exact W.iret (v := 2 + r_3) hx hb hr (fun t ht hW => ⟨⟨2 + r_3, (), rfl, h, by rw [ht]; exact hP9, va_K.moved hW.alike hK, hD9⟩, hS.F ht⟩) hS.2.2 dX10_bitsOf_36
    · replace h := h.1 c_2
      refine lv_iconst (v := 2) hx hb dX10_bitsOf_14 (by decide) ?_
      refine lv_iload_n hx hb dX10_bitsOf_15 rfl (lv_at hl 2 rfl) ?_
      refine wk_calli (wc := []) (wr := []) (va_runS (As := [.int v2]) (rest := [.int 2]) C0 (mtX10_width l dC dI cyI (sz := _) (v0 := v2) h) (va_cwS 1 hts gX10_bitsOf_X10_width rfl rfl rfl (by decide +kernel) ⟨(Nat.le_of_ble_eq_true rfl), (Nat.le_of_ble_eq_true rfl)⟩) (wk_preS (wc := []) hK hP hD [] rfl (by decide)) rfl rfl hl.1 rfl (lv_room (Nat.le_of_ble_eq_true rfl)) dX10_bitsOf_16 ⟨(Nat.le_of_ble_eq_true rfl), (Nat.le_of_ble_eq_true rfl)⟩) hP hD hS hA [] [] rfl rfl (by decide) (by decide) (fun r_4 u9 H locs h hP hD hS => ?_)
      have hP : va_P (dC, dI) vwCl [] H := hP
      have hD : va_D A [] := hD
      refine lv_iadd hx hb dX10_bitsOf_19 ?_
      refine lv_iload_n hx hb dX10_bitsOf_20 rfl (lv_at hl 1 rfl) ?_
      refine lv_iconst (v := 1) hx hb dX10_bitsOf_21 (by decide) ?_
      refine lv_isub hx hb dX10_bitsOf_22 ?_
      refine wk_calli (wc := []) (wr := []) (va_runS (As := [.int (v1 - 1)]) (rest := [.int (2 + r_4)]) C0 (mtX10_width l dC dI cyI (sz := _) (v0 := v1 - 1) h) (va_cwS 1 hts gX10_bitsOf_X10_width rfl rfl rfl (by decide +kernel) ⟨(Nat.le_of_ble_eq_true rfl), (Nat.le_of_ble_eq_true rfl)⟩) (wk_preS (wc := []) hK hP hD [] rfl (by decide)) rfl rfl hl.1 rfl (lv_room (Nat.le_of_ble_eq_true rfl)) dX10_bitsOf_23 ⟨(Nat.le_of_ble_eq_true rfl), (Nat.le_of_ble_eq_true rfl)⟩) hP hD hS hA [] [] rfl rfl (by decide) (by decide) (fun r_5 u9 H locs h hP hD hS => ?_)
      have hP : va_P (dC, dI) vwCl [] H := hP
      have hD : va_D A [] := hD
      refine lv_iadd hx hb dX10_bitsOf_26 ?_
      refine lv_goto (tgt := 36) hx hb dX10_bitsOf_27 (by decide) ?_
      have hP9 : va_P (dC, dI) vwCl [] _ := hP
      have hD9 : va_D A [] := hD
      exact W.iret (v := (2 + r_4) + r_5) hx hb hr (fun t ht hW => ⟨⟨(2 + r_4) + r_5, (), rfl, h, by rw [ht]; exact hP9, va_K.moved hW.alike hK, hD9⟩, hS.F ht⟩) hS.2.2 dX10_bitsOf_36
  · replace h := h.1 c_1
    refine lv_bipush (v := 9) hx hb dX10_bitsOf_4 (by decide) ?_
    refine lv_goto (tgt := 36) hx hb dX10_bitsOf_6 (by decide) ?_
    have hP9 : va_P (dC, dI) vwCl [] _ := hP
    have hD9 : va_D A [] := hD
    exact W.iret (v := 9) hx hb hr (fun t ht hW => ⟨⟨9, (), rfl, h, by rw [ht]; exact hP9, va_K.moved hW.alike hK, hD9⟩, hS.F ht⟩) hS.2.2 dX10_bitsOf_36
-- X10_put
theorem qX10_put_0 : Cond.fieldLink RX10 23 "MatchCoderModel" "kinds" "[I" ∈ wsX10_put := (List.mem_cons_of_mem _ (List.mem_append_left _ (List.mem_of_getElem? (i := 0) rfl)))
theorem qX10_put_1 : Cond.fieldLink RX10 119 "MatchCoderModel" "tokens" "I" ∈ wsX10_put := (List.mem_cons_of_mem _ (List.mem_append_left _ (List.mem_of_getElem? (i := 1) rfl)))
theorem qX10_put_2 : Cond.fieldLink RX10 32 "MatchCoderModel" "starts" "[I" ∈ wsX10_put := (List.mem_cons_of_mem _ (List.mem_append_left _ (List.mem_of_getElem? (i := 2) rfl)))
theorem qX10_put_3 : Cond.fieldLink RX10 26 "MatchCoderModel" "lengths" "[I" ∈ wsX10_put := (List.mem_cons_of_mem _ (List.mem_append_left _ (List.mem_of_getElem? (i := 3) rfl)))
theorem qX10_put_4 : Cond.fieldLink RX10 29 "MatchCoderModel" "distances" "[I" ∈ wsX10_put := (List.mem_cons_of_mem _ (List.mem_append_left _ (List.mem_of_getElem? (i := 4) rfl)))
theorem inX10_put_wsX100 : ∀ w ∈ wsX100, w ∈ wsX10_put := fun _ h => List.mem_cons_of_mem _ (List.mem_append_right _ h)
def wpX10_put (mtk : Int32) (mki : Nat → Int32) (mln : Nat → Int32) (mdi : Nat → Int32) (mst : Nat → Int32) (v1 : Int32) (v2 : Int32) (v3 : Int32) (v4 : Int32) (post : Int32 → (Nat → Int32) → (Nat → Int32) → (Nat → Int32) → (Nat → Int32) → Prop) : Prop := vp_in mtk 64 ∧ (post (mtk + 1) (upd mki mtk.toNatClampNeg v1) (upd mln mtk.toNatClampNeg v3) (upd mdi mtk.toNatClampNeg v4) (upd mst mtk.toNatClampNeg v2))
set_option maxHeartbeats 4000000 in
set_option maxRecDepth 100000 in
theorem mtX10_put (l : Launch) (dC : Nat → ClassId) (dI : Nat → Nat → Nat) (cyI : ClassId) {aM aMt aMk aMl aMd aMs aMb aMo aMc aMn aMfk aMfl aMfd aMg aMm : Nat} {sz : Nat} {mth : Int32} {msz : Int32} {mwi : Int32} {mle : Int32} {mgr : Int32} {mpr : Int32} {mhp : Int32} {mtk : Int32} {mbn : Int32} {mmd : Int32} {mep : Int32} {mat : Int32} {mer : Int32} {mki : Nat → Int32} {mln : Nat → Int32} {mdi : Nat → Int32} {mst : Nat → Int32} {v1 : Int32} {v2 : Int32} {v3 : Int32} {v4 : Int32} {post : Int32 → (Nat → Int32) → (Nat → Int32) → (Nat → Int32) → (Nat → Int32) → Prop} (h : wpX10_put mtk mki mln mdi mst v1 v2 v3 v4 post) : Met l yX10_put wsX10_put ({ frames := 0, cells := 0, slots := 0, locals := 0 }) (va_Pc [.ref aM, .int v1, .int v2, .int v3, .int v4] (wk_B (dC, dI) [(cyI, .int)] [(aM, .inr (9, [.int mth, .int msz, .ref aMt, .int mwi, .int mle, .int mgr, .int mpr, .int mhp, .int mtk, .ref aMk, .ref aMl, .ref aMd, .ref aMs, .int mbn, .ref aMb, .int mmd, .ref aMo, .int mep, .ref aMc, .ref aMn, .ref aMfk, .ref aMfl, .ref aMfd, .ref aMg, .ref aMm, .int mat, .int mer])), (aMk, .inl (cyI, 64, .inl mki)), (aMl, .inl (cyI, 64, .inl mln)), (aMd, .inl (cyI, 64, .inl mdi)), (aMs, .inl (cyI, 64, .inl mst))] sz)) (va_Qv (fun (u : Int32 × (Nat → Int32) × (Nat → Int32) × (Nat → Int32) × (Nat → Int32)) => post u.1 u.2.1 u.2.2.1 u.2.2.2.1 u.2.2.2.2) (wk_C (dC, dI) [(cyI, .int)] (va_A [(aM, .inr (9, [.int mth, .int msz, .ref aMt, .int mwi, .int mle, .int mgr, .int mpr, .int mhp, .int mtk, .ref aMk, .ref aMl, .ref aMd, .ref aMs, .int mbn, .ref aMb, .int mmd, .ref aMo, .int mep, .ref aMc, .ref aMn, .ref aMfk, .ref aMfl, .ref aMfd, .ref aMg, .ref aMm, .int mat, .int mer])), (aMk, .inl (cyI, 64, .inl mki)), (aMl, .inl (cyI, 64, .inl mln)), (aMd, .inl (cyI, 64, .inl mdi)), (aMs, .inl (cyI, 64, .inl mst))] sz) (fun (u : Int32 × (Nat → Int32) × (Nat → Int32) × (Nat → Int32) × (Nat → Int32)) => [(aM, .inr (9, [.int mth, .int msz, .ref aMt, .int mwi, .int mle, .int mgr, .int mpr, .int mhp, .int (u.1), .ref aMk, .ref aMl, .ref aMd, .ref aMs, .int mbn, .ref aMb, .int mmd, .ref aMo, .int mep, .ref aMc, .ref aMn, .ref aMfk, .ref aMfl, .ref aMfd, .ref aMg, .ref aMm, .int mat, .int mer])), (aMk, .inl (cyI, 64, .inl (u.2.1))), (aMl, .inl (cyI, 64, .inl (u.2.2.1))), (aMd, .inl (cyI, 64, .inl (u.2.2.2.1))), (aMs, .inl (cyI, 64, .inl (u.2.2.2.2)))])) (va_A [(aM, .inr (9, [.int mth, .int msz, .ref aMt, .int mwi, .int mle, .int mgr, .int mpr, .int mhp, .int mtk, .ref aMk, .ref aMl, .ref aMd, .ref aMs, .int mbn, .ref aMb, .int mmd, .ref aMo, .int mep, .ref aMc, .ref aMn, .ref aMfk, .ref aMfl, .ref aMfd, .ref aMg, .ref aMm, .int mat, .int mer])), (aMk, .inl (cyI, 64, .inl mki)), (aMl, .inl (cyI, 64, .inl mln)), (aMd, .inl (cyI, 64, .inl mdi)), (aMs, .inl (cyI, 64, .inl mst))] sz)) 0 0 (va_A [(aM, .inr (9, [.int mth, .int msz, .ref aMt, .int mwi, .int mle, .int mgr, .int mpr, .int mhp, .int mtk, .ref aMk, .ref aMl, .ref aMd, .ref aMs, .int mbn, .ref aMb, .int mmd, .ref aMo, .int mep, .ref aMc, .ref aMn, .ref aMfk, .ref aMfl, .ref aMfd, .ref aMg, .ref aMm, .int mat, .int mer])), (aMk, .inl (cyI, 64, .inl mki)), (aMl, .inl (cyI, 64, .inl mln)), (aMd, .inl (cyI, 64, .inl mdi)), (aMs, .inl (cyI, 64, .inl mst))] sz) := by
  refine Met.ofW (cc := cX10_put) (maxL := 5) (ret := none) (by decide) rfl ?_
  intro p e s m args below meth c s₁ B hml hv
  obtain ⟨rfl, hsz, hP, hK, hD0⟩ := hv
  have hx := B.exec
  have hb := B.bytes
  have hr := B.returns
  have hts := atoms_spec (ws := wsX10_put) B.pre
  have hown : s.vm.findClass RX10 = some m.cls := findClass_of_methodNamed B.named
  have hlocks := B.notSynchronized
  subst hsz
  have hD := hD0.self (sz := s.heap.size)
  generalize hAe : va_A [(aM, .inr (9, [.int mth, .int msz, .ref aMt, .int mwi, .int mle, .int mgr, .int mpr, .int mhp, .int mtk, .ref aMk, .ref aMl, .ref aMd, .ref aMs, .int mbn, .ref aMb, .int mmd, .ref aMo, .int mep, .ref aMc, .ref aMn, .ref aMfk, .ref aMfl, .ref aMfd, .ref aMg, .ref aMm, .int mat, .int mer])), (aMk, .inl (cyI, 64, .inl mki)), (aMl, .inl (cyI, 64, .inl mln)), (aMd, .inl (cyI, 64, .inl mdi)), (aMs, .inl (cyI, 64, .inl mst))] s.heap.size = A at hD ⊢
  have hA : ∀ q : Nat, s.heap.size ≤ q → A q := fun q h => by rw [← hAe]; exact Or.inr h
  have hS : va_S A s.heap s.heap [] := va_S.rf
  have hP : va_P (dC, dI) vwCl [(aM, .inr (9, [.int mth, .int msz, .ref aMt, .int mwi, .int mle, .int mgr, .int mpr, .int mhp, .int mtk, .ref aMk, .ref aMl, .ref aMd, .ref aMs, .int mbn, .ref aMb, .int mmd, .ref aMo, .int mep, .ref aMc, .ref aMn, .ref aMfk, .ref aMfl, .ref aMfd, .ref aMg, .ref aMm, .int mat, .int mer])), (aMk, .inl (cyI, 64, .inl mki)), (aMl, .inl (cyI, 64, .inl mln)), (aMd, .inl (cyI, 64, .inl mdi)), (aMs, .inl (cyI, 64, .inl mst))] s.heap := hP
  have hl := lv_entry ([.ref aM, .int v1, .int v2, .int v3, .int v4]) (n := 5) (Nat.le_of_ble_eq_true rfl)
  rw [lg_entry_eq]
  generalize (lg_sl ([.ref aM, .int v1, .int v2, .int v3, .int v4]) ++ List.replicate (5 - (lg_sl ([.ref aM, .int v1, .int v2, .int v3, .int v4])).length) Slot.unset).toArray = ls at hl ⊢
  have hl : lv_has ls 5 [(0, .ref aM), (1, .int v1), (2, .int v2), (3, .int v3), (4, .int v4)] := hl
  have C0 : CallFix p m c cX10_put 5 s ([.ref aM, .int v1, .int v2, .int v3, .int v4] : List Value).toArray wsX10_put RX10 := ⟨hx, hb, hml, hown, hts⟩
  unfold wpX10_put at h
  refine lv_aload_n hx hb dX10_put_0 rfl (lv_at hl 0 rfl) ?_
  refine va_get (D := (dC, dI)) (ci := 9) (v := .ref aMk) (C := RX10) (T := TX10) (N := 27) hx hb hts inX10_put_wsX100 hown hK hP 0 rfl rfl 9 (by decide) (hts _ qX10_put_0) (fun _ h9 => h9) rfl dX10_put_1 ?_
  refine lv_aload_n hx hb dX10_put_4 rfl (lv_at hl 0 rfl) ?_
  refine va_get (D := (dC, dI)) (ci := 9) (v := .int mtk) (C := RX10) (T := TX10) (N := 27) hx hb hts inX10_put_wsX100 hown hK hP 0 rfl rfl 8 (by decide) (hts _ qX10_put_1) (fun _ h9 => h9) rfl dX10_put_5 ?_
  refine lv_iload_n hx hb dX10_put_8 rfl (lv_at hl 1 rfl) ?_
  obtain ⟨hi_1, h⟩ := h
  refine va_iast hx hb hK hP hD hS 1 0 rfl rfl hi_1 dX10_put_9 (fun H locs hP hD hS => ?_)
  have hP : va_P (dC, dI) vwCl [(aM, .inr (9, [.int mth, .int msz, .ref aMt, .int mwi, .int mle, .int mgr, .int mpr, .int mhp, .int mtk, .ref aMk, .ref aMl, .ref aMd, .ref aMs, .int mbn, .ref aMb, .int mmd, .ref aMo, .int mep, .ref aMc, .ref aMn, .ref aMfk, .ref aMfl, .ref aMfd, .ref aMg, .ref aMm, .int mat, .int mer])), (aMk, .inl (cyI, 64, .inl (upd mki mtk.toNatClampNeg v1))), (aMl, .inl (cyI, 64, .inl mln)), (aMd, .inl (cyI, 64, .inl mdi)), (aMs, .inl (cyI, 64, .inl mst))] H := hP
  have hD : va_D A [(aM, .inr (9, [.int mth, .int msz, .ref aMt, .int mwi, .int mle, .int mgr, .int mpr, .int mhp, .int mtk, .ref aMk, .ref aMl, .ref aMd, .ref aMs, .int mbn, .ref aMb, .int mmd, .ref aMo, .int mep, .ref aMc, .ref aMn, .ref aMfk, .ref aMfl, .ref aMfd, .ref aMg, .ref aMm, .int mat, .int mer])), (aMk, .inl (cyI, 64, .inl (upd mki mtk.toNatClampNeg v1))), (aMl, .inl (cyI, 64, .inl mln)), (aMd, .inl (cyI, 64, .inl mdi)), (aMs, .inl (cyI, 64, .inl mst))] := hD
  refine lv_aload_n hx hb dX10_put_10 rfl (lv_at hl 0 rfl) ?_
  refine va_get (D := (dC, dI)) (ci := 9) (v := .ref aMs) (C := RX10) (T := TX10) (N := 27) hx hb hts inX10_put_wsX100 hown hK hP 0 rfl rfl 12 (by decide) (hts _ qX10_put_2) (fun _ h9 => h9) rfl dX10_put_11 ?_
  refine lv_aload_n hx hb dX10_put_14 rfl (lv_at hl 0 rfl) ?_
  refine va_get (D := (dC, dI)) (ci := 9) (v := .int mtk) (C := RX10) (T := TX10) (N := 27) hx hb hts inX10_put_wsX100 hown hK hP 0 rfl rfl 8 (by decide) (hts _ qX10_put_1) (fun _ h9 => h9) rfl dX10_put_15 ?_
  refine lv_iload_n hx hb dX10_put_18 rfl (lv_at hl 2 rfl) ?_
  refine va_iast hx hb hK hP hD hS 4 0 rfl rfl hi_1 dX10_put_19 (fun H locs hP hD hS => ?_)
  have hP : va_P (dC, dI) vwCl [(aM, .inr (9, [.int mth, .int msz, .ref aMt, .int mwi, .int mle, .int mgr, .int mpr, .int mhp, .int mtk, .ref aMk, .ref aMl, .ref aMd, .ref aMs, .int mbn, .ref aMb, .int mmd, .ref aMo, .int mep, .ref aMc, .ref aMn, .ref aMfk, .ref aMfl, .ref aMfd, .ref aMg, .ref aMm, .int mat, .int mer])), (aMk, .inl (cyI, 64, .inl (upd mki mtk.toNatClampNeg v1))), (aMl, .inl (cyI, 64, .inl mln)), (aMd, .inl (cyI, 64, .inl mdi)), (aMs, .inl (cyI, 64, .inl (upd mst mtk.toNatClampNeg v2)))] H := hP
  have hD : va_D A [(aM, .inr (9, [.int mth, .int msz, .ref aMt, .int mwi, .int mle, .int mgr, .int mpr, .int mhp, .int mtk, .ref aMk, .ref aMl, .ref aMd, .ref aMs, .int mbn, .ref aMb, .int mmd, .ref aMo, .int mep, .ref aMc, .ref aMn, .ref aMfk, .ref aMfl, .ref aMfd, .ref aMg, .ref aMm, .int mat, .int mer])), (aMk, .inl (cyI, 64, .inl (upd mki mtk.toNatClampNeg v1))), (aMl, .inl (cyI, 64, .inl mln)), (aMd, .inl (cyI, 64, .inl mdi)), (aMs, .inl (cyI, 64, .inl (upd mst mtk.toNatClampNeg v2)))] := hD
  refine lv_aload_n hx hb dX10_put_20 rfl (lv_at hl 0 rfl) ?_
  refine va_get (D := (dC, dI)) (ci := 9) (v := .ref aMl) (C := RX10) (T := TX10) (N := 27) hx hb hts inX10_put_wsX100 hown hK hP 0 rfl rfl 10 (by decide) (hts _ qX10_put_3) (fun _ h9 => h9) rfl dX10_put_21 ?_
  refine lv_aload_n hx hb dX10_put_24 rfl (lv_at hl 0 rfl) ?_
  refine va_get (D := (dC, dI)) (ci := 9) (v := .int mtk) (C := RX10) (T := TX10) (N := 27) hx hb hts inX10_put_wsX100 hown hK hP 0 rfl rfl 8 (by decide) (hts _ qX10_put_1) (fun _ h9 => h9) rfl dX10_put_25 ?_
  refine lv_iload_n hx hb dX10_put_28 rfl (lv_at hl 3 rfl) ?_
  refine va_iast hx hb hK hP hD hS 2 0 rfl rfl hi_1 dX10_put_29 (fun H locs hP hD hS => ?_)
  have hP : va_P (dC, dI) vwCl [(aM, .inr (9, [.int mth, .int msz, .ref aMt, .int mwi, .int mle, .int mgr, .int mpr, .int mhp, .int mtk, .ref aMk, .ref aMl, .ref aMd, .ref aMs, .int mbn, .ref aMb, .int mmd, .ref aMo, .int mep, .ref aMc, .ref aMn, .ref aMfk, .ref aMfl, .ref aMfd, .ref aMg, .ref aMm, .int mat, .int mer])), (aMk, .inl (cyI, 64, .inl (upd mki mtk.toNatClampNeg v1))), (aMl, .inl (cyI, 64, .inl (upd mln mtk.toNatClampNeg v3))), (aMd, .inl (cyI, 64, .inl mdi)), (aMs, .inl (cyI, 64, .inl (upd mst mtk.toNatClampNeg v2)))] H := hP
  have hD : va_D A [(aM, .inr (9, [.int mth, .int msz, .ref aMt, .int mwi, .int mle, .int mgr, .int mpr, .int mhp, .int mtk, .ref aMk, .ref aMl, .ref aMd, .ref aMs, .int mbn, .ref aMb, .int mmd, .ref aMo, .int mep, .ref aMc, .ref aMn, .ref aMfk, .ref aMfl, .ref aMfd, .ref aMg, .ref aMm, .int mat, .int mer])), (aMk, .inl (cyI, 64, .inl (upd mki mtk.toNatClampNeg v1))), (aMl, .inl (cyI, 64, .inl (upd mln mtk.toNatClampNeg v3))), (aMd, .inl (cyI, 64, .inl mdi)), (aMs, .inl (cyI, 64, .inl (upd mst mtk.toNatClampNeg v2)))] := hD
  refine lv_aload_n hx hb dX10_put_30 rfl (lv_at hl 0 rfl) ?_
  refine va_get (D := (dC, dI)) (ci := 9) (v := .ref aMd) (C := RX10) (T := TX10) (N := 27) hx hb hts inX10_put_wsX100 hown hK hP 0 rfl rfl 11 (by decide) (hts _ qX10_put_4) (fun _ h9 => h9) rfl dX10_put_31 ?_
  refine lv_aload_n hx hb dX10_put_34 rfl (lv_at hl 0 rfl) ?_
  refine va_get (D := (dC, dI)) (ci := 9) (v := .int mtk) (C := RX10) (T := TX10) (N := 27) hx hb hts inX10_put_wsX100 hown hK hP 0 rfl rfl 8 (by decide) (hts _ qX10_put_1) (fun _ h9 => h9) rfl dX10_put_35 ?_
  refine lv_iload hx hb dX10_put_38 (lv_at hl 4 rfl) ?_
  refine va_iast hx hb hK hP hD hS 3 0 rfl rfl hi_1 dX10_put_40 (fun H locs hP hD hS => ?_)
  have hP : va_P (dC, dI) vwCl [(aM, .inr (9, [.int mth, .int msz, .ref aMt, .int mwi, .int mle, .int mgr, .int mpr, .int mhp, .int mtk, .ref aMk, .ref aMl, .ref aMd, .ref aMs, .int mbn, .ref aMb, .int mmd, .ref aMo, .int mep, .ref aMc, .ref aMn, .ref aMfk, .ref aMfl, .ref aMfd, .ref aMg, .ref aMm, .int mat, .int mer])), (aMk, .inl (cyI, 64, .inl (upd mki mtk.toNatClampNeg v1))), (aMl, .inl (cyI, 64, .inl (upd mln mtk.toNatClampNeg v3))), (aMd, .inl (cyI, 64, .inl (upd mdi mtk.toNatClampNeg v4))), (aMs, .inl (cyI, 64, .inl (upd mst mtk.toNatClampNeg v2)))] H := hP
  have hD : va_D A [(aM, .inr (9, [.int mth, .int msz, .ref aMt, .int mwi, .int mle, .int mgr, .int mpr, .int mhp, .int mtk, .ref aMk, .ref aMl, .ref aMd, .ref aMs, .int mbn, .ref aMb, .int mmd, .ref aMo, .int mep, .ref aMc, .ref aMn, .ref aMfk, .ref aMfl, .ref aMfd, .ref aMg, .ref aMm, .int mat, .int mer])), (aMk, .inl (cyI, 64, .inl (upd mki mtk.toNatClampNeg v1))), (aMl, .inl (cyI, 64, .inl (upd mln mtk.toNatClampNeg v3))), (aMd, .inl (cyI, 64, .inl (upd mdi mtk.toNatClampNeg v4))), (aMs, .inl (cyI, 64, .inl (upd mst mtk.toNatClampNeg v2)))] := hD
  refine lv_aload_n hx hb dX10_put_41 rfl (lv_at hl 0 rfl) ?_
  refine lv_dup hx hb dX10_put_42 rfl ?_
  refine va_get (D := (dC, dI)) (ci := 9) (v := .int mtk) (C := RX10) (T := TX10) (N := 27) hx hb hts inX10_put_wsX100 hown hK hP 0 rfl rfl 8 (by decide) (hts _ qX10_put_1) (fun _ h9 => h9) rfl dX10_put_43 ?_
  refine lv_iconst (v := 1) hx hb dX10_put_46 (by decide) ?_
  refine lv_iadd hx hb dX10_put_47 ?_
  refine va_put (D := (dC, dI)) (ci := 9) (v := .int (mtk + 1)) (ty := .int) (C := RX10) (T := TX10) (N := 27) hx hb hts inX10_put_wsX100 tyX10 tyX10_ok nmX10 hown hK hP hD hS 0 rfl rfl 8 (by decide) (hts _ qX10_put_1) (fun _ h9 => h9) rfl (by decide +kernel) rfl rfl (Nat.le_of_ble_eq_true rfl) dX10_put_48 (fun H locs hP hD hS => ?_)
  have hP : va_P (dC, dI) vwCl [(aM, .inr (9, [.int mth, .int msz, .ref aMt, .int mwi, .int mle, .int mgr, .int mpr, .int mhp, .int (mtk + 1), .ref aMk, .ref aMl, .ref aMd, .ref aMs, .int mbn, .ref aMb, .int mmd, .ref aMo, .int mep, .ref aMc, .ref aMn, .ref aMfk, .ref aMfl, .ref aMfd, .ref aMg, .ref aMm, .int mat, .int mer])), (aMk, .inl (cyI, 64, .inl (upd mki mtk.toNatClampNeg v1))), (aMl, .inl (cyI, 64, .inl (upd mln mtk.toNatClampNeg v3))), (aMd, .inl (cyI, 64, .inl (upd mdi mtk.toNatClampNeg v4))), (aMs, .inl (cyI, 64, .inl (upd mst mtk.toNatClampNeg v2)))] H := hP
  have hD : va_D A [(aM, .inr (9, [.int mth, .int msz, .ref aMt, .int mwi, .int mle, .int mgr, .int mpr, .int mhp, .int (mtk + 1), .ref aMk, .ref aMl, .ref aMd, .ref aMs, .int mbn, .ref aMb, .int mmd, .ref aMo, .int mep, .ref aMc, .ref aMn, .ref aMfk, .ref aMfl, .ref aMfd, .ref aMg, .ref aMm, .int mat, .int mer])), (aMk, .inl (cyI, 64, .inl (upd mki mtk.toNatClampNeg v1))), (aMl, .inl (cyI, 64, .inl (upd mln mtk.toNatClampNeg v3))), (aMd, .inl (cyI, 64, .inl (upd mdi mtk.toNatClampNeg v4))), (aMs, .inl (cyI, 64, .inl (upd mst mtk.toNatClampNeg v2)))] := hD
  have hP9 : va_P (dC, dI) vwCl [(aM, .inr (9, [.int mth, .int msz, .ref aMt, .int mwi, .int mle, .int mgr, .int mpr, .int mhp, .int (mtk + 1), .ref aMk, .ref aMl, .ref aMd, .ref aMs, .int mbn, .ref aMb, .int mmd, .ref aMo, .int mep, .ref aMc, .ref aMn, .ref aMfk, .ref aMfl, .ref aMfd, .ref aMg, .ref aMm, .int mat, .int mer])), (aMk, .inl (cyI, 64, .inl (upd mki mtk.toNatClampNeg v1))), (aMl, .inl (cyI, 64, .inl (upd mln mtk.toNatClampNeg v3))), (aMd, .inl (cyI, 64, .inl (upd mdi mtk.toNatClampNeg v4))), (aMs, .inl (cyI, 64, .inl (upd mst mtk.toNatClampNeg v2)))] _ := hP
  have hD9 : va_D A [(aM, .inr (9, [.int mth, .int msz, .ref aMt, .int mwi, .int mle, .int mgr, .int mpr, .int mhp, .int (mtk + 1), .ref aMk, .ref aMl, .ref aMd, .ref aMs, .int mbn, .ref aMb, .int mmd, .ref aMo, .int mep, .ref aMc, .ref aMn, .ref aMfk, .ref aMfl, .ref aMfd, .ref aMg, .ref aMm, .int mat, .int mer])), (aMk, .inl (cyI, 64, .inl (upd mki mtk.toNatClampNeg v1))), (aMl, .inl (cyI, 64, .inl (upd mln mtk.toNatClampNeg v3))), (aMd, .inl (cyI, 64, .inl (upd mdi mtk.toNatClampNeg v4))), (aMs, .inl (cyI, 64, .inl (upd mst mtk.toNatClampNeg v2)))] := hD
  exact W.vret hx hb hr (fun t ht hW => ⟨⟨(mtk + 1, upd mki mtk.toNatClampNeg v1, upd mln mtk.toNatClampNeg v3, upd mdi mtk.toNatClampNeg v4, upd mst mtk.toNatClampNeg v2), rfl, h, by rw [ht]; exact hP9, va_K.moved hW.alike hK, hD9⟩, hS.F ht⟩) hS.2.2 dX10_put_51
-- X10_sum
theorem qX10_sum_0 : Cond.fieldLink RX10 119 "MatchCoderModel" "tokens" "I" ∈ wsX10_sum := (List.mem_cons_of_mem _ (List.mem_append_left _ (List.mem_of_getElem? (i := 0) rfl)))
theorem qX10_sum_1 : Cond.fieldLink RX10 23 "MatchCoderModel" "kinds" "[I" ∈ wsX10_sum := (List.mem_cons_of_mem _ (List.mem_append_left _ (List.mem_of_getElem? (i := 1) rfl)))
theorem qX10_sum_2 : Cond.fieldLink RX10 26 "MatchCoderModel" "lengths" "[I" ∈ wsX10_sum := (List.mem_cons_of_mem _ (List.mem_append_left _ (List.mem_of_getElem? (i := 2) rfl)))
theorem qX10_sum_3 : Cond.fieldLink RX10 29 "MatchCoderModel" "distances" "[I" ∈ wsX10_sum := (List.mem_cons_of_mem _ (List.mem_append_left _ (List.mem_of_getElem? (i := 3) rfl)))
theorem qX10_sum_4 : Cond.fieldLink RX10 89 "MatchCoderModel" "price" "I" ∈ wsX10_sum := (List.mem_cons_of_mem _ (List.mem_append_left _ (List.mem_of_getElem? (i := 4) rfl)))
theorem inX10_sum_wsX100 : ∀ w ∈ wsX100, w ∈ wsX10_sum := fun _ h => List.mem_cons_of_mem _ (List.mem_append_right _ h)
def wpX10_sum_4 (mpr : Int32) (mtk : Int32) (mki : Nat → Int32) (mln : Nat → Int32) (mdi : Nat → Int32) (K47 : Int32 → Prop) : Nat → Int32 → Int32 → Prop
  | 0, _, _ => False
  | n4 + 1, v1, v2 => (mtk ≤ v2 → (K47 v1)) ∧ (¬ mtk ≤ v2 → (vp_in v2 64 ∧ (wpX10_bitsOf (mki v2.toNatClampNeg) (mln v2.toNatClampNeg) (mdi v2.toNatClampNeg) (fun (r_3 : Int32) => wpX10_sum_4 mpr mtk mki mln mdi K47 n4 (v1 + (r_3 + mpr)) (v2 + 1)))))
set_option maxHeartbeats 4000000 in
set_option maxRecDepth 100000 in
theorem wlX10_sum_4 {p : Program} {l : Launch} {e : Env} {s : State} {m : MethodId} {args : Array Value} {below : List Frame} {meth : Method} {c : Code} {A : Nat → Prop} {Q : State → Prop} {dC : Nat → ClassId} {dI : Nat → Nat → Nat} {cyI : ClassId} {aM aMt aMk aMl aMd aMs aMb aMo aMc aMn aMfk aMfl aMfd aMg aMm : Nat} {mth : Int32} {msz : Int32} {mwi : Int32} {mle : Int32} {mgr : Int32} {mpr : Int32} {mhp : Int32} {mtk : Int32} {mbn : Int32} {mmd : Int32} {mep : Int32} {mat : Int32} {mer : Int32} {mki : Nat → Int32} {mln : Nat → Int32} {mdi : Nat → Int32} {K47 : Int32 → Prop} (C0 : CallFix p m c cX10_sum 3 s args wsX10_sum RX10) (hA : ∀ q : Nat, s.heap.size ≤ q → A q) (hK : va_K (dC, dI) vwCl [(cyI, .int)] s) (hK47 : ∀ (v1 : Int32), K47 v1 → ∀ (H : Heap) (locs : List Loc) (ls : Array Slot), va_P (dC, dI) vwCl [(aM, .inr (9, [.int mth, .int msz, .ref aMt, .int mwi, .int mle, .int mgr, .int mpr, .int mhp, .int mtk, .ref aMk, .ref aMl, .ref aMd, .ref aMs, .int mbn, .ref aMb, .int mmd, .ref aMo, .int mep, .ref aMc, .ref aMn, .ref aMfk, .ref aMfl, .ref aMfd, .ref aMg, .ref aMm, .int mat, .int mer])), (aMk, .inl (cyI, 64, .inl mki)), (aMl, .inl (cyI, 64, .inl mln)), (aMd, .inl (cyI, 64, .inl mdi))] H → va_D A [(aM, .inr (9, [.int mth, .int msz, .ref aMt, .int mwi, .int mle, .int mgr, .int mpr, .int mhp, .int mtk, .ref aMk, .ref aMl, .ref aMd, .ref aMs, .int mbn, .ref aMb, .int mmd, .ref aMo, .int mep, .ref aMc, .ref aMn, .ref aMfk, .ref aMfl, .ref aMfd, .ref aMg, .ref aMm, .int mat, .int mer])), (aMk, .inl (cyI, 64, .inl mki)), (aMl, .inl (cyI, 64, .inl mln)), (aMd, .inl (cyI, 64, .inl mdi))] → va_S A s.heap H locs → lv_has ls 3 [(1, .int v1)] → W p l e ({ frames := 2, cells := 0, slots := 0, locals := 43 } : Room) s m args below meth c H locs 0 0 Q (F0 m 47 ls [])) :
    ∀ (n4 : Nat) (v1 : Int32) (v2 : Int32), wpX10_sum_4 mpr mtk mki mln mdi K47 n4 v1 v2 → ∀ (H : Heap) (locs : List Loc) (ls : Array Slot), va_P (dC, dI) vwCl [(aM, .inr (9, [.int mth, .int msz, .ref aMt, .int mwi, .int mle, .int mgr, .int mpr, .int mhp, .int mtk, .ref aMk, .ref aMl, .ref aMd, .ref aMs, .int mbn, .ref aMb, .int mmd, .ref aMo, .int mep, .ref aMc, .ref aMn, .ref aMfk, .ref aMfl, .ref aMfd, .ref aMg, .ref aMm, .int mat, .int mer])), (aMk, .inl (cyI, 64, .inl mki)), (aMl, .inl (cyI, 64, .inl mln)), (aMd, .inl (cyI, 64, .inl mdi))] H → va_D A [(aM, .inr (9, [.int mth, .int msz, .ref aMt, .int mwi, .int mle, .int mgr, .int mpr, .int mhp, .int mtk, .ref aMk, .ref aMl, .ref aMd, .ref aMs, .int mbn, .ref aMb, .int mmd, .ref aMo, .int mep, .ref aMc, .ref aMn, .ref aMfk, .ref aMfl, .ref aMfd, .ref aMg, .ref aMm, .int mat, .int mer])), (aMk, .inl (cyI, 64, .inl mki)), (aMl, .inl (cyI, 64, .inl mln)), (aMd, .inl (cyI, 64, .inl mdi))] → va_S A s.heap H locs → lv_has ls 3 [(0, .ref aM), (1, .int v1), (2, .int v2)] → W p l e ({ frames := 2, cells := 0, slots := 0, locals := 43 } : Room) s m args below meth c H locs 0 0 Q (F0 m 4 ls []) := by
  obtain ⟨hx, hb, hml, hown, hts⟩ := id C0
  intro n4
  induction n4 with
  | zero => intro _ _ h; exact h.elim
  | succ n4 ih4 =>
    intro v1 v2 h H locs ls hP hD hS hl
    rw [wpX10_sum_4] at h
    refine lv_iload_n hx hb dX10_sum_4 rfl (lv_at hl 2 rfl) ?_
    refine lv_aload_n hx hb dX10_sum_5 rfl (lv_at hl 0 rfl) ?_
    refine va_get (D := (dC, dI)) (ci := 9) (v := .int mtk) (C := RX10) (T := TX10) (N := 27) hx hb hts inX10_sum_wsX100 hown hK hP 0 rfl rfl 8 (by decide) (hts _ qX10_sum_0) (fun _ h9 => h9) rfl dX10_sum_6 ?_
    refine lv_icmp_ge (tgt := 47) hx hb dX10_sum_9 (by decide) (fun c_1 => ?_) (fun c_1 => ?_)
    · replace h := h.1 c_1
      exact hK47 _ h _ _ _ hP hD hS (lv_sub hl [1] rfl)
    · replace h := h.2 c_1
      refine lv_iload_n hx hb dX10_sum_12 rfl (lv_at hl 1 rfl) ?_
      refine lv_aload_n hx hb dX10_sum_13 rfl (lv_at hl 0 rfl) ?_
      refine va_get (D := (dC, dI)) (ci := 9) (v := .ref aMk) (C := RX10) (T := TX10) (N := 27) hx hb hts inX10_sum_wsX100 hown hK hP 0 rfl rfl 9 (by decide) (hts _ qX10_sum_1) (fun _ h9 => h9) rfl dX10_sum_14 ?_
      refine lv_iload_n hx hb dX10_sum_17 rfl (lv_at hl 2 rfl) ?_
      obtain ⟨hi_2, h⟩ := h
      refine va_iald hx hb hK hP 1 0 rfl rfl hi_2 dX10_sum_18 ?_
      refine lv_aload_n hx hb dX10_sum_19 rfl (lv_at hl 0 rfl) ?_
      refine va_get (D := (dC, dI)) (ci := 9) (v := .ref aMl) (C := RX10) (T := TX10) (N := 27) hx hb hts inX10_sum_wsX100 hown hK hP 0 rfl rfl 10 (by decide) (hts _ qX10_sum_2) (fun _ h9 => h9) rfl dX10_sum_20 ?_
      refine lv_iload_n hx hb dX10_sum_23 rfl (lv_at hl 2 rfl) ?_
      refine va_iald hx hb hK hP 2 0 rfl rfl hi_2 dX10_sum_24 ?_
      refine lv_aload_n hx hb dX10_sum_25 rfl (lv_at hl 0 rfl) ?_
      refine va_get (D := (dC, dI)) (ci := 9) (v := .ref aMd) (C := RX10) (T := TX10) (N := 27) hx hb hts inX10_sum_wsX100 hown hK hP 0 rfl rfl 11 (by decide) (hts _ qX10_sum_3) (fun _ h9 => h9) rfl dX10_sum_26 ?_
      refine lv_iload_n hx hb dX10_sum_29 rfl (lv_at hl 2 rfl) ?_
      refine va_iald hx hb hK hP 3 0 rfl rfl hi_2 dX10_sum_30 ?_
      refine wk_calli (wc := []) (wr := [(aM, .inr (9, [.int mth, .int msz, .ref aMt, .int mwi, .int mle, .int mgr, .int mpr, .int mhp, .int mtk, .ref aMk, .ref aMl, .ref aMd, .ref aMs, .int mbn, .ref aMb, .int mmd, .ref aMo, .int mep, .ref aMc, .ref aMn, .ref aMfk, .ref aMfl, .ref aMfd, .ref aMg, .ref aMm, .int mat, .int mer])), (aMk, .inl (cyI, 64, .inl mki)), (aMl, .inl (cyI, 64, .inl mln)), (aMd, .inl (cyI, 64, .inl mdi))]) (va_runS (As := [.int (mki v2.toNatClampNeg), .int (mln v2.toNatClampNeg), .int (mdi v2.toNatClampNeg)]) (rest := [.int v1]) C0 (mtX10_bitsOf l dC dI cyI (sz := _) (v0 := mki v2.toNatClampNeg) (v1 := mln v2.toNatClampNeg) (v2 := mdi v2.toNatClampNeg) h) (va_cwS 3 hts gX10_sum_X10_bitsOf rfl rfl rfl (by decide +kernel) ⟨(Nat.le_of_ble_eq_true rfl), (Nat.le_of_ble_eq_true rfl)⟩) (wk_preS (wc := []) hK hP hD [] rfl (by decide)) rfl rfl hl.1 rfl (lv_room (Nat.le_of_ble_eq_true rfl)) dX10_sum_31 ⟨(Nat.le_of_ble_eq_true rfl), (Nat.le_of_ble_eq_true rfl)⟩) hP hD hS hA [] [0, 1, 2, 3] rfl rfl (by decide) (by decide) (fun r_3 u9 H locs h hP hD hS => ?_)
      have hP : va_P (dC, dI) vwCl [(aM, .inr (9, [.int mth, .int msz, .ref aMt, .int mwi, .int mle, .int mgr, .int mpr, .int mhp, .int mtk, .ref aMk, .ref aMl, .ref aMd, .ref aMs, .int mbn, .ref aMb, .int mmd, .ref aMo, .int mep, .ref aMc, .ref aMn, .ref aMfk, .ref aMfl, .ref aMfd, .ref aMg, .ref aMm, .int mat, .int mer])), (aMk, .inl (cyI, 64, .inl mki)), (aMl, .inl (cyI, 64, .inl mln)), (aMd, .inl (cyI, 64, .inl mdi))] H := hP
      have hD : va_D A [(aM, .inr (9, [.int mth, .int msz, .ref aMt, .int mwi, .int mle, .int mgr, .int mpr, .int mhp, .int mtk, .ref aMk, .ref aMl, .ref aMd, .ref aMs, .int mbn, .ref aMb, .int mmd, .ref aMo, .int mep, .ref aMc, .ref aMn, .ref aMfk, .ref aMfl, .ref aMfd, .ref aMg, .ref aMm, .int mat, .int mer])), (aMk, .inl (cyI, 64, .inl mki)), (aMl, .inl (cyI, 64, .inl mln)), (aMd, .inl (cyI, 64, .inl mdi))] := hD
      refine lv_aload_n hx hb dX10_sum_34 rfl (lv_at hl 0 rfl) ?_
      refine va_get (D := (dC, dI)) (ci := 9) (v := .int mpr) (C := RX10) (T := TX10) (N := 27) hx hb hts inX10_sum_wsX100 hown hK hP 0 rfl rfl 6 (by decide) (hts _ qX10_sum_4) (fun _ h9 => h9) rfl dX10_sum_35 ?_
      refine lv_iadd hx hb dX10_sum_38 ?_
      refine lv_iadd hx hb dX10_sum_39 ?_
      refine lv_istore_n (lv' := [(1, .int (v1 + (r_3 + mpr))), (0, .ref aM), (2, .int v2)]) hx hb dX10_sum_40 rfl hl (by decide) rfl (fun ls hl => ?_)
      refine lv_iinc (v := v2 + 1) (lv' := [(2, .int (v2 + 1)), (1, .int (v1 + (r_3 + mpr))), (0, .ref aM)]) hx hb dX10_sum_41 hl (k := 2) rfl rfl (by decide) rfl (fun ls hl => ?_)
      refine lv_goto (tgt := 4) hx hb dX10_sum_44 (by decide) ?_
      exact ih4 _ _ h _ _ _ hP hD hS (lv_sub hl [2, 1, 0] rfl)
def wpX10_sum (mpr : Int32) (mtk : Int32) (mki : Nat → Int32) (mln : Nat → Int32) (mdi : Nat → Int32) (post : Int32 → Prop) : Prop := ∃ n4 : Nat, wpX10_sum_4 mpr mtk mki mln mdi (fun (v1_4 : Int32) => post v1_4) n4 0 0
set_option maxHeartbeats 4000000 in
set_option maxRecDepth 100000 in
theorem mtX10_sum (l : Launch) (dC : Nat → ClassId) (dI : Nat → Nat → Nat) (cyI : ClassId) {aM aMt aMk aMl aMd aMs aMb aMo aMc aMn aMfk aMfl aMfd aMg aMm : Nat} {sz : Nat} {mth : Int32} {msz : Int32} {mwi : Int32} {mle : Int32} {mgr : Int32} {mpr : Int32} {mhp : Int32} {mtk : Int32} {mbn : Int32} {mmd : Int32} {mep : Int32} {mat : Int32} {mer : Int32} {mki : Nat → Int32} {mln : Nat → Int32} {mdi : Nat → Int32} {post : Int32 → Prop} (h : wpX10_sum mpr mtk mki mln mdi post) : Met l yX10_sum wsX10_sum ({ frames := 2, cells := 0, slots := 0, locals := 43 }) (va_Pc [.ref aM] (wk_B (dC, dI) [(cyI, .int)] [(aM, .inr (9, [.int mth, .int msz, .ref aMt, .int mwi, .int mle, .int mgr, .int mpr, .int mhp, .int mtk, .ref aMk, .ref aMl, .ref aMd, .ref aMs, .int mbn, .ref aMb, .int mmd, .ref aMo, .int mep, .ref aMc, .ref aMn, .ref aMfk, .ref aMfl, .ref aMfd, .ref aMg, .ref aMm, .int mat, .int mer])), (aMk, .inl (cyI, 64, .inl mki)), (aMl, .inl (cyI, 64, .inl mln)), (aMd, .inl (cyI, 64, .inl mdi))] sz)) (va_Qi (fun (r : Int32) (u : Unit) => post r ) (wk_C (dC, dI) [(cyI, .int)] (va_A [(aM, .inr (9, [.int mth, .int msz, .ref aMt, .int mwi, .int mle, .int mgr, .int mpr, .int mhp, .int mtk, .ref aMk, .ref aMl, .ref aMd, .ref aMs, .int mbn, .ref aMb, .int mmd, .ref aMo, .int mep, .ref aMc, .ref aMn, .ref aMfk, .ref aMfl, .ref aMfd, .ref aMg, .ref aMm, .int mat, .int mer])), (aMk, .inl (cyI, 64, .inl mki)), (aMl, .inl (cyI, 64, .inl mln)), (aMd, .inl (cyI, 64, .inl mdi))] sz) (fun (u : Unit) => [(aM, .inr (9, [.int mth, .int msz, .ref aMt, .int mwi, .int mle, .int mgr, .int mpr, .int mhp, .int mtk, .ref aMk, .ref aMl, .ref aMd, .ref aMs, .int mbn, .ref aMb, .int mmd, .ref aMo, .int mep, .ref aMc, .ref aMn, .ref aMfk, .ref aMfl, .ref aMfd, .ref aMg, .ref aMm, .int mat, .int mer])), (aMk, .inl (cyI, 64, .inl mki)), (aMl, .inl (cyI, 64, .inl mln)), (aMd, .inl (cyI, 64, .inl mdi))])) (va_A [(aM, .inr (9, [.int mth, .int msz, .ref aMt, .int mwi, .int mle, .int mgr, .int mpr, .int mhp, .int mtk, .ref aMk, .ref aMl, .ref aMd, .ref aMs, .int mbn, .ref aMb, .int mmd, .ref aMo, .int mep, .ref aMc, .ref aMn, .ref aMfk, .ref aMfl, .ref aMfd, .ref aMg, .ref aMm, .int mat, .int mer])), (aMk, .inl (cyI, 64, .inl mki)), (aMl, .inl (cyI, 64, .inl mln)), (aMd, .inl (cyI, 64, .inl mdi))] sz)) 0 0 (va_A [(aM, .inr (9, [.int mth, .int msz, .ref aMt, .int mwi, .int mle, .int mgr, .int mpr, .int mhp, .int mtk, .ref aMk, .ref aMl, .ref aMd, .ref aMs, .int mbn, .ref aMb, .int mmd, .ref aMo, .int mep, .ref aMc, .ref aMn, .ref aMfk, .ref aMfl, .ref aMfd, .ref aMg, .ref aMm, .int mat, .int mer])), (aMk, .inl (cyI, 64, .inl mki)), (aMl, .inl (cyI, 64, .inl mln)), (aMd, .inl (cyI, 64, .inl mdi))] sz) := by
  refine Met.ofW (cc := cX10_sum) (maxL := 3) (ret := (some .int)) (by decide) rfl ?_
  intro p e s m args below meth c s₁ B hml hv
  obtain ⟨rfl, hsz, hP, hK, hD0⟩ := hv
  have hx := B.exec
  have hb := B.bytes
  have hr := B.returns
  have hts := atoms_spec (ws := wsX10_sum) B.pre
  have hown : s.vm.findClass RX10 = some m.cls := findClass_of_methodNamed B.named
  have hlocks := B.notSynchronized
  subst hsz
  have hD := hD0.self (sz := s.heap.size)
  generalize hAe : va_A [(aM, .inr (9, [.int mth, .int msz, .ref aMt, .int mwi, .int mle, .int mgr, .int mpr, .int mhp, .int mtk, .ref aMk, .ref aMl, .ref aMd, .ref aMs, .int mbn, .ref aMb, .int mmd, .ref aMo, .int mep, .ref aMc, .ref aMn, .ref aMfk, .ref aMfl, .ref aMfd, .ref aMg, .ref aMm, .int mat, .int mer])), (aMk, .inl (cyI, 64, .inl mki)), (aMl, .inl (cyI, 64, .inl mln)), (aMd, .inl (cyI, 64, .inl mdi))] s.heap.size = A at hD ⊢
  have hA : ∀ q : Nat, s.heap.size ≤ q → A q := fun q h => by rw [← hAe]; exact Or.inr h
  have hS : va_S A s.heap s.heap [] := va_S.rf
  have hP : va_P (dC, dI) vwCl [(aM, .inr (9, [.int mth, .int msz, .ref aMt, .int mwi, .int mle, .int mgr, .int mpr, .int mhp, .int mtk, .ref aMk, .ref aMl, .ref aMd, .ref aMs, .int mbn, .ref aMb, .int mmd, .ref aMo, .int mep, .ref aMc, .ref aMn, .ref aMfk, .ref aMfl, .ref aMfd, .ref aMg, .ref aMm, .int mat, .int mer])), (aMk, .inl (cyI, 64, .inl mki)), (aMl, .inl (cyI, 64, .inl mln)), (aMd, .inl (cyI, 64, .inl mdi))] s.heap := hP
  have hl := lv_entry ([.ref aM]) (n := 3) (Nat.le_of_ble_eq_true rfl)
  rw [lg_entry_eq]
  generalize (lg_sl ([.ref aM]) ++ List.replicate (3 - (lg_sl ([.ref aM])).length) Slot.unset).toArray = ls at hl ⊢
  have hl : lv_has ls 3 [(0, .ref aM)] := hl
  have C0 : CallFix p m c cX10_sum 3 s ([.ref aM] : List Value).toArray wsX10_sum RX10 := ⟨hx, hb, hml, hown, hts⟩
  unfold wpX10_sum at h
  refine lv_iconst (v := 0) hx hb dX10_sum_0 (by decide) ?_
  refine lv_istore_n (lv' := [(1, .int 0), (0, .ref aM)]) hx hb dX10_sum_1 rfl hl (by decide) rfl (fun ls hl => ?_)
  refine lv_iconst (v := 0) hx hb dX10_sum_2 (by decide) ?_
  refine lv_istore_n (lv' := [(2, .int 0), (1, .int 0), (0, .ref aM)]) hx hb dX10_sum_3 rfl hl (by decide) rfl (fun ls hl => ?_)
  obtain ⟨n4, h⟩ := h
  refine wlX10_sum_4 C0 hA hK ?_ n4 _ _ h _ _ _ hP hD hS (lv_sub hl [2, 1, 0] rfl)
  · intro v1_4 h H locs ls hP hD hS hl
    refine lv_iload_n hx hb dX10_sum_47 rfl (lv_at hl 0 rfl) ?_
    have hP9 : va_P (dC, dI) vwCl [(aM, .inr (9, [.int mth, .int msz, .ref aMt, .int mwi, .int mle, .int mgr, .int mpr, .int mhp, .int mtk, .ref aMk, .ref aMl, .ref aMd, .ref aMs, .int mbn, .ref aMb, .int mmd, .ref aMo, .int mep, .ref aMc, .ref aMn, .ref aMfk, .ref aMfl, .ref aMfd, .ref aMg, .ref aMm, .int mat, .int mer])), (aMk, .inl (cyI, 64, .inl mki)), (aMl, .inl (cyI, 64, .inl mln)), (aMd, .inl (cyI, 64, .inl mdi))] _ := hP
    have hD9 : va_D A [(aM, .inr (9, [.int mth, .int msz, .ref aMt, .int mwi, .int mle, .int mgr, .int mpr, .int mhp, .int mtk, .ref aMk, .ref aMl, .ref aMd, .ref aMs, .int mbn, .ref aMb, .int mmd, .ref aMo, .int mep, .ref aMc, .ref aMn, .ref aMfk, .ref aMfl, .ref aMfd, .ref aMg, .ref aMm, .int mat, .int mer])), (aMk, .inl (cyI, 64, .inl mki)), (aMl, .inl (cyI, 64, .inl mln)), (aMd, .inl (cyI, 64, .inl mdi))] := hD
    exact W.iret (v := v1_4) hx hb hr (fun t ht hW => ⟨⟨v1_4, (), rfl, h, by rw [ht]; exact hP9, va_K.moved hW.alike hK, hD9⟩, hS.F ht⟩) hS.2.2 dX10_sum_48
