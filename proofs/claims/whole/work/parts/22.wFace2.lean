-- X9_feed
theorem qX9_feed_0 : Cond.classLink RX9 69 "java/lang/IllegalArgumentException" ∈ wsX9_feed := (List.mem_cons_of_mem _ (List.mem_append_left _ (List.mem_append_left _ (List.mem_append_left _ (List.mem_append_left _ (List.mem_append_left _ (List.mem_of_getElem? (i := 0) rfl)))))))
theorem qX9_feed_1 : Cond.initialized "java/lang/IllegalArgumentException" ∈ wsX9_feed := (List.mem_cons_of_mem _ (List.mem_append_left _ (List.mem_append_left _ (List.mem_append_left _ (List.mem_append_left _ (List.mem_append_left _ (List.mem_of_getElem? (i := 1) rfl)))))))
theorem qX9_feed_2 : Cond.fieldLink RX9 10 "MatchCoder" "text" "LMatchCoder$Text;" ∈ wsX9_feed := (List.mem_cons_of_mem _ (List.mem_append_left _ (List.mem_append_left _ (List.mem_append_left _ (List.mem_append_left _ (List.mem_append_left _ (List.mem_of_getElem? (i := 4) rfl)))))))
theorem qX9_feed_3 : Cond.fieldLink RX9 76 "MatchCoder$Text" "count" "I" ∈ wsX9_feed := (List.mem_cons_of_mem _ (List.mem_append_left _ (List.mem_append_left _ (List.mem_append_left _ (List.mem_append_left _ (List.mem_append_left _ (List.mem_of_getElem? (i := 5) rfl)))))))
theorem qX9_feed_4 : Cond.constantLong RX9 85 (255) ∈ wsX9_feed := (List.mem_cons_of_mem _ (List.mem_append_left _ (List.mem_append_left _ (List.mem_append_left _ (List.mem_append_left _ (List.mem_append_left _ (List.mem_of_getElem? (i := 6) rfl)))))))
theorem qX9_feed_5 : Cond.fieldLink RX9 51 "MatchCoder" "plan" "LMatchCoder$Plan;" ∈ wsX9_feed := (List.mem_cons_of_mem _ (List.mem_append_left _ (List.mem_append_left _ (List.mem_append_left _ (List.mem_append_left _ (List.mem_append_left _ (List.mem_of_getElem? (i := 7) rfl)))))))
theorem qX9_feed_6 : Cond.classLink RX9 80 "java/lang/IllegalStateException" ∈ wsX9_feed := (List.mem_cons_of_mem _ (List.mem_append_left _ (List.mem_append_left _ (List.mem_append_left _ (List.mem_append_left _ (List.mem_append_left _ (List.mem_of_getElem? (i := 2) rfl)))))))
theorem qX9_feed_7 : Cond.initialized "java/lang/IllegalStateException" ∈ wsX9_feed := (List.mem_cons_of_mem _ (List.mem_append_left _ (List.mem_append_left _ (List.mem_append_left _ (List.mem_append_left _ (List.mem_append_left _ (List.mem_of_getElem? (i := 3) rfl)))))))
theorem inX9_feed_xA : ∀ w ∈ (vx_atS RX9 73 "java/lang/IllegalArgumentException" ["java/lang/RuntimeException", "java/lang/Exception"]).filter goodWord, w ∈ wsX9_feed := fun _ h => List.mem_cons_of_mem _ (List.mem_append_left _ (List.mem_append_right _ h))
theorem inX9_feed_xS : ∀ w ∈ (vx_atS RX9 84 "java/lang/IllegalStateException" ["java/lang/RuntimeException", "java/lang/Exception"]).filter goodWord, w ∈ wsX9_feed := fun _ h => List.mem_cons_of_mem _ (List.mem_append_right _ h)
theorem inX9_feed_wsX90 : ∀ w ∈ wsX90, w ∈ wsX9_feed := fun _ h => List.mem_cons_of_mem _ (List.mem_append_left _ (List.mem_append_left _ (List.mem_append_left _ (List.mem_append_left _ (List.mem_append_right _ h)))))
theorem inX9_feed_wsX80 : ∀ w ∈ wsX80, w ∈ wsX9_feed := fun _ h => List.mem_cons_of_mem _ (List.mem_append_left _ (List.mem_append_left _ (List.mem_append_left _ (List.mem_append_right _ h))))
def wpX9_feed_50 (v1 : Int64) (K80 : Int32 → (Nat → Int32) → Prop) : Nat → Int32 → Int32 → (Nat → Int32) → Prop
  | 0, _, _, _ => False
  | n50 + 1, v4, tn, tb => (v4 < 0 → (K80 tn tb)) ∧ (¬ v4 < 0 → (wpX8_push tn tb (((v1 >>> ((8 * v4).toInt64 &&& 63)) &&& 255).toInt32) (fun (tn_5 : Int32) (tb_6 : Nat → Int32) => wpX9_feed_50 v1 K80 n50 (v4 + (-1)) tn_5 tb_6)))
set_option maxHeartbeats 4000000 in
set_option maxRecDepth 100000 in
theorem wlX9_feed_50 {p : Program} {l : Launch} {e : Env} {s : State} {m : MethodId} {args : Array Value} {below : List Frame} {meth : Method} {c : Code} {A : Nat → Prop} {Q : State → Prop} {dC : Nat → ClassId} {dI : Nat → Nat → Nat} {cyI : ClassId} {aX aT aTb aS aF aQ aW aP aPk aPl aPd aPs aB aR : Nat} {v1 : Int64} {pn : Int32} {pch : Int32} {K80 : Int32 → (Nat → Int32) → Prop} (C0 : CallFix p m c cX9_feed 5 s args wsX9_feed RX9) (hA : ∀ q : Nat, s.heap.size ≤ q → A q) (hK : va_K (dC, dI) vwCl [(cyI, .int)] s) (hK80 : ∀ (tn : Int32) (tb : Nat → Int32), K80 tn tb → ∀ (H : Heap) (locs : List Loc) (ls : Array Slot), va_P (dC, dI) vwCl [(aX, .inr (8, [.ref aT, .ref aS, .ref aF, .ref aQ, .ref aW, .ref aP, .ref aB, .ref aR])), (aT, .inr (7, [.ref aTb, .int tn])), (aTb, .inl (cyI, 64, .inl tb)), (aP, .inr (3, [.ref aPk, .ref aPl, .ref aPd, .ref aPs, .int pn, .int pch]))] H → va_D A [(aX, .inr (8, [.ref aT, .ref aS, .ref aF, .ref aQ, .ref aW, .ref aP, .ref aB, .ref aR])), (aT, .inr (7, [.ref aTb, .int tn])), (aTb, .inl (cyI, 64, .inl tb)), (aP, .inr (3, [.ref aPk, .ref aPl, .ref aPd, .ref aPs, .int pn, .int pch]))] → va_S A s.heap H locs → lv_has ls 5 [(0, .ref aX)] → W p l e ({ frames := 6, cells := 1, slots := 6, locals := 82 } : Room) s m args below meth c H locs 0 0 Q (F0 m 80 ls [])) :
    ∀ (n50 : Nat) (v4 : Int32) (tn : Int32) (tb : Nat → Int32), wpX9_feed_50 v1 K80 n50 v4 tn tb → ∀ (H : Heap) (locs : List Loc) (ls : Array Slot), va_P (dC, dI) vwCl [(aX, .inr (8, [.ref aT, .ref aS, .ref aF, .ref aQ, .ref aW, .ref aP, .ref aB, .ref aR])), (aT, .inr (7, [.ref aTb, .int tn])), (aTb, .inl (cyI, 64, .inl tb)), (aP, .inr (3, [.ref aPk, .ref aPl, .ref aPd, .ref aPs, .int pn, .int pch]))] H → va_D A [(aX, .inr (8, [.ref aT, .ref aS, .ref aF, .ref aQ, .ref aW, .ref aP, .ref aB, .ref aR])), (aT, .inr (7, [.ref aTb, .int tn])), (aTb, .inl (cyI, 64, .inl tb)), (aP, .inr (3, [.ref aPk, .ref aPl, .ref aPd, .ref aPs, .int pn, .int pch]))] → va_S A s.heap H locs → lv_has ls 5 [(0, .ref aX), (1, .long v1), (4, .int v4)] → W p l e ({ frames := 6, cells := 1, slots := 6, locals := 82 } : Room) s m args below meth c H locs 0 0 Q (F0 m 50 ls []) := by
  obtain ⟨hx, hb, hml, hown, hts⟩ := id C0
  intro n50
  induction n50 with
  | zero => intro _ _ _ h; exact h.elim
  | succ n50 ih50 =>
    intro v4 tn tb h H locs ls hP hD hS hl
    rw [wpX9_feed_50] at h
    refine lv_iload hx hb dX9_feed_50 (lv_at hl 2 rfl) ?_
    refine lv_if_lt (tgt := 80) hx hb dX9_feed_52 (by decide) (fun c_4 => ?_) (fun c_4 => ?_)
    · replace h := h.1 c_4
      exact hK80 _ _ h _ _ _ hP hD hS (lv_sub hl [0] rfl)
    · replace h := h.2 c_4
      refine lv_aload_n hx hb dX9_feed_55 rfl (lv_at hl 0 rfl) ?_
      refine va_get (D := (dC, dI)) (ci := 8) (v := .ref aT) (C := RX9) (T := TX9) (N := 8) hx hb hts inX9_feed_wsX90 hown hK hP 0 rfl rfl 0 (by decide) (hts _ qX9_feed_2) (fun _ h9 => h9) rfl dX9_feed_56 ?_
      refine lv_lload_n hx hb dX9_feed_59 rfl (lv_at hl 1 rfl) ?_
      refine lv_bipush (v := 8) hx hb dX9_feed_60 (by decide) ?_
      refine lv_iload hx hb dX9_feed_62 (lv_at hl 2 rfl) ?_
      refine lv_imul hx hb dX9_feed_64 ?_
      refine lv_lshr hx hb dX9_feed_65 rfl ?_
      refine lv_ldc2 hx hb hown (hts _ qX9_feed_4) dX9_feed_66 ?_
      refine lv_land hx hb dX9_feed_69 ?_
      refine lv_l2i hx hb dX9_feed_70 rfl ?_
      refine wk_callv (wc := [(aT, .inr (7, [.ref aTb, .int tn])), (aTb, .inl (cyI, 64, .inl tb))]) (wr := [(aX, .inr (8, [.ref aT, .ref aS, .ref aF, .ref aQ, .ref aW, .ref aP, .ref aB, .ref aR])), (aP, .inr (3, [.ref aPk, .ref aPl, .ref aPd, .ref aPs, .int pn, .int pch]))]) (va_runV (As := [.int (((v1 >>> ((8 * v4).toInt64 &&& 63)) &&& 255).toInt32)]) (rest := []) C0 (mtX8_push l dC dI cyI (aT := aT) (aTb := aTb) (sz := _) (tn := tn) (tb := tb) (v1 := ((v1 >>> ((8 * v4).toInt64 &&& 63)) &&& 255).toInt32) h) (cwV 1 hts gX9_feed_X8_push rfl rfl rfl (by decide +kernel) ⟨(Nat.le_of_ble_eq_true rfl), (Nat.le_of_ble_eq_true rfl)⟩) (wk_preV (wc := [(aT, .inr (7, [.ref aTb, .int tn])), (aTb, .inl (cyI, 64, .inl tb))]) hK hP hD [1, 2] rfl (by decide) (va_recv hK hP (ci := 7) (q0 := 1) rfl rfl)) rfl rfl hl.1 rfl (lv_room (Nat.le_of_ble_eq_true rfl)) dX9_feed_71 ⟨(Nat.le_of_ble_eq_true rfl), (Nat.le_of_ble_eq_true rfl)⟩) hP hD hS hA [1, 2] [0, 3] rfl rfl (by decide) (by decide) (fun u9 H locs h hP hD hS => ?_)
      obtain ⟨tn_5, tb_6⟩ := u9
      have hP : va_P (dC, dI) vwCl [(aX, .inr (8, [.ref aT, .ref aS, .ref aF, .ref aQ, .ref aW, .ref aP, .ref aB, .ref aR])), (aP, .inr (3, [.ref aPk, .ref aPl, .ref aPd, .ref aPs, .int pn, .int pch])), (aT, .inr (7, [.ref aTb, .int tn_5])), (aTb, .inl (cyI, 64, .inl tb_6))] H := hP
      have hD : va_D A [(aX, .inr (8, [.ref aT, .ref aS, .ref aF, .ref aQ, .ref aW, .ref aP, .ref aB, .ref aR])), (aP, .inr (3, [.ref aPk, .ref aPl, .ref aPd, .ref aPs, .int pn, .int pch])), (aT, .inr (7, [.ref aTb, .int tn_5])), (aTb, .inl (cyI, 64, .inl tb_6))] := hD
      dsimp only at h
      refine lv_iinc (v := v4 + (-1)) (lv' := [(4, .int (v4 + (-1))), (0, .ref aX), (1, .long v1)]) hx hb dX9_feed_74 hl (k := 2) rfl rfl (by decide) rfl (fun ls hl => ?_)
      refine lv_goto (tgt := 50) hx hb dX9_feed_77 (by decide) ?_
      exact ih50 _ _ _ h _ _ _ (hP.sub [0, 2, 3, 1] rfl) (hD.sub [0, 2, 3, 1] (by decide) rfl) hS (lv_sub hl [1, 2, 0] rfl)
def wpX9_feed (tn : Int32) (tb : Nat → Int32) (v1 : Int64) (v3 : Int32) (post : Int32 → Int32 → (Nat → Int32) → Int32 → Int32 → Prop) (px : String → Prop) : Prop := (v3 < 1 → (px xA)) ∧ (¬ v3 < 1 → ((v3 ≤ 8 → (((tn + v3) ≤ 64 → (∃ n50 : Nat, wpX9_feed_50 v1 (fun (tn_7 : Int32) (tb_8 : Nat → Int32) => wpX4_forget (fun (pn_9 : Int32) (pch_10 : Int32) => post tn_7 tn_7 tb_8 pn_9 pch_10)) n50 (v3 - 1) tn tb)) ∧ (¬ (tn + v3) ≤ 64 → (px xS)))) ∧ (¬ v3 ≤ 8 → (px xA))))
set_option maxHeartbeats 4000000 in
set_option maxRecDepth 100000 in
theorem mtX9_feed (l : Launch) (hlt : l.stackTraces = false) (dC : Nat → ClassId) (dI : Nat → Nat → Nat) (cyI : ClassId) {aX aT aTb aS aF aQ aW aP aPk aPl aPd aPs aB aR : Nat} {sz : Nat} {tn : Int32} {tb : Nat → Int32} {pn : Int32} {pch : Int32} {v1 : Int64} {v3 : Int32} {post : Int32 → Int32 → (Nat → Int32) → Int32 → Int32 → Prop} {px : String → Prop} (h : wpX9_feed tn tb v1 v3 post px) : vx_Met l yX9_feed wsX9_feed ({ frames := 6, cells := 1, slots := 6, locals := 82 }) (va_Pc [.ref aX, .long v1, .int v3] (wk_BX (dC, dI) [(cyI, .int)] [(aX, .inr (8, [.ref aT, .ref aS, .ref aF, .ref aQ, .ref aW, .ref aP, .ref aB, .ref aR])), (aT, .inr (7, [.ref aTb, .int tn])), (aTb, .inl (cyI, 64, .inl tb)), (aP, .inr (3, [.ref aPk, .ref aPl, .ref aPd, .ref aPs, .int pn, .int pch]))] sz)) (va_Qi (fun (r : Int32) (u : Int32 × (Nat → Int32) × Int32 × Int32) => post r u.1 u.2.1 u.2.2.1 u.2.2.2) (wk_C (dC, dI) [(cyI, .int)] (va_A [(aX, .inr (8, [.ref aT, .ref aS, .ref aF, .ref aQ, .ref aW, .ref aP, .ref aB, .ref aR])), (aT, .inr (7, [.ref aTb, .int tn])), (aTb, .inl (cyI, 64, .inl tb)), (aP, .inr (3, [.ref aPk, .ref aPl, .ref aPd, .ref aPs, .int pn, .int pch]))] sz) (fun (u : Int32 × (Nat → Int32) × Int32 × Int32) => [(aX, .inr (8, [.ref aT, .ref aS, .ref aF, .ref aQ, .ref aW, .ref aP, .ref aB, .ref aR])), (aT, .inr (7, [.ref aTb, .int (u.1)])), (aTb, .inl (cyI, 64, .inl (u.2.1))), (aP, .inr (3, [.ref aPk, .ref aPl, .ref aPd, .ref aPs, .int (u.2.2.1), .int (u.2.2.2)]))])) (va_A [(aX, .inr (8, [.ref aT, .ref aS, .ref aF, .ref aQ, .ref aW, .ref aP, .ref aB, .ref aR])), (aT, .inr (7, [.ref aTb, .int tn])), (aTb, .inl (cyI, 64, .inl tb)), (aP, .inr (3, [.ref aPk, .ref aPl, .ref aPd, .ref aPs, .int pn, .int pch]))] sz)) (vx_X px (wk_X (dC, dI) [(cyI, .int)] (va_A [(aX, .inr (8, [.ref aT, .ref aS, .ref aF, .ref aQ, .ref aW, .ref aP, .ref aB, .ref aR])), (aT, .inr (7, [.ref aTb, .int tn])), (aTb, .inl (cyI, 64, .inl tb)), (aP, .inr (3, [.ref aPk, .ref aPl, .ref aPd, .ref aPs, .int pn, .int pch]))] sz) [(aX, .inr (8, [.ref aT, .ref aS, .ref aF, .ref aQ, .ref aW, .ref aP, .ref aB, .ref aR])), (aT, .inr (7, [.ref aTb, .int tn])), (aTb, .inl (cyI, 64, .inl tb)), (aP, .inr (3, [.ref aPk, .ref aPl, .ref aPd, .ref aPs, .int pn, .int pch]))]) (va_A [(aX, .inr (8, [.ref aT, .ref aS, .ref aF, .ref aQ, .ref aW, .ref aP, .ref aB, .ref aR])), (aT, .inr (7, [.ref aTb, .int tn])), (aTb, .inl (cyI, 64, .inl tb)), (aP, .inr (3, [.ref aPk, .ref aPl, .ref aPd, .ref aPs, .int pn, .int pch]))] sz)) 1 6 (va_A [(aX, .inr (8, [.ref aT, .ref aS, .ref aF, .ref aQ, .ref aW, .ref aP, .ref aB, .ref aR])), (aT, .inr (7, [.ref aTb, .int tn])), (aTb, .inl (cyI, 64, .inl tb)), (aP, .inr (3, [.ref aPk, .ref aPl, .ref aPd, .ref aPs, .int pn, .int pch]))] sz) := by
  refine vx_ofW (cc := cX9_feed) (maxL := 5) (ret := (some .int)) (by decide) rfl ?_
  intro p e s m args below meth c s₁ B hml htab hv
  obtain ⟨rfl, ⟨hsz, hP, hK, hD0⟩, hZ⟩ := hv
  have hx := B.exec
  have hb := B.bytes
  have hr := B.returns
  have hts := atoms_spec (ws := wsX9_feed) B.pre
  have hown : s.vm.findClass RX9 = some m.cls := findClass_of_methodNamed B.named
  have hlocks := B.notSynchronized
  subst hsz
  have hD := hD0.self (sz := s.heap.size)
  generalize hAe : va_A [(aX, .inr (8, [.ref aT, .ref aS, .ref aF, .ref aQ, .ref aW, .ref aP, .ref aB, .ref aR])), (aT, .inr (7, [.ref aTb, .int tn])), (aTb, .inl (cyI, 64, .inl tb)), (aP, .inr (3, [.ref aPk, .ref aPl, .ref aPd, .ref aPs, .int pn, .int pch]))] s.heap.size = A at hD hZ ⊢
  have hA : ∀ q : Nat, s.heap.size ≤ q → A q := fun q h => by rw [← hAe]; exact Or.inr h
  have hS : va_S A s.heap s.heap [] := va_S.rf
  have hP : va_P (dC, dI) vwCl [(aX, .inr (8, [.ref aT, .ref aS, .ref aF, .ref aQ, .ref aW, .ref aP, .ref aB, .ref aR])), (aT, .inr (7, [.ref aTb, .int tn])), (aTb, .inl (cyI, 64, .inl tb)), (aP, .inr (3, [.ref aPk, .ref aPl, .ref aPd, .ref aPs, .int pn, .int pch]))] s.heap := hP
  have hl := lv_entry ([.ref aX, .long v1, .int v3]) (n := 5) (Nat.le_of_ble_eq_true rfl)
  rw [lg_entry_eq]
  generalize (lg_sl ([.ref aX, .long v1, .int v3]) ++ List.replicate (5 - (lg_sl ([.ref aX, .long v1, .int v3])).length) Slot.unset).toArray = ls at hl ⊢
  have hl : lv_has ls 5 [(0, .ref aX), (1, .long v1), (3, .int v3)] := hl
  have C0 : CallFix p m c cX9_feed 5 s ([.ref aX, .long v1, .int v3] : List Value).toArray wsX9_feed RX9 := ⟨hx, hb, hml, hown, hts⟩
  unfold wpX9_feed at h
  refine lv_iload_n hx hb dX9_feed_0 rfl (lv_at hl 2 rfl) ?_
  refine lv_iconst (v := 1) hx hb dX9_feed_1 (by decide) ?_
  refine lv_icmp_lt (tgt := 11) hx hb dX9_feed_2 (by decide) (fun c_1 => ?_) (fun c_1 => ?_)
  · replace h := h.1 c_1
    obtain ⟨sa9, hstr⟩ := hZ.1 _ (List.mem_of_getElem? (i := 0) rfl)
    exact vx_throwS hx hb hlt hown xA_fit xN_fit (hts _ qX9_feed_0) (hts _ qX9_feed_1) hstr (vx_hat (fun w hw => hts w (inX9_feed_xA w hw)) xA_no (hZ.use _)) xA_ot hZ.2.1 hZ.2.2.1 hS (hl.1.trans hml.symm) dX9_feed_11 dX9_feed_14 dX9_feed_15 dX9_feed_17 dX9_feed_20 (fun x hx9 => (htab x hx9).elim) (Nat.le_of_ble_eq_true rfl) (Nat.le_of_ble_eq_true rfl) (Nat.le_of_ble_eq_true rfl) (Nat.le_of_ble_eq_true rfl) hlocks (wk_xc hP hD hK hS h) hS.2.2 (Nat.le_of_ble_eq_true rfl) (Nat.le_of_ble_eq_true rfl)
  · replace h := h.2 c_1
    refine lv_iload_n hx hb dX9_feed_5 rfl (lv_at hl 2 rfl) ?_
    refine lv_bipush (v := 8) hx hb dX9_feed_6 (by decide) ?_
    refine lv_icmp_le (tgt := 21) hx hb dX9_feed_8 (by decide) (fun c_2 => ?_) (fun c_2 => ?_)
    · replace h := h.1 c_2
      refine lv_aload_n hx hb dX9_feed_21 rfl (lv_at hl 0 rfl) ?_
      refine va_get (D := (dC, dI)) (ci := 8) (v := .ref aT) (C := RX9) (T := TX9) (N := 8) hx hb hts inX9_feed_wsX90 hown hK hP 0 rfl rfl 0 (by decide) (hts _ qX9_feed_2) (fun _ h9 => h9) rfl dX9_feed_22 ?_
      refine va_get (D := (dC, dI)) (ci := 7) (v := .int tn) (C := RX8) (T := TX8) (N := 2) hx hb hts inX9_feed_wsX80 hown hK hP 1 rfl rfl 1 (by decide) (hts _ qX9_feed_3) (fun _ h9 => h9) rfl dX9_feed_25 ?_
      refine lv_iload_n hx hb dX9_feed_28 rfl (lv_at hl 2 rfl) ?_
      refine lv_iadd hx hb dX9_feed_29 ?_
      refine lv_bipush (v := 64) hx hb dX9_feed_30 (by decide) ?_
      refine lv_icmp_le (tgt := 45) hx hb dX9_feed_32 (by decide) (fun c_3 => ?_) (fun c_3 => ?_)
      · replace h := h.1 c_3
        refine lv_iload_n hx hb dX9_feed_45 rfl (lv_at hl 2 rfl) ?_
        refine lv_iconst (v := 1) hx hb dX9_feed_46 (by decide) ?_
        refine lv_isub hx hb dX9_feed_47 ?_
        refine lv_istore (lv' := [(4, .int (v3 - 1)), (0, .ref aX), (1, .long v1), (3, .int v3)]) hx hb dX9_feed_48 hl (by decide) rfl (fun ls hl => ?_)
        obtain ⟨n50, h⟩ := h
        refine wlX9_feed_50 C0 hA hK ?_ n50 _ _ _ h _ _ _ hP hD hS (lv_sub hl [1, 2, 0] rfl)
        · intro tn_7 tb_8 h H locs ls hP hD hS hl
          refine lv_aload_n hx hb dX9_feed_80 rfl (lv_at hl 0 rfl) ?_
          refine va_get (D := (dC, dI)) (ci := 8) (v := .ref aP) (C := RX9) (T := TX9) (N := 8) hx hb hts inX9_feed_wsX90 hown hK hP 0 rfl rfl 5 (by decide) (hts _ qX9_feed_5) (fun _ h9 => h9) rfl dX9_feed_81 ?_
          refine wk_callv (wc := [(aP, .inr (3, [.ref aPk, .ref aPl, .ref aPd, .ref aPs, .int pn, .int pch]))]) (wr := [(aX, .inr (8, [.ref aT, .ref aS, .ref aF, .ref aQ, .ref aW, .ref aP, .ref aB, .ref aR])), (aT, .inr (7, [.ref aTb, .int tn_7])), (aTb, .inl (cyI, 64, .inl tb_8))]) (va_runV (As := []) (rest := []) C0 (mtX4_forget l dC dI cyI (aP := aP) (aPk := aPk) (aPl := aPl) (aPd := aPd) (aPs := aPs) (sz := _) (pn := pn) (pch := pch) h) (cwV 0 hts gX9_feed_X4_forget rfl rfl rfl (by decide +kernel) ⟨(Nat.le_of_ble_eq_true rfl), (Nat.le_of_ble_eq_true rfl)⟩) (wk_preV (wc := [(aP, .inr (3, [.ref aPk, .ref aPl, .ref aPd, .ref aPs, .int pn, .int pch]))]) hK hP hD [3] rfl (by decide) (va_recv hK hP (ci := 3) (q0 := 3) rfl rfl)) rfl rfl hl.1 rfl (lv_room (Nat.le_of_ble_eq_true rfl)) dX9_feed_84 ⟨(Nat.le_of_ble_eq_true rfl), (Nat.le_of_ble_eq_true rfl)⟩) hP hD hS hA [3] [0, 1, 2] rfl rfl (by decide) (by decide) (fun u9 H locs h hP hD hS => ?_)
          obtain ⟨pn_9, pch_10⟩ := u9
          have hP : va_P (dC, dI) vwCl [(aX, .inr (8, [.ref aT, .ref aS, .ref aF, .ref aQ, .ref aW, .ref aP, .ref aB, .ref aR])), (aT, .inr (7, [.ref aTb, .int tn_7])), (aTb, .inl (cyI, 64, .inl tb_8)), (aP, .inr (3, [.ref aPk, .ref aPl, .ref aPd, .ref aPs, .int pn_9, .int pch_10]))] H := hP
          have hD : va_D A [(aX, .inr (8, [.ref aT, .ref aS, .ref aF, .ref aQ, .ref aW, .ref aP, .ref aB, .ref aR])), (aT, .inr (7, [.ref aTb, .int tn_7])), (aTb, .inl (cyI, 64, .inl tb_8)), (aP, .inr (3, [.ref aPk, .ref aPl, .ref aPd, .ref aPs, .int pn_9, .int pch_10]))] := hD
          dsimp only at h
          refine lv_aload_n hx hb dX9_feed_87 rfl (lv_at hl 0 rfl) ?_
          refine va_get (D := (dC, dI)) (ci := 8) (v := .ref aT) (C := RX9) (T := TX9) (N := 8) hx hb hts inX9_feed_wsX90 hown hK hP 0 rfl rfl 0 (by decide) (hts _ qX9_feed_2) (fun _ h9 => h9) rfl dX9_feed_88 ?_
          refine va_get (D := (dC, dI)) (ci := 7) (v := .int tn_7) (C := RX8) (T := TX8) (N := 2) hx hb hts inX9_feed_wsX80 hown hK hP 1 rfl rfl 1 (by decide) (hts _ qX9_feed_3) (fun _ h9 => h9) rfl dX9_feed_91 ?_
          have hP9 : va_P (dC, dI) vwCl [(aX, .inr (8, [.ref aT, .ref aS, .ref aF, .ref aQ, .ref aW, .ref aP, .ref aB, .ref aR])), (aT, .inr (7, [.ref aTb, .int tn_7])), (aTb, .inl (cyI, 64, .inl tb_8)), (aP, .inr (3, [.ref aPk, .ref aPl, .ref aPd, .ref aPs, .int pn_9, .int pch_10]))] _ := hP
          have hD9 : va_D A [(aX, .inr (8, [.ref aT, .ref aS, .ref aF, .ref aQ, .ref aW, .ref aP, .ref aB, .ref aR])), (aT, .inr (7, [.ref aTb, .int tn_7])), (aTb, .inl (cyI, 64, .inl tb_8)), (aP, .inr (3, [.ref aPk, .ref aPl, .ref aPd, .ref aPs, .int pn_9, .int pch_10]))] := hD
          refine vx_ret ?_
          refine W.widen (k := 1) (n := 6) (Nat.le_of_ble_eq_true rfl) (Nat.le_of_ble_eq_true rfl) ?_
          exact W.iret (v := tn_7) hx hb hr (fun t ht hW => ⟨⟨tn_7, (tn_7, tb_8, pn_9, pch_10), rfl, h, by rw [ht]; exact hP9, va_K.moved hW.alike hK, hD9⟩, hS.F ht⟩) hS.2.2 dX9_feed_94
      · replace h := h.2 c_3
        obtain ⟨sa9, hstr⟩ := hZ.1 _ (List.mem_of_getElem? (i := 1) rfl)
        exact vx_throwS hx hb hlt hown xS_fit xN_fit (hts _ qX9_feed_6) (hts _ qX9_feed_7) hstr (vx_hat (fun w hw => hts w (inX9_feed_xS w hw)) xS_no (hZ.use _)) xS_ot hZ.2.1 hZ.2.2.1 hS (hl.1.trans hml.symm) dX9_feed_35 dX9_feed_38 dX9_feed_39 dX9_feed_41 dX9_feed_44 (fun x hx9 => (htab x hx9).elim) (Nat.le_of_ble_eq_true rfl) (Nat.le_of_ble_eq_true rfl) (Nat.le_of_ble_eq_true rfl) (Nat.le_of_ble_eq_true rfl) hlocks (wk_xc hP hD hK hS h) hS.2.2 (Nat.le_of_ble_eq_true rfl) (Nat.le_of_ble_eq_true rfl)
    · replace h := h.2 c_2
      obtain ⟨sa9, hstr⟩ := hZ.1 _ (List.mem_of_getElem? (i := 0) rfl)
      exact vx_throwS hx hb hlt hown xA_fit xN_fit (hts _ qX9_feed_0) (hts _ qX9_feed_1) hstr (vx_hat (fun w hw => hts w (inX9_feed_xA w hw)) xA_no (hZ.use _)) xA_ot hZ.2.1 hZ.2.2.1 hS (hl.1.trans hml.symm) dX9_feed_11 dX9_feed_14 dX9_feed_15 dX9_feed_17 dX9_feed_20 (fun x hx9 => (htab x hx9).elim) (Nat.le_of_ble_eq_true rfl) (Nat.le_of_ble_eq_true rfl) (Nat.le_of_ble_eq_true rfl) (Nat.le_of_ble_eq_true rfl) hlocks (wk_xc hP hD hK hS h) hS.2.2 (Nat.le_of_ble_eq_true rfl) (Nat.le_of_ble_eq_true rfl)
-- X9_fill
theorem qX9_fill_0 : Cond.classLink RX9 69 "java/lang/IllegalArgumentException" ∈ wsX9_fill := (List.mem_cons_of_mem _ (List.mem_append_left _ (List.mem_append_left _ (List.mem_append_left _ (List.mem_append_left _ (List.mem_append_left _ (List.mem_append_left _ (List.mem_of_getElem? (i := 0) rfl))))))))
theorem qX9_fill_1 : Cond.initialized "java/lang/IllegalArgumentException" ∈ wsX9_fill := (List.mem_cons_of_mem _ (List.mem_append_left _ (List.mem_append_left _ (List.mem_append_left _ (List.mem_append_left _ (List.mem_append_left _ (List.mem_append_left _ (List.mem_of_getElem? (i := 1) rfl))))))))
theorem qX9_fill_2 : Cond.fieldLink RX9 10 "MatchCoder" "text" "LMatchCoder$Text;" ∈ wsX9_fill := (List.mem_cons_of_mem _ (List.mem_append_left _ (List.mem_append_left _ (List.mem_append_left _ (List.mem_append_left _ (List.mem_append_left _ (List.mem_append_left _ (List.mem_of_getElem? (i := 4) rfl))))))))
theorem qX9_fill_3 : Cond.fieldLink RX9 76 "MatchCoder$Text" "count" "I" ∈ wsX9_fill := (List.mem_cons_of_mem _ (List.mem_append_left _ (List.mem_append_left _ (List.mem_append_left _ (List.mem_append_left _ (List.mem_append_left _ (List.mem_append_left _ (List.mem_of_getElem? (i := 5) rfl))))))))
theorem qX9_fill_4 : Cond.fieldLink RX9 51 "MatchCoder" "plan" "LMatchCoder$Plan;" ∈ wsX9_fill := (List.mem_cons_of_mem _ (List.mem_append_left _ (List.mem_append_left _ (List.mem_append_left _ (List.mem_append_left _ (List.mem_append_left _ (List.mem_append_left _ (List.mem_of_getElem? (i := 6) rfl))))))))
theorem qX9_fill_5 : Cond.classLink RX9 80 "java/lang/IllegalStateException" ∈ wsX9_fill := (List.mem_cons_of_mem _ (List.mem_append_left _ (List.mem_append_left _ (List.mem_append_left _ (List.mem_append_left _ (List.mem_append_left _ (List.mem_append_left _ (List.mem_of_getElem? (i := 2) rfl))))))))
theorem qX9_fill_6 : Cond.initialized "java/lang/IllegalStateException" ∈ wsX9_fill := (List.mem_cons_of_mem _ (List.mem_append_left _ (List.mem_append_left _ (List.mem_append_left _ (List.mem_append_left _ (List.mem_append_left _ (List.mem_append_left _ (List.mem_of_getElem? (i := 3) rfl))))))))
theorem inX9_fill_xA : ∀ w ∈ (vx_atS RX9 73 "java/lang/IllegalArgumentException" ["java/lang/RuntimeException", "java/lang/Exception"]).filter goodWord, w ∈ wsX9_fill := fun _ h => List.mem_cons_of_mem _ (List.mem_append_left _ (List.mem_append_right _ h))
theorem inX9_fill_xS : ∀ w ∈ (vx_atS RX9 84 "java/lang/IllegalStateException" ["java/lang/RuntimeException", "java/lang/Exception"]).filter goodWord, w ∈ wsX9_fill := fun _ h => List.mem_cons_of_mem _ (List.mem_append_right _ h)
theorem inX9_fill_wsX90 : ∀ w ∈ wsX90, w ∈ wsX9_fill := fun _ h => List.mem_cons_of_mem _ (List.mem_append_left _ (List.mem_append_left _ (List.mem_append_left _ (List.mem_append_left _ (List.mem_append_right _ h)))))
theorem inX9_fill_wsX80 : ∀ w ∈ wsX80, w ∈ wsX9_fill := fun _ h => List.mem_cons_of_mem _ (List.mem_append_left _ (List.mem_append_left _ (List.mem_append_left _ (List.mem_append_right _ h))))
def wpX9_fill_54 (v1 : Int32) (v2 : Int32) (K73 : Int32 → (Nat → Int32) → Prop) : Nat → Int32 → Int32 → (Nat → Int32) → Prop
  | 0, _, _, _ => False
  | n54 + 1, v3, tn, tb => (v2 ≤ v3 → (K73 tn tb)) ∧ (¬ v2 ≤ v3 → (wpX8_push tn tb v1 (fun (tn_7 : Int32) (tb_8 : Nat → Int32) => wpX9_fill_54 v1 v2 K73 n54 (v3 + 1) tn_7 tb_8)))
set_option maxHeartbeats 4000000 in
set_option maxRecDepth 100000 in
theorem wlX9_fill_54 {p : Program} {l : Launch} {e : Env} {s : State} {m : MethodId} {args : Array Value} {below : List Frame} {meth : Method} {c : Code} {A : Nat → Prop} {Q : State → Prop} {dC : Nat → ClassId} {dI : Nat → Nat → Nat} {cyI : ClassId} {aX aT aTb aS aF aQ aW aP aPk aPl aPd aPs aB aR : Nat} {v1 : Int32} {v2 : Int32} {pn : Int32} {pch : Int32} {K73 : Int32 → (Nat → Int32) → Prop} (C0 : CallFix p m c cX9_fill 4 s args wsX9_fill RX9) (hA : ∀ q : Nat, s.heap.size ≤ q → A q) (hK : va_K (dC, dI) vwCl [(cyI, .int)] s) (hK73 : ∀ (tn : Int32) (tb : Nat → Int32), K73 tn tb → ∀ (H : Heap) (locs : List Loc) (ls : Array Slot), va_P (dC, dI) vwCl [(aX, .inr (8, [.ref aT, .ref aS, .ref aF, .ref aQ, .ref aW, .ref aP, .ref aB, .ref aR])), (aT, .inr (7, [.ref aTb, .int tn])), (aTb, .inl (cyI, 64, .inl tb)), (aP, .inr (3, [.ref aPk, .ref aPl, .ref aPd, .ref aPs, .int pn, .int pch]))] H → va_D A [(aX, .inr (8, [.ref aT, .ref aS, .ref aF, .ref aQ, .ref aW, .ref aP, .ref aB, .ref aR])), (aT, .inr (7, [.ref aTb, .int tn])), (aTb, .inl (cyI, 64, .inl tb)), (aP, .inr (3, [.ref aPk, .ref aPl, .ref aPd, .ref aPs, .int pn, .int pch]))] → va_S A s.heap H locs → lv_has ls 4 [(0, .ref aX)] → W p l e ({ frames := 6, cells := 1, slots := 6, locals := 82 } : Room) s m args below meth c H locs 0 0 Q (F0 m 73 ls [])) :
    ∀ (n54 : Nat) (v3 : Int32) (tn : Int32) (tb : Nat → Int32), wpX9_fill_54 v1 v2 K73 n54 v3 tn tb → ∀ (H : Heap) (locs : List Loc) (ls : Array Slot), va_P (dC, dI) vwCl [(aX, .inr (8, [.ref aT, .ref aS, .ref aF, .ref aQ, .ref aW, .ref aP, .ref aB, .ref aR])), (aT, .inr (7, [.ref aTb, .int tn])), (aTb, .inl (cyI, 64, .inl tb)), (aP, .inr (3, [.ref aPk, .ref aPl, .ref aPd, .ref aPs, .int pn, .int pch]))] H → va_D A [(aX, .inr (8, [.ref aT, .ref aS, .ref aF, .ref aQ, .ref aW, .ref aP, .ref aB, .ref aR])), (aT, .inr (7, [.ref aTb, .int tn])), (aTb, .inl (cyI, 64, .inl tb)), (aP, .inr (3, [.ref aPk, .ref aPl, .ref aPd, .ref aPs, .int pn, .int pch]))] → va_S A s.heap H locs → lv_has ls 4 [(0, .ref aX), (1, .int v1), (2, .int v2), (3, .int v3)] → W p l e ({ frames := 6, cells := 1, slots := 6, locals := 82 } : Room) s m args below meth c H locs 0 0 Q (F0 m 54 ls []) := by
  obtain ⟨hx, hb, hml, hown, hts⟩ := id C0
  intro n54
  induction n54 with
  | zero => intro _ _ _ h; exact h.elim
  | succ n54 ih54 =>
    intro v3 tn tb h H locs ls hP hD hS hl
    rw [wpX9_fill_54] at h
    refine lv_iload_n hx hb dX9_fill_54 rfl (lv_at hl 3 rfl) ?_
    refine lv_iload_n hx hb dX9_fill_55 rfl (lv_at hl 2 rfl) ?_
    refine lv_icmp_ge (tgt := 73) hx hb dX9_fill_56 (by decide) (fun c_6 => ?_) (fun c_6 => ?_)
    · replace h := h.1 c_6
      exact hK73 _ _ h _ _ _ hP hD hS (lv_sub hl [0] rfl)
    · replace h := h.2 c_6
      refine lv_aload_n hx hb dX9_fill_59 rfl (lv_at hl 0 rfl) ?_
      refine va_get (D := (dC, dI)) (ci := 8) (v := .ref aT) (C := RX9) (T := TX9) (N := 8) hx hb hts inX9_fill_wsX90 hown hK hP 0 rfl rfl 0 (by decide) (hts _ qX9_fill_2) (fun _ h9 => h9) rfl dX9_fill_60 ?_
      refine lv_iload_n hx hb dX9_fill_63 rfl (lv_at hl 1 rfl) ?_
      refine wk_callv (wc := [(aT, .inr (7, [.ref aTb, .int tn])), (aTb, .inl (cyI, 64, .inl tb))]) (wr := [(aX, .inr (8, [.ref aT, .ref aS, .ref aF, .ref aQ, .ref aW, .ref aP, .ref aB, .ref aR])), (aP, .inr (3, [.ref aPk, .ref aPl, .ref aPd, .ref aPs, .int pn, .int pch]))]) (va_runV (As := [.int v1]) (rest := []) C0 (mtX8_push l dC dI cyI (aT := aT) (aTb := aTb) (sz := _) (tn := tn) (tb := tb) (v1 := v1) h) (cwV 1 hts gX9_fill_X8_push rfl rfl rfl (by decide +kernel) ⟨(Nat.le_of_ble_eq_true rfl), (Nat.le_of_ble_eq_true rfl)⟩) (wk_preV (wc := [(aT, .inr (7, [.ref aTb, .int tn])), (aTb, .inl (cyI, 64, .inl tb))]) hK hP hD [1, 2] rfl (by decide) (va_recv hK hP (ci := 7) (q0 := 1) rfl rfl)) rfl rfl hl.1 rfl (lv_room (Nat.le_of_ble_eq_true rfl)) dX9_fill_64 ⟨(Nat.le_of_ble_eq_true rfl), (Nat.le_of_ble_eq_true rfl)⟩) hP hD hS hA [1, 2] [0, 3] rfl rfl (by decide) (by decide) (fun u9 H locs h hP hD hS => ?_)
      obtain ⟨tn_7, tb_8⟩ := u9
      have hP : va_P (dC, dI) vwCl [(aX, .inr (8, [.ref aT, .ref aS, .ref aF, .ref aQ, .ref aW, .ref aP, .ref aB, .ref aR])), (aP, .inr (3, [.ref aPk, .ref aPl, .ref aPd, .ref aPs, .int pn, .int pch])), (aT, .inr (7, [.ref aTb, .int tn_7])), (aTb, .inl (cyI, 64, .inl tb_8))] H := hP
      have hD : va_D A [(aX, .inr (8, [.ref aT, .ref aS, .ref aF, .ref aQ, .ref aW, .ref aP, .ref aB, .ref aR])), (aP, .inr (3, [.ref aPk, .ref aPl, .ref aPd, .ref aPs, .int pn, .int pch])), (aT, .inr (7, [.ref aTb, .int tn_7])), (aTb, .inl (cyI, 64, .inl tb_8))] := hD
      dsimp only at h
      refine lv_iinc (v := v3 + 1) (lv' := [(3, .int (v3 + 1)), (0, .ref aX), (1, .int v1), (2, .int v2)]) hx hb dX9_fill_67 hl (k := 3) rfl rfl (by decide) rfl (fun ls hl => ?_)
      refine lv_goto (tgt := 54) hx hb dX9_fill_70 (by decide) ?_
      exact ih54 _ _ _ h _ _ _ (hP.sub [0, 2, 3, 1] rfl) (hD.sub [0, 2, 3, 1] (by decide) rfl) hS (lv_sub hl [1, 2, 3, 0] rfl)
def wpX9_fill (tn : Int32) (tb : Nat → Int32) (v1 : Int32) (v2 : Int32) (post : Int32 → Int32 → (Nat → Int32) → Int32 → Int32 → Prop) (px : String → Prop) : Prop := wpX9_isByte v1 (fun (r_1 : Int32) => (r_1 = 0 → (px xA)) ∧ (¬ r_1 = 0 → ((v2 < 1 → (px xA)) ∧ (¬ v2 < 1 → ((v2 ≤ 64 → (((tn + v2) ≤ 64 → (∃ n54 : Nat, wpX9_fill_54 v1 v2 (fun (tn_9 : Int32) (tb_10 : Nat → Int32) => wpX4_forget (fun (pn_11 : Int32) (pch_12 : Int32) => post tn_9 tn_9 tb_10 pn_11 pch_12)) n54 0 tn tb)) ∧ (¬ (tn + v2) ≤ 64 → (px xS)))) ∧ (¬ v2 ≤ 64 → (px xA)))))))
set_option maxHeartbeats 4000000 in
set_option maxRecDepth 100000 in
theorem mtX9_fill (l : Launch) (hlt : l.stackTraces = false) (dC : Nat → ClassId) (dI : Nat → Nat → Nat) (cyI : ClassId) {aX aT aTb aS aF aQ aW aP aPk aPl aPd aPs aB aR : Nat} {sz : Nat} {tn : Int32} {tb : Nat → Int32} {pn : Int32} {pch : Int32} {v1 : Int32} {v2 : Int32} {post : Int32 → Int32 → (Nat → Int32) → Int32 → Int32 → Prop} {px : String → Prop} (h : wpX9_fill tn tb v1 v2 post px) : vx_Met l yX9_fill wsX9_fill ({ frames := 6, cells := 1, slots := 6, locals := 82 }) (va_Pc [.ref aX, .int v1, .int v2] (wk_BX (dC, dI) [(cyI, .int)] [(aX, .inr (8, [.ref aT, .ref aS, .ref aF, .ref aQ, .ref aW, .ref aP, .ref aB, .ref aR])), (aT, .inr (7, [.ref aTb, .int tn])), (aTb, .inl (cyI, 64, .inl tb)), (aP, .inr (3, [.ref aPk, .ref aPl, .ref aPd, .ref aPs, .int pn, .int pch]))] sz)) (va_Qi (fun (r : Int32) (u : Int32 × (Nat → Int32) × Int32 × Int32) => post r u.1 u.2.1 u.2.2.1 u.2.2.2) (wk_C (dC, dI) [(cyI, .int)] (va_A [(aX, .inr (8, [.ref aT, .ref aS, .ref aF, .ref aQ, .ref aW, .ref aP, .ref aB, .ref aR])), (aT, .inr (7, [.ref aTb, .int tn])), (aTb, .inl (cyI, 64, .inl tb)), (aP, .inr (3, [.ref aPk, .ref aPl, .ref aPd, .ref aPs, .int pn, .int pch]))] sz) (fun (u : Int32 × (Nat → Int32) × Int32 × Int32) => [(aX, .inr (8, [.ref aT, .ref aS, .ref aF, .ref aQ, .ref aW, .ref aP, .ref aB, .ref aR])), (aT, .inr (7, [.ref aTb, .int (u.1)])), (aTb, .inl (cyI, 64, .inl (u.2.1))), (aP, .inr (3, [.ref aPk, .ref aPl, .ref aPd, .ref aPs, .int (u.2.2.1), .int (u.2.2.2)]))])) (va_A [(aX, .inr (8, [.ref aT, .ref aS, .ref aF, .ref aQ, .ref aW, .ref aP, .ref aB, .ref aR])), (aT, .inr (7, [.ref aTb, .int tn])), (aTb, .inl (cyI, 64, .inl tb)), (aP, .inr (3, [.ref aPk, .ref aPl, .ref aPd, .ref aPs, .int pn, .int pch]))] sz)) (vx_X px (wk_X (dC, dI) [(cyI, .int)] (va_A [(aX, .inr (8, [.ref aT, .ref aS, .ref aF, .ref aQ, .ref aW, .ref aP, .ref aB, .ref aR])), (aT, .inr (7, [.ref aTb, .int tn])), (aTb, .inl (cyI, 64, .inl tb)), (aP, .inr (3, [.ref aPk, .ref aPl, .ref aPd, .ref aPs, .int pn, .int pch]))] sz) [(aX, .inr (8, [.ref aT, .ref aS, .ref aF, .ref aQ, .ref aW, .ref aP, .ref aB, .ref aR])), (aT, .inr (7, [.ref aTb, .int tn])), (aTb, .inl (cyI, 64, .inl tb)), (aP, .inr (3, [.ref aPk, .ref aPl, .ref aPd, .ref aPs, .int pn, .int pch]))]) (va_A [(aX, .inr (8, [.ref aT, .ref aS, .ref aF, .ref aQ, .ref aW, .ref aP, .ref aB, .ref aR])), (aT, .inr (7, [.ref aTb, .int tn])), (aTb, .inl (cyI, 64, .inl tb)), (aP, .inr (3, [.ref aPk, .ref aPl, .ref aPd, .ref aPs, .int pn, .int pch]))] sz)) 1 6 (va_A [(aX, .inr (8, [.ref aT, .ref aS, .ref aF, .ref aQ, .ref aW, .ref aP, .ref aB, .ref aR])), (aT, .inr (7, [.ref aTb, .int tn])), (aTb, .inl (cyI, 64, .inl tb)), (aP, .inr (3, [.ref aPk, .ref aPl, .ref aPd, .ref aPs, .int pn, .int pch]))] sz) := by
  refine vx_ofW (cc := cX9_fill) (maxL := 4) (ret := (some .int)) (by decide) rfl ?_
  intro p e s m args below meth c s₁ B hml htab hv
  obtain ⟨rfl, ⟨hsz, hP, hK, hD0⟩, hZ⟩ := hv
  have hx := B.exec
  have hb := B.bytes
  have hr := B.returns
  have hts := atoms_spec (ws := wsX9_fill) B.pre
  have hown : s.vm.findClass RX9 = some m.cls := findClass_of_methodNamed B.named
  have hlocks := B.notSynchronized
  subst hsz
  have hD := hD0.self (sz := s.heap.size)
  generalize hAe : va_A [(aX, .inr (8, [.ref aT, .ref aS, .ref aF, .ref aQ, .ref aW, .ref aP, .ref aB, .ref aR])), (aT, .inr (7, [.ref aTb, .int tn])), (aTb, .inl (cyI, 64, .inl tb)), (aP, .inr (3, [.ref aPk, .ref aPl, .ref aPd, .ref aPs, .int pn, .int pch]))] s.heap.size = A at hD hZ ⊢
  have hA : ∀ q : Nat, s.heap.size ≤ q → A q := fun q h => by rw [← hAe]; exact Or.inr h
  have hS : va_S A s.heap s.heap [] := va_S.rf
  have hP : va_P (dC, dI) vwCl [(aX, .inr (8, [.ref aT, .ref aS, .ref aF, .ref aQ, .ref aW, .ref aP, .ref aB, .ref aR])), (aT, .inr (7, [.ref aTb, .int tn])), (aTb, .inl (cyI, 64, .inl tb)), (aP, .inr (3, [.ref aPk, .ref aPl, .ref aPd, .ref aPs, .int pn, .int pch]))] s.heap := hP
  have hl := lv_entry ([.ref aX, .int v1, .int v2]) (n := 4) (Nat.le_of_ble_eq_true rfl)
  rw [lg_entry_eq]
  generalize (lg_sl ([.ref aX, .int v1, .int v2]) ++ List.replicate (4 - (lg_sl ([.ref aX, .int v1, .int v2])).length) Slot.unset).toArray = ls at hl ⊢
  have hl : lv_has ls 4 [(0, .ref aX), (1, .int v1), (2, .int v2)] := hl
  have C0 : CallFix p m c cX9_fill 4 s ([.ref aX, .int v1, .int v2] : List Value).toArray wsX9_fill RX9 := ⟨hx, hb, hml, hown, hts⟩
  unfold wpX9_fill at h
  refine lv_iload_n hx hb dX9_fill_0 rfl (lv_at hl 1 rfl) ?_
  refine wk_calli (wc := []) (wr := [(aX, .inr (8, [.ref aT, .ref aS, .ref aF, .ref aQ, .ref aW, .ref aP, .ref aB, .ref aR])), (aT, .inr (7, [.ref aTb, .int tn])), (aTb, .inl (cyI, 64, .inl tb)), (aP, .inr (3, [.ref aPk, .ref aPl, .ref aPd, .ref aPs, .int pn, .int pch]))]) (va_runS (As := [.int v1]) (rest := []) C0 (mtX9_isByte l dC dI cyI (sz := _) (v0 := v1) h) (va_cwS 1 hts gX9_fill_X9_isByte rfl rfl rfl (by decide +kernel) ⟨(Nat.le_of_ble_eq_true rfl), (Nat.le_of_ble_eq_true rfl)⟩) (wk_preS (wc := []) hK hP hD [] rfl (by decide)) rfl rfl hl.1 rfl (lv_room (Nat.le_of_ble_eq_true rfl)) dX9_fill_1 ⟨(Nat.le_of_ble_eq_true rfl), (Nat.le_of_ble_eq_true rfl)⟩) hP hD hS hA [] [0, 1, 2, 3] rfl rfl (by decide) (by decide) (fun r_1 u9 H locs h hP hD hS => ?_)
  have hP : va_P (dC, dI) vwCl [(aX, .inr (8, [.ref aT, .ref aS, .ref aF, .ref aQ, .ref aW, .ref aP, .ref aB, .ref aR])), (aT, .inr (7, [.ref aTb, .int tn])), (aTb, .inl (cyI, 64, .inl tb)), (aP, .inr (3, [.ref aPk, .ref aPl, .ref aPd, .ref aPs, .int pn, .int pch]))] H := hP
  have hD : va_D A [(aX, .inr (8, [.ref aT, .ref aS, .ref aF, .ref aQ, .ref aW, .ref aP, .ref aB, .ref aR])), (aT, .inr (7, [.ref aTb, .int tn])), (aTb, .inl (cyI, 64, .inl tb)), (aP, .inr (3, [.ref aPk, .ref aPl, .ref aPd, .ref aPs, .int pn, .int pch]))] := hD
  refine lv_if_eq (tgt := 18) hx hb dX9_fill_4 (by decide) (fun c_2 => ?_) (fun c_2 => ?_)
  · replace h := h.1 c_2
    obtain ⟨sa9, hstr⟩ := hZ.1 _ (List.mem_of_getElem? (i := 2) rfl)
    exact vx_throwS hx hb hlt hown xA_fit xN_fit (hts _ qX9_fill_0) (hts _ qX9_fill_1) hstr (vx_hat (fun w hw => hts w (inX9_fill_xA w hw)) xA_no (hZ.use _)) xA_ot hZ.2.1 hZ.2.2.1 hS (hl.1.trans hml.symm) dX9_fill_18 dX9_fill_21 dX9_fill_22 dX9_fill_24 dX9_fill_27 (fun x hx9 => (htab x hx9).elim) (Nat.le_of_ble_eq_true rfl) (Nat.le_of_ble_eq_true rfl) (Nat.le_of_ble_eq_true rfl) (Nat.le_of_ble_eq_true rfl) hlocks (wk_xc hP hD hK hS h) hS.2.2 (Nat.le_of_ble_eq_true rfl) (Nat.le_of_ble_eq_true rfl)
  · replace h := h.2 c_2
    refine lv_iload_n hx hb dX9_fill_7 rfl (lv_at hl 2 rfl) ?_
    refine lv_iconst (v := 1) hx hb dX9_fill_8 (by decide) ?_
    refine lv_icmp_lt (tgt := 18) hx hb dX9_fill_9 (by decide) (fun c_3 => ?_) (fun c_3 => ?_)
    · replace h := h.1 c_3
      obtain ⟨sa9, hstr⟩ := hZ.1 _ (List.mem_of_getElem? (i := 2) rfl)
      exact vx_throwS hx hb hlt hown xA_fit xN_fit (hts _ qX9_fill_0) (hts _ qX9_fill_1) hstr (vx_hat (fun w hw => hts w (inX9_fill_xA w hw)) xA_no (hZ.use _)) xA_ot hZ.2.1 hZ.2.2.1 hS (hl.1.trans hml.symm) dX9_fill_18 dX9_fill_21 dX9_fill_22 dX9_fill_24 dX9_fill_27 (fun x hx9 => (htab x hx9).elim) (Nat.le_of_ble_eq_true rfl) (Nat.le_of_ble_eq_true rfl) (Nat.le_of_ble_eq_true rfl) (Nat.le_of_ble_eq_true rfl) hlocks (wk_xc hP hD hK hS h) hS.2.2 (Nat.le_of_ble_eq_true rfl) (Nat.le_of_ble_eq_true rfl)
    · replace h := h.2 c_3
      refine lv_iload_n hx hb dX9_fill_12 rfl (lv_at hl 2 rfl) ?_
      refine lv_bipush (v := 64) hx hb dX9_fill_13 (by decide) ?_
      refine lv_icmp_le (tgt := 28) hx hb dX9_fill_15 (by decide) (fun c_4 => ?_) (fun c_4 => ?_)
      · replace h := h.1 c_4
        refine lv_aload_n hx hb dX9_fill_28 rfl (lv_at hl 0 rfl) ?_
        refine va_get (D := (dC, dI)) (ci := 8) (v := .ref aT) (C := RX9) (T := TX9) (N := 8) hx hb hts inX9_fill_wsX90 hown hK hP 0 rfl rfl 0 (by decide) (hts _ qX9_fill_2) (fun _ h9 => h9) rfl dX9_fill_29 ?_
        refine va_get (D := (dC, dI)) (ci := 7) (v := .int tn) (C := RX8) (T := TX8) (N := 2) hx hb hts inX9_fill_wsX80 hown hK hP 1 rfl rfl 1 (by decide) (hts _ qX9_fill_3) (fun _ h9 => h9) rfl dX9_fill_32 ?_
        refine lv_iload_n hx hb dX9_fill_35 rfl (lv_at hl 2 rfl) ?_
        refine lv_iadd hx hb dX9_fill_36 ?_
        refine lv_bipush (v := 64) hx hb dX9_fill_37 (by decide) ?_
        refine lv_icmp_le (tgt := 52) hx hb dX9_fill_39 (by decide) (fun c_5 => ?_) (fun c_5 => ?_)
        · replace h := h.1 c_5
          refine lv_iconst (v := 0) hx hb dX9_fill_52 (by decide) ?_
          refine lv_istore_n (lv' := [(3, .int 0), (0, .ref aX), (1, .int v1), (2, .int v2)]) hx hb dX9_fill_53 rfl hl (by decide) rfl (fun ls hl => ?_)
          obtain ⟨n54, h⟩ := h
          refine wlX9_fill_54 C0 hA hK ?_ n54 _ _ _ h _ _ _ hP hD hS (lv_sub hl [1, 2, 3, 0] rfl)
          · intro tn_9 tb_10 h H locs ls hP hD hS hl
            refine lv_aload_n hx hb dX9_fill_73 rfl (lv_at hl 0 rfl) ?_
            refine va_get (D := (dC, dI)) (ci := 8) (v := .ref aP) (C := RX9) (T := TX9) (N := 8) hx hb hts inX9_fill_wsX90 hown hK hP 0 rfl rfl 5 (by decide) (hts _ qX9_fill_4) (fun _ h9 => h9) rfl dX9_fill_74 ?_
            refine wk_callv (wc := [(aP, .inr (3, [.ref aPk, .ref aPl, .ref aPd, .ref aPs, .int pn, .int pch]))]) (wr := [(aX, .inr (8, [.ref aT, .ref aS, .ref aF, .ref aQ, .ref aW, .ref aP, .ref aB, .ref aR])), (aT, .inr (7, [.ref aTb, .int tn_9])), (aTb, .inl (cyI, 64, .inl tb_10))]) (va_runV (As := []) (rest := []) C0 (mtX4_forget l dC dI cyI (aP := aP) (aPk := aPk) (aPl := aPl) (aPd := aPd) (aPs := aPs) (sz := _) (pn := pn) (pch := pch) h) (cwV 0 hts gX9_fill_X4_forget rfl rfl rfl (by decide +kernel) ⟨(Nat.le_of_ble_eq_true rfl), (Nat.le_of_ble_eq_true rfl)⟩) (wk_preV (wc := [(aP, .inr (3, [.ref aPk, .ref aPl, .ref aPd, .ref aPs, .int pn, .int pch]))]) hK hP hD [3] rfl (by decide) (va_recv hK hP (ci := 3) (q0 := 3) rfl rfl)) rfl rfl hl.1 rfl (lv_room (Nat.le_of_ble_eq_true rfl)) dX9_fill_77 ⟨(Nat.le_of_ble_eq_true rfl), (Nat.le_of_ble_eq_true rfl)⟩) hP hD hS hA [3] [0, 1, 2] rfl rfl (by decide) (by decide) (fun u9 H locs h hP hD hS => ?_)
            obtain ⟨pn_11, pch_12⟩ := u9
            have hP : va_P (dC, dI) vwCl [(aX, .inr (8, [.ref aT, .ref aS, .ref aF, .ref aQ, .ref aW, .ref aP, .ref aB, .ref aR])), (aT, .inr (7, [.ref aTb, .int tn_9])), (aTb, .inl (cyI, 64, .inl tb_10)), (aP, .inr (3, [.ref aPk, .ref aPl, .ref aPd, .ref aPs, .int pn_11, .int pch_12]))] H := hP
            have hD : va_D A [(aX, .inr (8, [.ref aT, .ref aS, .ref aF, .ref aQ, .ref aW, .ref aP, .ref aB, .ref aR])), (aT, .inr (7, [.ref aTb, .int tn_9])), (aTb, .inl (cyI, 64, .inl tb_10)), (aP, .inr (3, [.ref aPk, .ref aPl, .ref aPd, .ref aPs, .int pn_11, .int pch_12]))] := hD
            dsimp only at h
            refine lv_aload_n hx hb dX9_fill_80 rfl (lv_at hl 0 rfl) ?_
            refine va_get (D := (dC, dI)) (ci := 8) (v := .ref aT) (C := RX9) (T := TX9) (N := 8) hx hb hts inX9_fill_wsX90 hown hK hP 0 rfl rfl 0 (by decide) (hts _ qX9_fill_2) (fun _ h9 => h9) rfl dX9_fill_81 ?_
            refine va_get (D := (dC, dI)) (ci := 7) (v := .int tn_9) (C := RX8) (T := TX8) (N := 2) hx hb hts inX9_fill_wsX80 hown hK hP 1 rfl rfl 1 (by decide) (hts _ qX9_fill_3) (fun _ h9 => h9) rfl dX9_fill_84 ?_
            have hP9 : va_P (dC, dI) vwCl [(aX, .inr (8, [.ref aT, .ref aS, .ref aF, .ref aQ, .ref aW, .ref aP, .ref aB, .ref aR])), (aT, .inr (7, [.ref aTb, .int tn_9])), (aTb, .inl (cyI, 64, .inl tb_10)), (aP, .inr (3, [.ref aPk, .ref aPl, .ref aPd, .ref aPs, .int pn_11, .int pch_12]))] _ := hP
            have hD9 : va_D A [(aX, .inr (8, [.ref aT, .ref aS, .ref aF, .ref aQ, .ref aW, .ref aP, .ref aB, .ref aR])), (aT, .inr (7, [.ref aTb, .int tn_9])), (aTb, .inl (cyI, 64, .inl tb_10)), (aP, .inr (3, [.ref aPk, .ref aPl, .ref aPd, .ref aPs, .int pn_11, .int pch_12]))] := hD
            refine vx_ret ?_
            refine W.widen (k := 1) (n := 6) (Nat.le_of_ble_eq_true rfl) (Nat.le_of_ble_eq_true rfl) ?_
            exact W.iret (v := tn_9) hx hb hr (fun t ht hW => ⟨⟨tn_9, (tn_9, tb_10, pn_11, pch_12), rfl, h, by rw [ht]; exact hP9, va_K.moved hW.alike hK, hD9⟩, hS.F ht⟩) hS.2.2 dX9_fill_87
        · replace h := h.2 c_5
          obtain ⟨sa9, hstr⟩ := hZ.1 _ (List.mem_of_getElem? (i := 1) rfl)
          exact vx_throwS hx hb hlt hown xS_fit xN_fit (hts _ qX9_fill_5) (hts _ qX9_fill_6) hstr (vx_hat (fun w hw => hts w (inX9_fill_xS w hw)) xS_no (hZ.use _)) xS_ot hZ.2.1 hZ.2.2.1 hS (hl.1.trans hml.symm) dX9_fill_42 dX9_fill_45 dX9_fill_46 dX9_fill_48 dX9_fill_51 (fun x hx9 => (htab x hx9).elim) (Nat.le_of_ble_eq_true rfl) (Nat.le_of_ble_eq_true rfl) (Nat.le_of_ble_eq_true rfl) (Nat.le_of_ble_eq_true rfl) hlocks (wk_xc hP hD hK hS h) hS.2.2 (Nat.le_of_ble_eq_true rfl) (Nat.le_of_ble_eq_true rfl)
      · replace h := h.2 c_4
        obtain ⟨sa9, hstr⟩ := hZ.1 _ (List.mem_of_getElem? (i := 2) rfl)
        exact vx_throwS hx hb hlt hown xA_fit xN_fit (hts _ qX9_fill_0) (hts _ qX9_fill_1) hstr (vx_hat (fun w hw => hts w (inX9_fill_xA w hw)) xA_no (hZ.use _)) xA_ot hZ.2.1 hZ.2.2.1 hS (hl.1.trans hml.symm) dX9_fill_18 dX9_fill_21 dX9_fill_22 dX9_fill_24 dX9_fill_27 (fun x hx9 => (htab x hx9).elim) (Nat.le_of_ble_eq_true rfl) (Nat.le_of_ble_eq_true rfl) (Nat.le_of_ble_eq_true rfl) (Nat.le_of_ble_eq_true rfl) hlocks (wk_xc hP hD hK hS h) hS.2.2 (Nat.le_of_ble_eq_true rfl) (Nat.le_of_ble_eq_true rfl)
-- X9_cut
theorem qX9_cut_0 : Cond.classLink RX9 69 "java/lang/IllegalArgumentException" ∈ wsX9_cut := (List.mem_cons_of_mem _ (List.mem_append_left _ (List.mem_append_left _ (List.mem_append_left _ (List.mem_append_left _ (List.mem_of_getElem? (i := 0) rfl))))))
theorem qX9_cut_1 : Cond.initialized "java/lang/IllegalArgumentException" ∈ wsX9_cut := (List.mem_cons_of_mem _ (List.mem_append_left _ (List.mem_append_left _ (List.mem_append_left _ (List.mem_append_left _ (List.mem_of_getElem? (i := 1) rfl))))))
theorem qX9_cut_2 : Cond.fieldLink RX9 10 "MatchCoder" "text" "LMatchCoder$Text;" ∈ wsX9_cut := (List.mem_cons_of_mem _ (List.mem_append_left _ (List.mem_append_left _ (List.mem_append_left _ (List.mem_append_left _ (List.mem_of_getElem? (i := 2) rfl))))))
theorem qX9_cut_3 : Cond.fieldLink RX9 76 "MatchCoder$Text" "count" "I" ∈ wsX9_cut := (List.mem_cons_of_mem _ (List.mem_append_left _ (List.mem_append_left _ (List.mem_append_left _ (List.mem_append_left _ (List.mem_of_getElem? (i := 3) rfl))))))
theorem qX9_cut_4 : Cond.fieldLink RX9 51 "MatchCoder" "plan" "LMatchCoder$Plan;" ∈ wsX9_cut := (List.mem_cons_of_mem _ (List.mem_append_left _ (List.mem_append_left _ (List.mem_append_left _ (List.mem_append_left _ (List.mem_of_getElem? (i := 4) rfl))))))
theorem inX9_cut_xA : ∀ w ∈ (vx_atS RX9 73 "java/lang/IllegalArgumentException" ["java/lang/RuntimeException", "java/lang/Exception"]).filter goodWord, w ∈ wsX9_cut := fun _ h => List.mem_cons_of_mem _ (List.mem_append_right _ h)
theorem inX9_cut_wsX90 : ∀ w ∈ wsX90, w ∈ wsX9_cut := fun _ h => List.mem_cons_of_mem _ (List.mem_append_left _ (List.mem_append_left _ (List.mem_append_left _ (List.mem_append_right _ h))))
theorem inX9_cut_wsX80 : ∀ w ∈ wsX80, w ∈ wsX9_cut := fun _ h => List.mem_cons_of_mem _ (List.mem_append_left _ (List.mem_append_left _ (List.mem_append_right _ h)))
def wpX9_cut (tn : Int32) (v1 : Int32) (post : Int32 → Int32 → Int32 → Int32 → Prop) (px : String → Prop) : Prop := (v1 < 0 → (px xA)) ∧ (¬ v1 < 0 → ((v1 ≤ tn → (wpX4_forget (fun (pn_3 : Int32) (pch_4 : Int32) => post (tn - v1) (tn - v1) pn_3 pch_4))) ∧ (¬ v1 ≤ tn → (px xA))))
set_option maxHeartbeats 4000000 in
set_option maxRecDepth 100000 in
theorem mtX9_cut (l : Launch) (hlt : l.stackTraces = false) (dC : Nat → ClassId) (dI : Nat → Nat → Nat) (cyI : ClassId) {aX aT aTb aS aF aQ aW aP aPk aPl aPd aPs aB aR : Nat} {sz : Nat} {tn : Int32} {pn : Int32} {pch : Int32} {v1 : Int32} {post : Int32 → Int32 → Int32 → Int32 → Prop} {px : String → Prop} (h : wpX9_cut tn v1 post px) : vx_Met l yX9_cut wsX9_cut ({ frames := 6, cells := 1, slots := 6, locals := 82 }) (va_Pc [.ref aX, .int v1] (wk_BX (dC, dI) [(cyI, .int)] [(aX, .inr (8, [.ref aT, .ref aS, .ref aF, .ref aQ, .ref aW, .ref aP, .ref aB, .ref aR])), (aT, .inr (7, [.ref aTb, .int tn])), (aP, .inr (3, [.ref aPk, .ref aPl, .ref aPd, .ref aPs, .int pn, .int pch]))] sz)) (va_Qi (fun (r : Int32) (u : Int32 × Int32 × Int32) => post r u.1 u.2.1 u.2.2) (wk_C (dC, dI) [(cyI, .int)] (va_A [(aX, .inr (8, [.ref aT, .ref aS, .ref aF, .ref aQ, .ref aW, .ref aP, .ref aB, .ref aR])), (aT, .inr (7, [.ref aTb, .int tn])), (aP, .inr (3, [.ref aPk, .ref aPl, .ref aPd, .ref aPs, .int pn, .int pch]))] sz) (fun (u : Int32 × Int32 × Int32) => [(aX, .inr (8, [.ref aT, .ref aS, .ref aF, .ref aQ, .ref aW, .ref aP, .ref aB, .ref aR])), (aT, .inr (7, [.ref aTb, .int (u.1)])), (aP, .inr (3, [.ref aPk, .ref aPl, .ref aPd, .ref aPs, .int (u.2.1), .int (u.2.2)]))])) (va_A [(aX, .inr (8, [.ref aT, .ref aS, .ref aF, .ref aQ, .ref aW, .ref aP, .ref aB, .ref aR])), (aT, .inr (7, [.ref aTb, .int tn])), (aP, .inr (3, [.ref aPk, .ref aPl, .ref aPd, .ref aPs, .int pn, .int pch]))] sz)) (vx_X px (wk_X (dC, dI) [(cyI, .int)] (va_A [(aX, .inr (8, [.ref aT, .ref aS, .ref aF, .ref aQ, .ref aW, .ref aP, .ref aB, .ref aR])), (aT, .inr (7, [.ref aTb, .int tn])), (aP, .inr (3, [.ref aPk, .ref aPl, .ref aPd, .ref aPs, .int pn, .int pch]))] sz) [(aX, .inr (8, [.ref aT, .ref aS, .ref aF, .ref aQ, .ref aW, .ref aP, .ref aB, .ref aR])), (aT, .inr (7, [.ref aTb, .int tn])), (aP, .inr (3, [.ref aPk, .ref aPl, .ref aPd, .ref aPs, .int pn, .int pch]))]) (va_A [(aX, .inr (8, [.ref aT, .ref aS, .ref aF, .ref aQ, .ref aW, .ref aP, .ref aB, .ref aR])), (aT, .inr (7, [.ref aTb, .int tn])), (aP, .inr (3, [.ref aPk, .ref aPl, .ref aPd, .ref aPs, .int pn, .int pch]))] sz)) 1 6 (va_A [(aX, .inr (8, [.ref aT, .ref aS, .ref aF, .ref aQ, .ref aW, .ref aP, .ref aB, .ref aR])), (aT, .inr (7, [.ref aTb, .int tn])), (aP, .inr (3, [.ref aPk, .ref aPl, .ref aPd, .ref aPs, .int pn, .int pch]))] sz) := by
  refine vx_ofW (cc := cX9_cut) (maxL := 2) (ret := (some .int)) (by decide) rfl ?_
  intro p e s m args below meth c s₁ B hml htab hv
  obtain ⟨rfl, ⟨hsz, hP, hK, hD0⟩, hZ⟩ := hv
  have hx := B.exec
  have hb := B.bytes
  have hr := B.returns
  have hts := atoms_spec (ws := wsX9_cut) B.pre
  have hown : s.vm.findClass RX9 = some m.cls := findClass_of_methodNamed B.named
  have hlocks := B.notSynchronized
  subst hsz
  have hD := hD0.self (sz := s.heap.size)
  generalize hAe : va_A [(aX, .inr (8, [.ref aT, .ref aS, .ref aF, .ref aQ, .ref aW, .ref aP, .ref aB, .ref aR])), (aT, .inr (7, [.ref aTb, .int tn])), (aP, .inr (3, [.ref aPk, .ref aPl, .ref aPd, .ref aPs, .int pn, .int pch]))] s.heap.size = A at hD hZ ⊢
  have hA : ∀ q : Nat, s.heap.size ≤ q → A q := fun q h => by rw [← hAe]; exact Or.inr h
  have hS : va_S A s.heap s.heap [] := va_S.rf
  have hP : va_P (dC, dI) vwCl [(aX, .inr (8, [.ref aT, .ref aS, .ref aF, .ref aQ, .ref aW, .ref aP, .ref aB, .ref aR])), (aT, .inr (7, [.ref aTb, .int tn])), (aP, .inr (3, [.ref aPk, .ref aPl, .ref aPd, .ref aPs, .int pn, .int pch]))] s.heap := hP
  have hl := lv_entry ([.ref aX, .int v1]) (n := 2) (Nat.le_of_ble_eq_true rfl)
  rw [lg_entry_eq]
  generalize (lg_sl ([.ref aX, .int v1]) ++ List.replicate (2 - (lg_sl ([.ref aX, .int v1])).length) Slot.unset).toArray = ls at hl ⊢
  have hl : lv_has ls 2 [(0, .ref aX), (1, .int v1)] := hl
  have C0 : CallFix p m c cX9_cut 2 s ([.ref aX, .int v1] : List Value).toArray wsX9_cut RX9 := ⟨hx, hb, hml, hown, hts⟩
  unfold wpX9_cut at h
  refine lv_iload_n hx hb dX9_cut_0 rfl (lv_at hl 1 rfl) ?_
  refine lv_if_lt (tgt := 15) hx hb dX9_cut_1 (by decide) (fun c_1 => ?_) (fun c_1 => ?_)
  · replace h := h.1 c_1
    obtain ⟨sa9, hstr⟩ := hZ.1 _ (List.mem_of_getElem? (i := 3) rfl)
    exact vx_throwS hx hb hlt hown xA_fit xN_fit (hts _ qX9_cut_0) (hts _ qX9_cut_1) hstr (vx_hat (fun w hw => hts w (inX9_cut_xA w hw)) xA_no (hZ.use _)) xA_ot hZ.2.1 hZ.2.2.1 hS (hl.1.trans hml.symm) dX9_cut_15 dX9_cut_18 dX9_cut_19 dX9_cut_21 dX9_cut_24 (fun x hx9 => (htab x hx9).elim) (Nat.le_of_ble_eq_true rfl) (Nat.le_of_ble_eq_true rfl) (Nat.le_of_ble_eq_true rfl) (Nat.le_of_ble_eq_true rfl) hlocks (wk_xc hP hD hK hS h) hS.2.2 (Nat.le_of_ble_eq_true rfl) (Nat.le_of_ble_eq_true rfl)
  · replace h := h.2 c_1
    refine lv_iload_n hx hb dX9_cut_4 rfl (lv_at hl 1 rfl) ?_
    refine lv_aload_n hx hb dX9_cut_5 rfl (lv_at hl 0 rfl) ?_
    refine va_get (D := (dC, dI)) (ci := 8) (v := .ref aT) (C := RX9) (T := TX9) (N := 8) hx hb hts inX9_cut_wsX90 hown hK hP 0 rfl rfl 0 (by decide) (hts _ qX9_cut_2) (fun _ h9 => h9) rfl dX9_cut_6 ?_
    refine va_get (D := (dC, dI)) (ci := 7) (v := .int tn) (C := RX8) (T := TX8) (N := 2) hx hb hts inX9_cut_wsX80 hown hK hP 1 rfl rfl 1 (by decide) (hts _ qX9_cut_3) (fun _ h9 => h9) rfl dX9_cut_9 ?_
    refine lv_icmp_le (tgt := 25) hx hb dX9_cut_12 (by decide) (fun c_2 => ?_) (fun c_2 => ?_)
    · replace h := h.1 c_2
      refine lv_aload_n hx hb dX9_cut_25 rfl (lv_at hl 0 rfl) ?_
      refine va_get (D := (dC, dI)) (ci := 8) (v := .ref aT) (C := RX9) (T := TX9) (N := 8) hx hb hts inX9_cut_wsX90 hown hK hP 0 rfl rfl 0 (by decide) (hts _ qX9_cut_2) (fun _ h9 => h9) rfl dX9_cut_26 ?_
      refine lv_dup hx hb dX9_cut_29 rfl ?_
      refine va_get (D := (dC, dI)) (ci := 7) (v := .int tn) (C := RX8) (T := TX8) (N := 2) hx hb hts inX9_cut_wsX80 hown hK hP 1 rfl rfl 1 (by decide) (hts _ qX9_cut_3) (fun _ h9 => h9) rfl dX9_cut_30 ?_
      refine lv_iload_n hx hb dX9_cut_33 rfl (lv_at hl 1 rfl) ?_
      refine lv_isub hx hb dX9_cut_34 ?_
      refine va_put (D := (dC, dI)) (ci := 7) (v := .int (tn - v1)) (ty := .int) (C := RX8) (T := TX8) (N := 2) hx hb hts inX9_cut_wsX80 tyX8 tyX8_ok nmX8 hown hK hP hD hS 1 rfl rfl 1 (by decide) (hts _ qX9_cut_3) (fun _ h9 => h9) rfl (by decide +kernel) rfl rfl (Nat.le_of_ble_eq_true rfl) dX9_cut_35 (fun H locs hP hD hS => ?_)
      have hP : va_P (dC, dI) vwCl [(aX, .inr (8, [.ref aT, .ref aS, .ref aF, .ref aQ, .ref aW, .ref aP, .ref aB, .ref aR])), (aT, .inr (7, [.ref aTb, .int (tn - v1)])), (aP, .inr (3, [.ref aPk, .ref aPl, .ref aPd, .ref aPs, .int pn, .int pch]))] H := hP
      have hD : va_D A [(aX, .inr (8, [.ref aT, .ref aS, .ref aF, .ref aQ, .ref aW, .ref aP, .ref aB, .ref aR])), (aT, .inr (7, [.ref aTb, .int (tn - v1)])), (aP, .inr (3, [.ref aPk, .ref aPl, .ref aPd, .ref aPs, .int pn, .int pch]))] := hD
      refine lv_aload_n hx hb dX9_cut_38 rfl (lv_at hl 0 rfl) ?_
      refine va_get (D := (dC, dI)) (ci := 8) (v := .ref aP) (C := RX9) (T := TX9) (N := 8) hx hb hts inX9_cut_wsX90 hown hK hP 0 rfl rfl 5 (by decide) (hts _ qX9_cut_4) (fun _ h9 => h9) rfl dX9_cut_39 ?_
      refine wk_callv (wc := [(aP, .inr (3, [.ref aPk, .ref aPl, .ref aPd, .ref aPs, .int pn, .int pch]))]) (wr := [(aX, .inr (8, [.ref aT, .ref aS, .ref aF, .ref aQ, .ref aW, .ref aP, .ref aB, .ref aR])), (aT, .inr (7, [.ref aTb, .int (tn - v1)]))]) (va_runV (As := []) (rest := []) C0 (mtX4_forget l dC dI cyI (aP := aP) (aPk := aPk) (aPl := aPl) (aPd := aPd) (aPs := aPs) (sz := _) (pn := pn) (pch := pch) h) (cwV 0 hts gX9_cut_X4_forget rfl rfl rfl (by decide +kernel) ⟨(Nat.le_of_ble_eq_true rfl), (Nat.le_of_ble_eq_true rfl)⟩) (wk_preV (wc := [(aP, .inr (3, [.ref aPk, .ref aPl, .ref aPd, .ref aPs, .int pn, .int pch]))]) hK hP hD [2] rfl (by decide) (va_recv hK hP (ci := 3) (q0 := 2) rfl rfl)) rfl rfl hl.1 rfl (lv_room (Nat.le_of_ble_eq_true rfl)) dX9_cut_42 ⟨(Nat.le_of_ble_eq_true rfl), (Nat.le_of_ble_eq_true rfl)⟩) hP hD hS hA [2] [0, 1] rfl rfl (by decide) (by decide) (fun u9 H locs h hP hD hS => ?_)
      obtain ⟨pn_3, pch_4⟩ := u9
      have hP : va_P (dC, dI) vwCl [(aX, .inr (8, [.ref aT, .ref aS, .ref aF, .ref aQ, .ref aW, .ref aP, .ref aB, .ref aR])), (aT, .inr (7, [.ref aTb, .int (tn - v1)])), (aP, .inr (3, [.ref aPk, .ref aPl, .ref aPd, .ref aPs, .int pn_3, .int pch_4]))] H := hP
      have hD : va_D A [(aX, .inr (8, [.ref aT, .ref aS, .ref aF, .ref aQ, .ref aW, .ref aP, .ref aB, .ref aR])), (aT, .inr (7, [.ref aTb, .int (tn - v1)])), (aP, .inr (3, [.ref aPk, .ref aPl, .ref aPd, .ref aPs, .int pn_3, .int pch_4]))] := hD
      dsimp only at h
      refine lv_aload_n hx hb dX9_cut_45 rfl (lv_at hl 0 rfl) ?_
      refine va_get (D := (dC, dI)) (ci := 8) (v := .ref aT) (C := RX9) (T := TX9) (N := 8) hx hb hts inX9_cut_wsX90 hown hK hP 0 rfl rfl 0 (by decide) (hts _ qX9_cut_2) (fun _ h9 => h9) rfl dX9_cut_46 ?_
      refine va_get (D := (dC, dI)) (ci := 7) (v := .int (tn - v1)) (C := RX8) (T := TX8) (N := 2) hx hb hts inX9_cut_wsX80 hown hK hP 1 rfl rfl 1 (by decide) (hts _ qX9_cut_3) (fun _ h9 => h9) rfl dX9_cut_49 ?_
      have hP9 : va_P (dC, dI) vwCl [(aX, .inr (8, [.ref aT, .ref aS, .ref aF, .ref aQ, .ref aW, .ref aP, .ref aB, .ref aR])), (aT, .inr (7, [.ref aTb, .int (tn - v1)])), (aP, .inr (3, [.ref aPk, .ref aPl, .ref aPd, .ref aPs, .int pn_3, .int pch_4]))] _ := hP
      have hD9 : va_D A [(aX, .inr (8, [.ref aT, .ref aS, .ref aF, .ref aQ, .ref aW, .ref aP, .ref aB, .ref aR])), (aT, .inr (7, [.ref aTb, .int (tn - v1)])), (aP, .inr (3, [.ref aPk, .ref aPl, .ref aPd, .ref aPs, .int pn_3, .int pch_4]))] := hD
      refine vx_ret ?_
      refine W.widen (k := 1) (n := 6) (Nat.le_of_ble_eq_true rfl) (Nat.le_of_ble_eq_true rfl) ?_
      exact W.iret (v := tn - v1) hx hb hr (fun t ht hW => ⟨⟨tn - v1, (tn - v1, pn_3, pch_4), rfl, h, by rw [ht]; exact hP9, va_K.moved hW.alike hK, hD9⟩, hS.F ht⟩) hS.2.2 dX9_cut_52
    · replace h := h.2 c_2
      obtain ⟨sa9, hstr⟩ := hZ.1 _ (List.mem_of_getElem? (i := 3) rfl)
      exact vx_throwS hx hb hlt hown xA_fit xN_fit (hts _ qX9_cut_0) (hts _ qX9_cut_1) hstr (vx_hat (fun w hw => hts w (inX9_cut_xA w hw)) xA_no (hZ.use _)) xA_ot hZ.2.1 hZ.2.2.1 hS (hl.1.trans hml.symm) dX9_cut_15 dX9_cut_18 dX9_cut_19 dX9_cut_21 dX9_cut_24 (fun x hx9 => (htab x hx9).elim) (Nat.le_of_ble_eq_true rfl) (Nat.le_of_ble_eq_true rfl) (Nat.le_of_ble_eq_true rfl) (Nat.le_of_ble_eq_true rfl) hlocks (wk_xc hP hD hK hS h) hS.2.2 (Nat.le_of_ble_eq_true rfl) (Nat.le_of_ble_eq_true rfl)
-- X9_set
theorem qX9_set_0 : Cond.fieldLink RX9 10 "MatchCoder" "text" "LMatchCoder$Text;" ∈ wsX9_set := (List.mem_cons_of_mem _ (List.mem_append_left _ (List.mem_append_left _ (List.mem_append_left _ (List.mem_append_left _ (List.mem_append_left _ (List.mem_of_getElem? (i := 4) rfl)))))))
theorem qX9_set_1 : Cond.fieldLink RX9 112 "MatchCoder$Text" "bytes" "[I" ∈ wsX9_set := (List.mem_cons_of_mem _ (List.mem_append_left _ (List.mem_append_left _ (List.mem_append_left _ (List.mem_append_left _ (List.mem_append_left _ (List.mem_of_getElem? (i := 5) rfl)))))))
theorem qX9_set_2 : Cond.fieldLink RX9 51 "MatchCoder" "plan" "LMatchCoder$Plan;" ∈ wsX9_set := (List.mem_cons_of_mem _ (List.mem_append_left _ (List.mem_append_left _ (List.mem_append_left _ (List.mem_append_left _ (List.mem_append_left _ (List.mem_of_getElem? (i := 6) rfl)))))))
theorem qX9_set_3 : Cond.classLink RX9 69 "java/lang/IllegalArgumentException" ∈ wsX9_set := (List.mem_cons_of_mem _ (List.mem_append_left _ (List.mem_append_left _ (List.mem_append_left _ (List.mem_append_left _ (List.mem_append_left _ (List.mem_of_getElem? (i := 2) rfl)))))))
theorem qX9_set_4 : Cond.initialized "java/lang/IllegalArgumentException" ∈ wsX9_set := (List.mem_cons_of_mem _ (List.mem_append_left _ (List.mem_append_left _ (List.mem_append_left _ (List.mem_append_left _ (List.mem_append_left _ (List.mem_of_getElem? (i := 3) rfl)))))))
theorem qX9_set_5 : Cond.classLink RX9 105 "java/lang/IndexOutOfBoundsException" ∈ wsX9_set := (List.mem_cons_of_mem _ (List.mem_append_left _ (List.mem_append_left _ (List.mem_append_left _ (List.mem_append_left _ (List.mem_append_left _ (List.mem_of_getElem? (i := 0) rfl)))))))
theorem qX9_set_6 : Cond.initialized "java/lang/IndexOutOfBoundsException" ∈ wsX9_set := (List.mem_cons_of_mem _ (List.mem_append_left _ (List.mem_append_left _ (List.mem_append_left _ (List.mem_append_left _ (List.mem_append_left _ (List.mem_of_getElem? (i := 1) rfl)))))))
theorem inX9_set_xA : ∀ w ∈ (vx_atS RX9 73 "java/lang/IllegalArgumentException" ["java/lang/RuntimeException", "java/lang/Exception"]).filter goodWord, w ∈ wsX9_set := fun _ h => List.mem_cons_of_mem _ (List.mem_append_right _ h)
theorem inX9_set_xI : ∀ w ∈ (vx_atS RX9 109 "java/lang/IndexOutOfBoundsException" ["java/lang/RuntimeException", "java/lang/Exception"]).filter goodWord, w ∈ wsX9_set := fun _ h => List.mem_cons_of_mem _ (List.mem_append_left _ (List.mem_append_right _ h))
theorem inX9_set_wsX90 : ∀ w ∈ wsX90, w ∈ wsX9_set := fun _ h => List.mem_cons_of_mem _ (List.mem_append_left _ (List.mem_append_left _ (List.mem_append_left _ (List.mem_append_left _ (List.mem_append_right _ h)))))
theorem inX9_set_wsX80 : ∀ w ∈ wsX80, w ∈ wsX9_set := fun _ h => List.mem_cons_of_mem _ (List.mem_append_left _ (List.mem_append_left _ (List.mem_append_left _ (List.mem_append_right _ h))))
def wpX9_set (tn : Int32) (tb : Nat → Int32) (v1 : Int32) (v2 : Int32) (post : Int32 → (Nat → Int32) → Int32 → Int32 → Prop) (px : String → Prop) : Prop := wpX8_has tn v1 (fun (r_1 : Int32) => (r_1 = 0 → (px xI)) ∧ (¬ r_1 = 0 → (wpX9_isByte v2 (fun (r_3 : Int32) => (r_3 = 0 → (px xA)) ∧ (¬ r_3 = 0 → (vp_in v1 64 ∧ (wpX4_forget (fun (pn_6 : Int32) (pch_7 : Int32) => post (tb v1.toNatClampNeg) (upd tb v1.toNatClampNeg v2) pn_6 pch_7))))))))
set_option maxHeartbeats 4000000 in
set_option maxRecDepth 100000 in
theorem mtX9_set (l : Launch) (hlt : l.stackTraces = false) (dC : Nat → ClassId) (dI : Nat → Nat → Nat) (cyI : ClassId) {aX aT aTb aS aF aQ aW aP aPk aPl aPd aPs aB aR : Nat} {sz : Nat} {tn : Int32} {tb : Nat → Int32} {pn : Int32} {pch : Int32} {v1 : Int32} {v2 : Int32} {post : Int32 → (Nat → Int32) → Int32 → Int32 → Prop} {px : String → Prop} (h : wpX9_set tn tb v1 v2 post px) : vx_Met l yX9_set wsX9_set ({ frames := 6, cells := 1, slots := 6, locals := 82 }) (va_Pc [.ref aX, .int v1, .int v2] (wk_BX (dC, dI) [(cyI, .int)] [(aX, .inr (8, [.ref aT, .ref aS, .ref aF, .ref aQ, .ref aW, .ref aP, .ref aB, .ref aR])), (aT, .inr (7, [.ref aTb, .int tn])), (aTb, .inl (cyI, 64, .inl tb)), (aP, .inr (3, [.ref aPk, .ref aPl, .ref aPd, .ref aPs, .int pn, .int pch]))] sz)) (va_Qi (fun (r : Int32) (u : (Nat → Int32) × Int32 × Int32) => post r u.1 u.2.1 u.2.2) (wk_C (dC, dI) [(cyI, .int)] (va_A [(aX, .inr (8, [.ref aT, .ref aS, .ref aF, .ref aQ, .ref aW, .ref aP, .ref aB, .ref aR])), (aT, .inr (7, [.ref aTb, .int tn])), (aTb, .inl (cyI, 64, .inl tb)), (aP, .inr (3, [.ref aPk, .ref aPl, .ref aPd, .ref aPs, .int pn, .int pch]))] sz) (fun (u : (Nat → Int32) × Int32 × Int32) => [(aX, .inr (8, [.ref aT, .ref aS, .ref aF, .ref aQ, .ref aW, .ref aP, .ref aB, .ref aR])), (aT, .inr (7, [.ref aTb, .int tn])), (aTb, .inl (cyI, 64, .inl (u.1))), (aP, .inr (3, [.ref aPk, .ref aPl, .ref aPd, .ref aPs, .int (u.2.1), .int (u.2.2)]))])) (va_A [(aX, .inr (8, [.ref aT, .ref aS, .ref aF, .ref aQ, .ref aW, .ref aP, .ref aB, .ref aR])), (aT, .inr (7, [.ref aTb, .int tn])), (aTb, .inl (cyI, 64, .inl tb)), (aP, .inr (3, [.ref aPk, .ref aPl, .ref aPd, .ref aPs, .int pn, .int pch]))] sz)) (vx_X px (wk_X (dC, dI) [(cyI, .int)] (va_A [(aX, .inr (8, [.ref aT, .ref aS, .ref aF, .ref aQ, .ref aW, .ref aP, .ref aB, .ref aR])), (aT, .inr (7, [.ref aTb, .int tn])), (aTb, .inl (cyI, 64, .inl tb)), (aP, .inr (3, [.ref aPk, .ref aPl, .ref aPd, .ref aPs, .int pn, .int pch]))] sz) [(aX, .inr (8, [.ref aT, .ref aS, .ref aF, .ref aQ, .ref aW, .ref aP, .ref aB, .ref aR])), (aT, .inr (7, [.ref aTb, .int tn])), (aTb, .inl (cyI, 64, .inl tb)), (aP, .inr (3, [.ref aPk, .ref aPl, .ref aPd, .ref aPs, .int pn, .int pch]))]) (va_A [(aX, .inr (8, [.ref aT, .ref aS, .ref aF, .ref aQ, .ref aW, .ref aP, .ref aB, .ref aR])), (aT, .inr (7, [.ref aTb, .int tn])), (aTb, .inl (cyI, 64, .inl tb)), (aP, .inr (3, [.ref aPk, .ref aPl, .ref aPd, .ref aPs, .int pn, .int pch]))] sz)) 1 6 (va_A [(aX, .inr (8, [.ref aT, .ref aS, .ref aF, .ref aQ, .ref aW, .ref aP, .ref aB, .ref aR])), (aT, .inr (7, [.ref aTb, .int tn])), (aTb, .inl (cyI, 64, .inl tb)), (aP, .inr (3, [.ref aPk, .ref aPl, .ref aPd, .ref aPs, .int pn, .int pch]))] sz) := by
  refine vx_ofW (cc := cX9_set) (maxL := 4) (ret := (some .int)) (by decide) rfl ?_
  intro p e s m args below meth c s₁ B hml htab hv
  obtain ⟨rfl, ⟨hsz, hP, hK, hD0⟩, hZ⟩ := hv
  have hx := B.exec
  have hb := B.bytes
  have hr := B.returns
  have hts := atoms_spec (ws := wsX9_set) B.pre
  have hown : s.vm.findClass RX9 = some m.cls := findClass_of_methodNamed B.named
  have hlocks := B.notSynchronized
  subst hsz
  have hD := hD0.self (sz := s.heap.size)
  generalize hAe : va_A [(aX, .inr (8, [.ref aT, .ref aS, .ref aF, .ref aQ, .ref aW, .ref aP, .ref aB, .ref aR])), (aT, .inr (7, [.ref aTb, .int tn])), (aTb, .inl (cyI, 64, .inl tb)), (aP, .inr (3, [.ref aPk, .ref aPl, .ref aPd, .ref aPs, .int pn, .int pch]))] s.heap.size = A at hD hZ ⊢
  have hA : ∀ q : Nat, s.heap.size ≤ q → A q := fun q h => by rw [← hAe]; exact Or.inr h
  have hS : va_S A s.heap s.heap [] := va_S.rf
  have hP : va_P (dC, dI) vwCl [(aX, .inr (8, [.ref aT, .ref aS, .ref aF, .ref aQ, .ref aW, .ref aP, .ref aB, .ref aR])), (aT, .inr (7, [.ref aTb, .int tn])), (aTb, .inl (cyI, 64, .inl tb)), (aP, .inr (3, [.ref aPk, .ref aPl, .ref aPd, .ref aPs, .int pn, .int pch]))] s.heap := hP
  have hl := lv_entry ([.ref aX, .int v1, .int v2]) (n := 4) (Nat.le_of_ble_eq_true rfl)
  rw [lg_entry_eq]
  generalize (lg_sl ([.ref aX, .int v1, .int v2]) ++ List.replicate (4 - (lg_sl ([.ref aX, .int v1, .int v2])).length) Slot.unset).toArray = ls at hl ⊢
  have hl : lv_has ls 4 [(0, .ref aX), (1, .int v1), (2, .int v2)] := hl
  have C0 : CallFix p m c cX9_set 4 s ([.ref aX, .int v1, .int v2] : List Value).toArray wsX9_set RX9 := ⟨hx, hb, hml, hown, hts⟩
  unfold wpX9_set at h
  refine lv_aload_n hx hb dX9_set_0 rfl (lv_at hl 0 rfl) ?_
  refine va_get (D := (dC, dI)) (ci := 8) (v := .ref aT) (C := RX9) (T := TX9) (N := 8) hx hb hts inX9_set_wsX90 hown hK hP 0 rfl rfl 0 (by decide) (hts _ qX9_set_0) (fun _ h9 => h9) rfl dX9_set_1 ?_
  refine lv_iload_n hx hb dX9_set_4 rfl (lv_at hl 1 rfl) ?_
  refine wk_calli (wc := [(aT, .inr (7, [.ref aTb, .int tn]))]) (wr := [(aX, .inr (8, [.ref aT, .ref aS, .ref aF, .ref aQ, .ref aW, .ref aP, .ref aB, .ref aR])), (aTb, .inl (cyI, 64, .inl tb)), (aP, .inr (3, [.ref aPk, .ref aPl, .ref aPd, .ref aPs, .int pn, .int pch]))]) (va_runV (As := [.int v1]) (rest := []) C0 (mtX8_has l dC dI cyI (aT := aT) (aTb := aTb) (sz := _) (tn := tn) (v1 := v1) h) (cwV 1 hts gX9_set_X8_has rfl rfl rfl (by decide +kernel) ⟨(Nat.le_of_ble_eq_true rfl), (Nat.le_of_ble_eq_true rfl)⟩) (wk_preV (wc := [(aT, .inr (7, [.ref aTb, .int tn]))]) hK hP hD [1] rfl (by decide) (va_recv hK hP (ci := 7) (q0 := 1) rfl rfl)) rfl rfl hl.1 rfl (lv_room (Nat.le_of_ble_eq_true rfl)) dX9_set_5 ⟨(Nat.le_of_ble_eq_true rfl), (Nat.le_of_ble_eq_true rfl)⟩) hP hD hS hA [1] [0, 2, 3] rfl rfl (by decide) (by decide) (fun r_1 u9 H locs h hP hD hS => ?_)
  have hP : va_P (dC, dI) vwCl [(aX, .inr (8, [.ref aT, .ref aS, .ref aF, .ref aQ, .ref aW, .ref aP, .ref aB, .ref aR])), (aTb, .inl (cyI, 64, .inl tb)), (aP, .inr (3, [.ref aPk, .ref aPl, .ref aPd, .ref aPs, .int pn, .int pch])), (aT, .inr (7, [.ref aTb, .int tn]))] H := hP
  have hD : va_D A [(aX, .inr (8, [.ref aT, .ref aS, .ref aF, .ref aQ, .ref aW, .ref aP, .ref aB, .ref aR])), (aTb, .inl (cyI, 64, .inl tb)), (aP, .inr (3, [.ref aPk, .ref aPl, .ref aPd, .ref aPs, .int pn, .int pch])), (aT, .inr (7, [.ref aTb, .int tn]))] := hD
  refine lv_if_ne (tgt := 21) hx hb dX9_set_8 (by decide) (fun c_2 => ?_) (fun c_2 => ?_)
  · replace h := h.2 c_2
    refine lv_iload_n hx hb dX9_set_21 rfl (lv_at hl 2 rfl) ?_
    refine wk_calli (wc := []) (wr := [(aX, .inr (8, [.ref aT, .ref aS, .ref aF, .ref aQ, .ref aW, .ref aP, .ref aB, .ref aR])), (aTb, .inl (cyI, 64, .inl tb)), (aP, .inr (3, [.ref aPk, .ref aPl, .ref aPd, .ref aPs, .int pn, .int pch])), (aT, .inr (7, [.ref aTb, .int tn]))]) (va_runS (As := [.int v2]) (rest := []) C0 (mtX9_isByte l dC dI cyI (sz := _) (v0 := v2) h) (va_cwS 1 hts gX9_set_X9_isByte rfl rfl rfl (by decide +kernel) ⟨(Nat.le_of_ble_eq_true rfl), (Nat.le_of_ble_eq_true rfl)⟩) (wk_preS (wc := []) hK hP hD [] rfl (by decide)) rfl rfl hl.1 rfl (lv_room (Nat.le_of_ble_eq_true rfl)) dX9_set_22 ⟨(Nat.le_of_ble_eq_true rfl), (Nat.le_of_ble_eq_true rfl)⟩) hP hD hS hA [] [0, 1, 2, 3] rfl rfl (by decide) (by decide) (fun r_3 u9 H locs h hP hD hS => ?_)
    have hP : va_P (dC, dI) vwCl [(aX, .inr (8, [.ref aT, .ref aS, .ref aF, .ref aQ, .ref aW, .ref aP, .ref aB, .ref aR])), (aTb, .inl (cyI, 64, .inl tb)), (aP, .inr (3, [.ref aPk, .ref aPl, .ref aPd, .ref aPs, .int pn, .int pch])), (aT, .inr (7, [.ref aTb, .int tn]))] H := hP
    have hD : va_D A [(aX, .inr (8, [.ref aT, .ref aS, .ref aF, .ref aQ, .ref aW, .ref aP, .ref aB, .ref aR])), (aTb, .inl (cyI, 64, .inl tb)), (aP, .inr (3, [.ref aPk, .ref aPl, .ref aPd, .ref aPs, .int pn, .int pch])), (aT, .inr (7, [.ref aTb, .int tn]))] := hD
    refine lv_if_ne (tgt := 38) hx hb dX9_set_25 (by decide) (fun c_4 => ?_) (fun c_4 => ?_)
    · replace h := h.2 c_4
      refine lv_aload_n hx hb dX9_set_38 rfl (lv_at hl 0 rfl) ?_
      refine va_get (D := (dC, dI)) (ci := 8) (v := .ref aT) (C := RX9) (T := TX9) (N := 8) hx hb hts inX9_set_wsX90 hown hK hP 0 rfl rfl 0 (by decide) (hts _ qX9_set_0) (fun _ h9 => h9) rfl dX9_set_39 ?_
      refine va_get (D := (dC, dI)) (ci := 7) (v := .ref aTb) (C := RX8) (T := TX8) (N := 2) hx hb hts inX9_set_wsX80 hown hK hP 3 rfl rfl 0 (by decide) (hts _ qX9_set_1) (fun _ h9 => h9) rfl dX9_set_42 ?_
      refine lv_iload_n hx hb dX9_set_45 rfl (lv_at hl 1 rfl) ?_
      obtain ⟨hi_5, h⟩ := h
      refine va_iald hx hb hK hP 1 0 rfl rfl hi_5 dX9_set_46 ?_
      refine lv_istore_n (lv' := [(3, .int (tb v1.toNatClampNeg)), (0, .ref aX), (1, .int v1), (2, .int v2)]) hx hb dX9_set_47 rfl hl (by decide) rfl (fun ls hl => ?_)
      refine lv_aload_n hx hb dX9_set_48 rfl (lv_at hl 1 rfl) ?_
      refine va_get (D := (dC, dI)) (ci := 8) (v := .ref aT) (C := RX9) (T := TX9) (N := 8) hx hb hts inX9_set_wsX90 hown hK hP 0 rfl rfl 0 (by decide) (hts _ qX9_set_0) (fun _ h9 => h9) rfl dX9_set_49 ?_
      refine va_get (D := (dC, dI)) (ci := 7) (v := .ref aTb) (C := RX8) (T := TX8) (N := 2) hx hb hts inX9_set_wsX80 hown hK hP 3 rfl rfl 0 (by decide) (hts _ qX9_set_1) (fun _ h9 => h9) rfl dX9_set_52 ?_
      refine lv_iload_n hx hb dX9_set_55 rfl (lv_at hl 2 rfl) ?_
      refine lv_iload_n hx hb dX9_set_56 rfl (lv_at hl 3 rfl) ?_
      refine va_iast hx hb hK hP hD hS 1 0 rfl rfl hi_5 dX9_set_57 (fun H locs hP hD hS => ?_)
      have hP : va_P (dC, dI) vwCl [(aX, .inr (8, [.ref aT, .ref aS, .ref aF, .ref aQ, .ref aW, .ref aP, .ref aB, .ref aR])), (aTb, .inl (cyI, 64, .inl (upd tb v1.toNatClampNeg v2))), (aP, .inr (3, [.ref aPk, .ref aPl, .ref aPd, .ref aPs, .int pn, .int pch])), (aT, .inr (7, [.ref aTb, .int tn]))] H := hP
      have hD : va_D A [(aX, .inr (8, [.ref aT, .ref aS, .ref aF, .ref aQ, .ref aW, .ref aP, .ref aB, .ref aR])), (aTb, .inl (cyI, 64, .inl (upd tb v1.toNatClampNeg v2))), (aP, .inr (3, [.ref aPk, .ref aPl, .ref aPd, .ref aPs, .int pn, .int pch])), (aT, .inr (7, [.ref aTb, .int tn]))] := hD
      refine lv_aload_n hx hb dX9_set_58 rfl (lv_at hl 1 rfl) ?_
      refine va_get (D := (dC, dI)) (ci := 8) (v := .ref aP) (C := RX9) (T := TX9) (N := 8) hx hb hts inX9_set_wsX90 hown hK hP 0 rfl rfl 5 (by decide) (hts _ qX9_set_2) (fun _ h9 => h9) rfl dX9_set_59 ?_
      refine wk_callv (wc := [(aP, .inr (3, [.ref aPk, .ref aPl, .ref aPd, .ref aPs, .int pn, .int pch]))]) (wr := [(aX, .inr (8, [.ref aT, .ref aS, .ref aF, .ref aQ, .ref aW, .ref aP, .ref aB, .ref aR])), (aTb, .inl (cyI, 64, .inl (upd tb v1.toNatClampNeg v2))), (aT, .inr (7, [.ref aTb, .int tn]))]) (va_runV (As := []) (rest := []) C0 (mtX4_forget l dC dI cyI (aP := aP) (aPk := aPk) (aPl := aPl) (aPd := aPd) (aPs := aPs) (sz := _) (pn := pn) (pch := pch) h) (cwV 0 hts gX9_set_X4_forget rfl rfl rfl (by decide +kernel) ⟨(Nat.le_of_ble_eq_true rfl), (Nat.le_of_ble_eq_true rfl)⟩) (wk_preV (wc := [(aP, .inr (3, [.ref aPk, .ref aPl, .ref aPd, .ref aPs, .int pn, .int pch]))]) hK hP hD [2] rfl (by decide) (va_recv hK hP (ci := 3) (q0 := 2) rfl rfl)) rfl rfl hl.1 rfl (lv_room (Nat.le_of_ble_eq_true rfl)) dX9_set_62 ⟨(Nat.le_of_ble_eq_true rfl), (Nat.le_of_ble_eq_true rfl)⟩) hP hD hS hA [2] [0, 1, 3] rfl rfl (by decide) (by decide) (fun u9 H locs h hP hD hS => ?_)
      obtain ⟨pn_6, pch_7⟩ := u9
      have hP : va_P (dC, dI) vwCl [(aX, .inr (8, [.ref aT, .ref aS, .ref aF, .ref aQ, .ref aW, .ref aP, .ref aB, .ref aR])), (aTb, .inl (cyI, 64, .inl (upd tb v1.toNatClampNeg v2))), (aT, .inr (7, [.ref aTb, .int tn])), (aP, .inr (3, [.ref aPk, .ref aPl, .ref aPd, .ref aPs, .int pn_6, .int pch_7]))] H := hP
      have hD : va_D A [(aX, .inr (8, [.ref aT, .ref aS, .ref aF, .ref aQ, .ref aW, .ref aP, .ref aB, .ref aR])), (aTb, .inl (cyI, 64, .inl (upd tb v1.toNatClampNeg v2))), (aT, .inr (7, [.ref aTb, .int tn])), (aP, .inr (3, [.ref aPk, .ref aPl, .ref aPd, .ref aPs, .int pn_6, .int pch_7]))] := hD
      dsimp only at h
      refine lv_iload_n hx hb dX9_set_65 rfl (lv_at hl 0 rfl) ?_
      have hP9 : va_P (dC, dI) vwCl [(aX, .inr (8, [.ref aT, .ref aS, .ref aF, .ref aQ, .ref aW, .ref aP, .ref aB, .ref aR])), (aT, .inr (7, [.ref aTb, .int tn])), (aTb, .inl (cyI, 64, .inl (upd tb v1.toNatClampNeg v2))), (aP, .inr (3, [.ref aPk, .ref aPl, .ref aPd, .ref aPs, .int pn_6, .int pch_7]))] _ := (hP.sub [0, 2, 1, 3] rfl)
      have hD9 : va_D A [(aX, .inr (8, [.ref aT, .ref aS, .ref aF, .ref aQ, .ref aW, .ref aP, .ref aB, .ref aR])), (aT, .inr (7, [.ref aTb, .int tn])), (aTb, .inl (cyI, 64, .inl (upd tb v1.toNatClampNeg v2))), (aP, .inr (3, [.ref aPk, .ref aPl, .ref aPd, .ref aPs, .int pn_6, .int pch_7]))] := (hD.sub [0, 2, 1, 3] (by decide) rfl)
      refine vx_ret ?_
      refine W.widen (k := 1) (n := 6) (Nat.le_of_ble_eq_true rfl) (Nat.le_of_ble_eq_true rfl) ?_
      exact W.iret (v := tb v1.toNatClampNeg) hx hb hr (fun t ht hW => ⟨⟨tb v1.toNatClampNeg, (upd tb v1.toNatClampNeg v2, pn_6, pch_7), rfl, h, by rw [ht]; exact hP9, va_K.moved hW.alike hK, hD9⟩, hS.F ht⟩) hS.2.2 dX9_set_66
    · replace h := h.1 c_4
      obtain ⟨sa9, hstr⟩ := hZ.1 _ (List.mem_of_getElem? (i := 5) rfl)
      exact vx_throwS hx hb hlt hown xA_fit xN_fit (hts _ qX9_set_3) (hts _ qX9_set_4) hstr (vx_hat (fun w hw => hts w (inX9_set_xA w hw)) xA_no (hZ.use _)) xA_ot hZ.2.1 hZ.2.2.1 hS (hl.1.trans hml.symm) dX9_set_28 dX9_set_31 dX9_set_32 dX9_set_34 dX9_set_37 (fun x hx9 => (htab x hx9).elim) (Nat.le_of_ble_eq_true rfl) (Nat.le_of_ble_eq_true rfl) (Nat.le_of_ble_eq_true rfl) (Nat.le_of_ble_eq_true rfl) hlocks (wk_xc (hP.sub [0, 3, 1, 2] rfl) (hD.sub [0, 3, 1, 2] (by decide) rfl) hK hS h) hS.2.2 (Nat.le_of_ble_eq_true rfl) (Nat.le_of_ble_eq_true rfl)
  · replace h := h.1 c_2
    obtain ⟨sa9, hstr⟩ := hZ.1 _ (List.mem_of_getElem? (i := 4) rfl)
    exact vx_throwS hx hb hlt hown xI_fit xN_fit (hts _ qX9_set_5) (hts _ qX9_set_6) hstr (vx_hat (fun w hw => hts w (inX9_set_xI w hw)) xI_no (hZ.use _)) xI_ot hZ.2.1 hZ.2.2.1 hS (hl.1.trans hml.symm) dX9_set_11 dX9_set_14 dX9_set_15 dX9_set_17 dX9_set_20 (fun x hx9 => (htab x hx9).elim) (Nat.le_of_ble_eq_true rfl) (Nat.le_of_ble_eq_true rfl) (Nat.le_of_ble_eq_true rfl) (Nat.le_of_ble_eq_true rfl) hlocks (wk_xc (hP.sub [0, 3, 1, 2] rfl) (hD.sub [0, 3, 1, 2] (by decide) rfl) hK hS h) hS.2.2 (Nat.le_of_ble_eq_true rfl) (Nat.le_of_ble_eq_true rfl)
-- X9_byteAt
theorem qX9_byteAt_0 : Cond.fieldLink RX9 10 "MatchCoder" "text" "LMatchCoder$Text;" ∈ wsX9_byteAt := (List.mem_cons_of_mem _ (List.mem_append_left _ (List.mem_append_left _ (List.mem_append_left _ (List.mem_of_getElem? (i := 2) rfl)))))
theorem qX9_byteAt_1 : Cond.fieldLink RX9 112 "MatchCoder$Text" "bytes" "[I" ∈ wsX9_byteAt := (List.mem_cons_of_mem _ (List.mem_append_left _ (List.mem_append_left _ (List.mem_append_left _ (List.mem_of_getElem? (i := 3) rfl)))))
theorem qX9_byteAt_2 : Cond.classLink RX9 105 "java/lang/IndexOutOfBoundsException" ∈ wsX9_byteAt := (List.mem_cons_of_mem _ (List.mem_append_left _ (List.mem_append_left _ (List.mem_append_left _ (List.mem_of_getElem? (i := 0) rfl)))))
theorem qX9_byteAt_3 : Cond.initialized "java/lang/IndexOutOfBoundsException" ∈ wsX9_byteAt := (List.mem_cons_of_mem _ (List.mem_append_left _ (List.mem_append_left _ (List.mem_append_left _ (List.mem_of_getElem? (i := 1) rfl)))))
theorem inX9_byteAt_xI : ∀ w ∈ (vx_atS RX9 109 "java/lang/IndexOutOfBoundsException" ["java/lang/RuntimeException", "java/lang/Exception"]).filter goodWord, w ∈ wsX9_byteAt := fun _ h => List.mem_cons_of_mem _ (List.mem_append_right _ h)
theorem inX9_byteAt_wsX90 : ∀ w ∈ wsX90, w ∈ wsX9_byteAt := fun _ h => List.mem_cons_of_mem _ (List.mem_append_left _ (List.mem_append_left _ (List.mem_append_right _ h)))
theorem inX9_byteAt_wsX80 : ∀ w ∈ wsX80, w ∈ wsX9_byteAt := fun _ h => List.mem_cons_of_mem _ (List.mem_append_left _ (List.mem_append_right _ h))
def wpX9_byteAt (tn : Int32) (tb : Nat → Int32) (v1 : Int32) (post : Int32 → Prop) (px : String → Prop) : Prop := wpX8_has tn v1 (fun (r_1 : Int32) => (r_1 = 0 → (px xI)) ∧ (¬ r_1 = 0 → (vp_in v1 64 ∧ (post (tb v1.toNatClampNeg)))))
set_option maxHeartbeats 4000000 in
set_option maxRecDepth 100000 in
theorem mtX9_byteAt (l : Launch) (hlt : l.stackTraces = false) (dC : Nat → ClassId) (dI : Nat → Nat → Nat) (cyI : ClassId) {aX aT aTb aS aF aQ aW aP aB aR : Nat} {sz : Nat} {tn : Int32} {tb : Nat → Int32} {v1 : Int32} {post : Int32 → Prop} {px : String → Prop} (h : wpX9_byteAt tn tb v1 post px) : vx_Met l yX9_byteAt wsX9_byteAt ({ frames := 6, cells := 1, slots := 6, locals := 82 }) (va_Pc [.ref aX, .int v1] (wk_BX (dC, dI) [(cyI, .int)] [(aX, .inr (8, [.ref aT, .ref aS, .ref aF, .ref aQ, .ref aW, .ref aP, .ref aB, .ref aR])), (aT, .inr (7, [.ref aTb, .int tn])), (aTb, .inl (cyI, 64, .inl tb))] sz)) (va_Qi (fun (r : Int32) (u : Unit) => post r ) (wk_C (dC, dI) [(cyI, .int)] (va_A [(aX, .inr (8, [.ref aT, .ref aS, .ref aF, .ref aQ, .ref aW, .ref aP, .ref aB, .ref aR])), (aT, .inr (7, [.ref aTb, .int tn])), (aTb, .inl (cyI, 64, .inl tb))] sz) (fun (u : Unit) => [(aX, .inr (8, [.ref aT, .ref aS, .ref aF, .ref aQ, .ref aW, .ref aP, .ref aB, .ref aR])), (aT, .inr (7, [.ref aTb, .int tn])), (aTb, .inl (cyI, 64, .inl tb))])) (va_A [(aX, .inr (8, [.ref aT, .ref aS, .ref aF, .ref aQ, .ref aW, .ref aP, .ref aB, .ref aR])), (aT, .inr (7, [.ref aTb, .int tn])), (aTb, .inl (cyI, 64, .inl tb))] sz)) (vx_X px (wk_X (dC, dI) [(cyI, .int)] (va_A [(aX, .inr (8, [.ref aT, .ref aS, .ref aF, .ref aQ, .ref aW, .ref aP, .ref aB, .ref aR])), (aT, .inr (7, [.ref aTb, .int tn])), (aTb, .inl (cyI, 64, .inl tb))] sz) [(aX, .inr (8, [.ref aT, .ref aS, .ref aF, .ref aQ, .ref aW, .ref aP, .ref aB, .ref aR])), (aT, .inr (7, [.ref aTb, .int tn])), (aTb, .inl (cyI, 64, .inl tb))]) (va_A [(aX, .inr (8, [.ref aT, .ref aS, .ref aF, .ref aQ, .ref aW, .ref aP, .ref aB, .ref aR])), (aT, .inr (7, [.ref aTb, .int tn])), (aTb, .inl (cyI, 64, .inl tb))] sz)) 1 6 (va_A [(aX, .inr (8, [.ref aT, .ref aS, .ref aF, .ref aQ, .ref aW, .ref aP, .ref aB, .ref aR])), (aT, .inr (7, [.ref aTb, .int tn])), (aTb, .inl (cyI, 64, .inl tb))] sz) := by
  refine vx_ofW (cc := cX9_byteAt) (maxL := 2) (ret := (some .int)) (by decide) rfl ?_
  intro p e s m args below meth c s₁ B hml htab hv
  obtain ⟨rfl, ⟨hsz, hP, hK, hD0⟩, hZ⟩ := hv
  have hx := B.exec
  have hb := B.bytes
  have hr := B.returns
  have hts := atoms_spec (ws := wsX9_byteAt) B.pre
  have hown : s.vm.findClass RX9 = some m.cls := findClass_of_methodNamed B.named
  have hlocks := B.notSynchronized
  subst hsz
  have hD := hD0.self (sz := s.heap.size)
  generalize hAe : va_A [(aX, .inr (8, [.ref aT, .ref aS, .ref aF, .ref aQ, .ref aW, .ref aP, .ref aB, .ref aR])), (aT, .inr (7, [.ref aTb, .int tn])), (aTb, .inl (cyI, 64, .inl tb))] s.heap.size = A at hD hZ ⊢
  have hA : ∀ q : Nat, s.heap.size ≤ q → A q := fun q h => by rw [← hAe]; exact Or.inr h
  have hS : va_S A s.heap s.heap [] := va_S.rf
  have hP : va_P (dC, dI) vwCl [(aX, .inr (8, [.ref aT, .ref aS, .ref aF, .ref aQ, .ref aW, .ref aP, .ref aB, .ref aR])), (aT, .inr (7, [.ref aTb, .int tn])), (aTb, .inl (cyI, 64, .inl tb))] s.heap := hP
  have hl := lv_entry ([.ref aX, .int v1]) (n := 2) (Nat.le_of_ble_eq_true rfl)
  rw [lg_entry_eq]
  generalize (lg_sl ([.ref aX, .int v1]) ++ List.replicate (2 - (lg_sl ([.ref aX, .int v1])).length) Slot.unset).toArray = ls at hl ⊢
  have hl : lv_has ls 2 [(0, .ref aX), (1, .int v1)] := hl
  have C0 : CallFix p m c cX9_byteAt 2 s ([.ref aX, .int v1] : List Value).toArray wsX9_byteAt RX9 := ⟨hx, hb, hml, hown, hts⟩
  unfold wpX9_byteAt at h
  refine lv_aload_n hx hb dX9_byteAt_0 rfl (lv_at hl 0 rfl) ?_
  refine va_get (D := (dC, dI)) (ci := 8) (v := .ref aT) (C := RX9) (T := TX9) (N := 8) hx hb hts inX9_byteAt_wsX90 hown hK hP 0 rfl rfl 0 (by decide) (hts _ qX9_byteAt_0) (fun _ h9 => h9) rfl dX9_byteAt_1 ?_
  refine lv_iload_n hx hb dX9_byteAt_4 rfl (lv_at hl 1 rfl) ?_
  refine wk_calli (wc := [(aT, .inr (7, [.ref aTb, .int tn]))]) (wr := [(aX, .inr (8, [.ref aT, .ref aS, .ref aF, .ref aQ, .ref aW, .ref aP, .ref aB, .ref aR])), (aTb, .inl (cyI, 64, .inl tb))]) (va_runV (As := [.int v1]) (rest := []) C0 (mtX8_has l dC dI cyI (aT := aT) (aTb := aTb) (sz := _) (tn := tn) (v1 := v1) h) (cwV 1 hts gX9_byteAt_X8_has rfl rfl rfl (by decide +kernel) ⟨(Nat.le_of_ble_eq_true rfl), (Nat.le_of_ble_eq_true rfl)⟩) (wk_preV (wc := [(aT, .inr (7, [.ref aTb, .int tn]))]) hK hP hD [1] rfl (by decide) (va_recv hK hP (ci := 7) (q0 := 1) rfl rfl)) rfl rfl hl.1 rfl (lv_room (Nat.le_of_ble_eq_true rfl)) dX9_byteAt_5 ⟨(Nat.le_of_ble_eq_true rfl), (Nat.le_of_ble_eq_true rfl)⟩) hP hD hS hA [1] [0, 2] rfl rfl (by decide) (by decide) (fun r_1 u9 H locs h hP hD hS => ?_)
  have hP : va_P (dC, dI) vwCl [(aX, .inr (8, [.ref aT, .ref aS, .ref aF, .ref aQ, .ref aW, .ref aP, .ref aB, .ref aR])), (aTb, .inl (cyI, 64, .inl tb)), (aT, .inr (7, [.ref aTb, .int tn]))] H := hP
  have hD : va_D A [(aX, .inr (8, [.ref aT, .ref aS, .ref aF, .ref aQ, .ref aW, .ref aP, .ref aB, .ref aR])), (aTb, .inl (cyI, 64, .inl tb)), (aT, .inr (7, [.ref aTb, .int tn]))] := hD
  refine lv_if_ne (tgt := 21) hx hb dX9_byteAt_8 (by decide) (fun c_2 => ?_) (fun c_2 => ?_)
  · replace h := h.2 c_2
    refine lv_aload_n hx hb dX9_byteAt_21 rfl (lv_at hl 0 rfl) ?_
    refine va_get (D := (dC, dI)) (ci := 8) (v := .ref aT) (C := RX9) (T := TX9) (N := 8) hx hb hts inX9_byteAt_wsX90 hown hK hP 0 rfl rfl 0 (by decide) (hts _ qX9_byteAt_0) (fun _ h9 => h9) rfl dX9_byteAt_22 ?_
    refine va_get (D := (dC, dI)) (ci := 7) (v := .ref aTb) (C := RX8) (T := TX8) (N := 2) hx hb hts inX9_byteAt_wsX80 hown hK hP 2 rfl rfl 0 (by decide) (hts _ qX9_byteAt_1) (fun _ h9 => h9) rfl dX9_byteAt_25 ?_
    refine lv_iload_n hx hb dX9_byteAt_28 rfl (lv_at hl 1 rfl) ?_
    obtain ⟨hi_3, h⟩ := h
    refine va_iald hx hb hK hP 1 0 rfl rfl hi_3 dX9_byteAt_29 ?_
    have hP9 : va_P (dC, dI) vwCl [(aX, .inr (8, [.ref aT, .ref aS, .ref aF, .ref aQ, .ref aW, .ref aP, .ref aB, .ref aR])), (aT, .inr (7, [.ref aTb, .int tn])), (aTb, .inl (cyI, 64, .inl tb))] _ := (hP.sub [0, 2, 1] rfl)
    have hD9 : va_D A [(aX, .inr (8, [.ref aT, .ref aS, .ref aF, .ref aQ, .ref aW, .ref aP, .ref aB, .ref aR])), (aT, .inr (7, [.ref aTb, .int tn])), (aTb, .inl (cyI, 64, .inl tb))] := (hD.sub [0, 2, 1] (by decide) rfl)
    refine vx_ret ?_
    refine W.widen (k := 1) (n := 6) (Nat.le_of_ble_eq_true rfl) (Nat.le_of_ble_eq_true rfl) ?_
    exact W.iret (v := tb v1.toNatClampNeg) hx hb hr (fun t ht hW => ⟨⟨tb v1.toNatClampNeg, (), rfl, h, by rw [ht]; exact hP9, va_K.moved hW.alike hK, hD9⟩, hS.F ht⟩) hS.2.2 dX9_byteAt_30
  · replace h := h.1 c_2
    obtain ⟨sa9, hstr⟩ := hZ.1 _ (List.mem_of_getElem? (i := 4) rfl)
    exact vx_throwS hx hb hlt hown xI_fit xN_fit (hts _ qX9_byteAt_2) (hts _ qX9_byteAt_3) hstr (vx_hat (fun w hw => hts w (inX9_byteAt_xI w hw)) xI_no (hZ.use _)) xI_ot hZ.2.1 hZ.2.2.1 hS (hl.1.trans hml.symm) dX9_byteAt_11 dX9_byteAt_14 dX9_byteAt_15 dX9_byteAt_17 dX9_byteAt_20 (fun x hx9 => (htab x hx9).elim) (Nat.le_of_ble_eq_true rfl) (Nat.le_of_ble_eq_true rfl) (Nat.le_of_ble_eq_true rfl) (Nat.le_of_ble_eq_true rfl) hlocks (wk_xc (hP.sub [0, 2, 1] rfl) (hD.sub [0, 2, 1] (by decide) rfl) hK hS h) hS.2.2 (Nat.le_of_ble_eq_true rfl) (Nat.le_of_ble_eq_true rfl)
-- X9_setWindow
theorem qX9_setWindow_0 : Cond.classLink RX9 69 "java/lang/IllegalArgumentException" ∈ wsX9_setWindow := (List.mem_cons_of_mem _ (List.mem_append_left _ (List.mem_append_left _ (List.mem_append_left _ (List.mem_append_left _ (List.mem_of_getElem? (i := 0) rfl))))))
theorem qX9_setWindow_1 : Cond.initialized "java/lang/IllegalArgumentException" ∈ wsX9_setWindow := (List.mem_cons_of_mem _ (List.mem_append_left _ (List.mem_append_left _ (List.mem_append_left _ (List.mem_append_left _ (List.mem_of_getElem? (i := 1) rfl))))))
theorem qX9_setWindow_2 : Cond.fieldLink RX9 19 "MatchCoder" "settings" "LMatchCoder$Settings;" ∈ wsX9_setWindow := (List.mem_cons_of_mem _ (List.mem_append_left _ (List.mem_append_left _ (List.mem_append_left _ (List.mem_append_left _ (List.mem_of_getElem? (i := 2) rfl))))))
theorem qX9_setWindow_3 : Cond.fieldLink RX9 118 "MatchCoder$Settings" "window" "I" ∈ wsX9_setWindow := (List.mem_cons_of_mem _ (List.mem_append_left _ (List.mem_append_left _ (List.mem_append_left _ (List.mem_append_left _ (List.mem_of_getElem? (i := 3) rfl))))))
theorem qX9_setWindow_4 : Cond.fieldLink RX9 51 "MatchCoder" "plan" "LMatchCoder$Plan;" ∈ wsX9_setWindow := (List.mem_cons_of_mem _ (List.mem_append_left _ (List.mem_append_left _ (List.mem_append_left _ (List.mem_append_left _ (List.mem_of_getElem? (i := 4) rfl))))))
theorem inX9_setWindow_xA : ∀ w ∈ (vx_atS RX9 73 "java/lang/IllegalArgumentException" ["java/lang/RuntimeException", "java/lang/Exception"]).filter goodWord, w ∈ wsX9_setWindow := fun _ h => List.mem_cons_of_mem _ (List.mem_append_right _ h)
theorem inX9_setWindow_wsX90 : ∀ w ∈ wsX90, w ∈ wsX9_setWindow := fun _ h => List.mem_cons_of_mem _ (List.mem_append_left _ (List.mem_append_left _ (List.mem_append_left _ (List.mem_append_right _ h))))
theorem inX9_setWindow_wsX70 : ∀ w ∈ wsX70, w ∈ wsX9_setWindow := fun _ h => List.mem_cons_of_mem _ (List.mem_append_left _ (List.mem_append_left _ (List.mem_append_right _ h)))
def wpX9_setWindow (sw : Int32) (v1 : Int32) (post : Int32 → Int32 → Int32 → Int32 → Prop) (px : String → Prop) : Prop := (v1 < 1 → (px xA)) ∧ (¬ v1 < 1 → ((v1 ≤ 64 → (wpX4_forget (fun (pn_3 : Int32) (pch_4 : Int32) => post sw v1 pn_3 pch_4))) ∧ (¬ v1 ≤ 64 → (px xA))))
set_option maxHeartbeats 4000000 in
set_option maxRecDepth 100000 in
theorem mtX9_setWindow (l : Launch) (hlt : l.stackTraces = false) (dC : Nat → ClassId) (dI : Nat → Nat → Nat) (cyI : ClassId) {aX aT aS aF aQ aW aP aPk aPl aPd aPs aB aR : Nat} {sz : Nat} {sw : Int32} {sl : Int32} {sg : Int32} {sp : Int32} {pn : Int32} {pch : Int32} {v1 : Int32} {post : Int32 → Int32 → Int32 → Int32 → Prop} {px : String → Prop} (h : wpX9_setWindow sw v1 post px) : vx_Met l yX9_setWindow wsX9_setWindow ({ frames := 6, cells := 1, slots := 6, locals := 82 }) (va_Pc [.ref aX, .int v1] (wk_BX (dC, dI) [(cyI, .int)] [(aX, .inr (8, [.ref aT, .ref aS, .ref aF, .ref aQ, .ref aW, .ref aP, .ref aB, .ref aR])), (aS, .inr (6, [.int sw, .int sl, .int sg, .int sp])), (aP, .inr (3, [.ref aPk, .ref aPl, .ref aPd, .ref aPs, .int pn, .int pch]))] sz)) (va_Qi (fun (r : Int32) (u : Int32 × Int32 × Int32) => post r u.1 u.2.1 u.2.2) (wk_C (dC, dI) [(cyI, .int)] (va_A [(aX, .inr (8, [.ref aT, .ref aS, .ref aF, .ref aQ, .ref aW, .ref aP, .ref aB, .ref aR])), (aS, .inr (6, [.int sw, .int sl, .int sg, .int sp])), (aP, .inr (3, [.ref aPk, .ref aPl, .ref aPd, .ref aPs, .int pn, .int pch]))] sz) (fun (u : Int32 × Int32 × Int32) => [(aX, .inr (8, [.ref aT, .ref aS, .ref aF, .ref aQ, .ref aW, .ref aP, .ref aB, .ref aR])), (aS, .inr (6, [.int (u.1), .int sl, .int sg, .int sp])), (aP, .inr (3, [.ref aPk, .ref aPl, .ref aPd, .ref aPs, .int (u.2.1), .int (u.2.2)]))])) (va_A [(aX, .inr (8, [.ref aT, .ref aS, .ref aF, .ref aQ, .ref aW, .ref aP, .ref aB, .ref aR])), (aS, .inr (6, [.int sw, .int sl, .int sg, .int sp])), (aP, .inr (3, [.ref aPk, .ref aPl, .ref aPd, .ref aPs, .int pn, .int pch]))] sz)) (vx_X px (wk_X (dC, dI) [(cyI, .int)] (va_A [(aX, .inr (8, [.ref aT, .ref aS, .ref aF, .ref aQ, .ref aW, .ref aP, .ref aB, .ref aR])), (aS, .inr (6, [.int sw, .int sl, .int sg, .int sp])), (aP, .inr (3, [.ref aPk, .ref aPl, .ref aPd, .ref aPs, .int pn, .int pch]))] sz) [(aX, .inr (8, [.ref aT, .ref aS, .ref aF, .ref aQ, .ref aW, .ref aP, .ref aB, .ref aR])), (aS, .inr (6, [.int sw, .int sl, .int sg, .int sp])), (aP, .inr (3, [.ref aPk, .ref aPl, .ref aPd, .ref aPs, .int pn, .int pch]))]) (va_A [(aX, .inr (8, [.ref aT, .ref aS, .ref aF, .ref aQ, .ref aW, .ref aP, .ref aB, .ref aR])), (aS, .inr (6, [.int sw, .int sl, .int sg, .int sp])), (aP, .inr (3, [.ref aPk, .ref aPl, .ref aPd, .ref aPs, .int pn, .int pch]))] sz)) 1 6 (va_A [(aX, .inr (8, [.ref aT, .ref aS, .ref aF, .ref aQ, .ref aW, .ref aP, .ref aB, .ref aR])), (aS, .inr (6, [.int sw, .int sl, .int sg, .int sp])), (aP, .inr (3, [.ref aPk, .ref aPl, .ref aPd, .ref aPs, .int pn, .int pch]))] sz) := by
  refine vx_ofW (cc := cX9_setWindow) (maxL := 3) (ret := (some .int)) (by decide) rfl ?_
  intro p e s m args below meth c s₁ B hml htab hv
  obtain ⟨rfl, ⟨hsz, hP, hK, hD0⟩, hZ⟩ := hv
  have hx := B.exec
  have hb := B.bytes
  have hr := B.returns
  have hts := atoms_spec (ws := wsX9_setWindow) B.pre
  have hown : s.vm.findClass RX9 = some m.cls := findClass_of_methodNamed B.named
  have hlocks := B.notSynchronized
  subst hsz
  have hD := hD0.self (sz := s.heap.size)
  generalize hAe : va_A [(aX, .inr (8, [.ref aT, .ref aS, .ref aF, .ref aQ, .ref aW, .ref aP, .ref aB, .ref aR])), (aS, .inr (6, [.int sw, .int sl, .int sg, .int sp])), (aP, .inr (3, [.ref aPk, .ref aPl, .ref aPd, .ref aPs, .int pn, .int pch]))] s.heap.size = A at hD hZ ⊢
  have hA : ∀ q : Nat, s.heap.size ≤ q → A q := fun q h => by rw [← hAe]; exact Or.inr h
  have hS : va_S A s.heap s.heap [] := va_S.rf
  have hP : va_P (dC, dI) vwCl [(aX, .inr (8, [.ref aT, .ref aS, .ref aF, .ref aQ, .ref aW, .ref aP, .ref aB, .ref aR])), (aS, .inr (6, [.int sw, .int sl, .int sg, .int sp])), (aP, .inr (3, [.ref aPk, .ref aPl, .ref aPd, .ref aPs, .int pn, .int pch]))] s.heap := hP
  have hl := lv_entry ([.ref aX, .int v1]) (n := 3) (Nat.le_of_ble_eq_true rfl)
  rw [lg_entry_eq]
  generalize (lg_sl ([.ref aX, .int v1]) ++ List.replicate (3 - (lg_sl ([.ref aX, .int v1])).length) Slot.unset).toArray = ls at hl ⊢
  have hl : lv_has ls 3 [(0, .ref aX), (1, .int v1)] := hl
  have C0 : CallFix p m c cX9_setWindow 3 s ([.ref aX, .int v1] : List Value).toArray wsX9_setWindow RX9 := ⟨hx, hb, hml, hown, hts⟩
  unfold wpX9_setWindow at h
  refine lv_iload_n hx hb dX9_setWindow_0 rfl (lv_at hl 1 rfl) ?_
  refine lv_iconst (v := 1) hx hb dX9_setWindow_1 (by decide) ?_
  refine lv_icmp_lt (tgt := 11) hx hb dX9_setWindow_2 (by decide) (fun c_1 => ?_) (fun c_1 => ?_)
  · replace h := h.1 c_1
    obtain ⟨sa9, hstr⟩ := hZ.1 _ (List.mem_of_getElem? (i := 6) rfl)
    exact vx_throwS hx hb hlt hown xA_fit xN_fit (hts _ qX9_setWindow_0) (hts _ qX9_setWindow_1) hstr (vx_hat (fun w hw => hts w (inX9_setWindow_xA w hw)) xA_no (hZ.use _)) xA_ot hZ.2.1 hZ.2.2.1 hS (hl.1.trans hml.symm) dX9_setWindow_11 dX9_setWindow_14 dX9_setWindow_15 dX9_setWindow_17 dX9_setWindow_20 (fun x hx9 => (htab x hx9).elim) (Nat.le_of_ble_eq_true rfl) (Nat.le_of_ble_eq_true rfl) (Nat.le_of_ble_eq_true rfl) (Nat.le_of_ble_eq_true rfl) hlocks (wk_xc hP hD hK hS h) hS.2.2 (Nat.le_of_ble_eq_true rfl) (Nat.le_of_ble_eq_true rfl)
  · replace h := h.2 c_1
    refine lv_iload_n hx hb dX9_setWindow_5 rfl (lv_at hl 1 rfl) ?_
    refine lv_bipush (v := 64) hx hb dX9_setWindow_6 (by decide) ?_
    refine lv_icmp_le (tgt := 21) hx hb dX9_setWindow_8 (by decide) (fun c_2 => ?_) (fun c_2 => ?_)
    · replace h := h.1 c_2
      refine lv_aload_n hx hb dX9_setWindow_21 rfl (lv_at hl 0 rfl) ?_
      refine va_get (D := (dC, dI)) (ci := 8) (v := .ref aS) (C := RX9) (T := TX9) (N := 8) hx hb hts inX9_setWindow_wsX90 hown hK hP 0 rfl rfl 1 (by decide) (hts _ qX9_setWindow_2) (fun _ h9 => h9) rfl dX9_setWindow_22 ?_
      refine va_get (D := (dC, dI)) (ci := 6) (v := .int sw) (C := RX7) (T := TX7) (N := 4) hx hb hts inX9_setWindow_wsX70 hown hK hP 1 rfl rfl 0 (by decide) (hts _ qX9_setWindow_3) (fun _ h9 => h9) rfl dX9_setWindow_25 ?_
      refine lv_istore_n (lv' := [(2, .int sw), (0, .ref aX), (1, .int v1)]) hx hb dX9_setWindow_28 rfl hl (by decide) rfl (fun ls hl => ?_)
      refine lv_aload_n hx hb dX9_setWindow_29 rfl (lv_at hl 1 rfl) ?_
      refine va_get (D := (dC, dI)) (ci := 8) (v := .ref aS) (C := RX9) (T := TX9) (N := 8) hx hb hts inX9_setWindow_wsX90 hown hK hP 0 rfl rfl 1 (by decide) (hts _ qX9_setWindow_2) (fun _ h9 => h9) rfl dX9_setWindow_30 ?_
      refine lv_iload_n hx hb dX9_setWindow_33 rfl (lv_at hl 2 rfl) ?_
      refine va_put (D := (dC, dI)) (ci := 6) (v := .int v1) (ty := .int) (C := RX7) (T := TX7) (N := 4) hx hb hts inX9_setWindow_wsX70 tyX7 tyX7_ok nmX7 hown hK hP hD hS 1 rfl rfl 0 (by decide) (hts _ qX9_setWindow_3) (fun _ h9 => h9) rfl (by decide +kernel) rfl rfl (Nat.le_of_ble_eq_true rfl) dX9_setWindow_34 (fun H locs hP hD hS => ?_)
      have hP : va_P (dC, dI) vwCl [(aX, .inr (8, [.ref aT, .ref aS, .ref aF, .ref aQ, .ref aW, .ref aP, .ref aB, .ref aR])), (aS, .inr (6, [.int v1, .int sl, .int sg, .int sp])), (aP, .inr (3, [.ref aPk, .ref aPl, .ref aPd, .ref aPs, .int pn, .int pch]))] H := hP
      have hD : va_D A [(aX, .inr (8, [.ref aT, .ref aS, .ref aF, .ref aQ, .ref aW, .ref aP, .ref aB, .ref aR])), (aS, .inr (6, [.int v1, .int sl, .int sg, .int sp])), (aP, .inr (3, [.ref aPk, .ref aPl, .ref aPd, .ref aPs, .int pn, .int pch]))] := hD
      refine lv_aload_n hx hb dX9_setWindow_37 rfl (lv_at hl 1 rfl) ?_
      refine va_get (D := (dC, dI)) (ci := 8) (v := .ref aP) (C := RX9) (T := TX9) (N := 8) hx hb hts inX9_setWindow_wsX90 hown hK hP 0 rfl rfl 5 (by decide) (hts _ qX9_setWindow_4) (fun _ h9 => h9) rfl dX9_setWindow_38 ?_
      refine wk_callv (wc := [(aP, .inr (3, [.ref aPk, .ref aPl, .ref aPd, .ref aPs, .int pn, .int pch]))]) (wr := [(aX, .inr (8, [.ref aT, .ref aS, .ref aF, .ref aQ, .ref aW, .ref aP, .ref aB, .ref aR])), (aS, .inr (6, [.int v1, .int sl, .int sg, .int sp]))]) (va_runV (As := []) (rest := []) C0 (mtX4_forget l dC dI cyI (aP := aP) (aPk := aPk) (aPl := aPl) (aPd := aPd) (aPs := aPs) (sz := _) (pn := pn) (pch := pch) h) (cwV 0 hts gX9_setWindow_X4_forget rfl rfl rfl (by decide +kernel) ⟨(Nat.le_of_ble_eq_true rfl), (Nat.le_of_ble_eq_true rfl)⟩) (wk_preV (wc := [(aP, .inr (3, [.ref aPk, .ref aPl, .ref aPd, .ref aPs, .int pn, .int pch]))]) hK hP hD [2] rfl (by decide) (va_recv hK hP (ci := 3) (q0 := 2) rfl rfl)) rfl rfl hl.1 rfl (lv_room (Nat.le_of_ble_eq_true rfl)) dX9_setWindow_41 ⟨(Nat.le_of_ble_eq_true rfl), (Nat.le_of_ble_eq_true rfl)⟩) hP hD hS hA [2] [0, 1] rfl rfl (by decide) (by decide) (fun u9 H locs h hP hD hS => ?_)
      obtain ⟨pn_3, pch_4⟩ := u9
      have hP : va_P (dC, dI) vwCl [(aX, .inr (8, [.ref aT, .ref aS, .ref aF, .ref aQ, .ref aW, .ref aP, .ref aB, .ref aR])), (aS, .inr (6, [.int v1, .int sl, .int sg, .int sp])), (aP, .inr (3, [.ref aPk, .ref aPl, .ref aPd, .ref aPs, .int pn_3, .int pch_4]))] H := hP
      have hD : va_D A [(aX, .inr (8, [.ref aT, .ref aS, .ref aF, .ref aQ, .ref aW, .ref aP, .ref aB, .ref aR])), (aS, .inr (6, [.int v1, .int sl, .int sg, .int sp])), (aP, .inr (3, [.ref aPk, .ref aPl, .ref aPd, .ref aPs, .int pn_3, .int pch_4]))] := hD
      dsimp only at h
      refine lv_iload_n hx hb dX9_setWindow_44 rfl (lv_at hl 0 rfl) ?_
      have hP9 : va_P (dC, dI) vwCl [(aX, .inr (8, [.ref aT, .ref aS, .ref aF, .ref aQ, .ref aW, .ref aP, .ref aB, .ref aR])), (aS, .inr (6, [.int v1, .int sl, .int sg, .int sp])), (aP, .inr (3, [.ref aPk, .ref aPl, .ref aPd, .ref aPs, .int pn_3, .int pch_4]))] _ := hP
      have hD9 : va_D A [(aX, .inr (8, [.ref aT, .ref aS, .ref aF, .ref aQ, .ref aW, .ref aP, .ref aB, .ref aR])), (aS, .inr (6, [.int v1, .int sl, .int sg, .int sp])), (aP, .inr (3, [.ref aPk, .ref aPl, .ref aPd, .ref aPs, .int pn_3, .int pch_4]))] := hD
      refine vx_ret ?_
      refine W.widen (k := 1) (n := 6) (Nat.le_of_ble_eq_true rfl) (Nat.le_of_ble_eq_true rfl) ?_
      exact W.iret (v := sw) hx hb hr (fun t ht hW => ⟨⟨sw, (v1, pn_3, pch_4), rfl, h, by rw [ht]; exact hP9, va_K.moved hW.alike hK, hD9⟩, hS.F ht⟩) hS.2.2 dX9_setWindow_45
    · replace h := h.2 c_2
      obtain ⟨sa9, hstr⟩ := hZ.1 _ (List.mem_of_getElem? (i := 6) rfl)
      exact vx_throwS hx hb hlt hown xA_fit xN_fit (hts _ qX9_setWindow_0) (hts _ qX9_setWindow_1) hstr (vx_hat (fun w hw => hts w (inX9_setWindow_xA w hw)) xA_no (hZ.use _)) xA_ot hZ.2.1 hZ.2.2.1 hS (hl.1.trans hml.symm) dX9_setWindow_11 dX9_setWindow_14 dX9_setWindow_15 dX9_setWindow_17 dX9_setWindow_20 (fun x hx9 => (htab x hx9).elim) (Nat.le_of_ble_eq_true rfl) (Nat.le_of_ble_eq_true rfl) (Nat.le_of_ble_eq_true rfl) (Nat.le_of_ble_eq_true rfl) hlocks (wk_xc hP hD hK hS h) hS.2.2 (Nat.le_of_ble_eq_true rfl) (Nat.le_of_ble_eq_true rfl)
-- X9_setLengths
theorem qX9_setLengths_0 : Cond.classLink RX9 69 "java/lang/IllegalArgumentException" ∈ wsX9_setLengths := (List.mem_cons_of_mem _ (List.mem_append_left _ (List.mem_append_left _ (List.mem_append_left _ (List.mem_append_left _ (List.mem_of_getElem? (i := 0) rfl))))))
theorem qX9_setLengths_1 : Cond.initialized "java/lang/IllegalArgumentException" ∈ wsX9_setLengths := (List.mem_cons_of_mem _ (List.mem_append_left _ (List.mem_append_left _ (List.mem_append_left _ (List.mem_append_left _ (List.mem_of_getElem? (i := 1) rfl))))))
theorem qX9_setLengths_2 : Cond.fieldLink RX9 19 "MatchCoder" "settings" "LMatchCoder$Settings;" ∈ wsX9_setLengths := (List.mem_cons_of_mem _ (List.mem_append_left _ (List.mem_append_left _ (List.mem_append_left _ (List.mem_append_left _ (List.mem_of_getElem? (i := 2) rfl))))))
theorem qX9_setLengths_3 : Cond.fieldLink RX9 125 "MatchCoder$Settings" "least" "I" ∈ wsX9_setLengths := (List.mem_cons_of_mem _ (List.mem_append_left _ (List.mem_append_left _ (List.mem_append_left _ (List.mem_append_left _ (List.mem_of_getElem? (i := 3) rfl))))))
theorem qX9_setLengths_4 : Cond.fieldLink RX9 128 "MatchCoder$Settings" "greatest" "I" ∈ wsX9_setLengths := (List.mem_cons_of_mem _ (List.mem_append_left _ (List.mem_append_left _ (List.mem_append_left _ (List.mem_append_left _ (List.mem_of_getElem? (i := 4) rfl))))))
theorem qX9_setLengths_5 : Cond.fieldLink RX9 51 "MatchCoder" "plan" "LMatchCoder$Plan;" ∈ wsX9_setLengths := (List.mem_cons_of_mem _ (List.mem_append_left _ (List.mem_append_left _ (List.mem_append_left _ (List.mem_append_left _ (List.mem_of_getElem? (i := 5) rfl))))))
theorem inX9_setLengths_xA : ∀ w ∈ (vx_atS RX9 73 "java/lang/IllegalArgumentException" ["java/lang/RuntimeException", "java/lang/Exception"]).filter goodWord, w ∈ wsX9_setLengths := fun _ h => List.mem_cons_of_mem _ (List.mem_append_right _ h)
theorem inX9_setLengths_wsX90 : ∀ w ∈ wsX90, w ∈ wsX9_setLengths := fun _ h => List.mem_cons_of_mem _ (List.mem_append_left _ (List.mem_append_left _ (List.mem_append_left _ (List.mem_append_right _ h))))
theorem inX9_setLengths_wsX70 : ∀ w ∈ wsX70, w ∈ wsX9_setLengths := fun _ h => List.mem_cons_of_mem _ (List.mem_append_left _ (List.mem_append_left _ (List.mem_append_right _ h)))
def wpX9_setLengths_74 (v1 : Int32) (v2 : Int32) (k0 : Int32) (post : Int32 → Int32 → Int32 → Int32 → Int32 → Prop) (px : String → Prop) : Prop := wpX4_forget  (fun (pn_7 : Int32) (pch_8 : Int32) => nb9 k0 ∧ post k0 v1 v2 pn_7 pch_8)
set_option maxHeartbeats 4000000 in
set_option maxRecDepth 100000 in
theorem wjX9_setLengths_74 {p : Program} {l : Launch} {e : Env} {s : State} {m : MethodId} {args : Array Value} {below : List Frame} {meth : Method} {c : Code} {A : Nat → Prop} {Q : State → Prop} {dC : Nat → ClassId} {dI : Nat → Nat → Nat} {cyI : ClassId} {aX aT aS aF aQ aW aP aPk aPl aPd aPs aB aR : Nat} {v1 : Int32} {v2 : Int32} {k0 : Int32} {sw : Int32} {sl : Int32} {sg : Int32} {sp : Int32} {pn : Int32} {pch : Int32} {post : Int32 → Int32 → Int32 → Int32 → Int32 → Prop} {px : String → Prop} (C0 : CallFix p m c cX9_setLengths 4 s args wsX9_setLengths RX9) (hA : ∀ q : Nat, s.heap.size ≤ q → A q) (hK : va_K (dC, dI) vwCl [(cyI, .int)] s) (h : wpX9_setLengths_74 v1 v2 k0 post px) (H : Heap) (locs : List Loc) (ls : Array Slot) (hP : va_P (dC, dI) vwCl [(aX, .inr (8, [.ref aT, .ref aS, .ref aF, .ref aQ, .ref aW, .ref aP, .ref aB, .ref aR])), (aS, .inr (6, [.int sw, .int sl, .int sg, .int sp])), (aP, .inr (3, [.ref aPk, .ref aPl, .ref aPd, .ref aPs, .int pn, .int pch]))] H) (hD : va_D A [(aX, .inr (8, [.ref aT, .ref aS, .ref aF, .ref aQ, .ref aW, .ref aP, .ref aB, .ref aR])), (aS, .inr (6, [.int sw, .int sl, .int sg, .int sp])), (aP, .inr (3, [.ref aPk, .ref aPl, .ref aPd, .ref aPs, .int pn, .int pch]))]) (hS : va_S A s.heap H locs) (hl : lv_has ls 4 [(0, .ref aX), (1, .int v1), (2, .int v2)]) (hR99 : ∀ (r9 : Int32) (sl9 : Int32) (sg9 : Int32) (pn9 : Int32) (pch9 : Int32), nb9 r9 → post r9 sl9 sg9 pn9 pch9 → ∀ (H : Heap) (locs : List Loc) (ls : Array Slot), va_P (dC, dI) vwCl [(aX, .inr (8, [.ref aT, .ref aS, .ref aF, .ref aQ, .ref aW, .ref aP, .ref aB, .ref aR])), (aS, .inr (6, [.int sw, .int sl9, .int sg9, .int sp])), (aP, .inr (3, [.ref aPk, .ref aPl, .ref aPd, .ref aPs, .int pn9, .int pch9]))] H → va_D A [(aX, .inr (8, [.ref aT, .ref aS, .ref aF, .ref aQ, .ref aW, .ref aP, .ref aB, .ref aR])), (aS, .inr (6, [.int sw, .int sl9, .int sg9, .int sp])), (aP, .inr (3, [.ref aPk, .ref aPl, .ref aPd, .ref aPs, .int pn9, .int pch9]))] → va_S A s.heap H locs → W p l e ({ frames := 6, cells := 1, slots := 6, locals := 82 } : Room) s m args below meth c H locs 0 0 Q (F0 m 99 ls [.int r9])) : W p l e ({ frames := 6, cells := 1, slots := 6, locals := 82 } : Room) s m args below meth c H locs 0 0 Q (F0 m 74 ls [.int k0]) := by
  obtain ⟨hx, hb, hml, hown, hts⟩ := id C0
  unfold wpX9_setLengths_74 at h
  refine lv_istore_n (lv' := [(3, .int k0), (0, .ref aX), (1, .int v1), (2, .int v2)]) hx hb dX9_setLengths_74 rfl hl (by decide) rfl (fun ls hl => ?_)
  refine lv_aload_n hx hb dX9_setLengths_75 rfl (lv_at hl 1 rfl) ?_
  refine va_get (D := (dC, dI)) (ci := 8) (v := .ref aS) (C := RX9) (T := TX9) (N := 8) hx hb hts inX9_setLengths_wsX90 hown hK hP 0 rfl rfl 1 (by decide) (hts _ qX9_setLengths_2) (fun _ h9 => h9) rfl dX9_setLengths_76 ?_
  refine lv_iload_n hx hb dX9_setLengths_79 rfl (lv_at hl 2 rfl) ?_
  refine va_put (D := (dC, dI)) (ci := 6) (v := .int v1) (ty := .int) (C := RX7) (T := TX7) (N := 4) hx hb hts inX9_setLengths_wsX70 tyX7 tyX7_ok nmX7 hown hK hP hD hS 1 rfl rfl 1 (by decide) (hts _ qX9_setLengths_3) (fun _ h9 => h9) rfl (by decide +kernel) rfl rfl (Nat.le_of_ble_eq_true rfl) dX9_setLengths_80 (fun H locs hP hD hS => ?_)
  have hP : va_P (dC, dI) vwCl [(aX, .inr (8, [.ref aT, .ref aS, .ref aF, .ref aQ, .ref aW, .ref aP, .ref aB, .ref aR])), (aS, .inr (6, [.int sw, .int v1, .int sg, .int sp])), (aP, .inr (3, [.ref aPk, .ref aPl, .ref aPd, .ref aPs, .int pn, .int pch]))] H := hP
  have hD : va_D A [(aX, .inr (8, [.ref aT, .ref aS, .ref aF, .ref aQ, .ref aW, .ref aP, .ref aB, .ref aR])), (aS, .inr (6, [.int sw, .int v1, .int sg, .int sp])), (aP, .inr (3, [.ref aPk, .ref aPl, .ref aPd, .ref aPs, .int pn, .int pch]))] := hD
  refine lv_aload_n hx hb dX9_setLengths_83 rfl (lv_at hl 1 rfl) ?_
  refine va_get (D := (dC, dI)) (ci := 8) (v := .ref aS) (C := RX9) (T := TX9) (N := 8) hx hb hts inX9_setLengths_wsX90 hown hK hP 0 rfl rfl 1 (by decide) (hts _ qX9_setLengths_2) (fun _ h9 => h9) rfl dX9_setLengths_84 ?_
  refine lv_iload_n hx hb dX9_setLengths_87 rfl (lv_at hl 3 rfl) ?_
  refine va_put (D := (dC, dI)) (ci := 6) (v := .int v2) (ty := .int) (C := RX7) (T := TX7) (N := 4) hx hb hts inX9_setLengths_wsX70 tyX7 tyX7_ok nmX7 hown hK hP hD hS 1 rfl rfl 2 (by decide) (hts _ qX9_setLengths_4) (fun _ h9 => h9) rfl (by decide +kernel) rfl rfl (Nat.le_of_ble_eq_true rfl) dX9_setLengths_88 (fun H locs hP hD hS => ?_)
  have hP : va_P (dC, dI) vwCl [(aX, .inr (8, [.ref aT, .ref aS, .ref aF, .ref aQ, .ref aW, .ref aP, .ref aB, .ref aR])), (aS, .inr (6, [.int sw, .int v1, .int v2, .int sp])), (aP, .inr (3, [.ref aPk, .ref aPl, .ref aPd, .ref aPs, .int pn, .int pch]))] H := hP
  have hD : va_D A [(aX, .inr (8, [.ref aT, .ref aS, .ref aF, .ref aQ, .ref aW, .ref aP, .ref aB, .ref aR])), (aS, .inr (6, [.int sw, .int v1, .int v2, .int sp])), (aP, .inr (3, [.ref aPk, .ref aPl, .ref aPd, .ref aPs, .int pn, .int pch]))] := hD
  refine lv_aload_n hx hb dX9_setLengths_91 rfl (lv_at hl 1 rfl) ?_
  refine va_get (D := (dC, dI)) (ci := 8) (v := .ref aP) (C := RX9) (T := TX9) (N := 8) hx hb hts inX9_setLengths_wsX90 hown hK hP 0 rfl rfl 5 (by decide) (hts _ qX9_setLengths_5) (fun _ h9 => h9) rfl dX9_setLengths_92 ?_
  refine wk_callv (wc := [(aP, .inr (3, [.ref aPk, .ref aPl, .ref aPd, .ref aPs, .int pn, .int pch]))]) (wr := [(aX, .inr (8, [.ref aT, .ref aS, .ref aF, .ref aQ, .ref aW, .ref aP, .ref aB, .ref aR])), (aS, .inr (6, [.int sw, .int v1, .int v2, .int sp]))]) (va_runV (As := []) (rest := []) C0 (mtX4_forget l dC dI cyI (aP := aP) (aPk := aPk) (aPl := aPl) (aPd := aPd) (aPs := aPs) (sz := _) (pn := pn) (pch := pch) h) (cwV 0 hts gX9_setLengths_X4_forget rfl rfl rfl (by decide +kernel) ⟨(Nat.le_of_ble_eq_true rfl), (Nat.le_of_ble_eq_true rfl)⟩) (wk_preV (wc := [(aP, .inr (3, [.ref aPk, .ref aPl, .ref aPd, .ref aPs, .int pn, .int pch]))]) hK hP hD [2] rfl (by decide) (va_recv hK hP (ci := 3) (q0 := 2) rfl rfl)) rfl rfl hl.1 rfl (lv_room (Nat.le_of_ble_eq_true rfl)) dX9_setLengths_95 ⟨(Nat.le_of_ble_eq_true rfl), (Nat.le_of_ble_eq_true rfl)⟩) hP hD hS hA [2] [0, 1] rfl rfl (by decide) (by decide) (fun u9 H locs h hP hD hS => ?_)
  obtain ⟨pn_7, pch_8⟩ := u9
  have hP : va_P (dC, dI) vwCl [(aX, .inr (8, [.ref aT, .ref aS, .ref aF, .ref aQ, .ref aW, .ref aP, .ref aB, .ref aR])), (aS, .inr (6, [.int sw, .int v1, .int v2, .int sp])), (aP, .inr (3, [.ref aPk, .ref aPl, .ref aPd, .ref aPs, .int pn_7, .int pch_8]))] H := hP
  have hD : va_D A [(aX, .inr (8, [.ref aT, .ref aS, .ref aF, .ref aQ, .ref aW, .ref aP, .ref aB, .ref aR])), (aS, .inr (6, [.int sw, .int v1, .int v2, .int sp])), (aP, .inr (3, [.ref aPk, .ref aPl, .ref aPd, .ref aPs, .int pn_7, .int pch_8]))] := hD
  dsimp only at h
  refine lv_iload_n hx hb dX9_setLengths_98 rfl (lv_at hl 0 rfl) ?_
  obtain ⟨hn9, h⟩ := h
  exact hR99 _ _ _ _ _ hn9 h _ _ _ hP hD hS
def wpX9_setLengths (sl : Int32) (sg : Int32) (v1 : Int32) (v2 : Int32) (post : Int32 → Int32 → Int32 → Int32 → Int32 → Prop) (px : String → Prop) : Prop := (v1 < 2 → (px xA)) ∧ (¬ v1 < 2 → ((v1 ≤ 6 → ((v2 < 2 → (px xA)) ∧ (¬ v2 < 2 → ((64 < v2 → (px xA)) ∧ (¬ 64 < v2 → ((v1 ≤ v2 → ((v1 = sl → ((v2 = sg → (wpX9_setLengths_74 v1 v2 0 post px)) ∧ (¬ v2 = sg → (wpX9_setLengths_74 v1 v2 1 post px)))) ∧ (¬ v1 = sl → (wpX9_setLengths_74 v1 v2 1 post px)))) ∧ (¬ v1 ≤ v2 → (px xA)))))))) ∧ (¬ v1 ≤ 6 → (px xA))))
set_option maxHeartbeats 4000000 in
set_option maxRecDepth 100000 in
theorem mtX9_setLengths (l : Launch) (hlt : l.stackTraces = false) (dC : Nat → ClassId) (dI : Nat → Nat → Nat) (cyI : ClassId) {aX aT aS aF aQ aW aP aPk aPl aPd aPs aB aR : Nat} {sz : Nat} {sw : Int32} {sl : Int32} {sg : Int32} {sp : Int32} {pn : Int32} {pch : Int32} {v1 : Int32} {v2 : Int32} {post : Int32 → Int32 → Int32 → Int32 → Int32 → Prop} {px : String → Prop} (h : wpX9_setLengths sl sg v1 v2 post px) : vx_Met l yX9_setLengths wsX9_setLengths ({ frames := 6, cells := 1, slots := 6, locals := 82 }) (va_Pc [.ref aX, .int v1, .int v2] (wk_BX (dC, dI) [(cyI, .int)] [(aX, .inr (8, [.ref aT, .ref aS, .ref aF, .ref aQ, .ref aW, .ref aP, .ref aB, .ref aR])), (aS, .inr (6, [.int sw, .int sl, .int sg, .int sp])), (aP, .inr (3, [.ref aPk, .ref aPl, .ref aPd, .ref aPs, .int pn, .int pch]))] sz)) (va_Qi (fun (r : Int32) (u : Int32 × Int32 × Int32 × Int32) => post r u.1 u.2.1 u.2.2.1 u.2.2.2) (wk_C (dC, dI) [(cyI, .int)] (va_A [(aX, .inr (8, [.ref aT, .ref aS, .ref aF, .ref aQ, .ref aW, .ref aP, .ref aB, .ref aR])), (aS, .inr (6, [.int sw, .int sl, .int sg, .int sp])), (aP, .inr (3, [.ref aPk, .ref aPl, .ref aPd, .ref aPs, .int pn, .int pch]))] sz) (fun (u : Int32 × Int32 × Int32 × Int32) => [(aX, .inr (8, [.ref aT, .ref aS, .ref aF, .ref aQ, .ref aW, .ref aP, .ref aB, .ref aR])), (aS, .inr (6, [.int sw, .int (u.1), .int (u.2.1), .int sp])), (aP, .inr (3, [.ref aPk, .ref aPl, .ref aPd, .ref aPs, .int (u.2.2.1), .int (u.2.2.2)]))])) (va_A [(aX, .inr (8, [.ref aT, .ref aS, .ref aF, .ref aQ, .ref aW, .ref aP, .ref aB, .ref aR])), (aS, .inr (6, [.int sw, .int sl, .int sg, .int sp])), (aP, .inr (3, [.ref aPk, .ref aPl, .ref aPd, .ref aPs, .int pn, .int pch]))] sz)) (vx_X px (wk_X (dC, dI) [(cyI, .int)] (va_A [(aX, .inr (8, [.ref aT, .ref aS, .ref aF, .ref aQ, .ref aW, .ref aP, .ref aB, .ref aR])), (aS, .inr (6, [.int sw, .int sl, .int sg, .int sp])), (aP, .inr (3, [.ref aPk, .ref aPl, .ref aPd, .ref aPs, .int pn, .int pch]))] sz) [(aX, .inr (8, [.ref aT, .ref aS, .ref aF, .ref aQ, .ref aW, .ref aP, .ref aB, .ref aR])), (aS, .inr (6, [.int sw, .int sl, .int sg, .int sp])), (aP, .inr (3, [.ref aPk, .ref aPl, .ref aPd, .ref aPs, .int pn, .int pch]))]) (va_A [(aX, .inr (8, [.ref aT, .ref aS, .ref aF, .ref aQ, .ref aW, .ref aP, .ref aB, .ref aR])), (aS, .inr (6, [.int sw, .int sl, .int sg, .int sp])), (aP, .inr (3, [.ref aPk, .ref aPl, .ref aPd, .ref aPs, .int pn, .int pch]))] sz)) 1 6 (va_A [(aX, .inr (8, [.ref aT, .ref aS, .ref aF, .ref aQ, .ref aW, .ref aP, .ref aB, .ref aR])), (aS, .inr (6, [.int sw, .int sl, .int sg, .int sp])), (aP, .inr (3, [.ref aPk, .ref aPl, .ref aPd, .ref aPs, .int pn, .int pch]))] sz) := by
  refine vx_ofW (cc := cX9_setLengths) (maxL := 4) (ret := (some .boolean)) (by decide) rfl ?_
  intro p e s m args below meth c s₁ B hml htab hv
  obtain ⟨rfl, ⟨hsz, hP, hK, hD0⟩, hZ⟩ := hv
  have hx := B.exec
  have hb := B.bytes
  have hr := B.returns
  have hts := atoms_spec (ws := wsX9_setLengths) B.pre
  have hown : s.vm.findClass RX9 = some m.cls := findClass_of_methodNamed B.named
  have hlocks := B.notSynchronized
  subst hsz
  have hD := hD0.self (sz := s.heap.size)
  generalize hAe : va_A [(aX, .inr (8, [.ref aT, .ref aS, .ref aF, .ref aQ, .ref aW, .ref aP, .ref aB, .ref aR])), (aS, .inr (6, [.int sw, .int sl, .int sg, .int sp])), (aP, .inr (3, [.ref aPk, .ref aPl, .ref aPd, .ref aPs, .int pn, .int pch]))] s.heap.size = A at hD hZ ⊢
  have hA : ∀ q : Nat, s.heap.size ≤ q → A q := fun q h => by rw [← hAe]; exact Or.inr h
  have hS : va_S A s.heap s.heap [] := va_S.rf
  have hP : va_P (dC, dI) vwCl [(aX, .inr (8, [.ref aT, .ref aS, .ref aF, .ref aQ, .ref aW, .ref aP, .ref aB, .ref aR])), (aS, .inr (6, [.int sw, .int sl, .int sg, .int sp])), (aP, .inr (3, [.ref aPk, .ref aPl, .ref aPd, .ref aPs, .int pn, .int pch]))] s.heap := hP
  have hl := lv_entry ([.ref aX, .int v1, .int v2]) (n := 4) (Nat.le_of_ble_eq_true rfl)
  rw [lg_entry_eq]
  generalize (lg_sl ([.ref aX, .int v1, .int v2]) ++ List.replicate (4 - (lg_sl ([.ref aX, .int v1, .int v2])).length) Slot.unset).toArray = ls at hl ⊢
  have hl : lv_has ls 4 [(0, .ref aX), (1, .int v1), (2, .int v2)] := hl
  have C0 : CallFix p m c cX9_setLengths 4 s ([.ref aX, .int v1, .int v2] : List Value).toArray wsX9_setLengths RX9 := ⟨hx, hb, hml, hown, hts⟩
  unfold wpX9_setLengths at h
  refine lv_iload_n hx hb dX9_setLengths_0 rfl (lv_at hl 1 rfl) ?_
  refine lv_iconst (v := 2) hx hb dX9_setLengths_1 (by decide) ?_
  refine lv_icmp_lt (tgt := 11) hx hb dX9_setLengths_2 (by decide) (fun c_1 => ?_) (fun c_1 => ?_)
  · replace h := h.1 c_1
    obtain ⟨sa9, hstr⟩ := hZ.1 _ (List.mem_of_getElem? (i := 7) rfl)
    exact vx_throwS hx hb hlt hown xA_fit xN_fit (hts _ qX9_setLengths_0) (hts _ qX9_setLengths_1) hstr (vx_hat (fun w hw => hts w (inX9_setLengths_xA w hw)) xA_no (hZ.use _)) xA_ot hZ.2.1 hZ.2.2.1 hS (hl.1.trans hml.symm) dX9_setLengths_11 dX9_setLengths_14 dX9_setLengths_15 dX9_setLengths_17 dX9_setLengths_20 (fun x hx9 => (htab x hx9).elim) (Nat.le_of_ble_eq_true rfl) (Nat.le_of_ble_eq_true rfl) (Nat.le_of_ble_eq_true rfl) (Nat.le_of_ble_eq_true rfl) hlocks (wk_xc hP hD hK hS h) hS.2.2 (Nat.le_of_ble_eq_true rfl) (Nat.le_of_ble_eq_true rfl)
  · replace h := h.2 c_1
    refine lv_iload_n hx hb dX9_setLengths_5 rfl (lv_at hl 1 rfl) ?_
    refine lv_bipush (v := 6) hx hb dX9_setLengths_6 (by decide) ?_
    refine lv_icmp_le (tgt := 21) hx hb dX9_setLengths_8 (by decide) (fun c_2 => ?_) (fun c_2 => ?_)
    · replace h := h.1 c_2
      refine lv_iload_n hx hb dX9_setLengths_21 rfl (lv_at hl 2 rfl) ?_
      refine lv_iconst (v := 2) hx hb dX9_setLengths_22 (by decide) ?_
      refine lv_icmp_lt (tgt := 37) hx hb dX9_setLengths_23 (by decide) (fun c_3 => ?_) (fun c_3 => ?_)
      · replace h := h.1 c_3
        obtain ⟨sa9, hstr⟩ := hZ.1 _ (List.mem_of_getElem? (i := 8) rfl)
        exact vx_throwS hx hb hlt hown xA_fit xN_fit (hts _ qX9_setLengths_0) (hts _ qX9_setLengths_1) hstr (vx_hat (fun w hw => hts w (inX9_setLengths_xA w hw)) xA_no (hZ.use _)) xA_ot hZ.2.1 hZ.2.2.1 hS (hl.1.trans hml.symm) dX9_setLengths_37 dX9_setLengths_40 dX9_setLengths_41 dX9_setLengths_43 dX9_setLengths_46 (fun x hx9 => (htab x hx9).elim) (Nat.le_of_ble_eq_true rfl) (Nat.le_of_ble_eq_true rfl) (Nat.le_of_ble_eq_true rfl) (Nat.le_of_ble_eq_true rfl) hlocks (wk_xc hP hD hK hS h) hS.2.2 (Nat.le_of_ble_eq_true rfl) (Nat.le_of_ble_eq_true rfl)
      · replace h := h.2 c_3
        refine lv_iload_n hx hb dX9_setLengths_26 rfl (lv_at hl 2 rfl) ?_
        refine lv_bipush (v := 64) hx hb dX9_setLengths_27 (by decide) ?_
        refine lv_icmp_gt (tgt := 37) hx hb dX9_setLengths_29 (by decide) (fun c_4 => ?_) (fun c_4 => ?_)
        · replace h := h.1 c_4
          obtain ⟨sa9, hstr⟩ := hZ.1 _ (List.mem_of_getElem? (i := 8) rfl)
          exact vx_throwS hx hb hlt hown xA_fit xN_fit (hts _ qX9_setLengths_0) (hts _ qX9_setLengths_1) hstr (vx_hat (fun w hw => hts w (inX9_setLengths_xA w hw)) xA_no (hZ.use _)) xA_ot hZ.2.1 hZ.2.2.1 hS (hl.1.trans hml.symm) dX9_setLengths_37 dX9_setLengths_40 dX9_setLengths_41 dX9_setLengths_43 dX9_setLengths_46 (fun x hx9 => (htab x hx9).elim) (Nat.le_of_ble_eq_true rfl) (Nat.le_of_ble_eq_true rfl) (Nat.le_of_ble_eq_true rfl) (Nat.le_of_ble_eq_true rfl) hlocks (wk_xc hP hD hK hS h) hS.2.2 (Nat.le_of_ble_eq_true rfl) (Nat.le_of_ble_eq_true rfl)
        · replace h := h.2 c_4
          refine lv_iload_n hx hb dX9_setLengths_32 rfl (lv_at hl 2 rfl) ?_
          refine lv_iload_n hx hb dX9_setLengths_33 rfl (lv_at hl 1 rfl) ?_
          refine lv_icmp_ge (tgt := 47) hx hb dX9_setLengths_34 (by decide) (fun c_5 => ?_) (fun c_5 => ?_)
          · replace h := h.1 c_5
            refine lv_iload_n hx hb dX9_setLengths_47 rfl (lv_at hl 1 rfl) ?_
            refine lv_aload_n hx hb dX9_setLengths_48 rfl (lv_at hl 0 rfl) ?_
            refine va_get (D := (dC, dI)) (ci := 8) (v := .ref aS) (C := RX9) (T := TX9) (N := 8) hx hb hts inX9_setLengths_wsX90 hown hK hP 0 rfl rfl 1 (by decide) (hts _ qX9_setLengths_2) (fun _ h9 => h9) rfl dX9_setLengths_49 ?_
            refine va_get (D := (dC, dI)) (ci := 6) (v := .int sl) (C := RX7) (T := TX7) (N := 4) hx hb hts inX9_setLengths_wsX70 hown hK hP 1 rfl rfl 1 (by decide) (hts _ qX9_setLengths_3) (fun _ h9 => h9) rfl dX9_setLengths_52 ?_
            refine lv_icmp_ne (tgt := 69) hx hb dX9_setLengths_55 (by decide) (fun c_6 => ?_) (fun c_6 => ?_)
            · replace h := h.2 c_6
              refine lv_iconst (v := 1) hx hb dX9_setLengths_69 (by decide) ?_
              refine lv_goto (tgt := 74) hx hb dX9_setLengths_70 (by decide) ?_
              refine wjX9_setLengths_74 C0 hA hK h _ _ _ hP hD hS (lv_sub hl [0, 1, 2] rfl) ?_
              · intro r_9 sl_10 sg_11 pn_12 pch_13 hn9 h H locs ls hP hD hS
                have hP9 : va_P (dC, dI) vwCl [(aX, .inr (8, [.ref aT, .ref aS, .ref aF, .ref aQ, .ref aW, .ref aP, .ref aB, .ref aR])), (aS, .inr (6, [.int sw, .int sl_10, .int sg_11, .int sp])), (aP, .inr (3, [.ref aPk, .ref aPl, .ref aPd, .ref aPs, .int pn_12, .int pch_13]))] _ := hP
                have hD9 : va_D A [(aX, .inr (8, [.ref aT, .ref aS, .ref aF, .ref aQ, .ref aW, .ref aP, .ref aB, .ref aR])), (aS, .inr (6, [.int sw, .int sl_10, .int sg_11, .int sp])), (aP, .inr (3, [.ref aPk, .ref aPl, .ref aPd, .ref aPs, .int pn_12, .int pch_13]))] := hD
                refine vx_ret ?_
                refine W.widen (k := 1) (n := 6) (Nat.le_of_ble_eq_true rfl) (Nat.le_of_ble_eq_true rfl) ?_
                exact W.zret (v := r_9) hx hb hr hn9 (fun t ht hW => ⟨⟨r_9, (sl_10, sg_11, pn_12, pch_13), rfl, h, by rw [ht]; exact hP9, va_K.moved hW.alike hK, hD9⟩, hS.F ht⟩) hS.2.2 dX9_setLengths_99
            · replace h := h.1 c_6
              refine lv_iload_n hx hb dX9_setLengths_58 rfl (lv_at hl 2 rfl) ?_
              refine lv_aload_n hx hb dX9_setLengths_59 rfl (lv_at hl 0 rfl) ?_
              refine va_get (D := (dC, dI)) (ci := 8) (v := .ref aS) (C := RX9) (T := TX9) (N := 8) hx hb hts inX9_setLengths_wsX90 hown hK hP 0 rfl rfl 1 (by decide) (hts _ qX9_setLengths_2) (fun _ h9 => h9) rfl dX9_setLengths_60 ?_
              refine va_get (D := (dC, dI)) (ci := 6) (v := .int sg) (C := RX7) (T := TX7) (N := 4) hx hb hts inX9_setLengths_wsX70 hown hK hP 1 rfl rfl 2 (by decide) (hts _ qX9_setLengths_4) (fun _ h9 => h9) rfl dX9_setLengths_63 ?_
              refine lv_icmp_eq (tgt := 73) hx hb dX9_setLengths_66 (by decide) (fun c_14 => ?_) (fun c_14 => ?_)
              · replace h := h.1 c_14
                refine lv_iconst (v := 0) hx hb dX9_setLengths_73 (by decide) ?_
                refine wjX9_setLengths_74 C0 hA hK h _ _ _ hP hD hS (lv_sub hl [0, 1, 2] rfl) ?_
                · intro r_15 sl_16 sg_17 pn_18 pch_19 hn9 h H locs ls hP hD hS
                  have hP9 : va_P (dC, dI) vwCl [(aX, .inr (8, [.ref aT, .ref aS, .ref aF, .ref aQ, .ref aW, .ref aP, .ref aB, .ref aR])), (aS, .inr (6, [.int sw, .int sl_16, .int sg_17, .int sp])), (aP, .inr (3, [.ref aPk, .ref aPl, .ref aPd, .ref aPs, .int pn_18, .int pch_19]))] _ := hP
                  have hD9 : va_D A [(aX, .inr (8, [.ref aT, .ref aS, .ref aF, .ref aQ, .ref aW, .ref aP, .ref aB, .ref aR])), (aS, .inr (6, [.int sw, .int sl_16, .int sg_17, .int sp])), (aP, .inr (3, [.ref aPk, .ref aPl, .ref aPd, .ref aPs, .int pn_18, .int pch_19]))] := hD
                  refine vx_ret ?_
                  refine W.widen (k := 1) (n := 6) (Nat.le_of_ble_eq_true rfl) (Nat.le_of_ble_eq_true rfl) ?_
                  exact W.zret (v := r_15) hx hb hr hn9 (fun t ht hW => ⟨⟨r_15, (sl_16, sg_17, pn_18, pch_19), rfl, h, by rw [ht]; exact hP9, va_K.moved hW.alike hK, hD9⟩, hS.F ht⟩) hS.2.2 dX9_setLengths_99
              · replace h := h.2 c_14
                refine lv_iconst (v := 1) hx hb dX9_setLengths_69 (by decide) ?_
                refine lv_goto (tgt := 74) hx hb dX9_setLengths_70 (by decide) ?_
                refine wjX9_setLengths_74 C0 hA hK h _ _ _ hP hD hS (lv_sub hl [0, 1, 2] rfl) ?_
                · intro r_20 sl_21 sg_22 pn_23 pch_24 hn9 h H locs ls hP hD hS
                  have hP9 : va_P (dC, dI) vwCl [(aX, .inr (8, [.ref aT, .ref aS, .ref aF, .ref aQ, .ref aW, .ref aP, .ref aB, .ref aR])), (aS, .inr (6, [.int sw, .int sl_21, .int sg_22, .int sp])), (aP, .inr (3, [.ref aPk, .ref aPl, .ref aPd, .ref aPs, .int pn_23, .int pch_24]))] _ := hP
                  have hD9 : va_D A [(aX, .inr (8, [.ref aT, .ref aS, .ref aF, .ref aQ, .ref aW, .ref aP, .ref aB, .ref aR])), (aS, .inr (6, [.int sw, .int sl_21, .int sg_22, .int sp])), (aP, .inr (3, [.ref aPk, .ref aPl, .ref aPd, .ref aPs, .int pn_23, .int pch_24]))] := hD
                  refine vx_ret ?_
                  refine W.widen (k := 1) (n := 6) (Nat.le_of_ble_eq_true rfl) (Nat.le_of_ble_eq_true rfl) ?_
                  exact W.zret (v := r_20) hx hb hr hn9 (fun t ht hW => ⟨⟨r_20, (sl_21, sg_22, pn_23, pch_24), rfl, h, by rw [ht]; exact hP9, va_K.moved hW.alike hK, hD9⟩, hS.F ht⟩) hS.2.2 dX9_setLengths_99
          · replace h := h.2 c_5
            obtain ⟨sa9, hstr⟩ := hZ.1 _ (List.mem_of_getElem? (i := 8) rfl)
            exact vx_throwS hx hb hlt hown xA_fit xN_fit (hts _ qX9_setLengths_0) (hts _ qX9_setLengths_1) hstr (vx_hat (fun w hw => hts w (inX9_setLengths_xA w hw)) xA_no (hZ.use _)) xA_ot hZ.2.1 hZ.2.2.1 hS (hl.1.trans hml.symm) dX9_setLengths_37 dX9_setLengths_40 dX9_setLengths_41 dX9_setLengths_43 dX9_setLengths_46 (fun x hx9 => (htab x hx9).elim) (Nat.le_of_ble_eq_true rfl) (Nat.le_of_ble_eq_true rfl) (Nat.le_of_ble_eq_true rfl) (Nat.le_of_ble_eq_true rfl) hlocks (wk_xc hP hD hK hS h) hS.2.2 (Nat.le_of_ble_eq_true rfl) (Nat.le_of_ble_eq_true rfl)
    · replace h := h.2 c_2
      obtain ⟨sa9, hstr⟩ := hZ.1 _ (List.mem_of_getElem? (i := 7) rfl)
      exact vx_throwS hx hb hlt hown xA_fit xN_fit (hts _ qX9_setLengths_0) (hts _ qX9_setLengths_1) hstr (vx_hat (fun w hw => hts w (inX9_setLengths_xA w hw)) xA_no (hZ.use _)) xA_ot hZ.2.1 hZ.2.2.1 hS (hl.1.trans hml.symm) dX9_setLengths_11 dX9_setLengths_14 dX9_setLengths_15 dX9_setLengths_17 dX9_setLengths_20 (fun x hx9 => (htab x hx9).elim) (Nat.le_of_ble_eq_true rfl) (Nat.le_of_ble_eq_true rfl) (Nat.le_of_ble_eq_true rfl) (Nat.le_of_ble_eq_true rfl) hlocks (wk_xc hP hD hK hS h) hS.2.2 (Nat.le_of_ble_eq_true rfl) (Nat.le_of_ble_eq_true rfl)
-- X9_setPrice
theorem qX9_setPrice_0 : Cond.classLink RX9 69 "java/lang/IllegalArgumentException" ∈ wsX9_setPrice := (List.mem_cons_of_mem _ (List.mem_append_left _ (List.mem_append_left _ (List.mem_append_left _ (List.mem_append_left _ (List.mem_of_getElem? (i := 0) rfl))))))
theorem qX9_setPrice_1 : Cond.initialized "java/lang/IllegalArgumentException" ∈ wsX9_setPrice := (List.mem_cons_of_mem _ (List.mem_append_left _ (List.mem_append_left _ (List.mem_append_left _ (List.mem_append_left _ (List.mem_of_getElem? (i := 1) rfl))))))
theorem qX9_setPrice_2 : Cond.fieldLink RX9 19 "MatchCoder" "settings" "LMatchCoder$Settings;" ∈ wsX9_setPrice := (List.mem_cons_of_mem _ (List.mem_append_left _ (List.mem_append_left _ (List.mem_append_left _ (List.mem_append_left _ (List.mem_of_getElem? (i := 2) rfl))))))
theorem qX9_setPrice_3 : Cond.fieldLink RX9 133 "MatchCoder$Settings" "price" "I" ∈ wsX9_setPrice := (List.mem_cons_of_mem _ (List.mem_append_left _ (List.mem_append_left _ (List.mem_append_left _ (List.mem_append_left _ (List.mem_of_getElem? (i := 3) rfl))))))
theorem qX9_setPrice_4 : Cond.fieldLink RX9 51 "MatchCoder" "plan" "LMatchCoder$Plan;" ∈ wsX9_setPrice := (List.mem_cons_of_mem _ (List.mem_append_left _ (List.mem_append_left _ (List.mem_append_left _ (List.mem_append_left _ (List.mem_of_getElem? (i := 4) rfl))))))
theorem inX9_setPrice_xA : ∀ w ∈ (vx_atS RX9 73 "java/lang/IllegalArgumentException" ["java/lang/RuntimeException", "java/lang/Exception"]).filter goodWord, w ∈ wsX9_setPrice := fun _ h => List.mem_cons_of_mem _ (List.mem_append_right _ h)
theorem inX9_setPrice_wsX90 : ∀ w ∈ wsX90, w ∈ wsX9_setPrice := fun _ h => List.mem_cons_of_mem _ (List.mem_append_left _ (List.mem_append_left _ (List.mem_append_left _ (List.mem_append_right _ h))))
theorem inX9_setPrice_wsX70 : ∀ w ∈ wsX70, w ∈ wsX9_setPrice := fun _ h => List.mem_cons_of_mem _ (List.mem_append_left _ (List.mem_append_left _ (List.mem_append_right _ h)))
def wpX9_setPrice (sp : Int32) (v1 : Int32) (post : Int32 → Int32 → Int32 → Int32 → Prop) (px : String → Prop) : Prop := (v1 < 0 → (px xA)) ∧ (¬ v1 < 0 → ((v1 ≤ 30 → (wpX4_forget (fun (pn_3 : Int32) (pch_4 : Int32) => post sp v1 pn_3 pch_4))) ∧ (¬ v1 ≤ 30 → (px xA))))
set_option maxHeartbeats 4000000 in
set_option maxRecDepth 100000 in
theorem mtX9_setPrice (l : Launch) (hlt : l.stackTraces = false) (dC : Nat → ClassId) (dI : Nat → Nat → Nat) (cyI : ClassId) {aX aT aS aF aQ aW aP aPk aPl aPd aPs aB aR : Nat} {sz : Nat} {sw : Int32} {sl : Int32} {sg : Int32} {sp : Int32} {pn : Int32} {pch : Int32} {v1 : Int32} {post : Int32 → Int32 → Int32 → Int32 → Prop} {px : String → Prop} (h : wpX9_setPrice sp v1 post px) : vx_Met l yX9_setPrice wsX9_setPrice ({ frames := 6, cells := 1, slots := 6, locals := 82 }) (va_Pc [.ref aX, .int v1] (wk_BX (dC, dI) [(cyI, .int)] [(aX, .inr (8, [.ref aT, .ref aS, .ref aF, .ref aQ, .ref aW, .ref aP, .ref aB, .ref aR])), (aS, .inr (6, [.int sw, .int sl, .int sg, .int sp])), (aP, .inr (3, [.ref aPk, .ref aPl, .ref aPd, .ref aPs, .int pn, .int pch]))] sz)) (va_Qi (fun (r : Int32) (u : Int32 × Int32 × Int32) => post r u.1 u.2.1 u.2.2) (wk_C (dC, dI) [(cyI, .int)] (va_A [(aX, .inr (8, [.ref aT, .ref aS, .ref aF, .ref aQ, .ref aW, .ref aP, .ref aB, .ref aR])), (aS, .inr (6, [.int sw, .int sl, .int sg, .int sp])), (aP, .inr (3, [.ref aPk, .ref aPl, .ref aPd, .ref aPs, .int pn, .int pch]))] sz) (fun (u : Int32 × Int32 × Int32) => [(aX, .inr (8, [.ref aT, .ref aS, .ref aF, .ref aQ, .ref aW, .ref aP, .ref aB, .ref aR])), (aS, .inr (6, [.int sw, .int sl, .int sg, .int (u.1)])), (aP, .inr (3, [.ref aPk, .ref aPl, .ref aPd, .ref aPs, .int (u.2.1), .int (u.2.2)]))])) (va_A [(aX, .inr (8, [.ref aT, .ref aS, .ref aF, .ref aQ, .ref aW, .ref aP, .ref aB, .ref aR])), (aS, .inr (6, [.int sw, .int sl, .int sg, .int sp])), (aP, .inr (3, [.ref aPk, .ref aPl, .ref aPd, .ref aPs, .int pn, .int pch]))] sz)) (vx_X px (wk_X (dC, dI) [(cyI, .int)] (va_A [(aX, .inr (8, [.ref aT, .ref aS, .ref aF, .ref aQ, .ref aW, .ref aP, .ref aB, .ref aR])), (aS, .inr (6, [.int sw, .int sl, .int sg, .int sp])), (aP, .inr (3, [.ref aPk, .ref aPl, .ref aPd, .ref aPs, .int pn, .int pch]))] sz) [(aX, .inr (8, [.ref aT, .ref aS, .ref aF, .ref aQ, .ref aW, .ref aP, .ref aB, .ref aR])), (aS, .inr (6, [.int sw, .int sl, .int sg, .int sp])), (aP, .inr (3, [.ref aPk, .ref aPl, .ref aPd, .ref aPs, .int pn, .int pch]))]) (va_A [(aX, .inr (8, [.ref aT, .ref aS, .ref aF, .ref aQ, .ref aW, .ref aP, .ref aB, .ref aR])), (aS, .inr (6, [.int sw, .int sl, .int sg, .int sp])), (aP, .inr (3, [.ref aPk, .ref aPl, .ref aPd, .ref aPs, .int pn, .int pch]))] sz)) 1 6 (va_A [(aX, .inr (8, [.ref aT, .ref aS, .ref aF, .ref aQ, .ref aW, .ref aP, .ref aB, .ref aR])), (aS, .inr (6, [.int sw, .int sl, .int sg, .int sp])), (aP, .inr (3, [.ref aPk, .ref aPl, .ref aPd, .ref aPs, .int pn, .int pch]))] sz) := by
  refine vx_ofW (cc := cX9_setPrice) (maxL := 3) (ret := (some .int)) (by decide) rfl ?_
  intro p e s m args below meth c s₁ B hml htab hv
  obtain ⟨rfl, ⟨hsz, hP, hK, hD0⟩, hZ⟩ := hv
  have hx := B.exec
  have hb := B.bytes
  have hr := B.returns
  have hts := atoms_spec (ws := wsX9_setPrice) B.pre
  have hown : s.vm.findClass RX9 = some m.cls := findClass_of_methodNamed B.named
  have hlocks := B.notSynchronized
  subst hsz
  have hD := hD0.self (sz := s.heap.size)
  generalize hAe : va_A [(aX, .inr (8, [.ref aT, .ref aS, .ref aF, .ref aQ, .ref aW, .ref aP, .ref aB, .ref aR])), (aS, .inr (6, [.int sw, .int sl, .int sg, .int sp])), (aP, .inr (3, [.ref aPk, .ref aPl, .ref aPd, .ref aPs, .int pn, .int pch]))] s.heap.size = A at hD hZ ⊢
  have hA : ∀ q : Nat, s.heap.size ≤ q → A q := fun q h => by rw [← hAe]; exact Or.inr h
  have hS : va_S A s.heap s.heap [] := va_S.rf
  have hP : va_P (dC, dI) vwCl [(aX, .inr (8, [.ref aT, .ref aS, .ref aF, .ref aQ, .ref aW, .ref aP, .ref aB, .ref aR])), (aS, .inr (6, [.int sw, .int sl, .int sg, .int sp])), (aP, .inr (3, [.ref aPk, .ref aPl, .ref aPd, .ref aPs, .int pn, .int pch]))] s.heap := hP
  have hl := lv_entry ([.ref aX, .int v1]) (n := 3) (Nat.le_of_ble_eq_true rfl)
  rw [lg_entry_eq]
  generalize (lg_sl ([.ref aX, .int v1]) ++ List.replicate (3 - (lg_sl ([.ref aX, .int v1])).length) Slot.unset).toArray = ls at hl ⊢
  have hl : lv_has ls 3 [(0, .ref aX), (1, .int v1)] := hl
  have C0 : CallFix p m c cX9_setPrice 3 s ([.ref aX, .int v1] : List Value).toArray wsX9_setPrice RX9 := ⟨hx, hb, hml, hown, hts⟩
  unfold wpX9_setPrice at h
  refine lv_iload_n hx hb dX9_setPrice_0 rfl (lv_at hl 1 rfl) ?_
  refine lv_if_lt (tgt := 10) hx hb dX9_setPrice_1 (by decide) (fun c_1 => ?_) (fun c_1 => ?_)
  · replace h := h.1 c_1
    obtain ⟨sa9, hstr⟩ := hZ.1 _ (List.mem_of_getElem? (i := 9) rfl)
    exact vx_throwS hx hb hlt hown xA_fit xN_fit (hts _ qX9_setPrice_0) (hts _ qX9_setPrice_1) hstr (vx_hat (fun w hw => hts w (inX9_setPrice_xA w hw)) xA_no (hZ.use _)) xA_ot hZ.2.1 hZ.2.2.1 hS (hl.1.trans hml.symm) dX9_setPrice_10 dX9_setPrice_13 dX9_setPrice_14 dX9_setPrice_16 dX9_setPrice_19 (fun x hx9 => (htab x hx9).elim) (Nat.le_of_ble_eq_true rfl) (Nat.le_of_ble_eq_true rfl) (Nat.le_of_ble_eq_true rfl) (Nat.le_of_ble_eq_true rfl) hlocks (wk_xc hP hD hK hS h) hS.2.2 (Nat.le_of_ble_eq_true rfl) (Nat.le_of_ble_eq_true rfl)
  · replace h := h.2 c_1
    refine lv_iload_n hx hb dX9_setPrice_4 rfl (lv_at hl 1 rfl) ?_
    refine lv_bipush (v := 30) hx hb dX9_setPrice_5 (by decide) ?_
    refine lv_icmp_le (tgt := 20) hx hb dX9_setPrice_7 (by decide) (fun c_2 => ?_) (fun c_2 => ?_)
    · replace h := h.1 c_2
      refine lv_aload_n hx hb dX9_setPrice_20 rfl (lv_at hl 0 rfl) ?_
      refine va_get (D := (dC, dI)) (ci := 8) (v := .ref aS) (C := RX9) (T := TX9) (N := 8) hx hb hts inX9_setPrice_wsX90 hown hK hP 0 rfl rfl 1 (by decide) (hts _ qX9_setPrice_2) (fun _ h9 => h9) rfl dX9_setPrice_21 ?_
      refine va_get (D := (dC, dI)) (ci := 6) (v := .int sp) (C := RX7) (T := TX7) (N := 4) hx hb hts inX9_setPrice_wsX70 hown hK hP 1 rfl rfl 3 (by decide) (hts _ qX9_setPrice_3) (fun _ h9 => h9) rfl dX9_setPrice_24 ?_
      refine lv_istore_n (lv' := [(2, .int sp), (0, .ref aX), (1, .int v1)]) hx hb dX9_setPrice_27 rfl hl (by decide) rfl (fun ls hl => ?_)
      refine lv_aload_n hx hb dX9_setPrice_28 rfl (lv_at hl 1 rfl) ?_
      refine va_get (D := (dC, dI)) (ci := 8) (v := .ref aS) (C := RX9) (T := TX9) (N := 8) hx hb hts inX9_setPrice_wsX90 hown hK hP 0 rfl rfl 1 (by decide) (hts _ qX9_setPrice_2) (fun _ h9 => h9) rfl dX9_setPrice_29 ?_
      refine lv_iload_n hx hb dX9_setPrice_32 rfl (lv_at hl 2 rfl) ?_
      refine va_put (D := (dC, dI)) (ci := 6) (v := .int v1) (ty := .int) (C := RX7) (T := TX7) (N := 4) hx hb hts inX9_setPrice_wsX70 tyX7 tyX7_ok nmX7 hown hK hP hD hS 1 rfl rfl 3 (by decide) (hts _ qX9_setPrice_3) (fun _ h9 => h9) rfl (by decide +kernel) rfl rfl (Nat.le_of_ble_eq_true rfl) dX9_setPrice_33 (fun H locs hP hD hS => ?_)
      have hP : va_P (dC, dI) vwCl [(aX, .inr (8, [.ref aT, .ref aS, .ref aF, .ref aQ, .ref aW, .ref aP, .ref aB, .ref aR])), (aS, .inr (6, [.int sw, .int sl, .int sg, .int v1])), (aP, .inr (3, [.ref aPk, .ref aPl, .ref aPd, .ref aPs, .int pn, .int pch]))] H := hP
      have hD : va_D A [(aX, .inr (8, [.ref aT, .ref aS, .ref aF, .ref aQ, .ref aW, .ref aP, .ref aB, .ref aR])), (aS, .inr (6, [.int sw, .int sl, .int sg, .int v1])), (aP, .inr (3, [.ref aPk, .ref aPl, .ref aPd, .ref aPs, .int pn, .int pch]))] := hD
      refine lv_aload_n hx hb dX9_setPrice_36 rfl (lv_at hl 1 rfl) ?_
      refine va_get (D := (dC, dI)) (ci := 8) (v := .ref aP) (C := RX9) (T := TX9) (N := 8) hx hb hts inX9_setPrice_wsX90 hown hK hP 0 rfl rfl 5 (by decide) (hts _ qX9_setPrice_4) (fun _ h9 => h9) rfl dX9_setPrice_37 ?_
      refine wk_callv (wc := [(aP, .inr (3, [.ref aPk, .ref aPl, .ref aPd, .ref aPs, .int pn, .int pch]))]) (wr := [(aX, .inr (8, [.ref aT, .ref aS, .ref aF, .ref aQ, .ref aW, .ref aP, .ref aB, .ref aR])), (aS, .inr (6, [.int sw, .int sl, .int sg, .int v1]))]) (va_runV (As := []) (rest := []) C0 (mtX4_forget l dC dI cyI (aP := aP) (aPk := aPk) (aPl := aPl) (aPd := aPd) (aPs := aPs) (sz := _) (pn := pn) (pch := pch) h) (cwV 0 hts gX9_setPrice_X4_forget rfl rfl rfl (by decide +kernel) ⟨(Nat.le_of_ble_eq_true rfl), (Nat.le_of_ble_eq_true rfl)⟩) (wk_preV (wc := [(aP, .inr (3, [.ref aPk, .ref aPl, .ref aPd, .ref aPs, .int pn, .int pch]))]) hK hP hD [2] rfl (by decide) (va_recv hK hP (ci := 3) (q0 := 2) rfl rfl)) rfl rfl hl.1 rfl (lv_room (Nat.le_of_ble_eq_true rfl)) dX9_setPrice_40 ⟨(Nat.le_of_ble_eq_true rfl), (Nat.le_of_ble_eq_true rfl)⟩) hP hD hS hA [2] [0, 1] rfl rfl (by decide) (by decide) (fun u9 H locs h hP hD hS => ?_)
      obtain ⟨pn_3, pch_4⟩ := u9
      have hP : va_P (dC, dI) vwCl [(aX, .inr (8, [.ref aT, .ref aS, .ref aF, .ref aQ, .ref aW, .ref aP, .ref aB, .ref aR])), (aS, .inr (6, [.int sw, .int sl, .int sg, .int v1])), (aP, .inr (3, [.ref aPk, .ref aPl, .ref aPd, .ref aPs, .int pn_3, .int pch_4]))] H := hP
      have hD : va_D A [(aX, .inr (8, [.ref aT, .ref aS, .ref aF, .ref aQ, .ref aW, .ref aP, .ref aB, .ref aR])), (aS, .inr (6, [.int sw, .int sl, .int sg, .int v1])), (aP, .inr (3, [.ref aPk, .ref aPl, .ref aPd, .ref aPs, .int pn_3, .int pch_4]))] := hD
      dsimp only at h
      refine lv_iload_n hx hb dX9_setPrice_43 rfl (lv_at hl 0 rfl) ?_
      have hP9 : va_P (dC, dI) vwCl [(aX, .inr (8, [.ref aT, .ref aS, .ref aF, .ref aQ, .ref aW, .ref aP, .ref aB, .ref aR])), (aS, .inr (6, [.int sw, .int sl, .int sg, .int v1])), (aP, .inr (3, [.ref aPk, .ref aPl, .ref aPd, .ref aPs, .int pn_3, .int pch_4]))] _ := hP
      have hD9 : va_D A [(aX, .inr (8, [.ref aT, .ref aS, .ref aF, .ref aQ, .ref aW, .ref aP, .ref aB, .ref aR])), (aS, .inr (6, [.int sw, .int sl, .int sg, .int v1])), (aP, .inr (3, [.ref aPk, .ref aPl, .ref aPd, .ref aPs, .int pn_3, .int pch_4]))] := hD
      refine vx_ret ?_
      refine W.widen (k := 1) (n := 6) (Nat.le_of_ble_eq_true rfl) (Nat.le_of_ble_eq_true rfl) ?_
      exact W.iret (v := sp) hx hb hr (fun t ht hW => ⟨⟨sp, (v1, pn_3, pch_4), rfl, h, by rw [ht]; exact hP9, va_K.moved hW.alike hK, hD9⟩, hS.F ht⟩) hS.2.2 dX9_setPrice_44
    · replace h := h.2 c_2
      obtain ⟨sa9, hstr⟩ := hZ.1 _ (List.mem_of_getElem? (i := 9) rfl)
      exact vx_throwS hx hb hlt hown xA_fit xN_fit (hts _ qX9_setPrice_0) (hts _ qX9_setPrice_1) hstr (vx_hat (fun w hw => hts w (inX9_setPrice_xA w hw)) xA_no (hZ.use _)) xA_ot hZ.2.1 hZ.2.2.1 hS (hl.1.trans hml.symm) dX9_setPrice_10 dX9_setPrice_13 dX9_setPrice_14 dX9_setPrice_16 dX9_setPrice_19 (fun x hx9 => (htab x hx9).elim) (Nat.le_of_ble_eq_true rfl) (Nat.le_of_ble_eq_true rfl) (Nat.le_of_ble_eq_true rfl) (Nat.le_of_ble_eq_true rfl) hlocks (wk_xc hP hD hK hS h) hS.2.2 (Nat.le_of_ble_eq_true rfl) (Nat.le_of_ble_eq_true rfl)
-- X9_longest
theorem qX9_longest_0 : Cond.fieldLink RX9 10 "MatchCoder" "text" "LMatchCoder$Text;" ∈ wsX9_longest := (List.mem_cons_of_mem _ (List.mem_append_left _ (List.mem_append_left _ (List.mem_append_left _ (List.mem_append_left _ (List.mem_append_left _ (List.mem_append_left _ (List.mem_of_getElem? (i := 2) rfl))))))))
theorem qX9_longest_1 : Cond.fieldLink RX9 28 "MatchCoder" "finder" "LMatchCoder$Finder;" ∈ wsX9_longest := (List.mem_cons_of_mem _ (List.mem_append_left _ (List.mem_append_left _ (List.mem_append_left _ (List.mem_append_left _ (List.mem_append_left _ (List.mem_append_left _ (List.mem_of_getElem? (i := 3) rfl))))))))
theorem qX9_longest_2 : Cond.classLink RX9 105 "java/lang/IndexOutOfBoundsException" ∈ wsX9_longest := (List.mem_cons_of_mem _ (List.mem_append_left _ (List.mem_append_left _ (List.mem_append_left _ (List.mem_append_left _ (List.mem_append_left _ (List.mem_append_left _ (List.mem_of_getElem? (i := 0) rfl))))))))
theorem qX9_longest_3 : Cond.initialized "java/lang/IndexOutOfBoundsException" ∈ wsX9_longest := (List.mem_cons_of_mem _ (List.mem_append_left _ (List.mem_append_left _ (List.mem_append_left _ (List.mem_append_left _ (List.mem_append_left _ (List.mem_append_left _ (List.mem_of_getElem? (i := 1) rfl))))))))
theorem inX9_longest_xI : ∀ w ∈ (vx_atS RX9 109 "java/lang/IndexOutOfBoundsException" ["java/lang/RuntimeException", "java/lang/Exception"]).filter goodWord, w ∈ wsX9_longest := fun _ h => List.mem_cons_of_mem _ (List.mem_append_right _ h)
theorem inX9_longest_wsX90 : ∀ w ∈ wsX90, w ∈ wsX9_longest := fun _ h => List.mem_cons_of_mem _ (List.mem_append_left _ (List.mem_append_left _ (List.mem_append_left _ (List.mem_append_left _ (List.mem_append_right _ h)))))
def wpX9_longest (tn : Int32) (tb : Nat → Int32) (sw : Int32) (sl : Int32) (sg : Int32) (v1 : Int32) (post : Int32 → Prop) (px : String → Prop) : Prop := wpX8_has tn v1 (fun (r_1 : Int32) => (r_1 = 0 → (px xI)) ∧ (¬ r_1 = 0 → (wpX3_matchLength tn tb sw sl sg v1 (fun (r_3 : Int32) => post r_3))))
set_option maxHeartbeats 4000000 in
set_option maxRecDepth 100000 in
theorem mtX9_longest (l : Launch) (hlt : l.stackTraces = false) (dC : Nat → ClassId) (dI : Nat → Nat → Nat) (cyI : ClassId) {aX aT aTb aS aF aQ aW aP aB aR : Nat} {sz : Nat} {tn : Int32} {tb : Nat → Int32} {sw : Int32} {sl : Int32} {sg : Int32} {sp : Int32} {v1 : Int32} {post : Int32 → Prop} {px : String → Prop} (h : wpX9_longest tn tb sw sl sg v1 post px) : vx_Met l yX9_longest wsX9_longest ({ frames := 6, cells := 1, slots := 6, locals := 82 }) (va_Pc [.ref aX, .int v1] (wk_BX (dC, dI) [(cyI, .int)] [(aX, .inr (8, [.ref aT, .ref aS, .ref aF, .ref aQ, .ref aW, .ref aP, .ref aB, .ref aR])), (aT, .inr (7, [.ref aTb, .int tn])), (aTb, .inl (cyI, 64, .inl tb)), (aS, .inr (6, [.int sw, .int sl, .int sg, .int sp])), (aF, .inr (2, [.ref aT, .ref aS]))] sz)) (va_Qi (fun (r : Int32) (u : Unit) => post r ) (wk_C (dC, dI) [(cyI, .int)] (va_A [(aX, .inr (8, [.ref aT, .ref aS, .ref aF, .ref aQ, .ref aW, .ref aP, .ref aB, .ref aR])), (aT, .inr (7, [.ref aTb, .int tn])), (aTb, .inl (cyI, 64, .inl tb)), (aS, .inr (6, [.int sw, .int sl, .int sg, .int sp])), (aF, .inr (2, [.ref aT, .ref aS]))] sz) (fun (u : Unit) => [(aX, .inr (8, [.ref aT, .ref aS, .ref aF, .ref aQ, .ref aW, .ref aP, .ref aB, .ref aR])), (aT, .inr (7, [.ref aTb, .int tn])), (aTb, .inl (cyI, 64, .inl tb)), (aS, .inr (6, [.int sw, .int sl, .int sg, .int sp])), (aF, .inr (2, [.ref aT, .ref aS]))])) (va_A [(aX, .inr (8, [.ref aT, .ref aS, .ref aF, .ref aQ, .ref aW, .ref aP, .ref aB, .ref aR])), (aT, .inr (7, [.ref aTb, .int tn])), (aTb, .inl (cyI, 64, .inl tb)), (aS, .inr (6, [.int sw, .int sl, .int sg, .int sp])), (aF, .inr (2, [.ref aT, .ref aS]))] sz)) (vx_X px (wk_X (dC, dI) [(cyI, .int)] (va_A [(aX, .inr (8, [.ref aT, .ref aS, .ref aF, .ref aQ, .ref aW, .ref aP, .ref aB, .ref aR])), (aT, .inr (7, [.ref aTb, .int tn])), (aTb, .inl (cyI, 64, .inl tb)), (aS, .inr (6, [.int sw, .int sl, .int sg, .int sp])), (aF, .inr (2, [.ref aT, .ref aS]))] sz) [(aX, .inr (8, [.ref aT, .ref aS, .ref aF, .ref aQ, .ref aW, .ref aP, .ref aB, .ref aR])), (aT, .inr (7, [.ref aTb, .int tn])), (aTb, .inl (cyI, 64, .inl tb)), (aS, .inr (6, [.int sw, .int sl, .int sg, .int sp])), (aF, .inr (2, [.ref aT, .ref aS]))]) (va_A [(aX, .inr (8, [.ref aT, .ref aS, .ref aF, .ref aQ, .ref aW, .ref aP, .ref aB, .ref aR])), (aT, .inr (7, [.ref aTb, .int tn])), (aTb, .inl (cyI, 64, .inl tb)), (aS, .inr (6, [.int sw, .int sl, .int sg, .int sp])), (aF, .inr (2, [.ref aT, .ref aS]))] sz)) 1 6 (va_A [(aX, .inr (8, [.ref aT, .ref aS, .ref aF, .ref aQ, .ref aW, .ref aP, .ref aB, .ref aR])), (aT, .inr (7, [.ref aTb, .int tn])), (aTb, .inl (cyI, 64, .inl tb)), (aS, .inr (6, [.int sw, .int sl, .int sg, .int sp])), (aF, .inr (2, [.ref aT, .ref aS]))] sz) := by
  refine vx_ofW (cc := cX9_longest) (maxL := 2) (ret := (some .int)) (by decide) rfl ?_
  intro p e s m args below meth c s₁ B hml htab hv
  obtain ⟨rfl, ⟨hsz, hP, hK, hD0⟩, hZ⟩ := hv
  have hx := B.exec
  have hb := B.bytes
  have hr := B.returns
  have hts := atoms_spec (ws := wsX9_longest) B.pre
  have hown : s.vm.findClass RX9 = some m.cls := findClass_of_methodNamed B.named
  have hlocks := B.notSynchronized
  subst hsz
  have hD := hD0.self (sz := s.heap.size)
  generalize hAe : va_A [(aX, .inr (8, [.ref aT, .ref aS, .ref aF, .ref aQ, .ref aW, .ref aP, .ref aB, .ref aR])), (aT, .inr (7, [.ref aTb, .int tn])), (aTb, .inl (cyI, 64, .inl tb)), (aS, .inr (6, [.int sw, .int sl, .int sg, .int sp])), (aF, .inr (2, [.ref aT, .ref aS]))] s.heap.size = A at hD hZ ⊢
  have hA : ∀ q : Nat, s.heap.size ≤ q → A q := fun q h => by rw [← hAe]; exact Or.inr h
  have hS : va_S A s.heap s.heap [] := va_S.rf
  have hP : va_P (dC, dI) vwCl [(aX, .inr (8, [.ref aT, .ref aS, .ref aF, .ref aQ, .ref aW, .ref aP, .ref aB, .ref aR])), (aT, .inr (7, [.ref aTb, .int tn])), (aTb, .inl (cyI, 64, .inl tb)), (aS, .inr (6, [.int sw, .int sl, .int sg, .int sp])), (aF, .inr (2, [.ref aT, .ref aS]))] s.heap := hP
  have hl := lv_entry ([.ref aX, .int v1]) (n := 2) (Nat.le_of_ble_eq_true rfl)
  rw [lg_entry_eq]
  generalize (lg_sl ([.ref aX, .int v1]) ++ List.replicate (2 - (lg_sl ([.ref aX, .int v1])).length) Slot.unset).toArray = ls at hl ⊢
  have hl : lv_has ls 2 [(0, .ref aX), (1, .int v1)] := hl
  have C0 : CallFix p m c cX9_longest 2 s ([.ref aX, .int v1] : List Value).toArray wsX9_longest RX9 := ⟨hx, hb, hml, hown, hts⟩
  unfold wpX9_longest at h
  refine lv_aload_n hx hb dX9_longest_0 rfl (lv_at hl 0 rfl) ?_
  refine va_get (D := (dC, dI)) (ci := 8) (v := .ref aT) (C := RX9) (T := TX9) (N := 8) hx hb hts inX9_longest_wsX90 hown hK hP 0 rfl rfl 0 (by decide) (hts _ qX9_longest_0) (fun _ h9 => h9) rfl dX9_longest_1 ?_
  refine lv_iload_n hx hb dX9_longest_4 rfl (lv_at hl 1 rfl) ?_
  refine wk_calli (wc := [(aT, .inr (7, [.ref aTb, .int tn]))]) (wr := [(aX, .inr (8, [.ref aT, .ref aS, .ref aF, .ref aQ, .ref aW, .ref aP, .ref aB, .ref aR])), (aTb, .inl (cyI, 64, .inl tb)), (aS, .inr (6, [.int sw, .int sl, .int sg, .int sp])), (aF, .inr (2, [.ref aT, .ref aS]))]) (va_runV (As := [.int v1]) (rest := []) C0 (mtX8_has l dC dI cyI (aT := aT) (aTb := aTb) (sz := _) (tn := tn) (v1 := v1) h) (cwV 1 hts gX9_longest_X8_has rfl rfl rfl (by decide +kernel) ⟨(Nat.le_of_ble_eq_true rfl), (Nat.le_of_ble_eq_true rfl)⟩) (wk_preV (wc := [(aT, .inr (7, [.ref aTb, .int tn]))]) hK hP hD [1] rfl (by decide) (va_recv hK hP (ci := 7) (q0 := 1) rfl rfl)) rfl rfl hl.1 rfl (lv_room (Nat.le_of_ble_eq_true rfl)) dX9_longest_5 ⟨(Nat.le_of_ble_eq_true rfl), (Nat.le_of_ble_eq_true rfl)⟩) hP hD hS hA [1] [0, 2, 3, 4] rfl rfl (by decide) (by decide) (fun r_1 u9 H locs h hP hD hS => ?_)
  have hP : va_P (dC, dI) vwCl [(aX, .inr (8, [.ref aT, .ref aS, .ref aF, .ref aQ, .ref aW, .ref aP, .ref aB, .ref aR])), (aTb, .inl (cyI, 64, .inl tb)), (aS, .inr (6, [.int sw, .int sl, .int sg, .int sp])), (aF, .inr (2, [.ref aT, .ref aS])), (aT, .inr (7, [.ref aTb, .int tn]))] H := hP
  have hD : va_D A [(aX, .inr (8, [.ref aT, .ref aS, .ref aF, .ref aQ, .ref aW, .ref aP, .ref aB, .ref aR])), (aTb, .inl (cyI, 64, .inl tb)), (aS, .inr (6, [.int sw, .int sl, .int sg, .int sp])), (aF, .inr (2, [.ref aT, .ref aS])), (aT, .inr (7, [.ref aTb, .int tn]))] := hD
  refine lv_if_ne (tgt := 21) hx hb dX9_longest_8 (by decide) (fun c_2 => ?_) (fun c_2 => ?_)
  · replace h := h.2 c_2
    refine lv_aload_n hx hb dX9_longest_21 rfl (lv_at hl 0 rfl) ?_
    refine va_get (D := (dC, dI)) (ci := 8) (v := .ref aF) (C := RX9) (T := TX9) (N := 8) hx hb hts inX9_longest_wsX90 hown hK hP 0 rfl rfl 2 (by decide) (hts _ qX9_longest_1) (fun _ h9 => h9) rfl dX9_longest_22 ?_
    refine lv_iload_n hx hb dX9_longest_25 rfl (lv_at hl 1 rfl) ?_
    refine wk_calli (wc := [(aT, .inr (7, [.ref aTb, .int tn])), (aTb, .inl (cyI, 64, .inl tb)), (aS, .inr (6, [.int sw, .int sl, .int sg, .int sp])), (aF, .inr (2, [.ref aT, .ref aS]))]) (wr := [(aX, .inr (8, [.ref aT, .ref aS, .ref aF, .ref aQ, .ref aW, .ref aP, .ref aB, .ref aR]))]) (va_runV (As := [.int v1]) (rest := []) C0 (mtX3_matchLength l dC dI cyI (aT := aT) (aTb := aTb) (aS := aS) (aF := aF) (sz := _) (tn := tn) (tb := tb) (sw := sw) (sl := sl) (sg := sg) (sp := sp) (v1 := v1) h) (cwV 1 hts gX9_longest_X3_matchLength rfl rfl rfl (by decide +kernel) ⟨(Nat.le_of_ble_eq_true rfl), (Nat.le_of_ble_eq_true rfl)⟩) (wk_preV (wc := [(aT, .inr (7, [.ref aTb, .int tn])), (aTb, .inl (cyI, 64, .inl tb)), (aS, .inr (6, [.int sw, .int sl, .int sg, .int sp])), (aF, .inr (2, [.ref aT, .ref aS]))]) hK hP hD [4, 1, 2, 3] rfl (by decide) (va_recv hK hP (ci := 2) (q0 := 3) rfl rfl)) rfl rfl hl.1 rfl (lv_room (Nat.le_of_ble_eq_true rfl)) dX9_longest_26 ⟨(Nat.le_of_ble_eq_true rfl), (Nat.le_of_ble_eq_true rfl)⟩) hP hD hS hA [4, 1, 2, 3] [0] rfl rfl (by decide) (by decide) (fun r_3 u9 H locs h hP hD hS => ?_)
    have hP : va_P (dC, dI) vwCl [(aX, .inr (8, [.ref aT, .ref aS, .ref aF, .ref aQ, .ref aW, .ref aP, .ref aB, .ref aR])), (aT, .inr (7, [.ref aTb, .int tn])), (aTb, .inl (cyI, 64, .inl tb)), (aS, .inr (6, [.int sw, .int sl, .int sg, .int sp])), (aF, .inr (2, [.ref aT, .ref aS]))] H := hP
    have hD : va_D A [(aX, .inr (8, [.ref aT, .ref aS, .ref aF, .ref aQ, .ref aW, .ref aP, .ref aB, .ref aR])), (aT, .inr (7, [.ref aTb, .int tn])), (aTb, .inl (cyI, 64, .inl tb)), (aS, .inr (6, [.int sw, .int sl, .int sg, .int sp])), (aF, .inr (2, [.ref aT, .ref aS]))] := hD
    have hP9 : va_P (dC, dI) vwCl [(aX, .inr (8, [.ref aT, .ref aS, .ref aF, .ref aQ, .ref aW, .ref aP, .ref aB, .ref aR])), (aT, .inr (7, [.ref aTb, .int tn])), (aTb, .inl (cyI, 64, .inl tb)), (aS, .inr (6, [.int sw, .int sl, .int sg, .int sp])), (aF, .inr (2, [.ref aT, .ref aS]))] _ := hP
    have hD9 : va_D A [(aX, .inr (8, [.ref aT, .ref aS, .ref aF, .ref aQ, .ref aW, .ref aP, .ref aB, .ref aR])), (aT, .inr (7, [.ref aTb, .int tn])), (aTb, .inl (cyI, 64, .inl tb)), (aS, .inr (6, [.int sw, .int sl, .int sg, .int sp])), (aF, .inr (2, [.ref aT, .ref aS]))] := hD
    refine vx_ret ?_
    refine W.widen (k := 1) (n := 6) (Nat.le_of_ble_eq_true rfl) (Nat.le_of_ble_eq_true rfl) ?_
    exact W.iret (v := r_3) hx hb hr (fun t ht hW => ⟨⟨r_3, (), rfl, h, by rw [ht]; exact hP9, va_K.moved hW.alike hK, hD9⟩, hS.F ht⟩) hS.2.2 dX9_longest_29
  · replace h := h.1 c_2
    obtain ⟨sa9, hstr⟩ := hZ.1 _ (List.mem_of_getElem? (i := 4) rfl)
    exact vx_throwS hx hb hlt hown xI_fit xN_fit (hts _ qX9_longest_2) (hts _ qX9_longest_3) hstr (vx_hat (fun w hw => hts w (inX9_longest_xI w hw)) xI_no (hZ.use _)) xI_ot hZ.2.1 hZ.2.2.1 hS (hl.1.trans hml.symm) dX9_longest_11 dX9_longest_14 dX9_longest_15 dX9_longest_17 dX9_longest_20 (fun x hx9 => (htab x hx9).elim) (Nat.le_of_ble_eq_true rfl) (Nat.le_of_ble_eq_true rfl) (Nat.le_of_ble_eq_true rfl) (Nat.le_of_ble_eq_true rfl) hlocks (wk_xc (hP.sub [0, 4, 1, 2, 3] rfl) (hD.sub [0, 4, 1, 2, 3] (by decide) rfl) hK hS h) hS.2.2 (Nat.le_of_ble_eq_true rfl) (Nat.le_of_ble_eq_true rfl)
-- X9_nearest
theorem qX9_nearest_0 : Cond.fieldLink RX9 10 "MatchCoder" "text" "LMatchCoder$Text;" ∈ wsX9_nearest := (List.mem_cons_of_mem _ (List.mem_append_left _ (List.mem_append_left _ (List.mem_append_left _ (List.mem_append_left _ (List.mem_append_left _ (List.mem_append_left _ (List.mem_of_getElem? (i := 2) rfl))))))))
theorem qX9_nearest_1 : Cond.fieldLink RX9 28 "MatchCoder" "finder" "LMatchCoder$Finder;" ∈ wsX9_nearest := (List.mem_cons_of_mem _ (List.mem_append_left _ (List.mem_append_left _ (List.mem_append_left _ (List.mem_append_left _ (List.mem_append_left _ (List.mem_append_left _ (List.mem_of_getElem? (i := 3) rfl))))))))
theorem qX9_nearest_2 : Cond.classLink RX9 105 "java/lang/IndexOutOfBoundsException" ∈ wsX9_nearest := (List.mem_cons_of_mem _ (List.mem_append_left _ (List.mem_append_left _ (List.mem_append_left _ (List.mem_append_left _ (List.mem_append_left _ (List.mem_append_left _ (List.mem_of_getElem? (i := 0) rfl))))))))
theorem qX9_nearest_3 : Cond.initialized "java/lang/IndexOutOfBoundsException" ∈ wsX9_nearest := (List.mem_cons_of_mem _ (List.mem_append_left _ (List.mem_append_left _ (List.mem_append_left _ (List.mem_append_left _ (List.mem_append_left _ (List.mem_append_left _ (List.mem_of_getElem? (i := 1) rfl))))))))
theorem inX9_nearest_xI : ∀ w ∈ (vx_atS RX9 109 "java/lang/IndexOutOfBoundsException" ["java/lang/RuntimeException", "java/lang/Exception"]).filter goodWord, w ∈ wsX9_nearest := fun _ h => List.mem_cons_of_mem _ (List.mem_append_right _ h)
theorem inX9_nearest_wsX90 : ∀ w ∈ wsX90, w ∈ wsX9_nearest := fun _ h => List.mem_cons_of_mem _ (List.mem_append_left _ (List.mem_append_left _ (List.mem_append_left _ (List.mem_append_left _ (List.mem_append_right _ h)))))
def wpX9_nearest (tn : Int32) (tb : Nat → Int32) (sw : Int32) (sl : Int32) (sg : Int32) (v1 : Int32) (post : Int32 → Prop) (px : String → Prop) : Prop := wpX8_has tn v1 (fun (r_1 : Int32) => (r_1 = 0 → (px xI)) ∧ (¬ r_1 = 0 → (wpX3_matchLength tn tb sw sl sg v1 (fun (r_3 : Int32) => wpX3_matchDistance tn tb sw sg v1 r_3 (fun (r_4 : Int32) => post r_4)))))
set_option maxHeartbeats 4000000 in
set_option maxRecDepth 100000 in
theorem mtX9_nearest (l : Launch) (hlt : l.stackTraces = false) (dC : Nat → ClassId) (dI : Nat → Nat → Nat) (cyI : ClassId) {aX aT aTb aS aF aQ aW aP aB aR : Nat} {sz : Nat} {tn : Int32} {tb : Nat → Int32} {sw : Int32} {sl : Int32} {sg : Int32} {sp : Int32} {v1 : Int32} {post : Int32 → Prop} {px : String → Prop} (h : wpX9_nearest tn tb sw sl sg v1 post px) : vx_Met l yX9_nearest wsX9_nearest ({ frames := 6, cells := 1, slots := 6, locals := 82 }) (va_Pc [.ref aX, .int v1] (wk_BX (dC, dI) [(cyI, .int)] [(aX, .inr (8, [.ref aT, .ref aS, .ref aF, .ref aQ, .ref aW, .ref aP, .ref aB, .ref aR])), (aT, .inr (7, [.ref aTb, .int tn])), (aTb, .inl (cyI, 64, .inl tb)), (aS, .inr (6, [.int sw, .int sl, .int sg, .int sp])), (aF, .inr (2, [.ref aT, .ref aS]))] sz)) (va_Qi (fun (r : Int32) (u : Unit) => post r ) (wk_C (dC, dI) [(cyI, .int)] (va_A [(aX, .inr (8, [.ref aT, .ref aS, .ref aF, .ref aQ, .ref aW, .ref aP, .ref aB, .ref aR])), (aT, .inr (7, [.ref aTb, .int tn])), (aTb, .inl (cyI, 64, .inl tb)), (aS, .inr (6, [.int sw, .int sl, .int sg, .int sp])), (aF, .inr (2, [.ref aT, .ref aS]))] sz) (fun (u : Unit) => [(aX, .inr (8, [.ref aT, .ref aS, .ref aF, .ref aQ, .ref aW, .ref aP, .ref aB, .ref aR])), (aT, .inr (7, [.ref aTb, .int tn])), (aTb, .inl (cyI, 64, .inl tb)), (aS, .inr (6, [.int sw, .int sl, .int sg, .int sp])), (aF, .inr (2, [.ref aT, .ref aS]))])) (va_A [(aX, .inr (8, [.ref aT, .ref aS, .ref aF, .ref aQ, .ref aW, .ref aP, .ref aB, .ref aR])), (aT, .inr (7, [.ref aTb, .int tn])), (aTb, .inl (cyI, 64, .inl tb)), (aS, .inr (6, [.int sw, .int sl, .int sg, .int sp])), (aF, .inr (2, [.ref aT, .ref aS]))] sz)) (vx_X px (wk_X (dC, dI) [(cyI, .int)] (va_A [(aX, .inr (8, [.ref aT, .ref aS, .ref aF, .ref aQ, .ref aW, .ref aP, .ref aB, .ref aR])), (aT, .inr (7, [.ref aTb, .int tn])), (aTb, .inl (cyI, 64, .inl tb)), (aS, .inr (6, [.int sw, .int sl, .int sg, .int sp])), (aF, .inr (2, [.ref aT, .ref aS]))] sz) [(aX, .inr (8, [.ref aT, .ref aS, .ref aF, .ref aQ, .ref aW, .ref aP, .ref aB, .ref aR])), (aT, .inr (7, [.ref aTb, .int tn])), (aTb, .inl (cyI, 64, .inl tb)), (aS, .inr (6, [.int sw, .int sl, .int sg, .int sp])), (aF, .inr (2, [.ref aT, .ref aS]))]) (va_A [(aX, .inr (8, [.ref aT, .ref aS, .ref aF, .ref aQ, .ref aW, .ref aP, .ref aB, .ref aR])), (aT, .inr (7, [.ref aTb, .int tn])), (aTb, .inl (cyI, 64, .inl tb)), (aS, .inr (6, [.int sw, .int sl, .int sg, .int sp])), (aF, .inr (2, [.ref aT, .ref aS]))] sz)) 1 6 (va_A [(aX, .inr (8, [.ref aT, .ref aS, .ref aF, .ref aQ, .ref aW, .ref aP, .ref aB, .ref aR])), (aT, .inr (7, [.ref aTb, .int tn])), (aTb, .inl (cyI, 64, .inl tb)), (aS, .inr (6, [.int sw, .int sl, .int sg, .int sp])), (aF, .inr (2, [.ref aT, .ref aS]))] sz) := by
  refine vx_ofW (cc := cX9_nearest) (maxL := 2) (ret := (some .int)) (by decide) rfl ?_
  intro p e s m args below meth c s₁ B hml htab hv
  obtain ⟨rfl, ⟨hsz, hP, hK, hD0⟩, hZ⟩ := hv
  have hx := B.exec
  have hb := B.bytes
  have hr := B.returns
  have hts := atoms_spec (ws := wsX9_nearest) B.pre
  have hown : s.vm.findClass RX9 = some m.cls := findClass_of_methodNamed B.named
  have hlocks := B.notSynchronized
  subst hsz
  have hD := hD0.self (sz := s.heap.size)
  generalize hAe : va_A [(aX, .inr (8, [.ref aT, .ref aS, .ref aF, .ref aQ, .ref aW, .ref aP, .ref aB, .ref aR])), (aT, .inr (7, [.ref aTb, .int tn])), (aTb, .inl (cyI, 64, .inl tb)), (aS, .inr (6, [.int sw, .int sl, .int sg, .int sp])), (aF, .inr (2, [.ref aT, .ref aS]))] s.heap.size = A at hD hZ ⊢
  have hA : ∀ q : Nat, s.heap.size ≤ q → A q := fun q h => by rw [← hAe]; exact Or.inr h
  have hS : va_S A s.heap s.heap [] := va_S.rf
  have hP : va_P (dC, dI) vwCl [(aX, .inr (8, [.ref aT, .ref aS, .ref aF, .ref aQ, .ref aW, .ref aP, .ref aB, .ref aR])), (aT, .inr (7, [.ref aTb, .int tn])), (aTb, .inl (cyI, 64, .inl tb)), (aS, .inr (6, [.int sw, .int sl, .int sg, .int sp])), (aF, .inr (2, [.ref aT, .ref aS]))] s.heap := hP
  have hl := lv_entry ([.ref aX, .int v1]) (n := 2) (Nat.le_of_ble_eq_true rfl)
  rw [lg_entry_eq]
  generalize (lg_sl ([.ref aX, .int v1]) ++ List.replicate (2 - (lg_sl ([.ref aX, .int v1])).length) Slot.unset).toArray = ls at hl ⊢
  have hl : lv_has ls 2 [(0, .ref aX), (1, .int v1)] := hl
  have C0 : CallFix p m c cX9_nearest 2 s ([.ref aX, .int v1] : List Value).toArray wsX9_nearest RX9 := ⟨hx, hb, hml, hown, hts⟩
  unfold wpX9_nearest at h
  refine lv_aload_n hx hb dX9_nearest_0 rfl (lv_at hl 0 rfl) ?_
  refine va_get (D := (dC, dI)) (ci := 8) (v := .ref aT) (C := RX9) (T := TX9) (N := 8) hx hb hts inX9_nearest_wsX90 hown hK hP 0 rfl rfl 0 (by decide) (hts _ qX9_nearest_0) (fun _ h9 => h9) rfl dX9_nearest_1 ?_
  refine lv_iload_n hx hb dX9_nearest_4 rfl (lv_at hl 1 rfl) ?_
  refine wk_calli (wc := [(aT, .inr (7, [.ref aTb, .int tn]))]) (wr := [(aX, .inr (8, [.ref aT, .ref aS, .ref aF, .ref aQ, .ref aW, .ref aP, .ref aB, .ref aR])), (aTb, .inl (cyI, 64, .inl tb)), (aS, .inr (6, [.int sw, .int sl, .int sg, .int sp])), (aF, .inr (2, [.ref aT, .ref aS]))]) (va_runV (As := [.int v1]) (rest := []) C0 (mtX8_has l dC dI cyI (aT := aT) (aTb := aTb) (sz := _) (tn := tn) (v1 := v1) h) (cwV 1 hts gX9_nearest_X8_has rfl rfl rfl (by decide +kernel) ⟨(Nat.le_of_ble_eq_true rfl), (Nat.le_of_ble_eq_true rfl)⟩) (wk_preV (wc := [(aT, .inr (7, [.ref aTb, .int tn]))]) hK hP hD [1] rfl (by decide) (va_recv hK hP (ci := 7) (q0 := 1) rfl rfl)) rfl rfl hl.1 rfl (lv_room (Nat.le_of_ble_eq_true rfl)) dX9_nearest_5 ⟨(Nat.le_of_ble_eq_true rfl), (Nat.le_of_ble_eq_true rfl)⟩) hP hD hS hA [1] [0, 2, 3, 4] rfl rfl (by decide) (by decide) (fun r_1 u9 H locs h hP hD hS => ?_)
  have hP : va_P (dC, dI) vwCl [(aX, .inr (8, [.ref aT, .ref aS, .ref aF, .ref aQ, .ref aW, .ref aP, .ref aB, .ref aR])), (aTb, .inl (cyI, 64, .inl tb)), (aS, .inr (6, [.int sw, .int sl, .int sg, .int sp])), (aF, .inr (2, [.ref aT, .ref aS])), (aT, .inr (7, [.ref aTb, .int tn]))] H := hP
  have hD : va_D A [(aX, .inr (8, [.ref aT, .ref aS, .ref aF, .ref aQ, .ref aW, .ref aP, .ref aB, .ref aR])), (aTb, .inl (cyI, 64, .inl tb)), (aS, .inr (6, [.int sw, .int sl, .int sg, .int sp])), (aF, .inr (2, [.ref aT, .ref aS])), (aT, .inr (7, [.ref aTb, .int tn]))] := hD
  refine lv_if_ne (tgt := 21) hx hb dX9_nearest_8 (by decide) (fun c_2 => ?_) (fun c_2 => ?_)
  · replace h := h.2 c_2
    refine lv_aload_n hx hb dX9_nearest_21 rfl (lv_at hl 0 rfl) ?_
    refine va_get (D := (dC, dI)) (ci := 8) (v := .ref aF) (C := RX9) (T := TX9) (N := 8) hx hb hts inX9_nearest_wsX90 hown hK hP 0 rfl rfl 2 (by decide) (hts _ qX9_nearest_1) (fun _ h9 => h9) rfl dX9_nearest_22 ?_
    refine lv_iload_n hx hb dX9_nearest_25 rfl (lv_at hl 1 rfl) ?_
    refine lv_aload_n hx hb dX9_nearest_26 rfl (lv_at hl 0 rfl) ?_
    refine va_get (D := (dC, dI)) (ci := 8) (v := .ref aF) (C := RX9) (T := TX9) (N := 8) hx hb hts inX9_nearest_wsX90 hown hK hP 0 rfl rfl 2 (by decide) (hts _ qX9_nearest_1) (fun _ h9 => h9) rfl dX9_nearest_27 ?_
    refine lv_iload_n hx hb dX9_nearest_30 rfl (lv_at hl 1 rfl) ?_
    refine wk_calli (wc := [(aT, .inr (7, [.ref aTb, .int tn])), (aTb, .inl (cyI, 64, .inl tb)), (aS, .inr (6, [.int sw, .int sl, .int sg, .int sp])), (aF, .inr (2, [.ref aT, .ref aS]))]) (wr := [(aX, .inr (8, [.ref aT, .ref aS, .ref aF, .ref aQ, .ref aW, .ref aP, .ref aB, .ref aR]))]) (va_runV (As := [.int v1]) (rest := [.int v1, .ref aF]) C0 (mtX3_matchLength l dC dI cyI (aT := aT) (aTb := aTb) (aS := aS) (aF := aF) (sz := _) (tn := tn) (tb := tb) (sw := sw) (sl := sl) (sg := sg) (sp := sp) (v1 := v1) h) (cwV 1 hts gX9_nearest_X3_matchLength rfl rfl rfl (by decide +kernel) ⟨(Nat.le_of_ble_eq_true rfl), (Nat.le_of_ble_eq_true rfl)⟩) (wk_preV (wc := [(aT, .inr (7, [.ref aTb, .int tn])), (aTb, .inl (cyI, 64, .inl tb)), (aS, .inr (6, [.int sw, .int sl, .int sg, .int sp])), (aF, .inr (2, [.ref aT, .ref aS]))]) hK hP hD [4, 1, 2, 3] rfl (by decide) (va_recv hK hP (ci := 2) (q0 := 3) rfl rfl)) rfl rfl hl.1 rfl (lv_room (Nat.le_of_ble_eq_true rfl)) dX9_nearest_31 ⟨(Nat.le_of_ble_eq_true rfl), (Nat.le_of_ble_eq_true rfl)⟩) hP hD hS hA [4, 1, 2, 3] [0] rfl rfl (by decide) (by decide) (fun r_3 u9 H locs h hP hD hS => ?_)
    have hP : va_P (dC, dI) vwCl [(aX, .inr (8, [.ref aT, .ref aS, .ref aF, .ref aQ, .ref aW, .ref aP, .ref aB, .ref aR])), (aT, .inr (7, [.ref aTb, .int tn])), (aTb, .inl (cyI, 64, .inl tb)), (aS, .inr (6, [.int sw, .int sl, .int sg, .int sp])), (aF, .inr (2, [.ref aT, .ref aS]))] H := hP
    have hD : va_D A [(aX, .inr (8, [.ref aT, .ref aS, .ref aF, .ref aQ, .ref aW, .ref aP, .ref aB, .ref aR])), (aT, .inr (7, [.ref aTb, .int tn])), (aTb, .inl (cyI, 64, .inl tb)), (aS, .inr (6, [.int sw, .int sl, .int sg, .int sp])), (aF, .inr (2, [.ref aT, .ref aS]))] := hD
    refine wk_calli (wc := [(aT, .inr (7, [.ref aTb, .int tn])), (aTb, .inl (cyI, 64, .inl tb)), (aS, .inr (6, [.int sw, .int sl, .int sg, .int sp])), (aF, .inr (2, [.ref aT, .ref aS]))]) (wr := [(aX, .inr (8, [.ref aT, .ref aS, .ref aF, .ref aQ, .ref aW, .ref aP, .ref aB, .ref aR]))]) (va_runV (As := [.int v1, .int r_3]) (rest := []) C0 (mtX3_matchDistance l dC dI cyI (aT := aT) (aTb := aTb) (aS := aS) (aF := aF) (sz := _) (tn := tn) (tb := tb) (sw := sw) (sl := sl) (sg := sg) (sp := sp) (v1 := v1) (v2 := r_3) h) (cwV 2 hts gX9_nearest_X3_matchDistance rfl rfl rfl (by decide +kernel) ⟨(Nat.le_of_ble_eq_true rfl), (Nat.le_of_ble_eq_true rfl)⟩) (wk_preV (wc := [(aT, .inr (7, [.ref aTb, .int tn])), (aTb, .inl (cyI, 64, .inl tb)), (aS, .inr (6, [.int sw, .int sl, .int sg, .int sp])), (aF, .inr (2, [.ref aT, .ref aS]))]) hK hP hD [1, 2, 3, 4] rfl (by decide) (va_recv hK hP (ci := 2) (q0 := 4) rfl rfl)) rfl rfl hl.1 rfl (lv_room (Nat.le_of_ble_eq_true rfl)) dX9_nearest_34 ⟨(Nat.le_of_ble_eq_true rfl), (Nat.le_of_ble_eq_true rfl)⟩) hP hD hS hA [1, 2, 3, 4] [0] rfl rfl (by decide) (by decide) (fun r_4 u9 H locs h hP hD hS => ?_)
    have hP : va_P (dC, dI) vwCl [(aX, .inr (8, [.ref aT, .ref aS, .ref aF, .ref aQ, .ref aW, .ref aP, .ref aB, .ref aR])), (aT, .inr (7, [.ref aTb, .int tn])), (aTb, .inl (cyI, 64, .inl tb)), (aS, .inr (6, [.int sw, .int sl, .int sg, .int sp])), (aF, .inr (2, [.ref aT, .ref aS]))] H := hP
    have hD : va_D A [(aX, .inr (8, [.ref aT, .ref aS, .ref aF, .ref aQ, .ref aW, .ref aP, .ref aB, .ref aR])), (aT, .inr (7, [.ref aTb, .int tn])), (aTb, .inl (cyI, 64, .inl tb)), (aS, .inr (6, [.int sw, .int sl, .int sg, .int sp])), (aF, .inr (2, [.ref aT, .ref aS]))] := hD
    have hP9 : va_P (dC, dI) vwCl [(aX, .inr (8, [.ref aT, .ref aS, .ref aF, .ref aQ, .ref aW, .ref aP, .ref aB, .ref aR])), (aT, .inr (7, [.ref aTb, .int tn])), (aTb, .inl (cyI, 64, .inl tb)), (aS, .inr (6, [.int sw, .int sl, .int sg, .int sp])), (aF, .inr (2, [.ref aT, .ref aS]))] _ := hP
    have hD9 : va_D A [(aX, .inr (8, [.ref aT, .ref aS, .ref aF, .ref aQ, .ref aW, .ref aP, .ref aB, .ref aR])), (aT, .inr (7, [.ref aTb, .int tn])), (aTb, .inl (cyI, 64, .inl tb)), (aS, .inr (6, [.int sw, .int sl, .int sg, .int sp])), (aF, .inr (2, [.ref aT, .ref aS]))] := hD
    refine vx_ret ?_
    refine W.widen (k := 1) (n := 6) (Nat.le_of_ble_eq_true rfl) (Nat.le_of_ble_eq_true rfl) ?_
    exact W.iret (v := r_4) hx hb hr (fun t ht hW => ⟨⟨r_4, (), rfl, h, by rw [ht]; exact hP9, va_K.moved hW.alike hK, hD9⟩, hS.F ht⟩) hS.2.2 dX9_nearest_37
  · replace h := h.1 c_2
    obtain ⟨sa9, hstr⟩ := hZ.1 _ (List.mem_of_getElem? (i := 4) rfl)
    exact vx_throwS hx hb hlt hown xI_fit xN_fit (hts _ qX9_nearest_2) (hts _ qX9_nearest_3) hstr (vx_hat (fun w hw => hts w (inX9_nearest_xI w hw)) xI_no (hZ.use _)) xI_ot hZ.2.1 hZ.2.2.1 hS (hl.1.trans hml.symm) dX9_nearest_11 dX9_nearest_14 dX9_nearest_15 dX9_nearest_17 dX9_nearest_20 (fun x hx9 => (htab x hx9).elim) (Nat.le_of_ble_eq_true rfl) (Nat.le_of_ble_eq_true rfl) (Nat.le_of_ble_eq_true rfl) (Nat.le_of_ble_eq_true rfl) hlocks (wk_xc (hP.sub [0, 4, 1, 2, 3] rfl) (hD.sub [0, 4, 1, 2, 3] (by decide) rfl) hK hS h) hS.2.2 (Nat.le_of_ble_eq_true rfl) (Nat.le_of_ble_eq_true rfl)
-- X9_common
theorem qX9_common_0 : Cond.fieldLink RX9 10 "MatchCoder" "text" "LMatchCoder$Text;" ∈ wsX9_common := (List.mem_cons_of_mem _ (List.mem_append_left _ (List.mem_append_left _ (List.mem_append_left _ (List.mem_append_left _ (List.mem_of_getElem? (i := 4) rfl))))))
theorem qX9_common_1 : Cond.classLink RX9 69 "java/lang/IllegalArgumentException" ∈ wsX9_common := (List.mem_cons_of_mem _ (List.mem_append_left _ (List.mem_append_left _ (List.mem_append_left _ (List.mem_append_left _ (List.mem_of_getElem? (i := 2) rfl))))))
theorem qX9_common_2 : Cond.initialized "java/lang/IllegalArgumentException" ∈ wsX9_common := (List.mem_cons_of_mem _ (List.mem_append_left _ (List.mem_append_left _ (List.mem_append_left _ (List.mem_append_left _ (List.mem_of_getElem? (i := 3) rfl))))))
theorem qX9_common_3 : Cond.classLink RX9 105 "java/lang/IndexOutOfBoundsException" ∈ wsX9_common := (List.mem_cons_of_mem _ (List.mem_append_left _ (List.mem_append_left _ (List.mem_append_left _ (List.mem_append_left _ (List.mem_of_getElem? (i := 0) rfl))))))
theorem qX9_common_4 : Cond.initialized "java/lang/IndexOutOfBoundsException" ∈ wsX9_common := (List.mem_cons_of_mem _ (List.mem_append_left _ (List.mem_append_left _ (List.mem_append_left _ (List.mem_append_left _ (List.mem_of_getElem? (i := 1) rfl))))))
theorem inX9_common_xA : ∀ w ∈ (vx_atS RX9 73 "java/lang/IllegalArgumentException" ["java/lang/RuntimeException", "java/lang/Exception"]).filter goodWord, w ∈ wsX9_common := fun _ h => List.mem_cons_of_mem _ (List.mem_append_right _ h)
theorem inX9_common_xI : ∀ w ∈ (vx_atS RX9 109 "java/lang/IndexOutOfBoundsException" ["java/lang/RuntimeException", "java/lang/Exception"]).filter goodWord, w ∈ wsX9_common := fun _ h => List.mem_cons_of_mem _ (List.mem_append_left _ (List.mem_append_right _ h))
theorem inX9_common_wsX90 : ∀ w ∈ wsX90, w ∈ wsX9_common := fun _ h => List.mem_cons_of_mem _ (List.mem_append_left _ (List.mem_append_left _ (List.mem_append_left _ (List.mem_append_right _ h))))
def wpX9_common (tn : Int32) (tb : Nat → Int32) (v1 : Int32) (v2 : Int32) (post : Int32 → Prop) (px : String → Prop) : Prop := wpX8_has tn v1 (fun (r_1 : Int32) => (r_1 = 0 → (px xI)) ∧ (¬ r_1 = 0 → ((v2 < 1 → (px xA)) ∧ (¬ v2 < 1 → ((64 < v2 → (px xA)) ∧ (¬ 64 < v2 → ((v2 ≤ v1 → (wpX8_sameFrom tn tb v1 v2 (fun (r_6 : Int32) => post r_6))) ∧ (¬ v2 ≤ v1 → (px xA)))))))))
set_option maxHeartbeats 4000000 in
set_option maxRecDepth 100000 in
theorem mtX9_common (l : Launch) (hlt : l.stackTraces = false) (dC : Nat → ClassId) (dI : Nat → Nat → Nat) (cyI : ClassId) {aX aT aTb aS aF aQ aW aP aB aR : Nat} {sz : Nat} {tn : Int32} {tb : Nat → Int32} {v1 : Int32} {v2 : Int32} {post : Int32 → Prop} {px : String → Prop} (h : wpX9_common tn tb v1 v2 post px) : vx_Met l yX9_common wsX9_common ({ frames := 6, cells := 1, slots := 6, locals := 82 }) (va_Pc [.ref aX, .int v1, .int v2] (wk_BX (dC, dI) [(cyI, .int)] [(aX, .inr (8, [.ref aT, .ref aS, .ref aF, .ref aQ, .ref aW, .ref aP, .ref aB, .ref aR])), (aT, .inr (7, [.ref aTb, .int tn])), (aTb, .inl (cyI, 64, .inl tb))] sz)) (va_Qi (fun (r : Int32) (u : Unit) => post r ) (wk_C (dC, dI) [(cyI, .int)] (va_A [(aX, .inr (8, [.ref aT, .ref aS, .ref aF, .ref aQ, .ref aW, .ref aP, .ref aB, .ref aR])), (aT, .inr (7, [.ref aTb, .int tn])), (aTb, .inl (cyI, 64, .inl tb))] sz) (fun (u : Unit) => [(aX, .inr (8, [.ref aT, .ref aS, .ref aF, .ref aQ, .ref aW, .ref aP, .ref aB, .ref aR])), (aT, .inr (7, [.ref aTb, .int tn])), (aTb, .inl (cyI, 64, .inl tb))])) (va_A [(aX, .inr (8, [.ref aT, .ref aS, .ref aF, .ref aQ, .ref aW, .ref aP, .ref aB, .ref aR])), (aT, .inr (7, [.ref aTb, .int tn])), (aTb, .inl (cyI, 64, .inl tb))] sz)) (vx_X px (wk_X (dC, dI) [(cyI, .int)] (va_A [(aX, .inr (8, [.ref aT, .ref aS, .ref aF, .ref aQ, .ref aW, .ref aP, .ref aB, .ref aR])), (aT, .inr (7, [.ref aTb, .int tn])), (aTb, .inl (cyI, 64, .inl tb))] sz) [(aX, .inr (8, [.ref aT, .ref aS, .ref aF, .ref aQ, .ref aW, .ref aP, .ref aB, .ref aR])), (aT, .inr (7, [.ref aTb, .int tn])), (aTb, .inl (cyI, 64, .inl tb))]) (va_A [(aX, .inr (8, [.ref aT, .ref aS, .ref aF, .ref aQ, .ref aW, .ref aP, .ref aB, .ref aR])), (aT, .inr (7, [.ref aTb, .int tn])), (aTb, .inl (cyI, 64, .inl tb))] sz)) 1 6 (va_A [(aX, .inr (8, [.ref aT, .ref aS, .ref aF, .ref aQ, .ref aW, .ref aP, .ref aB, .ref aR])), (aT, .inr (7, [.ref aTb, .int tn])), (aTb, .inl (cyI, 64, .inl tb))] sz) := by
  refine vx_ofW (cc := cX9_common) (maxL := 3) (ret := (some .int)) (by decide) rfl ?_
  intro p e s m args below meth c s₁ B hml htab hv
  obtain ⟨rfl, ⟨hsz, hP, hK, hD0⟩, hZ⟩ := hv
  have hx := B.exec
  have hb := B.bytes
  have hr := B.returns
  have hts := atoms_spec (ws := wsX9_common) B.pre
  have hown : s.vm.findClass RX9 = some m.cls := findClass_of_methodNamed B.named
  have hlocks := B.notSynchronized
  subst hsz
  have hD := hD0.self (sz := s.heap.size)
  generalize hAe : va_A [(aX, .inr (8, [.ref aT, .ref aS, .ref aF, .ref aQ, .ref aW, .ref aP, .ref aB, .ref aR])), (aT, .inr (7, [.ref aTb, .int tn])), (aTb, .inl (cyI, 64, .inl tb))] s.heap.size = A at hD hZ ⊢
  have hA : ∀ q : Nat, s.heap.size ≤ q → A q := fun q h => by rw [← hAe]; exact Or.inr h
  have hS : va_S A s.heap s.heap [] := va_S.rf
  have hP : va_P (dC, dI) vwCl [(aX, .inr (8, [.ref aT, .ref aS, .ref aF, .ref aQ, .ref aW, .ref aP, .ref aB, .ref aR])), (aT, .inr (7, [.ref aTb, .int tn])), (aTb, .inl (cyI, 64, .inl tb))] s.heap := hP
  have hl := lv_entry ([.ref aX, .int v1, .int v2]) (n := 3) (Nat.le_of_ble_eq_true rfl)
  rw [lg_entry_eq]
  generalize (lg_sl ([.ref aX, .int v1, .int v2]) ++ List.replicate (3 - (lg_sl ([.ref aX, .int v1, .int v2])).length) Slot.unset).toArray = ls at hl ⊢
  have hl : lv_has ls 3 [(0, .ref aX), (1, .int v1), (2, .int v2)] := hl
  have C0 : CallFix p m c cX9_common 3 s ([.ref aX, .int v1, .int v2] : List Value).toArray wsX9_common RX9 := ⟨hx, hb, hml, hown, hts⟩
  unfold wpX9_common at h
  refine lv_aload_n hx hb dX9_common_0 rfl (lv_at hl 0 rfl) ?_
  refine va_get (D := (dC, dI)) (ci := 8) (v := .ref aT) (C := RX9) (T := TX9) (N := 8) hx hb hts inX9_common_wsX90 hown hK hP 0 rfl rfl 0 (by decide) (hts _ qX9_common_0) (fun _ h9 => h9) rfl dX9_common_1 ?_
  refine lv_iload_n hx hb dX9_common_4 rfl (lv_at hl 1 rfl) ?_
  refine wk_calli (wc := [(aT, .inr (7, [.ref aTb, .int tn]))]) (wr := [(aX, .inr (8, [.ref aT, .ref aS, .ref aF, .ref aQ, .ref aW, .ref aP, .ref aB, .ref aR])), (aTb, .inl (cyI, 64, .inl tb))]) (va_runV (As := [.int v1]) (rest := []) C0 (mtX8_has l dC dI cyI (aT := aT) (aTb := aTb) (sz := _) (tn := tn) (v1 := v1) h) (cwV 1 hts gX9_common_X8_has rfl rfl rfl (by decide +kernel) ⟨(Nat.le_of_ble_eq_true rfl), (Nat.le_of_ble_eq_true rfl)⟩) (wk_preV (wc := [(aT, .inr (7, [.ref aTb, .int tn]))]) hK hP hD [1] rfl (by decide) (va_recv hK hP (ci := 7) (q0 := 1) rfl rfl)) rfl rfl hl.1 rfl (lv_room (Nat.le_of_ble_eq_true rfl)) dX9_common_5 ⟨(Nat.le_of_ble_eq_true rfl), (Nat.le_of_ble_eq_true rfl)⟩) hP hD hS hA [1] [0, 2] rfl rfl (by decide) (by decide) (fun r_1 u9 H locs h hP hD hS => ?_)
  have hP : va_P (dC, dI) vwCl [(aX, .inr (8, [.ref aT, .ref aS, .ref aF, .ref aQ, .ref aW, .ref aP, .ref aB, .ref aR])), (aTb, .inl (cyI, 64, .inl tb)), (aT, .inr (7, [.ref aTb, .int tn]))] H := hP
  have hD : va_D A [(aX, .inr (8, [.ref aT, .ref aS, .ref aF, .ref aQ, .ref aW, .ref aP, .ref aB, .ref aR])), (aTb, .inl (cyI, 64, .inl tb)), (aT, .inr (7, [.ref aTb, .int tn]))] := hD
  refine lv_if_ne (tgt := 21) hx hb dX9_common_8 (by decide) (fun c_2 => ?_) (fun c_2 => ?_)
  · replace h := h.2 c_2
    refine lv_iload_n hx hb dX9_common_21 rfl (lv_at hl 2 rfl) ?_
    refine lv_iconst (v := 1) hx hb dX9_common_22 (by decide) ?_
    refine lv_icmp_lt (tgt := 37) hx hb dX9_common_23 (by decide) (fun c_3 => ?_) (fun c_3 => ?_)
    · replace h := h.1 c_3
      obtain ⟨sa9, hstr⟩ := hZ.1 _ (List.mem_of_getElem? (i := 10) rfl)
      exact vx_throwS hx hb hlt hown xA_fit xN_fit (hts _ qX9_common_1) (hts _ qX9_common_2) hstr (vx_hat (fun w hw => hts w (inX9_common_xA w hw)) xA_no (hZ.use _)) xA_ot hZ.2.1 hZ.2.2.1 hS (hl.1.trans hml.symm) dX9_common_37 dX9_common_40 dX9_common_41 dX9_common_43 dX9_common_46 (fun x hx9 => (htab x hx9).elim) (Nat.le_of_ble_eq_true rfl) (Nat.le_of_ble_eq_true rfl) (Nat.le_of_ble_eq_true rfl) (Nat.le_of_ble_eq_true rfl) hlocks (wk_xc (hP.sub [0, 2, 1] rfl) (hD.sub [0, 2, 1] (by decide) rfl) hK hS h) hS.2.2 (Nat.le_of_ble_eq_true rfl) (Nat.le_of_ble_eq_true rfl)
    · replace h := h.2 c_3
      refine lv_iload_n hx hb dX9_common_26 rfl (lv_at hl 2 rfl) ?_
      refine lv_bipush (v := 64) hx hb dX9_common_27 (by decide) ?_
      refine lv_icmp_gt (tgt := 37) hx hb dX9_common_29 (by decide) (fun c_4 => ?_) (fun c_4 => ?_)
      · replace h := h.1 c_4
        obtain ⟨sa9, hstr⟩ := hZ.1 _ (List.mem_of_getElem? (i := 10) rfl)
        exact vx_throwS hx hb hlt hown xA_fit xN_fit (hts _ qX9_common_1) (hts _ qX9_common_2) hstr (vx_hat (fun w hw => hts w (inX9_common_xA w hw)) xA_no (hZ.use _)) xA_ot hZ.2.1 hZ.2.2.1 hS (hl.1.trans hml.symm) dX9_common_37 dX9_common_40 dX9_common_41 dX9_common_43 dX9_common_46 (fun x hx9 => (htab x hx9).elim) (Nat.le_of_ble_eq_true rfl) (Nat.le_of_ble_eq_true rfl) (Nat.le_of_ble_eq_true rfl) (Nat.le_of_ble_eq_true rfl) hlocks (wk_xc (hP.sub [0, 2, 1] rfl) (hD.sub [0, 2, 1] (by decide) rfl) hK hS h) hS.2.2 (Nat.le_of_ble_eq_true rfl) (Nat.le_of_ble_eq_true rfl)
      · replace h := h.2 c_4
        refine lv_iload_n hx hb dX9_common_32 rfl (lv_at hl 2 rfl) ?_
        refine lv_iload_n hx hb dX9_common_33 rfl (lv_at hl 1 rfl) ?_
        refine lv_icmp_le (tgt := 47) hx hb dX9_common_34 (by decide) (fun c_5 => ?_) (fun c_5 => ?_)
        · replace h := h.1 c_5
          refine lv_aload_n hx hb dX9_common_47 rfl (lv_at hl 0 rfl) ?_
          refine va_get (D := (dC, dI)) (ci := 8) (v := .ref aT) (C := RX9) (T := TX9) (N := 8) hx hb hts inX9_common_wsX90 hown hK hP 0 rfl rfl 0 (by decide) (hts _ qX9_common_0) (fun _ h9 => h9) rfl dX9_common_48 ?_
          refine lv_iload_n hx hb dX9_common_51 rfl (lv_at hl 1 rfl) ?_
          refine lv_iload_n hx hb dX9_common_52 rfl (lv_at hl 2 rfl) ?_
          refine wk_calli (wc := [(aT, .inr (7, [.ref aTb, .int tn])), (aTb, .inl (cyI, 64, .inl tb))]) (wr := [(aX, .inr (8, [.ref aT, .ref aS, .ref aF, .ref aQ, .ref aW, .ref aP, .ref aB, .ref aR]))]) (va_runV (As := [.int v1, .int v2]) (rest := []) C0 (mtX8_sameFrom l dC dI cyI (aT := aT) (aTb := aTb) (sz := _) (tn := tn) (tb := tb) (v1 := v1) (v2 := v2) h) (cwV 2 hts gX9_common_X8_sameFrom rfl rfl rfl (by decide +kernel) ⟨(Nat.le_of_ble_eq_true rfl), (Nat.le_of_ble_eq_true rfl)⟩) (wk_preV (wc := [(aT, .inr (7, [.ref aTb, .int tn])), (aTb, .inl (cyI, 64, .inl tb))]) hK hP hD [2, 1] rfl (by decide) (va_recv hK hP (ci := 7) (q0 := 2) rfl rfl)) rfl rfl hl.1 rfl (lv_room (Nat.le_of_ble_eq_true rfl)) dX9_common_53 ⟨(Nat.le_of_ble_eq_true rfl), (Nat.le_of_ble_eq_true rfl)⟩) hP hD hS hA [2, 1] [0] rfl rfl (by decide) (by decide) (fun r_6 u9 H locs h hP hD hS => ?_)
          have hP : va_P (dC, dI) vwCl [(aX, .inr (8, [.ref aT, .ref aS, .ref aF, .ref aQ, .ref aW, .ref aP, .ref aB, .ref aR])), (aT, .inr (7, [.ref aTb, .int tn])), (aTb, .inl (cyI, 64, .inl tb))] H := hP
          have hD : va_D A [(aX, .inr (8, [.ref aT, .ref aS, .ref aF, .ref aQ, .ref aW, .ref aP, .ref aB, .ref aR])), (aT, .inr (7, [.ref aTb, .int tn])), (aTb, .inl (cyI, 64, .inl tb))] := hD
          have hP9 : va_P (dC, dI) vwCl [(aX, .inr (8, [.ref aT, .ref aS, .ref aF, .ref aQ, .ref aW, .ref aP, .ref aB, .ref aR])), (aT, .inr (7, [.ref aTb, .int tn])), (aTb, .inl (cyI, 64, .inl tb))] _ := hP
          have hD9 : va_D A [(aX, .inr (8, [.ref aT, .ref aS, .ref aF, .ref aQ, .ref aW, .ref aP, .ref aB, .ref aR])), (aT, .inr (7, [.ref aTb, .int tn])), (aTb, .inl (cyI, 64, .inl tb))] := hD
          refine vx_ret ?_
          refine W.widen (k := 1) (n := 6) (Nat.le_of_ble_eq_true rfl) (Nat.le_of_ble_eq_true rfl) ?_
          exact W.iret (v := r_6) hx hb hr (fun t ht hW => ⟨⟨r_6, (), rfl, h, by rw [ht]; exact hP9, va_K.moved hW.alike hK, hD9⟩, hS.F ht⟩) hS.2.2 dX9_common_56
        · replace h := h.2 c_5
          obtain ⟨sa9, hstr⟩ := hZ.1 _ (List.mem_of_getElem? (i := 10) rfl)
          exact vx_throwS hx hb hlt hown xA_fit xN_fit (hts _ qX9_common_1) (hts _ qX9_common_2) hstr (vx_hat (fun w hw => hts w (inX9_common_xA w hw)) xA_no (hZ.use _)) xA_ot hZ.2.1 hZ.2.2.1 hS (hl.1.trans hml.symm) dX9_common_37 dX9_common_40 dX9_common_41 dX9_common_43 dX9_common_46 (fun x hx9 => (htab x hx9).elim) (Nat.le_of_ble_eq_true rfl) (Nat.le_of_ble_eq_true rfl) (Nat.le_of_ble_eq_true rfl) (Nat.le_of_ble_eq_true rfl) hlocks (wk_xc (hP.sub [0, 2, 1] rfl) (hD.sub [0, 2, 1] (by decide) rfl) hK hS h) hS.2.2 (Nat.le_of_ble_eq_true rfl) (Nat.le_of_ble_eq_true rfl)
  · replace h := h.1 c_2
    obtain ⟨sa9, hstr⟩ := hZ.1 _ (List.mem_of_getElem? (i := 4) rfl)
    exact vx_throwS hx hb hlt hown xI_fit xN_fit (hts _ qX9_common_3) (hts _ qX9_common_4) hstr (vx_hat (fun w hw => hts w (inX9_common_xI w hw)) xI_no (hZ.use _)) xI_ot hZ.2.1 hZ.2.2.1 hS (hl.1.trans hml.symm) dX9_common_11 dX9_common_14 dX9_common_15 dX9_common_17 dX9_common_20 (fun x hx9 => (htab x hx9).elim) (Nat.le_of_ble_eq_true rfl) (Nat.le_of_ble_eq_true rfl) (Nat.le_of_ble_eq_true rfl) (Nat.le_of_ble_eq_true rfl) hlocks (wk_xc (hP.sub [0, 2, 1] rfl) (hD.sub [0, 2, 1] (by decide) rfl) hK hS h) hS.2.2 (Nat.le_of_ble_eq_true rfl) (Nat.le_of_ble_eq_true rfl)
-- X9_widthOf
theorem qX9_widthOf_0 : Cond.classLink RX9 69 "java/lang/IllegalArgumentException" ∈ wsX9_widthOf := (List.mem_cons_of_mem _ (List.mem_append_left _ (List.mem_of_getElem? (i := 0) rfl)))
theorem qX9_widthOf_1 : Cond.initialized "java/lang/IllegalArgumentException" ∈ wsX9_widthOf := (List.mem_cons_of_mem _ (List.mem_append_left _ (List.mem_of_getElem? (i := 1) rfl)))
theorem inX9_widthOf_xA : ∀ w ∈ (vx_atS RX9 73 "java/lang/IllegalArgumentException" ["java/lang/RuntimeException", "java/lang/Exception"]).filter goodWord, w ∈ wsX9_widthOf := fun _ h => List.mem_cons_of_mem _ (List.mem_append_right _ h)
def wpX9_widthOf (v1 : Int32) (post : Int32 → Prop) (px : String → Prop) : Prop := (v1 < 1 → (px xA)) ∧ (¬ v1 < 1 → ((v1 ≤ 255 → (wpX2_numberBits v1 (fun (r_3 : Int32) => post r_3))) ∧ (¬ v1 ≤ 255 → (px xA))))
set_option maxHeartbeats 4000000 in
set_option maxRecDepth 100000 in
theorem mtX9_widthOf (l : Launch) (hlt : l.stackTraces = false) (dC : Nat → ClassId) (dI : Nat → Nat → Nat) (cyI : ClassId) {aX : Nat} {sz : Nat} {v1 : Int32} {post : Int32 → Prop} {px : String → Prop} (h : wpX9_widthOf v1 post px) : vx_Met l yX9_widthOf wsX9_widthOf ({ frames := 6, cells := 1, slots := 6, locals := 82 }) (va_Pc [.ref aX, .int v1] (wk_BX (dC, dI) [(cyI, .int)] [] sz)) (va_Qi (fun (r : Int32) (u : Unit) => post r ) (wk_C (dC, dI) [(cyI, .int)] (va_A [] sz) (fun (u : Unit) => [])) (va_A [] sz)) (vx_X px (wk_X (dC, dI) [(cyI, .int)] (va_A [] sz) []) (va_A [] sz)) 1 6 (va_A [] sz) := by
  refine vx_ofW (cc := cX9_widthOf) (maxL := 2) (ret := (some .int)) (by decide) rfl ?_
  intro p e s m args below meth c s₁ B hml htab hv
  obtain ⟨rfl, ⟨hsz, hP, hK, hD0⟩, hZ⟩ := hv
  have hx := B.exec
  have hb := B.bytes
  have hr := B.returns
  have hts := atoms_spec (ws := wsX9_widthOf) B.pre
  have hown : s.vm.findClass RX9 = some m.cls := findClass_of_methodNamed B.named
  have hlocks := B.notSynchronized
  subst hsz
  have hD := hD0.self (sz := s.heap.size)
  generalize hAe : va_A [] s.heap.size = A at hD hZ ⊢
  have hA : ∀ q : Nat, s.heap.size ≤ q → A q := fun q h => by rw [← hAe]; exact Or.inr h
  have hS : va_S A s.heap s.heap [] := va_S.rf
  have hP : va_P (dC, dI) vwCl [] s.heap := hP
  have hl := lv_entry ([.ref aX, .int v1]) (n := 2) (Nat.le_of_ble_eq_true rfl)
  rw [lg_entry_eq]
  generalize (lg_sl ([.ref aX, .int v1]) ++ List.replicate (2 - (lg_sl ([.ref aX, .int v1])).length) Slot.unset).toArray = ls at hl ⊢
  have hl : lv_has ls 2 [(0, .ref aX), (1, .int v1)] := hl
  have C0 : CallFix p m c cX9_widthOf 2 s ([.ref aX, .int v1] : List Value).toArray wsX9_widthOf RX9 := ⟨hx, hb, hml, hown, hts⟩
  unfold wpX9_widthOf at h
  refine lv_iload_n hx hb dX9_widthOf_0 rfl (lv_at hl 1 rfl) ?_
  refine lv_iconst (v := 1) hx hb dX9_widthOf_1 (by decide) ?_
  refine lv_icmp_lt (tgt := 12) hx hb dX9_widthOf_2 (by decide) (fun c_1 => ?_) (fun c_1 => ?_)
  · replace h := h.1 c_1
    obtain ⟨sa9, hstr⟩ := hZ.1 _ (List.mem_of_getElem? (i := 11) rfl)
    exact vx_throwS hx hb hlt hown xA_fit xN_fit (hts _ qX9_widthOf_0) (hts _ qX9_widthOf_1) hstr (vx_hat (fun w hw => hts w (inX9_widthOf_xA w hw)) xA_no (hZ.use _)) xA_ot hZ.2.1 hZ.2.2.1 hS (hl.1.trans hml.symm) dX9_widthOf_12 dX9_widthOf_15 dX9_widthOf_16 dX9_widthOf_18 dX9_widthOf_21 (fun x hx9 => (htab x hx9).elim) (Nat.le_of_ble_eq_true rfl) (Nat.le_of_ble_eq_true rfl) (Nat.le_of_ble_eq_true rfl) (Nat.le_of_ble_eq_true rfl) hlocks (wk_xc hP hD hK hS h) hS.2.2 (Nat.le_of_ble_eq_true rfl) (Nat.le_of_ble_eq_true rfl)
  · replace h := h.2 c_1
    refine lv_iload_n hx hb dX9_widthOf_5 rfl (lv_at hl 1 rfl) ?_
    refine lv_sipush (v := 255) hx hb dX9_widthOf_6 (by decide) ?_
    refine lv_icmp_le (tgt := 22) hx hb dX9_widthOf_9 (by decide) (fun c_2 => ?_) (fun c_2 => ?_)
    · replace h := h.1 c_2
      refine lv_iload_n hx hb dX9_widthOf_22 rfl (lv_at hl 1 rfl) ?_
      refine wk_calli (wc := []) (wr := []) (va_runS (As := [.int v1]) (rest := []) C0 (mtX2_numberBits l dC dI cyI (sz := _) (v0 := v1) h) (va_cwS 1 hts gX9_widthOf_X2_numberBits rfl rfl rfl (by decide +kernel) ⟨(Nat.le_of_ble_eq_true rfl), (Nat.le_of_ble_eq_true rfl)⟩) (wk_preS (wc := []) hK hP hD [] rfl (by decide)) rfl rfl hl.1 rfl (lv_room (Nat.le_of_ble_eq_true rfl)) dX9_widthOf_23 ⟨(Nat.le_of_ble_eq_true rfl), (Nat.le_of_ble_eq_true rfl)⟩) hP hD hS hA [] [] rfl rfl (by decide) (by decide) (fun r_3 u9 H locs h hP hD hS => ?_)
      have hP : va_P (dC, dI) vwCl [] H := hP
      have hD : va_D A [] := hD
      have hP9 : va_P (dC, dI) vwCl [] _ := hP
      have hD9 : va_D A [] := hD
      refine vx_ret ?_
      refine W.widen (k := 1) (n := 6) (Nat.le_of_ble_eq_true rfl) (Nat.le_of_ble_eq_true rfl) ?_
      exact W.iret (v := r_3) hx hb hr (fun t ht hW => ⟨⟨r_3, (), rfl, h, by rw [ht]; exact hP9, va_K.moved hW.alike hK, hD9⟩, hS.F ht⟩) hS.2.2 dX9_widthOf_26
    · replace h := h.2 c_2
      obtain ⟨sa9, hstr⟩ := hZ.1 _ (List.mem_of_getElem? (i := 11) rfl)
      exact vx_throwS hx hb hlt hown xA_fit xN_fit (hts _ qX9_widthOf_0) (hts _ qX9_widthOf_1) hstr (vx_hat (fun w hw => hts w (inX9_widthOf_xA w hw)) xA_no (hZ.use _)) xA_ot hZ.2.1 hZ.2.2.1 hS (hl.1.trans hml.symm) dX9_widthOf_12 dX9_widthOf_15 dX9_widthOf_16 dX9_widthOf_18 dX9_widthOf_21 (fun x hx9 => (htab x hx9).elim) (Nat.le_of_ble_eq_true rfl) (Nat.le_of_ble_eq_true rfl) (Nat.le_of_ble_eq_true rfl) (Nat.le_of_ble_eq_true rfl) hlocks (wk_xc hP hD hK hS h) hS.2.2 (Nat.le_of_ble_eq_true rfl) (Nat.le_of_ble_eq_true rfl)
