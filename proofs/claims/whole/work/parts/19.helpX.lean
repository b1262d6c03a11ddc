/-! short rows for the methods that throw, and for their callers -/
def xStr : List (Nat × String) := [(71, "many is not 1 to 8"), (82, "the text would have more than 64 bytes"), (98, "value is not 0 to 255, or many is not 1 to 64"), (100, "many is negative, or greater than the size"), (107, "there is no such place"), (110, "value is not 0 to 255"), (116, "window is not 1 to 64"), (121, "least is not 2 to 6"), (123, "greatest is not 2 to 64, or less than least"), (131, "price is not 0 to 30"), (144, "distance is not 1 to 64, or greater than the place"), (149, "n is not 1 to 255"), (174, "there is no plan"), (192, "kind is not 0 to 2"), (205, "there is no such bit"), (210, "many is not 1 to 16"), (212, "there would be more than 800 bits"), (218, "many is negative, or greater than the number of bits"), (251, "there is no such token")]
abbrev xA : String := "java/lang/IllegalArgumentException"
abbrev xS : String := "java/lang/IllegalStateException"
abbrev xI : String := "java/lang/IndexOutOfBoundsException"
abbrev xN : List String := ["java/lang/RuntimeException", "java/lang/Exception"]
theorem xA_ot : ∀ w ∈ Cond.classLink RX9 69 xA :: Cond.initialized xA :: vx_atS RX9 73 xA xN, vx_ot w = true := by decide +kernel
theorem xS_ot : ∀ w ∈ Cond.classLink RX9 80 xS :: Cond.initialized xS :: vx_atS RX9 84 xS xN, vx_ot w = true := by decide +kernel
theorem xI_ot : ∀ w ∈ Cond.classLink RX9 105 xI :: Cond.initialized xI :: vx_atS RX9 109 xI xN, vx_ot w = true := by decide +kernel
def xBad : List Cond := [.castable xA xA, .castable xS xS, .castable xI xI, .declares (Bundle.initS "java/lang/RuntimeException"), .declares (Bundle.initS "java/lang/Exception"), .declares (Bundle.initS Bundle.tN)]
theorem xA_no : ∀ w ∈ (vx_atS RX9 73 xA xN).filter (fun w => !goodWord w), w ∈ xBad := by decide +kernel
theorem xS_no : ∀ w ∈ (vx_atS RX9 84 xS xN).filter (fun w => !goodWord w), w ∈ xBad := by decide +kernel
theorem xI_no : ∀ w ∈ (vx_atS RX9 109 xI xN).filter (fun w => !goodWord w), w ∈ xBad := by decide +kernel
theorem xA_fit : Bundle.fit xA = true := by decide +kernel
theorem xS_fit : Bundle.fit xS = true := by decide +kernel
theorem xI_fit : Bundle.fit xI = true := by decide +kernel
theorem xN_fit : ∀ n ∈ xN, Bundle.fit n = true := by decide +kernel
/-- what a throw needs of the machine: the texts, Throwable's two statics, classes that aren't one another's -/
def wk_Z (A : Nat → Prop) (U : State) (H : Heap) : Prop := (∀ q ∈ xStr, ∃ a, vk_R RX9 q.1 q.2 a U) ∧ vx_Zq Bundle.tN "UNASSIGNED_STACK" Bundle.steD A U H ∧ vx_Zq Bundle.tN "SUPPRESSED_SENTINEL" Bundle.listD A U H ∧ va_Nc xS xA U ∧ va_Nc xA xI U ∧ va_Nc xI xS U ∧ ∀ w ∈ xBad, va_Nw w U
theorem xBad_warm {s U : State} (hW : s.WarmedH U.vm) (h : ∀ w ∈ xBad, va_Nw w s) : ∀ w ∈ xBad, va_Nw w U := by
  have g : ∀ k : Nat, ∀ w, xBad[k]? = some w → va_Nw w s := fun k w hk => h w (List.mem_of_getElem? hk)
  intro w hw
  obtain ⟨k, hk⟩ := List.getElem?_of_mem hw
  match k, hk with
  | 0, hk => cases hk; exact va_Nw.warmC hW (g 0 _ rfl)
  | 1, hk => cases hk; exact va_Nw.warmC hW (g 1 _ rfl)
  | 2, hk => cases hk; exact va_Nw.warmC hW (g 2 _ rfl)
  | 3, hk => cases hk; exact va_Nw.warmD hW (g 3 _ rfl)
  | 4, hk => cases hk; exact va_Nw.warmD hW (g 4 _ rfl)
  | 5, hk => cases hk; exact va_Nw.warmD hW (g 5 _ rfl)
  | k + 6, hk => simp [xBad] at hk
theorem xBad_tab : ∀ w ∈ xBad, w.onTables = true := by decide +kernel
theorem wk_Z.go {A B : Nat → Prop} {s U : State} {H0 H : Heap} {locs : List Loc} (h : wk_Z A s H0) (hS : va_S A H0 H locs) (hW : s.WarmedH U.vm) (hAB : ∀ q, B q → A q) : wk_Z B U H :=
  ⟨fun q hq => (h.1 q hq).elim fun a ha => ⟨a, vk_R.warm hW ha⟩, vx_Zq.moved hW.alike ((h.2.1.kept hS.2.1).narrow hAB), vx_Zq.moved hW.alike ((h.2.2.1.kept hS.2.1).narrow hAB), h.2.2.2.1.moved hW.alike, h.2.2.2.2.1.moved hW.alike, h.2.2.2.2.2.1.moved hW.alike, xBad_warm hW h.2.2.2.2.2.2⟩
theorem wk_Z.call {A : Nat → Prop} {U : State} {H : Heap} {g : JFrame} {mk : MethodId} {a : Array Value} (h : wk_Z A U H) : wk_Z A (U.calling g mk a) H :=
  ⟨fun q hq => (h.1 q hq).elim fun b hb => ⟨b, vk_R.same (u := U) rfl hb⟩, vx_Zq.moved (u := U) (Vm.Alike.refl U.vm) h.2.1, vx_Zq.moved (u := U) (Vm.Alike.refl U.vm) h.2.2.1, va_Nc.moved (u := U) (Vm.Alike.refl U.vm) h.2.2.2.1, va_Nc.moved (u := U) (Vm.Alike.refl U.vm) h.2.2.2.2.1, va_Nc.moved (u := U) (Vm.Alike.refl U.vm) h.2.2.2.2.2.1, fun w hw => va_Nw.same (u := U) (xBad_tab w hw) rfl (h.2.2.2.2.2.2 w hw)⟩
theorem wk_Z.use {A : Nat → Prop} {U : State} {H : Heap} (h : wk_Z A U H) (args : Array Value) : ∀ w ∈ xBad, w.before args U = true := fun w hw => va_Nw.use (xBad_tab w hw) (h.2.2.2.2.2.2 w hw)
def wk_BX (D : va_G) (tys : List (ClassId × FieldType)) (ws : va_W) (sz : Nat) (U : State) : Prop := wk_B D tys ws sz U ∧ wk_Z (va_A ws sz) U U.heap
def wk_X (D : va_G) (tys : List (ClassId × FieldType)) (A : Nat → Prop) (ws : va_W) : String → String → State → Prop := fun E u t => E = u ∧ va_P D vwCl ws t.heap ∧ va_K D vwCl tys t ∧ va_D A ws
theorem wk_blindX {D : va_G} {tys : List (ClassId × FieldType)} {ws : va_W} {sz : Nat} {av : List Value} : FrameBlind (va_Pc av (wk_BX D tys ws sz)) := fun a U g mk q => by
  obtain ⟨q0, ⟨q1, qP, qK, qD⟩, qZ⟩ := q
  exact ⟨q0, ⟨q1, qP, va_K.moved (u := U) (U := U.calling g mk a) (Vm.Alike.refl U.vm) qK, qD⟩, qZ.call⟩
theorem wk_preSX {s : State} {H : Heap} {locs : List Loc} {D : va_G} {tys : List (ClassId × FieldType)} {A : Nat → Prop} {ws wc : va_W} {av : List Value} (hK : va_K D vwCl tys s) (hP : va_P D vwCl ws H) (hD : va_D A ws) (hS : va_S A s.heap H locs) (hA : ∀ q, s.heap.size ≤ q → A q) (hZ : wk_Z A s s.heap) (isC : List Nat) (hC : isC.map (fun i => ws[i]?) = wc.map some) (hn : va_nd isC = true) : PreS s H (va_Pc av (wk_BX D tys wc H.size)) av :=
  ⟨wk_blindX, fun U hU hW => ⟨rfl, ⟨by rw [hU], by rw [hU]; exact wk_sub hP isC hC, va_K.moved hW.alike hK, (hD.sub isC hn hC).weaken (fun _ _ _ _ => trivial)⟩, by rw [hU]; exact hZ.go hS hW (va_free (wc := wc) hD hS hA isC hC)⟩⟩
theorem wk_preVX {s : State} {H : Heap} {locs : List Loc} {D : va_G} {tys : List (ClassId × FieldType)} {A : Nat → Prop} {ws wc : va_W} {b : Nat} {As : List Value} {C : String} (hK : va_K D vwCl tys s) (hP : va_P D vwCl ws H) (hD : va_D A ws) (hS : va_S A s.heap H locs) (hA : ∀ q, s.heap.size ≤ q → A q) (hZ : wk_Z A s s.heap) (isC : List Nat) (hC : isC.map (fun i => ws[i]?) = wc.map some) (hn : va_nd isC = true) (hr : ∃ cell : Cell, H[b]? = some cell ∧ cell.vm.isStatics = false ∧ s.vm.findClass C = some cell.cls) : PreV s H C b (va_Pc (.ref b :: As) (wk_BX D tys wc H.size)) As :=
  ⟨wk_blindX, hr, fun U hU hW => ⟨rfl, ⟨by rw [hU], by rw [hU]; exact wk_sub hP isC hC, va_K.moved hW.alike hK, (hD.sub isC hn hC).weaken (fun _ _ _ _ => trivial)⟩, by rw [hU]; exact hZ.go hS hW (va_free (wc := wc) hD hS hA isC hC)⟩⟩
/-- behind a throw: the world is as it was -/
theorem wk_xc {s : State} {H : Heap} {locs : List Loc} {D : va_G} {tys : List (ClassId × FieldType)} {A : Nat → Prop} {ws : va_W} {px : String → Prop} {E : String} (hP : va_P D vwCl ws H) (hD : va_D A ws) (hK : va_K D vwCl tys s) (hS : va_S A s.heap H locs) (h : px E) : ∀ t : State, s.vm.Alike t.vm → H.size ≤ t.heap.size → (∀ q : Nat, q < H.size → t.heap[q]? = H[q]?) → vx_X px (wk_X D tys A ws) A E s t :=
  fun t ha hz hk => ⟨E, h, ⟨rfl, hP.kept (fun k q hq => hk q.1 ((hP k q hq).lt)), va_K.moved ha hK, hD⟩, ⟨Nat.le_trans hS.1 hz, fun q h1 h2 => (hk q (Nat.lt_of_lt_of_le h1 hS.1)).trans (hS.2.1 q h1 h2)⟩⟩
theorem wk_xo {s : State} {H : Heap} {locs : List Loc} {D : va_G} {tys : List (ClassId × FieldType)} {A : Nat → Prop} {ws : va_W} {px : String → Prop} {E : String} (hP : va_P D vwCl ws H) (hD : va_D A ws) (hK : va_K D vwCl tys s) (hS : va_S A s.heap H locs) (h : px E) : ∀ t : State, t.heap = H → s.vm.Alike t.vm → vx_X px (wk_X D tys A ws) A E s t :=
  fun t ht ha => ⟨E, h, ⟨rfl, by rw [ht]; exact hP, va_K.moved ha hK, hD⟩, hS.F ht⟩
section WKX
variable {p : Program} {l : Launch} {e : Env} {R : Room} {s : State} {m : MethodId} {args : Array Value} {below : List Frame} {meth : Method} {c : Code} {H H0 : Heap} {locs : List Loc} {cells slots mc ms : Nat} {Q : State → Prop} {D : va_G} {tys : List (ClassId × FieldType)} {ws wc wr : va_W} {A0 : Nat → Prop} {S : Type} {f : S → va_W} {a : Array Value} {pc : Nat} {ls : Array Slot} {st0 rest : List Value} {px : String → Prop}
theorem wk_xcalli {post : Int32 → S → Prop} (hr : vx_Run p l e R s m args below meth c H locs cells slots mc ms (F0 m pc ls st0) rest (va_Qi post (wk_C D tys (va_A wc H.size) f) (va_A wc H.size) a) (vx_X px (wk_X D tys (va_A wc H.size) wc) (va_A wc H.size)) (va_A wc H.size)) (hP : va_P D vwCl ws H) (hD : va_D A0 ws) (hS : va_S A0 H0 H locs) (hA : ∀ q, H0.size ≤ q → A0 q) (isC isR : List Nat) (hC : isC.map (fun i => ws[i]?) = wc.map some) (hR : isR.map (fun i => ws[i]?) = wr.map some) (hn : va_nd isR = true) (hdis : ∀ i ∈ isR, i ∉ isC)
    (kx : ∀ (E : String) (ce : Cell) (q9 : Addr) (H1 : Heap) (locs1 : List Loc), px E → va_P D vwCl (wr ++ wc) H1 → va_D A0 (wr ++ wc) → va_S A0 H0 H1 locs1 → H1[q9]? = some ce → ce.vm = .none → s.vm.findClass E = some ce.cls → vx_W p l e R s m args below meth c H1 locs1 (cells + mc) (slots + ms) Q (F0 m pc ls rest) q9)
    (kk : ∀ (r : Int32) (u : S) (H1 : Heap) (locs1 : List Loc), post r u → va_P D vwCl (wr ++ f u) H1 → va_D A0 (wr ++ f u) → va_S A0 H0 H1 locs1 → W p l e R s m args below meth c H1 locs1 (cells + mc) (slots + ms) Q (F0 m (pc + 3) ls (.int r :: rest))) : W p l e R s m args below meth c H locs cells slots Q (F0 m pc ls st0) := by
  have hFc := va_free (wc := wc) hD hS hA isC hC
  refine vx_calli hr hS (fun q _ h => hFc q h) hFc (fun q _ h => hFc q h) (fun E ce q9 u t H1 locs1 ht hvm hpx hB hz1 hk1 hS1 hc1 hc2 hc3 => ?_) (fun r u t H1 locs1 ht hvm hw hB hz1 hk1 hS1 => ?_)
  · obtain ⟨rfl, hP1, hK1, hD1⟩ := hB
    rw [ht] at hP1
    obtain ⟨hP2, hD2⟩ := va_join (wr := wr) (w1 := wc) hP hD isC isR hC hR hn hdis hk1 hFc hP1 hD1
    exact kx E ce q9 H1 locs1 hpx hP2 hD2 hS1 hc1 hc2 hc3
  · obtain ⟨hP1, hK1, hD1⟩ := hB
    rw [ht] at hP1
    obtain ⟨hP2, hD2⟩ := va_join (wr := wr) (w1 := f u) hP hD isC isR hC hR hn hdis hk1 hFc hP1 hD1
    exact kk r u H1 locs1 hw hP2 hD2 hS1
theorem wk_xcalld {post : UInt64 → S → Prop} (hr : vx_Run p l e R s m args below meth c H locs cells slots mc ms (F0 m pc ls st0) rest (va_Qd post (wk_C D tys (va_A wc H.size) f) (va_A wc H.size) a) (vx_X px (wk_X D tys (va_A wc H.size) wc) (va_A wc H.size)) (va_A wc H.size)) (hP : va_P D vwCl ws H) (hD : va_D A0 ws) (hS : va_S A0 H0 H locs) (hA : ∀ q, H0.size ≤ q → A0 q) (isC isR : List Nat) (hC : isC.map (fun i => ws[i]?) = wc.map some) (hR : isR.map (fun i => ws[i]?) = wr.map some) (hn : va_nd isR = true) (hdis : ∀ i ∈ isR, i ∉ isC)
    (kx : ∀ (E : String) (ce : Cell) (q9 : Addr) (H1 : Heap) (locs1 : List Loc), px E → va_P D vwCl (wr ++ wc) H1 → va_D A0 (wr ++ wc) → va_S A0 H0 H1 locs1 → H1[q9]? = some ce → ce.vm = .none → s.vm.findClass E = some ce.cls → vx_W p l e R s m args below meth c H1 locs1 (cells + mc) (slots + ms) Q (F0 m pc ls rest) q9)
    (kk : ∀ (r : UInt64) (u : S) (H1 : Heap) (locs1 : List Loc), post r u → va_P D vwCl (wr ++ f u) H1 → va_D A0 (wr ++ f u) → va_S A0 H0 H1 locs1 → W p l e R s m args below meth c H1 locs1 (cells + mc) (slots + ms) Q (F0 m (pc + 3) ls (.double r :: rest))) : W p l e R s m args below meth c H locs cells slots Q (F0 m pc ls st0) := by
  have hFc := va_free (wc := wc) hD hS hA isC hC
  refine vx_calld hr hS (fun q _ h => hFc q h) hFc (fun q _ h => hFc q h) (fun E ce q9 u t H1 locs1 ht hvm hpx hB hz1 hk1 hS1 hc1 hc2 hc3 => ?_) (fun r u t H1 locs1 ht hvm hw hB hz1 hk1 hS1 => ?_)
  · obtain ⟨rfl, hP1, hK1, hD1⟩ := hB
    rw [ht] at hP1
    obtain ⟨hP2, hD2⟩ := va_join (wr := wr) (w1 := wc) hP hD isC isR hC hR hn hdis hk1 hFc hP1 hD1
    exact kx E ce q9 H1 locs1 hpx hP2 hD2 hS1 hc1 hc2 hc3
  · obtain ⟨hP1, hK1, hD1⟩ := hB
    rw [ht] at hP1
    obtain ⟨hP2, hD2⟩ := va_join (wr := wr) (w1 := f u) hP hD isC isR hC hR hn hdis hk1 hFc hP1 hD1
    exact kk r u H1 locs1 hw hP2 hD2 hS1
theorem wk_xcallv {post : S → Prop} (hr : vx_Run p l e R s m args below meth c H locs cells slots mc ms (F0 m pc ls st0) rest (va_Qv post (wk_C D tys (va_A wc H.size) f) (va_A wc H.size) a) (vx_X px (wk_X D tys (va_A wc H.size) wc) (va_A wc H.size)) (va_A wc H.size)) (hP : va_P D vwCl ws H) (hD : va_D A0 ws) (hS : va_S A0 H0 H locs) (hA : ∀ q, H0.size ≤ q → A0 q) (isC isR : List Nat) (hC : isC.map (fun i => ws[i]?) = wc.map some) (hR : isR.map (fun i => ws[i]?) = wr.map some) (hn : va_nd isR = true) (hdis : ∀ i ∈ isR, i ∉ isC)
    (kx : ∀ (E : String) (ce : Cell) (q9 : Addr) (H1 : Heap) (locs1 : List Loc), px E → va_P D vwCl (wr ++ wc) H1 → va_D A0 (wr ++ wc) → va_S A0 H0 H1 locs1 → H1[q9]? = some ce → ce.vm = .none → s.vm.findClass E = some ce.cls → vx_W p l e R s m args below meth c H1 locs1 (cells + mc) (slots + ms) Q (F0 m pc ls rest) q9)
    (kk : ∀ (u : S) (H1 : Heap) (locs1 : List Loc), post u → va_P D vwCl (wr ++ f u) H1 → va_D A0 (wr ++ f u) → va_S A0 H0 H1 locs1 → W p l e R s m args below meth c H1 locs1 (cells + mc) (slots + ms) Q (F0 m (pc + 3) ls rest)) : W p l e R s m args below meth c H locs cells slots Q (F0 m pc ls st0) := by
  have hFc := va_free (wc := wc) hD hS hA isC hC
  refine vx_callv hr hS (fun q _ h => hFc q h) hFc (fun q _ h => hFc q h) (fun E ce q9 u t H1 locs1 ht hvm hpx hB hz1 hk1 hS1 hc1 hc2 hc3 => ?_) (fun u t H1 locs1 ht hvm hw hB hz1 hk1 hS1 => ?_)
  · obtain ⟨rfl, hP1, hK1, hD1⟩ := hB
    rw [ht] at hP1
    obtain ⟨hP2, hD2⟩ := va_join (wr := wr) (w1 := wc) hP hD isC isR hC hR hn hdis hk1 hFc hP1 hD1
    exact kx E ce q9 H1 locs1 hpx hP2 hD2 hS1 hc1 hc2 hc3
  · obtain ⟨hP1, hK1, hD1⟩ := hB
    rw [ht] at hP1
    obtain ⟨hP2, hD2⟩ := va_join (wr := wr) (w1 := f u) hP hD isC isR hC hR hn hdis hk1 hFc hP1 hD1
    exact kk u H1 locs1 hw hP2 hD2 hS1
end WKX
