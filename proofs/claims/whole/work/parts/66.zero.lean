theorem zt_0 : Cond.stringRef RX9 71 "many is not 1 to 8" ∈ lw_tbl := List.mem_of_getElem? (i := 524) (by decide +kernel)
theorem ze_0 : Cond.exactly (.string RX9 71) "java/lang/String" ∈ flatC (Jvm.Cond.and given_1 narrow_1) := List.mem_of_getElem? (i := 42) (by decide +kernel)
theorem zt_1 : Cond.stringRef RX9 82 "the text would have more than 64 bytes" ∈ lw_tbl := List.mem_of_getElem? (i := 560) (by decide +kernel)
theorem ze_1 : Cond.exactly (.string RX9 82) "java/lang/String" ∈ flatC (Jvm.Cond.and given_1 narrow_1) := List.mem_of_getElem? (i := 64) (by decide +kernel)
theorem zt_2 : Cond.stringRef RX9 98 "value is not 0 to 255, or many is not 1 to 64" ∈ lw_tbl := List.mem_of_getElem? (i := 586) (by decide +kernel)
theorem ze_2 : Cond.exactly (.string RX9 98) "java/lang/String" ∈ flatC (Jvm.Cond.and given_1 narrow_1) := List.mem_of_getElem? (i := 107) (by decide +kernel)
theorem zt_3 : Cond.stringRef RX9 100 "many is negative, or greater than the size" ∈ lw_tbl := List.mem_of_getElem? (i := 594) (by decide +kernel)
theorem ze_3 : Cond.exactly (.string RX9 100) "java/lang/String" ∈ flatC (Jvm.Cond.and given_1 narrow_1) := List.mem_of_getElem? (i := 158) (by decide +kernel)
theorem zt_4 : Cond.stringRef RX9 107 "there is no such place" ∈ lw_tbl := List.mem_of_getElem? (i := 616) (by decide +kernel)
theorem ze_4 : Cond.exactly (.string RX9 107) "java/lang/String" ∈ flatC (Jvm.Cond.and given_1 narrow_1) := List.mem_of_getElem? (i := 207) (by decide +kernel)
theorem zt_5 : Cond.stringRef RX9 110 "value is not 0 to 255" ∈ lw_tbl := List.mem_of_getElem? (i := 623) (by decide +kernel)
theorem ze_5 : Cond.exactly (.string RX9 110) "java/lang/String" ∈ flatC (Jvm.Cond.and given_1 narrow_1) := List.mem_of_getElem? (i := 237) (by decide +kernel)
theorem zt_6 : Cond.stringRef RX9 116 "window is not 1 to 64" ∈ lw_tbl := List.mem_of_getElem? (i := 638) (by decide +kernel)
theorem ze_6 : Cond.exactly (.string RX9 116) "java/lang/String" ∈ flatC (Jvm.Cond.and given_1 narrow_1) := List.mem_of_getElem? (i := 267) (by decide +kernel)
theorem zt_7 : Cond.stringRef RX9 121 "least is not 2 to 6" ∈ lw_tbl := List.mem_of_getElem? (i := 646) (by decide +kernel)
theorem ze_7 : Cond.exactly (.string RX9 121) "java/lang/String" ∈ flatC (Jvm.Cond.and given_1 narrow_1) := List.mem_of_getElem? (i := 298) (by decide +kernel)
theorem zt_8 : Cond.stringRef RX9 123 "greatest is not 2 to 64, or less than least" ∈ lw_tbl := List.mem_of_getElem? (i := 647) (by decide +kernel)
theorem ze_8 : Cond.exactly (.string RX9 123) "java/lang/String" ∈ flatC (Jvm.Cond.and given_1 narrow_1) := List.mem_of_getElem? (i := 328) (by decide +kernel)
theorem zt_9 : Cond.stringRef RX9 131 "price is not 0 to 30" ∈ lw_tbl := List.mem_of_getElem? (i := 655) (by decide +kernel)
theorem ze_9 : Cond.exactly (.string RX9 131) "java/lang/String" ∈ flatC (Jvm.Cond.and given_1 narrow_1) := List.mem_of_getElem? (i := 383) (by decide +kernel)
theorem zt_10 : Cond.stringRef RX9 144 "distance is not 1 to 64, or greater than the place" ∈ lw_tbl := List.mem_of_getElem? (i := 679) (by decide +kernel)
theorem ze_10 : Cond.exactly (.string RX9 144) "java/lang/String" ∈ flatC (Jvm.Cond.and given_1 narrow_1) := List.mem_of_getElem? (i := 416) (by decide +kernel)
theorem zt_11 : Cond.stringRef RX9 149 "n is not 1 to 255" ∈ lw_tbl := List.mem_of_getElem? (i := 688) (by decide +kernel)
theorem ze_11 : Cond.exactly (.string RX9 149) "java/lang/String" ∈ flatC (Jvm.Cond.and given_1 narrow_1) := List.mem_of_getElem? (i := 480) (by decide +kernel)
theorem zt_12 : Cond.stringRef RX9 174 "there is no plan" ∈ lw_tbl := List.mem_of_getElem? (i := 697) (by decide +kernel)
theorem ze_12 : Cond.exactly (.string RX9 174) "java/lang/String" ∈ flatC (Jvm.Cond.and given_1 narrow_1) := List.mem_of_getElem? (i := 512) (by decide +kernel)
theorem zt_13 : Cond.stringRef RX9 192 "kind is not 0 to 2" ∈ lw_tbl := List.mem_of_getElem? (i := 738) (by decide +kernel)
theorem ze_13 : Cond.exactly (.string RX9 192) "java/lang/String" ∈ flatC (Jvm.Cond.and given_1 narrow_1) := List.mem_of_getElem? (i := 583) (by decide +kernel)
theorem zt_14 : Cond.stringRef RX9 205 "there is no such bit" ∈ lw_tbl := List.mem_of_getElem? (i := 782) (by decide +kernel)
theorem ze_14 : Cond.exactly (.string RX9 205) "java/lang/String" ∈ flatC (Jvm.Cond.and given_1 narrow_1) := List.mem_of_getElem? (i := 619) (by decide +kernel)
theorem zt_15 : Cond.stringRef RX9 210 "many is not 1 to 16" ∈ lw_tbl := List.mem_of_getElem? (i := 797) (by decide +kernel)
theorem ze_15 : Cond.exactly (.string RX9 210) "java/lang/String" ∈ flatC (Jvm.Cond.and given_1 narrow_1) := List.mem_of_getElem? (i := 658) (by decide +kernel)
theorem zt_16 : Cond.stringRef RX9 212 "there would be more than 800 bits" ∈ lw_tbl := List.mem_of_getElem? (i := 798) (by decide +kernel)
theorem ze_16 : Cond.exactly (.string RX9 212) "java/lang/String" ∈ flatC (Jvm.Cond.and given_1 narrow_1) := List.mem_of_getElem? (i := 697) (by decide +kernel)
theorem zt_17 : Cond.stringRef RX9 218 "many is negative, or greater than the number of bits" ∈ lw_tbl := List.mem_of_getElem? (i := 806) (by decide +kernel)
theorem ze_17 : Cond.exactly (.string RX9 218) "java/lang/String" ∈ flatC (Jvm.Cond.and given_1 narrow_1) := List.mem_of_getElem? (i := 751) (by decide +kernel)
theorem zt_18 : Cond.stringRef RX9 251 "there is no such token" ∈ lw_tbl := List.mem_of_getElem? (i := 709) (by decide +kernel)
theorem ze_18 : Cond.exactly (.string RX9 251) "java/lang/String" ∈ flatC (Jvm.Cond.and given_1 narrow_1) := List.mem_of_getElem? (i := 544) (by decide +kernel)
theorem xStr_in : ∀ q ∈ xStr, Cond.stringRef RX9 q.1 q.2 ∈ lw_tbl ∧ Cond.exactly (.string RX9 q.1) "java/lang/String" ∈ flatC (Jvm.Cond.and given_1 narrow_1) := List.forall_mem_cons.mpr ⟨⟨zt_0, ze_0⟩, List.forall_mem_cons.mpr ⟨⟨zt_1, ze_1⟩, List.forall_mem_cons.mpr ⟨⟨zt_2, ze_2⟩, List.forall_mem_cons.mpr ⟨⟨zt_3, ze_3⟩, List.forall_mem_cons.mpr ⟨⟨zt_4, ze_4⟩, List.forall_mem_cons.mpr ⟨⟨zt_5, ze_5⟩, List.forall_mem_cons.mpr ⟨⟨zt_6, ze_6⟩, List.forall_mem_cons.mpr ⟨⟨zt_7, ze_7⟩, List.forall_mem_cons.mpr ⟨⟨zt_8, ze_8⟩, List.forall_mem_cons.mpr ⟨⟨zt_9, ze_9⟩, List.forall_mem_cons.mpr ⟨⟨zt_10, ze_10⟩, List.forall_mem_cons.mpr ⟨⟨zt_11, ze_11⟩, List.forall_mem_cons.mpr ⟨⟨zt_12, ze_12⟩, List.forall_mem_cons.mpr ⟨⟨zt_13, ze_13⟩, List.forall_mem_cons.mpr ⟨⟨zt_14, ze_14⟩, List.forall_mem_cons.mpr ⟨⟨zt_15, ze_15⟩, List.forall_mem_cons.mpr ⟨⟨zt_16, ze_16⟩, List.forall_mem_cons.mpr ⟨⟨zt_17, ze_17⟩, List.forall_mem_cons.mpr ⟨⟨zt_18, ze_18⟩, fun _ h => absurd h List.not_mem_nil⟩⟩⟩⟩⟩⟩⟩⟩⟩⟩⟩⟩⟩⟩⟩⟩⟩⟩⟩
theorem zu : Cond.laysStatic Bundle.tN "UNASSIGNED_STACK" Bundle.steD ∈ lw_tbl := List.mem_of_getElem? (i := 510) (by decide +kernel)
theorem zn : Cond.laysStatic Bundle.tN "SUPPRESSED_SENTINEL" Bundle.listD ∈ lw_tbl := List.mem_of_getElem? (i := 512) (by decide +kernel)
theorem zi : Cond.initialized Bundle.tN ∈ lw_tbl := List.mem_of_getElem? (i := 55) (by decide +kernel)
theorem zru : Cond.isRef (.static Bundle.tN "UNASSIGNED_STACK" Bundle.steD) ∈ flatC (Jvm.Cond.and given_1 narrow_1) := List.mem_of_getElem? (i := 4) (by decide +kernel)
theorem zrn : Cond.isRef (.static Bundle.tN "SUPPRESSED_SENTINEL" Bundle.listD) ∈ flatC (Jvm.Cond.and given_1 narrow_1) := List.mem_of_getElem? (i := 5) (by decide +kernel)
theorem zc1 : Cond.not (.castable xS xA) ∈ flatC (Jvm.Cond.and given_1 narrow_1) := List.mem_of_getElem? (i := 16) (by decide +kernel)
theorem zc2 : Cond.not (.castable xA xI) ∈ flatC (Jvm.Cond.and given_1 narrow_1) := List.mem_of_getElem? (i := 40) (by decide +kernel)
theorem zc3 : Cond.not (.castable xI xS) ∈ flatC (Jvm.Cond.and given_1 narrow_1) := List.mem_of_getElem? (i := 29) (by decide +kernel)
theorem zb_0 : (.castable xA xA : Cond) ∈ lw_tbl := List.mem_of_getElem? (i := 485) (by decide +kernel)
theorem zb_1 : (.castable xS xS : Cond) ∈ lw_tbl := List.mem_of_getElem? (i := 553) (by decide +kernel)
theorem zb_2 : (.castable xI xI : Cond) ∈ lw_tbl := List.mem_of_getElem? (i := 609) (by decide +kernel)
theorem zb_3 : (.declares (Bundle.initS "java/lang/RuntimeException") : Cond) ∈ lw_tbl := List.mem_of_getElem? (i := 487) (by decide +kernel)
theorem zb_4 : (.declares (Bundle.initS "java/lang/Exception") : Cond) ∈ lw_tbl := List.mem_of_getElem? (i := 489) (by decide +kernel)
theorem zb_5 : (.declares (Bundle.initS Bundle.tN) : Cond) ∈ lw_tbl := List.mem_of_getElem? (i := 491) (by decide +kernel)
theorem xBad_in : ∀ w ∈ xBad, w ∈ lw_tbl := List.forall_mem_cons.mpr ⟨zb_0, List.forall_mem_cons.mpr ⟨zb_1, List.forall_mem_cons.mpr ⟨zb_2, List.forall_mem_cons.mpr ⟨zb_3, List.forall_mem_cons.mpr ⟨zb_4, List.forall_mem_cons.mpr ⟨zb_5, fun _ h => absurd h List.not_mem_nil⟩⟩⟩⟩⟩⟩
theorem zk_0 : Cond.methodLinkNest RX9 9 yX8_init RX9 ∈ lw_tbl := List.mem_of_getElem? (i := 73) (by decide +kernel)
theorem zk_1 : Cond.methodLinkNest RX9 18 yX7_init RX9 ∈ lw_tbl := List.mem_of_getElem? (i := 92) (by decide +kernel)
theorem zk_2 : Cond.methodLinkNest RX9 50 yX4_init RX9 ∈ lw_tbl := List.mem_of_getElem? (i := 176) (by decide +kernel)
theorem zk_3 : Cond.methodLinkNest RX9 57 yX1_init RX9 ∈ lw_tbl := List.mem_of_getElem? (i := 207) (by decide +kernel)
theorem zk_4 : Cond.methodLinkNest RX9 64 yX6_init RX9 ∈ lw_tbl := List.mem_of_getElem? (i := 224) (by decide +kernel)
theorem xNest_in : ∀ w ∈ xNest, w ∈ lw_tbl := List.forall_mem_cons.mpr ⟨zk_0, List.forall_mem_cons.mpr ⟨zk_1, List.forall_mem_cons.mpr ⟨zk_2, List.forall_mem_cons.mpr ⟨zk_3, List.forall_mem_cons.mpr ⟨zk_4, fun _ h => absurd h List.not_mem_nil⟩⟩⟩⟩⟩
theorem zzX0 : Cond.instantiable RX0 7 ∈ lw_tbl := List.mem_of_getElem? (i := 147) (by decide +kernel)
theorem zzX1 : Cond.instantiable RX1 2 ∈ lw_tbl := List.mem_of_getElem? (i := 206) (by decide +kernel)
theorem zzX3 : Cond.instantiable RX3 2 ∈ lw_tbl := List.mem_of_getElem? (i := 121) (by decide +kernel)
theorem zzX4 : Cond.instantiable RX4 6 ∈ lw_tbl := List.mem_of_getElem? (i := 175) (by decide +kernel)
theorem zzX5 : Cond.instantiable RX5 2 ∈ lw_tbl := List.mem_of_getElem? (i := 134) (by decide +kernel)
theorem zzX6 : Cond.instantiable RX6 5 ∈ lw_tbl := List.mem_of_getElem? (i := 223) (by decide +kernel)
theorem zzX7 : Cond.instantiable RX7 4 ∈ lw_tbl := List.mem_of_getElem? (i := 91) (by decide +kernel)
theorem zzX8 : Cond.instantiable RX8 2 ∈ lw_tbl := List.mem_of_getElem? (i := 72) (by decide +kernel)
theorem zzX9 : Cond.instantiable RX9 8 ∈ lw_tbl := List.mem_of_getElem? (i := 64) (by decide +kernel)
theorem zzX10 : Cond.instantiable RX10 27 ∈ lw_tbl := List.mem_of_getElem? (i := 815) (by decide +kernel)
/-- what a throw needs, at the start -/
theorem start_Z {args : Array Value} {s : State} (hts : ∀ w ∈ lw_tbl, w.before args s = true) (hgv : (Jvm.Cond.and given_1 narrow_1).before args s = true) : wk_Z (fun q : Nat => s.heap.size ≤ q) s s.heap := by
  have hs := flat_of_before _ hgv
  refine ⟨fun q hq => ?_, vx_Zqof (hts _ zu) (hts _ zi) (hs _ zru) (fun a h => Nat.not_le.mpr h), vx_Zqof (hts _ zn) (hts _ zi) (hs _ zrn) (fun a h => Nat.not_le.mpr h), va_Nc.of (hs _ zc1), va_Nc.of (hs _ zc2), va_Nc.of (hs _ zc3), fun w hw => va_Nw.of (xBad_tab w hw) (hts w (xBad_in w hw))⟩
  obtain ⟨h1, h2⟩ := xStr_in q hq
  obtain ⟨a, c, cell, k, q1, -⟩ := Cond.exactly_spec (hs _ h2)
  exact ⟨a, vk_R.of (hts _ h1) q1⟩
theorem start_arr {args : Array Value} {s : State} {ty : FieldType} (h : (Cond.arrayClass ty).before args s = true) : ∃ cA : ClassId, ArrOfT s cA ty ∧ s.vm.findClass ("[" ++ ty.toString) = some cA := by
  obtain ⟨cA, kA, comp, h1, h2, h3⟩ := Cond.arrayClass_spec h
  exact ⟨cA, fun n z => ⟨fun k h => (by cases h), kA, h2, comp, h3⟩, h1⟩
theorem start_K {args : Array Value} {s : State} (hts : ∀ w ∈ lw_tbl, w.before args s = true) : ∃ (dC : Nat → ClassId) (dI : Nat → Nat → Nat), ∀ (k : Nat) (q : vw_C), vwCl[k]? = some q → u_Kn s q.1 q.2.1 q.2.2 (dC k) (dI k) := by
  obtain ⟨c0, i0, k0⟩ := u_known (C := RX0) (T := TX0) (N := 7) (n := 7) hts inX0 (hts _ zzX0)
  obtain ⟨c1, i1, k1⟩ := u_known (C := RX1) (T := TX1) (N := 2) (n := 2) hts inX1 (hts _ zzX1)
  obtain ⟨c2, i2, k2⟩ := u_known (C := RX3) (T := TX3) (N := 2) (n := 2) hts inX3 (hts _ zzX3)
  obtain ⟨c3, i3, k3⟩ := u_known (C := RX4) (T := TX4) (N := 6) (n := 6) hts inX4 (hts _ zzX4)
  obtain ⟨c4, i4, k4⟩ := u_known (C := RX5) (T := TX5) (N := 2) (n := 2) hts inX5 (hts _ zzX5)
  obtain ⟨c5, i5, k5⟩ := u_known (C := RX6) (T := TX6) (N := 5) (n := 5) hts inX6 (hts _ zzX6)
  obtain ⟨c6, i6, k6⟩ := u_known (C := RX7) (T := TX7) (N := 4) (n := 4) hts inX7 (hts _ zzX7)
  obtain ⟨c7, i7, k7⟩ := u_known (C := RX8) (T := TX8) (N := 2) (n := 2) hts inX8 (hts _ zzX8)
  obtain ⟨c8, i8, k8⟩ := u_known (C := RX9) (T := TX9) (N := 8) (n := 8) hts inX9 (hts _ zzX9)
  obtain ⟨c9, i9, k9⟩ := u_known (C := RX10) (T := TX10) (N := 27) (n := 27) hts inX10 (hts _ zzX10)
  refine ⟨fun k => if k = 0 then c0 else if k = 1 then c1 else if k = 2 then c2 else if k = 3 then c3 else if k = 4 then c4 else if k = 5 then c5 else if k = 6 then c6 else if k = 7 then c7 else if k = 8 then c8 else c9, fun k => if k = 0 then i0 else if k = 1 then i1 else if k = 2 then i2 else if k = 3 then i3 else if k = 4 then i4 else if k = 5 then i5 else if k = 6 then i6 else if k = 7 then i7 else if k = 8 then i8 else i9, ?_⟩
  intro k q hq
  match k, hq with
  | 0, hq => cases hq; exact k0
  | 1, hq => cases hq; exact k1
  | 2, hq => cases hq; exact k2
  | 3, hq => cases hq; exact k3
  | 4, hq => cases hq; exact k4
  | 5, hq => cases hq; exact k5
  | 6, hq => cases hq; exact k6
  | 7, hq => cases hq; exact k7
  | 8, hq => cases hq; exact k8
  | 9, hq => cases hq; exact k9
  | k + 10, hq => simp [vwCl] at hq
