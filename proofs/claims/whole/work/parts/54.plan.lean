-- the bits of a token, and of all tokens
def tbn (K l d : Nat) : Nat := if K = 0 then 9 else if K = 1 then 2 + wdt d + wdt (l - 1) else 2 + wdt l
theorem wdt_lin {m : Nat} (h : 1 ≤ m) : wdt m ≤ 2 * m - 1 := by unfold wdt; (repeat' split) <;> omega
theorem wdt_64 {d : Nat} (h : d ≤ 64) : wdt d ≤ 13 := by unfold wdt; (repeat' split) <;> omega
theorem tbn_le {K l d : Nat} (ok : tokOK K l d) : tbn K l d ≤ 9 * l := by
  rcases ok with ⟨rfl, rfl, rfl⟩ | ⟨rfl, hl, hd⟩ | ⟨rfl, hl, hd⟩
  · decide
  · have h1 := wdt_64 hd.2
    have h2 := wdt_lin (m := l - 1) (by omega)
    show 2 + wdt d + wdt (l - 1) ≤ 9 * l
    omega
  · have h2 := wdt_lin (m := l) (by omega)
    show 2 + wdt l ≤ 9 * l
    omega
theorem i_add0 (x : Int32) : x + 0 = x := by
  apply Int32.toBitVec_inj.mp
  show x.toBitVec + 0#32 = x.toBitVec
  simp
theorem i_2ab (a b : Nat) : (2 + nI a) + nI b = nI (2 + a + b) := by
  rw [show (2 : Int32) = nI 2 from rfl, nI_add, nI_add]
theorem i_2a (a : Nat) : 2 + nI a = nI (2 + a) := by
  rw [show (2 : Int32) = nI 2 from rfl, nI_add]
theorem i_p1 {l : Nat} (h : 1 ≤ l) : nI l - 1 = nI (l - 1) := pk_sub (b := 1) h
theorem sX2_matchBits {d l : Nat} {post : Int32 → Prop} (hd : d < 256) (hl : 1 ≤ l ∧ l < 256) (h : post (nI (2 + wdt d + wdt (l - 1)))) : wpX2_matchBits (nI d) (nI l) post := by
  unfold wpX2_matchBits
  refine sX2_numberBits hd ?_
  rw [i_p1 hl.1]
  refine sX2_numberBits (by omega) ?_
  rw [i_2ab]
  exact h
theorem sX2_againBits {l : Nat} {post : Int32 → Prop} (hl : l < 256) (h : post (nI (2 + wdt l))) : wpX2_againBits (nI l) post := by
  unfold wpX2_againBits
  refine sX2_numberBits hl ?_
  rw [i_2a]
  exact h
theorem sX4_bitsOf {pk pl pd : Nat → Int32} {i K l d : Nat} {post : Int32 → Prop} (hi : i < 64) (e1 : pk i = nI K) (e2 : pl i = nI l) (e3 : pd i = nI d) (ok : tokOK K l d) (h : post (nI (tbn K l d))) : wpX4_bitsOf pk pl pd (nI i) post := by
  unfold wpX4_bitsOf
  rw [nI_clamp (by omega), e1, e2, e3]
  refine ⟨vp_in_nI hi (by decide), ?_⟩
  rcases ok with ⟨rfl, rfl, rfl⟩ | ⟨rfl, hl, hd⟩ | ⟨rfl, hl, hd⟩
  · exact br_t nI_0 h
  · exact br_f (nI_ne0 (by decide) (by decide)) (br_t rfl (sX2_matchBits (by omega) (by omega) h))
  · exact br_f (nI_ne0 (by decide) (by decide)) (br_f (by decide) (sX2_againBits (by omega) h))
theorem sX10_bitsOf {K l d : Nat} {post : Int32 → Prop} (ok : tokOK K l d) (h : post (nI (tbn K l d))) : wpX10_bitsOf (nI K) (nI l) (nI d) post := by
  unfold wpX10_bitsOf
  rcases ok with ⟨rfl, rfl, rfl⟩ | ⟨rfl, hl, hd⟩ | ⟨rfl, hl, hd⟩
  · exact br_t nI_0 h
  · refine br_f (nI_ne0 (by decide) (by decide)) (br_t rfl (sX10_width (by omega) (by omega) ?_))
    rw [i_p1 (by omega)]
    refine sX10_width (by omega) (by omega) ?_
    rw [i_2ab]
    exact h
  · refine br_f (nI_ne0 (by decide) (by decide)) (br_f (by decide) (sX10_width (by omega) (by omega) ?_))
    rw [i_2a]
    exact h
def sumB (K Ls D : Nat → Nat) : Nat → Nat
  | 0 => 0
  | i + 1 => sumB K Ls D i + tbn (K i) (Ls i) (D i)
def Toks (pk pl pd ps : Nat → Int32) (K Ls D P : Nat → Nat) (k : Nat) : Prop := ∀ i, i < k → (pk i = nI (K i) ∧ pl i = nI (Ls i) ∧ pd i = nI (D i) ∧ ps i = nI (P i)) ∧ P (i + 1) = P i + Ls i ∧ tokOK (K i) (Ls i) (D i)
theorem sumB_le {pk pl pd ps : Nat → Int32} {K Ls D P : Nat → Nat} {k : Nat} (hp : Toks pk pl pd ps K Ls D P k) (h0 : P 0 = 0) : ∀ i, i ≤ k → sumB K Ls D i ≤ 9 * P i
  | 0, _ => by rw [sumB]; omega
  | i + 1, hi => by
    have h1 := sumB_le hp h0 i (by omega)
    obtain ⟨-, h2, h3⟩ := hp i (by omega)
    have h4 := tbn_le h3
    rw [sumB, h2]
    omega
theorem baX {pk pl pd ps : Nat → Int32} {K Ls D P : Nat → Nat} {k : Nat} {Kc : Int32 → Prop} (hk : k ≤ 64) (hp : Toks pk pl pd ps K Ls D P k) : ∀ (j fuel i : Nat), i + j = k → j < fuel → Kc (nI (sumB K Ls D k)) → wpX4_bitsOfAll_4 (nI k) pk pl pd Kc fuel (nI (sumB K Ls D i)) (nI i) := by
  intro j
  induction j with
  | zero =>
    intro fuel i hi hf h
    obtain ⟨f, rfl⟩ : ∃ f, fuel = f + 1 := ⟨fuel - 1, by omega⟩
    rw [wpX4_bitsOfAll_4]
    refine br_t (nI_le (by omega) (by omega)) ?_
    rw [show i = k by omega]
    exact h
  | succ j ih =>
    intro fuel i hi hf h
    obtain ⟨f, rfl⟩ : ∃ f, fuel = f + 1 := ⟨fuel - 1, by omega⟩
    obtain ⟨⟨e1, e2, e3, -⟩, -, ok⟩ := hp i (by omega)
    rw [wpX4_bitsOfAll_4]
    refine br_f (nI_ge (by omega) (by omega)) (sX4_bitsOf (by omega) e1 e2 e3 ok ?_)
    rw [nI_add, nI_1]
    exact ih f (i + 1) (by omega) (by omega) h
theorem sX4_bitsOfAll {pk pl pd ps : Nat → Int32} {K Ls D P : Nat → Nat} {k : Nat} {post : Int32 → Prop} (hk : k ≤ 64) (hp : Toks pk pl pd ps K Ls D P k) (h : post (nI (sumB K Ls D k))) : wpX4_bitsOfAll (nI k) pk pl pd post :=
  ⟨k + 1, baX hk hp k (k + 1) 0 (by omega) (by omega) h⟩
theorem sX9_costOfPlan {pk pl pd ps : Nat → Int32} {K Ls D P : Nat → Nat} {k pr : Nat} {post : Int32 → Prop} (hk : k ≤ 64) (hp : Toks pk pl pd ps K Ls D P k) (h : post (nI (sumB K Ls D k + pr * k))) : wpX9_costOfPlan (nI pr) (nI k) pk pl pd post := by
  unfold wpX9_costOfPlan
  refine sX4_bitsOfAll hk hp ?_
  rw [pk_mul, nI_add]
  exact h
theorem smM {pk pl pd ps : Nat → Int32} {K Ls D P : Nat → Nat} {k pr : Nat} {Kc : Int32 → Prop} (hk : k ≤ 64) (hp : Toks pk pl pd ps K Ls D P k) : ∀ (j fuel i : Nat), i + j = k → j < fuel → Kc (nI (sumB K Ls D k + pr * k)) → wpX10_sum_4 (nI pr) (nI k) pk pl pd Kc fuel (nI (sumB K Ls D i + pr * i)) (nI i) := by
  intro j
  induction j with
  | zero =>
    intro fuel i hi hf h
    obtain ⟨f, rfl⟩ : ∃ f, fuel = f + 1 := ⟨fuel - 1, by omega⟩
    rw [wpX10_sum_4]
    refine br_t (nI_le (by omega) (by omega)) ?_
    rw [show i = k by omega]
    exact h
  | succ j ih =>
    intro fuel i hi hf h
    obtain ⟨f, rfl⟩ : ∃ f, fuel = f + 1 := ⟨fuel - 1, by omega⟩
    obtain ⟨⟨e1, e2, e3, -⟩, -, ok⟩ := hp i (by omega)
    rw [wpX10_sum_4, nI_clamp (by omega), e1, e2, e3]
    refine br_f (nI_ge (by omega) (by omega)) ⟨vp_in_nI (by omega) (by decide), sX10_bitsOf ok ?_⟩
    rw [nI_add, nI_add, nI_1]
    have := ih f (i + 1) (by omega) (by omega) h
    rw [sumB, Nat.mul_succ, show sumB K Ls D i + tbn (K i) (Ls i) (D i) + (pr * i + pr) = sumB K Ls D i + pr * i + (tbn (K i) (Ls i) (D i) + pr) by omega] at this
    exact this
theorem sX10_sum {pk pl pd ps : Nat → Int32} {K Ls D P : Nat → Nat} {k pr : Nat} {post : Int32 → Prop} (hk : k ≤ 64) (hp : Toks pk pl pd ps K Ls D P k) (h : post (nI (sumB K Ls D k + pr * k))) : wpX10_sum (nI pr) (nI k) pk pl pd post :=
  ⟨k + 1, smM hk hp k (k + 1) 0 (by omega) (by omega) h⟩
-- bytes made by one kind
def mdS (pk pl : Nat → Int32) (v : Int32) : Nat → Int32
  | 0 => 0
  | i + 1 => if pk i = v then mdS pk pl v i + pl i else mdS pk pl v i
theorem bkX {pk pl : Nat → Int32} {v : Int32} {k : Nat} {Kc : Int32 → Prop} (hk : k ≤ 64) : ∀ (j fuel i : Nat), i + j = k → j < fuel → Kc (mdS pk pl v k) → wpX4_bytesOfKind_4 v (nI k) pk pl Kc fuel (mdS pk pl v i) (nI i) := by
  intro j
  induction j with
  | zero =>
    intro fuel i hi hf h
    obtain ⟨f, rfl⟩ : ∃ f, fuel = f + 1 := ⟨fuel - 1, by omega⟩
    rw [wpX4_bytesOfKind_4]
    refine br_t (nI_le (by omega) (by omega)) ?_
    rw [show i = k by omega]
    exact h
  | succ j ih =>
    intro fuel i hi hf h
    obtain ⟨f, rfl⟩ : ∃ f, fuel = f + 1 := ⟨fuel - 1, by omega⟩
    have := ih f (i + 1) (by omega) (by omega) h
    rw [mdS] at this
    rw [wpX4_bytesOfKind_4, nI_clamp (by omega)]
    refine br_f (nI_ge (by omega) (by omega)) ⟨vp_in_nI (by omega) (by decide), ?_⟩
    unfold wpX4_bytesOfKind_31
    rw [nI_1]
    by_cases c : pk i = v
    · rw [if_pos c] at this
      exact br_t c this
    · rw [if_neg c] at this
      exact br_f c this
theorem mdM {pk pl : Nat → Int32} {v : Int32} {k : Nat} {Kc : Int32 → Prop} (hk : k ≤ 64) : ∀ (j fuel i : Nat), i + j = k → j < fuel → Kc (mdS pk pl v k) → wpX10_made_15 v (nI k) pk pl Kc fuel (mdS pk pl v i) (nI i) := by
  intro j
  induction j with
  | zero =>
    intro fuel i hi hf h
    obtain ⟨f, rfl⟩ : ∃ f, fuel = f + 1 := ⟨fuel - 1, by omega⟩
    rw [wpX10_made_15]
    refine br_t (nI_le (by omega) (by omega)) ?_
    rw [show i = k by omega]
    exact h
  | succ j ih =>
    intro fuel i hi hf h
    obtain ⟨f, rfl⟩ : ∃ f, fuel = f + 1 := ⟨fuel - 1, by omega⟩
    have := ih f (i + 1) (by omega) (by omega) h
    rw [mdS] at this
    rw [wpX10_made_15, nI_clamp (by omega)]
    refine br_f (nI_ge (by omega) (by omega)) ⟨vp_in_nI (by omega) (by decide), ?_⟩
    unfold wpX10_made_44
    rw [nI_1]
    by_cases c : pk i = v
    · rw [if_pos c] at this
      exact br_t c this
    · rw [if_neg c] at this
      rw [i_add0]
      exact br_f c this
-- the ratio is a number
def nz9 : Jvm.FP.Core.Datum → Bool
  | .fin _ c _ => c != 0
  | _ => false
theorem rat_z : ∀ n, n < 65 → 0 < n → nz9 (Jvm.FP.Core.val64 (FP.i2d (nI (8 * n)))) = true := by decide +kernel
theorem n64_of {x : UInt64} (h : Jvm.FP.Core.dIsNaN x = false) : vf_n64 x := by
  have h2 := (Jvm.FP.Core.ne_nan x).mp ((Jvm.FP.Core.notNaN_iff x).mp h)
  unfold vf_n64
  rw [UInt64.le_iff_toNat_le, UInt64.toNat_and]
  have h1 : (0x7fffffffffffffff : UInt64).toNat = 2 ^ 63 - 1 := by decide
  have h3 : (0x7ff0000000000000 : UInt64).toNat = 9218868437227405312 := by decide
  rw [h1, h3, Nat.and_two_pow_sub_one_eq_mod]
  exact h2
theorem rat_n {b n : Nat} (hn : n < 65) (h0 : 0 < n) : vf_n64 (FP.ddiv (FP.i2d (nI b)) (FP.i2d (nI (8 * n)))) := by
  refine n64_of (Jvm.FP.Core.ddiv_out ?_ (Jvm.FP.Core.i2d_fin _) ?_)
  · refine (Jvm.FP.Core.notNaN_iff _).mpr ?_
    obtain ⟨s, c, q, h⟩ := Jvm.FP.Core.i2d_fin (nI b)
    rw [show Jvm.FP.Core.val64 (FP.i2d (nI b)) = _ from h]
    exact nofun
  · rintro ⟨s, q, h⟩
    have := rat_z n hn h0
    rw [show Jvm.FP.Core.val64 (FP.i2d (nI (8 * n))) = _ from h] at this
    exact absurd this (by simp [nz9])
theorem tlD {od : Nat → UInt64} {x : UInt64} {P : Prop} (h : P) : ((Op.cmpValue (FP.dcmp (vf_upd od (0 : Int32).toNatClampNeg x (0 : Int32).toNatClampNeg) x) .l) = 0 → P) ∧ (¬ (Op.cmpValue (FP.dcmp (vf_upd od (0 : Int32).toNatClampNeg x (0 : Int32).toNatClampNeg) x) .l) = 0 → (((Op.cmpValue (FP.dcmp (vf_upd od (0 : Int32).toNatClampNeg x (0 : Int32).toNatClampNeg) (vf_upd od (0 : Int32).toNatClampNeg x (0 : Int32).toNatClampNeg)) .l) = 0 → False) ∧ (¬ (Op.cmpValue (FP.dcmp (vf_upd od (0 : Int32).toNatClampNeg x (0 : Int32).toNatClampNeg) (vf_upd od (0 : Int32).toNatClampNeg x (0 : Int32).toNatClampNeg)) .l) = 0 → (((Op.cmpValue (FP.dcmp x x) .l) = 0 → False) ∧ (¬ (Op.cmpValue (FP.dcmp x x) .l) = 0 → P))))) := by
  have e : vf_upd od (0 : Int32).toNatClampNeg x (0 : Int32).toNatClampNeg = x := by simp [vf_upd]
  rw [e]
  exact ⟨fun _ => h, fun q => ⟨fun z => q z, fun _ => ⟨fun z => q z, fun _ => h⟩⟩⟩
theorem i_lt3 {v : Int32} : v ≤ 2 ↔ v < 3 := by
  rw [Int32.le_iff_toInt_le, Int32.lt_iff_toInt_lt]
  have e2 : (2 : Int32).toInt = 2 := by decide
  have e3 : (3 : Int32).toInt = 3 := by decide
  omega
set_option maxHeartbeats 1000000 in
theorem cs_1040 {L : Nat} {xs : Nat → Int32} {v5 : Int32} {tn : Int32} {tb : Nat → Int32} {sw : Int32} {sl : Int32} {sg : Int32} {sp : Int32} {ww : Nat → Int32} {wr : Nat → Int32} {wm : Nat → Int32} {wl : Nat → Int32} {wd : Nat → Int32} {pn : Int32} {pch : Int32} {pk : Nat → Int32} {pl : Nat → Int32} {pd : Nat → Int32} {ps : Nat → Int32} {bn : Int32} {br : Nat → Int32} {rn : Int32} {rf : Int32} {rx : Int32} {rp : Int32} {rb : Nat → Int32} {mth : Int32} {msz : Int32} {mwi : Int32} {mle : Int32} {mgr : Int32} {mpr : Int32} {mhp : Int32} {mtk : Int32} {mbn : Int32} {mmd : Int32} {mep : Int32} {mat : Int32} {mer : Int32} {mtx : Nat → Int32} {mki : Nat → Int32} {mln : Nat → Int32} {mdi : Nat → Int32} {mst : Nat → Int32} {mbi : Nat → Int32} {mou : Nat → Int32} {mco : Nat → Int32} {mct : Nat → Int32} {mfk : Nat → Int32} {mfl : Nat → Int32} {mfd : Nat → Int32} {mgo : Nat → Int32} {mma : Nat → Int32} {ov : Nat → Int64} {od : Nat → UInt64} {KB : Int32 → Int32 → (Nat → Int32) → Int32 → Int32 → Int32 → Int32 → (Nat → Int32) → (Nat → Int32) → (Nat → Int32) → (Nat → Int32) → (Nat → Int32) → Int32 → Int32 → (Nat → Int32) → (Nat → Int32) → (Nat → Int32) → (Nat → Int32) → Int32 → (Nat → Int32) → Int32 → Int32 → Int32 → Int32 → (Nat → Int32) → Int32 → Int32 → Int32 → Int32 → Int32 → Int32 → Int32 → Int32 → Int32 → Int32 → Int32 → Int32 → Int32 → (Nat → Int32) → (Nat → Int32) → (Nat → Int32) → (Nat → Int32) → (Nat → Int32) → (Nat → Int32) → (Nat → Int32) → (Nat → Int32) → (Nat → Int32) → (Nat → Int32) → (Nat → Int32) → (Nat → Int32) → (Nat → Int32) → (Nat → Int32) → (Nat → Int64) → (Nat → UInt64) → Prop} (hI : Inv tn tb sw sl sg sp pn pch pk pl pd ps bn br rn rf rb msz mwi mle mgr mpr mhp mtk mbn mmd mep mtx mki mln mdi mst mbi mou) (hv1 : vp_in (v5 + 1) L) (hv2 : vp_in (v5 + 2) L) (hv3 : vp_in (v5 + 3) L) (hKB : ∀ (v59 : Int32) (tn9 : Int32) (tb9 : Nat → Int32) (sw9 : Int32) (sl9 : Int32) (sg9 : Int32) (sp9 : Int32) (ww9 : Nat → Int32) (wr9 : Nat → Int32) (wm9 : Nat → Int32) (wl9 : Nat → Int32) (wd9 : Nat → Int32) (pn9 : Int32) (pch9 : Int32) (pk9 : Nat → Int32) (pl9 : Nat → Int32) (pd9 : Nat → Int32) (ps9 : Nat → Int32) (bn9 : Int32) (br9 : Nat → Int32) (rn9 : Int32) (rf9 : Int32) (rx9 : Int32) (rp9 : Int32) (rb9 : Nat → Int32) (mth9 : Int32) (msz9 : Int32) (mwi9 : Int32) (mle9 : Int32) (mgr9 : Int32) (mpr9 : Int32) (mhp9 : Int32) (mtk9 : Int32) (mbn9 : Int32) (mmd9 : Int32) (mep9 : Int32) (mat9 : Int32) (mer9 : Int32) (mtx9 : Nat → Int32) (mki9 : Nat → Int32) (mln9 : Nat → Int32) (mdi9 : Nat → Int32) (mst9 : Nat → Int32) (mbi9 : Nat → Int32) (mou9 : Nat → Int32) (mco9 : Nat → Int32) (mct9 : Nat → Int32) (mfk9 : Nat → Int32) (mfl9 : Nat → Int32) (mfd9 : Nat → Int32) (mgo9 : Nat → Int32) (mma9 : Nat → Int32) (ov9 : Nat → Int64) (od9 : Nat → UInt64), v59 = v5 + 4 → Inv tn9 tb9 sw9 sl9 sg9 sp9 pn9 pch9 pk9 pl9 pd9 ps9 bn9 br9 rn9 rf9 rb9 msz9 mwi9 mle9 mgr9 mpr9 mhp9 mtk9 mbn9 mmd9 mep9 mtx9 mki9 mln9 mdi9 mst9 mbi9 mou9 → KB v59 tn9 tb9 sw9 sl9 sg9 sp9 ww9 wr9 wm9 wl9 wd9 pn9 pch9 pk9 pl9 pd9 ps9 bn9 br9 rn9 rf9 rx9 rp9 rb9 mth9 msz9 mwi9 mle9 mgr9 mpr9 mhp9 mtk9 mbn9 mmd9 mep9 mat9 mer9 mtx9 mki9 mln9 mdi9 mst9 mbi9 mou9 mco9 mct9 mfk9 mfl9 mfd9 mgo9 mma9 ov9 od9) : wpL_law_1040 v5 tn tb sw sl sg sp ww wr wm wl wd pn pch pk pl pd ps bn br rn rf rx rp rb msz mwi mle mgr mpr mhp mtk mbn mmd mep mat mer mtx mki mln mdi mst mbi mou mco mct mfk mfl mfd mgo mma ov od KB := by
  obtain ⟨hT, hSe, hPl, hB, hR⟩ := hI
  obtain ⟨rfl, rfl, rfl, rfl, rfl, hpl⟩ := id hPl
  unfold wpL_law_1040 wpL_tokenCount wpX10_tokenCount wpX10_thrown wpX9_tokenCount
  rcases hpl with ⟨rfl, rfl⟩ | ⟨rfl, rfl, k, n, hn, hk, rfl, rfl, hok⟩
  · refine br_t rfl ?_
    refine ⟨rfl, ?_⟩
    refine br_t rfl ?_
    refine br_t rfl ?_
    exact tlK1 (hKB _ _ _ _ _ _ _ _ _ _ _ _ _ _ _ _ _ _ _ _ _ _ _ _ _ _ _ _ _ _ _ _ _ _ _ _ _ _ _ _ _ _ _ _ _ _ _ _ _ _ _ _ _ _ rfl ⟨hT, hSe, hPl, hB, hR⟩)
  · refine br_f ne10 ?_
    refine br_f ne10 ?_
    refine br_f ne10 ?_
    exact tlK0 (tl0 (hKB _ _ _ _ _ _ _ _ _ _ _ _ _ _ _ _ _ _ _ _ _ _ _ _ _ _ _ _ _ _ _ _ _ _ _ _ _ _ _ _ _ _ _ _ _ _ _ _ _ _ _ _ _ _ rfl ⟨hT, hSe, hPl, hB, hR⟩))
set_option maxHeartbeats 1000000 in
theorem cs_1084 {L : Nat} {xs : Nat → Int32} {v5 : Int32} {tn : Int32} {tb : Nat → Int32} {sw : Int32} {sl : Int32} {sg : Int32} {sp : Int32} {ww : Nat → Int32} {wr : Nat → Int32} {wm : Nat → Int32} {wl : Nat → Int32} {wd : Nat → Int32} {pn : Int32} {pch : Int32} {pk : Nat → Int32} {pl : Nat → Int32} {pd : Nat → Int32} {ps : Nat → Int32} {bn : Int32} {br : Nat → Int32} {rn : Int32} {rf : Int32} {rx : Int32} {rp : Int32} {rb : Nat → Int32} {mth : Int32} {msz : Int32} {mwi : Int32} {mle : Int32} {mgr : Int32} {mpr : Int32} {mhp : Int32} {mtk : Int32} {mbn : Int32} {mmd : Int32} {mep : Int32} {mat : Int32} {mer : Int32} {mtx : Nat → Int32} {mki : Nat → Int32} {mln : Nat → Int32} {mdi : Nat → Int32} {mst : Nat → Int32} {mbi : Nat → Int32} {mou : Nat → Int32} {mco : Nat → Int32} {mct : Nat → Int32} {mfk : Nat → Int32} {mfl : Nat → Int32} {mfd : Nat → Int32} {mgo : Nat → Int32} {mma : Nat → Int32} {ov : Nat → Int64} {od : Nat → UInt64} {KB : Int32 → Int32 → (Nat → Int32) → Int32 → Int32 → Int32 → Int32 → (Nat → Int32) → (Nat → Int32) → (Nat → Int32) → (Nat → Int32) → (Nat → Int32) → Int32 → Int32 → (Nat → Int32) → (Nat → Int32) → (Nat → Int32) → (Nat → Int32) → Int32 → (Nat → Int32) → Int32 → Int32 → Int32 → Int32 → (Nat → Int32) → Int32 → Int32 → Int32 → Int32 → Int32 → Int32 → Int32 → Int32 → Int32 → Int32 → Int32 → Int32 → Int32 → (Nat → Int32) → (Nat → Int32) → (Nat → Int32) → (Nat → Int32) → (Nat → Int32) → (Nat → Int32) → (Nat → Int32) → (Nat → Int32) → (Nat → Int32) → (Nat → Int32) → (Nat → Int32) → (Nat → Int32) → (Nat → Int32) → (Nat → Int32) → (Nat → Int64) → (Nat → UInt64) → Prop} (hI : Inv tn tb sw sl sg sp pn pch pk pl pd ps bn br rn rf rb msz mwi mle mgr mpr mhp mtk mbn mmd mep mtx mki mln mdi mst mbi mou) (hv1 : vp_in (v5 + 1) L) (hv2 : vp_in (v5 + 2) L) (hv3 : vp_in (v5 + 3) L) (hKB : ∀ (v59 : Int32) (tn9 : Int32) (tb9 : Nat → Int32) (sw9 : Int32) (sl9 : Int32) (sg9 : Int32) (sp9 : Int32) (ww9 : Nat → Int32) (wr9 : Nat → Int32) (wm9 : Nat → Int32) (wl9 : Nat → Int32) (wd9 : Nat → Int32) (pn9 : Int32) (pch9 : Int32) (pk9 : Nat → Int32) (pl9 : Nat → Int32) (pd9 : Nat → Int32) (ps9 : Nat → Int32) (bn9 : Int32) (br9 : Nat → Int32) (rn9 : Int32) (rf9 : Int32) (rx9 : Int32) (rp9 : Int32) (rb9 : Nat → Int32) (mth9 : Int32) (msz9 : Int32) (mwi9 : Int32) (mle9 : Int32) (mgr9 : Int32) (mpr9 : Int32) (mhp9 : Int32) (mtk9 : Int32) (mbn9 : Int32) (mmd9 : Int32) (mep9 : Int32) (mat9 : Int32) (mer9 : Int32) (mtx9 : Nat → Int32) (mki9 : Nat → Int32) (mln9 : Nat → Int32) (mdi9 : Nat → Int32) (mst9 : Nat → Int32) (mbi9 : Nat → Int32) (mou9 : Nat → Int32) (mco9 : Nat → Int32) (mct9 : Nat → Int32) (mfk9 : Nat → Int32) (mfl9 : Nat → Int32) (mfd9 : Nat → Int32) (mgo9 : Nat → Int32) (mma9 : Nat → Int32) (ov9 : Nat → Int64) (od9 : Nat → UInt64), v59 = v5 + 4 → Inv tn9 tb9 sw9 sl9 sg9 sp9 pn9 pch9 pk9 pl9 pd9 ps9 bn9 br9 rn9 rf9 rb9 msz9 mwi9 mle9 mgr9 mpr9 mhp9 mtk9 mbn9 mmd9 mep9 mtx9 mki9 mln9 mdi9 mst9 mbi9 mou9 → KB v59 tn9 tb9 sw9 sl9 sg9 sp9 ww9 wr9 wm9 wl9 wd9 pn9 pch9 pk9 pl9 pd9 ps9 bn9 br9 rn9 rf9 rx9 rp9 rb9 mth9 msz9 mwi9 mle9 mgr9 mpr9 mhp9 mtk9 mbn9 mmd9 mep9 mat9 mer9 mtx9 mki9 mln9 mdi9 mst9 mbi9 mou9 mco9 mct9 mfk9 mfl9 mfd9 mgo9 mma9 ov9 od9) : wpL_law_1084 L xs v5 tn tb sw sl sg sp ww wr wm wl wd pn pch pk pl pd ps bn br rn rf rx rp rb msz mwi mle mgr mpr mhp mtk mbn mmd mep mat mer mtx mki mln mdi mst mbi mou mco mct mfk mfl mfd mgo mma ov od KB := by
  obtain ⟨hT, hSe, hPl, hB, hR⟩ := hI
  obtain ⟨rfl, rfl, rfl, rfl, rfl, hpl⟩ := id hPl
  unfold wpL_law_1084 wpL_kind wpX10_kind wpX10_thrown wpX9_kind wpX10_asks wpX9_requireToken
  refine ⟨hv1, ?_⟩
  generalize xs (v5 + 1).toNatClampNeg = v
  rcases hpl with ⟨rfl, rfl⟩ | ⟨rfl, rfl, k, n, hn, hk, rfl, rfl, hok⟩
  · refine br_t rfl ?_
    refine Or.inl ?_
    refine ⟨rfl, ?_⟩
    refine br_t rfl ?_
    refine br_t rfl ?_
    exact tlK1 (hKB _ _ _ _ _ _ _ _ _ _ _ _ _ _ _ _ _ _ _ _ _ _ _ _ _ _ _ _ _ _ _ _ _ _ _ _ _ _ _ _ _ _ _ _ _ _ _ _ _ _ _ _ _ _ rfl ⟨hT, hSe, hPl, hB, hR⟩)
  · refine br_f ne10 ?_
    by_cases c1 : v < 0
    · refine br_t c1 ?_
      refine Or.inr ?_
      refine ⟨rfl, ?_⟩
      refine br_f ne10 ?_
      refine br_t c1 ?_
      refine br_t rfl ?_
      exact tlK2 (hKB _ _ _ _ _ _ _ _ _ _ _ _ _ _ _ _ _ _ _ _ _ _ _ _ _ _ _ _ _ _ _ _ _ _ _ _ _ _ _ _ _ _ _ _ _ _ _ _ _ _ _ _ _ _ rfl ⟨hT, hSe, hPl, hB, hR⟩)
    · by_cases c2 : v < nI k
      · obtain ⟨j, hj, rfl, hin⟩ := i_at (N := 64) c1 (i_nle c2) hk (by decide)
        refine br_f c1 ?_
        refine br_t c2 ?_
        refine ⟨hin, ?_⟩
        refine br_f ne10 ?_
        refine br_f c1 ?_
        refine br_t c2 ?_
        refine br_f ne10 ?_
        refine ⟨hin, ?_⟩
        exact tlK0 (tl0 (hKB _ _ _ _ _ _ _ _ _ _ _ _ _ _ _ _ _ _ _ _ _ _ _ _ _ _ _ _ _ _ _ _ _ _ _ _ _ _ _ _ _ _ _ _ _ _ _ _ _ _ _ _ _ _ rfl ⟨hT, hSe, hPl, hB, hR⟩))
      · refine br_f c1 ?_
        refine br_f c2 ?_
        refine Or.inr ?_
        refine ⟨rfl, ?_⟩
        refine br_f ne10 ?_
        refine br_f c1 ?_
        refine br_f c2 ?_
        refine br_t rfl ?_
        exact tlK2 (hKB _ _ _ _ _ _ _ _ _ _ _ _ _ _ _ _ _ _ _ _ _ _ _ _ _ _ _ _ _ _ _ _ _ _ _ _ _ _ _ _ _ _ _ _ _ _ _ _ _ _ _ _ _ _ rfl ⟨hT, hSe, hPl, hB, hR⟩)
set_option maxHeartbeats 1000000 in
theorem cs_1140 {L : Nat} {xs : Nat → Int32} {v5 : Int32} {tn : Int32} {tb : Nat → Int32} {sw : Int32} {sl : Int32} {sg : Int32} {sp : Int32} {ww : Nat → Int32} {wr : Nat → Int32} {wm : Nat → Int32} {wl : Nat → Int32} {wd : Nat → Int32} {pn : Int32} {pch : Int32} {pk : Nat → Int32} {pl : Nat → Int32} {pd : Nat → Int32} {ps : Nat → Int32} {bn : Int32} {br : Nat → Int32} {rn : Int32} {rf : Int32} {rx : Int32} {rp : Int32} {rb : Nat → Int32} {mth : Int32} {msz : Int32} {mwi : Int32} {mle : Int32} {mgr : Int32} {mpr : Int32} {mhp : Int32} {mtk : Int32} {mbn : Int32} {mmd : Int32} {mep : Int32} {mat : Int32} {mer : Int32} {mtx : Nat → Int32} {mki : Nat → Int32} {mln : Nat → Int32} {mdi : Nat → Int32} {mst : Nat → Int32} {mbi : Nat → Int32} {mou : Nat → Int32} {mco : Nat → Int32} {mct : Nat → Int32} {mfk : Nat → Int32} {mfl : Nat → Int32} {mfd : Nat → Int32} {mgo : Nat → Int32} {mma : Nat → Int32} {ov : Nat → Int64} {od : Nat → UInt64} {KB : Int32 → Int32 → (Nat → Int32) → Int32 → Int32 → Int32 → Int32 → (Nat → Int32) → (Nat → Int32) → (Nat → Int32) → (Nat → Int32) → (Nat → Int32) → Int32 → Int32 → (Nat → Int32) → (Nat → Int32) → (Nat → Int32) → (Nat → Int32) → Int32 → (Nat → Int32) → Int32 → Int32 → Int32 → Int32 → (Nat → Int32) → Int32 → Int32 → Int32 → Int32 → Int32 → Int32 → Int32 → Int32 → Int32 → Int32 → Int32 → Int32 → Int32 → (Nat → Int32) → (Nat → Int32) → (Nat → Int32) → (Nat → Int32) → (Nat → Int32) → (Nat → Int32) → (Nat → Int32) → (Nat → Int32) → (Nat → Int32) → (Nat → Int32) → (Nat → Int32) → (Nat → Int32) → (Nat → Int32) → (Nat → Int32) → (Nat → Int64) → (Nat → UInt64) → Prop} (hI : Inv tn tb sw sl sg sp pn pch pk pl pd ps bn br rn rf rb msz mwi mle mgr mpr mhp mtk mbn mmd mep mtx mki mln mdi mst mbi mou) (hv1 : vp_in (v5 + 1) L) (hv2 : vp_in (v5 + 2) L) (hv3 : vp_in (v5 + 3) L) (hKB : ∀ (v59 : Int32) (tn9 : Int32) (tb9 : Nat → Int32) (sw9 : Int32) (sl9 : Int32) (sg9 : Int32) (sp9 : Int32) (ww9 : Nat → Int32) (wr9 : Nat → Int32) (wm9 : Nat → Int32) (wl9 : Nat → Int32) (wd9 : Nat → Int32) (pn9 : Int32) (pch9 : Int32) (pk9 : Nat → Int32) (pl9 : Nat → Int32) (pd9 : Nat → Int32) (ps9 : Nat → Int32) (bn9 : Int32) (br9 : Nat → Int32) (rn9 : Int32) (rf9 : Int32) (rx9 : Int32) (rp9 : Int32) (rb9 : Nat → Int32) (mth9 : Int32) (msz9 : Int32) (mwi9 : Int32) (mle9 : Int32) (mgr9 : Int32) (mpr9 : Int32) (mhp9 : Int32) (mtk9 : Int32) (mbn9 : Int32) (mmd9 : Int32) (mep9 : Int32) (mat9 : Int32) (mer9 : Int32) (mtx9 : Nat → Int32) (mki9 : Nat → Int32) (mln9 : Nat → Int32) (mdi9 : Nat → Int32) (mst9 : Nat → Int32) (mbi9 : Nat → Int32) (mou9 : Nat → Int32) (mco9 : Nat → Int32) (mct9 : Nat → Int32) (mfk9 : Nat → Int32) (mfl9 : Nat → Int32) (mfd9 : Nat → Int32) (mgo9 : Nat → Int32) (mma9 : Nat → Int32) (ov9 : Nat → Int64) (od9 : Nat → UInt64), v59 = v5 + 4 → Inv tn9 tb9 sw9 sl9 sg9 sp9 pn9 pch9 pk9 pl9 pd9 ps9 bn9 br9 rn9 rf9 rb9 msz9 mwi9 mle9 mgr9 mpr9 mhp9 mtk9 mbn9 mmd9 mep9 mtx9 mki9 mln9 mdi9 mst9 mbi9 mou9 → KB v59 tn9 tb9 sw9 sl9 sg9 sp9 ww9 wr9 wm9 wl9 wd9 pn9 pch9 pk9 pl9 pd9 ps9 bn9 br9 rn9 rf9 rx9 rp9 rb9 mth9 msz9 mwi9 mle9 mgr9 mpr9 mhp9 mtk9 mbn9 mmd9 mep9 mat9 mer9 mtx9 mki9 mln9 mdi9 mst9 mbi9 mou9 mco9 mct9 mfk9 mfl9 mfd9 mgo9 mma9 ov9 od9) : wpL_law_1140 L xs v5 tn tb sw sl sg sp ww wr wm wl wd pn pch pk pl pd ps bn br rn rf rx rp rb msz mwi mle mgr mpr mhp mtk mbn mmd mep mat mer mtx mki mln mdi mst mbi mou mco mct mfk mfl mfd mgo mma ov od KB := by
  obtain ⟨hT, hSe, hPl, hB, hR⟩ := hI
  obtain ⟨rfl, rfl, rfl, rfl, rfl, hpl⟩ := id hPl
  unfold wpL_law_1140 wpL_length wpX10_length wpX10_thrown wpX9_length wpX10_asks wpX9_requireToken
  refine ⟨hv1, ?_⟩
  generalize xs (v5 + 1).toNatClampNeg = v
  rcases hpl with ⟨rfl, rfl⟩ | ⟨rfl, rfl, k, n, hn, hk, rfl, rfl, hok⟩
  · refine br_t rfl ?_
    refine Or.inl ?_
    refine ⟨rfl, ?_⟩
    refine br_t rfl ?_
    refine br_t rfl ?_
    exact tlK1 (hKB _ _ _ _ _ _ _ _ _ _ _ _ _ _ _ _ _ _ _ _ _ _ _ _ _ _ _ _ _ _ _ _ _ _ _ _ _ _ _ _ _ _ _ _ _ _ _ _ _ _ _ _ _ _ rfl ⟨hT, hSe, hPl, hB, hR⟩)
  · refine br_f ne10 ?_
    by_cases c1 : v < 0
    · refine br_t c1 ?_
      refine Or.inr ?_
      refine ⟨rfl, ?_⟩
      refine br_f ne10 ?_
      refine br_t c1 ?_
      refine br_t rfl ?_
      exact tlK2 (hKB _ _ _ _ _ _ _ _ _ _ _ _ _ _ _ _ _ _ _ _ _ _ _ _ _ _ _ _ _ _ _ _ _ _ _ _ _ _ _ _ _ _ _ _ _ _ _ _ _ _ _ _ _ _ rfl ⟨hT, hSe, hPl, hB, hR⟩)
    · by_cases c2 : v < nI k
      · obtain ⟨j, hj, rfl, hin⟩ := i_at (N := 64) c1 (i_nle c2) hk (by decide)
        refine br_f c1 ?_
        refine br_t c2 ?_
        refine ⟨hin, ?_⟩
        refine br_f ne10 ?_
        refine br_f c1 ?_
        refine br_t c2 ?_
        refine br_f ne10 ?_
        refine ⟨hin, ?_⟩
        exact tlK0 (tl0 (hKB _ _ _ _ _ _ _ _ _ _ _ _ _ _ _ _ _ _ _ _ _ _ _ _ _ _ _ _ _ _ _ _ _ _ _ _ _ _ _ _ _ _ _ _ _ _ _ _ _ _ _ _ _ _ rfl ⟨hT, hSe, hPl, hB, hR⟩))
      · refine br_f c1 ?_
        refine br_f c2 ?_
        refine Or.inr ?_
        refine ⟨rfl, ?_⟩
        refine br_f ne10 ?_
        refine br_f c1 ?_
        refine br_f c2 ?_
        refine br_t rfl ?_
        exact tlK2 (hKB _ _ _ _ _ _ _ _ _ _ _ _ _ _ _ _ _ _ _ _ _ _ _ _ _ _ _ _ _ _ _ _ _ _ _ _ _ _ _ _ _ _ _ _ _ _ _ _ _ _ _ _ _ _ rfl ⟨hT, hSe, hPl, hB, hR⟩)
set_option maxHeartbeats 1000000 in
theorem cs_1196 {L : Nat} {xs : Nat → Int32} {v5 : Int32} {tn : Int32} {tb : Nat → Int32} {sw : Int32} {sl : Int32} {sg : Int32} {sp : Int32} {ww : Nat → Int32} {wr : Nat → Int32} {wm : Nat → Int32} {wl : Nat → Int32} {wd : Nat → Int32} {pn : Int32} {pch : Int32} {pk : Nat → Int32} {pl : Nat → Int32} {pd : Nat → Int32} {ps : Nat → Int32} {bn : Int32} {br : Nat → Int32} {rn : Int32} {rf : Int32} {rx : Int32} {rp : Int32} {rb : Nat → Int32} {mth : Int32} {msz : Int32} {mwi : Int32} {mle : Int32} {mgr : Int32} {mpr : Int32} {mhp : Int32} {mtk : Int32} {mbn : Int32} {mmd : Int32} {mep : Int32} {mat : Int32} {mer : Int32} {mtx : Nat → Int32} {mki : Nat → Int32} {mln : Nat → Int32} {mdi : Nat → Int32} {mst : Nat → Int32} {mbi : Nat → Int32} {mou : Nat → Int32} {mco : Nat → Int32} {mct : Nat → Int32} {mfk : Nat → Int32} {mfl : Nat → Int32} {mfd : Nat → Int32} {mgo : Nat → Int32} {mma : Nat → Int32} {ov : Nat → Int64} {od : Nat → UInt64} {KB : Int32 → Int32 → (Nat → Int32) → Int32 → Int32 → Int32 → Int32 → (Nat → Int32) → (Nat → Int32) → (Nat → Int32) → (Nat → Int32) → (Nat → Int32) → Int32 → Int32 → (Nat → Int32) → (Nat → Int32) → (Nat → Int32) → (Nat → Int32) → Int32 → (Nat → Int32) → Int32 → Int32 → Int32 → Int32 → (Nat → Int32) → Int32 → Int32 → Int32 → Int32 → Int32 → Int32 → Int32 → Int32 → Int32 → Int32 → Int32 → Int32 → Int32 → (Nat → Int32) → (Nat → Int32) → (Nat → Int32) → (Nat → Int32) → (Nat → Int32) → (Nat → Int32) → (Nat → Int32) → (Nat → Int32) → (Nat → Int32) → (Nat → Int32) → (Nat → Int32) → (Nat → Int32) → (Nat → Int32) → (Nat → Int32) → (Nat → Int64) → (Nat → UInt64) → Prop} (hI : Inv tn tb sw sl sg sp pn pch pk pl pd ps bn br rn rf rb msz mwi mle mgr mpr mhp mtk mbn mmd mep mtx mki mln mdi mst mbi mou) (hv1 : vp_in (v5 + 1) L) (hv2 : vp_in (v5 + 2) L) (hv3 : vp_in (v5 + 3) L) (hKB : ∀ (v59 : Int32) (tn9 : Int32) (tb9 : Nat → Int32) (sw9 : Int32) (sl9 : Int32) (sg9 : Int32) (sp9 : Int32) (ww9 : Nat → Int32) (wr9 : Nat → Int32) (wm9 : Nat → Int32) (wl9 : Nat → Int32) (wd9 : Nat → Int32) (pn9 : Int32) (pch9 : Int32) (pk9 : Nat → Int32) (pl9 : Nat → Int32) (pd9 : Nat → Int32) (ps9 : Nat → Int32) (bn9 : Int32) (br9 : Nat → Int32) (rn9 : Int32) (rf9 : Int32) (rx9 : Int32) (rp9 : Int32) (rb9 : Nat → Int32) (mth9 : Int32) (msz9 : Int32) (mwi9 : Int32) (mle9 : Int32) (mgr9 : Int32) (mpr9 : Int32) (mhp9 : Int32) (mtk9 : Int32) (mbn9 : Int32) (mmd9 : Int32) (mep9 : Int32) (mat9 : Int32) (mer9 : Int32) (mtx9 : Nat → Int32) (mki9 : Nat → Int32) (mln9 : Nat → Int32) (mdi9 : Nat → Int32) (mst9 : Nat → Int32) (mbi9 : Nat → Int32) (mou9 : Nat → Int32) (mco9 : Nat → Int32) (mct9 : Nat → Int32) (mfk9 : Nat → Int32) (mfl9 : Nat → Int32) (mfd9 : Nat → Int32) (mgo9 : Nat → Int32) (mma9 : Nat → Int32) (ov9 : Nat → Int64) (od9 : Nat → UInt64), v59 = v5 + 4 → Inv tn9 tb9 sw9 sl9 sg9 sp9 pn9 pch9 pk9 pl9 pd9 ps9 bn9 br9 rn9 rf9 rb9 msz9 mwi9 mle9 mgr9 mpr9 mhp9 mtk9 mbn9 mmd9 mep9 mtx9 mki9 mln9 mdi9 mst9 mbi9 mou9 → KB v59 tn9 tb9 sw9 sl9 sg9 sp9 ww9 wr9 wm9 wl9 wd9 pn9 pch9 pk9 pl9 pd9 ps9 bn9 br9 rn9 rf9 rx9 rp9 rb9 mth9 msz9 mwi9 mle9 mgr9 mpr9 mhp9 mtk9 mbn9 mmd9 mep9 mat9 mer9 mtx9 mki9 mln9 mdi9 mst9 mbi9 mou9 mco9 mct9 mfk9 mfl9 mfd9 mgo9 mma9 ov9 od9) : wpL_law_1196 L xs v5 tn tb sw sl sg sp ww wr wm wl wd pn pch pk pl pd ps bn br rn rf rx rp rb msz mwi mle mgr mpr mhp mtk mbn mmd mep mat mer mtx mki mln mdi mst mbi mou mco mct mfk mfl mfd mgo mma ov od KB := by
  obtain ⟨hT, hSe, hPl, hB, hR⟩ := hI
  obtain ⟨rfl, rfl, rfl, rfl, rfl, hpl⟩ := id hPl
  unfold wpL_law_1196 wpL_distance wpX10_distance wpX10_thrown wpX9_distance wpX10_asks wpX9_requireToken
  refine ⟨hv1, ?_⟩
  generalize xs (v5 + 1).toNatClampNeg = v
  rcases hpl with ⟨rfl, rfl⟩ | ⟨rfl, rfl, k, n, hn, hk, rfl, rfl, hok⟩
  · refine br_t rfl ?_
    refine Or.inl ?_
    refine ⟨rfl, ?_⟩
    refine br_t rfl ?_
    refine br_t rfl ?_
    exact tlK1 (hKB _ _ _ _ _ _ _ _ _ _ _ _ _ _ _ _ _ _ _ _ _ _ _ _ _ _ _ _ _ _ _ _ _ _ _ _ _ _ _ _ _ _ _ _ _ _ _ _ _ _ _ _ _ _ rfl ⟨hT, hSe, hPl, hB, hR⟩)
  · refine br_f ne10 ?_
    by_cases c1 : v < 0
    · refine br_t c1 ?_
      refine Or.inr ?_
      refine ⟨rfl, ?_⟩
      refine br_f ne10 ?_
      refine br_t c1 ?_
      refine br_t rfl ?_
      exact tlK2 (hKB _ _ _ _ _ _ _ _ _ _ _ _ _ _ _ _ _ _ _ _ _ _ _ _ _ _ _ _ _ _ _ _ _ _ _ _ _ _ _ _ _ _ _ _ _ _ _ _ _ _ _ _ _ _ rfl ⟨hT, hSe, hPl, hB, hR⟩)
    · by_cases c2 : v < nI k
      · obtain ⟨j, hj, rfl, hin⟩ := i_at (N := 64) c1 (i_nle c2) hk (by decide)
        refine br_f c1 ?_
        refine br_t c2 ?_
        refine ⟨hin, ?_⟩
        refine br_f ne10 ?_
        refine br_f c1 ?_
        refine br_t c2 ?_
        refine br_f ne10 ?_
        refine ⟨hin, ?_⟩
        exact tlK0 (tl0 (hKB _ _ _ _ _ _ _ _ _ _ _ _ _ _ _ _ _ _ _ _ _ _ _ _ _ _ _ _ _ _ _ _ _ _ _ _ _ _ _ _ _ _ _ _ _ _ _ _ _ _ _ _ _ _ rfl ⟨hT, hSe, hPl, hB, hR⟩))
      · refine br_f c1 ?_
        refine br_f c2 ?_
        refine Or.inr ?_
        refine ⟨rfl, ?_⟩
        refine br_f ne10 ?_
        refine br_f c1 ?_
        refine br_f c2 ?_
        refine br_t rfl ?_
        exact tlK2 (hKB _ _ _ _ _ _ _ _ _ _ _ _ _ _ _ _ _ _ _ _ _ _ _ _ _ _ _ _ _ _ _ _ _ _ _ _ _ _ _ _ _ _ _ _ _ _ _ _ _ _ _ _ _ _ rfl ⟨hT, hSe, hPl, hB, hR⟩)
set_option maxHeartbeats 1000000 in
theorem cs_1252 {L : Nat} {xs : Nat → Int32} {v5 : Int32} {tn : Int32} {tb : Nat → Int32} {sw : Int32} {sl : Int32} {sg : Int32} {sp : Int32} {ww : Nat → Int32} {wr : Nat → Int32} {wm : Nat → Int32} {wl : Nat → Int32} {wd : Nat → Int32} {pn : Int32} {pch : Int32} {pk : Nat → Int32} {pl : Nat → Int32} {pd : Nat → Int32} {ps : Nat → Int32} {bn : Int32} {br : Nat → Int32} {rn : Int32} {rf : Int32} {rx : Int32} {rp : Int32} {rb : Nat → Int32} {mth : Int32} {msz : Int32} {mwi : Int32} {mle : Int32} {mgr : Int32} {mpr : Int32} {mhp : Int32} {mtk : Int32} {mbn : Int32} {mmd : Int32} {mep : Int32} {mat : Int32} {mer : Int32} {mtx : Nat → Int32} {mki : Nat → Int32} {mln : Nat → Int32} {mdi : Nat → Int32} {mst : Nat → Int32} {mbi : Nat → Int32} {mou : Nat → Int32} {mco : Nat → Int32} {mct : Nat → Int32} {mfk : Nat → Int32} {mfl : Nat → Int32} {mfd : Nat → Int32} {mgo : Nat → Int32} {mma : Nat → Int32} {ov : Nat → Int64} {od : Nat → UInt64} {KB : Int32 → Int32 → (Nat → Int32) → Int32 → Int32 → Int32 → Int32 → (Nat → Int32) → (Nat → Int32) → (Nat → Int32) → (Nat → Int32) → (Nat → Int32) → Int32 → Int32 → (Nat → Int32) → (Nat → Int32) → (Nat → Int32) → (Nat → Int32) → Int32 → (Nat → Int32) → Int32 → Int32 → Int32 → Int32 → (Nat → Int32) → Int32 → Int32 → Int32 → Int32 → Int32 → Int32 → Int32 → Int32 → Int32 → Int32 → Int32 → Int32 → Int32 → (Nat → Int32) → (Nat → Int32) → (Nat → Int32) → (Nat → Int32) → (Nat → Int32) → (Nat → Int32) → (Nat → Int32) → (Nat → Int32) → (Nat → Int32) → (Nat → Int32) → (Nat → Int32) → (Nat → Int32) → (Nat → Int32) → (Nat → Int32) → (Nat → Int64) → (Nat → UInt64) → Prop} (hI : Inv tn tb sw sl sg sp pn pch pk pl pd ps bn br rn rf rb msz mwi mle mgr mpr mhp mtk mbn mmd mep mtx mki mln mdi mst mbi mou) (hv1 : vp_in (v5 + 1) L) (hv2 : vp_in (v5 + 2) L) (hv3 : vp_in (v5 + 3) L) (hKB : ∀ (v59 : Int32) (tn9 : Int32) (tb9 : Nat → Int32) (sw9 : Int32) (sl9 : Int32) (sg9 : Int32) (sp9 : Int32) (ww9 : Nat → Int32) (wr9 : Nat → Int32) (wm9 : Nat → Int32) (wl9 : Nat → Int32) (wd9 : Nat → Int32) (pn9 : Int32) (pch9 : Int32) (pk9 : Nat → Int32) (pl9 : Nat → Int32) (pd9 : Nat → Int32) (ps9 : Nat → Int32) (bn9 : Int32) (br9 : Nat → Int32) (rn9 : Int32) (rf9 : Int32) (rx9 : Int32) (rp9 : Int32) (rb9 : Nat → Int32) (mth9 : Int32) (msz9 : Int32) (mwi9 : Int32) (mle9 : Int32) (mgr9 : Int32) (mpr9 : Int32) (mhp9 : Int32) (mtk9 : Int32) (mbn9 : Int32) (mmd9 : Int32) (mep9 : Int32) (mat9 : Int32) (mer9 : Int32) (mtx9 : Nat → Int32) (mki9 : Nat → Int32) (mln9 : Nat → Int32) (mdi9 : Nat → Int32) (mst9 : Nat → Int32) (mbi9 : Nat → Int32) (mou9 : Nat → Int32) (mco9 : Nat → Int32) (mct9 : Nat → Int32) (mfk9 : Nat → Int32) (mfl9 : Nat → Int32) (mfd9 : Nat → Int32) (mgo9 : Nat → Int32) (mma9 : Nat → Int32) (ov9 : Nat → Int64) (od9 : Nat → UInt64), v59 = v5 + 4 → Inv tn9 tb9 sw9 sl9 sg9 sp9 pn9 pch9 pk9 pl9 pd9 ps9 bn9 br9 rn9 rf9 rb9 msz9 mwi9 mle9 mgr9 mpr9 mhp9 mtk9 mbn9 mmd9 mep9 mtx9 mki9 mln9 mdi9 mst9 mbi9 mou9 → KB v59 tn9 tb9 sw9 sl9 sg9 sp9 ww9 wr9 wm9 wl9 wd9 pn9 pch9 pk9 pl9 pd9 ps9 bn9 br9 rn9 rf9 rx9 rp9 rb9 mth9 msz9 mwi9 mle9 mgr9 mpr9 mhp9 mtk9 mbn9 mmd9 mep9 mat9 mer9 mtx9 mki9 mln9 mdi9 mst9 mbi9 mou9 mco9 mct9 mfk9 mfl9 mfd9 mgo9 mma9 ov9 od9) : wpL_law_1252 L xs v5 tn tb sw sl sg sp ww wr wm wl wd pn pch pk pl pd ps bn br rn rf rx rp rb msz mwi mle mgr mpr mhp mtk mbn mmd mep mat mer mtx mki mln mdi mst mbi mou mco mct mfk mfl mfd mgo mma ov od KB := by
  obtain ⟨hT, hSe, hPl, hB, hR⟩ := hI
  obtain ⟨rfl, rfl, rfl, rfl, rfl, hpl⟩ := id hPl
  unfold wpL_law_1252 wpL_start wpX10_start wpX10_thrown wpX9_start wpX10_asks wpX9_requireToken
  refine ⟨hv1, ?_⟩
  generalize xs (v5 + 1).toNatClampNeg = v
  rcases hpl with ⟨rfl, rfl⟩ | ⟨rfl, rfl, k, n, hn, hk, rfl, rfl, hok⟩
  · refine br_t rfl ?_
    refine Or.inl ?_
    refine ⟨rfl, ?_⟩
    refine br_t rfl ?_
    refine br_t rfl ?_
    exact tlK1 (hKB _ _ _ _ _ _ _ _ _ _ _ _ _ _ _ _ _ _ _ _ _ _ _ _ _ _ _ _ _ _ _ _ _ _ _ _ _ _ _ _ _ _ _ _ _ _ _ _ _ _ _ _ _ _ rfl ⟨hT, hSe, hPl, hB, hR⟩)
  · refine br_f ne10 ?_
    by_cases c1 : v < 0
    · refine br_t c1 ?_
      refine Or.inr ?_
      refine ⟨rfl, ?_⟩
      refine br_f ne10 ?_
      refine br_t c1 ?_
      refine br_t rfl ?_
      exact tlK2 (hKB _ _ _ _ _ _ _ _ _ _ _ _ _ _ _ _ _ _ _ _ _ _ _ _ _ _ _ _ _ _ _ _ _ _ _ _ _ _ _ _ _ _ _ _ _ _ _ _ _ _ _ _ _ _ rfl ⟨hT, hSe, hPl, hB, hR⟩)
    · by_cases c2 : v < nI k
      · obtain ⟨j, hj, rfl, hin⟩ := i_at (N := 64) c1 (i_nle c2) hk (by decide)
        refine br_f c1 ?_
        refine br_t c2 ?_
        refine ⟨hin, ?_⟩
        refine br_f ne10 ?_
        refine br_f c1 ?_
        refine br_t c2 ?_
        refine br_f ne10 ?_
        refine ⟨hin, ?_⟩
        exact tlK0 (tl0 (hKB _ _ _ _ _ _ _ _ _ _ _ _ _ _ _ _ _ _ _ _ _ _ _ _ _ _ _ _ _ _ _ _ _ _ _ _ _ _ _ _ _ _ _ _ _ _ _ _ _ _ _ _ _ _ rfl ⟨hT, hSe, hPl, hB, hR⟩))
      · refine br_f c1 ?_
        refine br_f c2 ?_
        refine Or.inr ?_
        refine ⟨rfl, ?_⟩
        refine br_f ne10 ?_
        refine br_f c1 ?_
        refine br_f c2 ?_
        refine br_t rfl ?_
        exact tlK2 (hKB _ _ _ _ _ _ _ _ _ _ _ _ _ _ _ _ _ _ _ _ _ _ _ _ _ _ _ _ _ _ _ _ _ _ _ _ _ _ _ _ _ _ _ _ _ _ _ _ _ _ _ _ _ _ rfl ⟨hT, hSe, hPl, hB, hR⟩)
set_option maxHeartbeats 1000000 in
theorem cs_1308 {L : Nat} {xs : Nat → Int32} {v5 : Int32} {tn : Int32} {tb : Nat → Int32} {sw : Int32} {sl : Int32} {sg : Int32} {sp : Int32} {ww : Nat → Int32} {wr : Nat → Int32} {wm : Nat → Int32} {wl : Nat → Int32} {wd : Nat → Int32} {pn : Int32} {pch : Int32} {pk : Nat → Int32} {pl : Nat → Int32} {pd : Nat → Int32} {ps : Nat → Int32} {bn : Int32} {br : Nat → Int32} {rn : Int32} {rf : Int32} {rx : Int32} {rp : Int32} {rb : Nat → Int32} {mth : Int32} {msz : Int32} {mwi : Int32} {mle : Int32} {mgr : Int32} {mpr : Int32} {mhp : Int32} {mtk : Int32} {mbn : Int32} {mmd : Int32} {mep : Int32} {mat : Int32} {mer : Int32} {mtx : Nat → Int32} {mki : Nat → Int32} {mln : Nat → Int32} {mdi : Nat → Int32} {mst : Nat → Int32} {mbi : Nat → Int32} {mou : Nat → Int32} {mco : Nat → Int32} {mct : Nat → Int32} {mfk : Nat → Int32} {mfl : Nat → Int32} {mfd : Nat → Int32} {mgo : Nat → Int32} {mma : Nat → Int32} {ov : Nat → Int64} {od : Nat → UInt64} {KB : Int32 → Int32 → (Nat → Int32) → Int32 → Int32 → Int32 → Int32 → (Nat → Int32) → (Nat → Int32) → (Nat → Int32) → (Nat → Int32) → (Nat → Int32) → Int32 → Int32 → (Nat → Int32) → (Nat → Int32) → (Nat → Int32) → (Nat → Int32) → Int32 → (Nat → Int32) → Int32 → Int32 → Int32 → Int32 → (Nat → Int32) → Int32 → Int32 → Int32 → Int32 → Int32 → Int32 → Int32 → Int32 → Int32 → Int32 → Int32 → Int32 → Int32 → (Nat → Int32) → (Nat → Int32) → (Nat → Int32) → (Nat → Int32) → (Nat → Int32) → (Nat → Int32) → (Nat → Int32) → (Nat → Int32) → (Nat → Int32) → (Nat → Int32) → (Nat → Int32) → (Nat → Int32) → (Nat → Int32) → (Nat → Int32) → (Nat → Int64) → (Nat → UInt64) → Prop} (hI : Inv tn tb sw sl sg sp pn pch pk pl pd ps bn br rn rf rb msz mwi mle mgr mpr mhp mtk mbn mmd mep mtx mki mln mdi mst mbi mou) (hv1 : vp_in (v5 + 1) L) (hv2 : vp_in (v5 + 2) L) (hv3 : vp_in (v5 + 3) L) (hKB : ∀ (v59 : Int32) (tn9 : Int32) (tb9 : Nat → Int32) (sw9 : Int32) (sl9 : Int32) (sg9 : Int32) (sp9 : Int32) (ww9 : Nat → Int32) (wr9 : Nat → Int32) (wm9 : Nat → Int32) (wl9 : Nat → Int32) (wd9 : Nat → Int32) (pn9 : Int32) (pch9 : Int32) (pk9 : Nat → Int32) (pl9 : Nat → Int32) (pd9 : Nat → Int32) (ps9 : Nat → Int32) (bn9 : Int32) (br9 : Nat → Int32) (rn9 : Int32) (rf9 : Int32) (rx9 : Int32) (rp9 : Int32) (rb9 : Nat → Int32) (mth9 : Int32) (msz9 : Int32) (mwi9 : Int32) (mle9 : Int32) (mgr9 : Int32) (mpr9 : Int32) (mhp9 : Int32) (mtk9 : Int32) (mbn9 : Int32) (mmd9 : Int32) (mep9 : Int32) (mat9 : Int32) (mer9 : Int32) (mtx9 : Nat → Int32) (mki9 : Nat → Int32) (mln9 : Nat → Int32) (mdi9 : Nat → Int32) (mst9 : Nat → Int32) (mbi9 : Nat → Int32) (mou9 : Nat → Int32) (mco9 : Nat → Int32) (mct9 : Nat → Int32) (mfk9 : Nat → Int32) (mfl9 : Nat → Int32) (mfd9 : Nat → Int32) (mgo9 : Nat → Int32) (mma9 : Nat → Int32) (ov9 : Nat → Int64) (od9 : Nat → UInt64), v59 = v5 + 4 → Inv tn9 tb9 sw9 sl9 sg9 sp9 pn9 pch9 pk9 pl9 pd9 ps9 bn9 br9 rn9 rf9 rb9 msz9 mwi9 mle9 mgr9 mpr9 mhp9 mtk9 mbn9 mmd9 mep9 mtx9 mki9 mln9 mdi9 mst9 mbi9 mou9 → KB v59 tn9 tb9 sw9 sl9 sg9 sp9 ww9 wr9 wm9 wl9 wd9 pn9 pch9 pk9 pl9 pd9 ps9 bn9 br9 rn9 rf9 rx9 rp9 rb9 mth9 msz9 mwi9 mle9 mgr9 mpr9 mhp9 mtk9 mbn9 mmd9 mep9 mat9 mer9 mtx9 mki9 mln9 mdi9 mst9 mbi9 mou9 mco9 mct9 mfk9 mfl9 mfd9 mgo9 mma9 ov9 od9) : wpL_law_1308 L xs v5 tn tb sw sl sg sp ww wr wm wl wd pn pch pk pl pd ps bn br rn rf rx rp rb msz mwi mle mgr mpr mhp mtk mbn mmd mep mat mer mtx mki mln mdi mst mbi mou mco mct mfk mfl mfd mgo mma ov od KB := by
  obtain ⟨hT, hSe, hPl, hB, hR⟩ := hI
  obtain ⟨rfl, rfl, rfl, rfl, rfl, hpl⟩ := id hPl
  unfold wpL_law_1308 wpL_made wpX10_made wpX10_thrown wpX9_made wpX10_asks
  refine ⟨hv1, ?_⟩
  generalize xs (v5 + 1).toNatClampNeg = v
  rcases hpl with ⟨rfl, rfl⟩ | ⟨rfl, rfl, k, n, hn, hk, rfl, rfl, hok⟩
  · refine br_t rfl ?_
    refine Or.inl ?_
    refine ⟨rfl, ?_⟩
    refine br_t rfl ?_
    refine br_t rfl ?_
    exact tlK1 (hKB _ _ _ _ _ _ _ _ _ _ _ _ _ _ _ _ _ _ _ _ _ _ _ _ _ _ _ _ _ _ _ _ _ _ _ _ _ _ _ _ _ _ _ _ _ _ _ _ _ _ _ _ _ _ rfl ⟨hT, hSe, hPl, hB, hR⟩)
  · refine br_f ne10 ?_
    by_cases c1 : v < 0
    · refine br_t c1 ?_
      refine Or.inr ?_
      refine ⟨rfl, ?_⟩
      refine br_f ne10 ?_
      refine br_t c1 ?_
      refine br_t rfl ?_
      exact tlK2 (hKB _ _ _ _ _ _ _ _ _ _ _ _ _ _ _ _ _ _ _ _ _ _ _ _ _ _ _ _ _ _ _ _ _ _ _ _ _ _ _ _ _ _ _ _ _ _ _ _ _ _ _ _ _ _ rfl ⟨hT, hSe, hPl, hB, hR⟩)
    · by_cases c2 : v ≤ 2
      · refine br_f c1 ?_
        refine br_t c2 ?_
        refine ⟨k + 1, ?_⟩
        refine bkX hk k (k + 1) 0 (by omega) (by omega) ?_
        refine br_f ne10 ?_
        refine br_f c1 ?_
        refine br_t (i_lt3.mp c2) ?_
        refine br_f ne10 ?_
        refine ⟨k + 1, ?_⟩
        refine mdM hk k (k + 1) 0 (by omega) (by omega) ?_
        exact tlK0 (tl0 (hKB _ _ _ _ _ _ _ _ _ _ _ _ _ _ _ _ _ _ _ _ _ _ _ _ _ _ _ _ _ _ _ _ _ _ _ _ _ _ _ _ _ _ _ _ _ _ _ _ _ _ _ _ _ _ rfl ⟨hT, hSe, hPl, hB, hR⟩))
      · refine br_f c1 ?_
        refine br_f c2 ?_
        refine Or.inr ?_
        refine ⟨rfl, ?_⟩
        refine br_f ne10 (br_f c1 (br_f (fun q => c2 (i_lt3.mpr q)) (br_t rfl ?_)))
        exact tlK2 (hKB _ _ _ _ _ _ _ _ _ _ _ _ _ _ _ _ _ _ _ _ _ _ _ _ _ _ _ _ _ _ _ _ _ _ _ _ _ _ _ _ _ _ _ _ _ _ _ _ _ _ _ _ _ _ rfl ⟨hT, hSe, hPl, hB, hR⟩)
set_option maxHeartbeats 1000000 in
theorem cs_1364 {L : Nat} {xs : Nat → Int32} {v5 : Int32} {tn : Int32} {tb : Nat → Int32} {sw : Int32} {sl : Int32} {sg : Int32} {sp : Int32} {ww : Nat → Int32} {wr : Nat → Int32} {wm : Nat → Int32} {wl : Nat → Int32} {wd : Nat → Int32} {pn : Int32} {pch : Int32} {pk : Nat → Int32} {pl : Nat → Int32} {pd : Nat → Int32} {ps : Nat → Int32} {bn : Int32} {br : Nat → Int32} {rn : Int32} {rf : Int32} {rx : Int32} {rp : Int32} {rb : Nat → Int32} {mth : Int32} {msz : Int32} {mwi : Int32} {mle : Int32} {mgr : Int32} {mpr : Int32} {mhp : Int32} {mtk : Int32} {mbn : Int32} {mmd : Int32} {mep : Int32} {mat : Int32} {mer : Int32} {mtx : Nat → Int32} {mki : Nat → Int32} {mln : Nat → Int32} {mdi : Nat → Int32} {mst : Nat → Int32} {mbi : Nat → Int32} {mou : Nat → Int32} {mco : Nat → Int32} {mct : Nat → Int32} {mfk : Nat → Int32} {mfl : Nat → Int32} {mfd : Nat → Int32} {mgo : Nat → Int32} {mma : Nat → Int32} {ov : Nat → Int64} {od : Nat → UInt64} {KB : Int32 → Int32 → (Nat → Int32) → Int32 → Int32 → Int32 → Int32 → (Nat → Int32) → (Nat → Int32) → (Nat → Int32) → (Nat → Int32) → (Nat → Int32) → Int32 → Int32 → (Nat → Int32) → (Nat → Int32) → (Nat → Int32) → (Nat → Int32) → Int32 → (Nat → Int32) → Int32 → Int32 → Int32 → Int32 → (Nat → Int32) → Int32 → Int32 → Int32 → Int32 → Int32 → Int32 → Int32 → Int32 → Int32 → Int32 → Int32 → Int32 → Int32 → (Nat → Int32) → (Nat → Int32) → (Nat → Int32) → (Nat → Int32) → (Nat → Int32) → (Nat → Int32) → (Nat → Int32) → (Nat → Int32) → (Nat → Int32) → (Nat → Int32) → (Nat → Int32) → (Nat → Int32) → (Nat → Int32) → (Nat → Int32) → (Nat → Int64) → (Nat → UInt64) → Prop} (hI : Inv tn tb sw sl sg sp pn pch pk pl pd ps bn br rn rf rb msz mwi mle mgr mpr mhp mtk mbn mmd mep mtx mki mln mdi mst mbi mou) (hv1 : vp_in (v5 + 1) L) (hv2 : vp_in (v5 + 2) L) (hv3 : vp_in (v5 + 3) L) (hKB : ∀ (v59 : Int32) (tn9 : Int32) (tb9 : Nat → Int32) (sw9 : Int32) (sl9 : Int32) (sg9 : Int32) (sp9 : Int32) (ww9 : Nat → Int32) (wr9 : Nat → Int32) (wm9 : Nat → Int32) (wl9 : Nat → Int32) (wd9 : Nat → Int32) (pn9 : Int32) (pch9 : Int32) (pk9 : Nat → Int32) (pl9 : Nat → Int32) (pd9 : Nat → Int32) (ps9 : Nat → Int32) (bn9 : Int32) (br9 : Nat → Int32) (rn9 : Int32) (rf9 : Int32) (rx9 : Int32) (rp9 : Int32) (rb9 : Nat → Int32) (mth9 : Int32) (msz9 : Int32) (mwi9 : Int32) (mle9 : Int32) (mgr9 : Int32) (mpr9 : Int32) (mhp9 : Int32) (mtk9 : Int32) (mbn9 : Int32) (mmd9 : Int32) (mep9 : Int32) (mat9 : Int32) (mer9 : Int32) (mtx9 : Nat → Int32) (mki9 : Nat → Int32) (mln9 : Nat → Int32) (mdi9 : Nat → Int32) (mst9 : Nat → Int32) (mbi9 : Nat → Int32) (mou9 : Nat → Int32) (mco9 : Nat → Int32) (mct9 : Nat → Int32) (mfk9 : Nat → Int32) (mfl9 : Nat → Int32) (mfd9 : Nat → Int32) (mgo9 : Nat → Int32) (mma9 : Nat → Int32) (ov9 : Nat → Int64) (od9 : Nat → UInt64), v59 = v5 + 4 → Inv tn9 tb9 sw9 sl9 sg9 sp9 pn9 pch9 pk9 pl9 pd9 ps9 bn9 br9 rn9 rf9 rb9 msz9 mwi9 mle9 mgr9 mpr9 mhp9 mtk9 mbn9 mmd9 mep9 mtx9 mki9 mln9 mdi9 mst9 mbi9 mou9 → KB v59 tn9 tb9 sw9 sl9 sg9 sp9 ww9 wr9 wm9 wl9 wd9 pn9 pch9 pk9 pl9 pd9 ps9 bn9 br9 rn9 rf9 rx9 rp9 rb9 mth9 msz9 mwi9 mle9 mgr9 mpr9 mhp9 mtk9 mbn9 mmd9 mep9 mat9 mer9 mtx9 mki9 mln9 mdi9 mst9 mbi9 mou9 mco9 mct9 mfk9 mfl9 mfd9 mgo9 mma9 ov9 od9) : wpL_law_1364 v5 tn tb sw sl sg sp ww wr wm wl wd pn pch pk pl pd ps bn br rn rf rx rp rb msz mwi mle mgr mpr mhp mtk mbn mmd mep mat mer mtx mki mln mdi mst mbi mou mco mct mfk mfl mfd mgo mma ov od KB := by
  obtain ⟨hT, hSe, hPl, hB, hR⟩ := hI
  obtain ⟨n0, hn0, rfl, rfl, rfl, hby⟩ := id hT
  obtain ⟨w, le, gr, pr, hw, hle, hgr, hpr, ⟨rfl, rfl, rfl, rfl⟩, rfl, rfl, rfl, rfl⟩ := id hSe
  obtain ⟨rfl, rfl, rfl, rfl, rfl, hpl⟩ := id hPl
  unfold wpL_law_1364 wpL_ratio wpX10_ratio wpX10_thrown wpX9_ratio wpX10_ratio_13
  rcases hpl with ⟨rfl, rfl⟩ | ⟨rfl, rfl, k, n, hn, hk, rfl, e9, ⟨K, Ls, D, P, hP0, hPk, hp⟩⟩
  · refine br_t rfl ?_
    refine ⟨rfl, ?_⟩
    refine br_t rfl ?_
    refine br_f ne10 ?_
    exact tlK1 (hKB _ _ _ _ _ _ _ _ _ _ _ _ _ _ _ _ _ _ _ _ _ _ _ _ _ _ _ _ _ _ _ _ _ _ _ _ _ _ _ _ _ _ _ _ _ _ _ _ _ _ _ _ _ _ rfl ⟨hT, hSe, hPl, hB, hR⟩)
  · have hnn : n0 = n := (nI_eq (by omega) (by omega)).mp e9
    subst hnn
    refine br_f ne10 ?_
    by_cases c : n0 = 0
    · subst c
      refine br_t nI_0 ?_
      refine br_f ne10 ?_
      refine br_t rfl ?_
      refine br_t nI_0 ?_
      exact tlK0 (tlD (hKB _ _ _ _ _ _ _ _ _ _ _ _ _ _ _ _ _ _ _ _ _ _ _ _ _ _ _ _ _ _ _ _ _ _ _ _ _ _ _ _ _ _ _ _ _ _ _ _ _ _ _ _ _ _ rfl ⟨hT, hSe, hPl, hB, hR⟩))
    · have c2 : ¬ nI n0 = 0 := nI_ne0 (by omega) (by omega)
      have hs : sumB K Ls D k ≤ 576 := by
        have := sumB_le hp hP0 k (Nat.le_refl k)
        omega
      have e8 : (8 : Int32) * nI n0 = nI (8 * n0) := pk_mul 8 n0
      have hv := rat_n (b := sumB K Ls D k) (n := n0) (by omega) (by omega)
      refine br_f c2 ?_
      refine sX4_bitsOfAll hk hp ?_
      rw [e8]
      refine ⟨hv, ?_⟩
      refine br_f ne10 ?_
      refine br_t rfl ?_
      refine br_f c2 ?_
      refine sX10_sum hk hp ?_
      rw [pk_mul, pk_sub (by omega), Nat.add_sub_cancel]
      refine ⟨hv, ?_⟩
      exact tlK0 (tlD (hKB _ _ _ _ _ _ _ _ _ _ _ _ _ _ _ _ _ _ _ _ _ _ _ _ _ _ _ _ _ _ _ _ _ _ _ _ _ _ _ _ _ _ _ _ _ _ _ _ _ _ _ _ _ _ rfl ⟨hT, hSe, hPl, hB, hR⟩))

