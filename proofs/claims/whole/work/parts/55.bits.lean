-- bits that are appended
def pb (v : Int32) : Nat → (Nat → Int32) → Nat → (Nat → Int32)
  | 0, r, _ => r
  | k + 1, r, m => pb v k (upd r m ((v >>> (nI k &&& 31)) &&& 1)) (m + 1)
theorem and1 (x : Int32) : x &&& 1 = 0 ∨ x &&& 1 = 1 := by
  obtain ⟨j, hj, e⟩ := pk_andE x (m := 1) 1 (by decide)
  rw [e]
  rcases (show j = 0 ∨ j = 1 by omega) with rfl | rfl
  · exact Or.inl rfl
  · exact Or.inr rfl
theorem upd_bit {r : Nat → Int32} {k : Nat} {x : Int32} (h : ∀ i, r i = 0 ∨ r i = 1) (hx : x = 0 ∨ x = 1) : ∀ i, upd r k x i = 0 ∨ upd r k x i = 1 := by
  intro i
  by_cases hi : i = k
  · rw [hi, pk_us]; exact hx
  · rw [pk_un hi]; exact h i
theorem pb_bits (v : Int32) : ∀ (k : Nat) (r : Nat → Int32) (m : Nat), (∀ i, r i = 0 ∨ r i = 1) → ∀ i, pb v k r m i = 0 ∨ pb v k r m i = 1
  | 0, _, _, h => h
  | k + 1, _, m, h => pb_bits v k _ (m + 1) (upd_bit h (and1 _))
theorem i_n800 {n : Nat} (h : n < 800) : ¬ (800 : Int32) ≤ nI n := fun q => absurd ((nI_leI (a := 800) (by decide) (by omega)).mp q) (by omega)
theorem plX {v : Int32} {K : Int32 → (Nat → Int32) → Prop} : ∀ (k fuel : Nat) (r : Nat → Int32) (m : Nat), k < fuel → m + k ≤ 800 → K (nI (m + k)) (pb v k r m) → wpX1_pushLow_4 v K fuel (nI k - 1) (nI m) r := by
  intro k
  induction k with
  | zero =>
    intro fuel r m hf hm h
    obtain ⟨f, rfl⟩ : ∃ f, fuel = f + 1 := ⟨fuel - 1, by omega⟩
    rw [wpX1_pushLow_4]
    exact br_t i_neg h
  | succ k ih =>
    intro fuel r m hf hm h
    obtain ⟨f, rfl⟩ : ∃ f, fuel = f + 1 := ⟨fuel - 1, by omega⟩
    rw [wpX1_pushLow_4, nI_pred]
    refine br_f (nI_pos (by omega)) (br_f (i_n800 (by omega)) ⟨vp_in_nI (by omega) (by decide), ?_⟩)
    rw [i_m1, nI_clamp (by omega), nI_1]
    exact ih f _ (m + 1) (by omega) (by omega) (by rw [show m + 1 + k = m + (k + 1) by omega]; exact h)
theorem pbM {v : Int32} {K : Int32 → (Nat → Int32) → Prop} : ∀ (k fuel : Nat) (r : Nat → Int32) (m : Nat), k < fuel → m + k ≤ 800 → K (nI (m + k)) (pb v k r m) → wpX10_putBits_4 v K fuel (nI k - 1) (nI m) r := by
  intro k
  induction k with
  | zero =>
    intro fuel r m hf hm h
    obtain ⟨f, rfl⟩ : ∃ f, fuel = f + 1 := ⟨fuel - 1, by omega⟩
    rw [wpX10_putBits_4]
    exact br_t i_neg h
  | succ k ih =>
    intro fuel r m hf hm h
    obtain ⟨f, rfl⟩ : ∃ f, fuel = f + 1 := ⟨fuel - 1, by omega⟩
    rw [wpX10_putBits_4, nI_pred]
    refine br_f (nI_pos (by omega)) ⟨vp_in_nI (by omega) (by decide), ?_⟩
    rw [i_m1, nI_clamp (by omega), nI_1]
    exact ih f _ (m + 1) (by omega) (by omega) (by rw [show m + 1 + k = m + (k + 1) by omega]; exact h)
theorem sX1_pushLow {v : Int32} {k m : Nat} {r : Nat → Int32} {post : Int32 → (Nat → Int32) → Prop} (hm : m + k ≤ 800) (h : post (nI (m + k)) (pb v k r m)) : wpX1_pushLow (nI m) r v (nI k) post := ⟨k + 1, plX k (k + 1) r m (by omega) hm h⟩
theorem sX10_putBits {v : Int32} {k m : Nat} {r : Nat → Int32} {post : Int32 → (Nat → Int32) → Prop} (hm : m + k ≤ 800) (h : post (nI (m + k)) (pb v k r m)) : wpX10_putBits (nI m) r v (nI k) post := ⟨k + 1, pbM k (k + 1) r m (by omega) hm h⟩
theorem sX1_pushNumber {x m : Nat} {r : Nat → Int32} {post : Int32 → (Nat → Int32) → Prop} (hx : x < 256) (hm : m + wdt x ≤ 800) (h : post (nI (m + wdt x)) (pb (nI x) (wdt x) r m)) : wpX1_pushNumber (nI m) r (nI x) post := by
  unfold wpX1_pushNumber
  exact sX2_numberBits hx (sX1_pushLow hm h)
theorem sX10_putNumber {x m : Nat} {r : Nat → Int32} {post : Int32 → (Nat → Int32) → Prop} (h0 : 0 < x) (hx : x < 256) (hm : m + wdt x ≤ 800) (h : post (nI (m + wdt x)) (pb (nI x) (wdt x) r m)) : wpX10_putNumber (nI m) r (nI x) post := by
  unfold wpX10_putNumber
  exact sX10_width h0 hx (sX10_putBits hm h)
-- a token, and all tokens
def wtk (t : Nat → Int32) (K l d p : Nat) (r : Nat → Int32) (m : Nat) : Nat → Int32 :=
  if K = 0 then pb (t p) 9 r m else if K = 1 then pb (nI (l - 1)) (wdt (l - 1)) (pb (nI d) (wdt d) (pb 2 2 r m) (m + 2)) (m + 2 + wdt d) else pb (nI l) (wdt l) (pb 3 2 r m) (m + 2)
theorem wtk_bits {t : Nat → Int32} {K l d p m : Nat} {r : Nat → Int32} (h : ∀ i, r i = 0 ∨ r i = 1) : ∀ i, wtk t K l d p r m i = 0 ∨ wtk t K l d p r m i = 1 := by
  unfold wtk
  split
  · exact pb_bits _ _ _ _ h
  · split
    · exact pb_bits _ _ _ _ (pb_bits _ _ _ _ (pb_bits _ _ _ _ h))
    · exact pb_bits _ _ _ _ (pb_bits _ _ _ _ h)
theorem top0 : ∀ b, b < 256 → (nI b >>> (nI 8 &&& 31)) &&& 1 = ((0 : Int32) >>> (nI 0 &&& 31)) &&& 1 := by decide +kernel
theorem sX9_writeToken {t pk pl pd ps : Nat → Int32} {i K l d p m : Nat} {r : Nat → Int32} {post : Int32 → (Nat → Int32) → Prop} (hi : i < 64) (e1 : pk i = nI K) (e2 : pl i = nI l) (e3 : pd i = nI d) (e4 : ps i = nI p) (hp : p < 64) (ok : tokOK K l d) (hb : ∃ b : Nat, b < 256 ∧ t p = nI b) (hm : m + tbn K l d ≤ 800) (h : post (nI (m + tbn K l d)) (wtk t K l d p r m)) : wpX9_writeToken t pk pl pd ps (nI m) r (nI i) post := by
  unfold wpX9_writeToken
  rw [nI_clamp (by omega), e1, e2, e3, e4, nI_clamp (by omega)]
  refine ⟨vp_in_nI hi (by decide), ?_⟩
  rcases ok with ⟨rfl, rfl, rfl⟩ | ⟨rfl, hl, hd⟩ | ⟨rfl, hl, hd⟩
  · have hm' : m + 9 ≤ 800 := hm
    refine br_t nI_0 (sX1_pushLow (k := 1) (by omega) ⟨vp_in_nI hp (by decide), sX1_pushLow (k := 8) (by omega) ?_⟩)
    obtain ⟨b, hb1, hb2⟩ := hb
    have e : pb (t p) 8 (pb 0 1 r m) (m + 1) = wtk t 0 1 0 p r m := by
      show pb (t p) 8 (upd r m (((0 : Int32) >>> (nI 0 &&& 31)) &&& 1)) (m + 1) = pb (t p) 8 (upd r m ((t p >>> (nI 8 &&& 31)) &&& 1)) (m + 1)
      rw [hb2, top0 b hb1]
    rw [e]
    exact h
  · have hm' : m + (2 + wdt d + wdt (l - 1)) ≤ 800 := hm
    refine br_f (nI_ne0 (by decide) (by decide)) (br_t rfl (sX1_pushLow (k := 2) (by omega) (sX1_pushNumber (by omega) (by omega) ?_)))
    rw [i_p1 (by omega)]
    refine sX1_pushNumber (by omega) (by omega) ?_
    rw [show m + 2 + wdt d + wdt (l - 1) = m + (2 + wdt d + wdt (l - 1)) by omega]
    exact h
  · have hm' : m + (2 + wdt l) ≤ 800 := hm
    refine br_f (nI_ne0 (by decide) (by decide)) (br_f (by decide) (sX1_pushLow (k := 2) (by omega) (sX1_pushNumber (by omega) (by omega) ?_)))
    rw [show m + 2 + wdt l = m + (2 + wdt l) by omega]
    exact h
theorem sM_token {t pk pl pd ps : Nat → Int32} {i K l d p m : Nat} {r : Nat → Int32} {KB : Int32 → Int32 → (Nat → Int32) → Prop} {Kx : Int32 → (Nat → Int32) → Prop} (hi : i < 64) (e1 : pk i = nI K) (e2 : pl i = nI l) (e3 : pd i = nI d) (e4 : ps i = nI p) (hp : p < 64) (ok : tokOK K l d) (hm : m + tbn K l d ≤ 800) (h : KB (nI (i + 1)) (nI (m + tbn K l d)) (wtk t K l d p r m)) : vp_in (nI i) 64 ∧ (((pk (nI i).toNatClampNeg) = 0 → (vp_in (ps (nI i).toNatClampNeg) 64 ∧ (wpX10_putBits (nI m) r (t (ps (nI i).toNatClampNeg).toNatClampNeg) 9 (fun (m2 : Int32) (r2 : Nat → Int32) => wpX10_write_82 (nI i) m2 pk pl pd r2 KB Kx)))) ∧ (¬ (pk (nI i).toNatClampNeg) = 0 → (((pk (nI i).toNatClampNeg) = 1 → (wpX10_putBits (nI m) r 2 2 (fun (m2 : Int32) (r2 : Nat → Int32) => wpX10_write_82 (nI i) m2 pk pl pd r2 KB Kx))) ∧ (¬ (pk (nI i).toNatClampNeg) = 1 → (wpX10_putBits (nI m) r 3 2 (fun (m2 : Int32) (r2 : Nat → Int32) => wpX10_write_82 (nI i) m2 pk pl pd r2 KB Kx)))))) := by
  unfold wpX10_write_82 wpX10_write_102 wpX10_write_142
  rw [nI_clamp (by omega), e1, e2, e3, e4, nI_clamp (by omega), nI_1]
  have hv := vp_in_nI hi (N := 64) (by decide)
  refine ⟨hv, ?_⟩
  rcases ok with ⟨rfl, rfl, rfl⟩ | ⟨rfl, hl, hd⟩ | ⟨rfl, hl, hd⟩
  · have hm' : m + 9 ≤ 800 := hm
    exact br_t nI_0 ⟨vp_in_nI hp (by decide), sX10_putBits (k := 9) hm' ⟨hv, br_f (by decide) ⟨hv, br_t nI_0 h⟩⟩⟩
  · have hm' : m + (2 + wdt d + wdt (l - 1)) ≤ 800 := hm
    have h1 : ¬ nI 1 = 0 := by decide
    refine br_f h1 (br_t rfl (sX10_putBits (k := 2) (by omega) ⟨hv, br_t rfl (sX10_putNumber (by omega) (by omega) (by omega) ⟨hv, br_f h1 (br_t rfl ?_)⟩)⟩))
    rw [i_p1 (by omega)]
    refine sX10_putNumber (by omega) (by omega) (by omega) ?_
    rw [show m + 2 + wdt d + wdt (l - 1) = m + (2 + wdt d + wdt (l - 1)) by omega]
    exact h
  · have hm' : m + (2 + wdt l) ≤ 800 := hm
    have h1 : ¬ nI 2 = 0 := by decide
    have h2 : ¬ nI 2 = 1 := by decide
    refine br_f h1 (br_f h2 (sX10_putBits (k := 2) (by omega) ⟨hv, br_f h2 ⟨hv, br_f h1 (br_f h2 (sX10_putNumber (by omega) (by omega) (by omega) ?_))⟩⟩))
    rw [show m + 2 + wdt l = m + (2 + wdt l) by omega]
    exact h
def wrR (t : Nat → Int32) (K Ls D P : Nat → Nat) (r : Nat → Int32) : Nat → (Nat → Int32)
  | 0 => r
  | i + 1 => wtk t (K i) (Ls i) (D i) (P i) (wrR t K Ls D P r i) (sumB K Ls D i)
theorem wrR_bits {t : Nat → Int32} {K Ls D P : Nat → Nat} {r : Nat → Int32} (h : ∀ i, r i = 0 ∨ r i = 1) : ∀ j i, wrR t K Ls D P r j i = 0 ∨ wrR t K Ls D P r j i = 1
  | 0 => h
  | j + 1 => wtk_bits (wrR_bits h j)
theorem Toks.mono {pk pl pd ps : Nat → Int32} {K Ls D P : Nat → Nat} {k : Nat} (hp : Toks pk pl pd ps K Ls D P k) : ∀ (j i : Nat), i + j ≤ k → P i ≤ P (i + j)
  | 0, i, _ => Nat.le_refl _
  | j + 1, i, h => by
    have h1 := hp.mono j i (by omega)
    obtain ⟨-, h2, -⟩ := hp (i + j) (by omega)
    rw [show i + (j + 1) = i + j + 1 by omega, h2]
    omega
theorem tok_l {K l d : Nat} (ok : tokOK K l d) : 1 ≤ l := by
  rcases ok with ⟨_, rfl, _⟩ | ⟨_, h, _⟩ | ⟨_, h, _⟩ <;> omega
theorem wrX {t pk pl pd ps : Nat → Int32} {K Ls D P : Nat → Nat} {k : Nat} {r : Nat → Int32} {Kc : Int32 → (Nat → Int32) → Prop} (hk : k ≤ 64) (h0 : P 0 = 0) (hn : P k ≤ 64) (hp : Toks pk pl pd ps K Ls D P k) (hb : ∀ i, ∃ b : Nat, b < 256 ∧ t i = nI b) : ∀ (j fuel i : Nat), i + j = k → j < fuel → Kc (nI (sumB K Ls D k)) (wrR t K Ls D P r k) → wpX9_write_30 t (nI k) pk pl pd ps Kc fuel (nI i) (nI (sumB K Ls D i)) (wrR t K Ls D P r i) := by
  intro j
  induction j with
  | zero =>
    intro fuel i hi hf h
    obtain ⟨f, rfl⟩ : ∃ f, fuel = f + 1 := ⟨fuel - 1, by omega⟩
    rw [wpX9_write_30]
    refine br_t (nI_le (by omega) (by omega)) ?_
    rw [show i = k by omega]
    exact h
  | succ j ih =>
    intro fuel i hi hf h
    obtain ⟨f, rfl⟩ : ∃ f, fuel = f + 1 := ⟨fuel - 1, by omega⟩
    obtain ⟨⟨e1, e2, e3, e4⟩, e5, ok⟩ := hp i (by omega)
    have hl := tok_l ok
    have hP := hp.mono (k - (i + 1)) (i + 1) (by omega)
    rw [show i + 1 + (k - (i + 1)) = k by omega] at hP
    have hs := sumB_le hp h0 (i + 1) (by omega)
    rw [sumB] at hs
    rw [wpX9_write_30]
    refine br_f (nI_ge (by omega) (by omega)) (sX9_writeToken (by omega) e1 e2 e3 e4 (by omega) ok (hb _) (by omega) ?_)
    rw [nI_1]
    exact ih f (i + 1) (by omega) (by omega) h
theorem wrM {t pk pl pd ps : Nat → Int32} {K Ls D P : Nat → Nat} {k : Nat} {r : Nat → Int32} {Kc : Int32 → (Nat → Int32) → Prop} (hk : k ≤ 64) (h0 : P 0 = 0) (hn : P k ≤ 64) (hp : Toks pk pl pd ps K Ls D P k) : ∀ (j fuel i : Nat), i + j = k → j < fuel → Kc (nI (sumB K Ls D k)) (wrR t K Ls D P r k) → wpX10_write_25 (nI k) t pk pl pd ps Kc fuel (nI i) (nI (sumB K Ls D i)) (wrR t K Ls D P r i) := by
  intro j
  induction j with
  | zero =>
    intro fuel i hi hf h
    obtain ⟨f, rfl⟩ : ∃ f, fuel = f + 1 := ⟨fuel - 1, by omega⟩
    rw [wpX10_write_25]
    refine br_t (nI_le (by omega) (by omega)) ?_
    rw [show i = k by omega]
    exact h
  | succ j ih =>
    intro fuel i hi hf h
    obtain ⟨f, rfl⟩ : ∃ f, fuel = f + 1 := ⟨fuel - 1, by omega⟩
    obtain ⟨⟨e1, e2, e3, e4⟩, e5, ok⟩ := hp i (by omega)
    have hl := tok_l ok
    have hP := hp.mono (k - (i + 1)) (i + 1) (by omega)
    rw [show i + 1 + (k - (i + 1)) = k by omega] at hP
    have hs := sumB_le hp h0 (i + 1) (by omega)
    rw [sumB] at hs
    rw [wpX10_write_25]
    exact br_f (nI_ge (by omega) (by omega)) (sM_token (by omega) e1 e2 e3 e4 (by omega) ok (by omega) (ih f (i + 1) (by omega) (by omega) h))
set_option maxHeartbeats 1000000 in
theorem cs_1429 {L : Nat} {xs : Nat → Int32} {v5 : Int32} {tn : Int32} {tb : Nat → Int32} {sw : Int32} {sl : Int32} {sg : Int32} {sp : Int32} {ww : Nat → Int32} {wr : Nat → Int32} {wm : Nat → Int32} {wl : Nat → Int32} {wd : Nat → Int32} {pn : Int32} {pch : Int32} {pk : Nat → Int32} {pl : Nat → Int32} {pd : Nat → Int32} {ps : Nat → Int32} {bn : Int32} {br : Nat → Int32} {rn : Int32} {rf : Int32} {rx : Int32} {rp : Int32} {rb : Nat → Int32} {mth : Int32} {msz : Int32} {mwi : Int32} {mle : Int32} {mgr : Int32} {mpr : Int32} {mhp : Int32} {mtk : Int32} {mbn : Int32} {mmd : Int32} {mep : Int32} {mat : Int32} {mer : Int32} {mtx : Nat → Int32} {mki : Nat → Int32} {mln : Nat → Int32} {mdi : Nat → Int32} {mst : Nat → Int32} {mbi : Nat → Int32} {mou : Nat → Int32} {mco : Nat → Int32} {mct : Nat → Int32} {mfk : Nat → Int32} {mfl : Nat → Int32} {mfd : Nat → Int32} {mgo : Nat → Int32} {mma : Nat → Int32} {ov : Nat → Int64} {od : Nat → UInt64} {KB : Int32 → Int32 → (Nat → Int32) → Int32 → Int32 → Int32 → Int32 → (Nat → Int32) → (Nat → Int32) → (Nat → Int32) → (Nat → Int32) → (Nat → Int32) → Int32 → Int32 → (Nat → Int32) → (Nat → Int32) → (Nat → Int32) → (Nat → Int32) → Int32 → (Nat → Int32) → Int32 → Int32 → Int32 → Int32 → (Nat → Int32) → Int32 → Int32 → Int32 → Int32 → Int32 → Int32 → Int32 → Int32 → Int32 → Int32 → Int32 → Int32 → Int32 → (Nat → Int32) → (Nat → Int32) → (Nat → Int32) → (Nat → Int32) → (Nat → Int32) → (Nat → Int32) → (Nat → Int32) → (Nat → Int32) → (Nat → Int32) → (Nat → Int32) → (Nat → Int32) → (Nat → Int32) → (Nat → Int32) → (Nat → Int32) → (Nat → Int64) → (Nat → UInt64) → Prop} (hI : Inv tn tb sw sl sg sp pn pch pk pl pd ps bn br rn rf rb msz mwi mle mgr mpr mhp mtk mbn mmd mep mtx mki mln mdi mst mbi mou) (hv1 : vp_in (v5 + 1) L) (hv2 : vp_in (v5 + 2) L) (hv3 : vp_in (v5 + 3) L) (hKB : ∀ (v59 : Int32) (tn9 : Int32) (tb9 : Nat → Int32) (sw9 : Int32) (sl9 : Int32) (sg9 : Int32) (sp9 : Int32) (ww9 : Nat → Int32) (wr9 : Nat → Int32) (wm9 : Nat → Int32) (wl9 : Nat → Int32) (wd9 : Nat → Int32) (pn9 : Int32) (pch9 : Int32) (pk9 : Nat → Int32) (pl9 : Nat → Int32) (pd9 : Nat → Int32) (ps9 : Nat → Int32) (bn9 : Int32) (br9 : Nat → Int32) (rn9 : Int32) (rf9 : Int32) (rx9 : Int32) (rp9 : Int32) (rb9 : Nat → Int32) (mth9 : Int32) (msz9 : Int32) (mwi9 : Int32) (mle9 : Int32) (mgr9 : Int32) (mpr9 : Int32) (mhp9 : Int32) (mtk9 : Int32) (mbn9 : Int32) (mmd9 : Int32) (mep9 : Int32) (mat9 : Int32) (mer9 : Int32) (mtx9 : Nat → Int32) (mki9 : Nat → Int32) (mln9 : Nat → Int32) (mdi9 : Nat → Int32) (mst9 : Nat → Int32) (mbi9 : Nat → Int32) (mou9 : Nat → Int32) (mco9 : Nat → Int32) (mct9 : Nat → Int32) (mfk9 : Nat → Int32) (mfl9 : Nat → Int32) (mfd9 : Nat → Int32) (mgo9 : Nat → Int32) (mma9 : Nat → Int32) (ov9 : Nat → Int64) (od9 : Nat → UInt64), v59 = v5 + 4 → Inv tn9 tb9 sw9 sl9 sg9 sp9 pn9 pch9 pk9 pl9 pd9 ps9 bn9 br9 rn9 rf9 rb9 msz9 mwi9 mle9 mgr9 mpr9 mhp9 mtk9 mbn9 mmd9 mep9 mtx9 mki9 mln9 mdi9 mst9 mbi9 mou9 → KB v59 tn9 tb9 sw9 sl9 sg9 sp9 ww9 wr9 wm9 wl9 wd9 pn9 pch9 pk9 pl9 pd9 ps9 bn9 br9 rn9 rf9 rx9 rp9 rb9 mth9 msz9 mwi9 mle9 mgr9 mpr9 mhp9 mtk9 mbn9 mmd9 mep9 mat9 mer9 mtx9 mki9 mln9 mdi9 mst9 mbi9 mou9 mco9 mct9 mfk9 mfl9 mfd9 mgo9 mma9 ov9 od9) : wpL_law_1429 v5 tn tb sw sl sg sp ww wr wm wl wd pn pch pk pl pd ps bn br rn rf rx rp rb msz mwi mle mgr mpr mhp mtk mbn mmd mep mat mer mtx mki mln mdi mst mbi mou mco mct mfk mfl mfd mgo mma ov od KB := by
  obtain ⟨hT, hSe, hPl, hB, hR⟩ := hI
  obtain ⟨n0, hn0, rfl, rfl, rfl, hby⟩ := id hT
  obtain ⟨m, hm, rfl, rfl, rfl, hbi⟩ := id hB
  obtain ⟨rfl, rfl, rfl, rfl, rfl, hpl⟩ := id hPl
  unfold wpL_law_1429 wpL_write wpX10_write wpX10_thrown wpX9_write wpX10_no
  rcases hpl with ⟨rfl, rfl⟩ | ⟨rfl, rfl, k, n, hn, hk, rfl, e9, ⟨K, Ls, D, P, hP0, hPk, hp⟩⟩
  · refine br_t rfl ?_
    refine ⟨rfl, ?_⟩
    refine br_t rfl ?_
    exact tlK1 (hKB _ _ _ _ _ _ _ _ _ _ _ _ _ _ _ _ _ _ _ _ _ _ _ _ _ _ _ _ _ _ _ _ _ _ _ _ _ _ _ _ _ _ _ _ _ _ _ _ _ _ _ _ _ _ rfl ⟨hT, hSe, hPl, hB, hR⟩)
  · have hs : sumB K Ls D k ≤ 576 := by
      have := sumB_le hp hP0 k (Nat.le_refl k)
      omega
    refine br_f ne10 ?_
    refine ⟨k + 1, ?_⟩
    refine wrX (r := mbi) hk hP0 (by omega) hp hby k (k + 1) 0 (by omega) (by omega) ?_
    refine br_f ne10 ?_
    refine ⟨k + 1, ?_⟩
    refine wrM (r := mbi) hk hP0 (by omega) hp k (k + 1) 0 (by omega) (by omega) ?_
    exact tlK0 (tl0 (hKB _ _ _ _ _ _ _ _ _ _ _ _ _ _ _ _ _ _ _ _ _ _ _ _ _ _ _ _ _ _ _ _ _ _ _ _ _ _ _ _ _ _ _ _ _ _ _ _ _ _ _ _ _ _ rfl ⟨hT, hSe, hPl, ⟨sumB K Ls D k, by omega, rfl, rfl, rfl, wrR_bits hbi k⟩, hR⟩))
set_option maxHeartbeats 1000000 in
theorem cs_1486 {L : Nat} {xs : Nat → Int32} {v5 : Int32} {tn : Int32} {tb : Nat → Int32} {sw : Int32} {sl : Int32} {sg : Int32} {sp : Int32} {ww : Nat → Int32} {wr : Nat → Int32} {wm : Nat → Int32} {wl : Nat → Int32} {wd : Nat → Int32} {pn : Int32} {pch : Int32} {pk : Nat → Int32} {pl : Nat → Int32} {pd : Nat → Int32} {ps : Nat → Int32} {bn : Int32} {br : Nat → Int32} {rn : Int32} {rf : Int32} {rx : Int32} {rp : Int32} {rb : Nat → Int32} {mth : Int32} {msz : Int32} {mwi : Int32} {mle : Int32} {mgr : Int32} {mpr : Int32} {mhp : Int32} {mtk : Int32} {mbn : Int32} {mmd : Int32} {mep : Int32} {mat : Int32} {mer : Int32} {mtx : Nat → Int32} {mki : Nat → Int32} {mln : Nat → Int32} {mdi : Nat → Int32} {mst : Nat → Int32} {mbi : Nat → Int32} {mou : Nat → Int32} {mco : Nat → Int32} {mct : Nat → Int32} {mfk : Nat → Int32} {mfl : Nat → Int32} {mfd : Nat → Int32} {mgo : Nat → Int32} {mma : Nat → Int32} {ov : Nat → Int64} {od : Nat → UInt64} {KB : Int32 → Int32 → (Nat → Int32) → Int32 → Int32 → Int32 → Int32 → (Nat → Int32) → (Nat → Int32) → (Nat → Int32) → (Nat → Int32) → (Nat → Int32) → Int32 → Int32 → (Nat → Int32) → (Nat → Int32) → (Nat → Int32) → (Nat → Int32) → Int32 → (Nat → Int32) → Int32 → Int32 → Int32 → Int32 → (Nat → Int32) → Int32 → Int32 → Int32 → Int32 → Int32 → Int32 → Int32 → Int32 → Int32 → Int32 → Int32 → Int32 → Int32 → (Nat → Int32) → (Nat → Int32) → (Nat → Int32) → (Nat → Int32) → (Nat → Int32) → (Nat → Int32) → (Nat → Int32) → (Nat → Int32) → (Nat → Int32) → (Nat → Int32) → (Nat → Int32) → (Nat → Int32) → (Nat → Int32) → (Nat → Int32) → (Nat → Int64) → (Nat → UInt64) → Prop} (hI : Inv tn tb sw sl sg sp pn pch pk pl pd ps bn br rn rf rb msz mwi mle mgr mpr mhp mtk mbn mmd mep mtx mki mln mdi mst mbi mou) (hv1 : vp_in (v5 + 1) L) (hv2 : vp_in (v5 + 2) L) (hv3 : vp_in (v5 + 3) L) (hKB : ∀ (v59 : Int32) (tn9 : Int32) (tb9 : Nat → Int32) (sw9 : Int32) (sl9 : Int32) (sg9 : Int32) (sp9 : Int32) (ww9 : Nat → Int32) (wr9 : Nat → Int32) (wm9 : Nat → Int32) (wl9 : Nat → Int32) (wd9 : Nat → Int32) (pn9 : Int32) (pch9 : Int32) (pk9 : Nat → Int32) (pl9 : Nat → Int32) (pd9 : Nat → Int32) (ps9 : Nat → Int32) (bn9 : Int32) (br9 : Nat → Int32) (rn9 : Int32) (rf9 : Int32) (rx9 : Int32) (rp9 : Int32) (rb9 : Nat → Int32) (mth9 : Int32) (msz9 : Int32) (mwi9 : Int32) (mle9 : Int32) (mgr9 : Int32) (mpr9 : Int32) (mhp9 : Int32) (mtk9 : Int32) (mbn9 : Int32) (mmd9 : Int32) (mep9 : Int32) (mat9 : Int32) (mer9 : Int32) (mtx9 : Nat → Int32) (mki9 : Nat → Int32) (mln9 : Nat → Int32) (mdi9 : Nat → Int32) (mst9 : Nat → Int32) (mbi9 : Nat → Int32) (mou9 : Nat → Int32) (mco9 : Nat → Int32) (mct9 : Nat → Int32) (mfk9 : Nat → Int32) (mfl9 : Nat → Int32) (mfd9 : Nat → Int32) (mgo9 : Nat → Int32) (mma9 : Nat → Int32) (ov9 : Nat → Int64) (od9 : Nat → UInt64), v59 = v5 + 4 → Inv tn9 tb9 sw9 sl9 sg9 sp9 pn9 pch9 pk9 pl9 pd9 ps9 bn9 br9 rn9 rf9 rb9 msz9 mwi9 mle9 mgr9 mpr9 mhp9 mtk9 mbn9 mmd9 mep9 mtx9 mki9 mln9 mdi9 mst9 mbi9 mou9 → KB v59 tn9 tb9 sw9 sl9 sg9 sp9 ww9 wr9 wm9 wl9 wd9 pn9 pch9 pk9 pl9 pd9 ps9 bn9 br9 rn9 rf9 rx9 rp9 rb9 mth9 msz9 mwi9 mle9 mgr9 mpr9 mhp9 mtk9 mbn9 mmd9 mep9 mat9 mer9 mtx9 mki9 mln9 mdi9 mst9 mbi9 mou9 mco9 mct9 mfk9 mfl9 mfd9 mgo9 mma9 ov9 od9) : wpL_law_1486 L xs v5 tn tb sw sl sg sp ww wr wm wl wd pn pch pk pl pd ps bn br rn rf rx rp rb msz mwi mle mgr mpr mhp mtk mbn mmd mep mat mer mtx mki mln mdi mst mbi mou mco mct mfk mfl mfd mgo mma ov od KB := by
  obtain ⟨hT, hSe, hPl, hB, hR⟩ := hI
  obtain ⟨m, hm, rfl, rfl, rfl, hbi⟩ := id hB
  unfold wpL_law_1486 wpL_bit wpX10_bit wpX10_thrown wpX9_bit wpX10_no wpX1_has
  refine ⟨hv1, ?_⟩
  generalize xs (v5 + 1).toNatClampNeg = v
  by_cases c1 : v < 0
  · refine br_t c1 ?_
    refine br_t rfl ?_
    refine ⟨rfl, ?_⟩
    refine iIn0 (Or.inl c1) ?_
    refine br_t rfl ?_
    exact tlK1 (hKB _ _ _ _ _ _ _ _ _ _ _ _ _ _ _ _ _ _ _ _ _ _ _ _ _ _ _ _ _ _ _ _ _ _ _ _ _ _ _ _ _ _ _ _ _ _ _ _ _ _ _ _ _ _ rfl ⟨hT, hSe, hPl, hB, hR⟩)
  · by_cases c2 : nI m ≤ v
    · refine br_f c1 ?_
      refine br_t c2 ?_
      refine br_t rfl ?_
      refine ⟨rfl, ?_⟩
      refine iIn0 (Or.inr ((i_last (by omega)).mpr c2)) ?_
      refine br_t rfl ?_
      exact tlK1 (hKB _ _ _ _ _ _ _ _ _ _ _ _ _ _ _ _ _ _ _ _ _ _ _ _ _ _ _ _ _ _ _ _ _ _ _ _ _ _ _ _ _ _ _ _ _ _ _ _ _ _ _ _ _ _ rfl ⟨hT, hSe, hPl, hB, hR⟩)
    · obtain ⟨j, hj, rfl, hin⟩ := i_at (N := 800) c1 c2 hm (by decide)
      refine br_f c1 ?_
      refine br_f c2 ?_
      refine br_f ne10 ?_
      refine ⟨hin, ?_⟩
      refine iIn1 c1 (fun q => c2 ((i_last (by omega)).mp q)) ?_
      refine br_f ne10 ?_
      refine ⟨hin, ?_⟩
      exact tlK0 (tl0 (hKB _ _ _ _ _ _ _ _ _ _ _ _ _ _ _ _ _ _ _ _ _ _ _ _ _ _ _ _ _ _ _ _ _ _ _ _ _ _ _ _ _ _ _ _ _ _ _ _ _ _ _ _ _ _ rfl ⟨hT, hSe, hPl, hB, hR⟩))
set_option maxHeartbeats 1000000 in
theorem cs_1542 {L : Nat} {xs : Nat → Int32} {v5 : Int32} {tn : Int32} {tb : Nat → Int32} {sw : Int32} {sl : Int32} {sg : Int32} {sp : Int32} {ww : Nat → Int32} {wr : Nat → Int32} {wm : Nat → Int32} {wl : Nat → Int32} {wd : Nat → Int32} {pn : Int32} {pch : Int32} {pk : Nat → Int32} {pl : Nat → Int32} {pd : Nat → Int32} {ps : Nat → Int32} {bn : Int32} {br : Nat → Int32} {rn : Int32} {rf : Int32} {rx : Int32} {rp : Int32} {rb : Nat → Int32} {mth : Int32} {msz : Int32} {mwi : Int32} {mle : Int32} {mgr : Int32} {mpr : Int32} {mhp : Int32} {mtk : Int32} {mbn : Int32} {mmd : Int32} {mep : Int32} {mat : Int32} {mer : Int32} {mtx : Nat → Int32} {mki : Nat → Int32} {mln : Nat → Int32} {mdi : Nat → Int32} {mst : Nat → Int32} {mbi : Nat → Int32} {mou : Nat → Int32} {mco : Nat → Int32} {mct : Nat → Int32} {mfk : Nat → Int32} {mfl : Nat → Int32} {mfd : Nat → Int32} {mgo : Nat → Int32} {mma : Nat → Int32} {ov : Nat → Int64} {od : Nat → UInt64} {KB : Int32 → Int32 → (Nat → Int32) → Int32 → Int32 → Int32 → Int32 → (Nat → Int32) → (Nat → Int32) → (Nat → Int32) → (Nat → Int32) → (Nat → Int32) → Int32 → Int32 → (Nat → Int32) → (Nat → Int32) → (Nat → Int32) → (Nat → Int32) → Int32 → (Nat → Int32) → Int32 → Int32 → Int32 → Int32 → (Nat → Int32) → Int32 → Int32 → Int32 → Int32 → Int32 → Int32 → Int32 → Int32 → Int32 → Int32 → Int32 → Int32 → Int32 → (Nat → Int32) → (Nat → Int32) → (Nat → Int32) → (Nat → Int32) → (Nat → Int32) → (Nat → Int32) → (Nat → Int32) → (Nat → Int32) → (Nat → Int32) → (Nat → Int32) → (Nat → Int32) → (Nat → Int32) → (Nat → Int32) → (Nat → Int32) → (Nat → Int64) → (Nat → UInt64) → Prop} (hI : Inv tn tb sw sl sg sp pn pch pk pl pd ps bn br rn rf rb msz mwi mle mgr mpr mhp mtk mbn mmd mep mtx mki mln mdi mst mbi mou) (hv1 : vp_in (v5 + 1) L) (hv2 : vp_in (v5 + 2) L) (hv3 : vp_in (v5 + 3) L) (hKB : ∀ (v59 : Int32) (tn9 : Int32) (tb9 : Nat → Int32) (sw9 : Int32) (sl9 : Int32) (sg9 : Int32) (sp9 : Int32) (ww9 : Nat → Int32) (wr9 : Nat → Int32) (wm9 : Nat → Int32) (wl9 : Nat → Int32) (wd9 : Nat → Int32) (pn9 : Int32) (pch9 : Int32) (pk9 : Nat → Int32) (pl9 : Nat → Int32) (pd9 : Nat → Int32) (ps9 : Nat → Int32) (bn9 : Int32) (br9 : Nat → Int32) (rn9 : Int32) (rf9 : Int32) (rx9 : Int32) (rp9 : Int32) (rb9 : Nat → Int32) (mth9 : Int32) (msz9 : Int32) (mwi9 : Int32) (mle9 : Int32) (mgr9 : Int32) (mpr9 : Int32) (mhp9 : Int32) (mtk9 : Int32) (mbn9 : Int32) (mmd9 : Int32) (mep9 : Int32) (mat9 : Int32) (mer9 : Int32) (mtx9 : Nat → Int32) (mki9 : Nat → Int32) (mln9 : Nat → Int32) (mdi9 : Nat → Int32) (mst9 : Nat → Int32) (mbi9 : Nat → Int32) (mou9 : Nat → Int32) (mco9 : Nat → Int32) (mct9 : Nat → Int32) (mfk9 : Nat → Int32) (mfl9 : Nat → Int32) (mfd9 : Nat → Int32) (mgo9 : Nat → Int32) (mma9 : Nat → Int32) (ov9 : Nat → Int64) (od9 : Nat → UInt64), v59 = v5 + 4 → Inv tn9 tb9 sw9 sl9 sg9 sp9 pn9 pch9 pk9 pl9 pd9 ps9 bn9 br9 rn9 rf9 rb9 msz9 mwi9 mle9 mgr9 mpr9 mhp9 mtk9 mbn9 mmd9 mep9 mtx9 mki9 mln9 mdi9 mst9 mbi9 mou9 → KB v59 tn9 tb9 sw9 sl9 sg9 sp9 ww9 wr9 wm9 wl9 wd9 pn9 pch9 pk9 pl9 pd9 ps9 bn9 br9 rn9 rf9 rx9 rp9 rb9 mth9 msz9 mwi9 mle9 mgr9 mpr9 mhp9 mtk9 mbn9 mmd9 mep9 mat9 mer9 mtx9 mki9 mln9 mdi9 mst9 mbi9 mou9 mco9 mct9 mfk9 mfl9 mfd9 mgo9 mma9 ov9 od9) : wpL_law_1542 L xs v5 tn tb sw sl sg sp ww wr wm wl wd pn pch pk pl pd ps bn br rn rf rx rp rb msz mwi mle mgr mpr mhp mtk mbn mmd mep mat mer mtx mki mln mdi mst mbi mou mco mct mfk mfl mfd mgo mma ov od KB := by
  obtain ⟨hT, hSe, hPl, hB, hR⟩ := hI
  obtain ⟨m, hm, rfl, rfl, rfl, hbi⟩ := id hB
  unfold wpL_law_1542 wpL_flip wpX10_flip wpX10_thrown wpX9_flip wpX10_no wpX1_has
  refine ⟨hv1, ?_⟩
  generalize xs (v5 + 1).toNatClampNeg = v
  by_cases c1 : v < 0
  · refine br_t c1 ?_
    refine br_t rfl ?_
    refine ⟨rfl, ?_⟩
    refine iIn0 (Or.inl c1) ?_
    refine br_t rfl ?_
    exact tlK1 (hKB _ _ _ _ _ _ _ _ _ _ _ _ _ _ _ _ _ _ _ _ _ _ _ _ _ _ _ _ _ _ _ _ _ _ _ _ _ _ _ _ _ _ _ _ _ _ _ _ _ _ _ _ _ _ rfl ⟨hT, hSe, hPl, hB, hR⟩)
  · by_cases c2 : nI m ≤ v
    · refine br_f c1 ?_
      refine br_t c2 ?_
      refine br_t rfl ?_
      refine ⟨rfl, ?_⟩
      refine iIn0 (Or.inr ((i_last (by omega)).mpr c2)) ?_
      refine br_t rfl ?_
      exact tlK1 (hKB _ _ _ _ _ _ _ _ _ _ _ _ _ _ _ _ _ _ _ _ _ _ _ _ _ _ _ _ _ _ _ _ _ _ _ _ _ _ _ _ _ _ _ _ _ _ _ _ _ _ _ _ _ _ rfl ⟨hT, hSe, hPl, hB, hR⟩)
    · obtain ⟨j, hj, rfl, hin⟩ := i_at (N := 800) c1 c2 hm (by decide)
      have e1 : 1 - (1 - mbi (nI j).toNatClampNeg) = mbi (nI j).toNatClampNeg := by
        rcases hbi (nI j).toNatClampNeg with q | q <;> rw [q] <;> decide
      have e2 : (1 : Int32) - mbi (nI j).toNatClampNeg = 0 ∨ (1 : Int32) - mbi (nI j).toNatClampNeg = 1 := by
        rcases hbi (nI j).toNatClampNeg with q | q <;> rw [q] <;> decide
      refine br_f c1 ?_
      refine br_f c2 ?_
      refine br_f ne10 ?_
      refine ⟨hin, ?_⟩
      refine iIn1 c1 (fun q => c2 ((i_last (by omega)).mp q)) ?_
      refine br_f ne10 ?_
      refine ⟨hin, ?_⟩
      rw [pk_us, e1]
      exact tlK0 (tl0 (hKB _ _ _ _ _ _ _ _ _ _ _ _ _ _ _ _ _ _ _ _ _ _ _ _ _ _ _ _ _ _ _ _ _ _ _ _ _ _ _ _ _ _ _ _ _ _ _ _ _ _ _ _ _ _ rfl ⟨hT, hSe, hPl, ⟨m, hm, rfl, rfl, rfl, upd_bit hbi e2⟩, hR⟩))
set_option maxHeartbeats 1000000 in
theorem cs_1598 {L : Nat} {xs : Nat → Int32} {v5 : Int32} {tn : Int32} {tb : Nat → Int32} {sw : Int32} {sl : Int32} {sg : Int32} {sp : Int32} {ww : Nat → Int32} {wr : Nat → Int32} {wm : Nat → Int32} {wl : Nat → Int32} {wd : Nat → Int32} {pn : Int32} {pch : Int32} {pk : Nat → Int32} {pl : Nat → Int32} {pd : Nat → Int32} {ps : Nat → Int32} {bn : Int32} {br : Nat → Int32} {rn : Int32} {rf : Int32} {rx : Int32} {rp : Int32} {rb : Nat → Int32} {mth : Int32} {msz : Int32} {mwi : Int32} {mle : Int32} {mgr : Int32} {mpr : Int32} {mhp : Int32} {mtk : Int32} {mbn : Int32} {mmd : Int32} {mep : Int32} {mat : Int32} {mer : Int32} {mtx : Nat → Int32} {mki : Nat → Int32} {mln : Nat → Int32} {mdi : Nat → Int32} {mst : Nat → Int32} {mbi : Nat → Int32} {mou : Nat → Int32} {mco : Nat → Int32} {mct : Nat → Int32} {mfk : Nat → Int32} {mfl : Nat → Int32} {mfd : Nat → Int32} {mgo : Nat → Int32} {mma : Nat → Int32} {ov : Nat → Int64} {od : Nat → UInt64} {KB : Int32 → Int32 → (Nat → Int32) → Int32 → Int32 → Int32 → Int32 → (Nat → Int32) → (Nat → Int32) → (Nat → Int32) → (Nat → Int32) → (Nat → Int32) → Int32 → Int32 → (Nat → Int32) → (Nat → Int32) → (Nat → Int32) → (Nat → Int32) → Int32 → (Nat → Int32) → Int32 → Int32 → Int32 → Int32 → (Nat → Int32) → Int32 → Int32 → Int32 → Int32 → Int32 → Int32 → Int32 → Int32 → Int32 → Int32 → Int32 → Int32 → Int32 → (Nat → Int32) → (Nat → Int32) → (Nat → Int32) → (Nat → Int32) → (Nat → Int32) → (Nat → Int32) → (Nat → Int32) → (Nat → Int32) → (Nat → Int32) → (Nat → Int32) → (Nat → Int32) → (Nat → Int32) → (Nat → Int32) → (Nat → Int32) → (Nat → Int64) → (Nat → UInt64) → Prop} (hI : Inv tn tb sw sl sg sp pn pch pk pl pd ps bn br rn rf rb msz mwi mle mgr mpr mhp mtk mbn mmd mep mtx mki mln mdi mst mbi mou) (hv1 : vp_in (v5 + 1) L) (hv2 : vp_in (v5 + 2) L) (hv3 : vp_in (v5 + 3) L) (hKB : ∀ (v59 : Int32) (tn9 : Int32) (tb9 : Nat → Int32) (sw9 : Int32) (sl9 : Int32) (sg9 : Int32) (sp9 : Int32) (ww9 : Nat → Int32) (wr9 : Nat → Int32) (wm9 : Nat → Int32) (wl9 : Nat → Int32) (wd9 : Nat → Int32) (pn9 : Int32) (pch9 : Int32) (pk9 : Nat → Int32) (pl9 : Nat → Int32) (pd9 : Nat → Int32) (ps9 : Nat → Int32) (bn9 : Int32) (br9 : Nat → Int32) (rn9 : Int32) (rf9 : Int32) (rx9 : Int32) (rp9 : Int32) (rb9 : Nat → Int32) (mth9 : Int32) (msz9 : Int32) (mwi9 : Int32) (mle9 : Int32) (mgr9 : Int32) (mpr9 : Int32) (mhp9 : Int32) (mtk9 : Int32) (mbn9 : Int32) (mmd9 : Int32) (mep9 : Int32) (mat9 : Int32) (mer9 : Int32) (mtx9 : Nat → Int32) (mki9 : Nat → Int32) (mln9 : Nat → Int32) (mdi9 : Nat → Int32) (mst9 : Nat → Int32) (mbi9 : Nat → Int32) (mou9 : Nat → Int32) (mco9 : Nat → Int32) (mct9 : Nat → Int32) (mfk9 : Nat → Int32) (mfl9 : Nat → Int32) (mfd9 : Nat → Int32) (mgo9 : Nat → Int32) (mma9 : Nat → Int32) (ov9 : Nat → Int64) (od9 : Nat → UInt64), v59 = v5 + 4 → Inv tn9 tb9 sw9 sl9 sg9 sp9 pn9 pch9 pk9 pl9 pd9 ps9 bn9 br9 rn9 rf9 rb9 msz9 mwi9 mle9 mgr9 mpr9 mhp9 mtk9 mbn9 mmd9 mep9 mtx9 mki9 mln9 mdi9 mst9 mbi9 mou9 → KB v59 tn9 tb9 sw9 sl9 sg9 sp9 ww9 wr9 wm9 wl9 wd9 pn9 pch9 pk9 pl9 pd9 ps9 bn9 br9 rn9 rf9 rx9 rp9 rb9 mth9 msz9 mwi9 mle9 mgr9 mpr9 mhp9 mtk9 mbn9 mmd9 mep9 mat9 mer9 mtx9 mki9 mln9 mdi9 mst9 mbi9 mou9 mco9 mct9 mfk9 mfl9 mfd9 mgo9 mma9 ov9 od9) : wpL_law_1598 L xs v5 tn tb sw sl sg sp ww wr wm wl wd pn pch pk pl pd ps bn br rn rf rx rp rb msz mwi mle mgr mpr mhp mtk mbn mmd mep mat mer mtx mki mln mdi mst mbi mou mco mct mfk mfl mfd mgo mma ov od KB := by
  obtain ⟨hT, hSe, hPl, hB, hR⟩ := hI
  obtain ⟨m, hm, rfl, rfl, rfl, hbi⟩ := id hB
  unfold wpL_law_1598 wpL_appendBits wpX10_appendBits wpX10_thrown wpX9_appendBits wpX10_no
  refine ⟨hv1, hv2, ?_⟩
  generalize xs (v5 + 1).toNatClampNeg = a
  generalize xs (v5 + 2).toNatClampNeg = v
  by_cases c1 : v < 1
  · refine br_t c1 ?_
    refine Or.inl ?_
    refine ⟨rfl, ?_⟩
    refine iIn0 (Or.inl c1) ?_
    refine br_t rfl ?_
    exact tlK1 (hKB _ _ _ _ _ _ _ _ _ _ _ _ _ _ _ _ _ _ _ _ _ _ _ _ _ _ _ _ _ _ _ _ _ _ _ _ _ _ _ _ _ _ _ _ _ _ _ _ _ _ _ _ _ _ rfl ⟨hT, hSe, hPl, hB, hR⟩)
  · by_cases c2 : v ≤ 16
    · obtain ⟨k, hk, rfl⟩ := i_nat (N := 16) (i_pos c1) c2 (by decide)
      refine br_f c1 ?_
      refine br_t c2 ?_
      by_cases c3 : m + k ≤ 800
      · have c4 : nI m + nI k ≤ 800 := by rw [nI_add]; exact (i_le_of (m := 800) rfl (by decide) (by omega)).mpr c3
        refine br_t c4 ?_
        refine sX1_pushLow c3 ?_
        refine iIn1 c1 (i_ngt c2) ?_
        refine br_f ne10 ?_
        refine br_t c4 ?_
        refine sX10_putBits c3 ?_
        exact tlK0 (tl0 (hKB _ _ _ _ _ _ _ _ _ _ _ _ _ _ _ _ _ _ _ _ _ _ _ _ _ _ _ _ _ _ _ _ _ _ _ _ _ _ _ _ _ _ _ _ _ _ _ _ _ _ _ _ _ _ rfl ⟨hT, hSe, hPl, ⟨m + k, c3, rfl, rfl, rfl, pb_bits _ _ _ _ hbi⟩, hR⟩))
      · have c4 : ¬ nI m + nI k ≤ 800 := by rw [nI_add]; exact fun q => c3 ((i_le_of (m := 800) rfl (by decide) (by omega)).mp q)
        refine br_f c4 ?_
        refine Or.inr ?_
        refine ⟨rfl, ?_⟩
        refine iIn1 c1 (i_ngt c2) ?_
        refine br_f ne10 ?_
        refine br_f c4 ?_
        exact tlK2 (hKB _ _ _ _ _ _ _ _ _ _ _ _ _ _ _ _ _ _ _ _ _ _ _ _ _ _ _ _ _ _ _ _ _ _ _ _ _ _ _ _ _ _ _ _ _ _ _ _ _ _ _ _ _ _ rfl ⟨hT, hSe, hPl, hB, hR⟩)
    · refine br_f c1 ?_
      refine br_f c2 ?_
      refine Or.inl ?_
      refine ⟨rfl, ?_⟩
      refine iIn0 (Or.inr (i_gt c2)) ?_
      refine br_t rfl ?_
      exact tlK1 (hKB _ _ _ _ _ _ _ _ _ _ _ _ _ _ _ _ _ _ _ _ _ _ _ _ _ _ _ _ _ _ _ _ _ _ _ _ _ _ _ _ _ _ _ _ _ _ _ _ _ _ _ _ _ _ rfl ⟨hT, hSe, hPl, hB, hR⟩)
set_option maxHeartbeats 1000000 in
theorem cs_1666 {L : Nat} {xs : Nat → Int32} {v5 : Int32} {tn : Int32} {tb : Nat → Int32} {sw : Int32} {sl : Int32} {sg : Int32} {sp : Int32} {ww : Nat → Int32} {wr : Nat → Int32} {wm : Nat → Int32} {wl : Nat → Int32} {wd : Nat → Int32} {pn : Int32} {pch : Int32} {pk : Nat → Int32} {pl : Nat → Int32} {pd : Nat → Int32} {ps : Nat → Int32} {bn : Int32} {br : Nat → Int32} {rn : Int32} {rf : Int32} {rx : Int32} {rp : Int32} {rb : Nat → Int32} {mth : Int32} {msz : Int32} {mwi : Int32} {mle : Int32} {mgr : Int32} {mpr : Int32} {mhp : Int32} {mtk : Int32} {mbn : Int32} {mmd : Int32} {mep : Int32} {mat : Int32} {mer : Int32} {mtx : Nat → Int32} {mki : Nat → Int32} {mln : Nat → Int32} {mdi : Nat → Int32} {mst : Nat → Int32} {mbi : Nat → Int32} {mou : Nat → Int32} {mco : Nat → Int32} {mct : Nat → Int32} {mfk : Nat → Int32} {mfl : Nat → Int32} {mfd : Nat → Int32} {mgo : Nat → Int32} {mma : Nat → Int32} {ov : Nat → Int64} {od : Nat → UInt64} {KB : Int32 → Int32 → (Nat → Int32) → Int32 → Int32 → Int32 → Int32 → (Nat → Int32) → (Nat → Int32) → (Nat → Int32) → (Nat → Int32) → (Nat → Int32) → Int32 → Int32 → (Nat → Int32) → (Nat → Int32) → (Nat → Int32) → (Nat → Int32) → Int32 → (Nat → Int32) → Int32 → Int32 → Int32 → Int32 → (Nat → Int32) → Int32 → Int32 → Int32 → Int32 → Int32 → Int32 → Int32 → Int32 → Int32 → Int32 → Int32 → Int32 → Int32 → (Nat → Int32) → (Nat → Int32) → (Nat → Int32) → (Nat → Int32) → (Nat → Int32) → (Nat → Int32) → (Nat → Int32) → (Nat → Int32) → (Nat → Int32) → (Nat → Int32) → (Nat → Int32) → (Nat → Int32) → (Nat → Int32) → (Nat → Int32) → (Nat → Int64) → (Nat → UInt64) → Prop} (hI : Inv tn tb sw sl sg sp pn pch pk pl pd ps bn br rn rf rb msz mwi mle mgr mpr mhp mtk mbn mmd mep mtx mki mln mdi mst mbi mou) (hv1 : vp_in (v5 + 1) L) (hv2 : vp_in (v5 + 2) L) (hv3 : vp_in (v5 + 3) L) (hKB : ∀ (v59 : Int32) (tn9 : Int32) (tb9 : Nat → Int32) (sw9 : Int32) (sl9 : Int32) (sg9 : Int32) (sp9 : Int32) (ww9 : Nat → Int32) (wr9 : Nat → Int32) (wm9 : Nat → Int32) (wl9 : Nat → Int32) (wd9 : Nat → Int32) (pn9 : Int32) (pch9 : Int32) (pk9 : Nat → Int32) (pl9 : Nat → Int32) (pd9 : Nat → Int32) (ps9 : Nat → Int32) (bn9 : Int32) (br9 : Nat → Int32) (rn9 : Int32) (rf9 : Int32) (rx9 : Int32) (rp9 : Int32) (rb9 : Nat → Int32) (mth9 : Int32) (msz9 : Int32) (mwi9 : Int32) (mle9 : Int32) (mgr9 : Int32) (mpr9 : Int32) (mhp9 : Int32) (mtk9 : Int32) (mbn9 : Int32) (mmd9 : Int32) (mep9 : Int32) (mat9 : Int32) (mer9 : Int32) (mtx9 : Nat → Int32) (mki9 : Nat → Int32) (mln9 : Nat → Int32) (mdi9 : Nat → Int32) (mst9 : Nat → Int32) (mbi9 : Nat → Int32) (mou9 : Nat → Int32) (mco9 : Nat → Int32) (mct9 : Nat → Int32) (mfk9 : Nat → Int32) (mfl9 : Nat → Int32) (mfd9 : Nat → Int32) (mgo9 : Nat → Int32) (mma9 : Nat → Int32) (ov9 : Nat → Int64) (od9 : Nat → UInt64), v59 = v5 + 4 → Inv tn9 tb9 sw9 sl9 sg9 sp9 pn9 pch9 pk9 pl9 pd9 ps9 bn9 br9 rn9 rf9 rb9 msz9 mwi9 mle9 mgr9 mpr9 mhp9 mtk9 mbn9 mmd9 mep9 mtx9 mki9 mln9 mdi9 mst9 mbi9 mou9 → KB v59 tn9 tb9 sw9 sl9 sg9 sp9 ww9 wr9 wm9 wl9 wd9 pn9 pch9 pk9 pl9 pd9 ps9 bn9 br9 rn9 rf9 rx9 rp9 rb9 mth9 msz9 mwi9 mle9 mgr9 mpr9 mhp9 mtk9 mbn9 mmd9 mep9 mat9 mer9 mtx9 mki9 mln9 mdi9 mst9 mbi9 mou9 mco9 mct9 mfk9 mfl9 mfd9 mgo9 mma9 ov9 od9) : wpL_law_1666 L xs v5 tn tb sw sl sg sp ww wr wm wl wd pn pch pk pl pd ps bn br rn rf rx rp rb msz mwi mle mgr mpr mhp mtk mbn mmd mep mat mer mtx mki mln mdi mst mbi mou mco mct mfk mfl mfd mgo mma ov od KB := by
  obtain ⟨hT, hSe, hPl, hB, hR⟩ := hI
  obtain ⟨m, hm, rfl, rfl, rfl, hbi⟩ := id hB
  unfold wpL_law_1666 wpL_cutBits wpX10_cutBits wpX10_thrown wpX9_cutBits wpX10_no
  refine ⟨hv1, ?_⟩
  generalize xs (v5 + 1).toNatClampNeg = v
  by_cases c1 : v < 0
  · refine br_t c1 ?_
    refine ⟨rfl, ?_⟩
    refine iIn0 (Or.inl c1) ?_
    refine br_t rfl ?_
    exact tlK1 (hKB _ _ _ _ _ _ _ _ _ _ _ _ _ _ _ _ _ _ _ _ _ _ _ _ _ _ _ _ _ _ _ _ _ _ _ _ _ _ _ _ _ _ _ _ _ _ _ _ _ _ _ _ _ _ rfl ⟨hT, hSe, hPl, hB, hR⟩)
  · by_cases c2 : v ≤ nI m
    · obtain ⟨j, hj, rfl⟩ := i_nat (N := m) c1 c2 (nI_toInt (by omega))
      refine br_f c1 ?_
      refine br_t c2 ?_
      refine iIn1 c1 (i_ngt c2) ?_
      refine br_f ne10 ?_
      exact tlK0 (tl0 (hKB _ _ _ _ _ _ _ _ _ _ _ _ _ _ _ _ _ _ _ _ _ _ _ _ _ _ _ _ _ _ _ _ _ _ _ _ _ _ _ _ _ _ _ _ _ _ _ _ _ _ _ _ _ _ rfl ⟨hT, hSe, hPl, ⟨m - j, by omega, pk_sub hj, pk_sub hj, rfl, hbi⟩, hR⟩))
    · refine br_f c1 ?_
      refine br_f c2 ?_
      refine ⟨rfl, ?_⟩
      refine iIn0 (Or.inr (i_gt c2)) ?_
      refine br_t rfl ?_
      exact tlK1 (hKB _ _ _ _ _ _ _ _ _ _ _ _ _ _ _ _ _ _ _ _ _ _ _ _ _ _ _ _ _ _ _ _ _ _ _ _ _ _ _ _ _ _ _ _ _ _ _ _ _ _ _ _ _ _ rfl ⟨hT, hSe, hPl, hB, hR⟩)
set_option maxHeartbeats 1000000 in
theorem cs_1761 {L : Nat} {xs : Nat → Int32} {v5 : Int32} {tn : Int32} {tb : Nat → Int32} {sw : Int32} {sl : Int32} {sg : Int32} {sp : Int32} {ww : Nat → Int32} {wr : Nat → Int32} {wm : Nat → Int32} {wl : Nat → Int32} {wd : Nat → Int32} {pn : Int32} {pch : Int32} {pk : Nat → Int32} {pl : Nat → Int32} {pd : Nat → Int32} {ps : Nat → Int32} {bn : Int32} {br : Nat → Int32} {rn : Int32} {rf : Int32} {rx : Int32} {rp : Int32} {rb : Nat → Int32} {mth : Int32} {msz : Int32} {mwi : Int32} {mle : Int32} {mgr : Int32} {mpr : Int32} {mhp : Int32} {mtk : Int32} {mbn : Int32} {mmd : Int32} {mep : Int32} {mat : Int32} {mer : Int32} {mtx : Nat → Int32} {mki : Nat → Int32} {mln : Nat → Int32} {mdi : Nat → Int32} {mst : Nat → Int32} {mbi : Nat → Int32} {mou : Nat → Int32} {mco : Nat → Int32} {mct : Nat → Int32} {mfk : Nat → Int32} {mfl : Nat → Int32} {mfd : Nat → Int32} {mgo : Nat → Int32} {mma : Nat → Int32} {ov : Nat → Int64} {od : Nat → UInt64} {KB : Int32 → Int32 → (Nat → Int32) → Int32 → Int32 → Int32 → Int32 → (Nat → Int32) → (Nat → Int32) → (Nat → Int32) → (Nat → Int32) → (Nat → Int32) → Int32 → Int32 → (Nat → Int32) → (Nat → Int32) → (Nat → Int32) → (Nat → Int32) → Int32 → (Nat → Int32) → Int32 → Int32 → Int32 → Int32 → (Nat → Int32) → Int32 → Int32 → Int32 → Int32 → Int32 → Int32 → Int32 → Int32 → Int32 → Int32 → Int32 → Int32 → Int32 → (Nat → Int32) → (Nat → Int32) → (Nat → Int32) → (Nat → Int32) → (Nat → Int32) → (Nat → Int32) → (Nat → Int32) → (Nat → Int32) → (Nat → Int32) → (Nat → Int32) → (Nat → Int32) → (Nat → Int32) → (Nat → Int32) → (Nat → Int32) → (Nat → Int64) → (Nat → UInt64) → Prop} (hI : Inv tn tb sw sl sg sp pn pch pk pl pd ps bn br rn rf rb msz mwi mle mgr mpr mhp mtk mbn mmd mep mtx mki mln mdi mst mbi mou) (hv1 : vp_in (v5 + 1) L) (hv2 : vp_in (v5 + 2) L) (hv3 : vp_in (v5 + 3) L) (hKB : ∀ (v59 : Int32) (tn9 : Int32) (tb9 : Nat → Int32) (sw9 : Int32) (sl9 : Int32) (sg9 : Int32) (sp9 : Int32) (ww9 : Nat → Int32) (wr9 : Nat → Int32) (wm9 : Nat → Int32) (wl9 : Nat → Int32) (wd9 : Nat → Int32) (pn9 : Int32) (pch9 : Int32) (pk9 : Nat → Int32) (pl9 : Nat → Int32) (pd9 : Nat → Int32) (ps9 : Nat → Int32) (bn9 : Int32) (br9 : Nat → Int32) (rn9 : Int32) (rf9 : Int32) (rx9 : Int32) (rp9 : Int32) (rb9 : Nat → Int32) (mth9 : Int32) (msz9 : Int32) (mwi9 : Int32) (mle9 : Int32) (mgr9 : Int32) (mpr9 : Int32) (mhp9 : Int32) (mtk9 : Int32) (mbn9 : Int32) (mmd9 : Int32) (mep9 : Int32) (mat9 : Int32) (mer9 : Int32) (mtx9 : Nat → Int32) (mki9 : Nat → Int32) (mln9 : Nat → Int32) (mdi9 : Nat → Int32) (mst9 : Nat → Int32) (mbi9 : Nat → Int32) (mou9 : Nat → Int32) (mco9 : Nat → Int32) (mct9 : Nat → Int32) (mfk9 : Nat → Int32) (mfl9 : Nat → Int32) (mfd9 : Nat → Int32) (mgo9 : Nat → Int32) (mma9 : Nat → Int32) (ov9 : Nat → Int64) (od9 : Nat → UInt64), v59 = v5 + 4 → Inv tn9 tb9 sw9 sl9 sg9 sp9 pn9 pch9 pk9 pl9 pd9 ps9 bn9 br9 rn9 rf9 rb9 msz9 mwi9 mle9 mgr9 mpr9 mhp9 mtk9 mbn9 mmd9 mep9 mtx9 mki9 mln9 mdi9 mst9 mbi9 mou9 → KB v59 tn9 tb9 sw9 sl9 sg9 sp9 ww9 wr9 wm9 wl9 wd9 pn9 pch9 pk9 pl9 pd9 ps9 bn9 br9 rn9 rf9 rx9 rp9 rb9 mth9 msz9 mwi9 mle9 mgr9 mpr9 mhp9 mtk9 mbn9 mmd9 mep9 mat9 mer9 mtx9 mki9 mln9 mdi9 mst9 mbi9 mou9 mco9 mct9 mfk9 mfl9 mfd9 mgo9 mma9 ov9 od9) : wpL_law_1761 L xs v5 tn tb sw sl sg sp ww wr wm wl wd pn pch pk pl pd ps bn br rn rf rx rp rb msz mwi mle mgr mpr mhp mtk mbn mmd mep mat mer mtx mki mln mdi mst mbi mou mco mct mfk mfl mfd mgo mma ov od KB := by
  obtain ⟨hT, hSe, hPl, hB, hR⟩ := hI
  obtain ⟨r, hr, rfl, rfl, rfl, rfl⟩ := id hR
  unfold wpL_law_1761 wpL_output wpX10_output wpX10_thrown wpX9_output wpX10_no
  refine ⟨hv1, ?_⟩
  generalize xs (v5 + 1).toNatClampNeg = v
  by_cases c1 : v < 0
  · refine br_t c1 ?_
    refine ⟨rfl, ?_⟩
    refine iIn0 (Or.inl c1) ?_
    refine br_t rfl ?_
    exact tlK1 (hKB _ _ _ _ _ _ _ _ _ _ _ _ _ _ _ _ _ _ _ _ _ _ _ _ _ _ _ _ _ _ _ _ _ _ _ _ _ _ _ _ _ _ _ _ _ _ _ _ _ _ _ _ _ _ rfl ⟨hT, hSe, hPl, hB, hR⟩)
  · by_cases c2 : v < nI r
    · obtain ⟨j, hj, rfl, hin⟩ := i_at (N := 200) c1 (i_nle c2) hr (by decide)
      refine br_f c1 ?_
      refine br_t c2 ?_
      refine ⟨hin, ?_⟩
      refine iIn1 c1 (fun q => i_nle c2 ((i_last (by omega)).mp q)) ?_
      refine br_f ne10 ?_
      refine ⟨hin, ?_⟩
      exact tlK0 (tl0 (hKB _ _ _ _ _ _ _ _ _ _ _ _ _ _ _ _ _ _ _ _ _ _ _ _ _ _ _ _ _ _ _ _ _ _ _ _ _ _ _ _ _ _ _ _ _ _ _ _ _ _ _ _ _ _ rfl ⟨hT, hSe, hPl, hB, hR⟩))
    · refine br_f c1 ?_
      refine br_f c2 ?_
      refine ⟨rfl, ?_⟩
      refine iIn0 (Or.inr ((i_last (by omega)).mpr (i_ge c2))) ?_
      refine br_t rfl ?_
      exact tlK1 (hKB _ _ _ _ _ _ _ _ _ _ _ _ _ _ _ _ _ _ _ _ _ _ _ _ _ _ _ _ _ _ _ _ _ _ _ _ _ _ _ _ _ _ _ _ _ _ _ _ _ _ _ _ _ _ rfl ⟨hT, hSe, hPl, hB, hR⟩)

