-- bytes that are fed or filled in
theorem i_m1 (x : Int32) : x + (-1) = x - 1 := by
  apply Int32.toBitVec_inj.mp
  show x.toBitVec + (-1 : Int32).toBitVec = x.toBitVec - (1 : Int32).toBitVec
  rw [BitVec.sub_eq_add_neg]
  rfl
theorem i_neg : nI 0 - 1 < (0 : Int32) := by decide
theorem i_n64 {n : Nat} (h : n < 64) : ¬ (64 : Int32) ≤ nI n := fun q => absurd ((nI_leI (a := 64) (by decide) (by omega)).mp q) (by omega)
theorem and255 (x : Int64) : ∃ b : Nat, b < 256 ∧ (x &&& 255).toInt32 = nI b := by
  refine ⟨(x &&& 255).toBitVec.toNat, ?_, ?_⟩
  · have e : (x &&& 255).toBitVec = x.toBitVec &&& (255 : Int64).toBitVec := rfl
    rw [e, BitVec.toNat_and]
    exact Nat.lt_of_le_of_lt Nat.and_le_right (by decide)
  · rw [← lN_i]
    congr 1
    apply Int64.toBitVec_inj.mp
    show (x &&& 255).toBitVec = BitVec.ofNat 64 (x &&& 255).toBitVec.toNat
    simp
abbrev fdB (v : Int64) (k : Int32) : Int32 := ((v >>> ((8 * k).toInt64 &&& 63)) &&& 255).toInt32
def fd (v : Int64) : Nat → (Nat → Int32) → Nat → (Nat → Int32)
  | 0, t, _ => t
  | k + 1, t, n => fd v k (upd t n (fdB v (nI k))) (n + 1)
def fl (b : Int32) : Nat → (Nat → Int32) → Nat → (Nat → Int32)
  | 0, t, _ => t
  | k + 1, t, n => fl b k (upd t n b) (n + 1)
theorem fd_byte (v : Int64) : ∀ (k : Nat) (t : Nat → Int32) (n : Nat), (∀ i, ∃ b : Nat, b < 256 ∧ t i = nI b) → ∀ i, ∃ b : Nat, b < 256 ∧ fd v k t n i = nI b
  | 0, _, _, h => h
  | k + 1, t, n, h => fd_byte v k _ (n + 1) (by
      obtain ⟨b, hb, e⟩ := and255 (v >>> ((8 * nI k).toInt64 &&& 63))
      show ∀ i, ∃ b : Nat, b < 256 ∧ upd t n (fdB v (nI k)) i = nI b
      rw [show fdB v (nI k) = nI b from e]
      exact upd_byte h hb)
theorem fl_byte {b : Nat} (hb : b < 256) : ∀ (k : Nat) (t : Nat → Int32) (n : Nat), (∀ i, ∃ b : Nat, b < 256 ∧ t i = nI b) → ∀ i, ∃ c : Nat, c < 256 ∧ fl (nI b) k t n i = nI c
  | 0, _, _, h => h
  | k + 1, _, n, h => fl_byte hb k _ (n + 1) (upd_byte h hb)
theorem push_at {n : Nat} {t : Nat → Int32} {b : Int32} {post : Int32 → (Nat → Int32) → Prop} (hn : n < 64) (h : post (nI (n + 1)) (upd t n b)) : wpX8_push (nI n) t b post := by
  refine br_f (i_n64 hn) ⟨vp_in_nI hn (by decide), ?_⟩
  rw [nI_clamp (by omega), nI_1]
  exact h
theorem fdX {v : Int64} {K : Int32 → (Nat → Int32) → Prop} : ∀ (k fuel : Nat) (t : Nat → Int32) (n : Nat), k < fuel → n + k ≤ 64 → K (nI (n + k)) (fd v k t n) → wpX9_feed_50 v K fuel (nI k - 1) (nI n) t := by
  intro k
  induction k with
  | zero =>
    intro fuel t n hf hn h
    obtain ⟨f, rfl⟩ : ∃ f, fuel = f + 1 := ⟨fuel - 1, by omega⟩
    rw [wpX9_feed_50]
    exact br_t i_neg h
  | succ k ih =>
    intro fuel t n hf hn h
    obtain ⟨f, rfl⟩ : ∃ f, fuel = f + 1 := ⟨fuel - 1, by omega⟩
    rw [wpX9_feed_50, nI_pred]
    refine br_f (nI_pos (by omega)) (push_at (by omega) ?_)
    rw [i_m1]
    exact ih f _ (n + 1) (by omega) (by omega) (by rw [show n + 1 + k = n + (k + 1) by omega]; exact h)
theorem fdM {v : Int64} {K : Int32 → (Nat → Int32) → Prop} : ∀ (k fuel : Nat) (t : Nat → Int32) (n : Nat), k < fuel → n + k ≤ 64 → K (nI (n + k)) (fd v k t n) → wpX10_feed_43 v K fuel (nI k - 1) (nI n) t := by
  intro k
  induction k with
  | zero =>
    intro fuel t n hf hn h
    obtain ⟨f, rfl⟩ : ∃ f, fuel = f + 1 := ⟨fuel - 1, by omega⟩
    rw [wpX10_feed_43]
    exact br_t i_neg h
  | succ k ih =>
    intro fuel t n hf hn h
    obtain ⟨f, rfl⟩ : ∃ f, fuel = f + 1 := ⟨fuel - 1, by omega⟩
    rw [wpX10_feed_43, nI_pred]
    refine br_f (nI_pos (by omega)) ⟨vp_in_nI (by omega) (by decide), ?_⟩
    rw [i_m1, nI_clamp (by omega), nI_1]
    exact ih f _ (n + 1) (by omega) (by omega) (by rw [show n + 1 + k = n + (k + 1) by omega]; exact h)
theorem flX {b : Int32} {K : Int32 → (Nat → Int32) → Prop} {many : Nat} (hm : many ≤ 64) : ∀ (k fuel i : Nat) (t : Nat → Int32) (n : Nat), i + k = many → k < fuel → n + k ≤ 64 → K (nI (n + k)) (fl b k t n) → wpX9_fill_54 b (nI many) K fuel (nI i) (nI n) t := by
  intro k
  induction k with
  | zero =>
    intro fuel i t n hi hf hn h
    obtain ⟨f, rfl⟩ : ∃ f, fuel = f + 1 := ⟨fuel - 1, by omega⟩
    rw [wpX9_fill_54]
    exact br_t (nI_le (by omega) (by omega)) h
  | succ k ih =>
    intro fuel i t n hi hf hn h
    obtain ⟨f, rfl⟩ : ∃ f, fuel = f + 1 := ⟨fuel - 1, by omega⟩
    rw [wpX9_fill_54]
    refine br_f (nI_ge (by omega) (by omega)) (push_at (by omega) ?_)
    rw [nI_1]
    exact ih f (i + 1) _ (n + 1) (by omega) (by omega) (by omega) (by rw [show n + 1 + k = n + (k + 1) by omega]; exact h)
theorem flM {b : Int32} {K : (Nat → Int32) → Prop} {many sz : Nat} (hm : sz + many ≤ 64) : ∀ (k fuel i : Nat) (t : Nat → Int32), i + k = many → k < fuel → K (fl b k t (sz + i)) → wpX10_fill_51 b (nI many) (nI sz) K fuel (nI i) t := by
  intro k
  induction k with
  | zero =>
    intro fuel i t hi hf h
    obtain ⟨f, rfl⟩ : ∃ f, fuel = f + 1 := ⟨fuel - 1, by omega⟩
    rw [wpX10_fill_51]
    exact br_t (nI_le (by omega) (by omega)) h
  | succ k ih =>
    intro fuel i t hi hf h
    obtain ⟨f, rfl⟩ : ∃ f, fuel = f + 1 := ⟨fuel - 1, by omega⟩
    rw [wpX10_fill_51, nI_add]
    refine br_f (nI_ge (by omega) (by omega)) ⟨vp_in_nI (by omega) (by decide), ?_⟩
    rw [nI_clamp (by omega), nI_1]
    exact ih f (i + 1) _ (by omega) (by omega) h
theorem i_le_of {a : Nat} {M : Int32} {m : Nat} (hM : M = nI m) (hm : m < 2 ^ 31) (ha : a < 2 ^ 31) : nI a ≤ M ↔ a ≤ m := by rw [hM]; exact nI_leI ha hm
set_option maxHeartbeats 1000000 in
theorem cs_204 {L : Nat} {xs : Nat → Int32} {v5 : Int32} {tn : Int32} {tb : Nat → Int32} {sw : Int32} {sl : Int32} {sg : Int32} {sp : Int32} {ww : Nat → Int32} {wr : Nat → Int32} {wm : Nat → Int32} {wl : Nat → Int32} {wd : Nat → Int32} {pn : Int32} {pch : Int32} {pk : Nat → Int32} {pl : Nat → Int32} {pd : Nat → Int32} {ps : Nat → Int32} {bn : Int32} {br : Nat → Int32} {rn : Int32} {rf : Int32} {rx : Int32} {rp : Int32} {rb : Nat → Int32} {mth : Int32} {msz : Int32} {mwi : Int32} {mle : Int32} {mgr : Int32} {mpr : Int32} {mhp : Int32} {mtk : Int32} {mbn : Int32} {mmd : Int32} {mep : Int32} {mat : Int32} {mer : Int32} {mtx : Nat → Int32} {mki : Nat → Int32} {mln : Nat → Int32} {mdi : Nat → Int32} {mst : Nat → Int32} {mbi : Nat → Int32} {mou : Nat → Int32} {mco : Nat → Int32} {mct : Nat → Int32} {mfk : Nat → Int32} {mfl : Nat → Int32} {mfd : Nat → Int32} {mgo : Nat → Int32} {mma : Nat → Int32} {ov : Nat → Int64} {od : Nat → UInt64} {KB : Int32 → Int32 → (Nat → Int32) → Int32 → Int32 → Int32 → Int32 → (Nat → Int32) → (Nat → Int32) → (Nat → Int32) → (Nat → Int32) → (Nat → Int32) → Int32 → Int32 → (Nat → Int32) → (Nat → Int32) → (Nat → Int32) → (Nat → Int32) → Int32 → (Nat → Int32) → Int32 → Int32 → Int32 → Int32 → (Nat → Int32) → Int32 → Int32 → Int32 → Int32 → Int32 → Int32 → Int32 → Int32 → Int32 → Int32 → Int32 → Int32 → Int32 → (Nat → Int32) → (Nat → Int32) → (Nat → Int32) → (Nat → Int32) → (Nat → Int32) → (Nat → Int32) → (Nat → Int32) → (Nat → Int32) → (Nat → Int32) → (Nat → Int32) → (Nat → Int32) → (Nat → Int32) → (Nat → Int32) → (Nat → Int32) → (Nat → Int64) → (Nat → UInt64) → Prop} (hI : Inv tn tb sw sl sg sp pn pch pk pl pd ps bn br rn rf rb msz mwi mle mgr mpr mhp mtk mbn mmd mep mtx mki mln mdi mst mbi mou) (hv1 : vp_in (v5 + 1) L) (hv2 : vp_in (v5 + 2) L) (hv3 : vp_in (v5 + 3) L) (hKB : ∀ (v59 : Int32) (tn9 : Int32) (tb9 : Nat → Int32) (sw9 : Int32) (sl9 : Int32) (sg9 : Int32) (sp9 : Int32) (ww9 : Nat → Int32) (wr9 : Nat → Int32) (wm9 : Nat → Int32) (wl9 : Nat → Int32) (wd9 : Nat → Int32) (pn9 : Int32) (pch9 : Int32) (pk9 : Nat → Int32) (pl9 : Nat → Int32) (pd9 : Nat → Int32) (ps9 : Nat → Int32) (bn9 : Int32) (br9 : Nat → Int32) (rn9 : Int32) (rf9 : Int32) (rx9 : Int32) (rp9 : Int32) (rb9 : Nat → Int32) (mth9 : Int32) (msz9 : Int32) (mwi9 : Int32) (mle9 : Int32) (mgr9 : Int32) (mpr9 : Int32) (mhp9 : Int32) (mtk9 : Int32) (mbn9 : Int32) (mmd9 : Int32) (mep9 : Int32) (mat9 : Int32) (mer9 : Int32) (mtx9 : Nat → Int32) (mki9 : Nat → Int32) (mln9 : Nat → Int32) (mdi9 : Nat → Int32) (mst9 : Nat → Int32) (mbi9 : Nat → Int32) (mou9 : Nat → Int32) (mco9 : Nat → Int32) (mct9 : Nat → Int32) (mfk9 : Nat → Int32) (mfl9 : Nat → Int32) (mfd9 : Nat → Int32) (mgo9 : Nat → Int32) (mma9 : Nat → Int32) (ov9 : Nat → Int64) (od9 : Nat → UInt64), v59 = v5 + 4 → Inv tn9 tb9 sw9 sl9 sg9 sp9 pn9 pch9 pk9 pl9 pd9 ps9 bn9 br9 rn9 rf9 rb9 msz9 mwi9 mle9 mgr9 mpr9 mhp9 mtk9 mbn9 mmd9 mep9 mtx9 mki9 mln9 mdi9 mst9 mbi9 mou9 → KB v59 tn9 tb9 sw9 sl9 sg9 sp9 ww9 wr9 wm9 wl9 wd9 pn9 pch9 pk9 pl9 pd9 ps9 bn9 br9 rn9 rf9 rx9 rp9 rb9 mth9 msz9 mwi9 mle9 mgr9 mpr9 mhp9 mtk9 mbn9 mmd9 mep9 mat9 mer9 mtx9 mki9 mln9 mdi9 mst9 mbi9 mou9 mco9 mct9 mfk9 mfl9 mfd9 mgo9 mma9 ov9 od9) : wpL_law_204 L xs v5 tn tb sw sl sg sp ww wr wm wl wd pn pch pk pl pd ps bn br rn rf rx rp rb msz mwi mle mgr mpr mhp mtk mbn mmd mep mat mer mtx mki mln mdi mst mbi mou mco mct mfk mfl mfd mgo mma ov od KB := by
  obtain ⟨hT, hSe, hPl, hB, hR⟩ := hI
  obtain ⟨n, hn, rfl, rfl, rfl, hby⟩ := id hT
  obtain ⟨rfl, rfl, rfl, rfl, rfl, hpl⟩ := id hPl
  unfold wpL_law_204 wpL_feed wpX10_feed wpX10_thrown wpX9_feed wpX10_no wpX4_forget
  refine ⟨hv1, hv2, hv3, ?_⟩
  generalize (((xs (v5 + 1).toNatClampNeg).toInt64) <<< ((32 : Int32).toInt64 &&& 63)) ||| (((xs (v5 + 2).toNatClampNeg).toInt64) &&& 4294967295) = a
  generalize xs (v5 + 3).toNatClampNeg = v
  by_cases c1 : v < 1
  · refine br_t c1 ?_
    refine Or.inl ?_
    refine ⟨rfl, ?_⟩
    refine iIn0 (Or.inl c1) ?_
    refine br_t rfl ?_
    exact tlK1 (hKB _ _ _ _ _ _ _ _ _ _ _ _ _ _ _ _ _ _ _ _ _ _ _ _ _ _ _ _ _ _ _ _ _ _ _ _ _ _ _ _ _ _ _ _ _ _ _ _ _ _ _ _ _ _ rfl ⟨hT, hSe, hPl, hB, hR⟩)
  · by_cases c2 : v ≤ 8
    · obtain ⟨k, hk, rfl⟩ := i_nat (N := 8) (i_pos c1) c2 (by decide)
      refine br_f c1 ?_
      refine br_t c2 ?_
      by_cases c3 : n + k ≤ 64
      · have c4 : nI n + nI k ≤ 64 := by rw [nI_add]; exact (i_le_of (m := 64) rfl (by decide) (by omega)).mpr c3
        refine br_t c4 ?_
        refine ⟨9, ?_⟩
        refine fdX k 9 mtx n (by omega) c3 ?_
        refine iIn1 c1 (i_ngt c2) ?_
        refine br_f ne10 ?_
        refine br_t c4 ?_
        refine ⟨9, ?_⟩
        refine fdM k 9 mtx n (by omega) c3 ?_
        exact tlK0 (tl0 (hKB _ _ _ _ _ _ _ _ _ _ _ _ _ _ _ _ _ _ _ _ _ _ _ _ _ _ _ _ _ _ _ _ _ _ _ _ _ _ _ _ _ _ _ _ _ _ _ _ _ _ _ _ _ _ rfl ⟨⟨n + k, c3, rfl, rfl, rfl, fd_byte a k mtx n hby⟩, hSe, ⟨rfl, rfl, rfl, rfl, rfl, Or.inl ⟨rfl, rfl⟩⟩, hB, hR⟩))
      · have c4 : ¬ nI n + nI k ≤ 64 := by rw [nI_add]; exact fun q => c3 ((i_le_of (m := 64) rfl (by decide) (by omega)).mp q)
        refine br_f c4 ?_
        refine Or.inr ?_
        refine ⟨rfl, ?_⟩
        refine iIn1 c1 (i_ngt c2) ?_
        refine br_f ne10 ?_
        refine br_f c4 ?_
        exact tlK2 (hKB _ _ _ _ _ _ _ _ _ _ _ _ _ _ _ _ _ _ _ _ _ _ _ _ _ _ _ _ _ _ _ _ _ _ _ _ _ _ _ _ _ _ _ _ _ _ _ _ _ _ _ _ _ _ rfl ⟨hT, hSe, hPl, hB, hR⟩)
    · refine br_f c1 ?_
      refine br_f c2 ?_
      refine Or.inl ?_
      refine ⟨rfl, ?_⟩
      refine iIn0 (Or.inr (i_gt c2)) ?_
      refine br_t rfl ?_
      exact tlK1 (hKB _ _ _ _ _ _ _ _ _ _ _ _ _ _ _ _ _ _ _ _ _ _ _ _ _ _ _ _ _ _ _ _ _ _ _ _ _ _ _ _ _ _ _ _ _ _ _ _ _ _ _ _ _ _ rfl ⟨hT, hSe, hPl, hB, hR⟩)
set_option maxHeartbeats 1000000 in
theorem cs_304 {L : Nat} {xs : Nat → Int32} {v5 : Int32} {tn : Int32} {tb : Nat → Int32} {sw : Int32} {sl : Int32} {sg : Int32} {sp : Int32} {ww : Nat → Int32} {wr : Nat → Int32} {wm : Nat → Int32} {wl : Nat → Int32} {wd : Nat → Int32} {pn : Int32} {pch : Int32} {pk : Nat → Int32} {pl : Nat → Int32} {pd : Nat → Int32} {ps : Nat → Int32} {bn : Int32} {br : Nat → Int32} {rn : Int32} {rf : Int32} {rx : Int32} {rp : Int32} {rb : Nat → Int32} {mth : Int32} {msz : Int32} {mwi : Int32} {mle : Int32} {mgr : Int32} {mpr : Int32} {mhp : Int32} {mtk : Int32} {mbn : Int32} {mmd : Int32} {mep : Int32} {mat : Int32} {mer : Int32} {mtx : Nat → Int32} {mki : Nat → Int32} {mln : Nat → Int32} {mdi : Nat → Int32} {mst : Nat → Int32} {mbi : Nat → Int32} {mou : Nat → Int32} {mco : Nat → Int32} {mct : Nat → Int32} {mfk : Nat → Int32} {mfl : Nat → Int32} {mfd : Nat → Int32} {mgo : Nat → Int32} {mma : Nat → Int32} {ov : Nat → Int64} {od : Nat → UInt64} {KB : Int32 → Int32 → (Nat → Int32) → Int32 → Int32 → Int32 → Int32 → (Nat → Int32) → (Nat → Int32) → (Nat → Int32) → (Nat → Int32) → (Nat → Int32) → Int32 → Int32 → (Nat → Int32) → (Nat → Int32) → (Nat → Int32) → (Nat → Int32) → Int32 → (Nat → Int32) → Int32 → Int32 → Int32 → Int32 → (Nat → Int32) → Int32 → Int32 → Int32 → Int32 → Int32 → Int32 → Int32 → Int32 → Int32 → Int32 → Int32 → Int32 → Int32 → (Nat → Int32) → (Nat → Int32) → (Nat → Int32) → (Nat → Int32) → (Nat → Int32) → (Nat → Int32) → (Nat → Int32) → (Nat → Int32) → (Nat → Int32) → (Nat → Int32) → (Nat → Int32) → (Nat → Int32) → (Nat → Int32) → (Nat → Int32) → (Nat → Int64) → (Nat → UInt64) → Prop} (hI : Inv tn tb sw sl sg sp pn pch pk pl pd ps bn br rn rf rb msz mwi mle mgr mpr mhp mtk mbn mmd mep mtx mki mln mdi mst mbi mou) (hv1 : vp_in (v5 + 1) L) (hv2 : vp_in (v5 + 2) L) (hv3 : vp_in (v5 + 3) L) (hKB : ∀ (v59 : Int32) (tn9 : Int32) (tb9 : Nat → Int32) (sw9 : Int32) (sl9 : Int32) (sg9 : Int32) (sp9 : Int32) (ww9 : Nat → Int32) (wr9 : Nat → Int32) (wm9 : Nat → Int32) (wl9 : Nat → Int32) (wd9 : Nat → Int32) (pn9 : Int32) (pch9 : Int32) (pk9 : Nat → Int32) (pl9 : Nat → Int32) (pd9 : Nat → Int32) (ps9 : Nat → Int32) (bn9 : Int32) (br9 : Nat → Int32) (rn9 : Int32) (rf9 : Int32) (rx9 : Int32) (rp9 : Int32) (rb9 : Nat → Int32) (mth9 : Int32) (msz9 : Int32) (mwi9 : Int32) (mle9 : Int32) (mgr9 : Int32) (mpr9 : Int32) (mhp9 : Int32) (mtk9 : Int32) (mbn9 : Int32) (mmd9 : Int32) (mep9 : Int32) (mat9 : Int32) (mer9 : Int32) (mtx9 : Nat → Int32) (mki9 : Nat → Int32) (mln9 : Nat → Int32) (mdi9 : Nat → Int32) (mst9 : Nat → Int32) (mbi9 : Nat → Int32) (mou9 : Nat → Int32) (mco9 : Nat → Int32) (mct9 : Nat → Int32) (mfk9 : Nat → Int32) (mfl9 : Nat → Int32) (mfd9 : Nat → Int32) (mgo9 : Nat → Int32) (mma9 : Nat → Int32) (ov9 : Nat → Int64) (od9 : Nat → UInt64), v59 = v5 + 4 → Inv tn9 tb9 sw9 sl9 sg9 sp9 pn9 pch9 pk9 pl9 pd9 ps9 bn9 br9 rn9 rf9 rb9 msz9 mwi9 mle9 mgr9 mpr9 mhp9 mtk9 mbn9 mmd9 mep9 mtx9 mki9 mln9 mdi9 mst9 mbi9 mou9 → KB v59 tn9 tb9 sw9 sl9 sg9 sp9 ww9 wr9 wm9 wl9 wd9 pn9 pch9 pk9 pl9 pd9 ps9 bn9 br9 rn9 rf9 rx9 rp9 rb9 mth9 msz9 mwi9 mle9 mgr9 mpr9 mhp9 mtk9 mbn9 mmd9 mep9 mat9 mer9 mtx9 mki9 mln9 mdi9 mst9 mbi9 mou9 mco9 mct9 mfk9 mfl9 mfd9 mgo9 mma9 ov9 od9) : wpL_law_304 L xs v5 tn tb sw sl sg sp ww wr wm wl wd pn pch pk pl pd ps bn br rn rf rx rp rb msz mwi mle mgr mpr mhp mtk mbn mmd mep mat mer mtx mki mln mdi mst mbi mou mco mct mfk mfl mfd mgo mma ov od KB := by
  obtain ⟨hT, hSe, hPl, hB, hR⟩ := hI
  obtain ⟨n, hn, rfl, rfl, rfl, hby⟩ := id hT
  obtain ⟨rfl, rfl, rfl, rfl, rfl, hpl⟩ := id hPl
  unfold wpL_law_304 wpL_fill wpX10_fill wpX10_thrown wpX9_fill wpX10_no wpX9_isByte wpX4_forget
  refine ⟨hv1, hv2, ?_⟩
  generalize xs (v5 + 1).toNatClampNeg = b
  generalize xs (v5 + 2).toNatClampNeg = v
  by_cases d1 : b < 0
  · refine br_t d1 ?_
    refine br_t rfl ?_
    refine Or.inl ?_
    refine ⟨rfl, ?_⟩
    refine iIn0 (Or.inl d1) ?_
    refine br_t rfl ?_
    exact tlK1 (hKB _ _ _ _ _ _ _ _ _ _ _ _ _ _ _ _ _ _ _ _ _ _ _ _ _ _ _ _ _ _ _ _ _ _ _ _ _ _ _ _ _ _ _ _ _ _ _ _ _ _ _ _ _ _ rfl ⟨hT, hSe, hPl, hB, hR⟩)
  · by_cases d2 : 255 < b
    · refine br_f d1 ?_
      refine br_t d2 ?_
      refine br_t rfl ?_
      refine Or.inl ?_
      refine ⟨rfl, ?_⟩
      refine iIn0 (Or.inr d2) ?_
      refine br_t rfl ?_
      exact tlK1 (hKB _ _ _ _ _ _ _ _ _ _ _ _ _ _ _ _ _ _ _ _ _ _ _ _ _ _ _ _ _ _ _ _ _ _ _ _ _ _ _ _ _ _ _ _ _ _ _ _ _ _ _ _ _ _ rfl ⟨hT, hSe, hPl, hB, hR⟩)
    · refine br_f d1 ?_
      refine br_f d2 ?_
      refine br_f ne10 ?_
      by_cases c1 : v < 1
      · refine br_t c1 ?_
        refine Or.inl ?_
        refine ⟨rfl, ?_⟩
        refine iIn1 d1 d2 ?_
        refine br_f ne10 ?_
        refine iIn0 (Or.inl c1) ?_
        refine br_t rfl ?_
        exact tlK1 (hKB _ _ _ _ _ _ _ _ _ _ _ _ _ _ _ _ _ _ _ _ _ _ _ _ _ _ _ _ _ _ _ _ _ _ _ _ _ _ _ _ _ _ _ _ _ _ _ _ _ _ _ _ _ _ rfl ⟨hT, hSe, hPl, hB, hR⟩)
      · by_cases c2 : v ≤ 64
        · obtain ⟨k, hk, rfl⟩ := i_nat (N := 64) (i_pos c1) c2 (by decide)
          obtain ⟨c, hc, rfl⟩ := i_nat (N := 255) d1 (i_ge d2) (by decide)
          refine br_f c1 ?_
          refine br_t c2 ?_
          by_cases c3 : n + k ≤ 64
          · have c4 : nI n + nI k ≤ 64 := by rw [nI_add]; exact (i_le_of (m := 64) rfl (by decide) (by omega)).mpr c3
            refine br_t c4 ?_
            refine ⟨65, ?_⟩
            refine flX hk k 65 0 mtx n (by omega) (by omega) c3 ?_
            refine iIn1 d1 d2 ?_
            refine br_f ne10 ?_
            refine iIn1 c1 (i_ngt c2) ?_
            refine br_f ne10 ?_
            refine br_t c4 ?_
            refine ⟨65, ?_⟩
            refine flM c3 k 65 0 mtx (by omega) (by omega) ?_
            rw [nI_add]
            exact tlK0 (tl0 (hKB _ _ _ _ _ _ _ _ _ _ _ _ _ _ _ _ _ _ _ _ _ _ _ _ _ _ _ _ _ _ _ _ _ _ _ _ _ _ _ _ _ _ _ _ _ _ _ _ _ _ _ _ _ _ rfl ⟨⟨n + k, c3, rfl, rfl, rfl, fl_byte (by omega) k mtx n hby⟩, hSe, ⟨rfl, rfl, rfl, rfl, rfl, Or.inl ⟨rfl, rfl⟩⟩, hB, hR⟩))
          · have c4 : ¬ nI n + nI k ≤ 64 := by rw [nI_add]; exact fun q => c3 ((i_le_of (m := 64) rfl (by decide) (by omega)).mp q)
            refine br_f c4 ?_
            refine Or.inr ?_
            refine ⟨rfl, ?_⟩
            refine iIn1 d1 d2 ?_
            refine br_f ne10 ?_
            refine iIn1 c1 (i_ngt c2) ?_
            refine br_f ne10 ?_
            refine br_f c4 ?_
            exact tlK2 (hKB _ _ _ _ _ _ _ _ _ _ _ _ _ _ _ _ _ _ _ _ _ _ _ _ _ _ _ _ _ _ _ _ _ _ _ _ _ _ _ _ _ _ _ _ _ _ _ _ _ _ _ _ _ _ rfl ⟨hT, hSe, hPl, hB, hR⟩)
        · refine br_f c1 ?_
          refine br_f c2 ?_
          refine Or.inl ?_
          refine ⟨rfl, ?_⟩
          refine iIn1 d1 d2 ?_
          refine br_f ne10 ?_
          refine iIn0 (Or.inr (i_gt c2)) ?_
          refine br_t rfl ?_
          exact tlK1 (hKB _ _ _ _ _ _ _ _ _ _ _ _ _ _ _ _ _ _ _ _ _ _ _ _ _ _ _ _ _ _ _ _ _ _ _ _ _ _ _ _ _ _ _ _ _ _ _ _ _ _ _ _ _ _ rfl ⟨hT, hSe, hPl, hB, hR⟩)

