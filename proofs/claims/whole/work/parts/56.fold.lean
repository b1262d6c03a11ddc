-- places that differ
def dfc (a b : Nat → Int32) : Nat → Nat
  | 0 => 0
  | i + 1 => dfc a b i + (if a i = b i then 0 else 1)
theorem dfX {a b : Nat → Int32} {s c : Nat} {K : Int32 → Prop} (hs : s ≤ 64) : ∀ (j fuel i : Nat), i + j = s → j < fuel → K (nI (c + dfc a b s)) → wpX9_differences_43 (nI s) a b K fuel (nI (c + dfc a b i)) (nI i) := by
  intro j
  induction j with
  | zero =>
    intro fuel i hi hf h
    obtain ⟨f, rfl⟩ : ∃ f, fuel = f + 1 := ⟨fuel - 1, by omega⟩
    rw [wpX9_differences_43]
    refine br_t (nI_le (by omega) (by omega)) ?_
    rw [show i = s by omega]
    exact h
  | succ j ih =>
    intro fuel i hi hf h
    obtain ⟨f, rfl⟩ : ∃ f, fuel = f + 1 := ⟨fuel - 1, by omega⟩
    have := ih f (i + 1) (by omega) (by omega) h
    rw [dfc] at this
    rw [wpX9_differences_43, nI_clamp (by omega)]
    refine br_f (nI_ge (by omega) (by omega)) ⟨vp_in_nI (by omega) (by decide), vp_in_nI (by omega) (by decide), ?_⟩
    unfold wpX9_differences_75
    rw [nI_1, nI_1]
    by_cases e : a i = b i
    · rw [if_pos e] at this
      exact br_t e this
    · rw [if_neg e] at this
      exact br_f e this
theorem dfM {a b : Nat → Int32} {n r s c : Nat} {K : Int32 → Prop} (hn : n ≤ 64) (hr : r ≤ 200) (hs : s = min n r) : ∀ (j fuel i : Nat), i + j = s → j < fuel → K (nI (c + dfc a b s)) → wpX10_differences_20 (nI n) (nI r) a b K fuel (nI (c + dfc a b i)) (nI i) := by
  intro j
  induction j with
  | zero =>
    intro fuel i hi hf h
    obtain ⟨f, rfl⟩ : ∃ f, fuel = f + 1 := ⟨fuel - 1, by omega⟩
    have e : i = s := by omega
    rw [← e] at h
    rw [wpX10_differences_20]
    refine pk_le n i (fun _ => h) (fun c1 => pk_le r i (fun _ => h) (fun c2 => by omega))
  | succ j ih =>
    intro fuel i hi hf h
    obtain ⟨f, rfl⟩ : ∃ f, fuel = f + 1 := ⟨fuel - 1, by omega⟩
    have := ih f (i + 1) (by omega) (by omega) h
    rw [dfc] at this
    rw [wpX10_differences_20, nI_clamp (by omega)]
    refine br_f (nI_ge (by omega) (by omega)) (br_f (nI_ge (by omega) (by omega)) ⟨vp_in_nI (by omega) (by decide), vp_in_nI (by omega) (by decide), ?_⟩)
    unfold wpX10_differences_57
    rw [nI_1, i_add0, nI_1]
    by_cases e : a i = b i
    · rw [if_pos e] at this
      exact br_t e this
    · rw [if_neg e] at this
      exact br_f e this
theorem absd : ∀ n, n < 65 → ∀ r, r < 201 → (if 0 ≤ nI n - nI r then nI n - nI r else 0 - (nI n - nI r)) = nI (max n r - min n r) := by
  have h : (List.range 65).all (fun n => (List.range 201).all (fun r => decide ((if 0 ≤ nI n - nI r then nI n - nI r else 0 - (nI n - nI r)) = nI (max n r - min n r)))) = true := by decide +kernel
  intro n hn r hr
  exact of_decide_eq_true (List.all_eq_true.mp (List.all_eq_true.mp h n (List.mem_range.mpr hn)) r (List.mem_range.mpr hr))
-- the checksum
def foldD (f : Nat → Int32) (d : Int64) : Nat → Int64
  | 0 => d
  | i + 1 => foldD f d i * 31 + (f i).toInt64
def foldP (pk pl pd : Nat → Int32) (d : Int64) : Nat → Int64
  | 0 => d
  | i + 1 => ((foldP pk pl pd d i * 31 + (pk i).toInt64) * 31 + (pl i).toInt64) * 31 + (pd i).toInt64
theorem sMix_aTb {f : Nat → Int32} {d : Int64} {k : Nat} {post : Int64 → Prop} (hk : k ≤ 64) (h : post (foldD f (d * 31 + (nI k).toInt64) k)) : wpX9_mixRow_aTb f d (nI k) post := by
  have key : ∀ (j fuel i : Nat), i + j = k → j < fuel → wpX9_mixRow_aTb_10 (nI k) f post fuel (foldD f (d * 31 + (nI k).toInt64) i) (nI i) := by
    intro j
    induction j with
    | zero =>
      intro fuel i hi hf
      obtain ⟨f2, rfl⟩ : ∃ f2, fuel = f2 + 1 := ⟨fuel - 1, by omega⟩
      rw [wpX9_mixRow_aTb_10]
      refine br_t (nI_le (by omega) (by omega)) ?_
      rw [show i = k by omega]
      exact h
    | succ j ih =>
      intro fuel i hi hf
      obtain ⟨f2, rfl⟩ : ∃ f2, fuel = f2 + 1 := ⟨fuel - 1, by omega⟩
      have := ih f2 (i + 1) (by omega) (by omega)
      rw [foldD] at this
      rw [wpX9_mixRow_aTb_10, nI_clamp (by omega)]
      refine br_f (nI_ge (by omega) (by omega)) ⟨vp_in_nI (by omega) (by decide), ?_⟩
      unfold wpX9_mix
      rw [nI_1]
      exact this
  exact ⟨k + 1, key k (k + 1) 0 (by omega) (by omega)⟩
theorem sMix_aBr {f : Nat → Int32} {d : Int64} {k : Nat} {post : Int64 → Prop} (hk : k ≤ 800) (h : post (foldD f (d * 31 + (nI k).toInt64) k)) : wpX9_mixRow_aBr f d (nI k) post := by
  have key : ∀ (j fuel i : Nat), i + j = k → j < fuel → wpX9_mixRow_aBr_10 (nI k) f post fuel (foldD f (d * 31 + (nI k).toInt64) i) (nI i) := by
    intro j
    induction j with
    | zero =>
      intro fuel i hi hf
      obtain ⟨f2, rfl⟩ : ∃ f2, fuel = f2 + 1 := ⟨fuel - 1, by omega⟩
      rw [wpX9_mixRow_aBr_10]
      refine br_t (nI_le (by omega) (by omega)) ?_
      rw [show i = k by omega]
      exact h
    | succ j ih =>
      intro fuel i hi hf
      obtain ⟨f2, rfl⟩ : ∃ f2, fuel = f2 + 1 := ⟨fuel - 1, by omega⟩
      have := ih f2 (i + 1) (by omega) (by omega)
      rw [foldD] at this
      rw [wpX9_mixRow_aBr_10, nI_clamp (by omega)]
      refine br_f (nI_ge (by omega) (by omega)) ⟨vp_in_nI (by omega) (by decide), ?_⟩
      unfold wpX9_mix
      rw [nI_1]
      exact this
  exact ⟨k + 1, key k (k + 1) 0 (by omega) (by omega)⟩
theorem sMix_aRb {f : Nat → Int32} {d : Int64} {k : Nat} {post : Int64 → Prop} (hk : k ≤ 200) (h : post (foldD f (d * 31 + (nI k).toInt64) k)) : wpX9_mixRow_aRb f d (nI k) post := by
  have key : ∀ (j fuel i : Nat), i + j = k → j < fuel → wpX9_mixRow_aRb_10 (nI k) f post fuel (foldD f (d * 31 + (nI k).toInt64) i) (nI i) := by
    intro j
    induction j with
    | zero =>
      intro fuel i hi hf
      obtain ⟨f2, rfl⟩ : ∃ f2, fuel = f2 + 1 := ⟨fuel - 1, by omega⟩
      rw [wpX9_mixRow_aRb_10]
      refine br_t (nI_le (by omega) (by omega)) ?_
      rw [show i = k by omega]
      exact h
    | succ j ih =>
      intro fuel i hi hf
      obtain ⟨f2, rfl⟩ : ∃ f2, fuel = f2 + 1 := ⟨fuel - 1, by omega⟩
      have := ih f2 (i + 1) (by omega) (by omega)
      rw [foldD] at this
      rw [wpX9_mixRow_aRb_10, nI_clamp (by omega)]
      refine br_f (nI_ge (by omega) (by omega)) ⟨vp_in_nI (by omega) (by decide), ?_⟩
      unfold wpX9_mix
      rw [nI_1]
      exact this
  exact ⟨k + 1, key k (k + 1) 0 (by omega) (by omega)⟩
theorem sDig_17 {f : Nat → Int32} {d : Int64} {k : Nat} {post : Int64 → Prop} (hk : k ≤ 64) (h : post (foldD f d k)) : wpX10_digest_17 (nI k) f post (k + 1) d 0 := by
  have key : ∀ (j fuel i : Nat), i + j = k → j < fuel → wpX10_digest_17 (nI k) f post fuel (foldD f d i) (nI i) := by
    intro j
    induction j with
    | zero =>
      intro fuel i hi hf
      obtain ⟨f2, rfl⟩ : ∃ f2, fuel = f2 + 1 := ⟨fuel - 1, by omega⟩
      rw [wpX10_digest_17]
      refine br_t (nI_le (by omega) (by omega)) ?_
      rw [show i = k by omega]
      exact h
    | succ j ih =>
      intro fuel i hi hf
      obtain ⟨f2, rfl⟩ : ∃ f2, fuel = f2 + 1 := ⟨fuel - 1, by omega⟩
      have := ih f2 (i + 1) (by omega) (by omega)
      rw [foldD] at this
      rw [wpX10_digest_17, nI_clamp (by omega)]
      refine br_f (nI_ge (by omega) (by omega)) ⟨vp_in_nI (by omega) (by decide), ?_⟩
      rw [nI_1]
      exact this
  exact key k (k + 1) 0 (by omega) (by omega)
theorem sDig_174 {f : Nat → Int32} {d : Int64} {k : Nat} {post : Int64 → Prop} (hk : k ≤ 800) (h : post (foldD f d k)) : wpX10_digest_174 (nI k) f post (k + 1) d 0 := by
  have key : ∀ (j fuel i : Nat), i + j = k → j < fuel → wpX10_digest_174 (nI k) f post fuel (foldD f d i) (nI i) := by
    intro j
    induction j with
    | zero =>
      intro fuel i hi hf
      obtain ⟨f2, rfl⟩ : ∃ f2, fuel = f2 + 1 := ⟨fuel - 1, by omega⟩
      rw [wpX10_digest_174]
      refine br_t (nI_le (by omega) (by omega)) ?_
      rw [show i = k by omega]
      exact h
    | succ j ih =>
      intro fuel i hi hf
      obtain ⟨f2, rfl⟩ : ∃ f2, fuel = f2 + 1 := ⟨fuel - 1, by omega⟩
      have := ih f2 (i + 1) (by omega) (by omega)
      rw [foldD] at this
      rw [wpX10_digest_174, nI_clamp (by omega)]
      refine br_f (nI_ge (by omega) (by omega)) ⟨vp_in_nI (by omega) (by decide), ?_⟩
      rw [nI_1]
      exact this
  exact key k (k + 1) 0 (by omega) (by omega)
theorem sDig_216 {f : Nat → Int32} {d : Int64} {k : Nat} {post : Int64 → Prop} (hk : k ≤ 200) (h : post (foldD f d k)) : wpX10_digest_216 (nI k) f post (k + 1) d 0 := by
  have key : ∀ (j fuel i : Nat), i + j = k → j < fuel → wpX10_digest_216 (nI k) f post fuel (foldD f d i) (nI i) := by
    intro j
    induction j with
    | zero =>
      intro fuel i hi hf
      obtain ⟨f2, rfl⟩ : ∃ f2, fuel = f2 + 1 := ⟨fuel - 1, by omega⟩
      rw [wpX10_digest_216]
      refine br_t (nI_le (by omega) (by omega)) ?_
      rw [show i = k by omega]
      exact h
    | succ j ih =>
      intro fuel i hi hf
      obtain ⟨f2, rfl⟩ : ∃ f2, fuel = f2 + 1 := ⟨fuel - 1, by omega⟩
      have := ih f2 (i + 1) (by omega) (by omega)
      rw [foldD] at this
      rw [wpX10_digest_216, nI_clamp (by omega)]
      refine br_f (nI_ge (by omega) (by omega)) ⟨vp_in_nI (by omega) (by decide), ?_⟩
      rw [nI_1]
      exact this
  exact key k (k + 1) 0 (by omega) (by omega)
theorem sMixP {pk pl pd : Nat → Int32} {d : Int64} {k : Nat} {post : Int64 → Prop} (hk : k ≤ 64) (h : post (foldP pk pl pd (d * 31 + (nI k).toInt64) k)) : wpX9_mixPlan (nI k) pk pl pd d post := by
  have key : ∀ (j fuel i : Nat), i + j = k → j < fuel → wpX9_mixPlan_15 (nI k) pk pl pd post fuel (foldP pk pl pd (d * 31 + (nI k).toInt64) i) (nI i) := by
    intro j
    induction j with
    | zero =>
      intro fuel i hi hf
      obtain ⟨f, rfl⟩ : ∃ f, fuel = f + 1 := ⟨fuel - 1, by omega⟩
      rw [wpX9_mixPlan_15]
      refine br_t (nI_le (by omega) (by omega)) ?_
      rw [show i = k by omega]
      exact h
    | succ j ih =>
      intro fuel i hi hf
      obtain ⟨f, rfl⟩ : ∃ f, fuel = f + 1 := ⟨fuel - 1, by omega⟩
      have := ih f (i + 1) (by omega) (by omega)
      rw [foldP] at this
      rw [wpX9_mixPlan_15, nI_clamp (by omega)]
      refine br_f (nI_ge (by omega) (by omega)) ⟨vp_in_nI (by omega) (by decide), ?_⟩
      unfold wpX9_mix
      rw [nI_1]
      exact this
  exact ⟨k + 1, key k (k + 1) 0 (by omega) (by omega)⟩
theorem sDigP {pk pl pd : Nat → Int32} {d : Int64} {k : Nat} {post : Int64 → Prop} (hk : k ≤ 64) (h : post (foldP pk pl pd d k)) : wpX10_digest_108 (nI k) pk pl pd post (k + 1) d 0 := by
  have key : ∀ (j fuel i : Nat), i + j = k → j < fuel → wpX10_digest_108 (nI k) pk pl pd post fuel (foldP pk pl pd d i) (nI i) := by
    intro j
    induction j with
    | zero =>
      intro fuel i hi hf
      obtain ⟨f, rfl⟩ : ∃ f, fuel = f + 1 := ⟨fuel - 1, by omega⟩
      rw [wpX10_digest_108]
      refine br_t (nI_le (by omega) (by omega)) ?_
      rw [show i = k by omega]
      exact h
    | succ j ih =>
      intro fuel i hi hf
      obtain ⟨f, rfl⟩ : ∃ f, fuel = f + 1 := ⟨fuel - 1, by omega⟩
      have := ih f (i + 1) (by omega) (by omega)
      rw [foldP] at this
      rw [wpX10_digest_108, nI_clamp (by omega)]
      refine br_f (nI_ge (by omega) (by omega)) ⟨vp_in_nI (by omega) (by decide), ?_⟩
      rw [nI_1]
      exact this
  exact key k (k + 1) 0 (by omega) (by omega)
def digT (tb rb br : Nat → Int32) (d : Int64) (m r : Nat) : Int64 := foldD rb (foldD br (d * 31 + (nI m).toInt64) m * 31 + (nI r).toInt64) r
theorem sX9_digest_85 {br rb : Nat → Int32} {d : Int64} {m r : Nat} {post : Int64 → Prop} (hm : m ≤ 800) (hr : r ≤ 200) (h : post (digT br rb br d m r)) : wpX9_digest_85 d (nI m) br (nI r) rb post := by
  unfold wpX9_digest_85
  exact sMix_aBr hm (sMix_aRb hr h)
theorem sX10_digest_160 {br rb : Nat → Int32} {d : Int64} {th : Int32} {m r : Nat} {post : Int64 → Int32 → Prop} (hm : m ≤ 800) (hr : r ≤ 200) (h : post (digT br rb br d m r) th) : wpX10_digest_160 d th (nI m) (nI r) br rb post := by
  unfold wpX10_digest_160
  exact ⟨m + 1, sDig_174 hm ⟨r + 1, sDig_216 hr h⟩⟩
theorem tlG {x : Int64} {P : Prop} (h : P) : (lg_cmp x x = 0 → P) ∧ (¬ lg_cmp x x = 0 → False) := ⟨fun _ => h, fun q => q (by simp [lg_cmp])⟩
set_option maxHeartbeats 1000000 in
theorem cs_1817 {L : Nat} {xs : Nat → Int32} {v5 : Int32} {tn : Int32} {tb : Nat → Int32} {sw : Int32} {sl : Int32} {sg : Int32} {sp : Int32} {ww : Nat → Int32} {wr : Nat → Int32} {wm : Nat → Int32} {wl : Nat → Int32} {wd : Nat → Int32} {pn : Int32} {pch : Int32} {pk : Nat → Int32} {pl : Nat → Int32} {pd : Nat → Int32} {ps : Nat → Int32} {bn : Int32} {br : Nat → Int32} {rn : Int32} {rf : Int32} {rx : Int32} {rp : Int32} {rb : Nat → Int32} {mth : Int32} {msz : Int32} {mwi : Int32} {mle : Int32} {mgr : Int32} {mpr : Int32} {mhp : Int32} {mtk : Int32} {mbn : Int32} {mmd : Int32} {mep : Int32} {mat : Int32} {mer : Int32} {mtx : Nat → Int32} {mki : Nat → Int32} {mln : Nat → Int32} {mdi : Nat → Int32} {mst : Nat → Int32} {mbi : Nat → Int32} {mou : Nat → Int32} {mco : Nat → Int32} {mct : Nat → Int32} {mfk : Nat → Int32} {mfl : Nat → Int32} {mfd : Nat → Int32} {mgo : Nat → Int32} {mma : Nat → Int32} {ov : Nat → Int64} {od : Nat → UInt64} {KB : Int32 → Int32 → (Nat → Int32) → Int32 → Int32 → Int32 → Int32 → (Nat → Int32) → (Nat → Int32) → (Nat → Int32) → (Nat → Int32) → (Nat → Int32) → Int32 → Int32 → (Nat → Int32) → (Nat → Int32) → (Nat → Int32) → (Nat → Int32) → Int32 → (Nat → Int32) → Int32 → Int32 → Int32 → Int32 → (Nat → Int32) → Int32 → Int32 → Int32 → Int32 → Int32 → Int32 → Int32 → Int32 → Int32 → Int32 → Int32 → Int32 → Int32 → (Nat → Int32) → (Nat → Int32) → (Nat → Int32) → (Nat → Int32) → (Nat → Int32) → (Nat → Int32) → (Nat → Int32) → (Nat → Int32) → (Nat → Int32) → (Nat → Int32) → (Nat → Int32) → (Nat → Int32) → (Nat → Int32) → (Nat → Int32) → (Nat → Int64) → (Nat → UInt64) → Prop} (hI : Inv tn tb sw sl sg sp pn pch pk pl pd ps bn br rn rf rb msz mwi mle mgr mpr mhp mtk mbn mmd mep mtx mki mln mdi mst mbi mou) (hv1 : vp_in (v5 + 1) L) (hv2 : vp_in (v5 + 2) L) (hv3 : vp_in (v5 + 3) L) (hKB : ∀ (v59 : Int32) (tn9 : Int32) (tb9 : Nat → Int32) (sw9 : Int32) (sl9 : Int32) (sg9 : Int32) (sp9 : Int32) (ww9 : Nat → Int32) (wr9 : Nat → Int32) (wm9 : Nat → Int32) (wl9 : Nat → Int32) (wd9 : Nat → Int32) (pn9 : Int32) (pch9 : Int32) (pk9 : Nat → Int32) (pl9 : Nat → Int32) (pd9 : Nat → Int32) (ps9 : Nat → Int32) (bn9 : Int32) (br9 : Nat → Int32) (rn9 : Int32) (rf9 : Int32) (rx9 : Int32) (rp9 : Int32) (rb9 : Nat → Int32) (mth9 : Int32) (msz9 : Int32) (mwi9 : Int32) (mle9 : Int32) (mgr9 : Int32) (mpr9 : Int32) (mhp9 : Int32) (mtk9 : Int32) (mbn9 : Int32) (mmd9 : Int32) (mep9 : Int32) (mat9 : Int32) (mer9 : Int32) (mtx9 : Nat → Int32) (mki9 : Nat → Int32) (mln9 : Nat → Int32) (mdi9 : Nat → Int32) (mst9 : Nat → Int32) (mbi9 : Nat → Int32) (mou9 : Nat → Int32) (mco9 : Nat → Int32) (mct9 : Nat → Int32) (mfk9 : Nat → Int32) (mfl9 : Nat → Int32) (mfd9 : Nat → Int32) (mgo9 : Nat → Int32) (mma9 : Nat → Int32) (ov9 : Nat → Int64) (od9 : Nat → UInt64), v59 = v5 + 4 → Inv tn9 tb9 sw9 sl9 sg9 sp9 pn9 pch9 pk9 pl9 pd9 ps9 bn9 br9 rn9 rf9 rb9 msz9 mwi9 mle9 mgr9 mpr9 mhp9 mtk9 mbn9 mmd9 mep9 mtx9 mki9 mln9 mdi9 mst9 mbi9 mou9 → KB v59 tn9 tb9 sw9 sl9 sg9 sp9 ww9 wr9 wm9 wl9 wd9 pn9 pch9 pk9 pl9 pd9 ps9 bn9 br9 rn9 rf9 rx9 rp9 rb9 mth9 msz9 mwi9 mle9 mgr9 mpr9 mhp9 mtk9 mbn9 mmd9 mep9 mat9 mer9 mtx9 mki9 mln9 mdi9 mst9 mbi9 mou9 mco9 mct9 mfk9 mfl9 mfd9 mgo9 mma9 ov9 od9) : wpL_law_1817 v5 tn tb sw sl sg sp ww wr wm wl wd pn pch pk pl pd ps bn br rn rf rx rp rb msz mwi mle mgr mpr mhp mtk mbn mmd mep mat mer mtx mki mln mdi mst mbi mou mco mct mfk mfl mfd mgo mma ov od KB := by
  obtain ⟨hT, hSe, hPl, hB, hR⟩ := hI
  obtain ⟨n, hn, rfl, rfl, rfl, hby⟩ := id hT
  obtain ⟨r, hr, rfl, rfl, rfl, rfl⟩ := id hR
  unfold wpL_law_1817 wpX9_differences wpX10_differences
  rw [absd n (by omega) r (by omega), i_max n r (by omega) (by omega), i_min n r (by omega) (by omega), pk_sub (by omega)]
  refine ⟨min n r + 1, ?_⟩
  refine dfX (c := max n r - min n r) (by omega) (min n r) (min n r + 1) 0 (by omega) (by omega) ?_
  refine ⟨min n r + 1, ?_⟩
  refine dfM (c := max n r - min n r) hn hr rfl (min n r) (min n r + 1) 0 (by omega) (by omega) ?_
  exact ⟨fun _ => (hKB _ _ _ _ _ _ _ _ _ _ _ _ _ _ _ _ _ _ _ _ _ _ _ _ _ _ _ _ _ _ _ _ _ _ _ _ _ _ _ _ _ _ _ _ _ _ _ _ _ _ _ _ _ _ rfl ⟨hT, hSe, hPl, hB, hR⟩), fun q => absurd rfl q⟩
set_option maxHeartbeats 1000000 in
theorem cs_1830 {L : Nat} {xs : Nat → Int32} {v5 : Int32} {tn : Int32} {tb : Nat → Int32} {sw : Int32} {sl : Int32} {sg : Int32} {sp : Int32} {ww : Nat → Int32} {wr : Nat → Int32} {wm : Nat → Int32} {wl : Nat → Int32} {wd : Nat → Int32} {pn : Int32} {pch : Int32} {pk : Nat → Int32} {pl : Nat → Int32} {pd : Nat → Int32} {ps : Nat → Int32} {bn : Int32} {br : Nat → Int32} {rn : Int32} {rf : Int32} {rx : Int32} {rp : Int32} {rb : Nat → Int32} {mth : Int32} {msz : Int32} {mwi : Int32} {mle : Int32} {mgr : Int32} {mpr : Int32} {mhp : Int32} {mtk : Int32} {mbn : Int32} {mmd : Int32} {mep : Int32} {mat : Int32} {mer : Int32} {mtx : Nat → Int32} {mki : Nat → Int32} {mln : Nat → Int32} {mdi : Nat → Int32} {mst : Nat → Int32} {mbi : Nat → Int32} {mou : Nat → Int32} {mco : Nat → Int32} {mct : Nat → Int32} {mfk : Nat → Int32} {mfl : Nat → Int32} {mfd : Nat → Int32} {mgo : Nat → Int32} {mma : Nat → Int32} {ov : Nat → Int64} {od : Nat → UInt64} {KB : Int32 → Int32 → (Nat → Int32) → Int32 → Int32 → Int32 → Int32 → (Nat → Int32) → (Nat → Int32) → (Nat → Int32) → (Nat → Int32) → (Nat → Int32) → Int32 → Int32 → (Nat → Int32) → (Nat → Int32) → (Nat → Int32) → (Nat → Int32) → Int32 → (Nat → Int32) → Int32 → Int32 → Int32 → Int32 → (Nat → Int32) → Int32 → Int32 → Int32 → Int32 → Int32 → Int32 → Int32 → Int32 → Int32 → Int32 → Int32 → Int32 → Int32 → (Nat → Int32) → (Nat → Int32) → (Nat → Int32) → (Nat → Int32) → (Nat → Int32) → (Nat → Int32) → (Nat → Int32) → (Nat → Int32) → (Nat → Int32) → (Nat → Int32) → (Nat → Int32) → (Nat → Int32) → (Nat → Int32) → (Nat → Int32) → (Nat → Int64) → (Nat → UInt64) → Prop} (hI : Inv tn tb sw sl sg sp pn pch pk pl pd ps bn br rn rf rb msz mwi mle mgr mpr mhp mtk mbn mmd mep mtx mki mln mdi mst mbi mou) (hv1 : vp_in (v5 + 1) L) (hv2 : vp_in (v5 + 2) L) (hv3 : vp_in (v5 + 3) L) (hKB : ∀ (v59 : Int32) (tn9 : Int32) (tb9 : Nat → Int32) (sw9 : Int32) (sl9 : Int32) (sg9 : Int32) (sp9 : Int32) (ww9 : Nat → Int32) (wr9 : Nat → Int32) (wm9 : Nat → Int32) (wl9 : Nat → Int32) (wd9 : Nat → Int32) (pn9 : Int32) (pch9 : Int32) (pk9 : Nat → Int32) (pl9 : Nat → Int32) (pd9 : Nat → Int32) (ps9 : Nat → Int32) (bn9 : Int32) (br9 : Nat → Int32) (rn9 : Int32) (rf9 : Int32) (rx9 : Int32) (rp9 : Int32) (rb9 : Nat → Int32) (mth9 : Int32) (msz9 : Int32) (mwi9 : Int32) (mle9 : Int32) (mgr9 : Int32) (mpr9 : Int32) (mhp9 : Int32) (mtk9 : Int32) (mbn9 : Int32) (mmd9 : Int32) (mep9 : Int32) (mat9 : Int32) (mer9 : Int32) (mtx9 : Nat → Int32) (mki9 : Nat → Int32) (mln9 : Nat → Int32) (mdi9 : Nat → Int32) (mst9 : Nat → Int32) (mbi9 : Nat → Int32) (mou9 : Nat → Int32) (mco9 : Nat → Int32) (mct9 : Nat → Int32) (mfk9 : Nat → Int32) (mfl9 : Nat → Int32) (mfd9 : Nat → Int32) (mgo9 : Nat → Int32) (mma9 : Nat → Int32) (ov9 : Nat → Int64) (od9 : Nat → UInt64), v59 = v5 + 4 → Inv tn9 tb9 sw9 sl9 sg9 sp9 pn9 pch9 pk9 pl9 pd9 ps9 bn9 br9 rn9 rf9 rb9 msz9 mwi9 mle9 mgr9 mpr9 mhp9 mtk9 mbn9 mmd9 mep9 mtx9 mki9 mln9 mdi9 mst9 mbi9 mou9 → KB v59 tn9 tb9 sw9 sl9 sg9 sp9 ww9 wr9 wm9 wl9 wd9 pn9 pch9 pk9 pl9 pd9 ps9 bn9 br9 rn9 rf9 rx9 rp9 rb9 mth9 msz9 mwi9 mle9 mgr9 mpr9 mhp9 mtk9 mbn9 mmd9 mep9 mat9 mer9 mtx9 mki9 mln9 mdi9 mst9 mbi9 mou9 mco9 mct9 mfk9 mfl9 mfd9 mgo9 mma9 ov9 od9) : wpL_law_1830 v5 tn tb sw sl sg sp ww wr wm wl wd pn pch pk pl pd ps bn br rn rf rx rp rb msz mwi mle mgr mpr mhp mtk mbn mmd mep mat mer mtx mki mln mdi mst mbi mou mco mct mfk mfl mfd mgo mma ov od KB := by
  obtain ⟨hT, hSe, hPl, hB, hR⟩ := hI
  obtain ⟨n, hn, rfl, rfl, rfl, hby⟩ := id hT
  obtain ⟨m, hm, rfl, rfl, rfl, hbi⟩ := id hB
  obtain ⟨r, hr, rfl, rfl, rfl, rfl⟩ := id hR
  obtain ⟨w, le, gr, pr, hw, hle, hgr, hpr, ⟨rfl, rfl, rfl, rfl⟩, rfl, rfl, rfl, rfl⟩ := id hSe
  obtain ⟨rfl, rfl, rfl, rfl, rfl, hpl⟩ := id hPl
  unfold wpL_law_1830 wpX9_digest wpX10_digest wpX9_mix
  refine sMix_aTb hn ?_
  rcases hpl with ⟨rfl, rfl⟩ | ⟨rfl, rfl, k, n2, hn2, hk, rfl, e9, hok⟩
  · refine br_t rfl ?_
    refine sX9_digest_85 hm hr ?_
    refine ⟨n + 1, ?_⟩
    refine sDig_17 hn ?_
    refine br_t rfl ?_
    refine sX10_digest_160 hm hr ?_
    exact tlG (hKB _ _ _ _ _ _ _ _ _ _ _ _ _ _ _ _ _ _ _ _ _ _ _ _ _ _ _ _ _ _ _ _ _ _ _ _ _ _ _ _ _ _ _ _ _ _ _ _ _ _ _ _ _ _ rfl ⟨hT, hSe, hPl, hB, hR⟩)
  · refine br_f ne10 ?_
    refine sMixP hk ?_
    refine sX9_digest_85 hm hr ?_
    refine ⟨n + 1, ?_⟩
    refine sDig_17 hn ?_
    refine br_f ne10 ?_
    refine ⟨k + 1, ?_⟩
    refine sDigP hk ?_
    refine sX10_digest_160 hm hr ?_
    exact tlG (hKB _ _ _ _ _ _ _ _ _ _ _ _ _ _ _ _ _ _ _ _ _ _ _ _ _ _ _ _ _ _ _ _ _ _ _ _ _ _ _ _ _ _ _ _ _ _ _ _ _ _ _ _ _ _ rfl ⟨hT, hSe, hPl, hB, hR⟩)

