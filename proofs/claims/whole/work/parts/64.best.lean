/-- the rows from a place on hold the table and the tokens -/
def MA (n : Nat) (W : Nat → Nat → Nat) (st : Nat → Nat → Nat × Nat × Nat) (j : Nat) (a b x y z : Nat → Int32) : Prop := (∀ p' q', j ≤ p' → p' ≤ n → q' ≤ 64 → a (65 * p' + q') = nI (W p' q' / 128) ∧ b (65 * p' + q') = nI (W p' q' % 128)) ∧ ∀ p' q', j ≤ p' → p' < n → q' ≤ 64 → x (65 * p' + q') = nI (st p' q').1 ∧ y (65 * p' + q') = nI (st p' q').2.1 ∧ z (65 * p' + q') = nI (st p' q').2.2
theorem b92 {t : Nat → Int32} {n w le gr pr : Nat} {W : Nat → Nat → Nat} {st : Nat → Nat → Nat × Nat × Nat} (hC : Ctx t n w le gr pr W st) {p : Nat} {mgo mma : Nat → Int32} {K : (Nat → Int32) → (Nat → Int32) → (Nat → Int32) → (Nat → Int32) → (Nat → Int32) → Prop} (hp : p < n) (hgo : ∀ d', 1 ≤ d' → d' ≤ p → mgo d' = nI (rl t n p d')) (hma : FMm t n w le gr pr W p (mma p)) : ∀ (k fuel q : Nat) (a b x y z : Nat → Int32), q + k = 65 → k < fuel → MA n W st (p + 1) a b x y z → (∀ q', q' < q → AtS (65 * p + q') (W p q') (st p q').1 (st p q').2.1 (st p q').2.2 a b x y z) → (∀ a' b' x' y' z', MA n W st p a' b' x' y' z' → K a' b' x' y' z') → wpX10_best_92 (nI p) (nI n) (nI w) (nI le) (nI gr) (nI pr) mgo mma K fuel (nI q) a b x y z := by
  obtain ⟨hn, hw, hl, hg, hpr, hT⟩ := id hC
  intro k
  induction k with
  | zero =>
    intro fuel q a b x y z hq hf hM hA h
    obtain ⟨f, rfl⟩ : ∃ f, fuel = f + 1 := ⟨fuel - 1, by omega⟩
    rw [wpX10_best_92]
    have : q = 65 := by omega
    subst this
    refine br_t (by decide) (h a b x y z ⟨fun p' q' u1 u2 u3 => ?_, fun p' q' u1 u2 u3 => ?_⟩)
    · rcases Nat.lt_or_ge p p' with i | i
      · exact hM.1 p' q' i u2 u3
      · have : p' = p := by omega
        subst this
        exact (hA q' (by omega)).1
    · rcases Nat.lt_or_ge p p' with i | i
      · exact hM.2 p' q' i u2 u3
      · have : p' = p := by omega
        subst this
        exact (hA q' (by omega)).2
  | succ k ih =>
    intro fuel q a b x y z hq hf hM hA h
    obtain ⟨f, rfl⟩ : ∃ f, fuel = f + 1 := ⟨fuel - 1, by omega⟩
    rw [wpX10_best_92]
    refine br_f (nI_ge (a := q) (b := 65) (by omega) (by decide)) (sX10_look hC hp (by omega) hgo hma (fun p' q' u1 u2 u3 => hM.1 p' q' u1 u2 u3) (fun a' b' x' y' z' hfr hS => ?_))
    rw [nI_1]
    refine ih f (q + 1) a' b' x' y' z' (by omega) (by omega) ⟨fun p' q' u1 u2 u3 => ?_, fun p' q' u1 u2 u3 => ?_⟩ (fun q' u => ?_) h
    · obtain ⟨⟨v1, v2⟩, -⟩ := hfr (65 * p' + q') (by omega)
      rw [v1, v2]
      exact hM.1 p' q' u1 u2 u3
    · obtain ⟨-, v1, v2, v3⟩ := hfr (65 * p' + q') (by omega)
      rw [v1, v2, v3]
      exact hM.2 p' q' u1 u2 u3
    · rcases Nat.lt_or_ge q' q with i | i
      · obtain ⟨⟨v1, v2⟩, v3, v4, v5⟩ := hfr (65 * p + q') (by omega)
        unfold AtS
        rw [v1, v2, v3, v4, v5]
        exact hA q' i
      · have : q' = q := by omega
        subst this
        exact hS
theorem b56 {t : Nat → Int32} {n w le gr pr : Nat} {W : Nat → Nat → Nat} {st : Nat → Nat → Nat × Nat × Nat} (hC : Ctx t n w le gr pr W st) {K : (Nat → Int32) → (Nat → Int32) → (Nat → Int32) → (Nat → Int32) → (Nat → Int32) → (Nat → Int32) → (Nat → Int32) → Prop} : ∀ (j fuel : Nat) (a b x y z mgo mma : Nat → Int32), j ≤ n → j < fuel → MA n W st j a b x y z → (∀ a' b' x' y' z' mgo' mma', MA n W st 0 a' b' x' y' z' → K a' b' x' y' z' mgo' mma') → wpX10_best_56 (nI n) (nI w) (nI le) (nI gr) (nI pr) t K fuel (nI j - 1) a b x y z mgo mma := by
  obtain ⟨hn, hw, hl, hg, hpr, hT⟩ := id hC
  intro j
  induction j with
  | zero =>
    intro fuel a b x y z mgo mma hj hf hM h
    obtain ⟨f, rfl⟩ : ∃ f, fuel = f + 1 := ⟨fuel - 1, by omega⟩
    rw [wpX10_best_56]
    exact br_t i_neg (h a b x y z mgo mma hM)
  | succ j ih =>
    intro fuel a b x y z mgo mma hj hf hM h
    obtain ⟨f, rfl⟩ : ∃ f, fuel = f + 1 := ⟨fuel - 1, by omega⟩
    rw [wpX10_best_56, nI_pred]
    refine br_f (nI_pos (by omega)) ⟨j + 1, b62 hn (by omega) j _ 1 mgo (by omega) (by omega) (by omega) (fun d' u1 u2 => by omega) (fun mgo' hgo => ?_)⟩
    refine sX10_findMatch hC (by omega) (fun l d hv => ?_) hgo (fun mma' hma => ?_)
    · have bv1 := vm_b hn (by omega) hw hl.1 hg hv
      exact hM.1 (j + l) d (by omega) (by omega) (by omega)
    · refine ⟨66, b92 hC (by omega) hgo hma 65 66 0 a b x y z (by omega) (by omega) hM (fun q' u => by omega) (fun a' b' x' y' z' hM' => ?_)⟩
      rw [i_m1]
      exact ih f a' b' x' y' z' mgo' mma' (by omega) (by omega) hM' h
theorem b7 {n : Nat} {K : (Nat → Int32) → (Nat → Int32) → Prop} (hn : n ≤ 64) : ∀ (k fuel q : Nat) (a b : Nat → Int32), q + k = 65 → k < fuel → (∀ i, i < q → a (65 * n + i) = 0 ∧ b (65 * n + i) = 0) → (∀ a' b', (∀ i, i < 65 → a' (65 * n + i) = 0 ∧ b' (65 * n + i) = 0) → K a' b') → wpX10_best_7 (nI n) K fuel (nI q) a b := by
  intro k
  induction k with
  | zero =>
    intro fuel q a b hq hf hi h
    obtain ⟨f, rfl⟩ : ∃ f, fuel = f + 1 := ⟨fuel - 1, by omega⟩
    rw [wpX10_best_7]
    have : q = 65 := by omega
    subst this
    exact br_t (by decide) (h a b hi)
  | succ k ih =>
    intro fuel q a b hq hf hi h
    obtain ⟨f, rfl⟩ : ∃ f, fuel = f + 1 := ⟨fuel - 1, by omega⟩
    rw [wpX10_best_7, jx65, nI_clamp (by omega), nI_1]
    refine br_f (nI_ge (a := q) (b := 65) (by omega) (by decide)) ⟨vp_in_nI (by omega) (by decide), ?_⟩
    refine ih f (q + 1) _ _ (by omega) (by omega) (fun i u => ?_) h
    rcases Nat.lt_or_ge i q with z | z
    · rw [pk_un (by omega), pk_un (by omega)]
      exact hi i z
    · have : i = q := by omega
      subst this
      exact ⟨pk_us, pk_us⟩
theorem bsM {t : Nat → Int32} {n w le gr pr : Nat} {W : Nat → Nat → Nat} {st : Nat → Nat → Nat × Nat × Nat} (hC : Ctx t n w le gr pr W st) {a0 b0 x y z : Nat → Int32} (hM : MA n W st 0 a0 b0 x y z) {K : Int32 → (Nat → Int32) → (Nat → Int32) → (Nat → Int32) → (Nat → Int32) → Prop} : ∀ (f p q k : Nat) (a b c d : Nat → Int32), n - p ≤ f → p ≤ n → Rq w p q → k ≤ p → wkP K (wk st n f p q k a b c d) → wpX10_best_125 (nI n) x y z K (f + 1) (nI q) (nI p) (nI k) a b c d := by
  obtain ⟨hn, hw, hl, hg, hpr, hT⟩ := id hC
  intro f
  induction f with
  | zero =>
    intro p q k a b c d hf hp hR hk h
    rw [wpX10_best_125]
    exact br_t (nI_le (by omega) (by omega)) h
  | succ f ih =>
    intro p q k a b c d hf hp hR hk h
    rw [wk] at h
    by_cases c1 : n ≤ p
    · rw [if_pos c1] at h
      rw [wpX10_best_125]
      exact br_t (nI_le c1 (by omega)) h
    · rw [if_neg c1] at h
      have hpn : p < n := by omega
      have hq := Rq_le hR hw
      obtain ⟨h1, h2, h3⟩ := tab_step hn hw hl.1 hg hT p q hpn hR
      have h4 := tok_pos h1
      have go := ih _ _ _ _ _ _ _ (by omega) h2 h3 (by omega) h
      have hk2 : k < 64 := by omega
      obtain ⟨v1, v2, v3⟩ := hM.2 p q (Nat.zero_le p) hpn hq
      have hks : (st p q).1 ≤ 2 := (cand_b hn hpn hw hl.1 hg hq (hT.2 p q hpn hq).1).1
      rw [wpX10_best_125, jx65, nI_clamp (n := 65 * p + q) (by omega), v1, v2, v3]
      refine br_f (nI_ge (by omega) (by omega)) ⟨vp_in_nI (by omega) (by decide), put_at hk2 ?_⟩
      unfold wpX10_best_188
      rw [nI_add]
      refine pk_eq (st p q).1 0 (fun c2 => ?_) (fun c2 => ?_)
      · rw [if_pos c2] at go
        exact go
      · rw [if_neg c2] at go
        exact go
set_option maxHeartbeats 1000000 in
theorem cs_988 {L : Nat} {xs : Nat → Int32} {v5 : Int32} {tn : Int32} {tb : Nat → Int32} {sw : Int32} {sl : Int32} {sg : Int32} {sp : Int32} {ww : Nat → Int32} {wr : Nat → Int32} {wm : Nat → Int32} {wl : Nat → Int32} {wd : Nat → Int32} {pn : Int32} {pch : Int32} {pk : Nat → Int32} {pl : Nat → Int32} {pd : Nat → Int32} {ps : Nat → Int32} {bn : Int32} {br : Nat → Int32} {rn : Int32} {rf : Int32} {rx : Int32} {rp : Int32} {rb : Nat → Int32} {mth : Int32} {msz : Int32} {mwi : Int32} {mle : Int32} {mgr : Int32} {mpr : Int32} {mhp : Int32} {mtk : Int32} {mbn : Int32} {mmd : Int32} {mep : Int32} {mat : Int32} {mer : Int32} {mtx : Nat → Int32} {mki : Nat → Int32} {mln : Nat → Int32} {mdi : Nat → Int32} {mst : Nat → Int32} {mbi : Nat → Int32} {mou : Nat → Int32} {mco : Nat → Int32} {mct : Nat → Int32} {mfk : Nat → Int32} {mfl : Nat → Int32} {mfd : Nat → Int32} {mgo : Nat → Int32} {mma : Nat → Int32} {ov : Nat → Int64} {od : Nat → UInt64} {KB : Int32 → Int32 → (Nat → Int32) → Int32 → Int32 → Int32 → Int32 → (Nat → Int32) → (Nat → Int32) → (Nat → Int32) → (Nat → Int32) → (Nat → Int32) → Int32 → Int32 → (Nat → Int32) → (Nat → Int32) → (Nat → Int32) → (Nat → Int32) → Int32 → (Nat → Int32) → Int32 → Int32 → Int32 → Int32 → (Nat → Int32) → Int32 → Int32 → Int32 → Int32 → Int32 → Int32 → Int32 → Int32 → Int32 → Int32 → Int32 → Int32 → Int32 → (Nat → Int32) → (Nat → Int32) → (Nat → Int32) → (Nat → Int32) → (Nat → Int32) → (Nat → Int32) → (Nat → Int32) → (Nat → Int32) → (Nat → Int32) → (Nat → Int32) → (Nat → Int32) → (Nat → Int32) → (Nat → Int32) → (Nat → Int32) → (Nat → Int64) → (Nat → UInt64) → Prop} (hI : Inv tn tb sw sl sg sp pn pch pk pl pd ps bn br rn rf rb msz mwi mle mgr mpr mhp mtk mbn mmd mep mtx mki mln mdi mst mbi mou) (hv1 : vp_in (v5 + 1) L) (hv2 : vp_in (v5 + 2) L) (hv3 : vp_in (v5 + 3) L) (hKB : ∀ (v59 : Int32) (tn9 : Int32) (tb9 : Nat → Int32) (sw9 : Int32) (sl9 : Int32) (sg9 : Int32) (sp9 : Int32) (ww9 : Nat → Int32) (wr9 : Nat → Int32) (wm9 : Nat → Int32) (wl9 : Nat → Int32) (wd9 : Nat → Int32) (pn9 : Int32) (pch9 : Int32) (pk9 : Nat → Int32) (pl9 : Nat → Int32) (pd9 : Nat → Int32) (ps9 : Nat → Int32) (bn9 : Int32) (br9 : Nat → Int32) (rn9 : Int32) (rf9 : Int32) (rx9 : Int32) (rp9 : Int32) (rb9 : Nat → Int32) (mth9 : Int32) (msz9 : Int32) (mwi9 : Int32) (mle9 : Int32) (mgr9 : Int32) (mpr9 : Int32) (mhp9 : Int32) (mtk9 : Int32) (mbn9 : Int32) (mmd9 : Int32) (mep9 : Int32) (mat9 : Int32) (mer9 : Int32) (mtx9 : Nat → Int32) (mki9 : Nat → Int32) (mln9 : Nat → Int32) (mdi9 : Nat → Int32) (mst9 : Nat → Int32) (mbi9 : Nat → Int32) (mou9 : Nat → Int32) (mco9 : Nat → Int32) (mct9 : Nat → Int32) (mfk9 : Nat → Int32) (mfl9 : Nat → Int32) (mfd9 : Nat → Int32) (mgo9 : Nat → Int32) (mma9 : Nat → Int32) (ov9 : Nat → Int64) (od9 : Nat → UInt64), v59 = v5 + 4 → Inv tn9 tb9 sw9 sl9 sg9 sp9 pn9 pch9 pk9 pl9 pd9 ps9 bn9 br9 rn9 rf9 rb9 msz9 mwi9 mle9 mgr9 mpr9 mhp9 mtk9 mbn9 mmd9 mep9 mtx9 mki9 mln9 mdi9 mst9 mbi9 mou9 → KB v59 tn9 tb9 sw9 sl9 sg9 sp9 ww9 wr9 wm9 wl9 wd9 pn9 pch9 pk9 pl9 pd9 ps9 bn9 br9 rn9 rf9 rx9 rp9 rb9 mth9 msz9 mwi9 mle9 mgr9 mpr9 mhp9 mtk9 mbn9 mmd9 mep9 mat9 mer9 mtx9 mki9 mln9 mdi9 mst9 mbi9 mou9 mco9 mct9 mfk9 mfl9 mfd9 mgo9 mma9 ov9 od9) : wpL_law_988 v5 tn tb sw sl sg sp ww wr wm wl wd pk pl pd ps bn br rn rf rx rp rb msz mwi mle mgr mpr mbn mmd mep mat mer mtx mki mln mdi mst mbi mou mco mct mfk mfl mfd mgo mma ov od KB := by
  obtain ⟨hT, hSe, hPl, hB, hR⟩ := hI
  obtain ⟨n, hn, rfl, rfl, rfl, hby⟩ := id hT
  obtain ⟨w, le, gr, pr, hw, hle, hgr, hpr, ⟨rfl, rfl, rfl, rfl⟩, rfl, rfl, rfl, rfl⟩ := id hSe
  obtain ⟨rfl, rfl, rfl, rfl, rfl, hpl⟩ := id hPl
  unfold wpL_law_988 wpX9_best
  obtain ⟨W, st, hTab⟩ := tab_all (t := mtx) (pr := pr) hn hw.2 hle.1 hgr.2
  have hC : Ctx mtx n w le gr pr W st := ⟨hn, hw.2, hle, hgr.2, hpr, hTab⟩
  obtain ⟨hk, hok⟩ := wk_ok (tab_step hn hw.2 hle.1 hgr.2 hTab) n 0 0 0 mki mln mdi mst (by omega) (by omega) (Or.inl rfl) (Nat.le_refl 0) (plan_nil mki mln mdi mst)
  refine sX0_weighStates hC (fun ww1 wr1 wm1 wl1 wd1 hXW hXM => ?_)
  unfold wpX0_choose
  refine ⟨n + 1, ?_⟩
  refine bsX hC hXW hXM n 0 0 0 mki mln mdi mst (by omega) (by omega) (Or.inl rfl) (Nat.le_refl 0) ?_
  generalize hr : wk st n n 0 0 0 mki mln mdi mst = r at hk hok ⊢
  obtain ⟨K, Ls, D, P, hP0, hPk, hp⟩ := id hok
  unfold wkP
  refine sX9_costOfPlan (by omega) hp ?_
  unfold wpX10_best
  refine ⟨66, ?_⟩
  refine b7 hn 65 66 0 mco mct (by omega) (by omega) (fun i u => by omega) (fun a0 b0 h0 => ?_)
  refine ⟨n + 1, b56 hC n (n + 1) a0 b0 mfk mfl mfd mgo mma (Nat.le_refl n) (by omega) ⟨fun p' q' u1 u2 u3 => ?_, fun p' q' u1 u2 u3 => by omega⟩ (fun a1 b1 x1 y1 z1 mgo1 mma1 hMA => ?_)⟩
  · have e : p' = n := by omega
    subst e
    obtain ⟨g1, g2⟩ := h0 q' (by omega)
    rw [g1, g2, hTab.1 q']
    exact ⟨nI_0.symm, nI_0.symm⟩
  · refine ⟨n + 1, ?_⟩
    refine bsM hC hMA n 0 0 0 mki mln mdi mst (by omega) (by omega) (Or.inl rfl) (Nat.le_refl 0) ?_
    rw [hr]
    unfold wkP
    refine sX10_sum (by omega) hp ?_
    exact ⟨fun _ => (hKB _ _ _ _ _ _ _ _ _ _ _ _ _ _ _ _ _ _ _ _ _ _ _ _ _ _ _ _ _ _ _ _ _ _ _ _ _ _ _ _ _ _ _ _ _ _ _ _ _ _ _ _ _ _ rfl ⟨hT, hSe, ⟨rfl, rfl, rfl, rfl, rfl, Or.inr ⟨rfl, rfl, r.1, n, hn, by omega, rfl, rfl, hok⟩⟩, hB, hR⟩), fun q => absurd rfl q⟩

