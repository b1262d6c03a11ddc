theorem ix65 (p q : Nat) : nI p * 65 + nI q = nI (p * 65 + q) := by rw [show (65 : Int32) = nI 65 from rfl, pk_mul, nI_add]
theorem ws10 {n : Nat} {K : (Nat → Int32) → (Nat → Int32) → Prop} (hn : n ≤ 64) : ∀ (k fuel q : Nat) (ww wr : Nat → Int32), q + k = 65 → k < fuel → (∀ i, i < q → ww (n * 65 + i) = 0 ∧ wr i = 0) → (∀ ww' wr', (∀ i, i < 65 → ww' (n * 65 + i) = 0 ∧ wr' i = 0) → K ww' wr') → wpX0_weighStates_10 (nI n) K fuel (nI q) ww wr := by
  intro k
  induction k with
  | zero =>
    intro fuel q ww wr hq hf hi h
    obtain ⟨f, rfl⟩ : ∃ f, fuel = f + 1 := ⟨fuel - 1, by omega⟩
    rw [wpX0_weighStates_10]
    have : q = 65 := by omega
    subst this
    exact br_t (by decide) (h ww wr hi)
  | succ k ih =>
    intro fuel q ww wr hq hf hi h
    obtain ⟨f, rfl⟩ : ∃ f, fuel = f + 1 := ⟨fuel - 1, by omega⟩
    rw [wpX0_weighStates_10, ix65, nI_clamp (by omega), nI_clamp (by omega), nI_1]
    refine br_f (nI_ge (a := q) (b := 65) (by omega) (by decide)) ⟨vp_in_nI (by omega) (by decide), vp_in_nI (by omega) (by decide), ?_⟩
    refine ih f (q + 1) _ _ (by omega) (by omega) (fun i u => ?_) h
    rcases Nat.lt_or_ge i q with z | z
    · rw [pk_un (by omega), pk_un (by omega)]
      exact hi i z
    · have : i = q := by omega
      subst this
      exact ⟨pk_us, pk_us⟩
theorem ws76 {t : Nat → Int32} {n w le gr pr : Nat} {W : Nat → Nat → Nat} {st : Nat → Nat → Nat × Nat × Nat} (hC : Ctx t n w le gr pr W st) {p : Nat} {wr wm : Nat → Int32} {b c : Int32} {K : (Nat → Int32) → Prop} (hp : p < n) (hr : ∀ q, Rq w p q → wr q = nI (if q = 0 then 0 else rl t n p q)) (hM : MB W pr p (VM t n w le gr p) (wm p) b c) : ∀ (k fuel q : Nat) (ww : Nat → Int32), q + k = min p w + 1 → k < fuel → (∀ p' q', p < p' → p' ≤ n → Rq w p' q' → ww (p' * 65 + q') = nI (W p' q')) → (∀ q', q' < q → ww (p * 65 + q') = nI (W p q')) → (∀ ww', (∀ p' q', p ≤ p' → p' ≤ n → Rq w p' q' → ww' (p' * 65 + q') = nI (W p' q')) → K ww') → wpX0_weighStates_76 (nI p) (nI (min p w)) (nI gr) (nI pr) wr wm K fuel (nI q) ww := by
  obtain ⟨hn, hw, hl, hg, hpr, hT⟩ := id hC
  intro k
  induction k with
  | zero =>
    intro fuel q ww hq hf he hd h
    obtain ⟨f, rfl⟩ : ∃ f, fuel = f + 1 := ⟨fuel - 1, by omega⟩
    rw [wpX0_weighStates_76]
    refine br_t (nI_lt (by omega) (by omega)) (h ww (fun p' q' u1 u2 u3 => ?_))
    rcases Nat.lt_or_ge p p' with z | z
    · exact he p' q' z u2 u3
    · have : p' = p := by omega
      subst this
      exact hd q' (by rcases u3 with y | y <;> omega)
  | succ k ih =>
    intro fuel q ww hq hf he hd h
    obtain ⟨f, rfl⟩ : ∃ f, fuel = f + 1 := ⟨fuel - 1, by omega⟩
    have hR : Rq w p q := by
      rcases Nat.eq_zero_or_pos q with z | z
      · exact Or.inl z
      · exact Or.inr (by omega)
    rw [wpX0_weighStates_76]
    refine br_f (nI_nlt (by omega) (by omega)) (ltX hC hp hR (fun l u1 u2 => he (p + l) q (by omega) u2 (Rq_mono hR (by omega))) (hr q hR) hM ?_)
    rw [ix65, nI_clamp (by omega), nI_1]
    refine ⟨vp_in_nI (by omega) (by decide), ih f (q + 1) _ (by omega) (by omega) (fun p' q' u1 u2 u3 => ?_) (fun q' u => ?_) h⟩
    · have := Rq_le u3 hw
      rw [pk_un (by omega)]
      exact he p' q' u1 u2 u3
    · rcases Nat.lt_or_ge q' q with z | z
      · rw [pk_un (by omega)]
        exact hd q' z
      · have : q' = q := by omega
        subst this
        exact pk_us
def XW (n w : Nat) (W : Nat → Nat → Nat) (j : Nat) (ww : Nat → Int32) : Prop := ∀ p' q', j ≤ p' → p' ≤ n → Rq w p' q' → ww (p' * 65 + q') = nI (W p' q')
def XR (t : Nat → Int32) (n w j : Nat) (wr : Nat → Int32) : Prop := wr 0 = 0 ∧ ∀ d, 1 ≤ d → d ≤ j → d ≤ w → wr d = nI (rl t n j d)
def XM (t : Nat → Int32) (n w le gr pr : Nat) (W : Nat → Nat → Nat) (j : Nat) (wm wl wd : Nat → Int32) : Prop := ∀ p', j ≤ p' → p' < n → MB W pr p' (VM t n w le gr p') (wm p') (wl p') (wd p')
theorem ws45 {t : Nat → Int32} {n w le gr pr : Nat} {W : Nat → Nat → Nat} {st : Nat → Nat → Nat × Nat × Nat} (hC : Ctx t n w le gr pr W st) {K : (Nat → Int32) → (Nat → Int32) → (Nat → Int32) → (Nat → Int32) → (Nat → Int32) → Prop} : ∀ (j fuel : Nat) (ww wr wm wl wd : Nat → Int32), j ≤ n → j < fuel → XW n w W j ww → XR t n w j wr → XM t n w le gr pr W j wm wl wd → (∀ ww wr wm wl wd, XW n w W 0 ww → XM t n w le gr pr W 0 wm wl wd → K ww wr wm wl wd) → wpX0_weighStates_45 t (nI w) (nI le) (nI gr) (nI pr) K fuel (nI j - 1) ww wr wm wl wd := by
  obtain ⟨hn, hw, hl, hg, hpr, hT⟩ := id hC
  intro j
  induction j with
  | zero =>
    intro fuel ww wr wm wl wd hj hf h1 h2 h3 h
    obtain ⟨f, rfl⟩ : ∃ f, fuel = f + 1 := ⟨fuel - 1, by omega⟩
    rw [wpX0_weighStates_45]
    exact br_t i_neg (h ww wr wm wl wd h1 h3)
  | succ j ih =>
    intro fuel ww wr wm wl wd hj hf h1 h2 h3 h
    obtain ⟨f, rfl⟩ : ∃ f, fuel = f + 1 := ⟨fuel - 1, by omega⟩
    rw [wpX0_weighStates_45, nI_pred, i_min _ _ (by omega) (by omega)]
    refine br_f (nI_pos (by omega)) ?_
    unfold wpX0_growRuns
    refine ⟨min j w + 1, sX0_growRuns hn (by omega) (F := min j w) (by omega) (min j w) _ 1 wr (by omega) (by omega) (by omega) (fun d' u1 u2 => h2.2 d' u1 (by omega) (by omega)) (fun wr' g1 g2 => ?_)⟩
    refine sX0_weighMatches hC (by omega) (fun l d hv => ?_) (fun d u1 u2 => g2 d u1 u2) (fun wm' wl' wd' hfr hM => ?_)
    · have b := vm_b hn (by omega) hw hl.1 hg hv
      exact h1 (j + l) d (by omega) (by omega) (Or.inr (by omega))
    · refine ⟨min j w + 2, ws76 hC (by omega) (fun q hR => ?_) hM (min j w + 1) _ 0 ww (by omega) (by omega) (fun p' q' u1 u2 u3 => h1 p' q' (by omega) u2 u3) (fun q' u => by omega) (fun ww' hw' => ?_)⟩
      · rcases hR with z | z
        · rw [z, if_pos rfl, g1 0 (by omega), h2.1]
          exact nI_0.symm
        · rw [if_neg (by omega)]
          exact g2 q (by omega) (by omega)
      · rw [i_m1]
        refine ih f ww' wr' wm' wl' wd' (by omega) (by omega) hw' ⟨?_, fun d u1 u2 u3 => g2 d u1 (by omega)⟩ (fun p' u1 u2 => ?_) h
        · rw [g1 0 (by omega)]
          exact h2.1
        · rcases Nat.lt_or_ge j p' with z | z
          · obtain ⟨x1, x2, x3⟩ := hfr p' (by omega)
            rw [x1, x2, x3]
            exact h3 p' (by omega) u2
          · have : p' = j := by omega
            subst this
            exact hM
theorem sX0_weighStates {t : Nat → Int32} {n w le gr pr : Nat} {W : Nat → Nat → Nat} {st : Nat → Nat → Nat × Nat × Nat} (hC : Ctx t n w le gr pr W st) {ww wr wm wl wd : Nat → Int32} {post : (Nat → Int32) → (Nat → Int32) → (Nat → Int32) → (Nat → Int32) → (Nat → Int32) → Prop} (h : ∀ ww wr wm wl wd, XW n w W 0 ww → XM t n w le gr pr W 0 wm wl wd → post ww wr wm wl wd) : wpX0_weighStates (nI n) t (nI w) (nI le) (nI gr) (nI pr) ww wr wm wl wd post := by
  obtain ⟨hn, hw, hl, hg, hpr, hT⟩ := id hC
  unfold wpX0_weighStates
  refine ⟨66, ws10 hn 65 66 0 ww wr (by omega) (by omega) (fun i u => by omega) (fun ww' wr' h0 => ?_)⟩
  refine ⟨n + 1, ws45 hC n (n + 1) ww' wr' wm wl wd (Nat.le_refl n) (by omega) (fun p' q' u1 u2 u3 => ?_) ⟨(h0 0 (by omega)).2, fun d u1 u2 u3 => ?_⟩ (fun p' u1 u2 => by omega) h⟩
  · have : p' = n := by omega
    subst this
    have := Rq_le u3 hw
    rw [(h0 q' (by omega)).1, hT.1 q']
    exact nI_0.symm
  · rw [(h0 d (by omega)).2, rl_ge (Nat.le_refl n)]
    exact nI_0.symm
-- which token it is
theorem st_lit {t : Nat → Int32} {n w le gr pr : Nat} {W : Nat → Nat → Nat} {st : Nat → Nat → Nat × Nat × Nat} (hC : Ctx t n w le gr pr W st) {p q : Nat} (hp : p < n) (hq : q ≤ 64) (e : W p q = wgt W pr p q 0 1 0) : st p q = (0, 1, 0) := by
  obtain ⟨hn, hw, hl, hg, hpr, hT⟩ := id hC
  obtain ⟨g1, g2, g3⟩ := hT.2 p q hp hq
  have b1 := cand_b hn hp hw hl.1 hg hq g1
  refine (best_is hn hw hl.1 hg hT hp hq (Or.inl ⟨rfl, rfl, rfl⟩) (rk_of (by omega) (by omega) (Or.inr ⟨by omega, ?_⟩))).1
  rcases g1 with ⟨a1, a2, a3⟩ | ⟨a1, a2⟩ | ⟨a1, a2, a3⟩
  · right
    omega
  · left
    omega
  · left
    omega
theorem st_mat {t : Nat → Int32} {n w le gr pr : Nat} {W : Nat → Nat → Nat} {st : Nat → Nat → Nat × Nat × Nat} (hC : Ctx t n w le gr pr W st) {p q l d : Nat} (hp : p < n) (hq : q ≤ 64) (e0 : W p q ≠ wgt W pr p q 0 1 0) (hv : VM t n w le gr p l d) (hm : ∀ l' d', VM t n w le gr p l' d' → rk W pr p 0 1 l d ≤ rk W pr p 0 1 l' d') (e : W p q = wgt W pr p 0 1 l d) : st p q = (1, l, d) := by
  obtain ⟨hn, hw, hl, hg, hpr, hT⟩ := id hC
  obtain ⟨g1, g2, g3⟩ := hT.2 p q hp hq
  have b1 := cand_b hn hp hw hl.1 hg hq g1
  have b2 := vm_b hn hp hw hl.1 hg hv
  refine (best_is hn hw hl.1 hg hT hp hq (Or.inr (Or.inl ⟨rfl, hv⟩)) ?_).1
  rcases g1 with ⟨a1, a2, a3⟩ | ⟨a1, a2⟩ | ⟨a1, a2, a3⟩
  · rw [a1, a2, a3] at g2
    exact absurd g2 e0
  · rw [a1]
    exact hm _ _ a2
  · refine rk_of (by omega) (by omega) (Or.inr ⟨?_, by omega⟩)
    rw [← g2, e]
    rfl
theorem st_aga {t : Nat → Int32} {n w le gr pr : Nat} {W : Nat → Nat → Nat} {st : Nat → Nat → Nat × Nat × Nat} (hC : Ctx t n w le gr pr W st) {p q bl : Nat} {v : Int32} (hp : p < n) (hq : q ≤ 64) (e0 : W p q ≠ wgt W pr p q 0 1 0) (e1 : ∀ l d, VM t n w le gr p l d → W p q < wgt W pr p 0 1 l d) (hB : AB W pr p q (agm t n gr p q) bl v) : st p q = (2, bl, q) ∧ 1 ≤ bl ∧ bl ≤ agm t n gr p q := by
  obtain ⟨hn, hw, hl, hg, hpr, hT⟩ := id hC
  obtain ⟨g1, g2, g3⟩ := hT.2 p q hp hq
  have b1 := cand_b hn hp hw hl.1 hg hq g1
  rcases g1 with ⟨a1, a2, a3⟩ | ⟨a1, a2⟩ | ⟨a1, a2, a3⟩
  · rw [a1, a2, a3] at g2
    exact absurd g2 e0
  · have := e1 _ _ a2
    rw [a1] at g2
    rw [show wgt W pr p q 1 (st p q).2.1 (st p q).2.2 = wgt W pr p 0 1 (st p q).2.1 (st p q).2.2 from rfl] at g2
    omega
  · rcases hB with ⟨h1, h2, -⟩ | ⟨h1, -, h2⟩
    · omega
    · have ba := agm_le t n gr p q
      have hc : Cand t n w le gr p q 2 bl q := Or.inr (Or.inr ⟨rfl, rfl, h1⟩)
      have t2 := tab_le hC hp hq hc
      have h3 := h2 (st p q).2.1 a3.1 a3.2
      rw [a1, a2] at g2
      refine ⟨(best_is hn hw hl.1 hg hT hp hq hc ?_).1, h1⟩
      rw [a1, a2]
      exact rk_of (by omega) (by omega) (by omega)
theorem bsX {t : Nat → Int32} {n w le gr pr : Nat} {W : Nat → Nat → Nat} {st : Nat → Nat → Nat × Nat × Nat} (hC : Ctx t n w le gr pr W st) {ww wm wl wd : Nat → Int32} (hXW : XW n w W 0 ww) (hXM : XM t n w le gr pr W 0 wm wl wd) {K : Int32 → (Nat → Int32) → (Nat → Int32) → (Nat → Int32) → (Nat → Int32) → Prop} : ∀ (f p q k : Nat) (a b c d : Nat → Int32), n - p ≤ f → p ≤ n → Rq w p q → k ≤ p → wkP K (wk st n f p q k a b c d) → wpX0_choose_11 (nI n) t (nI gr) (nI pr) ww wm wl wd K (f + 1) (nI p) (nI q) (nI k) (nI k) a b c d := by
  obtain ⟨hn, hw, hl, hg, hpr, hT⟩ := id hC
  intro f
  induction f with
  | zero =>
    intro p q k a b c d hf hp hR hk h
    rw [wpX0_choose_11]
    exact pk_le 64 k (fun _ => h) (fun _ => pk_le n p (fun _ => h) (fun z => absurd z (by omega)))
  | succ f ih =>
    intro p q k a b c d hf hp hR hk h
    rw [wk] at h
    by_cases c1 : n ≤ p
    · rw [if_pos c1] at h
      rw [wpX0_choose_11]
      exact pk_le 64 k (fun _ => h) (fun _ => br_t (nI_le c1 (by omega)) h)
    · rw [if_neg c1] at h
      have hpn : p < n := by omega
      have hq := Rq_le hR hw
      obtain ⟨h1, h2, h3⟩ := tab_step hn hw hl.1 hg hT p q hpn hR
      have h4 := tok_pos h1
      have go := ih _ _ _ _ _ _ _ (by omega) h2 h3 (by omega) h
      have hk2 : k < 64 := by omega
      have bW := tab_m hn hw hl.1 hg hpr hT (p := p) (q := q) hp hq
      have w0 := wgt_m hn hw hl.1 hg hpr hT (p := p) (q := q) (k := 0) (l := 1) (d := 0) (by omega) hq (by omega)
      rw [wpX0_choose_11, ix65, nI_clamp (n := p * 65 + q) (by omega), hXW p q (Nat.zero_le p) hp hR]
      refine br_f (i_n64 hk2) (br_f (nI_ge (by omega) (by omega)) ⟨vp_in_nI (by omega) (by decide), ?_⟩)
      refine lwX (W := W) (by omega) hq (hXW (p + 1) q (Nat.zero_le _) (by omega) (Rq_mono hR (by omega))) ?_
      unfold wpX0_choose_141
      refine pk_eq (W p q) (wgt W pr p q 0 1 0) (fun e0 => ?_) (fun e0 => ⟨vp_in_nI (by omega) (by decide), ?_⟩)
      · rw [st_lit hC hpn hq e0] at go
        refine add_at hk2 ?_
        rw [nI_1, nI_1]
        exact go
      · have h3 : (∀ l d, VM t n w le gr p l d → W p q < wgt W pr p 0 1 l d) → wpX8_sameFrom (nI n) t (nI p) (nI q) (fun (r_10 : Int32) => wpX0_againLength (nI gr) (nI pr) ww (nI p) (nI q) r_10 (fun (r_11 : Int32) => wpX4_add (nI k) a b c d 2 r_11 (nI q) (nI p) (fun (pn_12 : Int32) (pk_13 : Nat → Int32) (pl_14 : Nat → Int32) (pd_15 : Nat → Int32) (ps_16 : Nat → Int32) => wpX0_choose_11 (nI n) t (nI gr) (nI pr) ww wm wl wd K (f + 1) (nI p + r_11) (nI q) (nI k + 1) pn_12 pk_13 pl_14 pd_15 ps_16))) := by
          intro e1
          have br := rl_le t n p q
          have hA : min (if 1 ≤ q ∧ q ≤ p then rl t n p q else 0) gr = agm t n gr p q := by
            unfold agm al
            split
            · rfl
            · omega
          have ba := agm_le t n gr p q
          have hr2 : (if 1 ≤ q ∧ q ≤ p then rl t n p q else 0) ≤ 64 := by split <;> omega
          refine sX8_sameFrom hn hp hq (sX0_againLength (W := W) hr2 hg (by rw [hA]; omega) hq (fun l u1 u2 => ?_) (fun l u1 u2 => ?_) (fun bl v hB => ?_))
          · rw [hA] at u2
            exact hXW (p + l) q (Nat.zero_le _) (by omega) (Rq_mono hR (by omega))
          · rw [hA] at u2
            exact (wgt_m hn hw hl.1 hg hpr hT (p := p) (q := q) (k := 2) (l := l) (d := q) (by omega) hq hq).1
          · rw [hA] at hB
            obtain ⟨s1, s2, s3⟩ := st_aga hC hpn hq e0 e1 hB
            rw [s1] at go
            refine add_at hk2 ?_
            rw [nI_1, nI_add]
            exact go
        rw [nI_clamp (n := p) (by omega)]
        rcases hXM p (Nat.zero_le p) hpn with ⟨m1, m2⟩ | ⟨l0, d0, m1, m2, m3, m4, m5⟩
        · rw [m1]
          have c2 : ¬ nI (W p q) = 1073741824 := fun z => by
            have := (nI_eq (b := 1073741824) (by omega) (by decide)).mp z
            omega
          exact br_f c2 (h3 (fun l d z => absurd z (m2 l d)))
        · rw [m2, m3, m4]
          have bv2 := vm_b hn hpn hw hl.1 hg m1
          have bw2 := wgt_m hn hw hl.1 hg hpr hT (p := p) (q := 0) (k := 1) (l := l0) (d := d0) (by omega) (by omega) (by omega)
          refine pk_eq (W p q) (wgt W pr p 0 1 l0 d0) (fun e2 => ?_) (fun e2 => h3 (fun l d z => ?_))
          · rw [st_mat hC hpn hq e0 m1 m5 e2] at go
            refine add_at hk2 ?_
            rw [nI_1, nI_add]
            exact go
          · have t1 := tab_le hC hpn hq (Or.inr (Or.inl ⟨rfl, m1⟩))
            rw [show wgt W pr p q 1 l0 d0 = wgt W pr p 0 1 l0 d0 from rfl] at t1
            have bv3 := vm_b hn hpn hw hl.1 hg z
            have := rk_le (m5 l d z) (by omega) (by omega)
            omega

