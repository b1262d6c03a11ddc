-- the best way: candidates, their weights, and the table of the least ones
def agm (t : Nat → Int32) (n gr p q : Nat) : Nat := if 1 ≤ q ∧ q ≤ p then al t n gr p q else 0
theorem agm_le (t : Nat → Int32) (n gr p q : Nat) : agm t n gr p q ≤ gr ∧ agm t n gr p q ≤ n - p := by
  have := al_le t n gr p q
  unfold agm
  split <;> omega
/-- which MATCH can stand at a place -/
def VM (t : Nat → Int32) (n w le gr p l d : Nat) : Prop := (1 ≤ d ∧ d ≤ min p w) ∧ (le ≤ l ∧ l ≤ al t n gr p d)
def Cand (t : Nat → Int32) (n w le gr p q k l d : Nat) : Prop := (k = 0 ∧ l = 1 ∧ d = 0) ∨ (k = 1 ∧ VM t n w le gr p l d) ∨ (k = 2 ∧ d = q ∧ (1 ≤ l ∧ l ≤ agm t n gr p q))
def wgt (W : Nat → Nat → Nat) (pr p q k l d : Nat) : Nat := (tbn k l d + pr) * 128 + 1 + W (p + l) (if k = 0 then q else d)
def rk (W : Nat → Nat → Nat) (pr p q k l d : Nat) : Nat := wgt W pr p q k l d * 1000000 + (k * 100000 + (64 - l) * 100 + d)
def Best (t : Nat → Int32) (n w le gr pr : Nat) (W : Nat → Nat → Nat) (p q k l d : Nat) : Prop := Cand t n w le gr p q k l d ∧ W p q = wgt W pr p q k l d ∧ ∀ k' l' d', Cand t n w le gr p q k' l' d' → rk W pr p q k l d ≤ rk W pr p q k' l' d'
def Tab (t : Nat → Int32) (n w le gr pr : Nat) (W : Nat → Nat → Nat) (st : Nat → Nat → Nat × Nat × Nat) : Prop := (∀ q, W n q = 0) ∧ ∀ p q, p < n → q ≤ 64 → Best t n w le gr pr W p q (st p q).1 (st p q).2.1 (st p q).2.2
theorem vm_b {t : Nat → Int32} {n w le gr p l d : Nat} (hn : n ≤ 64) (hp : p < n) (hw : w ≤ 64) (hl : 2 ≤ le) (hg : gr ≤ 64) (h : VM t n w le gr p l d) : (2 ≤ l ∧ l ≤ 64 ∧ p + l ≤ n) ∧ (1 ≤ d ∧ d ≤ 64 ∧ d ≤ p ∧ d ≤ w) := by
  have := al_le t n gr p d
  obtain ⟨h1, h2⟩ := h
  omega
theorem cand_b {t : Nat → Int32} {n w le gr p q k l d : Nat} (hn : n ≤ 64) (hp : p < n) (hw : w ≤ 64) (hl : 2 ≤ le) (hg : gr ≤ 64) (hq : q ≤ 64) (h : Cand t n w le gr p q k l d) : k ≤ 2 ∧ 1 ≤ l ∧ l ≤ 64 ∧ p + l ≤ n ∧ d ≤ 64 := by
  rcases h with ⟨h1, h2, h3⟩ | ⟨h1, h2⟩ | ⟨h1, h2, h3⟩
  · omega
  · have := vm_b hn hp hw hl hg h2
    omega
  · have := agm_le t n gr p q
    omega
theorem cand_nx {t : Nat → Int32} {n w le gr p q k l d : Nat} (hn : n ≤ 64) (hp : p < n) (hw : w ≤ 64) (hl : 2 ≤ le) (hg : gr ≤ 64) (hR : Rq w p q) (h : Cand t n w le gr p q k l d) : Rq w (p + l) (if k = 0 then q else d) := by
  rcases h with ⟨h1, h2, h3⟩ | ⟨h1, h2⟩ | ⟨h1, h2, h3⟩
  · rw [if_pos h1]
    exact Rq_mono hR (by omega)
  · rw [if_neg (by omega)]
    have := vm_b hn hp hw hl hg h2
    exact Or.inr (by omega)
  · rw [if_neg (by omega), h2]
    exact Rq_mono hR (by omega)
theorem cand_tok {t : Nat → Int32} {n w le gr p q k l d : Nat} (hn : n ≤ 64) (hp : p < n) (hw : w ≤ 64) (hl : 2 ≤ le) (hg : gr ≤ 64) (hq : q ≤ 64) (h : Cand t n w le gr p q k l d) : tokOK k l d := by
  rcases h with ⟨h1, h2, h3⟩ | ⟨h1, h2⟩ | ⟨h1, h2, h3⟩
  · exact Or.inl ⟨h1, h2, h3⟩
  · have := vm_b hn hp hw hl hg h2
    exact Or.inr (Or.inl ⟨h1, by omega, by omega⟩)
  · have := agm_le t n gr p q
    have hq0 : 1 ≤ q := by
      rcases Nat.eq_zero_or_pos q with z | z
      · exfalso
        unfold agm at h3
        rw [if_neg (by omega)] at h3
        omega
      · exact z
    exact Or.inr (Or.inr ⟨h1, by omega, by omega⟩)
/-- the least of all candidates -/
theorem least_cand {t : Nat → Int32} {n w le gr pr : Nat} (W : Nat → Nat → Nat) (p q : Nat) : ∃ s : Nat × Nat × Nat, Cand t n w le gr p q s.1 s.2.1 s.2.2 ∧ ∀ k' l' d', Cand t n w le gr p q k' l' d' → rk W pr p q s.1 s.2.1 s.2.2 ≤ rk W pr p q k' l' d' := by
  obtain ⟨r, ⟨k, l, d, hc, hr⟩, hmin⟩ := pk_least (fun r => ∃ k l d, Cand t n w le gr p q k l d ∧ rk W pr p q k l d = r) ⟨_, 0, 1, 0, Or.inl ⟨rfl, rfl, rfl⟩, rfl⟩
  refine ⟨(k, l, d), hc, fun k' l' d' hc' => ?_⟩
  show rk W pr p q k l d ≤ rk W pr p q k' l' d'
  rw [hr]
  rcases Nat.lt_or_ge (rk W pr p q k' l' d') r with z | z
  · exact absurd ⟨k', l', d', hc', rfl⟩ (hmin _ z)
  · exact z
theorem tab_ex {t : Nat → Int32} {n w le gr pr : Nat} (hn : n ≤ 64) (hw : w ≤ 64) (hl : 2 ≤ le) (hg : gr ≤ 64) : ∀ j, j ≤ n → ∃ (W : Nat → Nat → Nat) (st : Nat → Nat → Nat × Nat × Nat), (∀ q, W n q = 0) ∧ ∀ p q, n - j ≤ p → p < n → q ≤ 64 → Best t n w le gr pr W p q (st p q).1 (st p q).2.1 (st p q).2.2
  | 0, _ => ⟨fun _ _ => 0, fun _ _ => (0, 1, 0), fun _ => rfl, fun p q h1 h2 => by omega⟩
  | j + 1, hj => by
    obtain ⟨W, st, h0, h⟩ := tab_ex (t := t) (pr := pr) hn hw hl hg j (by omega)
    obtain ⟨g, hG⟩ := Classical.axiomOfChoice (fun q => least_cand (t := t) (n := n) (w := w) (le := le) (gr := gr) (pr := pr) W (n - (j + 1)) q)
    have ew : ∀ p q k l d, n - (j + 1) ≤ p → 1 ≤ l → wgt (fun p q => if p = n - (j + 1) then wgt W pr (n - (j + 1)) q (g q).1 (g q).2.1 (g q).2.2 else W p q) pr p q k l d = wgt W pr p q k l d := by
      intro p q k l d hp hl1
      show (tbn k l d + pr) * 128 + 1 + (if p + l = n - (j + 1) then _ else W (p + l) (if k = 0 then q else d)) = (tbn k l d + pr) * 128 + 1 + W (p + l) (if k = 0 then q else d)
      rw [if_neg (show ¬ p + l = n - (j + 1) by omega)]
    have er : ∀ p q k l d, n - (j + 1) ≤ p → 1 ≤ l → rk (fun p q => if p = n - (j + 1) then wgt W pr (n - (j + 1)) q (g q).1 (g q).2.1 (g q).2.2 else W p q) pr p q k l d = rk W pr p q k l d := by
      intro p q k l d hp hl1
      unfold rk
      rw [ew p q k l d hp hl1]
    refine ⟨fun p q => if p = n - (j + 1) then wgt W pr (n - (j + 1)) q (g q).1 (g q).2.1 (g q).2.2 else W p q, fun p q => if p = n - (j + 1) then g q else st p q, fun q => ?_, fun p q h1 h2 hq => ?_⟩
    · show (if n = n - (j + 1) then _ else W n q) = 0
      rw [if_neg (by omega)]
      exact h0 q
    · by_cases c : p = n - (j + 1)
      · subst c
        show Best t n w le gr pr _ (n - (j + 1)) q (if n - (j + 1) = n - (j + 1) then g q else st (n - (j + 1)) q).1 (if n - (j + 1) = n - (j + 1) then g q else st (n - (j + 1)) q).2.1 (if n - (j + 1) = n - (j + 1) then g q else st (n - (j + 1)) q).2.2
        rw [if_pos rfl]
        obtain ⟨g1, g2⟩ := hG q
        have b1 := cand_b hn h2 hw hl hg hq g1
        refine ⟨g1, ?_, fun k' l' d' hc' => ?_⟩
        · rw [ew _ _ _ _ _ (Nat.le_refl _) b1.2.1]
          show (if n - (j + 1) = n - (j + 1) then wgt W pr (n - (j + 1)) q (g q).1 (g q).2.1 (g q).2.2 else W (n - (j + 1)) q) = _
          rw [if_pos rfl]
        · have b2 := cand_b hn h2 hw hl hg hq hc'
          rw [er _ _ _ _ _ (Nat.le_refl _) b1.2.1, er _ _ _ _ _ (Nat.le_refl _) b2.2.1]
          exact g2 k' l' d' hc'
      · show Best t n w le gr pr _ p q (if p = n - (j + 1) then g q else st p q).1 (if p = n - (j + 1) then g q else st p q).2.1 (if p = n - (j + 1) then g q else st p q).2.2
        rw [if_neg c]
        obtain ⟨g1, g2, g3⟩ := h p q (by omega) h2 hq
        have b1 := cand_b hn h2 hw hl hg hq g1
        refine ⟨g1, ?_, fun k' l' d' hc' => ?_⟩
        · rw [ew _ _ _ _ _ h1 b1.2.1]
          show (if p = n - (j + 1) then wgt W pr (n - (j + 1)) q (g q).1 (g q).2.1 (g q).2.2 else W p q) = _
          rw [if_neg c]
          exact g2
        · have b2 := cand_b hn h2 hw hl hg hq hc'
          rw [er _ _ _ _ _ h1 b1.2.1, er _ _ _ _ _ h1 b2.2.1]
          exact g3 k' l' d' hc'
theorem tab_all {t : Nat → Int32} {n w le gr pr : Nat} (hn : n ≤ 64) (hw : w ≤ 64) (hl : 2 ≤ le) (hg : gr ≤ 64) : ∃ (W : Nat → Nat → Nat) (st : Nat → Nat → Nat × Nat × Nat), Tab t n w le gr pr W st := by
  obtain ⟨W, st, h0, h⟩ := tab_ex (t := t) (pr := pr) hn hw hl hg n (Nat.le_refl n)
  exact ⟨W, st, h0, fun p q hp hq => h p q (by omega) hp hq⟩
/-- what ranks tell -/
theorem rk_le {W : Nat → Nat → Nat} {pr p q k l d k' l' d' : Nat} (h : rk W pr p q k l d ≤ rk W pr p q k' l' d') (h1 : k ≤ 2 ∧ 1 ≤ l ∧ l ≤ 64 ∧ d ≤ 64) (h2 : k' ≤ 2 ∧ 1 ≤ l' ∧ l' ≤ 64 ∧ d' ≤ 64) : wgt W pr p q k l d < wgt W pr p q k' l' d' ∨ (wgt W pr p q k l d = wgt W pr p q k' l' d' ∧ (k < k' ∨ (k = k' ∧ (l' < l ∨ (l' = l ∧ d ≤ d'))))) := by
  unfold rk at h
  omega
theorem rk_of {W : Nat → Nat → Nat} {pr p q k l d k' l' d' : Nat} (h1 : k ≤ 2 ∧ 1 ≤ l ∧ l ≤ 64 ∧ d ≤ 64) (h2 : k' ≤ 2 ∧ 1 ≤ l' ∧ l' ≤ 64 ∧ d' ≤ 64) (h : wgt W pr p q k l d < wgt W pr p q k' l' d' ∨ (wgt W pr p q k l d = wgt W pr p q k' l' d' ∧ (k < k' ∨ (k = k' ∧ (l' < l ∨ (l' = l ∧ d ≤ d')))))) : rk W pr p q k l d ≤ rk W pr p q k' l' d' := by
  unfold rk
  omega
theorem tbn_32 (k l d : Nat) : tbn k l d ≤ 32 := by
  have h1 := wdt_le d
  have h2 := wdt_le (l - 1)
  have h3 := wdt_le l
  unfold tbn
  (repeat' split) <;> omega
theorem tab_b {t : Nat → Int32} {n w le gr pr : Nat} {W : Nat → Nat → Nat} {st : Nat → Nat → Nat × Nat × Nat} (hn : n ≤ 64) (hw : w ≤ 64) (hl : 2 ≤ le) (hg : gr ≤ 64) (hpr : pr ≤ 30) (hT : Tab t n w le gr pr W st) : ∀ (j p q : Nat), n - p ≤ j → p ≤ n → q ≤ 64 → W p q ≤ 5000 * (n - p) ∧ W p q % 128 ≤ n - p
  | 0, p, q, h1, h2, hq => by
    have : p = n := by omega
    subst this
    rw [hT.1 q]
    omega
  | j + 1, p, q, h1, h2, hq => by
    rcases Nat.lt_or_ge p n with c | c
    · obtain ⟨g1, g2, g3⟩ := hT.2 p q c hq
      have b1 := cand_b hn c hw hl hg hq g1
      have c0 : Cand t n w le gr p q 0 1 0 := Or.inl ⟨rfl, rfl, rfl⟩
      have r0 := rk_le (g3 0 1 0 c0) (by omega) (by omega)
      have e0 : wgt W pr p q 0 1 0 = (9 + pr) * 128 + 1 + W (p + 1) q := rfl
      have i0 := tab_b hn hw hl hg hpr hT j (p + 1) q (by omega) (by omega) hq
      have i1 := tab_b hn hw hl hg hpr hT j (p + (st p q).2.1) (if (st p q).1 = 0 then q else (st p q).2.2) (by omega) (by omega) (by split <;> omega)
      refine ⟨by omega, ?_⟩
      rw [g2]
      unfold wgt
      omega
    · have : p = n := by omega
      subst this
      rw [hT.1 q]
      omega
theorem tab_m {t : Nat → Int32} {n w le gr pr : Nat} {W : Nat → Nat → Nat} {st : Nat → Nat → Nat × Nat × Nat} (hn : n ≤ 64) (hw : w ≤ 64) (hl : 2 ≤ le) (hg : gr ≤ 64) (hpr : pr ≤ 30) (hT : Tab t n w le gr pr W st) {p q : Nat} (hp : p ≤ n) (hq : q ≤ 64) : W p q ≤ 320000 ∧ W p q % 128 ≤ 64 := by
  have := tab_b hn hw hl hg hpr hT (n - p) p q (Nat.le_refl _) hp hq
  omega
theorem wgt_m {t : Nat → Int32} {n w le gr pr : Nat} {W : Nat → Nat → Nat} {st : Nat → Nat → Nat × Nat × Nat} (hn : n ≤ 64) (hw : w ≤ 64) (hl : 2 ≤ le) (hg : gr ≤ 64) (hpr : pr ≤ 30) (hT : Tab t n w le gr pr W st) {p q k l d : Nat} (hp : p + l ≤ n) (hq : q ≤ 64) (hd : d ≤ 64) : wgt W pr p q k l d ≤ 400000 ∧ wgt W pr p q k l d = 128 * (tbn k l d + pr + W (p + l) (if k = 0 then q else d) / 128) + (1 + W (p + l) (if k = 0 then q else d) % 128) ∧ 1 + W (p + l) (if k = 0 then q else d) % 128 < 128 := by
  have h1 := tab_m hn hw hl hg hpr hT hp (q := if k = 0 then q else d) (by split <;> omega)
  have h2 := tbn_32 k l d
  unfold wgt
  omega
theorem tab_step {t : Nat → Int32} {n w le gr pr : Nat} {W : Nat → Nat → Nat} {st : Nat → Nat → Nat × Nat × Nat} (hn : n ≤ 64) (hw : w ≤ 64) (hl : 2 ≤ le) (hg : gr ≤ 64) (hT : Tab t n w le gr pr W st) : StepOK st n w := by
  intro p q hp hR
  have hq := Rq_le hR hw
  obtain ⟨g1, g2, g3⟩ := hT.2 p q hp hq
  exact ⟨cand_tok hn hp hw hl hg hq g1, (cand_b hn hp hw hl hg hq g1).2.2.2.1, cand_nx hn hp hw hl hg hR g1⟩
/-- there is one best token -/
theorem best_is {t : Nat → Int32} {n w le gr pr : Nat} {W : Nat → Nat → Nat} {st : Nat → Nat → Nat × Nat × Nat} (hn : n ≤ 64) (hw : w ≤ 64) (hl : 2 ≤ le) (hg : gr ≤ 64) (hT : Tab t n w le gr pr W st) {p q k l d : Nat} (hp : p < n) (hq : q ≤ 64) (hc : Cand t n w le gr p q k l d) (h : rk W pr p q k l d ≤ rk W pr p q (st p q).1 (st p q).2.1 (st p q).2.2) : st p q = (k, l, d) ∧ W p q = wgt W pr p q k l d := by
  obtain ⟨g1, g2, g3⟩ := hT.2 p q hp hq
  have b1 := cand_b hn hp hw hl hg hq g1
  have b2 := cand_b hn hp hw hl hg hq hc
  have r1 := rk_le h (by omega) (by omega)
  have r2 := rk_le (g3 k l d hc) (by omega) (by omega)
  generalize hs : st p q = s at *
  obtain ⟨x, y, z⟩ := s
  have e1 : x = k := by
    have u1 : x ≤ 2 := b1.1
    revert r1 r2
    show _ → _ → x = k
    intro r1 r2
    rcases r1 with r1 | ⟨r1, r1'⟩ <;> rcases r2 with r2 | ⟨r2, r2'⟩ <;> simp only at * <;> omega
  have e2 : y = l := by
    rcases r1 with r1 | ⟨r1, r1'⟩ <;> rcases r2 with r2 | ⟨r2, r2'⟩ <;> simp only at * <;> omega
  have e3 : z = d := by
    rcases r1 with r1 | ⟨r1, r1'⟩ <;> rcases r2 with r2 | ⟨r2, r2'⟩ <;> simp only at * <;> omega
  subst e1 e2 e3
  exact ⟨rfl, g2⟩

