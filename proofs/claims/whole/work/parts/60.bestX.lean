-- the coder's best way
def Ctx (t : Nat → Int32) (n w le gr pr : Nat) (W : Nat → Nat → Nat) (st : Nat → Nat → Nat × Nat × Nat) : Prop := n ≤ 64 ∧ w ≤ 64 ∧ (2 ≤ le ∧ le ≤ 6) ∧ gr ≤ 64 ∧ pr ≤ 30 ∧ Tab t n w le gr pr W st
theorem lwX {W : Nat → Nat → Nat} {pr p q : Nat} {ww : Nat → Int32} {post : Int32 → Prop} (hp : p < 64) (hq : q ≤ 64) (e : ww ((p + 1) * 65 + q) = nI (W (p + 1) q)) (h : post (nI (wgt W pr p q 0 1 0))) : wpX0_literalWeight (nI pr) ww (nI p) (nI q) post := by
  unfold wpX0_literalWeight wpX0_tokenWeight
  show vp_in ((nI p + 1) * 65 + nI q) 4225 ∧ post ((((9 : Int32) + nI pr) * 128 + 1) + ww ((nI p + 1) * 65 + nI q).toNatClampNeg)
  have e1 : (nI p + 1) * 65 + nI q = nI ((p + 1) * 65 + q) := by rw [nI_1, show (65 : Int32) = nI 65 from rfl, pk_mul, nI_add]
  have e2 : ((9 : Int32) + nI pr) * 128 + 1 = nI ((9 + pr) * 128 + 1) := by rw [show (9 : Int32) = nI 9 from rfl, nI_add, show (128 : Int32) = nI 128 from rfl, pk_mul, nI_1]
  rw [e1, e2, nI_clamp (by omega), e, nI_add]
  exact ⟨vp_in_nI (by omega) (by decide), h⟩
theorem awX {W : Nat → Nat → Nat} {pr p q l : Nat} {ww : Nat → Int32} {post : Int32 → Prop} (hl : l ≤ 64) (hp : p + l ≤ 64) (hq : q ≤ 64) (e : ww ((p + l) * 65 + q) = nI (W (p + l) q)) (h : post (nI (wgt W pr p q 2 l q))) : wpX0_againWeight (nI pr) ww (nI p) (nI q) (nI l) post := by
  unfold wpX0_againWeight wpX0_tokenWeight
  refine sX2_againBits (by omega) ?_
  show vp_in ((nI p + nI l) * 65 + nI q) 4225 ∧ post (((nI (2 + wdt l) + nI pr) * 128 + 1) + ww ((nI p + nI l) * 65 + nI q).toNatClampNeg)
  have e1 : (nI p + nI l) * 65 + nI q = nI ((p + l) * 65 + q) := by rw [nI_add, show (65 : Int32) = nI 65 from rfl, pk_mul, nI_add]
  have e2 : (nI (2 + wdt l) + nI pr) * 128 + 1 = nI ((2 + wdt l + pr) * 128 + 1) := by rw [nI_add, show (128 : Int32) = nI 128 from rfl, pk_mul, nI_1]
  rw [e1, e2, nI_clamp (by omega), e, nI_add]
  exact ⟨vp_in_nI (by omega) (by decide), h⟩
/-- the best AGAIN among the lengths 1 to m -/
def AB (W : Nat → Nat → Nat) (pr p q m bl : Nat) (v : Int32) : Prop := (bl = 0 ∧ m = 0 ∧ v = 1073741824) ∨ ((1 ≤ bl ∧ bl ≤ m) ∧ v = nI (wgt W pr p q 2 bl q) ∧ ∀ l', 1 ≤ l' → l' ≤ m → wgt W pr p q 2 bl q < wgt W pr p q 2 l' q ∨ (wgt W pr p q 2 bl q = wgt W pr p q 2 l' q ∧ l' ≤ bl))
theorem alX {W : Nat → Nat → Nat} {pr p q A : Nat} {ww : Nat → Int32} {K : Int32 → Prop} (hA : p + A ≤ 64) (hq : q ≤ 64) (he : ∀ l, 1 ≤ l → l ≤ A → ww ((p + l) * 65 + q) = nI (W (p + l) q)) (hb : ∀ l, 1 ≤ l → l ≤ A → wgt W pr p q 2 l q ≤ 400000) : ∀ (k fuel l bl : Nat) (v : Int32), l + k = A + 1 → 1 ≤ l → k < fuel → AB W pr p q (l - 1) bl v → (∀ bl' v', AB W pr p q A bl' v' → K (nI bl')) → wpX0_againLength_23 (nI p) (nI q) (nI A) (nI pr) ww K fuel (nI bl) v (nI l) := by
  intro k
  induction k with
  | zero =>
    intro fuel l bl v hl h1 hf hB h
    obtain ⟨f, rfl⟩ : ∃ f, fuel = f + 1 := ⟨fuel - 1, by omega⟩
    rw [wpX0_againLength_23]
    rw [show l - 1 = A by omega] at hB
    exact br_t (nI_lt (by omega) (by omega)) (h bl v hB)
  | succ k ih =>
    intro fuel l bl v hl h1 hf hB h
    obtain ⟨f, rfl⟩ : ∃ f, fuel = f + 1 := ⟨fuel - 1, by omega⟩
    rw [wpX0_againLength_23]
    refine br_f (nI_nlt (by omega) (by omega)) (awX (W := W) (by omega) (by omega) hq (he l h1 (by omega)) ?_)
    unfold wpX0_againLength_55
    rw [nI_1]
    have b1 := hb l h1 (by omega)
    rcases hB with ⟨rfl, hm, rfl⟩ | ⟨hb1, rfl, hall⟩
    · refine br_f (nI_nlt (a := 1073741824) (by omega) (by decide)) ?_
      refine ih f (l + 1) l _ (by omega) (by omega) (by omega) (Or.inr ⟨by omega, rfl, fun l' u1 u2 => Or.inr ?_⟩) h
      have : l' = l := by omega
      subst this
      exact ⟨rfl, Nat.le_refl _⟩
    · have b2 := hb bl hb1.1 (by omega)
      refine pk_lt (wgt W pr p q 2 bl q) (wgt W pr p q 2 l q) (fun c => ?_) (fun c => ?_)
      · refine ih f (l + 1) bl _ (by omega) (by omega) (by omega) (Or.inr ⟨by omega, rfl, fun l' u1 u2 => ?_⟩) h
        rcases Nat.lt_or_ge l' l with z | z
        · exact hall l' u1 (by omega)
        · have : l' = l := by omega
          subst this
          exact Or.inl c
      · refine ih f (l + 1) l _ (by omega) (by omega) (by omega) (Or.inr ⟨by omega, rfl, fun l' u1 u2 => ?_⟩) h
        rcases Nat.lt_or_ge l' l with z | z
        · have := hall l' u1 (by omega)
          omega
        · have : l' = l := by omega
          subst this
          exact Or.inr ⟨rfl, Nat.le_refl _⟩
theorem sX0_againLength {W : Nat → Nat → Nat} {pr p q r gr : Nat} {ww : Nat → Int32} {post : Int32 → Prop} (hr : r ≤ 64) (hg : gr ≤ 64) (hA : p + min r gr ≤ 64) (hq : q ≤ 64) (he : ∀ l, 1 ≤ l → l ≤ min r gr → ww ((p + l) * 65 + q) = nI (W (p + l) q)) (hb : ∀ l, 1 ≤ l → l ≤ min r gr → wgt W pr p q 2 l q ≤ 400000) (h : ∀ bl' v', AB W pr p q (min r gr) bl' v' → post (nI bl')) : wpX0_againLength (nI gr) (nI pr) ww (nI p) (nI q) (nI r) post := by
  unfold wpX0_againLength
  rw [i_min _ _ (by omega) (by omega)]
  exact ⟨min r gr + 1, alX hA hq he hb (min r gr) _ 1 0 _ (by omega) (by omega) (by omega) (Or.inl ⟨rfl, rfl, rfl⟩) h⟩
/-- the best MATCH of a set -/
def MB (W : Nat → Nat → Nat) (pr p : Nat) (S : Nat → Nat → Prop) (a b c : Int32) : Prop := (a = 1073741824 ∧ ∀ l d, ¬ S l d) ∨ ∃ l d, S l d ∧ a = nI (wgt W pr p 0 1 l d) ∧ b = nI l ∧ c = nI d ∧ ∀ l' d', S l' d' → rk W pr p 0 1 l d ≤ rk W pr p 0 1 l' d'
theorem MB_congr {W : Nat → Nat → Nat} {pr p : Nat} {S S' : Nat → Nat → Prop} {a b c : Int32} (h : ∀ l d, S l d ↔ S' l d) (hM : MB W pr p S a b c) : MB W pr p S' a b c := by
  rcases hM with ⟨h1, h2⟩ | ⟨l, d, h1, h2, h3, h4, h5⟩
  · exact Or.inl ⟨h1, fun l d z => h2 l d ((h l d).mpr z)⟩
  · exact Or.inr ⟨l, d, (h l d).mp h1, h2, h3, h4, fun l' d' z => h5 l' d' ((h l' d').mpr z)⟩
theorem offX {t : Nat → Int32} {n w le gr pr : Nat} {W : Nat → Nat → Nat} {st : Nat → Nat → Nat × Nat × Nat} (hC : Ctx t n w le gr pr W st) {p l d : Nat} {S S' : Nat → Nat → Prop} {ww wm wl wd : Nat → Int32} {post : (Nat → Int32) → (Nat → Int32) → (Nat → Int32) → Prop} (hp : p < n) (hv : VM t n w le gr p l d) (e : ww ((p + l) * 65 + d) = nI (W (p + l) d)) (hS : ∀ l' d', S l' d' → VM t n w le gr p l' d' ∧ (d' < d ∨ (d' = d ∧ l' < l))) (hS' : ∀ l' d', S' l' d' ↔ (S l' d' ∨ (l' = l ∧ d' = d))) (hM : MB W pr p S (wm p) (wl p) (wd p)) (h : ∀ wm' wl' wd', (∀ i, i ≠ p → wm' i = wm i ∧ wl' i = wl i ∧ wd' i = wd i) → MB W pr p S' (wm' p) (wl' p) (wd' p) → post wm' wl' wd') : wpX0_offerMatch (nI pr) ww wm wl wd (nI p) (nI d) (nI l) post := by
  obtain ⟨hn, hw, hl, hg, hpr, hT⟩ := hC
  have bv1 := vm_b hn hp hw hl.1 hg hv
  have bw := wgt_m hn hw hl.1 hg hpr hT (p := p) (q := 0) (k := 1) (l := l) (d := d) (by omega) (by omega) (by omega)
  unfold wpX0_offerMatch wpX0_tokenWeight
  refine sX2_matchBits (by omega) (by omega) ?_
  have e1 : (nI p + nI l) * 65 + nI d = nI ((p + l) * 65 + d) := by rw [nI_add, show (65 : Int32) = nI 65 from rfl, pk_mul, nI_add]
  have e2 : (nI (2 + wdt d + wdt (l - 1)) + nI pr) * 128 + 1 = nI ((2 + wdt d + wdt (l - 1) + pr) * 128 + 1) := by rw [nI_add, show (128 : Int32) = nI 128 from rfl, pk_mul, nI_1]
  dsimp only
  rw [e1, e2, nI_clamp (by omega), nI_clamp (by omega), e, nI_add]
  have eV : (2 + wdt d + wdt (l - 1) + pr) * 128 + 1 + W (p + l) d = wgt W pr p 0 1 l d := rfl
  rw [eV]
  refine ⟨vp_in_nI (by omega) (by decide), vp_in_nI (by omega) (by decide), ?_⟩
  have take : (∀ l' d', S l' d' → rk W pr p 0 1 l d ≤ rk W pr p 0 1 l' d') → wpX0_offerMatch_69 (nI p) (nI d) (nI l) (nI (wgt W pr p 0 1 l d)) wm wl wd post := by
    intro hmin
    unfold wpX0_offerMatch_69
    rw [nI_clamp (by omega)]
    refine ⟨vp_in_nI (by omega) (by decide), h _ _ _ (fun i hi => ⟨pk_un hi, pk_un hi, pk_un hi⟩) (Or.inr ⟨l, d, (hS' l d).mpr (Or.inr ⟨rfl, rfl⟩), pk_us, pk_us, pk_us, fun l' d' hs => ?_⟩)⟩
    rcases (hS' l' d').mp hs with z | ⟨z1, z2⟩
    · exact hmin l' d' z
    · rw [z1, z2]
      exact Nat.le_refl _
  rcases hM with ⟨m1, m2⟩ | ⟨l0, d0, m1, m2, m3, m4, m5⟩
  · rw [m1]
    have c1 : nI (wgt W pr p 0 1 l d) < 1073741824 := nI_lt (b := 1073741824) (by omega) (by decide)
    have c2 : ¬ nI (wgt W pr p 0 1 l d) = 1073741824 := fun z => by
      have := (nI_eq (b := 1073741824) (by omega) (by decide)).mp z
      omega
    exact br_f c2 (br_t c1 (take (fun l' d' z => absurd z (m2 l' d'))))
  · obtain ⟨s1, s2⟩ := hS l0 d0 m1
    have bv2 := vm_b hn hp hw hl.1 hg s1
    have bw2 := wgt_m hn hw hl.1 hg hpr hT (p := p) (q := 0) (k := 1) (l := l0) (d := d0) (by omega) (by omega) (by omega)
    have take2 : rk W pr p 0 1 l d ≤ rk W pr p 0 1 l0 d0 → wpX0_offerMatch_69 (nI p) (nI d) (nI l) (nI (wgt W pr p 0 1 l d)) wm wl wd post := fun z => take (fun l' d' hs => Nat.le_trans z (m5 l' d' hs))
    have keep : rk W pr p 0 1 l0 d0 ≤ rk W pr p 0 1 l d → post wm wl wd := by
      intro z
      refine h wm wl wd (fun i hi => ⟨rfl, rfl, rfl⟩) (Or.inr ⟨l0, d0, (hS' l0 d0).mpr (Or.inl m1), m2, m3, m4, fun l' d' hs => ?_⟩)
      rcases (hS' l' d').mp hs with y | ⟨y1, y2⟩
      · exact m5 l' d' y
      · rw [y1, y2]
        exact z
    rw [m2, m3]
    refine pk_eq (wgt W pr p 0 1 l d) (wgt W pr p 0 1 l0 d0) (fun c1 => ?_) (fun c1 => ?_)
    · refine pk_le l l0 (fun c2 => ?_) (fun c2 => ?_)
      · exact br_f (nI_nlt (by omega) (by omega)) (keep (rk_of (by omega) (by omega) (by omega)))
      · exact br_f (nI_nlt (by omega) (by omega)) (take2 (rk_of (by omega) (by omega) (by omega)))
    · exact pk_lt (wgt W pr p 0 1 l d) (wgt W pr p 0 1 l0 d0) (fun c2 => take2 (rk_of (by omega) (by omega) (by omega))) (fun c2 => keep (rk_of (by omega) (by omega) (by omega)))
/-- what has been offered ahead of length l at distance d -/
def Sc (t : Nat → Int32) (n w le gr p l d l' d' : Nat) : Prop := VM t n w le gr p l' d' ∧ (d' < d ∨ (d' = d ∧ l' < l))
theorem wm56 {t : Nat → Int32} {n w le gr pr : Nat} {W : Nat → Nat → Nat} {st : Nat → Nat → Nat × Nat × Nat} (hC : Ctx t n w le gr pr W st) {p d : Nat} {ww : Nat → Int32} {K : (Nat → Int32) → (Nat → Int32) → (Nat → Int32) → Prop} (hp : p < n) (hd : 1 ≤ d ∧ d ≤ min p w) (he : ∀ l d, VM t n w le gr p l d → ww ((p + l) * 65 + d) = nI (W (p + l) d)) : ∀ (k fuel l : Nat) (wm wl wd : Nat → Int32), al t n gr p d + 1 ≤ l + k → le ≤ l → l ≤ 100 → k < fuel → MB W pr p (Sc t n w le gr p l d) (wm p) (wl p) (wd p) → (∀ wm' wl' wd', (∀ i, i ≠ p → wm' i = wm i ∧ wl' i = wl i ∧ wd' i = wd i) → MB W pr p (Sc t n w le gr p le (d + 1)) (wm' p) (wl' p) (wd' p) → K wm' wl' wd') → wpX0_weighMatches_56 (nI p) (nI d) (nI (al t n gr p d)) (nI pr) ww K fuel (nI l) wm wl wd := by
  have ba := al_le t n gr p d
  have hg := hC.2.2.2.1
  intro k
  induction k with
  | zero =>
    intro fuel l wm wl wd h1 h2 h3 hf hM h
    obtain ⟨f, rfl⟩ : ∃ f, fuel = f + 1 := ⟨fuel - 1, by omega⟩
    rw [wpX0_weighMatches_56]
    refine br_t (nI_lt (by omega) (by omega)) (h wm wl wd (fun i hi => ⟨rfl, rfl, rfl⟩) (MB_congr (fun l' d' => ?_) hM))
    constructor
    · rintro ⟨a, b⟩
      exact ⟨a, by omega⟩
    · rintro ⟨a, b⟩
      refine ⟨a, ?_⟩
      rcases Nat.lt_or_ge d' d with z | z
      · exact Or.inl z
      · have a2 := a.2
        rcases b with b | b
        · have : d' = d := by omega
          subst this
          omega
        · omega
  | succ k ih =>
    intro fuel l wm wl wd h1 h2 h3 hf hM h
    obtain ⟨f, rfl⟩ : ∃ f, fuel = f + 1 := ⟨fuel - 1, by omega⟩
    rw [wpX0_weighMatches_56]
    refine pk_lt (al t n gr p d) l (fun c => ?_) (fun c => ?_)
    · refine h wm wl wd (fun i hi => ⟨rfl, rfl, rfl⟩) (MB_congr (fun l' d' => ?_) hM)
      constructor
      · rintro ⟨a, b⟩
        exact ⟨a, by omega⟩
      · rintro ⟨a, b⟩
        refine ⟨a, ?_⟩
        rcases Nat.lt_or_ge d' d with z | z
        · exact Or.inl z
        · have a2 := a.2
          rcases b with b | b
          · have : d' = d := by omega
            subst this
            omega
          · omega
    · have hv : VM t n w le gr p l d := ⟨hd, h2, c⟩
      refine offX hC hp hv (he l d hv) (S := Sc t n w le gr p l d) (S' := Sc t n w le gr p (l + 1) d) (fun l' d' z => z) (fun l' d' => ?_) hM (fun wm' wl' wd' hfr hM' => ?_)
      · constructor
        · rintro ⟨a, b⟩
          rcases b with b | b
          · exact Or.inl ⟨a, Or.inl b⟩
          · rcases Nat.lt_or_ge l' l with z | z
            · exact Or.inl ⟨a, Or.inr ⟨b.1, z⟩⟩
            · exact Or.inr ⟨by omega, b.1⟩
        · rintro (⟨a, b⟩ | ⟨a, b⟩)
          · exact ⟨a, by omega⟩
          · rw [a, b]
            exact ⟨hv, Or.inr ⟨rfl, by omega⟩⟩
      · rw [nI_1]
        refine ih f (l + 1) wm' wl' wd' (by omega) (by omega) (by omega) (by omega) hM' (fun a b c hfr2 hM2 => h a b c (fun i hi => ?_) hM2)
        obtain ⟨x1, x2, x3⟩ := hfr i hi
        obtain ⟨y1, y2, y3⟩ := hfr2 i hi
        exact ⟨y1.trans x1, y2.trans x2, y3.trans x3⟩
theorem wm24 {t : Nat → Int32} {n w le gr pr : Nat} {W : Nat → Nat → Nat} {st : Nat → Nat → Nat × Nat × Nat} (hC : Ctx t n w le gr pr W st) {p : Nat} {ww wr : Nat → Int32} {K : (Nat → Int32) → (Nat → Int32) → (Nat → Int32) → Prop} (hp : p < n) (he : ∀ l d, VM t n w le gr p l d → ww ((p + l) * 65 + d) = nI (W (p + l) d)) (hr : ∀ d, 1 ≤ d → d ≤ min p w → wr d = nI (rl t n p d)) : ∀ (k fuel d : Nat) (wm wl wd : Nat → Int32), d + k = min p w + 1 → 1 ≤ d → k < fuel → MB W pr p (Sc t n w le gr p le d) (wm p) (wl p) (wd p) → (∀ wm' wl' wd', (∀ i, i ≠ p → wm' i = wm i ∧ wl' i = wl i ∧ wd' i = wd i) → MB W pr p (VM t n w le gr p) (wm' p) (wl' p) (wd' p) → K wm' wl' wd') → wpX0_weighMatches_24 (nI p) (nI (min p w)) (nI le) (nI gr) (nI pr) ww wr K fuel (nI d) wm wl wd := by
  obtain ⟨hn, hw, hl, hg, hpr, hT⟩ := id hC
  intro k
  induction k with
  | zero =>
    intro fuel d wm wl wd h1 h2 hf hM h
    obtain ⟨f, rfl⟩ : ∃ f, fuel = f + 1 := ⟨fuel - 1, by omega⟩
    rw [wpX0_weighMatches_24]
    refine br_t (nI_lt (by omega) (by omega)) (h wm wl wd (fun i hi => ⟨rfl, rfl, rfl⟩) (MB_congr (fun l' d' => ?_) hM))
    constructor
    · rintro ⟨a, b⟩
      exact a
    · intro a
      have a1 := a.1
      exact ⟨a, by omega⟩
  | succ k ih =>
    intro fuel d wm wl wd h1 h2 hf hM h
    obtain ⟨f, rfl⟩ : ∃ f, fuel = f + 1 := ⟨fuel - 1, by omega⟩
    have br := rl_le t n p d
    rw [wpX0_weighMatches_24]
    refine br_f (nI_nlt (by omega) (by omega)) ⟨vp_in_nI (by omega) (by decide), ?_⟩
    rw [nI_clamp (by omega), hr d h2 (by omega), i_min _ _ (by omega) (by omega)]
    refine ⟨66, wm56 hC hp ⟨h2, by omega⟩ he 65 66 le wm wl wd ?_ (Nat.le_refl _) (by omega) (by omega) hM (fun wm' wl' wd' hfr hM' => ?_)⟩
    · have := al_le t n gr p d
      omega
    · rw [nI_1]
      refine ih f (d + 1) wm' wl' wd' (by omega) (by omega) (by omega) hM' (fun a b c hfr2 hM2 => h a b c (fun i hi => ?_) hM2)
      obtain ⟨x1, x2, x3⟩ := hfr i hi
      obtain ⟨y1, y2, y3⟩ := hfr2 i hi
      exact ⟨y1.trans x1, y2.trans x2, y3.trans x3⟩
theorem sX0_weighMatches {t : Nat → Int32} {n w le gr pr : Nat} {W : Nat → Nat → Nat} {st : Nat → Nat → Nat × Nat × Nat} (hC : Ctx t n w le gr pr W st) {p : Nat} {ww wr wm wl wd : Nat → Int32} {post : (Nat → Int32) → (Nat → Int32) → (Nat → Int32) → Prop} (hp : p < n) (he : ∀ l d, VM t n w le gr p l d → ww ((p + l) * 65 + d) = nI (W (p + l) d)) (hr : ∀ d, 1 ≤ d → d ≤ min p w → wr d = nI (rl t n p d)) (h : ∀ wm' wl' wd', (∀ i, i ≠ p → wm' i = wm i ∧ wl' i = wl i ∧ wd' i = wd i) → MB W pr p (VM t n w le gr p) (wm' p) (wl' p) (wd' p) → post wm' wl' wd') : wpX0_weighMatches (nI le) (nI gr) (nI pr) ww wr wm wl wd (nI p) (nI (min p w)) post := by
  have hn := hC.1
  unfold wpX0_weighMatches
  rw [nI_clamp (by omega)]
  refine ⟨vp_in_nI (by omega) (by decide), min p w + 1, wm24 hC hp he hr (min p w) _ 1 _ _ _ (by omega) (by omega) (by omega) (Or.inl ⟨pk_us, fun l d z => ?_⟩) (fun a b c hfr hM => h a b c (fun i hi => ?_) hM)⟩
  · have z1 := z.1.1
    have z2 := z.1.2
    have z3 := z.2
    omega
  · obtain ⟨x1, x2, x3⟩ := hfr i hi
    rw [pk_un hi] at x1 x2 x3
    exact ⟨x1, x2, x3⟩
theorem sX0_growRuns {t : Nat → Int32} {n p F : Nat} {K : (Nat → Int32) → Prop} (hn : n ≤ 64) (hp : p < n) (hF : F ≤ p) : ∀ (k fuel d : Nat) (wr : Nat → Int32), d + k = F + 1 → 1 ≤ d → k < fuel → (∀ d', d ≤ d' → d' ≤ F → wr d' = nI (rl t n (p + 1) d')) → (∀ wr', (∀ d', (d' < d ∨ F < d') → wr' d' = wr d') → (∀ d', d ≤ d' → d' ≤ F → wr' d' = nI (rl t n p d')) → K wr') → wpX0_growRuns_2 (nI p) (nI F) t K fuel (nI d) wr := by
  intro k
  induction k with
  | zero =>
    intro fuel d wr h1 h2 hf hr h
    obtain ⟨f, rfl⟩ : ∃ f, fuel = f + 1 := ⟨fuel - 1, by omega⟩
    rw [wpX0_growRuns_2]
    exact br_t (nI_lt (by omega) (by omega)) (h wr (fun d' _ => rfl) (fun d' u1 u2 => by omega))
  | succ k ih =>
    intro fuel d wr h1 h2 hf hr h
    obtain ⟨f, rfl⟩ : ∃ f, fuel = f + 1 := ⟨fuel - 1, by omega⟩
    have go : ∀ x : Int32, x = nI (rl t n p d) → wpX0_growRuns_2 (nI p) (nI F) t K f (nI (d + 1)) (upd wr d x) := by
      intro x hx
      refine ih f (d + 1) _ (by omega) (by omega) (by omega) (fun d' u1 u2 => ?_) (fun wr' h3 h4 => h wr' (fun d' u => ?_) (fun d' u1 u2 => ?_))
      · rw [pk_un (by omega)]
        exact hr d' (by omega) u2
      · rw [h3 d' (by omega), pk_un (by omega)]
      · rcases Nat.lt_or_ge d d' with z | z
        · exact h4 d' (by omega) u2
        · have : d' = d := by omega
          subst this
          rw [h3 d' (by omega), pk_us, hx]
    have hrl := rl_lt (t := t) (d := d) hp
    rw [wpX0_growRuns_2]
    refine br_f (nI_nlt (by omega) (by omega)) ⟨vp_in_nI (by omega) (by decide), ?_⟩
    rw [pk_sub (by omega)]
    refine ⟨vp_in_nI (by omega) (by decide), ?_⟩
    rw [nI_clamp (by omega), nI_clamp (by omega)]
    unfold wpX0_growRuns_35 wpX0_growRuns_59
    rw [nI_clamp (by omega), nI_1]
    by_cases c : t p = t (p - d)
    · rw [if_pos c] at hrl
      refine br_t c (br_f ne10 ⟨vp_in_nI (by omega) (by decide), vp_in_nI (by omega) (by decide), go _ ?_⟩)
      rw [hr d (Nat.le_refl d) (by omega), nI_1, hrl]
    · rw [if_neg c] at hrl
      refine br_f c (br_t rfl ⟨vp_in_nI (by omega) (by decide), go _ ?_⟩)
      rw [hrl]
      exact nI_0.symm
/-- a state's weight is the least of its candidates' -/
theorem tab_le {t : Nat → Int32} {n w le gr pr : Nat} {W : Nat → Nat → Nat} {st : Nat → Nat → Nat × Nat × Nat} (hC : Ctx t n w le gr pr W st) {p q k l d : Nat} (hp : p < n) (hq : q ≤ 64) (hc : Cand t n w le gr p q k l d) : W p q ≤ wgt W pr p q k l d := by
  obtain ⟨hn, hw, hl, hg, hpr, hT⟩ := id hC
  obtain ⟨g1, g2, g3⟩ := hT.2 p q hp hq
  have b1 := cand_b hn hp hw hl.1 hg hq g1
  have b2 := cand_b hn hp hw hl.1 hg hq hc
  have := rk_le (g3 k l d hc) (by omega) (by omega)
  omega
theorem tab_in {t : Nat → Int32} {n w le gr pr : Nat} {W : Nat → Nat → Nat} {st : Nat → Nat → Nat × Nat × Nat} (hC : Ctx t n w le gr pr W st) {p q : Nat} (hp : p < n) (hq : q ≤ 64) : W p q = wgt W pr p q 0 1 0 ∨ (∃ l d, VM t n w le gr p l d ∧ W p q = wgt W pr p 0 1 l d) ∨ (∃ l, (1 ≤ l ∧ l ≤ agm t n gr p q) ∧ W p q = wgt W pr p q 2 l q) := by
  obtain ⟨hn, hw, hl, hg, hpr, hT⟩ := id hC
  obtain ⟨g1, g2, g3⟩ := hT.2 p q hp hq
  generalize st p q = s at g1 g2 g3
  obtain ⟨x, y, z⟩ := s
  rcases g1 with ⟨h1, h2, h3⟩ | ⟨h1, h2⟩ | ⟨h1, h2, h3⟩
  · left
    rw [g2]
    show wgt W pr p q x y z = _
    rw [show x = 0 from h1, show y = 1 from h2, show z = 0 from h3]
  · right; left
    refine ⟨y, z, h2, ?_⟩
    rw [g2]
    show wgt W pr p q x y z = _
    rw [show x = 1 from h1]
    rfl
  · right; right
    refine ⟨y, h3, ?_⟩
    rw [g2]
    show wgt W pr p q x y z = _
    rw [show x = 2 from h1, show z = q from h2]
theorem ltX {t : Nat → Int32} {n w le gr pr : Nat} {W : Nat → Nat → Nat} {st : Nat → Nat → Nat × Nat × Nat} (hC : Ctx t n w le gr pr W st) {p q : Nat} {ww wr wm : Nat → Int32} {b c : Int32} {post : Int32 → Prop} (hp : p < n) (hR : Rq w p q) (he : ∀ l, 1 ≤ l → p + l ≤ n → ww ((p + l) * 65 + q) = nI (W (p + l) q)) (hr : wr q = nI (if q = 0 then 0 else rl t n p q)) (hM : MB W pr p (VM t n w le gr p) (wm p) b c) (h : post (nI (W p q))) : wpX0_lightest (nI gr) (nI pr) ww wr wm (nI p) (nI q) post := by
  obtain ⟨hn, hw, hl, hg, hpr, hT⟩ := id hC
  have hq := Rq_le hR hw
  have br := rl_le t n p q
  have hA : min (if q = 0 then 0 else rl t n p q) gr = agm t n gr p q := by
    unfold agm al
    rcases hR with z | z
    · rw [if_pos z, if_neg (by omega)]
      omega
    · rw [if_neg (by omega), if_pos (by omega)]
  have ba := agm_le t n gr p q
  have hr2 : (if q = 0 then 0 else rl t n p q) ≤ 64 := by split <;> omega
  have c0 : Cand t n w le gr p q 0 1 0 := Or.inl ⟨rfl, rfl, rfl⟩
  have t0 := tab_le hC hp hq c0
  have w0 := wgt_m hn hw hl.1 hg hpr hT (p := p) (q := q) (k := 0) (l := 1) (d := 0) (by omega) hq (by omega)
  have tin := tab_in hC hp hq
  unfold wpX0_lightest
  refine lwX (W := W) (by omega) hq (he 1 (Nat.le_refl 1) (by omega)) ⟨vp_in_nI (by omega) (by decide), vp_in_nI (by omega) (by decide), ?_⟩
  rw [nI_clamp (by omega), nI_clamp (by omega), hr]
  refine sX0_againLength (W := W) hr2 hg (by omega) hq (fun l u1 u2 => he l u1 (by omega)) (fun l u1 u2 => (wgt_m hn hw hl.1 hg hpr hT (p := p) (q := q) (k := 2) (l := l) (d := q) (by omega) hq hq).1) (fun bl v hB => ?_)
  rw [hA] at hB
  -- the least of the literal and the matches
  have hmm : ∃ m : Nat, m ≤ 400000 ∧ (if wm p < nI (wgt W pr p q 0 1 0) then wm p else nI (wgt W pr p q 0 1 0)) = nI m ∧ W p q ≤ m ∧ (W p q = m ∨ ∃ l, (1 ≤ l ∧ l ≤ agm t n gr p q) ∧ W p q = wgt W pr p q 2 l q) := by
    rcases hM with ⟨m1, m2⟩ | ⟨l0, d0, m1, m2, m3, m4, m5⟩
    · refine ⟨wgt W pr p q 0 1 0, w0.1, ?_, t0, ?_⟩
      · rw [m1]
        exact if_neg (nI_nlt (a := 1073741824) (b := wgt W pr p q 0 1 0) (by omega) (by decide))
      · rcases tin with z | ⟨l, d, z1, z2⟩ | z
        · exact Or.inl z
        · exact absurd z1 (m2 l d)
        · exact Or.inr z
    · have bv2 := vm_b hn hp hw hl.1 hg m1
      have bw2 := wgt_m hn hw hl.1 hg hpr hT (p := p) (q := 0) (k := 1) (l := l0) (d := d0) (by omega) (by omega) (by omega)
      have t1 := tab_le hC hp hq (Or.inr (Or.inl ⟨rfl, m1⟩))
      rw [show wgt W pr p q 1 l0 d0 = wgt W pr p 0 1 l0 d0 from rfl] at t1
      refine ⟨min (wgt W pr p q 0 1 0) (wgt W pr p 0 1 l0 d0), by omega, ?_, by omega, ?_⟩
      · rw [m2]
        exact i_min _ _ (by omega) (by omega)
      · rcases tin with z | ⟨l, d, z1, z2⟩ | z
        · left
          omega
        · left
          have bv3 := vm_b hn hp hw hl.1 hg z1
          have := rk_le (m5 l d z1) (by omega) (by omega)
          omega
        · exact Or.inr z
  obtain ⟨m, hm1, hm2, hm3, hm4⟩ := hmm
  rw [hm2]
  clear hA hr2 tin hr
  rcases hB with ⟨rfl, hB1, -⟩ | ⟨hB1, -, hB2⟩
  · refine br_t nI_0 ?_
    rcases hm4 with z | ⟨l, z1, z2⟩
    · rw [← z]
      exact h
    · omega
  · refine br_f (nI_ne0 (by omega) (by omega)) (awX (W := W) (by omega) (by omega) hq (he bl hB1.1 (by omega)) ?_)
    have t2 := tab_le hC hp hq (Or.inr (Or.inr ⟨rfl, rfl, hB1⟩))
    have bw3 := wgt_m hn hw hl.1 hg hpr hT (p := p) (q := q) (k := 2) (l := bl) (d := q) (by omega) hq hq
    rw [i_min _ _ (by omega) (by omega)]
    have : W p q = min m (wgt W pr p q 2 bl q) := by
      rcases hm4 with z | ⟨l, z1, z2⟩
      · omega
      · have := hB2 l z1.1 z1.2
        omega
    rw [← this]
    exact h

