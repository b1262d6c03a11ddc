def S1 (t : Nat → Int32) (n w le gr p k' l' d' : Nat) : Prop := (k' = 0 ∧ l' = 1 ∧ d' = 0) ∨ (k' = 1 ∧ VM t n w le gr p l' d')
def S0 (t : Nat → Int32) (n w le gr p l d k' l' d' : Nat) : Prop := (k' = 0 ∧ l' = 1 ∧ d' = 0) ∨ (k' = 1 ∧ Sm t n w le gr p l d l' d')
def S2 (t : Nat → Int32) (n w le gr p q l k' l' d' : Nat) : Prop := S1 t n w le gr p k' l' d' ∨ (k' = 2 ∧ d' = q ∧ (l < l' ∧ l' ≤ agm t n gr p q))
/-- the rows behind a place hold the table -/
def Bh (n : Nat) (W : Nat → Nat → Nat) (p : Nat) (a b : Nat → Int32) : Prop := ∀ p' q', p < p' → p' ≤ n → q' ≤ 64 → a (65 * p' + q') = nI (W p' q' / 128) ∧ b (65 * p' + q') = nI (W p' q' % 128)
theorem Bh_fr {n : Nat} {W : Nat → Nat → Nat} {p q : Nat} {a b x y z a' b' x' y' z' : Nat → Int32} (hq : q ≤ 64) (h : Bh n W p a b) (hf : Fr (65 * p + q) a b x y z a' b' x' y' z') : Bh n W p a' b' := by
  intro p' q' u1 u2 u3
  obtain ⟨⟨v1, v2⟩, -⟩ := hf (65 * p' + q') (by omega)
  rw [v1, v2]
  exact h p' q' u1 u2 u3
theorem lk64 {t : Nat → Int32} {n w le gr pr : Nat} {W : Nat → Nat → Nat} {st : Nat → Nat → Nat × Nat × Nat} (hC : Ctx t n w le gr pr W st) {p q l : Nat} {mgo : Nat → Int32} {K : (Nat → Int32) → (Nat → Int32) → (Nat → Int32) → (Nat → Int32) → (Nat → Int32) → Prop} (hp : p < n) (hq : q ≤ 64) (hl2 : le ≤ l ∧ l ≤ gr ∧ l ≤ n - p) (hgo : ∀ d', 1 ≤ d' → d' ≤ p → mgo d' = nI (rl t n p d')) : ∀ (k fuel d : Nat) (a b x y z : Nat → Int32), d + k = min p w + 1 → 1 ≤ d → k < fuel → Bh n W p a b → LK W pr p q (S0 t n w le gr p l d) a b x y z → (∀ a' b' x' y' z', Fr (65 * p + q) a b x y z a' b' x' y' z' → LK W pr p q (S0 t n w le gr p (l - 1) 1) a' b' x' y' z' → K a' b' x' y' z') → wpX10_look_64 (nI p) (nI (65 * p + q)) (nI l) (nI w) (nI pr) mgo K fuel (nI d) a b x y z := by
  obtain ⟨hn, hw, hl, hg, hpr, hT⟩ := id hC
  intro k
  induction k with
  | zero =>
    intro fuel d a b x y z h1 h2 hf hB hL h
    obtain ⟨f, rfl⟩ : ∃ f, fuel = f + 1 := ⟨fuel - 1, by omega⟩
    rw [wpX10_look_64]
    refine sX10_farthest hw (by omega) (br_t (nI_lt (by omega) (by omega)) (h a b x y z Fr_rf (LK_congr (fun k' l' d' => ?_) hL)))
    constructor
    · rintro (u | ⟨u, v1, v2⟩)
      · exact Or.inl u
      · exact Or.inr ⟨u, v1, by omega⟩
    · rintro (u | ⟨u, v1, v2⟩)
      · exact Or.inl u
      · have v3 := v1.1
        exact Or.inr ⟨u, v1, by omega⟩
  | succ k ih =>
    intro fuel d a b x y z h1 h2 hf hB hL h
    obtain ⟨f, rfl⟩ : ∃ f, fuel = f + 1 := ⟨fuel - 1, by omega⟩
    have br := rl_le t n p d
    rw [wpX10_look_64]
    unfold wpX10_look_119
    refine sX10_farthest hw (by omega) (br_f (nI_nlt (by omega) (by omega)) ⟨vp_in_nI (by omega) (by decide), ?_⟩)
    rw [nI_clamp (n := d) (by omega), hgo d h2 (by omega)]
    have nx : ∀ a' b' x' y' z', Fr (65 * p + q) a b x y z a' b' x' y' z' → LK W pr p q (S0 t n w le gr p l (d + 1)) a' b' x' y' z' → wpX10_look_64 (nI p) (nI (65 * p + q)) (nI l) (nI w) (nI pr) mgo K f (nI d + 1) a' b' x' y' z' := by
      intro a' b' x' y' z' hfr hL'
      rw [nI_1]
      exact ih f (d + 1) a' b' x' y' z' (by omega) (by omega) (by omega) (Bh_fr hq hB hfr) hL' (fun a2 b2 x2 y2 z2 hfr2 hL2 => h a2 b2 x2 y2 z2 (Fr_tr hfr hfr2) hL2)
    refine pk_lt (rl t n p d) l (fun c => ?_) (fun c => ?_)
    · refine nx a b x y z Fr_rf (LK_congr (fun k' l' d' => ?_) hL)
      constructor
      · rintro (u | ⟨u, v1, v2⟩)
        · exact Or.inl u
        · exact Or.inr ⟨u, v1, by omega⟩
      · rintro (u | ⟨u, v1, v2⟩)
        · exact Or.inl u
        · refine Or.inr ⟨u, v1, ?_⟩
          rcases v2 with v2 | ⟨v2, v3⟩
          · exact Or.inl v2
          · rcases Nat.lt_or_ge d' d with i | i
            · exact Or.inr ⟨v2, i⟩
            · exfalso
              have : d' = d := by omega
              subst this
              have a2 := v1.2.2
              unfold al at a2
              omega
    · have hv : VM t n w le gr p l d := ⟨by omega, by omega, by unfold al; omega⟩
      have bv1 := vm_b hn hp hw hl.1 hg hv
      refine sX10_bitsOf (K := 1) (Or.inr (Or.inl ⟨rfl, by omega, by omega⟩)) ?_
      rw [nI_add p l, jx65, nI_add (tbn 1 l d)]
      refine offM hC (k := 1) (l := l) (d := d) (nx := 65 * (p + l) + d) (S := S0 t n w le gr p l d) (S' := S0 t n w le gr p l (d + 1)) hp hq (Or.inr (Or.inl ⟨rfl, hv⟩)) rfl (hB (p + l) d (by omega) (by omega) (by omega)) (fun k' l' d' u => ?_) (fun k' l' d' => ?_) hL nx
      · rcases u with ⟨u1, u2, u3⟩ | ⟨u1, u2, u3⟩
        · exact ⟨Or.inl ⟨u1, u2, u3⟩, by omega⟩
        · exact ⟨Or.inr (Or.inl ⟨u1, u2⟩), by omega⟩
      · constructor
        · rintro (u | ⟨u, v1, v2⟩)
          · exact Or.inl (Or.inl u)
          · rcases v2 with v2 | ⟨v2, v3⟩
            · exact Or.inl (Or.inr ⟨u, v1, Or.inl v2⟩)
            · rcases Nat.lt_or_ge d' d with i | i
              · exact Or.inl (Or.inr ⟨u, v1, Or.inr ⟨v2, i⟩⟩)
              · exact Or.inr ⟨u, v2, by omega⟩
        · rintro ((u | ⟨u, v1, v2⟩) | ⟨u, v1, v2⟩)
          · exact Or.inl u
          · exact Or.inr ⟨u, v1, by omega⟩
          · rw [u, v1, v2]
            exact Or.inr ⟨rfl, hv, Or.inr ⟨rfl, by omega⟩⟩
theorem lk52 {t : Nat → Int32} {n w le gr pr : Nat} {W : Nat → Nat → Nat} {st : Nat → Nat → Nat × Nat × Nat} (hC : Ctx t n w le gr pr W st) {p q : Nat} {mgo : Nat → Int32} {K : (Nat → Int32) → (Nat → Int32) → (Nat → Int32) → (Nat → Int32) → (Nat → Int32) → Prop} (hp : p < n) (hq : q ≤ 64) (hgo : ∀ d', 1 ≤ d' → d' ≤ p → mgo d' = nI (rl t n p d')) : ∀ (k fuel l : Nat) (a b x y z : Nat → Int32), l + 1 ≤ le + k → l ≤ min gr (n - p) → k < fuel → Bh n W p a b → LK W pr p q (S0 t n w le gr p l 1) a b x y z → (∀ a' b' x' y' z', Fr (65 * p + q) a b x y z a' b' x' y' z' → LK W pr p q (S1 t n w le gr p) a' b' x' y' z' → K a' b' x' y' z') → wpX10_look_52 (nI p) (nI (65 * p + q)) (nI w) (nI le) (nI pr) mgo K fuel (nI l) a b x y z := by
  obtain ⟨hn, hw, hl, hg, hpr, hT⟩ := id hC
  have fin : ∀ l, l < le → ∀ k' l' d', S0 t n w le gr p l 1 k' l' d' ↔ S1 t n w le gr p k' l' d' := by
    intro l hll k' l' d'
    constructor
    · rintro (u | ⟨u, v1, v2⟩)
      · exact Or.inl u
      · exact Or.inr ⟨u, v1⟩
    · rintro (u | ⟨u, v1⟩)
      · exact Or.inl u
      · have v2 := v1.2
        exact Or.inr ⟨u, v1, Or.inl (by omega)⟩
  intro k
  induction k with
  | zero =>
    intro fuel l a b x y z h1 h2 hf hB hL h
    obtain ⟨f, rfl⟩ : ∃ f, fuel = f + 1 := ⟨fuel - 1, by omega⟩
    rw [wpX10_look_52]
    exact br_t (nI_lt (by omega) (by omega)) (h a b x y z Fr_rf (LK_congr (fin l (by omega)) hL))
  | succ k ih =>
    intro fuel l a b x y z h1 h2 hf hB hL h
    obtain ⟨f, rfl⟩ : ∃ f, fuel = f + 1 := ⟨fuel - 1, by omega⟩
    rw [wpX10_look_52]
    refine pk_lt l le (fun c => h a b x y z Fr_rf (LK_congr (fin l c) hL)) (fun c => ?_)
    refine ⟨min p w + 1, lk64 hC hp hq (by omega) hgo (min p w) _ 1 a b x y z (by omega) (by omega) (by omega) hB hL (fun a' b' x' y' z' hfr hL' => ?_)⟩
    rw [i_m1, i_p1 (by omega)]
    exact ih f (l - 1) a' b' x' y' z' (by omega) (by omega) (by omega) (Bh_fr hq hB hfr) hL' (fun a2 b2 x2 y2 z2 hfr2 hL2 => h a2 b2 x2 y2 z2 (Fr_tr hfr hfr2) hL2)
theorem bits2 {l : Nat} {post : Int32 → Prop} (hl : 1 ≤ l ∧ l < 256) (h : post (nI (2 + wdt l))) : wpX10_bitsOf 2 (nI l) 0 post := by
  unfold wpX10_bitsOf
  refine br_f (by decide) (br_f (by decide) (sX10_width (by omega) hl.2 ?_))
  rw [i_2a]
  exact h
theorem lk221 {t : Nat → Int32} {n w le gr pr : Nat} {W : Nat → Nat → Nat} {st : Nat → Nat → Nat × Nat × Nat} (hC : Ctx t n w le gr pr W st) {p q : Nat} {K : (Nat → Int32) → (Nat → Int32) → (Nat → Int32) → (Nat → Int32) → (Nat → Int32) → Prop} (hp : p < n) (hq : q ≤ 64) : ∀ (l fuel : Nat) (a b x y z : Nat → Int32), l ≤ agm t n gr p q → l < fuel → Bh n W p a b → LK W pr p q (S2 t n w le gr p q l) a b x y z → (∀ a' b' x' y' z', Fr (65 * p + q) a b x y z a' b' x' y' z' → LK W pr p q (Cand t n w le gr p q) a' b' x' y' z' → K a' b' x' y' z') → wpX10_look_221 (nI p) (nI q) (nI (65 * p + q)) (nI pr) K fuel (nI l) a b x y z := by
  obtain ⟨hn, hw, hl, hg, hpr, hT⟩ := id hC
  have ba := agm_le t n gr p q
  intro l
  induction l with
  | zero =>
    intro fuel a b x y z h1 hf hB hL h
    obtain ⟨f, rfl⟩ : ∃ f, fuel = f + 1 := ⟨fuel - 1, by omega⟩
    rw [wpX10_look_221]
    refine br_t (by decide) (h a b x y z Fr_rf (LK_congr (fun k' l' d' => ?_) hL))
    constructor
    · rintro ((u | u) | ⟨u1, u2, u3⟩)
      · exact Or.inl u
      · exact Or.inr (Or.inl u)
      · exact Or.inr (Or.inr ⟨u1, u2, by omega⟩)
    · rintro (u | u | ⟨u1, u2, u3⟩)
      · exact Or.inl (Or.inl u)
      · exact Or.inl (Or.inr u)
      · exact Or.inr ⟨u1, u2, by omega⟩
  | succ l ih =>
    intro fuel a b x y z h1 hf hB hL h
    obtain ⟨f, rfl⟩ : ∃ f, fuel = f + 1 := ⟨fuel - 1, by omega⟩
    rw [wpX10_look_221]
    refine br_f (nI_nlt (a := l + 1) (b := 1) (by omega) (by omega)) (bits2 (by omega) ?_)
    rw [nI_add p, jx65, nI_add (2 + wdt (l + 1))]
    refine offM hC (k := 2) (l := l + 1) (d := q) (nx := 65 * (p + (l + 1)) + q) (S := S2 t n w le gr p q (l + 1)) (S' := S2 t n w le gr p q l) hp hq (Or.inr (Or.inr ⟨rfl, rfl, by omega⟩)) rfl (hB (p + (l + 1)) q (by omega) (by omega) (by omega)) (fun k' l' d' u => ?_) (fun k' l' d' => ?_) hL (fun a' b' x' y' z' hfr hL' => ?_)
    · rcases u with (⟨u1, u2, u3⟩ | ⟨u1, u2⟩) | ⟨u1, u2, u3⟩
      · exact ⟨Or.inl ⟨u1, u2, u3⟩, by omega⟩
      · exact ⟨Or.inr (Or.inl ⟨u1, u2⟩), by omega⟩
      · exact ⟨Or.inr (Or.inr ⟨u1, u2, by omega⟩), by omega⟩
    · constructor
      · rintro (u | ⟨u1, u2, u3⟩)
        · exact Or.inl (Or.inl u)
        · rcases Nat.lt_or_ge (l + 1) l' with i | i
          · exact Or.inl (Or.inr ⟨u1, u2, by omega⟩)
          · exact Or.inr ⟨u1, by omega, u2⟩
      · rintro ((u | ⟨u1, u2, u3⟩) | ⟨u1, u2, u3⟩)
        · exact Or.inl u
        · exact Or.inr ⟨u1, u2, by omega⟩
        · exact Or.inr ⟨u1, u3, by omega⟩
    · rw [i_m1, nI_pred]
      exact ih f a' b' x' y' z' (by omega) (by omega) (Bh_fr hq hB hfr) hL' (fun a2 b2 x2 y2 z2 hfr2 hL2 => h a2 b2 x2 y2 z2 (Fr_tr hfr hfr2) hL2)
theorem lk201 {t : Nat → Int32} {n w le gr pr : Nat} {W : Nat → Nat → Nat} {st : Nat → Nat → Nat × Nat × Nat} (hC : Ctx t n w le gr pr W st) {p q : Nat} {mgo : Nat → Int32} {post : (Nat → Int32) → (Nat → Int32) → (Nat → Int32) → (Nat → Int32) → (Nat → Int32) → Prop} (hp : p < n) (hq : 1 ≤ q ∧ q ≤ 64) (hgo : ∀ d', 1 ≤ d' → d' ≤ p → mgo d' = nI (rl t n p d')) {a b x y z : Nat → Int32} (hB : Bh n W p a b) (hL : LK W pr p q (S1 t n w le gr p) a b x y z) (h : ∀ a' b' x' y' z', Fr (65 * p + q) a b x y z a' b' x' y' z' → LK W pr p q (Cand t n w le gr p q) a' b' x' y' z' → post a' b' x' y' z') : wpX10_look_201 (nI p) (nI q) (nI (65 * p + q)) (nI gr) (nI pr) a b x y z mgo post := by
  obtain ⟨hn, hw, hl, hg, hpr, hT⟩ := id hC
  have br := rl_le t n p q
  unfold wpX10_look_201
  refine pk_lt p q (fun c => ?_) (fun c => ?_)
  · have e : agm t n gr p q = 0 := by unfold agm; rw [if_neg (by omega)]
    refine h a b x y z Fr_rf (LK_congr (fun k' l' d' => ?_) hL)
    constructor
    · rintro (u | u)
      · exact Or.inl u
      · exact Or.inr (Or.inl u)
    · rintro (u | u | ⟨u1, u2, u3⟩)
      · exact Or.inl u
      · exact Or.inr u
      · omega
  · have e : agm t n gr p q = min gr (rl t n p q) := by unfold agm al; rw [if_pos ⟨hq.1, c⟩, Nat.min_comm]
    rw [nI_clamp (by omega), hgo q hq.1 c, i_min _ _ (by omega) (by omega), ← e]
    have ba := agm_le t n gr p q
    refine ⟨vp_in_nI (by omega) (by decide), agm t n gr p q + 1, lk221 hC hp hq.2 (agm t n gr p q) _ a b x y z (Nat.le_refl _) (by omega) hB (LK_congr (fun k' l' d' => ?_) hL) h⟩
    constructor
    · exact fun u => Or.inl u
    · rintro (u | ⟨u1, u2, u3⟩)
      · exact u
      · omega
theorem sX10_look {t : Nat → Int32} {n w le gr pr : Nat} {W : Nat → Nat → Nat} {st : Nat → Nat → Nat × Nat × Nat} (hC : Ctx t n w le gr pr W st) {p q : Nat} {mgo mma : Nat → Int32} {post : (Nat → Int32) → (Nat → Int32) → (Nat → Int32) → (Nat → Int32) → (Nat → Int32) → Prop} (hp : p < n) (hq : q ≤ 64) (hgo : ∀ d', 1 ≤ d' → d' ≤ p → mgo d' = nI (rl t n p d')) (hma : FMm t n w le gr pr W p (mma p)) {a b x y z : Nat → Int32} (hB : Bh n W p a b) (h : ∀ a' b' x' y' z', Fr (65 * p + q) a b x y z a' b' x' y' z' → AtS (65 * p + q) (W p q) (st p q).1 (st p q).2.1 (st p q).2.2 a' b' x' y' z' → post a' b' x' y' z') : wpX10_look (nI n) (nI w) (nI le) (nI gr) (nI pr) a b x y z mgo mma (nI p) (nI q) post := by
  obtain ⟨hn, hw, hl, hg, hpr, hT⟩ := id hC
  -- at the end the state has the best token
  have hfin : ∀ a' b' x' y' z', Fr (65 * p + q) a b x y z a' b' x' y' z' → LK W pr p q (Cand t n w le gr p q) a' b' x' y' z' → post a' b' x' y' z' := by
    intro a' b' x' y' z' hfr hL
    obtain ⟨k, l, d, s1, s2, s3⟩ := hL
    obtain ⟨g1, -, -⟩ := hT.2 p q hp hq
    obtain ⟨e1, e2⟩ := best_is hn hw hl.1 hg hT hp hq s1 (s3 _ _ _ g1)
    refine h a' b' x' y' z' hfr ?_
    rw [e1, e2]
    exact s2
  unfold wpX10_look
  rw [jx65, nI_clamp (n := 65 * p + q) (by omega)]
  refine ⟨vp_in_nI (by omega) (by decide), ?_⟩
  have e65 : nI (65 * p + q) + 65 = nI (65 * (p + 1) + q) := by
    rw [show (65 : Int32) = nI 65 from rfl, nI_add, show 65 * p + q + 65 = 65 * (p + 1) + q by omega]
  have e9 : (9 : Int32) + nI pr = nI (9 + pr) := by rw [show (9 : Int32) = nI 9 from rfl, nI_add]
  have bw := wgt_m hn hw hl.1 hg hpr hT (p := p) (q := q) (k := 0) (l := 1) (d := 0) (by omega) (by omega) (by omega)
  have bw3 : wgt W pr p q 0 1 0 = 128 * (9 + pr + W (p + 1) q / 128) + (1 + W (p + 1) q % 128) := bw.2.1
  have bw4 : 1 + W (p + 1) q % 128 < 128 := bw.2.2
  obtain ⟨f1, f2⟩ := hB (p + 1) q (by omega) (by omega) hq
  rw [e65, e9]
  unfold wpX10_offer
  rw [nI_clamp (n := 65 * (p + 1) + q) (by omega), nI_clamp (n := 65 * p + q) (by omega)]
  refine ⟨vp_in_nI (by omega) (by decide), vp_in_nI (by omega) (by decide), br_t pk_us ?_⟩
  unfold wpX10_offer_67
  rw [pk_un (by omega), f1, f2, nI_add, i_1a, nI_clamp (n := 65 * p + q) (by omega)]
  rw [show 9 + pr + W (p + 1) q / 128 = wgt W pr p q 0 1 0 / 128 by omega, show 1 + W (p + 1) q % 128 = wgt W pr p q 0 1 0 % 128 by omega]
  refine ⟨vp_in_nI (by omega) (by decide), ?_⟩
  -- the literal has been offered
  have hfr0 : Fr (65 * p + q) a b x y z (upd (upd a (65 * p + q) (-1)) (65 * p + q) (nI (wgt W pr p q 0 1 0 / 128))) (upd b (65 * p + q) (nI (wgt W pr p q 0 1 0 % 128))) (upd x (65 * p + q) 0) (upd y (65 * p + q) 1) (upd z (65 * p + q) 0) := fun i hi => ⟨⟨(pk_un hi).trans (pk_un hi), pk_un hi⟩, pk_un hi, pk_un hi, pk_un hi⟩
  have hL0 : LK W pr p q (fun k' l' d' => k' = 0 ∧ l' = 1 ∧ d' = 0) (upd (upd a (65 * p + q) (-1)) (65 * p + q) (nI (wgt W pr p q 0 1 0 / 128))) (upd b (65 * p + q) (nI (wgt W pr p q 0 1 0 % 128))) (upd x (65 * p + q) 0) (upd y (65 * p + q) 1) (upd z (65 * p + q) 0) := by
    refine ⟨0, 1, 0, ⟨rfl, rfl, rfl⟩, ⟨⟨pk_us, pk_us⟩, pk_us.trans nI_0.symm, pk_us, pk_us.trans nI_0.symm⟩, fun k' l' d' u => ?_⟩
    rw [u.1, u.2.1, u.2.2]
    exact Nat.le_refl _
  generalize upd (upd a (65 * p + q) (-1)) (65 * p + q) (nI (wgt W pr p q 0 1 0 / 128)) = a0 at hfr0 hL0 ⊢
  generalize upd b (65 * p + q) (nI (wgt W pr p q 0 1 0 % 128)) = b0 at hfr0 hL0 ⊢
  generalize upd x (65 * p + q) 0 = x0 at hfr0 hL0 ⊢
  generalize upd y (65 * p + q) 1 = y0 at hfr0 hL0 ⊢
  generalize upd z (65 * p + q) 0 = z0 at hfr0 hL0 ⊢
  have hB0 := Bh_fr hq hB hfr0
  clear bw bw3 bw4 f1 f2
  refine pk_eq q 0 (fun c => ?_) (fun c => ?_)
  · rw [pk_sub (by omega), i_min _ _ (by omega) (by omega)]
    refine ⟨66, lk52 hC hp hq hgo 65 66 (min gr (n - p)) a0 b0 x0 y0 z0 (by omega) (Nat.le_refl _) (by omega) hB0 (LK_congr (fun k' l' d' => ?_) hL0) (fun a' b' x' y' z' hfr hL => ?_)⟩
    · constructor
      · exact fun u => Or.inl u
      · rintro (u | ⟨u, v1, v2⟩)
        · exact u
        · have v3 := v1.1
          have v4 := v1.2
          have v5 := al_le t n gr p d'
          omega
    · unfold wpX10_look_131
      refine br_t (by rw [c]; exact nI_0) (hfin a' b' x' y' z' (Fr_tr hfr0 hfr) (LK_congr (fun k' l' d' => ?_) hL))
      constructor
      · rintro (u | u)
        · exact Or.inl u
        · exact Or.inr (Or.inl u)
      · rintro (u | u | ⟨u1, u2, u3⟩)
        · exact Or.inl u
        · exact Or.inr u
        · exfalso
          unfold agm at u3
          rw [if_neg (by omega)] at u3
          omega
  · unfold wpX10_look_131
    rw [nI_clamp (n := p) (by omega)]
    refine br_f (nI_ne0 (by omega) (by omega)) ⟨vp_in_nI (by omega) (by decide), ?_⟩
    rcases hma with ⟨m1, m2⟩ | ⟨l0, d0, m1, m2, m5⟩
    · rw [m1]
      refine br_t rfl (lk201 hC hp (by omega) hgo hB0 (LK_congr (fun k' l' d' => ?_) hL0) (fun a' b' x' y' z' hfr hL => hfin a' b' x' y' z' (Fr_tr hfr0 hfr) hL))
      constructor
      · exact fun u => Or.inl u
      · rintro (u | ⟨u, v⟩)
        · exact u
        · exact absurd v (m2 l' d')
    · have bv1 := vm_b hn hp hw hl.1 hg m1
      rw [m2, show (100 : Int32) = nI 100 from rfl, pk_rem (by omega) (by decide) (by decide), pk_div (by omega) (by decide) (by decide), show (100 * l0 + d0) / 100 = l0 by omega, show (100 * l0 + d0) % 100 = d0 by omega]
      refine br_f (nI_nm1 (by omega)) (sX10_bitsOf (K := 1) (Or.inr (Or.inl ⟨rfl, by omega, by omega⟩)) ?_)
      rw [nI_add p l0, jx65, nI_add (tbn 1 l0 d0)]
      refine offM hC (k := 1) (l := l0) (d := d0) (nx := 65 * (p + l0) + d0) (S := fun k' l' d' => k' = 0 ∧ l' = 1 ∧ d' = 0) (S' := fun k' l' d' => (k' = 0 ∧ l' = 1 ∧ d' = 0) ∨ (k' = 1 ∧ l' = l0 ∧ d' = d0)) hp hq (Or.inr (Or.inl ⟨rfl, m1⟩)) rfl (hB0 (p + l0) d0 (by omega) (by omega) (by omega)) (fun k' l' d' u => ⟨Or.inl u, by omega⟩) (fun k' l' d' => Iff.rfl) hL0 (fun a' b' x' y' z' hfr hL => ?_)
      have hL1 : LK W pr p q (S1 t n w le gr p) a' b' x' y' z' := by
        obtain ⟨k, l, d, s1, s2, s3⟩ := hL
        refine ⟨k, l, d, ?_, s2, fun k' l' d' u => ?_⟩
        · rcases s1 with s1 | ⟨v1, v2, v3⟩
          · exact Or.inl s1
          · rw [v1, v2, v3]
            exact Or.inr ⟨rfl, m1⟩
        · rcases u with u | ⟨u, v⟩
          · exact s3 k' l' d' (Or.inl u)
          · refine Nat.le_trans (s3 1 l0 d0 (Or.inr ⟨rfl, rfl, rfl⟩)) ?_
            rw [u]
            exact m5 l' d' v
      exact lk201 hC hp (by omega) hgo (Bh_fr hq hB0 hfr) hL1 (fun a2 b2 x2 y2 z2 hfr2 hL2 => hfin a2 b2 x2 y2 z2 (Fr_tr hfr0 (Fr_tr hfr hfr2)) hL2)

