-- the reference's best way
theorem jx65 (p q : Nat) : 65 * nI p + nI q = nI (65 * p + q) := by rw [show (65 : Int32) = nI 65 from rfl, pk_mul, nI_add]
theorem i_1a (x : Nat) : 1 + nI x = nI (1 + x) := by rw [show (1 : Int32) = nI 1 from rfl, nI_add]
theorem nI_nm1 {x : Nat} (h : x < 2 ^ 31) : ¬ nI x = -1 := fun z => by
  have := nI_pos h
  rw [z] at this
  exact this (by decide)
theorem b62 {t : Nat → Int32} {n p : Nat} {K : (Nat → Int32) → Prop} (hn : n ≤ 64) (hp : p < n) : ∀ (k fuel d : Nat) (mgo : Nat → Int32), d + k = p + 1 → 1 ≤ d → k < fuel → (∀ d', 1 ≤ d' → d' < d → mgo d' = nI (rl t n p d')) → (∀ mgo', (∀ d', 1 ≤ d' → d' ≤ p → mgo' d' = nI (rl t n p d')) → K mgo') → wpX10_best_62 (nI p) (nI n) t K fuel (nI d) mgo := by
  intro k
  induction k with
  | zero =>
    intro fuel d mgo h1 h2 hf hi h
    obtain ⟨f, rfl⟩ : ∃ f, fuel = f + 1 := ⟨fuel - 1, by omega⟩
    rw [wpX10_best_62]
    exact br_t (nI_lt (by omega) (by omega)) (h mgo (fun d' u1 u2 => hi d' u1 (by omega)))
  | succ k ih =>
    intro fuel d mgo h1 h2 hf hi h
    obtain ⟨f, rfl⟩ : ∃ f, fuel = f + 1 := ⟨fuel - 1, by omega⟩
    rw [wpX10_best_62]
    refine br_f (nI_nlt (by omega) (by omega)) (sX10_goesOn hn (by omega) (by omega) ⟨vp_in_nI (by omega) (by decide), ?_⟩)
    rw [nI_clamp (by omega), nI_1]
    refine ih f (d + 1) _ (by omega) (by omega) (by omega) (fun d' u1 u2 => ?_) h
    rcases Nat.lt_or_ge d' d with z | z
    · rw [pk_un (by omega)]
      exact hi d' u1 z
    · have : d' = d := by omega
      subst this
      exact pk_us
/-- the best MATCH of a set, as findMatch has it -/
def FM (W : Nat → Nat → Nat) (pr p : Nat) (S : Nat → Nat → Prop) (v2 v3 v4 : Int32) : Prop := (v2 = -1 ∧ ∀ l d, ¬ S l d) ∨ ∃ l d, S l d ∧ v2 = nI (100 * l + d) ∧ v3 = nI (wgt W pr p 0 1 l d / 128) ∧ v4 = nI (wgt W pr p 0 1 l d % 128) ∧ ∀ l' d', S l' d' → rk W pr p 0 1 l d ≤ rk W pr p 0 1 l' d'
theorem FM_congr {W : Nat → Nat → Nat} {pr p : Nat} {S S' : Nat → Nat → Prop} {a b c : Int32} (h : ∀ l d, S l d ↔ S' l d) (hM : FM W pr p S a b c) : FM W pr p S' a b c := by
  rcases hM with ⟨h1, h2⟩ | ⟨l, d, h1, h2, h3, h4, h5⟩
  · exact Or.inl ⟨h1, fun l d z => h2 l d ((h l d).mpr z)⟩
  · exact Or.inr ⟨l, d, (h l d).mp h1, h2, h3, h4, fun l' d' z => h5 l' d' ((h l' d').mpr z)⟩
def Sm (t : Nat → Int32) (n w le gr p l d l' d' : Nat) : Prop := VM t n w le gr p l' d' ∧ (l < l' ∨ (l' = l ∧ d' < d))
theorem f34 {t : Nat → Int32} {n w le gr pr : Nat} {W : Nat → Nat → Nat} {st : Nat → Nat → Nat × Nat × Nat} (hC : Ctx t n w le gr pr W st) {p l : Nat} {mco mct mgo : Nat → Int32} {K : Int32 → Int32 → Int32 → Prop} (hp : p < n) (hl2 : le ≤ l ∧ l ≤ gr ∧ l ≤ n - p) (he : ∀ l d, VM t n w le gr p l d → mco (65 * (p + l) + d) = nI (W (p + l) d / 128) ∧ mct (65 * (p + l) + d) = nI (W (p + l) d % 128)) (hgo : ∀ d', 1 ≤ d' → d' ≤ p → mgo d' = nI (rl t n p d')) : ∀ (k fuel d : Nat) (v2 v3 v4 : Int32), d + k = min p w + 1 → 1 ≤ d → k < fuel → FM W pr p (Sm t n w le gr p l d) v2 v3 v4 → (∀ v2' v3' v4', FM W pr p (Sm t n w le gr p (l - 1) 1) v2' v3' v4' → K v2' v3' v4') → wpX10_findMatch_34 (nI p) (nI l) (nI w) (nI pr) mco mct mgo K fuel v2 v3 v4 (nI d) := by
  obtain ⟨hn, hw, hl, hg, hpr, hT⟩ := id hC
  intro k
  induction k with
  | zero =>
    intro fuel d v2 v3 v4 h1 h2 hf hM h
    obtain ⟨f, rfl⟩ : ∃ f, fuel = f + 1 := ⟨fuel - 1, by omega⟩
    rw [wpX10_findMatch_34]
    refine sX10_farthest hw (by omega) (br_t (nI_lt (by omega) (by omega)) (h v2 v3 v4 (FM_congr (fun l' d' => ?_) hM)))
    constructor
    · rintro ⟨a, b⟩
      exact ⟨a, by omega⟩
    · rintro ⟨a, b⟩
      have a1 := a.1
      exact ⟨a, by omega⟩
  | succ k ih =>
    intro fuel d v2 v3 v4 h1 h2 hf hM h
    obtain ⟨f, rfl⟩ : ∃ f, fuel = f + 1 := ⟨fuel - 1, by omega⟩
    have br := rl_le t n p d
    rw [wpX10_findMatch_34]
    unfold wpX10_findMatch_148
    refine sX10_farthest hw (by omega) (br_f (nI_nlt (by omega) (by omega)) ⟨vp_in_nI (by omega) (by decide), ?_⟩)
    rw [nI_clamp (n := d) (by omega), hgo d h2 (by omega)]
    have nx : ∀ v2' v3' v4', FM W pr p (Sm t n w le gr p l (d + 1)) v2' v3' v4' → wpX10_findMatch_34 (nI p) (nI l) (nI w) (nI pr) mco mct mgo K f v2' v3' v4' (nI d + 1) := by
      intro v2' v3' v4' hM'
      rw [nI_1]
      exact ih f (d + 1) v2' v3' v4' (by omega) (by omega) (by omega) hM' h
    refine pk_le l (rl t n p d) (fun c => ?_) (fun c => ?_)
    · have hv : VM t n w le gr p l d := ⟨by omega, by omega, by unfold al; omega⟩
      have hS' : ∀ l' d', Sm t n w le gr p l (d + 1) l' d' ↔ (Sm t n w le gr p l d l' d' ∨ (l' = l ∧ d' = d)) := by
        intro l' d'
        constructor
        · rintro ⟨a, b⟩
          rcases b with b | ⟨b1, b2⟩
          · exact Or.inl ⟨a, Or.inl b⟩
          · rcases Nat.lt_or_ge d' d with z | z
            · exact Or.inl ⟨a, Or.inr ⟨b1, z⟩⟩
            · exact Or.inr ⟨b1, by omega⟩
        · rintro (⟨a, b⟩ | ⟨a, b⟩)
          · exact ⟨a, by omega⟩
          · rw [a, b]
            exact ⟨hv, Or.inr ⟨rfl, by omega⟩⟩
      have bv1 := vm_b hn hp hw hl.1 hg hv
      have bw := wgt_m hn hw hl.1 hg hpr hT (p := p) (q := 0) (k := 1) (l := l) (d := d) (by omega) (by omega) (by omega)
      obtain ⟨e1, e2⟩ := he l d hv
      refine sX10_bitsOf (K := 1) (Or.inr (Or.inl ⟨rfl, by omega, by omega⟩)) ?_
      rw [nI_add p l, jx65, nI_clamp (n := 65 * (p + l) + d) (by omega), e1, e2, nI_add (tbn 1 l d), nI_add, i_1a, show (100 : Int32) * nI l + nI d = nI (100 * l + d) by rw [show (100 : Int32) = nI 100 from rfl, pk_mul, nI_add]]
      have bw3 : wgt W pr p 0 1 l d = 128 * (tbn 1 l d + pr + W (p + l) d / 128) + (1 + W (p + l) d % 128) := bw.2.1
      have bw4 : 1 + W (p + l) d % 128 < 128 := bw.2.2
      rw [show tbn 1 l d + pr + W (p + l) d / 128 = wgt W pr p 0 1 l d / 128 by omega, show 1 + W (p + l) d % 128 = wgt W pr p 0 1 l d % 128 by omega]
      refine ⟨vp_in_nI (by omega) (by decide), ?_⟩
      have take : (∀ l' d', Sm t n w le gr p l d l' d' → rk W pr p 0 1 l d ≤ rk W pr p 0 1 l' d') → wpX10_findMatch_34 (nI p) (nI l) (nI w) (nI pr) mco mct mgo K f (nI (100 * l + d)) (nI (wgt W pr p 0 1 l d / 128)) (nI (wgt W pr p 0 1 l d % 128)) (nI d + 1) := by
        intro hmin
        refine nx _ _ _ (Or.inr ⟨l, d, (hS' l d).mpr (Or.inr ⟨rfl, rfl⟩), rfl, rfl, rfl, fun l' d' hs => ?_⟩)
        rcases (hS' l' d').mp hs with z | ⟨z1, z2⟩
        · exact hmin l' d' z
        · rw [z1, z2]
          exact Nat.le_refl _
      rcases hM with ⟨rfl, m2⟩ | ⟨l0, d0, m1, rfl, rfl, rfl, m5⟩
      · exact br_t rfl (take (fun l' d' z => absurd z (m2 l' d')))
      · have bv2 := vm_b hn hp hw hl.1 hg m1.1
        have bw2 := wgt_m hn hw hl.1 hg hpr hT (p := p) (q := 0) (k := 1) (l := l0) (d := d0) (by omega) (by omega) (by omega)
        have m6 := m1.2
        have keep : rk W pr p 0 1 l0 d0 ≤ rk W pr p 0 1 l d → wpX10_findMatch_34 (nI p) (nI l) (nI w) (nI pr) mco mct mgo K f (nI (100 * l0 + d0)) (nI (wgt W pr p 0 1 l0 d0 / 128)) (nI (wgt W pr p 0 1 l0 d0 % 128)) (nI d + 1) := by
          intro z
          refine nx _ _ _ (Or.inr ⟨l0, d0, (hS' l0 d0).mpr (Or.inl m1), rfl, rfl, rfl, fun l' d' hs => ?_⟩)
          rcases (hS' l' d').mp hs with y | ⟨y1, y2⟩
          · exact m5 l' d' y
          · rw [y1, y2]
            exact z
        have take2 := fun (z : rk W pr p 0 1 l d ≤ rk W pr p 0 1 l0 d0) => take (fun l' d' hs => Nat.le_trans z (m5 l' d' hs))
        have ua := bw.1
        have ub := bw2.1
        clear bw bw2 bw3
        refine br_f (nI_nm1 (by omega)) (pk_lt (wgt W pr p 0 1 l0 d0 / 128) (wgt W pr p 0 1 l d / 128) (fun c1 => ?_) (fun c1 => ?_))
        · exact keep (rk_of (by omega) (by omega) (by omega))
        · refine pk_eq (wgt W pr p 0 1 l d / 128) (wgt W pr p 0 1 l0 d0 / 128) (fun c2 => ?_) (fun c2 => ?_)
          · refine pk_lt (wgt W pr p 0 1 l d % 128) (wgt W pr p 0 1 l0 d0 % 128) (fun c3 => ?_) (fun c3 => ?_)
            · exact take2 (rk_of (by omega) (by omega) (by omega))
            · exact keep (rk_of (by omega) (by omega) (by omega))
          · exact take2 (rk_of (by omega) (by omega) (by omega))
    · refine nx _ _ _ (FM_congr (fun l' d' => ?_) hM)
      constructor
      · rintro ⟨a, b⟩
        exact ⟨a, by omega⟩
      · rintro ⟨a, b⟩
        refine ⟨a, ?_⟩
        rcases b with b | ⟨b1, b2⟩
        · exact Or.inl b
        · rcases Nat.lt_or_ge d' d with z | z
          · exact Or.inr ⟨b1, z⟩
          · exfalso
            have : d' = d := by omega
            subst this
            have a2 := a.2.2
            unfold al at a2
            omega
theorem f22 {t : Nat → Int32} {n w le gr pr : Nat} {W : Nat → Nat → Nat} {st : Nat → Nat → Nat × Nat × Nat} (hC : Ctx t n w le gr pr W st) {p : Nat} {mco mct mgo : Nat → Int32} {K : Int32 → Prop} (hp : p < n) (he : ∀ l d, VM t n w le gr p l d → mco (65 * (p + l) + d) = nI (W (p + l) d / 128) ∧ mct (65 * (p + l) + d) = nI (W (p + l) d % 128)) (hgo : ∀ d', 1 ≤ d' → d' ≤ p → mgo d' = nI (rl t n p d')) : ∀ (k fuel l : Nat) (v2 v3 v4 : Int32), l + 1 ≤ le + k → l ≤ min gr (n - p) → k < fuel → FM W pr p (Sm t n w le gr p l 1) v2 v3 v4 → (∀ v2' v3' v4', FM W pr p (VM t n w le gr p) v2' v3' v4' → K v2') → wpX10_findMatch_22 (nI p) (nI w) (nI le) (nI pr) mco mct mgo K fuel v2 v3 v4 (nI l) := by
  obtain ⟨hn, hw, hl, hg, hpr, hT⟩ := id hC
  have fin : ∀ l, l < le → ∀ l' d', Sm t n w le gr p l 1 l' d' ↔ VM t n w le gr p l' d' := by
    intro l hll l' d'
    constructor
    · exact fun a => a.1
    · intro a
      have a2 := a.2
      exact ⟨a, Or.inl (by omega)⟩
  intro k
  induction k with
  | zero =>
    intro fuel l v2 v3 v4 h1 h2 hf hM h
    obtain ⟨f, rfl⟩ : ∃ f, fuel = f + 1 := ⟨fuel - 1, by omega⟩
    rw [wpX10_findMatch_22]
    exact br_t (nI_lt (by omega) (by omega)) (h v2 v3 v4 (FM_congr (fin l (by omega)) hM))
  | succ k ih =>
    intro fuel l v2 v3 v4 h1 h2 hf hM h
    obtain ⟨f, rfl⟩ : ∃ f, fuel = f + 1 := ⟨fuel - 1, by omega⟩
    rw [wpX10_findMatch_22]
    refine pk_lt l le (fun c => h v2 v3 v4 (FM_congr (fin l c) hM)) (fun c => ?_)
    refine ⟨min p w + 1, f34 hC hp (by omega) he hgo (min p w) _ 1 v2 v3 v4 (by omega) (by omega) (by omega) hM (fun v2' v3' v4' hM' => ?_)⟩
    rw [i_m1, i_p1 (by omega)]
    exact ih f (l - 1) v2' v3' v4' (by omega) (by omega) (by omega) hM' h
/-- what mma has of a place -/
def FMm (t : Nat → Int32) (n w le gr pr : Nat) (W : Nat → Nat → Nat) (p : Nat) (v : Int32) : Prop := (v = -1 ∧ ∀ l d, ¬ VM t n w le gr p l d) ∨ ∃ l d, VM t n w le gr p l d ∧ v = nI (100 * l + d) ∧ ∀ l' d', VM t n w le gr p l' d' → rk W pr p 0 1 l d ≤ rk W pr p 0 1 l' d'
theorem sX10_findMatch {t : Nat → Int32} {n w le gr pr : Nat} {W : Nat → Nat → Nat} {st : Nat → Nat → Nat × Nat × Nat} (hC : Ctx t n w le gr pr W st) {p : Nat} {mco mct mgo mma : Nat → Int32} {post : (Nat → Int32) → Prop} (hp : p < n) (he : ∀ l d, VM t n w le gr p l d → mco (65 * (p + l) + d) = nI (W (p + l) d / 128) ∧ mct (65 * (p + l) + d) = nI (W (p + l) d % 128)) (hgo : ∀ d', 1 ≤ d' → d' ≤ p → mgo d' = nI (rl t n p d')) (h : ∀ mma', FMm t n w le gr pr W p (mma' p) → post mma') : wpX10_findMatch (nI n) (nI w) (nI le) (nI gr) (nI pr) mco mct mgo mma (nI p) post := by
  obtain ⟨hn, hw, hl, hg, hpr, hT⟩ := id hC
  unfold wpX10_findMatch
  rw [pk_sub (by omega), i_min _ _ (by omega) (by omega)]
  refine ⟨66, f22 hC hp he hgo 65 66 (min gr (n - p)) _ _ _ (by omega) (Nat.le_refl _) (by omega) (Or.inl ⟨rfl, fun l d z => ?_⟩) (fun v2 v3 v4 hM => ⟨vp_in_nI (by omega) (by decide), ?_⟩)⟩
  · have z1 := z.1.1
    have z2 := z.1.2
    have z3 := z.2
    have z4 := al_le t n gr p d
    omega
  · rw [nI_clamp (by omega)]
    refine h _ ?_
    rw [pk_us]
    rcases hM with ⟨m1, m2⟩ | ⟨l0, d0, m1, m2, m3, m4, m5⟩
    · exact Or.inl ⟨m1, m2⟩
    · exact Or.inr ⟨l0, d0, m1, m2, m5⟩
-- offers to a state
def AtS (s V k l d : Nat) (a b x y z : Nat → Int32) : Prop := (a s = nI (V / 128) ∧ b s = nI (V % 128)) ∧ x s = nI k ∧ y s = nI l ∧ z s = nI d
def Fr (s : Nat) (a b x y z a' b' x' y' z' : Nat → Int32) : Prop := ∀ i, i ≠ s → (a' i = a i ∧ b' i = b i) ∧ x' i = x i ∧ y' i = y i ∧ z' i = z i
theorem Fr_rf {s : Nat} {a b x y z : Nat → Int32} : Fr s a b x y z a b x y z := fun _ _ => ⟨⟨rfl, rfl⟩, rfl, rfl, rfl⟩
theorem Fr_tr {s : Nat} {a b x y z a' b' x' y' z' a2 b2 x2 y2 z2 : Nat → Int32} (h : Fr s a b x y z a' b' x' y' z') (h' : Fr s a' b' x' y' z' a2 b2 x2 y2 z2) : Fr s a b x y z a2 b2 x2 y2 z2 := fun i hi => by
  obtain ⟨⟨u1, u2⟩, u3, u4, u5⟩ := h i hi
  obtain ⟨⟨v1, v2⟩, v3, v4, v5⟩ := h' i hi
  exact ⟨⟨v1.trans u1, v2.trans u2⟩, v3.trans u3, v4.trans u4, v5.trans u5⟩
def LK (W : Nat → Nat → Nat) (pr p q : Nat) (S : Nat → Nat → Nat → Prop) (a b x y z : Nat → Int32) : Prop := ∃ k l d, S k l d ∧ AtS (65 * p + q) (wgt W pr p q k l d) k l d a b x y z ∧ ∀ k' l' d', S k' l' d' → rk W pr p q k l d ≤ rk W pr p q k' l' d'
theorem LK_congr {W : Nat → Nat → Nat} {pr p q : Nat} {S S' : Nat → Nat → Nat → Prop} {a b x y z : Nat → Int32} (h : ∀ k l d, S k l d ↔ S' k l d) (hL : LK W pr p q S a b x y z) : LK W pr p q S' a b x y z := by
  obtain ⟨k, l, d, h1, h2, h3⟩ := hL
  exact ⟨k, l, d, (h k l d).mp h1, h2, fun k' l' d' u => h3 k' l' d' ((h k' l' d').mpr u)⟩
theorem offM {t : Nat → Int32} {n w le gr pr : Nat} {W : Nat → Nat → Nat} {st : Nat → Nat → Nat × Nat × Nat} (hC : Ctx t n w le gr pr W st) {p q k l d nx : Nat} {S S' : Nat → Nat → Nat → Prop} {a b x y z : Nat → Int32} {post : (Nat → Int32) → (Nat → Int32) → (Nat → Int32) → (Nat → Int32) → (Nat → Int32) → Prop} (hp : p < n) (hq : q ≤ 64) (hc : Cand t n w le gr p q k l d) (hnx : nx = 65 * (p + l) + (if k = 0 then q else d)) (e : a nx = nI (W (p + l) (if k = 0 then q else d) / 128) ∧ b nx = nI (W (p + l) (if k = 0 then q else d) % 128)) (hS : ∀ k' l' d', S k' l' d' → Cand t n w le gr p q k' l' d' ∧ (k' < k ∨ (k' = k ∧ (l < l' ∨ (l' = l ∧ d' ≤ d))))) (hS' : ∀ k' l' d', S' k' l' d' ↔ (S k' l' d' ∨ (k' = k ∧ l' = l ∧ d' = d))) (hL : LK W pr p q S a b x y z) (h : ∀ a' b' x' y' z', Fr (65 * p + q) a b x y z a' b' x' y' z' → LK W pr p q S' a' b' x' y' z' → post a' b' x' y' z') : wpX10_offer a b x y z (nI (65 * p + q)) (nI k) (nI l) (nI d) (nI (tbn k l d + pr)) (nI nx) post := by
  obtain ⟨hn, hw, hl, hg, hpr, hT⟩ := id hC
  have b1 := cand_b hn hp hw hl.1 hg hq hc
  have hi : (if k = 0 then q else d) ≤ 64 := by split <;> omega
  have bw := wgt_m hn hw hl.1 hg hpr hT (p := p) (q := q) (k := k) (l := l) (d := d) (by omega) (by omega) (by omega)
  unfold wpX10_offer
  rw [nI_clamp (n := nx) (by omega), nI_clamp (n := 65 * p + q) (by omega), e.1, e.2, nI_add, i_1a]
  have u1 : tbn k l d + pr + W (p + l) (if k = 0 then q else d) / 128 = wgt W pr p q k l d / 128 := by omega
  have u2 : 1 + W (p + l) (if k = 0 then q else d) % 128 = wgt W pr p q k l d % 128 := by omega
  rw [u1, u2]
  have ub := bw.1
  clear u1 u2 bw e
  obtain ⟨k0, l0, d0, s1, ⟨⟨s2, s3⟩, s4, s5, s6⟩, s7⟩ := hL
  obtain ⟨s8, s9⟩ := hS k0 l0 d0 s1
  have b2 := cand_b hn hp hw hl.1 hg hq s8
  have bw2 := (wgt_m hn hw hl.1 hg hpr hT (p := p) (q := q) (k := k0) (l := l0) (d := d0) (by omega) (by omega) (by omega)).1
  refine ⟨vp_in_nI (by omega) (by decide), vp_in_nI (by omega) (by decide), ?_⟩
  have take : rk W pr p q k l d ≤ rk W pr p q k0 l0 d0 → wpX10_offer_67 (nI (65 * p + q)) (nI k) (nI l) (nI d) (nI (wgt W pr p q k l d / 128)) (nI (wgt W pr p q k l d % 128)) a b x y z post := by
    intro u
    unfold wpX10_offer_67
    rw [nI_clamp (by omega)]
    refine ⟨vp_in_nI (by omega) (by decide), h _ _ _ _ _ (fun i hi => ⟨⟨pk_un hi, pk_un hi⟩, pk_un hi, pk_un hi, pk_un hi⟩) ⟨k, l, d, (hS' k l d).mpr (Or.inr ⟨rfl, rfl, rfl⟩), ⟨⟨pk_us, pk_us⟩, pk_us, pk_us, pk_us⟩, fun k' l' d' hs => ?_⟩⟩
    rcases (hS' k' l' d').mp hs with v | ⟨v1, v2, v3⟩
    · exact Nat.le_trans u (s7 k' l' d' v)
    · rw [v1, v2, v3]
      exact Nat.le_refl _
  have keep : rk W pr p q k0 l0 d0 ≤ rk W pr p q k l d → post a b x y z := by
    intro u
    refine h a b x y z Fr_rf ⟨k0, l0, d0, (hS' k0 l0 d0).mpr (Or.inl s1), ⟨⟨s2, s3⟩, s4, s5, s6⟩, fun k' l' d' hs => ?_⟩
    rcases (hS' k' l' d').mp hs with v | ⟨v1, v2, v3⟩
    · exact s7 k' l' d' v
    · rw [v1, v2, v3]
      exact u
  rw [s2, s3]
  refine br_f (nI_nm1 (by omega)) (pk_lt (wgt W pr p q k0 l0 d0 / 128) (wgt W pr p q k l d / 128) (fun c1 => ?_) (fun c1 => ?_))
  · exact keep (rk_of (by omega) (by omega) (by omega))
  · refine pk_eq (wgt W pr p q k l d / 128) (wgt W pr p q k0 l0 d0 / 128) (fun c2 => ?_) (fun c2 => ?_)
    · refine pk_lt (wgt W pr p q k l d % 128) (wgt W pr p q k0 l0 d0 % 128) (fun c3 => ?_) (fun c3 => ?_)
      · exact take (rk_of (by omega) (by omega) (by omega))
      · exact keep (rk_of (by omega) (by omega) (by omega))
    · exact take (rk_of (by omega) (by omega) (by omega))

