-- how long the text goes on as it did ahead
def rlk (t : Nat → Int32) (d : Nat) : Nat → Nat → Nat
  | 0, _ => 0
  | k + 1, p => if t p = t (p - d) then rlk t d k (p + 1) + 1 else 0
def rl (t : Nat → Int32) (n p d : Nat) : Nat := rlk t d (n - p) p
theorem rlk_le (t : Nat → Int32) (d : Nat) : ∀ k p, rlk t d k p ≤ k
  | 0, _ => Nat.le_refl 0
  | k + 1, p => by
    rw [rlk]
    have := rlk_le t d k (p + 1)
    split <;> omega
theorem rl_le (t : Nat → Int32) (n p d : Nat) : rl t n p d ≤ n - p := rlk_le t d (n - p) p
theorem rl_ge {t : Nat → Int32} {n p d : Nat} (h : n ≤ p) : rl t n p d = 0 := by
  have := rl_le t n p d
  omega
theorem rl_lt {t : Nat → Int32} {n p d : Nat} (h : p < n) : rl t n p d = if t p = t (p - d) then rl t n (p + 1) d + 1 else 0 := by
  unfold rl
  rw [show n - p = (n - (p + 1)) + 1 by omega, rlk]
theorem i_min (a b : Nat) (ha : a < 2 ^ 31) (hb : b < 2 ^ 31) : (if nI b < nI a then nI b else nI a) = nI (min a b) := by
  by_cases h : b < a
  · rw [if_pos (nI_lt h ha), Nat.min_eq_right (by omega)]
  · rw [if_neg (nI_nlt (by omega) hb), Nat.min_eq_left (by omega)]
theorem i_max (a b : Nat) (ha : a < 2 ^ 31) (hb : b < 2 ^ 31) : (if nI a < nI b then nI b else nI a) = nI (max a b) := by
  by_cases h : a < b
  · rw [if_pos (nI_lt h hb), Nat.max_eq_right (by omega)]
  · rw [if_neg (nI_nlt (by omega) ha), Nat.max_eq_left (by omega)]
theorem sfX {t : Nat → Int32} {n d : Nat} {K : Int32 → Prop} (hn : n ≤ 64) : ∀ (fuel q : Nat), q ≤ n → d ≤ q → n - q < fuel → K (nI (q + rl t n q d)) → wpX8_sameFrom_14 (nI d) (nI n) t K fuel (nI q) := by
  intro fuel
  induction fuel with
  | zero => intro q _ _ h; omega
  | succ f ih =>
    intro q hq hd hf h
    rw [wpX8_sameFrom_14]
    refine pk_le n q (fun c => ?_) (fun c => ?_)
    · rw [rl_ge c] at h
      exact h
    · rw [pk_sub hd, nI_clamp (by omega), nI_clamp (by omega), nI_1]
      refine ⟨vp_in_nI (by omega) (by decide), vp_in_nI (by omega) (by decide), ?_⟩
      rw [rl_lt c] at h
      by_cases e : t q = t (q - d)
      · rw [if_pos e] at h
        exact br_t e (ih (q + 1) (by omega) (by omega) (by omega) (by rw [show q + 1 + rl t n (q + 1) d = q + (rl t n (q + 1) d + 1) by omega]; exact h))
      · rw [if_neg e] at h
        exact br_f e h
/-- Text.sameFrom -/
theorem sX8_sameFrom {t : Nat → Int32} {n p d : Nat} {post : Int32 → Prop} (hn : n ≤ 64) (hp : p ≤ n) (hd : d ≤ 64) (h : post (nI (if 1 ≤ d ∧ d ≤ p then rl t n p d else 0))) : wpX8_sameFrom (nI n) t (nI p) (nI d) post := by
  refine pk_lt d 1 (fun c => ?_) (fun c => ?_)
  · rw [if_neg (by omega)] at h
    exact h
  · refine pk_le d p (fun e => ?_) (fun e => ?_)
    · rw [if_pos ⟨c, e⟩] at h
      refine ⟨n - p + 1, sfX hn _ p hp e (by omega) ?_⟩
      rw [pk_sub (by omega), show p + rl t n p d - p = rl t n p d by omega]
      exact h
    · rw [if_neg (by omega)] at h
      exact h
theorem goM {t : Nat → Int32} {n p d : Nat} {K : Int32 → Prop} (hn : n ≤ 64) (hd : d ≤ p) : ∀ (fuel i : Nat), p + i ≤ n → n - (p + i) < fuel → K (nI (i + rl t n (p + i) d)) → wpX10_goesOn_2 (nI p) (nI d) (nI n) t K fuel (nI i) := by
  intro fuel
  induction fuel with
  | zero => intro i _ h; omega
  | succ f ih =>
    intro i hi hf h
    rw [wpX10_goesOn_2, nI_add]
    refine pk_le n (p + i) (fun c => ?_) (fun c => ?_)
    · rw [rl_ge c] at h
      exact h
    · rw [pk_sub (by omega), nI_clamp (by omega), nI_clamp (by omega), nI_1]
      refine ⟨vp_in_nI (by omega) (by decide), vp_in_nI (by omega) (by decide), ?_⟩
      rw [rl_lt c] at h
      by_cases e : t (p + i) = t (p + i - d)
      · rw [if_pos e] at h
        exact br_t e (ih (i + 1) (by omega) (by omega) (by rw [show i + 1 + rl t n (p + (i + 1)) d = i + (rl t n (p + i + 1) d + 1) by rw [show p + (i + 1) = p + i + 1 by omega]; omega]; exact h))
      · rw [if_neg e] at h
        exact br_f e h
/-- the reference's goesOn -/
theorem sX10_goesOn {t : Nat → Int32} {n p d : Nat} {post : Int32 → Prop} (hn : n ≤ 64) (hp : p ≤ n) (hd : d ≤ p) (h : post (nI (rl t n p d))) : wpX10_goesOn (nI n) t (nI p) (nI d) post :=
  ⟨n - p + 1, goM hn hd _ 0 (by omega) (by omega) (by rw [Nat.zero_add]; exact h)⟩
-- matches
/-- the greatest length with a distance -/
def al (t : Nat → Int32) (n gr p d : Nat) : Nat := min (rl t n p d) gr
theorem al_le (t : Nat → Int32) (n gr p d : Nat) : al t n gr p d ≤ gr ∧ al t n gr p d ≤ n - p := by
  have := rl_le t n p d
  unfold al
  omega
def mx (f : Nat → Nat) : Nat → Nat
  | 0 => 0
  | k + 1 => max (mx f k) (f (k + 1))
def cutl (le : Nat) (x : Nat) : Nat := if x < le then 0 else x
/-- longest, and nearest -/
def lg (t : Nat → Int32) (n w le gr p : Nat) : Nat := cutl le (mx (al t n gr p) (min p w))
def fs (f : Nat → Nat) (m : Nat) : Nat → Nat → Nat
  | 0, _ => 0
  | k + 1, d => if f d = m then d else fs f m k (d + 1)
def nr (t : Nat → Int32) (n w gr p m : Nat) : Nat := if m = 0 then 0 else fs (al t n gr p) m (min p w) 1
theorem mx_le {f : Nat → Nat} {b : Nat} (h : ∀ d, f d ≤ b) : ∀ k, mx f k ≤ b
  | 0 => Nat.zero_le b
  | k + 1 => by
    rw [mx]
    have := mx_le h k
    have := h (k + 1)
    omega
theorem mx_ge {f : Nat → Nat} : ∀ {k d : Nat}, 1 ≤ d → d ≤ k → f d ≤ mx f k
  | 0, d, h1, h2 => by omega
  | k + 1, d, h1, h2 => by
    rw [mx]
    rcases Nat.lt_or_ge k d with q | q
    · have : d = k + 1 := by omega
      subst this
      omega
    · have := mx_ge (f := f) h1 q
      omega
theorem mx_at {f : Nat → Nat} : ∀ {k : Nat}, 0 < mx f k → ∃ d, 1 ≤ d ∧ d ≤ k ∧ f d = mx f k
  | 0, h => by simp [mx] at h
  | k + 1, h => by
    rw [mx] at h ⊢
    rcases Nat.lt_or_ge (mx f k) (f (k + 1)) with q | q
    · exact ⟨k + 1, by omega, by omega, by omega⟩
    · obtain ⟨d, h1, h2, h3⟩ := mx_at (f := f) (k := k) (by omega)
      exact ⟨d, h1, by omega, by omega⟩
theorem mx_cut {f : Nat → Nat} {le : Nat} : ∀ k, mx (fun d => cutl le (f d)) k = cutl le (mx f k)
  | 0 => by unfold cutl mx; split <;> rfl
  | k + 1 => by
    rw [mx, mx, mx_cut k]
    unfold cutl
    rcases Nat.lt_or_ge (mx f k) le with a | a <;> rcases Nat.lt_or_ge (f (k + 1)) le with b | b
    · rw [if_pos a, if_pos b, if_pos (by omega)]; rfl
    · rw [if_pos a, if_neg (by omega), if_neg (by omega)]; omega
    · rw [if_neg (by omega), if_pos b, if_neg (by omega)]; omega
    · rw [if_neg (by omega), if_neg (by omega), if_neg (by omega)]
theorem lg_le (t : Nat → Int32) (n w le gr p : Nat) : lg t n w le gr p ≤ gr ∧ lg t n w le gr p ≤ n - p := by
  have h1 := mx_le (f := al t n gr p) (b := gr) (fun d => (al_le t n gr p d).1) (min p w)
  have h2 := mx_le (f := al t n gr p) (b := n - p) (fun d => (al_le t n gr p d).2) (min p w)
  unfold lg cutl
  split <;> omega
theorem fs_spec {f : Nat → Nat} {m : Nat} : ∀ {k d e : Nat}, d ≤ e → e < d + k → f e = m → (∃ z, fs f m k d = z ∧ d ≤ z ∧ z ≤ e ∧ f z = m ∧ ∀ y, d ≤ y → y < z → f y ≠ m)
  | 0, d, e, h1, h2, _ => by omega
  | k + 1, d, e, h1, h2, h3 => by
    rw [fs]
    by_cases q : f d = m
    · rw [if_pos q]
      exact ⟨d, rfl, Nat.le_refl d, h1, q, fun y a b => by omega⟩
    · rw [if_neg q]
      have hde : d ≠ e := fun z => q (z ▸ h3)
      obtain ⟨z, e1, e2, e3, e4, e5⟩ := fs_spec (f := f) (m := m) (k := k) (d := d + 1) (e := e) (by omega) (by omega) h3
      refine ⟨z, e1, by omega, e3, e4, fun y a b => ?_⟩
      rcases Nat.lt_or_ge d y with u | u
      · exact e5 y (by omega) b
      · have : y = d := by omega
        subst this
        exact q
/-- what nearest tells where a match stands -/
theorem nr_spec {t : Nat → Int32} {n w le gr p : Nat} (hle : 1 ≤ le) (h : 0 < lg t n w le gr p) : 1 ≤ nr t n w gr p (lg t n w le gr p) ∧ nr t n w gr p (lg t n w le gr p) ≤ min p w ∧ al t n gr p (nr t n w gr p (lg t n w le gr p)) = lg t n w le gr p ∧ ∀ y, 1 ≤ y → y < nr t n w gr p (lg t n w le gr p) → al t n gr p y ≠ lg t n w le gr p := by
  have hx : lg t n w le gr p = mx (al t n gr p) (min p w) := by
    unfold lg cutl at h ⊢
    split
    · rename_i q; rw [if_pos q] at h; omega
    · rfl
  obtain ⟨e, e1, e2, e3⟩ := mx_at (f := al t n gr p) (k := min p w) (by omega)
  obtain ⟨z, z1, z2, z3, z4, z5⟩ := fs_spec (f := al t n gr p) (m := lg t n w le gr p) (k := min p w) (d := 1) (e := e) e1 (by omega) (by rw [hx]; exact e3)
  have hz : nr t n w gr p (lg t n w le gr p) = z := by unfold nr; rw [if_neg (by omega), z1]
  rw [hz]
  exact ⟨z2, by omega, z4, z5⟩
theorem sX3_againLength {t : Nat → Int32} {n gr p d : Nat} {post : Int32 → Prop} (hn : n ≤ 64) (hg : gr ≤ 64) (hp : p ≤ n) (hd : d ≤ 64) (h : post (nI (if 1 ≤ d ∧ d ≤ p then al t n gr p d else 0))) : wpX3_againLength (nI n) t (nI gr) (nI p) (nI d) post := by
  refine sX8_sameFrom hn hp hd ?_
  have := rl_le t n p d
  by_cases c : 1 ≤ d ∧ d ≤ p
  · rw [if_pos c] at h ⊢
    rw [i_min _ _ (by omega) (by omega)]
    exact h
  · rw [if_neg c] at h ⊢
    rw [i_min _ _ (by omega) (by omega), Nat.min_eq_left (Nat.zero_le gr)]
    exact h
theorem mlX {t : Nat → Int32} {n gr p F : Nat} {K : Int32 → Prop} (hn : n ≤ 64) (hg : gr ≤ 64) (hp : p ≤ n) (hF : F ≤ p) : ∀ (k fuel d : Nat), d + k = F + 1 → 1 ≤ d → k < fuel → K (nI (mx (al t n gr p) F)) → wpX3_matchLength_17 (nI p) (nI F) (nI n) t (nI gr) K fuel (nI (mx (al t n gr p) (d - 1))) (nI d) := by
  intro k
  induction k with
  | zero =>
    intro fuel d hd h1 hf h
    obtain ⟨f, rfl⟩ : ∃ f, fuel = f + 1 := ⟨fuel - 1, by omega⟩
    rw [wpX3_matchLength_17]
    refine br_t (nI_lt (by omega) (by omega)) ?_
    rw [show d - 1 = F by omega]
    exact h
  | succ k ih =>
    intro fuel d hd h1 hf h
    obtain ⟨f, rfl⟩ : ∃ f, fuel = f + 1 := ⟨fuel - 1, by omega⟩
    rw [wpX3_matchLength_17]
    refine br_f (nI_nlt (by omega) (by omega)) (sX3_againLength hn hg hp (by omega) ?_)
    have e0 : (if 1 ≤ d ∧ d ≤ p then al t n gr p d else 0) = al t n gr p d := if_pos ⟨h1, by omega⟩
    rw [e0]
    have b1 := mx_le (f := al t n gr p) (b := gr) (fun d => (al_le t n gr p d).1) (d - 1)
    have b2 := (al_le t n gr p d).1
    rw [i_max _ _ (by omega) (by omega), nI_1]
    have := ih f (d + 1) (by omega) (by omega) (by omega) h
    rw [show d + 1 - 1 = (d - 1) + 1 by omega, mx, show d - 1 + 1 = d by omega] at this
    exact this
/-- Finder.matchLength -/
theorem sX3_matchLength {t : Nat → Int32} {n w le gr p : Nat} {post : Int32 → Prop} (hn : n ≤ 64) (hw : w ≤ 64) (hl : le ≤ 64) (hg : gr ≤ 64) (hp : p ≤ n) (h : post (nI (lg t n w le gr p))) : wpX3_matchLength (nI n) t (nI w) (nI le) (nI gr) (nI p) post := by
  unfold wpX3_matchLength
  rw [i_min p w (by omega) (by omega)]
  refine ⟨min p w + 1, ?_⟩
  have h0 := mlX (t := t) (F := min p w) (K := fun v3 => (nI le ≤ v3 → post v3) ∧ (¬ nI le ≤ v3 → post 0)) hn hg hp (by omega) (min p w) (min p w + 1) 1 (by omega) (by omega) (by omega)
  refine h0 ?_
  have b1 := mx_le (f := al t n gr p) (b := gr) (fun d => (al_le t n gr p d).1) (min p w)
  unfold lg cutl at h
  refine pk_le le (mx (al t n gr p) (min p w)) (fun c => ?_) (fun c => ?_)
  · rw [if_neg (by omega)] at h
    exact h
  · rw [if_pos c] at h
    exact h
theorem mdX {t : Nat → Int32} {n gr p m F : Nat} {K : Int32 → Prop} {K9 : Prop} (hn : n ≤ 64) (hg : gr ≤ 64) (hp : p ≤ n) (hF : F ≤ p) (hm : m ≤ 64) : ∀ (k fuel d : Nat), d + k = F + 1 → 1 ≤ d → k < fuel → (fs (al t n gr p) m k d = 0 → K9) → (fs (al t n gr p) m k d ≠ 0 → K (nI (fs (al t n gr p) m k d))) → wpX3_matchDistance_23 (nI p) (nI m) (nI F) (nI n) t (nI gr) K K9 fuel (nI d) := by
  intro k
  induction k with
  | zero =>
    intro fuel d hd h1 hf h h2
    obtain ⟨f, rfl⟩ : ∃ f, fuel = f + 1 := ⟨fuel - 1, by omega⟩
    rw [wpX3_matchDistance_23]
    exact br_t (nI_lt (by omega) (by omega)) (h rfl)
  | succ k ih =>
    intro fuel d hd h1 hf h h2
    obtain ⟨f, rfl⟩ : ∃ f, fuel = f + 1 := ⟨fuel - 1, by omega⟩
    rw [wpX3_matchDistance_23]
    refine br_f (nI_nlt (by omega) (by omega)) (sX3_againLength hn hg hp (by omega) ?_)
    rw [if_pos ⟨h1, by omega⟩]
    have b2 := (al_le t n gr p d).1
    rw [fs] at h h2
    refine pk_eq (al t n gr p d) m (fun c => ?_) (fun c => ?_)
    · rw [if_pos c] at h2
      exact h2 (by omega)
    · rw [if_neg c] at h h2
      rw [nI_1]
      exact ih f (d + 1) (by omega) (by omega) (by omega) h h2
/-- Finder.matchDistance -/
theorem sX3_matchDistance {t : Nat → Int32} {n w gr p m : Nat} {post : Int32 → Prop} (hn : n ≤ 64) (hw : w ≤ 64) (hg : gr ≤ 64) (hp : p ≤ n) (hm : m ≤ 64) (h : post (nI (nr t n w gr p m))) : wpX3_matchDistance (nI n) t (nI w) (nI gr) (nI p) (nI m) post := by
  unfold wpX3_matchDistance
  rw [i_min p w (by omega) (by omega)]
  unfold nr at h
  refine pk_eq m 0 (fun c => ?_) (fun c => ?_)
  · rw [if_pos c] at h
    exact ⟨1, mdX (F := 0) hn hg hp (by omega) hm 0 1 1 (by omega) (by omega) (by omega) (fun _ => h) (fun q => absurd rfl q)⟩
  · rw [if_neg c] at h
    exact ⟨min p w + 1, mdX (F := min p w) hn hg hp (by omega) hm (min p w) _ 1 (by omega) (by omega) (by omega) (fun q => by rw [q] at h; exact h) (fun _ => h)⟩
/-- the reference's matchWith -/
theorem sX10_matchWith {t : Nat → Int32} {n le gr p d : Nat} {post : Int32 → Prop} (hn : n ≤ 64) (hl : le ≤ 64) (hg : gr ≤ 64) (hp : p ≤ n) (hd : d ≤ p) (h : post (nI (cutl le (al t n gr p d)))) : wpX10_matchWith (nI n) (nI le) (nI gr) t (nI p) (nI d) post := by
  refine sX10_goesOn hn hp hd ?_
  have := rl_le t n p d
  rw [i_min _ _ (by omega) (by omega)]
  unfold cutl al at h
  refine pk_le le (min (rl t n p d) gr) (fun c => ?_) (fun c => ?_)
  · rw [if_neg (by omega)] at h
    exact h
  · rw [if_pos c] at h
    exact h
theorem sX10_farthest {w p : Nat} {post : Int32 → Prop} (hw : w ≤ 64) (hp : p ≤ 64) (h : post (nI (min p w))) : wpX10_farthest (nI w) (nI p) post := by
  unfold wpX10_farthest
  rw [i_min w p (by omega) (by omega), Nat.min_comm]
  exact h
theorem laM {t : Nat → Int32} {n w le gr p : Nat} {K : Int32 → Prop} (hn : n ≤ 64) (hw : w ≤ 64) (hl : le ≤ 64) (hg : gr ≤ 64) (hp : p ≤ n) : ∀ (k fuel d : Nat), d + k = min p w + 1 → 1 ≤ d → k < fuel → K (nI (lg t n w le gr p)) → wpX10_longestAt_4 (nI p) (nI n) (nI w) (nI le) (nI gr) t K fuel (nI (mx (fun d => cutl le (al t n gr p d)) (d - 1))) (nI d) := by
  intro k
  induction k with
  | zero =>
    intro fuel d hd h1 hf h
    obtain ⟨f, rfl⟩ : ∃ f, fuel = f + 1 := ⟨fuel - 1, by omega⟩
    rw [wpX10_longestAt_4]
    refine sX10_farthest hw (by omega) (br_t (nI_lt (by omega) (by omega)) ?_)
    rw [show d - 1 = min p w by omega, mx_cut]
    exact h
  | succ k ih =>
    intro fuel d hd h1 hf h
    obtain ⟨f, rfl⟩ : ∃ f, fuel = f + 1 := ⟨fuel - 1, by omega⟩
    rw [wpX10_longestAt_4]
    refine sX10_farthest hw (by omega) (br_f (nI_nlt (by omega) (by omega)) (sX10_matchWith hn hl hg hp (by omega) ?_))
    have b0 : ∀ d, cutl le (al t n gr p d) ≤ gr := fun d => by have := (al_le t n gr p d).1; unfold cutl; split <;> omega
    have b1 := mx_le b0 (d - 1)
    have b2 := b0 d
    rw [i_max _ _ (by omega) (by omega), nI_1]
    have := ih f (d + 1) (by omega) (by omega) (by omega) h
    rw [show d + 1 - 1 = (d - 1) + 1 by omega, mx, show d - 1 + 1 = d by omega] at this
    exact this
/-- the reference's longestAt -/
theorem sX10_longestAt {t : Nat → Int32} {n w le gr p : Nat} {post : Int32 → Prop} (hn : n ≤ 64) (hw : w ≤ 64) (hl : le ≤ 64) (hg : gr ≤ 64) (hp : p ≤ n) (h : post (nI (lg t n w le gr p))) : wpX10_longestAt (nI n) (nI w) (nI le) (nI gr) t (nI p) post :=
  ⟨min p w + 1, laM hn hw hl hg hp (min p w) _ 1 (by omega) (by omega) (by omega) h⟩
theorem naM {t : Nat → Int32} {n le gr p m z : Nat} {K : Int32 → Prop} (hn : n ≤ 64) (hl : le ≤ 64) (hg : gr ≤ 64) (hp : p ≤ n) (hm : 0 < m ∧ m ≤ 64) (hz : z ≤ p) (hle : le ≤ m) (ha : al t n gr p z = m) (hb : ∀ y, 1 ≤ y → y < z → al t n gr p y < m) : ∀ (k fuel d : Nat), d + k = z → 1 ≤ d → k < fuel → K (nI z) → wpX10_nearestAt_8 (nI p) (nI m) (nI n) (nI le) (nI gr) t K fuel (nI d) := by
  intro k
  induction k with
  | zero =>
    intro fuel d hd h1 hf h
    obtain ⟨f, rfl⟩ : ∃ f, fuel = f + 1 := ⟨fuel - 1, by omega⟩
    have hdz : d = z := by omega
    subst hdz
    rw [wpX10_nearestAt_8]
    refine br_f (nI_nle hm.1 (by omega)) (sX10_matchWith hn hl hg hp (by omega) ?_)
    rw [ha]
    unfold cutl
    rw [if_neg (by omega)]
    exact br_t (nI_le (Nat.le_refl m) (by omega)) h
  | succ k ih =>
    intro fuel d hd h1 hf h
    obtain ⟨f, rfl⟩ : ∃ f, fuel = f + 1 := ⟨fuel - 1, by omega⟩
    rw [wpX10_nearestAt_8]
    refine br_f (nI_nle hm.1 (by omega)) (sX10_matchWith hn hl hg hp (by omega) ?_)
    have b := hb d h1 (by omega)
    have b2 : cutl le (al t n gr p d) < m := by unfold cutl; split <;> omega
    refine br_f (nI_ge b2 (by omega)) ?_
    rw [nI_1]
    exact ih f (d + 1) (by omega) (by omega) (by omega) h
/-- the reference's nearestAt -/
theorem sX10_nearestAt {t : Nat → Int32} {n w le gr p : Nat} {post : Int32 → Prop} (hn : n ≤ 64) (hw : w ≤ 64) (hl : 1 ≤ le ∧ le ≤ 64) (hg : gr ≤ 64) (hp : p ≤ n) (h : post (nI (nr t n w gr p (lg t n w le gr p)))) : wpX10_nearestAt (nI n) (nI w) (nI le) (nI gr) t (nI p) post := by
  refine sX10_longestAt hn hw hl.2 hg hp ?_
  have hb := lg_le t n w le gr p
  rcases Nat.eq_zero_or_pos (lg t n w le gr p) with q | q
  · refine ⟨1, ?_⟩
    rw [wpX10_nearestAt_8, q]
    refine br_t (by decide) (br_t rfl ?_)
    rw [q] at h
    exact h
  · obtain ⟨s1, s2, s3, s4⟩ := nr_spec hl.1 q
    have hx : lg t n w le gr p = mx (al t n gr p) (min p w) := by
      unfold lg cutl at q ⊢
      split
      · rename_i u; rw [if_pos u] at q; omega
      · rfl
    have hle : le ≤ lg t n w le gr p := by
      unfold lg cutl at q ⊢
      split
      · rename_i u; rw [if_pos u] at q; omega
      · omega
    refine ⟨nr t n w gr p (lg t n w le gr p) + 1, naM hn hl.2 hg hp ⟨q, by omega⟩ (by omega) hle s3 (fun y y1 y2 => ?_) (nr t n w gr p (lg t n w le gr p) - 1) _ 1 (by omega) (by omega) (by omega) (br_f (nI_ne0 q (by omega)) h)⟩
    have h1 := mx_ge (f := al t n gr p) (k := min p w) (d := y) y1 (by omega)
    have h2 := s4 y y1 y2
    omega
-- how many bits a number has
def wdt (n : Nat) : Nat := if n < 2 then 1 else if n < 4 then 3 else if n < 8 then 5 else if n < 16 then 7 else if n < 32 then 9 else if n < 64 then 11 else if n < 128 then 13 else 15
theorem wdt_le (n : Nat) : 1 ≤ wdt n ∧ wdt n ≤ 15 := by unfold wdt; (repeat' split) <;> omega
theorem sX2_numberBits {n : Nat} {post : Int32 → Prop} (hn : n < 256) (h : post (nI (wdt n))) : wpX2_numberBits (nI n) post := by
  unfold wdt at h
  refine pk_le 16 n (fun a => pk_le 64 n (fun b => pk_le 128 n (fun c => ?_) (fun c => ?_)) (fun b => pk_le 32 n (fun c => ?_) (fun c => ?_))) (fun a => pk_le 4 n (fun b => pk_le 8 n (fun c => ?_) (fun c => ?_)) (fun b => pk_le 2 n (fun c => ?_) (fun c => ?_)))
  · rw [if_neg (by omega), if_neg (by omega), if_neg (by omega), if_neg (by omega), if_neg (by omega), if_neg (by omega), if_neg (by omega)] at h; exact h
  · rw [if_neg (by omega), if_neg (by omega), if_neg (by omega), if_neg (by omega), if_neg (by omega), if_neg (by omega), if_pos (by omega)] at h; exact h
  · rw [if_neg (by omega), if_neg (by omega), if_neg (by omega), if_neg (by omega), if_neg (by omega), if_pos (by omega)] at h; exact h
  · rw [if_neg (by omega), if_neg (by omega), if_neg (by omega), if_neg (by omega), if_pos (by omega)] at h; exact h
  · rw [if_neg (by omega), if_neg (by omega), if_neg (by omega), if_pos (by omega)] at h; exact h
  · rw [if_neg (by omega), if_neg (by omega), if_pos (by omega)] at h; exact h
  · rw [if_neg (by omega), if_pos (by omega)] at h; exact h
  · rw [if_pos (by omega)] at h; exact h
def wdS (n : Nat) : Nat → Nat → Int32
  | 0, b => 0
  | f + 1, b => if nI n >>> (nI b &&& 31) ≤ 0 then nI b else wdS n f (b + 1)
theorem wdM {n : Nat} {K : Int32 → Prop} : ∀ (f b : Nat), wdS n f b ≠ 0 ∨ True → (∀ q, q = wdS n f b → q ≠ 0 ∨ (f = 1) → K q) → (wdS n f b ≠ 0) → wpX10_width_2 (nI n) K f (nI b)
  | 0, b, _, _, h => absurd rfl h
  | f + 1, b, _, hk, h => by
    rw [wpX10_width_2]
    by_cases c : nI n >>> (nI b &&& 31) ≤ 0
    · refine br_t c (hk _ ?_ (Or.inl ?_))
      · rw [wdS, if_pos c]
      · rw [wdS, if_pos c] at h; exact h
    · rw [wdS, if_neg c] at h
      refine br_f c ?_
      rw [nI_1]
      exact wdM f (b + 1) (Or.inr trivial) (fun q hq _ => hk q (by rw [wdS, if_neg c]; exact hq) (Or.inl (by rw [hq]; exact h))) h
theorem wd_tab : ∀ n, n < 256 → 0 < n → wdS n 10 0 ≠ 0 ∧ 2 * wdS n 10 0 - 1 = nI (wdt n) := by decide +kernel
/-- the reference's width -/
theorem sX10_width {n : Nat} {post : Int32 → Prop} (h0 : 0 < n) (hn : n < 256) (h : post (nI (wdt n))) : wpX10_width (nI n) post := by
  obtain ⟨h1, h2⟩ := wd_tab n hn h0
  refine ⟨10, wdM 10 0 (Or.inr trivial) (fun q hq _ => ?_) h1⟩
  rw [hq, h2]
  exact h
set_option maxHeartbeats 1000000 in
theorem cs_752 {L : Nat} {xs : Nat → Int32} {v5 : Int32} {tn : Int32} {tb : Nat → Int32} {sw : Int32} {sl : Int32} {sg : Int32} {sp : Int32} {ww : Nat → Int32} {wr : Nat → Int32} {wm : Nat → Int32} {wl : Nat → Int32} {wd : Nat → Int32} {pn : Int32} {pch : Int32} {pk : Nat → Int32} {pl : Nat → Int32} {pd : Nat → Int32} {ps : Nat → Int32} {bn : Int32} {br : Nat → Int32} {rn : Int32} {rf : Int32} {rx : Int32} {rp : Int32} {rb : Nat → Int32} {mth : Int32} {msz : Int32} {mwi : Int32} {mle : Int32} {mgr : Int32} {mpr : Int32} {mhp : Int32} {mtk : Int32} {mbn : Int32} {mmd : Int32} {mep : Int32} {mat : Int32} {mer : Int32} {mtx : Nat → Int32} {mki : Nat → Int32} {mln : Nat → Int32} {mdi : Nat → Int32} {mst : Nat → Int32} {mbi : Nat → Int32} {mou : Nat → Int32} {mco : Nat → Int32} {mct : Nat → Int32} {mfk : Nat → Int32} {mfl : Nat → Int32} {mfd : Nat → Int32} {mgo : Nat → Int32} {mma : Nat → Int32} {ov : Nat → Int64} {od : Nat → UInt64} {KB : Int32 → Int32 → (Nat → Int32) → Int32 → Int32 → Int32 → Int32 → (Nat → Int32) → (Nat → Int32) → (Nat → Int32) → (Nat → Int32) → (Nat → Int32) → Int32 → Int32 → (Nat → Int32) → (Nat → Int32) → (Nat → Int32) → (Nat → Int32) → Int32 → (Nat → Int32) → Int32 → Int32 → Int32 → Int32 → (Nat → Int32) → Int32 → Int32 → Int32 → Int32 → Int32 → Int32 → Int32 → Int32 → Int32 → Int32 → Int32 → Int32 → Int32 → (Nat → Int32) → (Nat → Int32) → (Nat → Int32) → (Nat → Int32) → (Nat → Int32) → (Nat → Int32) → (Nat → Int32) → (Nat → Int32) → (Nat → Int32) → (Nat → Int32) → (Nat → Int32) → (Nat → Int32) → (Nat → Int32) → (Nat → Int32) → (Nat → Int64) → (Nat → UInt64) → Prop} (hI : Inv tn tb sw sl sg sp pn pch pk pl pd ps bn br rn rf rb msz mwi mle mgr mpr mhp mtk mbn mmd mep mtx mki mln mdi mst mbi mou) (hv1 : vp_in (v5 + 1) L) (hv2 : vp_in (v5 + 2) L) (hv3 : vp_in (v5 + 3) L) (hKB : ∀ (v59 : Int32) (tn9 : Int32) (tb9 : Nat → Int32) (sw9 : Int32) (sl9 : Int32) (sg9 : Int32) (sp9 : Int32) (ww9 : Nat → Int32) (wr9 : Nat → Int32) (wm9 : Nat → Int32) (wl9 : Nat → Int32) (wd9 : Nat → Int32) (pn9 : Int32) (pch9 : Int32) (pk9 : Nat → Int32) (pl9 : Nat → Int32) (pd9 : Nat → Int32) (ps9 : Nat → Int32) (bn9 : Int32) (br9 : Nat → Int32) (rn9 : Int32) (rf9 : Int32) (rx9 : Int32) (rp9 : Int32) (rb9 : Nat → Int32) (mth9 : Int32) (msz9 : Int32) (mwi9 : Int32) (mle9 : Int32) (mgr9 : Int32) (mpr9 : Int32) (mhp9 : Int32) (mtk9 : Int32) (mbn9 : Int32) (mmd9 : Int32) (mep9 : Int32) (mat9 : Int32) (mer9 : Int32) (mtx9 : Nat → Int32) (mki9 : Nat → Int32) (mln9 : Nat → Int32) (mdi9 : Nat → Int32) (mst9 : Nat → Int32) (mbi9 : Nat → Int32) (mou9 : Nat → Int32) (mco9 : Nat → Int32) (mct9 : Nat → Int32) (mfk9 : Nat → Int32) (mfl9 : Nat → Int32) (mfd9 : Nat → Int32) (mgo9 : Nat → Int32) (mma9 : Nat → Int32) (ov9 : Nat → Int64) (od9 : Nat → UInt64), v59 = v5 + 4 → Inv tn9 tb9 sw9 sl9 sg9 sp9 pn9 pch9 pk9 pl9 pd9 ps9 bn9 br9 rn9 rf9 rb9 msz9 mwi9 mle9 mgr9 mpr9 mhp9 mtk9 mbn9 mmd9 mep9 mtx9 mki9 mln9 mdi9 mst9 mbi9 mou9 → KB v59 tn9 tb9 sw9 sl9 sg9 sp9 ww9 wr9 wm9 wl9 wd9 pn9 pch9 pk9 pl9 pd9 ps9 bn9 br9 rn9 rf9 rx9 rp9 rb9 mth9 msz9 mwi9 mle9 mgr9 mpr9 mhp9 mtk9 mbn9 mmd9 mep9 mat9 mer9 mtx9 mki9 mln9 mdi9 mst9 mbi9 mou9 mco9 mct9 mfk9 mfl9 mfd9 mgo9 mma9 ov9 od9) : wpL_law_752 L xs v5 tn tb sw sl sg sp ww wr wm wl wd pn pch pk pl pd ps bn br rn rf rx rp rb msz mwi mle mgr mpr mhp mtk mbn mmd mep mat mer mtx mki mln mdi mst mbi mou mco mct mfk mfl mfd mgo mma ov od KB := by
  obtain ⟨hT, hSe, hPl, hB, hR⟩ := hI
  obtain ⟨n, hn, rfl, rfl, rfl, hby⟩ := id hT
  obtain ⟨w, le, gr, pr, hw, hle, hgr, hpr, ⟨rfl, rfl, rfl, rfl⟩, rfl, rfl, rfl, rfl⟩ := id hSe
  unfold wpL_law_752 wpL_longest wpX10_longest wpX10_thrown wpX9_longest wpX10_isPlace wpX10_no wpX8_has
  refine ⟨hv1, ?_⟩
  generalize xs (v5 + 1).toNatClampNeg = v
  by_cases c1 : v < 0
  · refine br_t c1 ?_
    refine br_t rfl ?_
    refine ⟨rfl, ?_⟩
    refine iIn0 (Or.inl c1) ?_
    refine ⟨nbz, ?_⟩
    refine br_t rfl ?_
    exact tlK1 (hKB _ _ _ _ _ _ _ _ _ _ _ _ _ _ _ _ _ _ _ _ _ _ _ _ _ _ _ _ _ _ _ _ _ _ _ _ _ _ _ _ _ _ _ _ _ _ _ _ _ _ _ _ _ _ rfl ⟨hT, hSe, hPl, hB, hR⟩)
  · by_cases c2 : nI n ≤ v
    · refine br_f c1 ?_
      refine br_t c2 ?_
      refine br_t rfl ?_
      refine ⟨rfl, ?_⟩
      refine iIn0 (Or.inr ((i_last (by omega)).mpr c2)) ?_
      refine ⟨nbz, ?_⟩
      refine br_t rfl ?_
      exact tlK1 (hKB _ _ _ _ _ _ _ _ _ _ _ _ _ _ _ _ _ _ _ _ _ _ _ _ _ _ _ _ _ _ _ _ _ _ _ _ _ _ _ _ _ _ _ _ _ _ _ _ _ _ _ _ _ _ rfl ⟨hT, hSe, hPl, hB, hR⟩)
    · obtain ⟨j, hj, rfl, hin⟩ := i_at (N := 64) c1 c2 hn (by decide)
      refine br_f c1 ?_
      refine br_f c2 ?_
      refine br_f ne10 ?_
      refine sX3_matchLength hn hw.2 (by omega) hgr.2 (by omega) ?_
      refine iIn1 c1 (fun q => c2 ((i_last (by omega)).mp q)) ?_
      refine ⟨nbo, ?_⟩
      refine br_f ne10 ?_
      refine sX10_longestAt hn hw.2 (by omega) hgr.2 (by omega) ?_
      exact tlK0 (tl0 (hKB _ _ _ _ _ _ _ _ _ _ _ _ _ _ _ _ _ _ _ _ _ _ _ _ _ _ _ _ _ _ _ _ _ _ _ _ _ _ _ _ _ _ _ _ _ _ _ _ _ _ _ _ _ _ rfl ⟨hT, hSe, hPl, hB, hR⟩))
set_option maxHeartbeats 1000000 in
theorem cs_808 {L : Nat} {xs : Nat → Int32} {v5 : Int32} {tn : Int32} {tb : Nat → Int32} {sw : Int32} {sl : Int32} {sg : Int32} {sp : Int32} {ww : Nat → Int32} {wr : Nat → Int32} {wm : Nat → Int32} {wl : Nat → Int32} {wd : Nat → Int32} {pn : Int32} {pch : Int32} {pk : Nat → Int32} {pl : Nat → Int32} {pd : Nat → Int32} {ps : Nat → Int32} {bn : Int32} {br : Nat → Int32} {rn : Int32} {rf : Int32} {rx : Int32} {rp : Int32} {rb : Nat → Int32} {mth : Int32} {msz : Int32} {mwi : Int32} {mle : Int32} {mgr : Int32} {mpr : Int32} {mhp : Int32} {mtk : Int32} {mbn : Int32} {mmd : Int32} {mep : Int32} {mat : Int32} {mer : Int32} {mtx : Nat → Int32} {mki : Nat → Int32} {mln : Nat → Int32} {mdi : Nat → Int32} {mst : Nat → Int32} {mbi : Nat → Int32} {mou : Nat → Int32} {mco : Nat → Int32} {mct : Nat → Int32} {mfk : Nat → Int32} {mfl : Nat → Int32} {mfd : Nat → Int32} {mgo : Nat → Int32} {mma : Nat → Int32} {ov : Nat → Int64} {od : Nat → UInt64} {KB : Int32 → Int32 → (Nat → Int32) → Int32 → Int32 → Int32 → Int32 → (Nat → Int32) → (Nat → Int32) → (Nat → Int32) → (Nat → Int32) → (Nat → Int32) → Int32 → Int32 → (Nat → Int32) → (Nat → Int32) → (Nat → Int32) → (Nat → Int32) → Int32 → (Nat → Int32) → Int32 → Int32 → Int32 → Int32 → (Nat → Int32) → Int32 → Int32 → Int32 → Int32 → Int32 → Int32 → Int32 → Int32 → Int32 → Int32 → Int32 → Int32 → Int32 → (Nat → Int32) → (Nat → Int32) → (Nat → Int32) → (Nat → Int32) → (Nat → Int32) → (Nat → Int32) → (Nat → Int32) → (Nat → Int32) → (Nat → Int32) → (Nat → Int32) → (Nat → Int32) → (Nat → Int32) → (Nat → Int32) → (Nat → Int32) → (Nat → Int64) → (Nat → UInt64) → Prop} (hI : Inv tn tb sw sl sg sp pn pch pk pl pd ps bn br rn rf rb msz mwi mle mgr mpr mhp mtk mbn mmd mep mtx mki mln mdi mst mbi mou) (hv1 : vp_in (v5 + 1) L) (hv2 : vp_in (v5 + 2) L) (hv3 : vp_in (v5 + 3) L) (hKB : ∀ (v59 : Int32) (tn9 : Int32) (tb9 : Nat → Int32) (sw9 : Int32) (sl9 : Int32) (sg9 : Int32) (sp9 : Int32) (ww9 : Nat → Int32) (wr9 : Nat → Int32) (wm9 : Nat → Int32) (wl9 : Nat → Int32) (wd9 : Nat → Int32) (pn9 : Int32) (pch9 : Int32) (pk9 : Nat → Int32) (pl9 : Nat → Int32) (pd9 : Nat → Int32) (ps9 : Nat → Int32) (bn9 : Int32) (br9 : Nat → Int32) (rn9 : Int32) (rf9 : Int32) (rx9 : Int32) (rp9 : Int32) (rb9 : Nat → Int32) (mth9 : Int32) (msz9 : Int32) (mwi9 : Int32) (mle9 : Int32) (mgr9 : Int32) (mpr9 : Int32) (mhp9 : Int32) (mtk9 : Int32) (mbn9 : Int32) (mmd9 : Int32) (mep9 : Int32) (mat9 : Int32) (mer9 : Int32) (mtx9 : Nat → Int32) (mki9 : Nat → Int32) (mln9 : Nat → Int32) (mdi9 : Nat → Int32) (mst9 : Nat → Int32) (mbi9 : Nat → Int32) (mou9 : Nat → Int32) (mco9 : Nat → Int32) (mct9 : Nat → Int32) (mfk9 : Nat → Int32) (mfl9 : Nat → Int32) (mfd9 : Nat → Int32) (mgo9 : Nat → Int32) (mma9 : Nat → Int32) (ov9 : Nat → Int64) (od9 : Nat → UInt64), v59 = v5 + 4 → Inv tn9 tb9 sw9 sl9 sg9 sp9 pn9 pch9 pk9 pl9 pd9 ps9 bn9 br9 rn9 rf9 rb9 msz9 mwi9 mle9 mgr9 mpr9 mhp9 mtk9 mbn9 mmd9 mep9 mtx9 mki9 mln9 mdi9 mst9 mbi9 mou9 → KB v59 tn9 tb9 sw9 sl9 sg9 sp9 ww9 wr9 wm9 wl9 wd9 pn9 pch9 pk9 pl9 pd9 ps9 bn9 br9 rn9 rf9 rx9 rp9 rb9 mth9 msz9 mwi9 mle9 mgr9 mpr9 mhp9 mtk9 mbn9 mmd9 mep9 mat9 mer9 mtx9 mki9 mln9 mdi9 mst9 mbi9 mou9 mco9 mct9 mfk9 mfl9 mfd9 mgo9 mma9 ov9 od9) : wpL_law_808 L xs v5 tn tb sw sl sg sp ww wr wm wl wd pn pch pk pl pd ps bn br rn rf rx rp rb msz mwi mle mgr mpr mhp mtk mbn mmd mep mat mer mtx mki mln mdi mst mbi mou mco mct mfk mfl mfd mgo mma ov od KB := by
  obtain ⟨hT, hSe, hPl, hB, hR⟩ := hI
  obtain ⟨n, hn, rfl, rfl, rfl, hby⟩ := id hT
  obtain ⟨w, le, gr, pr, hw, hle, hgr, hpr, ⟨rfl, rfl, rfl, rfl⟩, rfl, rfl, rfl, rfl⟩ := id hSe
  unfold wpL_law_808 wpL_nearest wpX10_nearest wpX10_thrown wpX9_nearest wpX10_isPlace wpX10_no wpX8_has
  refine ⟨hv1, ?_⟩
  generalize xs (v5 + 1).toNatClampNeg = v
  by_cases c1 : v < 0
  · refine br_t c1 ?_
    refine br_t rfl ?_
    refine ⟨rfl, ?_⟩
    refine iIn0 (Or.inl c1) ?_
    refine ⟨nbz, ?_⟩
    refine br_t rfl ?_
    exact tlK1 (hKB _ _ _ _ _ _ _ _ _ _ _ _ _ _ _ _ _ _ _ _ _ _ _ _ _ _ _ _ _ _ _ _ _ _ _ _ _ _ _ _ _ _ _ _ _ _ _ _ _ _ _ _ _ _ rfl ⟨hT, hSe, hPl, hB, hR⟩)
  · by_cases c2 : nI n ≤ v
    · refine br_f c1 ?_
      refine br_t c2 ?_
      refine br_t rfl ?_
      refine ⟨rfl, ?_⟩
      refine iIn0 (Or.inr ((i_last (by omega)).mpr c2)) ?_
      refine ⟨nbz, ?_⟩
      refine br_t rfl ?_
      exact tlK1 (hKB _ _ _ _ _ _ _ _ _ _ _ _ _ _ _ _ _ _ _ _ _ _ _ _ _ _ _ _ _ _ _ _ _ _ _ _ _ _ _ _ _ _ _ _ _ _ _ _ _ _ _ _ _ _ rfl ⟨hT, hSe, hPl, hB, hR⟩)
    · obtain ⟨j, hj, rfl, hin⟩ := i_at (N := 64) c1 c2 hn (by decide)
      have hb := lg_le mtx n w le gr j
      refine br_f c1 ?_
      refine br_f c2 ?_
      refine br_f ne10 ?_
      refine sX3_matchLength hn hw.2 (by omega) hgr.2 (by omega) ?_
      refine sX3_matchDistance hn hw.2 hgr.2 (by omega) (by omega) ?_
      refine iIn1 c1 (fun q => c2 ((i_last (by omega)).mp q)) ?_
      refine ⟨nbo, ?_⟩
      refine br_f ne10 ?_
      refine sX10_nearestAt hn hw.2 (by omega) hgr.2 (by omega) ?_
      exact tlK0 (tl0 (hKB _ _ _ _ _ _ _ _ _ _ _ _ _ _ _ _ _ _ _ _ _ _ _ _ _ _ _ _ _ _ _ _ _ _ _ _ _ _ _ _ _ _ _ _ _ _ _ _ _ _ _ _ _ _ rfl ⟨hT, hSe, hPl, hB, hR⟩))
set_option maxHeartbeats 1000000 in
theorem cs_864 {L : Nat} {xs : Nat → Int32} {v5 : Int32} {tn : Int32} {tb : Nat → Int32} {sw : Int32} {sl : Int32} {sg : Int32} {sp : Int32} {ww : Nat → Int32} {wr : Nat → Int32} {wm : Nat → Int32} {wl : Nat → Int32} {wd : Nat → Int32} {pn : Int32} {pch : Int32} {pk : Nat → Int32} {pl : Nat → Int32} {pd : Nat → Int32} {ps : Nat → Int32} {bn : Int32} {br : Nat → Int32} {rn : Int32} {rf : Int32} {rx : Int32} {rp : Int32} {rb : Nat → Int32} {mth : Int32} {msz : Int32} {mwi : Int32} {mle : Int32} {mgr : Int32} {mpr : Int32} {mhp : Int32} {mtk : Int32} {mbn : Int32} {mmd : Int32} {mep : Int32} {mat : Int32} {mer : Int32} {mtx : Nat → Int32} {mki : Nat → Int32} {mln : Nat → Int32} {mdi : Nat → Int32} {mst : Nat → Int32} {mbi : Nat → Int32} {mou : Nat → Int32} {mco : Nat → Int32} {mct : Nat → Int32} {mfk : Nat → Int32} {mfl : Nat → Int32} {mfd : Nat → Int32} {mgo : Nat → Int32} {mma : Nat → Int32} {ov : Nat → Int64} {od : Nat → UInt64} {KB : Int32 → Int32 → (Nat → Int32) → Int32 → Int32 → Int32 → Int32 → (Nat → Int32) → (Nat → Int32) → (Nat → Int32) → (Nat → Int32) → (Nat → Int32) → Int32 → Int32 → (Nat → Int32) → (Nat → Int32) → (Nat → Int32) → (Nat → Int32) → Int32 → (Nat → Int32) → Int32 → Int32 → Int32 → Int32 → (Nat → Int32) → Int32 → Int32 → Int32 → Int32 → Int32 → Int32 → Int32 → Int32 → Int32 → Int32 → Int32 → Int32 → Int32 → (Nat → Int32) → (Nat → Int32) → (Nat → Int32) → (Nat → Int32) → (Nat → Int32) → (Nat → Int32) → (Nat → Int32) → (Nat → Int32) → (Nat → Int32) → (Nat → Int32) → (Nat → Int32) → (Nat → Int32) → (Nat → Int32) → (Nat → Int32) → (Nat → Int64) → (Nat → UInt64) → Prop} (hI : Inv tn tb sw sl sg sp pn pch pk pl pd ps bn br rn rf rb msz mwi mle mgr mpr mhp mtk mbn mmd mep mtx mki mln mdi mst mbi mou) (hv1 : vp_in (v5 + 1) L) (hv2 : vp_in (v5 + 2) L) (hv3 : vp_in (v5 + 3) L) (hKB : ∀ (v59 : Int32) (tn9 : Int32) (tb9 : Nat → Int32) (sw9 : Int32) (sl9 : Int32) (sg9 : Int32) (sp9 : Int32) (ww9 : Nat → Int32) (wr9 : Nat → Int32) (wm9 : Nat → Int32) (wl9 : Nat → Int32) (wd9 : Nat → Int32) (pn9 : Int32) (pch9 : Int32) (pk9 : Nat → Int32) (pl9 : Nat → Int32) (pd9 : Nat → Int32) (ps9 : Nat → Int32) (bn9 : Int32) (br9 : Nat → Int32) (rn9 : Int32) (rf9 : Int32) (rx9 : Int32) (rp9 : Int32) (rb9 : Nat → Int32) (mth9 : Int32) (msz9 : Int32) (mwi9 : Int32) (mle9 : Int32) (mgr9 : Int32) (mpr9 : Int32) (mhp9 : Int32) (mtk9 : Int32) (mbn9 : Int32) (mmd9 : Int32) (mep9 : Int32) (mat9 : Int32) (mer9 : Int32) (mtx9 : Nat → Int32) (mki9 : Nat → Int32) (mln9 : Nat → Int32) (mdi9 : Nat → Int32) (mst9 : Nat → Int32) (mbi9 : Nat → Int32) (mou9 : Nat → Int32) (mco9 : Nat → Int32) (mct9 : Nat → Int32) (mfk9 : Nat → Int32) (mfl9 : Nat → Int32) (mfd9 : Nat → Int32) (mgo9 : Nat → Int32) (mma9 : Nat → Int32) (ov9 : Nat → Int64) (od9 : Nat → UInt64), v59 = v5 + 4 → Inv tn9 tb9 sw9 sl9 sg9 sp9 pn9 pch9 pk9 pl9 pd9 ps9 bn9 br9 rn9 rf9 rb9 msz9 mwi9 mle9 mgr9 mpr9 mhp9 mtk9 mbn9 mmd9 mep9 mtx9 mki9 mln9 mdi9 mst9 mbi9 mou9 → KB v59 tn9 tb9 sw9 sl9 sg9 sp9 ww9 wr9 wm9 wl9 wd9 pn9 pch9 pk9 pl9 pd9 ps9 bn9 br9 rn9 rf9 rx9 rp9 rb9 mth9 msz9 mwi9 mle9 mgr9 mpr9 mhp9 mtk9 mbn9 mmd9 mep9 mat9 mer9 mtx9 mki9 mln9 mdi9 mst9 mbi9 mou9 mco9 mct9 mfk9 mfl9 mfd9 mgo9 mma9 ov9 od9) : wpL_law_864 L xs v5 tn tb sw sl sg sp ww wr wm wl wd pn pch pk pl pd ps bn br rn rf rx rp rb msz mwi mle mgr mpr mhp mtk mbn mmd mep mat mer mtx mki mln mdi mst mbi mou mco mct mfk mfl mfd mgo mma ov od KB := by
  obtain ⟨hT, hSe, hPl, hB, hR⟩ := hI
  obtain ⟨n, hn, rfl, rfl, rfl, hby⟩ := id hT
  unfold wpL_law_864 wpL_common wpX10_common wpX10_thrown wpX9_common wpX10_isPlace wpX10_no wpX8_has
  refine ⟨hv1, hv2, ?_⟩
  generalize xs (v5 + 1).toNatClampNeg = v
  generalize xs (v5 + 2).toNatClampNeg = d
  by_cases c1 : v < 0
  · refine br_t c1 ?_
    refine br_t rfl ?_
    refine Or.inl ?_
    refine ⟨rfl, ?_⟩
    refine iIn0 (Or.inl c1) ?_
    refine ⟨nbz, ?_⟩
    refine br_t rfl ?_
    exact tlK1 (hKB _ _ _ _ _ _ _ _ _ _ _ _ _ _ _ _ _ _ _ _ _ _ _ _ _ _ _ _ _ _ _ _ _ _ _ _ _ _ _ _ _ _ _ _ _ _ _ _ _ _ _ _ _ _ rfl ⟨hT, hSe, hPl, hB, hR⟩)
  · by_cases c2 : nI n ≤ v
    · refine br_f c1 ?_
      refine br_t c2 ?_
      refine br_t rfl ?_
      refine Or.inl ?_
      refine ⟨rfl, ?_⟩
      refine iIn0 (Or.inr ((i_last (by omega)).mpr c2)) ?_
      refine ⟨nbz, ?_⟩
      refine br_t rfl ?_
      exact tlK1 (hKB _ _ _ _ _ _ _ _ _ _ _ _ _ _ _ _ _ _ _ _ _ _ _ _ _ _ _ _ _ _ _ _ _ _ _ _ _ _ _ _ _ _ _ _ _ _ _ _ _ _ _ _ _ _ rfl ⟨hT, hSe, hPl, hB, hR⟩)
    · obtain ⟨j, hj, rfl, hin⟩ := i_at (N := 64) c1 c2 hn (by decide)
      refine br_f c1 ?_
      refine br_f c2 ?_
      refine br_f ne10 ?_
      have hM : ∀ {post : Int32 → Prop}, post 1 → wpX10_isIn (nI j) 0 (nI n - 1) post := fun h => iIn1 c1 (fun q => c2 ((i_last (by omega)).mp q)) h
      by_cases d1 : d < 1
      · refine br_t d1 ?_
        refine Or.inr ?_
        refine ⟨rfl, ?_⟩
        refine hM ?_
        refine ⟨nbo, ?_⟩
        refine br_f ne10 ?_
        refine iIn0 (Or.inl d1) ?_
        refine br_t rfl ?_
        exact tlK2 (hKB _ _ _ _ _ _ _ _ _ _ _ _ _ _ _ _ _ _ _ _ _ _ _ _ _ _ _ _ _ _ _ _ _ _ _ _ _ _ _ _ _ _ _ _ _ _ _ _ _ _ _ _ _ _ rfl ⟨hT, hSe, hPl, hB, hR⟩)
      · by_cases d2 : 64 < d
        · refine br_f d1 ?_
          refine br_t d2 ?_
          refine Or.inr ?_
          refine ⟨rfl, ?_⟩
          refine hM ?_
          refine ⟨nbo, ?_⟩
          refine br_f ne10 ?_
          refine iIn0 (Or.inr d2) ?_
          refine br_t rfl ?_
          exact tlK2 (hKB _ _ _ _ _ _ _ _ _ _ _ _ _ _ _ _ _ _ _ _ _ _ _ _ _ _ _ _ _ _ _ _ _ _ _ _ _ _ _ _ _ _ _ _ _ _ _ _ _ _ _ _ _ _ rfl ⟨hT, hSe, hPl, hB, hR⟩)
        · refine br_f d1 ?_
          refine br_f d2 ?_
          obtain ⟨x, hx, rfl⟩ := i_nat (N := 64) (i_pos d1) (i_ge d2) (by decide)
          have h1 : 1 ≤ x := by
            rcases Nat.lt_or_ge x 1 with q | q
            · exact absurd (nI_lt q (by decide) : nI x < nI 1) d1
            · exact q
          by_cases d3 : nI x ≤ nI j
          · have h2 : x ≤ j := (nI_leI (by omega) (by omega)).mp d3
            refine br_t d3 ?_
            refine sX8_sameFrom hn (by omega) hx ?_
            rw [if_pos ⟨h1, h2⟩]
            refine hM ?_
            refine ⟨nbo, ?_⟩
            refine br_f ne10 ?_
            refine iIn1 d1 d2 ?_
            refine br_f ne10 ?_
            refine br_f (i_ngt d3) ?_
            refine sX10_goesOn hn (by omega) h2 ?_
            exact tlK0 (tl0 (hKB _ _ _ _ _ _ _ _ _ _ _ _ _ _ _ _ _ _ _ _ _ _ _ _ _ _ _ _ _ _ _ _ _ _ _ _ _ _ _ _ _ _ _ _ _ _ _ _ _ _ _ _ _ _ rfl ⟨hT, hSe, hPl, hB, hR⟩))
          · refine br_f d3 ?_
            refine Or.inr ?_
            refine ⟨rfl, ?_⟩
            refine hM ?_
            refine ⟨nbo, ?_⟩
            refine br_f ne10 ?_
            refine iIn1 d1 d2 ?_
            refine br_f ne10 ?_
            refine br_t (i_gt d3) ?_
            exact tlK2 (hKB _ _ _ _ _ _ _ _ _ _ _ _ _ _ _ _ _ _ _ _ _ _ _ _ _ _ _ _ _ _ _ _ _ _ _ _ _ _ _ _ _ _ _ _ _ _ _ _ _ _ _ _ _ _ rfl ⟨hT, hSe, hPl, hB, hR⟩)
set_option maxHeartbeats 1000000 in
theorem cs_932 {L : Nat} {xs : Nat → Int32} {v5 : Int32} {tn : Int32} {tb : Nat → Int32} {sw : Int32} {sl : Int32} {sg : Int32} {sp : Int32} {ww : Nat → Int32} {wr : Nat → Int32} {wm : Nat → Int32} {wl : Nat → Int32} {wd : Nat → Int32} {pn : Int32} {pch : Int32} {pk : Nat → Int32} {pl : Nat → Int32} {pd : Nat → Int32} {ps : Nat → Int32} {bn : Int32} {br : Nat → Int32} {rn : Int32} {rf : Int32} {rx : Int32} {rp : Int32} {rb : Nat → Int32} {mth : Int32} {msz : Int32} {mwi : Int32} {mle : Int32} {mgr : Int32} {mpr : Int32} {mhp : Int32} {mtk : Int32} {mbn : Int32} {mmd : Int32} {mep : Int32} {mat : Int32} {mer : Int32} {mtx : Nat → Int32} {mki : Nat → Int32} {mln : Nat → Int32} {mdi : Nat → Int32} {mst : Nat → Int32} {mbi : Nat → Int32} {mou : Nat → Int32} {mco : Nat → Int32} {mct : Nat → Int32} {mfk : Nat → Int32} {mfl : Nat → Int32} {mfd : Nat → Int32} {mgo : Nat → Int32} {mma : Nat → Int32} {ov : Nat → Int64} {od : Nat → UInt64} {KB : Int32 → Int32 → (Nat → Int32) → Int32 → Int32 → Int32 → Int32 → (Nat → Int32) → (Nat → Int32) → (Nat → Int32) → (Nat → Int32) → (Nat → Int32) → Int32 → Int32 → (Nat → Int32) → (Nat → Int32) → (Nat → Int32) → (Nat → Int32) → Int32 → (Nat → Int32) → Int32 → Int32 → Int32 → Int32 → (Nat → Int32) → Int32 → Int32 → Int32 → Int32 → Int32 → Int32 → Int32 → Int32 → Int32 → Int32 → Int32 → Int32 → Int32 → (Nat → Int32) → (Nat → Int32) → (Nat → Int32) → (Nat → Int32) → (Nat → Int32) → (Nat → Int32) → (Nat → Int32) → (Nat → Int32) → (Nat → Int32) → (Nat → Int32) → (Nat → Int32) → (Nat → Int32) → (Nat → Int32) → (Nat → Int32) → (Nat → Int64) → (Nat → UInt64) → Prop} (hI : Inv tn tb sw sl sg sp pn pch pk pl pd ps bn br rn rf rb msz mwi mle mgr mpr mhp mtk mbn mmd mep mtx mki mln mdi mst mbi mou) (hv1 : vp_in (v5 + 1) L) (hv2 : vp_in (v5 + 2) L) (hv3 : vp_in (v5 + 3) L) (hKB : ∀ (v59 : Int32) (tn9 : Int32) (tb9 : Nat → Int32) (sw9 : Int32) (sl9 : Int32) (sg9 : Int32) (sp9 : Int32) (ww9 : Nat → Int32) (wr9 : Nat → Int32) (wm9 : Nat → Int32) (wl9 : Nat → Int32) (wd9 : Nat → Int32) (pn9 : Int32) (pch9 : Int32) (pk9 : Nat → Int32) (pl9 : Nat → Int32) (pd9 : Nat → Int32) (ps9 : Nat → Int32) (bn9 : Int32) (br9 : Nat → Int32) (rn9 : Int32) (rf9 : Int32) (rx9 : Int32) (rp9 : Int32) (rb9 : Nat → Int32) (mth9 : Int32) (msz9 : Int32) (mwi9 : Int32) (mle9 : Int32) (mgr9 : Int32) (mpr9 : Int32) (mhp9 : Int32) (mtk9 : Int32) (mbn9 : Int32) (mmd9 : Int32) (mep9 : Int32) (mat9 : Int32) (mer9 : Int32) (mtx9 : Nat → Int32) (mki9 : Nat → Int32) (mln9 : Nat → Int32) (mdi9 : Nat → Int32) (mst9 : Nat → Int32) (mbi9 : Nat → Int32) (mou9 : Nat → Int32) (mco9 : Nat → Int32) (mct9 : Nat → Int32) (mfk9 : Nat → Int32) (mfl9 : Nat → Int32) (mfd9 : Nat → Int32) (mgo9 : Nat → Int32) (mma9 : Nat → Int32) (ov9 : Nat → Int64) (od9 : Nat → UInt64), v59 = v5 + 4 → Inv tn9 tb9 sw9 sl9 sg9 sp9 pn9 pch9 pk9 pl9 pd9 ps9 bn9 br9 rn9 rf9 rb9 msz9 mwi9 mle9 mgr9 mpr9 mhp9 mtk9 mbn9 mmd9 mep9 mtx9 mki9 mln9 mdi9 mst9 mbi9 mou9 → KB v59 tn9 tb9 sw9 sl9 sg9 sp9 ww9 wr9 wm9 wl9 wd9 pn9 pch9 pk9 pl9 pd9 ps9 bn9 br9 rn9 rf9 rx9 rp9 rb9 mth9 msz9 mwi9 mle9 mgr9 mpr9 mhp9 mtk9 mbn9 mmd9 mep9 mat9 mer9 mtx9 mki9 mln9 mdi9 mst9 mbi9 mou9 mco9 mct9 mfk9 mfl9 mfd9 mgo9 mma9 ov9 od9) : wpL_law_932 L xs v5 tn tb sw sl sg sp ww wr wm wl wd pn pch pk pl pd ps bn br rn rf rx rp rb msz mwi mle mgr mpr mhp mtk mbn mmd mep mat mer mtx mki mln mdi mst mbi mou mco mct mfk mfl mfd mgo mma ov od KB := by
  obtain ⟨hT, hSe, hPl, hB, hR⟩ := hI
  unfold wpL_law_932 wpL_widthOf wpX10_widthOf wpX10_thrown wpX9_widthOf wpX10_no
  refine ⟨hv1, ?_⟩
  generalize xs (v5 + 1).toNatClampNeg = v
  by_cases c1 : v < 1
  · refine br_t c1 ?_
    refine ⟨rfl, ?_⟩
    refine iIn0 (Or.inl c1) ?_
    refine br_t rfl ?_
    exact tlK1 (hKB _ _ _ _ _ _ _ _ _ _ _ _ _ _ _ _ _ _ _ _ _ _ _ _ _ _ _ _ _ _ _ _ _ _ _ _ _ _ _ _ _ _ _ _ _ _ _ _ _ _ _ _ _ _ rfl ⟨hT, hSe, hPl, hB, hR⟩)
  · by_cases c2 : v ≤ 255
    · obtain ⟨j, hj, rfl⟩ := i_nat (N := 255) (i_pos c1) c2 (by decide)
      have h1 : 1 ≤ j := by
        rcases Nat.lt_or_ge j 1 with q | q
        · exact absurd (nI_lt q (by decide) : nI j < nI 1) c1
        · exact q
      refine br_f c1 ?_
      refine br_t c2 ?_
      refine sX2_numberBits (by omega) ?_
      refine iIn1 c1 (i_ngt c2) ?_
      refine br_f ne10 ?_
      refine sX10_width h1 (by omega) ?_
      exact tlK0 (tl0 (hKB _ _ _ _ _ _ _ _ _ _ _ _ _ _ _ _ _ _ _ _ _ _ _ _ _ _ _ _ _ _ _ _ _ _ _ _ _ _ _ _ _ _ _ _ _ _ _ _ _ _ _ _ _ _ rfl ⟨hT, hSe, hPl, hB, hR⟩))
    · refine br_f c1 ?_
      refine br_f c2 ?_
      refine ⟨rfl, ?_⟩
      refine iIn0 (Or.inr (i_gt c2)) ?_
      refine br_t rfl ?_
      exact tlK1 (hKB _ _ _ _ _ _ _ _ _ _ _ _ _ _ _ _ _ _ _ _ _ _ _ _ _ _ _ _ _ _ _ _ _ _ _ _ _ _ _ _ _ _ _ _ _ _ _ _ _ _ _ _ _ _ rfl ⟨hT, hSe, hPl, hB, hR⟩)

