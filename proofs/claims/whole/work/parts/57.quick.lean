-- a way through the text: a step at a place with a present distance is (kind, length, distance)
def wk (st : Nat → Nat → Nat × Nat × Nat) (n : Nat) : Nat → Nat → Nat → Nat → (Nat → Int32) → (Nat → Int32) → (Nat → Int32) → (Nat → Int32) → Nat × (Nat → Int32) × (Nat → Int32) × (Nat → Int32) × (Nat → Int32)
  | 0, _, _, k, a, b, c, d => (k, a, b, c, d)
  | f + 1, p, q, k, a, b, c, d => if n ≤ p then (k, a, b, c, d) else wk st n f (p + (st p q).2.1) (if (st p q).1 = 0 then q else (st p q).2.2) (k + 1) (upd a k (nI (st p q).1)) (upd b k (nI (st p q).2.1)) (upd c k (nI (st p q).2.2)) (upd d k (nI p))
def wkP (K : Int32 → (Nat → Int32) → (Nat → Int32) → (Nat → Int32) → (Nat → Int32) → Prop) (r : Nat × (Nat → Int32) × (Nat → Int32) × (Nat → Int32) × (Nat → Int32)) : Prop := K (nI r.1) r.2.1 r.2.2.1 r.2.2.2.1 r.2.2.2.2
/-- which distances can be present -/
def Rq (w p q : Nat) : Prop := q = 0 ∨ (1 ≤ q ∧ q ≤ p ∧ q ≤ w)
def StepOK (st : Nat → Nat → Nat × Nat × Nat) (n w : Nat) : Prop := ∀ p q, p < n → Rq w p q → tokOK (st p q).1 (st p q).2.1 (st p q).2.2 ∧ p + (st p q).2.1 ≤ n ∧ Rq w (p + (st p q).2.1) (if (st p q).1 = 0 then q else (st p q).2.2)
theorem tok_pos {K l d : Nat} (h : tokOK K l d) : 1 ≤ l := by
  rcases h with ⟨-, h, -⟩ | ⟨-, h, -⟩ | ⟨-, h, -⟩ <;> omega
theorem plan_snoc {a b c d : Nat → Int32} {k p x l e : Nat} (h : PlanOK a b c d k p) (ok : tokOK x l e) : PlanOK (upd a k (nI x)) (upd b k (nI l)) (upd c k (nI e)) (upd d k (nI p)) (k + 1) (p + l) := by
  obtain ⟨K, Ls, D, P, h0, hk, hi⟩ := h
  refine ⟨fun i => if i = k then x else K i, fun i => if i = k then l else Ls i, fun i => if i = k then e else D i, fun i => if i ≤ k then P i else p + l, ?_, ?_, fun i hik => ?_⟩
  · show (if 0 ≤ k then P 0 else p + l) = 0
    rw [if_pos (Nat.zero_le k)]
    exact h0
  · show (if k + 1 ≤ k then P (k + 1) else p + l) = p + l
    rw [if_neg (by omega)]
  · by_cases c1 : i = k
    · subst c1
      refine ⟨⟨?_, ?_, ?_, ?_⟩, ?_, ?_⟩
      · show upd a i (nI x) i = nI (if i = i then x else K i)
        rw [pk_us, if_pos rfl]
      · show upd b i (nI l) i = nI (if i = i then l else Ls i)
        rw [pk_us, if_pos rfl]
      · show upd c i (nI e) i = nI (if i = i then e else D i)
        rw [pk_us, if_pos rfl]
      · show upd d i (nI p) i = nI (if i ≤ i then P i else p + l)
        rw [pk_us, if_pos (Nat.le_refl i), hk]
      · show (if i + 1 ≤ i then P (i + 1) else p + l) = (if i ≤ i then P i else p + l) + (if i = i then l else Ls i)
        rw [if_neg (by omega), if_pos (Nat.le_refl i), if_pos rfl, hk]
      · show tokOK (if i = i then x else K i) (if i = i then l else Ls i) (if i = i then e else D i)
        rw [if_pos rfl, if_pos rfl, if_pos rfl]
        exact ok
    · obtain ⟨⟨e1, e2, e3, e4⟩, e5, e6⟩ := hi i (by omega)
      refine ⟨⟨?_, ?_, ?_, ?_⟩, ?_, ?_⟩
      · show upd a k (nI x) i = nI (if i = k then x else K i)
        rw [pk_un c1, if_neg c1, e1]
      · show upd b k (nI l) i = nI (if i = k then l else Ls i)
        rw [pk_un c1, if_neg c1, e2]
      · show upd c k (nI e) i = nI (if i = k then e else D i)
        rw [pk_un c1, if_neg c1, e3]
      · show upd d k (nI p) i = nI (if i ≤ k then P i else p + l)
        rw [pk_un c1, if_pos (by omega), e4]
      · show (if i + 1 ≤ k then P (i + 1) else p + l) = (if i ≤ k then P i else p + l) + (if i = k then l else Ls i)
        rw [if_pos (by omega), if_pos (by omega), if_neg c1, e5]
      · show tokOK (if i = k then x else K i) (if i = k then l else Ls i) (if i = k then e else D i)
        rw [if_neg c1, if_neg c1, if_neg c1]
        exact e6
theorem wk_ok {st : Nat → Nat → Nat × Nat × Nat} {n w : Nat} (hst : StepOK st n w) : ∀ (f p q k : Nat) (a b c d : Nat → Int32), n - p ≤ f → p ≤ n → Rq w p q → k ≤ p → PlanOK a b c d k p → (wk st n f p q k a b c d).1 ≤ n ∧ PlanOK (wk st n f p q k a b c d).2.1 (wk st n f p q k a b c d).2.2.1 (wk st n f p q k a b c d).2.2.2.1 (wk st n f p q k a b c d).2.2.2.2 (wk st n f p q k a b c d).1 n := by
  intro f
  induction f with
  | zero =>
    intro p q k a b c d hf hp hR hk h
    have e : p = n := by omega
    subst e
    exact ⟨hk, h⟩
  | succ f ih =>
    intro p q k a b c d hf hp hR hk h
    rw [wk]
    by_cases c1 : n ≤ p
    · rw [if_pos c1]
      have e : p = n := by omega
      subst e
      exact ⟨hk, h⟩
    · rw [if_neg c1]
      obtain ⟨h1, h2, h3⟩ := hst p q (by omega) hR
      have h4 := tok_pos h1
      exact ih _ _ _ _ _ _ _ (by omega) h2 h3 (by omega) (plan_snoc h h1)
theorem plan_nil (a b c d : Nat → Int32) : PlanOK a b c d 0 0 := ⟨fun _ => 0, fun _ => 0, fun _ => 0, fun _ => 0, rfl, rfl, fun i h => by omega⟩
-- the two quick ways
def ag (t : Nat → Int32) (n gr p q : Nat) : Nat := if q = 0 then 0 else al t n gr p q
theorem ag_le (t : Nat → Int32) (n gr p q : Nat) : ag t n gr p q ≤ gr ∧ ag t n gr p q ≤ n - p := by
  have := al_le t n gr p q
  unfold ag
  split <;> omega
theorem ag_if {t : Nat → Int32} {n gr w p q : Nat} (h : Rq w p q) : (if 1 ≤ q ∧ q ≤ p then al t n gr p q else 0) = ag t n gr p q := by
  unfold ag
  rcases h with h | h
  · rw [if_neg (by omega), if_pos h]
  · rw [if_pos (by omega), if_neg (by omega)]
def sq (t : Nat → Int32) (n w le gr : Nat) (lz : Bool) (p q : Nat) : Nat × Nat × Nat :=
  if 0 < ag t n gr p q ∧ lg t n w le gr p ≤ ag t n gr p q then (2, ag t n gr p q, q)
  else if 0 < lg t n w le gr p ∧ (lz = true → max (ag t n gr (p + 1) q) (lg t n w le gr (p + 1)) ≤ lg t n w le gr p) then (1, lg t n w le gr p, nr t n w gr p (lg t n w le gr p))
  else (0, 1, 0)
theorem lg_ge {t : Nat → Int32} {n w le gr p : Nat} (h : 0 < lg t n w le gr p) : le ≤ lg t n w le gr p := by
  unfold lg cutl at h ⊢
  split
  · rename_i u; rw [if_pos u] at h; omega
  · omega
theorem Rq_le {w p q : Nat} (h : Rq w p q) (hw : w ≤ 64) : q ≤ 64 := by
  rcases h with h | h <;> omega
theorem Rq_mono {w p q p' : Nat} (h : Rq w p q) (hp : p ≤ p') : Rq w p' q := by
  rcases h with h | h
  · exact Or.inl h
  · exact Or.inr (by omega)
theorem sq_ok {t : Nat → Int32} {n w le gr : Nat} {lz : Bool} (hn : n ≤ 64) (hw : w ≤ 64) (hl : 2 ≤ le) (hg : gr ≤ 64) : StepOK (sq t n w le gr lz) n w := by
  intro p q hp hR
  unfold sq
  have b1 := ag_le t n gr p q
  have b2 := lg_le t n w le gr p
  have b3 := Rq_le hR hw
  by_cases c1 : 0 < ag t n gr p q ∧ lg t n w le gr p ≤ ag t n gr p q
  · rw [if_pos c1]
    have c0 : q ≠ 0 := fun z => by unfold ag at c1; rw [if_pos z] at c1; omega
    show tokOK 2 (ag t n gr p q) q ∧ p + ag t n gr p q ≤ n ∧ Rq w (p + ag t n gr p q) q
    exact ⟨Or.inr (Or.inr ⟨rfl, by omega, by omega⟩), by omega, Rq_mono hR (by omega)⟩
  · rw [if_neg c1]
    by_cases c2 : 0 < lg t n w le gr p ∧ (lz = true → max (ag t n gr (p + 1) q) (lg t n w le gr (p + 1)) ≤ lg t n w le gr p)
    · rw [if_pos c2]
      have b4 := lg_ge c2.1
      obtain ⟨s1, s2, -, -⟩ := nr_spec (by omega) c2.1
      show tokOK 1 (lg t n w le gr p) (nr t n w gr p (lg t n w le gr p)) ∧ p + lg t n w le gr p ≤ n ∧ Rq w (p + lg t n w le gr p) (nr t n w gr p (lg t n w le gr p))
      exact ⟨Or.inr (Or.inl ⟨rfl, by omega, by omega⟩), by omega, Or.inr (by omega)⟩
    · rw [if_neg c2]
      show tokOK 0 1 0 ∧ p + 1 ≤ n ∧ Rq w (p + 1) q
      exact ⟨Or.inl ⟨rfl, rfl, rfl⟩, by omega, Rq_mono hR (by omega)⟩
theorem add_at {k : Nat} {a b c d : Nat → Int32} {v1 v2 v3 v4 : Int32} {post : Int32 → (Nat → Int32) → (Nat → Int32) → (Nat → Int32) → (Nat → Int32) → Prop} (hk : k < 64) (h : post (nI (k + 1)) (upd a k v1) (upd b k v2) (upd c k v3) (upd d k v4)) : wpX4_add (nI k) a b c d v1 v2 v3 v4 post := by
  refine br_f (i_n64 hk) ⟨vp_in_nI hk (by decide), ?_⟩
  rw [nI_clamp (by omega), nI_1]
  exact h
theorem put_at {k : Nat} {a b c d : Nat → Int32} {v1 v2 v3 v4 : Int32} {post : Int32 → (Nat → Int32) → (Nat → Int32) → (Nat → Int32) → (Nat → Int32) → Prop} (hk : k < 64) (h : post (nI (k + 1)) (upd a k v1) (upd b k v3) (upd c k v4) (upd d k v2)) : wpX10_put (nI k) a b c d v1 v2 v3 v4 post := by
  refine ⟨vp_in_nI hk (by decide), ?_⟩
  rw [nI_clamp (by omega), nI_1]
  exact h
def lzI (lz : Bool) : Int32 := if lz then 1 else 0
theorem chX {t : Nat → Int32} {n w le gr : Nat} {lz : Bool} {K : Int32 → (Nat → Int32) → (Nat → Int32) → (Nat → Int32) → (Nat → Int32) → Prop} (hn : n ≤ 64) (hw : w ≤ 64) (hl : 2 ≤ le ∧ le ≤ 6) (hg : gr ≤ 64) : ∀ (f p q k : Nat) (a b c d : Nat → Int32), n - p ≤ f → p ≤ n → Rq w p q → k ≤ p → wkP K (wk (sq t n w le gr lz) n f p q k a b c d) → wpX5_choose_12 (lzI lz) (nI n) t (nI w) (nI le) (nI gr) K (f + 1) (nI p) (nI q) (nI k) (nI k) a b c d := by
  intro f
  induction f with
  | zero =>
    intro p q k a b c d hf hp hR hk h
    rw [wpX5_choose_12]
    exact pk_le 64 k (fun _ => h) (fun _ => pk_le n p (fun _ => h) (fun z => absurd z (by omega)))
  | succ f ih =>
    intro p q k a b c d hf hp hR hk h
    rw [wk] at h
    by_cases c1 : n ≤ p
    · rw [if_pos c1] at h
      rw [wpX5_choose_12]
      exact pk_le 64 k (fun _ => h) (fun _ => br_t (nI_le c1 (by omega)) h)
    · rw [if_neg c1] at h
      obtain ⟨h1, h2, h3⟩ := sq_ok (t := t) (lz := lz) hn hw hl.1 hg p q (by omega) hR
      have h4 := tok_pos h1
      have go := ih _ _ _ _ _ _ _ (by omega) h2 h3 (by omega) h
      have b1 := ag_le t n gr p q
      have b2 := lg_le t n w le gr p
      have b3 := Rq_le hR hw
      have hk2 : k < 64 := by omega
      rw [wpX5_choose_12]
      refine br_f (i_n64 hk2) (br_f (nI_ge (by omega) (by omega)) (sX3_againLength hn hg hp b3 ?_))
      rw [ag_if hR]
      refine sX3_matchLength hn hw (by omega) hg hp ?_
      have h82 : ¬ (0 < ag t n gr p q ∧ lg t n w le gr p ≤ ag t n gr p q) → wpX5_choose_82 (lzI lz) (nI p) (nI q) (nI k) (nI (lg t n w le gr p)) (nI n) t (nI w) (nI le) (nI gr) (nI k) a b c d (wpX5_choose_12 (lzI lz) (nI n) t (nI w) (nI le) (nI gr) K (f + 1)) K := by
        intro d1
        have hlit : ¬ (0 < lg t n w le gr p ∧ (lz = true → max (ag t n gr (p + 1) q) (lg t n w le gr (p + 1)) ≤ lg t n w le gr p)) → wpX4_add (nI k) a b c d 0 1 0 (nI p) (fun (pn_9 : Int32) (pk_10 : Nat → Int32) (pl_11 : Nat → Int32) (pd_12 : Nat → Int32) (ps_13 : Nat → Int32) => wpX5_choose_146 (nI p + 1) (nI q) (nI k) pn_9 pk_10 pl_11 pd_12 ps_13 (wpX5_choose_12 (lzI lz) (nI n) t (nI w) (nI le) (nI gr) K (f + 1)) K) := by
          intro d2
          have es : sq t n w le gr lz p q = (0, 1, 0) := by unfold sq; rw [if_neg d1, if_neg d2]
          rw [es] at go
          refine add_at hk2 ?_
          unfold wpX5_choose_146
          rw [nI_1, nI_1]
          exact go
        have hmat : 0 < lg t n w le gr p → (lz = true → max (ag t n gr (p + 1) q) (lg t n w le gr (p + 1)) ≤ lg t n w le gr p) → wpX5_choose_105 (nI p) (nI k) (nI (lg t n w le gr p)) (nI n) t (nI w) (nI gr) (nI k) a b c d (wpX5_choose_12 (lzI lz) (nI n) t (nI w) (nI le) (nI gr) K (f + 1)) K := by
          intro d2 d3
          have es : sq t n w le gr lz p q = (1, lg t n w le gr p, nr t n w gr p (lg t n w le gr p)) := by unfold sq; rw [if_neg d1, if_pos ⟨d2, d3⟩]
          rw [es] at go
          unfold wpX5_choose_105
          refine sX3_matchDistance hn hw hg hp (by omega) (add_at hk2 ?_)
          unfold wpX5_choose_146
          rw [nI_1, nI_add]
          exact go
        unfold wpX5_choose_82
        refine pk_le (lg t n w le gr p) 0 (fun z => hlit (by omega)) (fun z => ?_)
        cases lz with
        | false => exact br_t rfl (hmat z (fun y => absurd y (by decide)))
        | true =>
          refine br_f ne10 ?_
          unfold wpX5_longestStep
          rw [nI_1]
          refine sX3_againLength hn hg (by omega) b3 ?_
          rw [ag_if (Rq_mono hR (Nat.le_add_right p 1))]
          refine sX3_matchLength hn hw (by omega) hg (by omega) ?_
          have b4 := ag_le t n gr (p + 1) q
          have b5 := lg_le t n w le gr (p + 1)
          rw [i_max _ _ (by omega) (by omega)]
          rw [nI_1] at hlit
          exact pk_lt (lg t n w le gr p) (max (ag t n gr (p + 1) q) (lg t n w le gr (p + 1))) (fun y => hlit (fun u => by have := u.2 rfl; omega)) (fun y => hmat z (fun _ => y))
      refine pk_le (ag t n gr p q) 0 (fun z => h82 (by omega)) (fun z => pk_lt (ag t n gr p q) (lg t n w le gr p) (fun y => h82 (by omega)) (fun y => ?_))
      have es : sq t n w le gr lz p q = (2, ag t n gr p q, q) := by unfold sq; rw [if_pos ⟨z, y⟩]
      rw [es] at go
      refine add_at hk2 ?_
      unfold wpX5_choose_146
      rw [nI_1, nI_add]
      exact go
theorem sX10_againAt {t : Nat → Int32} {n gr w p q : Nat} {post : Int32 → Prop} (hn : n ≤ 64) (hg : gr ≤ 64) (hw : w ≤ 64) (hp : p ≤ n) (hR : Rq w p q) (h : post (nI (ag t n gr p q))) : wpX10_againAt (nI n) (nI gr) t (nI p) (nI q) post := by
  unfold wpX10_againAt
  have b3 := Rq_le hR hw
  unfold ag at h
  refine pk_eq q 0 (fun z => ?_) (fun z => ?_)
  · rw [if_pos z] at h
    exact h
  · rw [if_neg z] at h
    refine sX10_goesOn hn hp (by rcases hR with r | r <;> omega) ?_
    have := rl_le t n p q
    rw [i_min _ _ (by omega) (by omega)]
    exact h
theorem goT {t : Nat → Int32} {n w le gr : Nat} {lz : Bool} {K : Int32 → (Nat → Int32) → (Nat → Int32) → (Nat → Int32) → (Nat → Int32) → Prop} (hn : n ≤ 64) (hw : w ≤ 64) (hl : 2 ≤ le ∧ le ≤ 6) (hg : gr ≤ 64) : ∀ (f p q k : Nat) (a b c d : Nat → Int32), n - p ≤ f → p ≤ n → Rq w p q → k ≤ p → wkP K (wk (sq t n w le gr lz) n f p q k a b c d) → wpX10_goThrough_14 (lzI lz) (nI n) (nI w) (nI le) (nI gr) t K (f + 1) (nI q) (nI p) (nI k) a b c d := by
  intro f
  induction f with
  | zero =>
    intro p q k a b c d hf hp hR hk h
    rw [wpX10_goThrough_14]
    exact br_t (nI_le (by omega) (by omega)) h
  | succ f ih =>
    intro p q k a b c d hf hp hR hk h
    rw [wk] at h
    by_cases c1 : n ≤ p
    · rw [if_pos c1] at h
      rw [wpX10_goThrough_14]
      exact br_t (nI_le c1 (by omega)) h
    · rw [if_neg c1] at h
      obtain ⟨h1, h2, h3⟩ := sq_ok (t := t) (lz := lz) hn hw hl.1 hg p q (by omega) hR
      have h4 := tok_pos h1
      have go := ih _ _ _ _ _ _ _ (by omega) h2 h3 (by omega) h
      have b1 := ag_le t n gr p q
      have b2 := lg_le t n w le gr p
      have b3 := Rq_le hR hw
      have hk2 : k < 64 := by omega
      have h109 : ∀ {q' l : Nat} {a' b' c' d' : Nat → Int32}, wpX10_goThrough_14 (lzI lz) (nI n) (nI w) (nI le) (nI gr) t K (f + 1) (nI q') (nI (p + l)) (nI (k + 1)) a' (upd b' k (nI l)) c' d' → wpX10_goThrough_109 (nI q') (nI p) (nI (k + 1)) a' (upd b' k (nI l)) c' d' (wpX10_goThrough_14 (lzI lz) (nI n) (nI w) (nI le) (nI gr) t K (f + 1)) K := by
        intro q' l a' b' c' d' h
        unfold wpX10_goThrough_109
        rw [nI_pred, nI_clamp (by omega), pk_us, nI_add]
        exact ⟨vp_in_nI hk2 (by decide), h⟩
      rw [wpX10_goThrough_14]
      refine br_f (nI_ge (by omega) (by omega)) (sX10_againAt hn hg hw hp hR (sX10_longestAt hn hw (by omega) hg hp ?_))
      have h61 : ¬ (0 < ag t n gr p q ∧ lg t n w le gr p ≤ ag t n gr p q) → wpX10_goThrough_61 (lzI lz) (nI q) (nI p) (nI (lg t n w le gr p)) (nI n) (nI w) (nI le) (nI gr) (nI k) t a b c d (wpX10_goThrough_14 (lzI lz) (nI n) (nI w) (nI le) (nI gr) t K (f + 1)) K := by
        intro d1
        have hlit : ¬ (0 < lg t n w le gr p ∧ (lz = true → max (ag t n gr (p + 1) q) (lg t n w le gr (p + 1)) ≤ lg t n w le gr p)) → wpX10_put (nI k) a b c d 0 (nI p) 1 0 (fun (mtk_6 : Int32) (mki_7 : Nat → Int32) (mln_8 : Nat → Int32) (mdi_9 : Nat → Int32) (mst_10 : Nat → Int32) => wpX10_goThrough_109 (nI q) (nI p) mtk_6 mki_7 mln_8 mdi_9 mst_10 (wpX10_goThrough_14 (lzI lz) (nI n) (nI w) (nI le) (nI gr) t K (f + 1)) K) := by
          intro d2
          have es : sq t n w le gr lz p q = (0, 1, 0) := by unfold sq; rw [if_neg d1, if_neg d2]
          rw [es] at go
          exact put_at hk2 (h109 (l := 1) go)
        have hmat : 0 < lg t n w le gr p → (lz = true → max (ag t n gr (p + 1) q) (lg t n w le gr (p + 1)) ≤ lg t n w le gr p) → wpX10_goThrough_94 (nI p) (nI (lg t n w le gr p)) (nI n) (nI w) (nI le) (nI gr) (nI k) t a b c d (wpX10_goThrough_14 (lzI lz) (nI n) (nI w) (nI le) (nI gr) t K (f + 1)) K := by
          intro d2 d3
          have es : sq t n w le gr lz p q = (1, lg t n w le gr p, nr t n w gr p (lg t n w le gr p)) := by unfold sq; rw [if_neg d1, if_pos ⟨d2, d3⟩]
          rw [es] at go
          unfold wpX10_goThrough_94
          exact sX10_nearestAt hn hw (by omega) hg hp (put_at hk2 (h109 go))
        unfold wpX10_goThrough_61
        refine pk_eq (lg t n w le gr p) 0 (fun z => hlit (by omega)) (fun z => ?_)
        cases lz with
        | false => exact br_t rfl (hmat (by omega) (fun y => absurd y (by decide)))
        | true =>
          refine br_f ne10 ?_
          unfold wpX10_taken
          rw [nI_1]
          have b4 := ag_le t n gr (p + 1) q
          have b5 := lg_le t n w le gr (p + 1)
          refine pk_eq (p + 1) n (fun y => ?_) (fun y => ?_)
          · exact br_t (nI_le (Nat.zero_le _) (by omega)) (hmat (by omega) (fun _ => by omega))
          · refine sX10_againAt hn hg hw (by omega) (Rq_mono hR (Nat.le_add_right p 1)) (sX10_longestAt hn hw (by omega) hg (by omega) ?_)
            rw [i_max _ _ (by omega) (by omega)]
            exact pk_le (max (ag t n gr (p + 1) q) (lg t n w le gr (p + 1))) (lg t n w le gr p) (fun y => hmat (by omega) (fun _ => y)) (fun y => hlit (fun u => by have := u.2 rfl; omega))
      refine pk_lt (ag t n gr p q) (lg t n w le gr p) (fun y => h61 (by omega)) (fun y => pk_le (ag t n gr p q) 0 (fun z => h61 (by omega)) (fun z => ?_))
      have es : sq t n w le gr lz p q = (2, ag t n gr p q, q) := by unfold sq; rw [if_pos ⟨z, y⟩]
      rw [es] at go
      exact put_at hk2 (h109 go)
set_option maxHeartbeats 1000000 in
theorem cs_1001 {L : Nat} {xs : Nat → Int32} {v5 : Int32} {tn : Int32} {tb : Nat → Int32} {sw : Int32} {sl : Int32} {sg : Int32} {sp : Int32} {ww : Nat → Int32} {wr : Nat → Int32} {wm : Nat → Int32} {wl : Nat → Int32} {wd : Nat → Int32} {pn : Int32} {pch : Int32} {pk : Nat → Int32} {pl : Nat → Int32} {pd : Nat → Int32} {ps : Nat → Int32} {bn : Int32} {br : Nat → Int32} {rn : Int32} {rf : Int32} {rx : Int32} {rp : Int32} {rb : Nat → Int32} {mth : Int32} {msz : Int32} {mwi : Int32} {mle : Int32} {mgr : Int32} {mpr : Int32} {mhp : Int32} {mtk : Int32} {mbn : Int32} {mmd : Int32} {mep : Int32} {mat : Int32} {mer : Int32} {mtx : Nat → Int32} {mki : Nat → Int32} {mln : Nat → Int32} {mdi : Nat → Int32} {mst : Nat → Int32} {mbi : Nat → Int32} {mou : Nat → Int32} {mco : Nat → Int32} {mct : Nat → Int32} {mfk : Nat → Int32} {mfl : Nat → Int32} {mfd : Nat → Int32} {mgo : Nat → Int32} {mma : Nat → Int32} {ov : Nat → Int64} {od : Nat → UInt64} {KB : Int32 → Int32 → (Nat → Int32) → Int32 → Int32 → Int32 → Int32 → (Nat → Int32) → (Nat → Int32) → (Nat → Int32) → (Nat → Int32) → (Nat → Int32) → Int32 → Int32 → (Nat → Int32) → (Nat → Int32) → (Nat → Int32) → (Nat → Int32) → Int32 → (Nat → Int32) → Int32 → Int32 → Int32 → Int32 → (Nat → Int32) → Int32 → Int32 → Int32 → Int32 → Int32 → Int32 → Int32 → Int32 → Int32 → Int32 → Int32 → Int32 → Int32 → (Nat → Int32) → (Nat → Int32) → (Nat → Int32) → (Nat → Int32) → (Nat → Int32) → (Nat → Int32) → (Nat → Int32) → (Nat → Int32) → (Nat → Int32) → (Nat → Int32) → (Nat → Int32) → (Nat → Int32) → (Nat → Int32) → (Nat → Int32) → (Nat → Int64) → (Nat → UInt64) → Prop} (hI : Inv tn tb sw sl sg sp pn pch pk pl pd ps bn br rn rf rb msz mwi mle mgr mpr mhp mtk mbn mmd mep mtx mki mln mdi mst mbi mou) (hv1 : vp_in (v5 + 1) L) (hv2 : vp_in (v5 + 2) L) (hv3 : vp_in (v5 + 3) L) (hKB : ∀ (v59 : Int32) (tn9 : Int32) (tb9 : Nat → Int32) (sw9 : Int32) (sl9 : Int32) (sg9 : Int32) (sp9 : Int32) (ww9 : Nat → Int32) (wr9 : Nat → Int32) (wm9 : Nat → Int32) (wl9 : Nat → Int32) (wd9 : Nat → Int32) (pn9 : Int32) (pch9 : Int32) (pk9 : Nat → Int32) (pl9 : Nat → Int32) (pd9 : Nat → Int32) (ps9 : Nat → Int32) (bn9 : Int32) (br9 : Nat → Int32) (rn9 : Int32) (rf9 : Int32) (rx9 : Int32) (rp9 : Int32) (rb9 : Nat → Int32) (mth9 : Int32) (msz9 : Int32) (mwi9 : Int32) (mle9 : Int32) (mgr9 : Int32) (mpr9 : Int32) (mhp9 : Int32) (mtk9 : Int32) (mbn9 : Int32) (mmd9 : Int32) (mep9 : Int32) (mat9 : Int32) (mer9 : Int32) (mtx9 : Nat → Int32) (mki9 : Nat → Int32) (mln9 : Nat → Int32) (mdi9 : Nat → Int32) (mst9 : Nat → Int32) (mbi9 : Nat → Int32) (mou9 : Nat → Int32) (mco9 : Nat → Int32) (mct9 : Nat → Int32) (mfk9 : Nat → Int32) (mfl9 : Nat → Int32) (mfd9 : Nat → Int32) (mgo9 : Nat → Int32) (mma9 : Nat → Int32) (ov9 : Nat → Int64) (od9 : Nat → UInt64), v59 = v5 + 4 → Inv tn9 tb9 sw9 sl9 sg9 sp9 pn9 pch9 pk9 pl9 pd9 ps9 bn9 br9 rn9 rf9 rb9 msz9 mwi9 mle9 mgr9 mpr9 mhp9 mtk9 mbn9 mmd9 mep9 mtx9 mki9 mln9 mdi9 mst9 mbi9 mou9 → KB v59 tn9 tb9 sw9 sl9 sg9 sp9 ww9 wr9 wm9 wl9 wd9 pn9 pch9 pk9 pl9 pd9 ps9 bn9 br9 rn9 rf9 rx9 rp9 rb9 mth9 msz9 mwi9 mle9 mgr9 mpr9 mhp9 mtk9 mbn9 mmd9 mep9 mat9 mer9 mtx9 mki9 mln9 mdi9 mst9 mbi9 mou9 mco9 mct9 mfk9 mfl9 mfd9 mgo9 mma9 ov9 od9) : wpL_law_1001 v5 tn tb sw sl sg sp ww wr wm wl wd pk pl pd ps bn br rn rf rx rp rb msz mwi mle mgr mpr mbn mmd mep mat mer mtx mki mln mdi mst mbi mou mco mct mfk mfl mfd mgo mma ov od KB := by
  obtain ⟨hT, hSe, hPl, hB, hR⟩ := hI
  obtain ⟨n, hn, rfl, rfl, rfl, hby⟩ := id hT
  obtain ⟨w, le, gr, pr, hw, hle, hgr, hpr, ⟨rfl, rfl, rfl, rfl⟩, rfl, rfl, rfl, rfl⟩ := id hSe
  obtain ⟨rfl, rfl, rfl, rfl, rfl, hpl⟩ := id hPl
  unfold wpL_law_1001 wpX9_greedy wpX10_greedy
  obtain ⟨hk, hok⟩ := wk_ok (sq_ok (t := mtx) (lz := false) hn hw.2 hle.1 hgr.2) n 0 0 0 mki mln mdi mst (by omega) (by omega) (Or.inl rfl) (Nat.le_refl 0) (plan_nil mki mln mdi mst)
  unfold wpX5_choose
  refine ⟨n + 1, ?_⟩
  refine chX (lz := false) hn hw.2 hle hgr.2 n 0 0 0 mki mln mdi mst (by omega) (by omega) (Or.inl rfl) (Nat.le_refl 0) ?_
  generalize hr : wk (sq mtx n w le gr false) n n 0 0 0 mki mln mdi mst = r at hk hok ⊢
  obtain ⟨K, Ls, D, P, hP0, hPk, hp⟩ := id hok
  unfold wkP
  refine sX9_costOfPlan (by omega) hp ?_
  unfold wpX10_goThrough
  refine ⟨n + 1, ?_⟩
  refine goT (lz := false) hn hw.2 hle hgr.2 n 0 0 0 mki mln mdi mst (by omega) (by omega) (Or.inl rfl) (Nat.le_refl 0) ?_
  rw [hr]
  unfold wkP
  refine sX10_sum (by omega) hp ?_
  exact ⟨fun _ => (hKB _ _ _ _ _ _ _ _ _ _ _ _ _ _ _ _ _ _ _ _ _ _ _ _ _ _ _ _ _ _ _ _ _ _ _ _ _ _ _ _ _ _ _ _ _ _ _ _ _ _ _ _ _ _ rfl ⟨hT, hSe, ⟨rfl, rfl, rfl, rfl, rfl, Or.inr ⟨rfl, rfl, r.1, n, hn, by omega, rfl, rfl, hok⟩⟩, hB, hR⟩), fun q => absurd rfl q⟩
set_option maxHeartbeats 1000000 in
theorem cs_1014 {L : Nat} {xs : Nat → Int32} {v5 : Int32} {tn : Int32} {tb : Nat → Int32} {sw : Int32} {sl : Int32} {sg : Int32} {sp : Int32} {ww : Nat → Int32} {wr : Nat → Int32} {wm : Nat → Int32} {wl : Nat → Int32} {wd : Nat → Int32} {pn : Int32} {pch : Int32} {pk : Nat → Int32} {pl : Nat → Int32} {pd : Nat → Int32} {ps : Nat → Int32} {bn : Int32} {br : Nat → Int32} {rn : Int32} {rf : Int32} {rx : Int32} {rp : Int32} {rb : Nat → Int32} {mth : Int32} {msz : Int32} {mwi : Int32} {mle : Int32} {mgr : Int32} {mpr : Int32} {mhp : Int32} {mtk : Int32} {mbn : Int32} {mmd : Int32} {mep : Int32} {mat : Int32} {mer : Int32} {mtx : Nat → Int32} {mki : Nat → Int32} {mln : Nat → Int32} {mdi : Nat → Int32} {mst : Nat → Int32} {mbi : Nat → Int32} {mou : Nat → Int32} {mco : Nat → Int32} {mct : Nat → Int32} {mfk : Nat → Int32} {mfl : Nat → Int32} {mfd : Nat → Int32} {mgo : Nat → Int32} {mma : Nat → Int32} {ov : Nat → Int64} {od : Nat → UInt64} {KB : Int32 → Int32 → (Nat → Int32) → Int32 → Int32 → Int32 → Int32 → (Nat → Int32) → (Nat → Int32) → (Nat → Int32) → (Nat → Int32) → (Nat → Int32) → Int32 → Int32 → (Nat → Int32) → (Nat → Int32) → (Nat → Int32) → (Nat → Int32) → Int32 → (Nat → Int32) → Int32 → Int32 → Int32 → Int32 → (Nat → Int32) → Int32 → Int32 → Int32 → Int32 → Int32 → Int32 → Int32 → Int32 → Int32 → Int32 → Int32 → Int32 → Int32 → (Nat → Int32) → (Nat → Int32) → (Nat → Int32) → (Nat → Int32) → (Nat → Int32) → (Nat → Int32) → (Nat → Int32) → (Nat → Int32) → (Nat → Int32) → (Nat → Int32) → (Nat → Int32) → (Nat → Int32) → (Nat → Int32) → (Nat → Int32) → (Nat → Int64) → (Nat → UInt64) → Prop} (hI : Inv tn tb sw sl sg sp pn pch pk pl pd ps bn br rn rf rb msz mwi mle mgr mpr mhp mtk mbn mmd mep mtx mki mln mdi mst mbi mou) (hv1 : vp_in (v5 + 1) L) (hv2 : vp_in (v5 + 2) L) (hv3 : vp_in (v5 + 3) L) (hKB : ∀ (v59 : Int32) (tn9 : Int32) (tb9 : Nat → Int32) (sw9 : Int32) (sl9 : Int32) (sg9 : Int32) (sp9 : Int32) (ww9 : Nat → Int32) (wr9 : Nat → Int32) (wm9 : Nat → Int32) (wl9 : Nat → Int32) (wd9 : Nat → Int32) (pn9 : Int32) (pch9 : Int32) (pk9 : Nat → Int32) (pl9 : Nat → Int32) (pd9 : Nat → Int32) (ps9 : Nat → Int32) (bn9 : Int32) (br9 : Nat → Int32) (rn9 : Int32) (rf9 : Int32) (rx9 : Int32) (rp9 : Int32) (rb9 : Nat → Int32) (mth9 : Int32) (msz9 : Int32) (mwi9 : Int32) (mle9 : Int32) (mgr9 : Int32) (mpr9 : Int32) (mhp9 : Int32) (mtk9 : Int32) (mbn9 : Int32) (mmd9 : Int32) (mep9 : Int32) (mat9 : Int32) (mer9 : Int32) (mtx9 : Nat → Int32) (mki9 : Nat → Int32) (mln9 : Nat → Int32) (mdi9 : Nat → Int32) (mst9 : Nat → Int32) (mbi9 : Nat → Int32) (mou9 : Nat → Int32) (mco9 : Nat → Int32) (mct9 : Nat → Int32) (mfk9 : Nat → Int32) (mfl9 : Nat → Int32) (mfd9 : Nat → Int32) (mgo9 : Nat → Int32) (mma9 : Nat → Int32) (ov9 : Nat → Int64) (od9 : Nat → UInt64), v59 = v5 + 4 → Inv tn9 tb9 sw9 sl9 sg9 sp9 pn9 pch9 pk9 pl9 pd9 ps9 bn9 br9 rn9 rf9 rb9 msz9 mwi9 mle9 mgr9 mpr9 mhp9 mtk9 mbn9 mmd9 mep9 mtx9 mki9 mln9 mdi9 mst9 mbi9 mou9 → KB v59 tn9 tb9 sw9 sl9 sg9 sp9 ww9 wr9 wm9 wl9 wd9 pn9 pch9 pk9 pl9 pd9 ps9 bn9 br9 rn9 rf9 rx9 rp9 rb9 mth9 msz9 mwi9 mle9 mgr9 mpr9 mhp9 mtk9 mbn9 mmd9 mep9 mat9 mer9 mtx9 mki9 mln9 mdi9 mst9 mbi9 mou9 mco9 mct9 mfk9 mfl9 mfd9 mgo9 mma9 ov9 od9) : wpL_law_1014 v5 tn tb sw sl sg sp ww wr wm wl wd pk pl pd ps bn br rn rf rx rp rb msz mwi mle mgr mpr mbn mmd mep mat mer mtx mki mln mdi mst mbi mou mco mct mfk mfl mfd mgo mma ov od KB := by
  obtain ⟨hT, hSe, hPl, hB, hR⟩ := hI
  obtain ⟨n, hn, rfl, rfl, rfl, hby⟩ := id hT
  obtain ⟨w, le, gr, pr, hw, hle, hgr, hpr, ⟨rfl, rfl, rfl, rfl⟩, rfl, rfl, rfl, rfl⟩ := id hSe
  obtain ⟨rfl, rfl, rfl, rfl, rfl, hpl⟩ := id hPl
  unfold wpL_law_1014 wpX9_lazy wpX10_lazy
  obtain ⟨hk, hok⟩ := wk_ok (sq_ok (t := mtx) (lz := true) hn hw.2 hle.1 hgr.2) n 0 0 0 mki mln mdi mst (by omega) (by omega) (Or.inl rfl) (Nat.le_refl 0) (plan_nil mki mln mdi mst)
  unfold wpX5_choose
  refine ⟨n + 1, ?_⟩
  refine chX (lz := true) hn hw.2 hle hgr.2 n 0 0 0 mki mln mdi mst (by omega) (by omega) (Or.inl rfl) (Nat.le_refl 0) ?_
  generalize hr : wk (sq mtx n w le gr true) n n 0 0 0 mki mln mdi mst = r at hk hok ⊢
  obtain ⟨K, Ls, D, P, hP0, hPk, hp⟩ := id hok
  unfold wkP
  refine sX9_costOfPlan (by omega) hp ?_
  unfold wpX10_goThrough
  refine ⟨n + 1, ?_⟩
  refine goT (lz := true) hn hw.2 hle hgr.2 n 0 0 0 mki mln mdi mst (by omega) (by omega) (Or.inl rfl) (Nat.le_refl 0) ?_
  rw [hr]
  unfold wkP
  refine sX10_sum (by omega) hp ?_
  exact ⟨fun _ => (hKB _ _ _ _ _ _ _ _ _ _ _ _ _ _ _ _ _ _ _ _ _ _ _ _ _ _ _ _ _ _ _ _ _ _ _ _ _ _ _ _ _ _ _ _ _ _ _ _ _ _ _ _ _ _ rfl ⟨hT, hSe, ⟨rfl, rfl, rfl, rfl, rfl, Or.inr ⟨rfl, rfl, r.1, n, hn, by omega, rfl, rfl, hok⟩⟩, hB, hR⟩), fun q => absurd rfl q⟩

