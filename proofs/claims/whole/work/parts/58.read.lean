-- numbers in bits
def bv (B : Nat → Nat) : Nat → Nat → Nat → Nat
  | h, 0, _ => h
  | h, k + 1, x => bv B (2 * h + B x) k (x + 1)
theorem bv_lt {B : Nat → Nat} (hb1 : ∀ i, B i ≤ 1) : ∀ (k h x a : Nat), h < 2 ^ a → bv B h k x < 2 ^ (a + k)
  | 0, h, x, a, hh => hh
  | k + 1, h, x, a, hh => by
    rw [bv]
    have h1 := hb1 x
    have h2 : 2 * h + B x < 2 ^ (a + 1) := by rw [Nat.pow_succ]; omega
    have := bv_lt hb1 k _ (x + 1) (a + 1) h2
    rw [show a + (k + 1) = a + 1 + k by omega]
    exact this
theorem bv_ge {B : Nat → Nat} : ∀ (k h x : Nat), h ≤ bv B h k x
  | 0, h, x => Nat.le_refl h
  | k + 1, h, x => by
    rw [bv]
    have := bv_ge (B := B) k (2 * h + B x) (x + 1)
    omega
def num (m : Nat) (B : Nat → Nat) : Nat → Nat → Nat → Nat × Nat × Nat
  | 0, _, x => (2, 0, x)
  | g + 1, z, x => if m ≤ x then (1, 0, x) else if B x = 0 then num m B g (z + 1) (x + 1) else if x + 1 + z ≤ m then (0, bv B 1 z (x + 1), x + 1 + z) else (1, 0, x)
theorem num_ok {m : Nat} {B : Nat → Nat} (hb1 : ∀ i, B i ≤ 1) : ∀ (g z x : Nat), z + g = 8 → (num m B g z x).1 = 0 → 1 ≤ (num m B g z x).2.1 ∧ (num m B g z x).2.1 < 256 ∧ (num m B g z x).2.2 ≤ m ∧ x < (num m B g z x).2.2
  | 0, z, x, _, h => absurd h (by rw [num]; exact Nat.succ_ne_zero 1)
  | g + 1, z, x, hz, h => by
    rw [num] at h ⊢
    by_cases c1 : m ≤ x
    · rw [if_pos c1] at h
      exact absurd h (Nat.succ_ne_zero 0)
    · rw [if_neg c1] at h ⊢
      by_cases c2 : B x = 0
      · rw [if_pos c2] at h ⊢
        obtain ⟨h1, h2, h3, h4⟩ := num_ok hb1 g (z + 1) (x + 1) (by omega) h
        exact ⟨h1, h2, h3, by omega⟩
      · rw [if_neg c2] at h ⊢
        by_cases c3 : x + 1 + z ≤ m
        · rw [if_pos c3]
          have h1 := bv_ge (B := B) z 1 (x + 1)
          have h2 := bv_lt hb1 z 1 (x + 1) 1 (by decide)
          have h3 : 2 ^ (1 + z) ≤ 2 ^ 8 := Nat.pow_le_pow_right (by decide) (by omega)
          refine ⟨h1, ?_, c3, ?_⟩
          · show bv B 1 z (x + 1) < 256
            omega
          · show x < x + 1 + z
            omega
        · rw [if_neg c3] at h
          exact absurd h (Nat.succ_ne_zero 0)
theorem num_err {m : Nat} {B : Nat → Nat} : ∀ (g z x : Nat), (num m B g z x).1 ≤ 2
  | 0, z, x => by rw [num]; exact Nat.le_refl 2
  | g + 1, z, x => by
    rw [num]
    split
    · exact Nat.le_succ 1
    · split
      · exact num_err g (z + 1) (x + 1)
      · split
        · exact Nat.zero_le 2
        · exact Nat.le_succ 1
-- the coder's reading
theorem tkbX {m x : Nat} {br : Nat → Int32} {B : Nat → Nat} {post : Int32 → Int32 → Prop} (hbt : ∀ i, br i = nI (B i)) (hm : m ≤ 800) (hx : x ≤ m) (h1 : x < m → post (nI (B x)) (nI (x + 1))) (h2 : x = m → post (-1) (nI x)) : wpX6_takeBit (nI m) br (nI x) post := by
  unfold wpX6_takeBit
  refine pk_lt x m (fun c => ?_) (fun c => ?_)
  · rw [nI_1, nI_pred, nI_clamp (by omega), hbt]
    exact ⟨vp_in_nI (by omega) (by decide), h1 c⟩
  · exact h2 (by omega)
theorem i_2h (h b : Nat) : 2 * nI h + nI b = nI (2 * h + b) := by rw [show (2 : Int32) = nI 2 from rfl, pk_mul, nI_add]
theorem i_nn : ¬ (0 : Int32) ≤ -1 := by decide
theorem tbhX {m M : Nat} {br : Nat → Int32} {B : Nat → Nat} {K24 : Int32 → Prop} {K41 : Int32 → Int32 → Prop} (hbt : ∀ i, br i = nI (B i)) (hb1 : ∀ i, B i ≤ 1) (hm : m ≤ 800) (hM : M ≤ 8) : ∀ (k fuel j h x : Nat), j + k = M → k < fuel → x ≤ m → (x + k ≤ m → K41 (nI (bv B h k x)) (nI (x + k))) → (m < x + k → ∀ rx, K24 rx) → wpX6_takeBehind_6 (nI M) (nI m) br K24 K41 fuel (nI h) (nI j) (nI x) := by
  intro k
  induction k with
  | zero =>
    intro fuel j h x hj hf hx h1 h2
    obtain ⟨f, rfl⟩ : ∃ f, fuel = f + 1 := ⟨fuel - 1, by omega⟩
    rw [wpX6_takeBehind_6]
    exact br_t (nI_le (by omega) (by omega)) (h1 (by omega))
  | succ k ih =>
    intro fuel j h x hj hf hx h1 h2
    obtain ⟨f, rfl⟩ : ∃ f, fuel = f + 1 := ⟨fuel - 1, by omega⟩
    rw [wpX6_takeBehind_6]
    refine br_f (nI_ge (by omega) (by omega)) (tkbX hbt hm hx (fun c => ?_) (fun c => ?_))
    · have b := hb1 x
      refine br_t (nI_pos' (by omega)) ?_
      rw [i_2h, nI_1]
      refine ih f (j + 1) (2 * h + B x) (x + 1) (by omega) (by omega) (by omega) (fun z => ?_) (fun z => h2 (by omega))
      rw [show x + 1 + k = x + (k + 1) by omega]
      exact h1 (by omega)
    · exact br_f i_nn (h2 (by omega) _)
theorem sX6_takeBehind {m k h x : Nat} {br : Nat → Int32} {B : Nat → Nat} {post : Int32 → Int32 → Prop} (hbt : ∀ i, br i = nI (B i)) (hb1 : ∀ i, B i ≤ 1) (hm : m ≤ 800) (hk : k ≤ 8) (hx : x ≤ m) (h1 : x + k ≤ m → post (nI (bv B h k x)) (nI (x + k))) (h2 : m < x + k → ∀ rx, post (-1) rx) : wpX6_takeBehind (nI m) br (nI x) (nI h) (nI k) post :=
  ⟨k + 1, tbhX hbt hb1 hm hk k (k + 1) 0 h x (by omega) (by omega) hx h1 h2⟩
def NumP (r : Nat × Nat × Nat) (post : Int32 → Int32 → Prop) : Prop := (r.1 = 0 → post (nI r.2.1) (nI r.2.2)) ∧ (r.1 = 1 → ∀ rx, post (-1) rx) ∧ (r.1 = 2 → ∀ rx, post (-2) rx)
theorem nuX {m : Nat} {br : Nat → Int32} {B : Nat → Nat} {post : Int32 → Int32 → Prop} (hbt : ∀ i, br i = nI (B i)) (hb1 : ∀ i, B i ≤ 1) (hm : m ≤ 800) : ∀ (g fuel z x : Nat), z + g = 8 → g < fuel → x ≤ m → NumP (num m B g z x) post → wpX6_takeNumber_2 (nI m) br (fun (rx_6 : Int32) => post (-1) rx_6) (fun (v2_7 : Int32) (rx_8 : Int32) => wpX6_takeBehind (nI m) br rx_8 1 v2_7 (fun (r_9 : Int32) (rx_10 : Int32) => (0 ≤ r_9 → (post r_9 rx_10)) ∧ (¬ 0 ≤ r_9 → (post (-1) rx_10)))) (fun (rx_12 : Int32) => post (-2) rx_12) fuel (nI z) (nI x) := by
  intro g
  induction g with
  | zero =>
    intro fuel z x hz hf hx h
    obtain ⟨f, rfl⟩ : ∃ f, fuel = f + 1 := ⟨fuel - 1, by omega⟩
    rw [wpX6_takeNumber_2]
    have hz8 : z = 8 := by omega
    subst hz8
    exact br_t (by decide) (h.2.2 rfl _)
  | succ g ih =>
    intro fuel z x hz hf hx h
    obtain ⟨f, rfl⟩ : ∃ f, fuel = f + 1 := ⟨fuel - 1, by omega⟩
    rw [wpX6_takeNumber_2]
    rw [num] at h
    refine br_f (nI_nlt (a := 7) (b := z) (by omega) (by decide)) (tkbX hbt hm hx (fun c => ?_) (fun c => ?_))
    · rw [if_neg (by omega)] at h
      have b := hb1 x
      refine br_t (nI_pos' (by omega)) ?_
      by_cases c2 : B x = 0
      · rw [if_pos c2] at h
        rw [c2]
        refine br_f (by decide) ?_
        rw [nI_1]
        exact ih f (z + 1) (x + 1) (by omega) (by omega) (by omega) h
      · rw [if_neg c2] at h
        have c3 : B x = 1 := by omega
        rw [c3]
        refine br_t rfl (sX6_takeBehind (h := 1) hbt hb1 hm (by omega) (by omega) (fun y => ?_) (fun y rx => ?_))
        · rw [if_pos y] at h
          have h2 := bv_lt hb1 z 1 (x + 1) 1 (by decide)
          have h3 : 2 ^ (1 + z) ≤ 2 ^ 8 := Nat.pow_le_pow_right (by decide) (by omega)
          exact br_t (nI_pos' (by omega)) (h.1 rfl)
        · rw [if_neg (by omega)] at h
          exact br_f i_nn (h.2.1 rfl _)
    · rw [if_pos (by omega)] at h
      exact br_f i_nn (h.2.1 rfl _)
theorem sX6_takeNumber {m x : Nat} {br : Nat → Int32} {B : Nat → Nat} {post : Int32 → Int32 → Prop} (hbt : ∀ i, br i = nI (B i)) (hb1 : ∀ i, B i ≤ 1) (hm : m ≤ 800) (hx : x ≤ m) (h : NumP (num m B 8 0 x) post) : wpX6_takeNumber (nI m) br (nI x) post :=
  ⟨9, nuX hbt hb1 hm 8 9 0 x (by omega) (by omega) hx h⟩
def cpy9 (d : Nat) : Nat → (Nat → Int32) → Nat → (Nat → Int32)
  | 0, rb, _ => rb
  | k + 1, rb, c => cpy9 d k (upd rb c (rb (c - d))) (c + 1)
theorem cpX {d M : Nat} {K : Int32 → (Nat → Int32) → Prop} (hM : M ≤ 300) : ∀ (k fuel j c : Nat) (rb : Nat → Int32), j + k = M → k < fuel → c + k ≤ 200 → d ≤ c → K (nI (c + k)) (cpy9 d k rb c) → wpX6_copy_16 (nI d) (nI M) K fuel (nI j) (nI c) rb := by
  intro k
  induction k with
  | zero =>
    intro fuel j c rb hj hf hc hd h
    obtain ⟨f, rfl⟩ : ∃ f, fuel = f + 1 := ⟨fuel - 1, by omega⟩
    rw [wpX6_copy_16]
    exact br_t (nI_le (by omega) (by omega)) h
  | succ k ih =>
    intro fuel j c rb hj hf hc hd h
    obtain ⟨f, rfl⟩ : ∃ f, fuel = f + 1 := ⟨fuel - 1, by omega⟩
    rw [wpX6_copy_16, pk_sub hd, nI_clamp (by omega), nI_clamp (by omega), nI_1, nI_1]
    refine br_f (nI_ge (by omega) (by omega)) ⟨vp_in_nI (by omega) (by decide), vp_in_nI (by omega) (by decide), ?_⟩
    refine ih f (j + 1) (c + 1) _ (by omega) (by omega) (by omega) (by omega) ?_
    rw [show c + 1 + k = c + (k + 1) by omega]
    exact h
theorem sX6_copy {d k c : Nat} {rb : Nat → Int32} {post : Int32 → Int32 → (Nat → Int32) → Prop} (hk : k ≤ 300) (hc : c ≤ 200) (hd : d ≤ c) (h1 : c + k ≤ 200 → post 0 (nI (c + k)) (cpy9 d k rb c)) (h2 : 200 < c + k → post 5 (nI c) rb) : wpX6_copy (nI c) rb (nI d) (nI k) post := by
  unfold wpX6_copy
  rw [show (200 : Int32) - nI c = nI (200 - c) from pk_sub (a := 200) hc]
  refine pk_le k (200 - c) (fun z => ?_) (fun z => h2 (by omega))
  exact ⟨k + 1, cpX hk k (k + 1) 0 c rb (by omega) (by omega) (by omega) hd (h1 (by omega))⟩
theorem cpM {d M : Nat} {K : Int32 → (Nat → Int32) → Prop} (hM : M ≤ 300) : ∀ (k fuel j c : Nat) (rb : Nat → Int32), j + k = M → k < fuel → c + k ≤ 200 → d ≤ c → K (nI (c + k)) (cpy9 d k rb c) → wpX10_repeat_2 (nI d) (nI M) K fuel (nI j) (nI c) rb := by
  intro k
  induction k with
  | zero =>
    intro fuel j c rb hj hf hc hd h
    obtain ⟨f, rfl⟩ : ∃ f, fuel = f + 1 := ⟨fuel - 1, by omega⟩
    rw [wpX10_repeat_2]
    exact br_t (nI_le (by omega) (by omega)) h
  | succ k ih =>
    intro fuel j c rb hj hf hc hd h
    obtain ⟨f, rfl⟩ : ∃ f, fuel = f + 1 := ⟨fuel - 1, by omega⟩
    rw [wpX10_repeat_2, pk_sub hd, nI_clamp (by omega), nI_clamp (by omega), nI_1, nI_1]
    refine br_f (nI_ge (by omega) (by omega)) ⟨vp_in_nI (by omega) (by decide), vp_in_nI (by omega) (by decide), ?_⟩
    refine ih f (j + 1) (c + 1) _ (by omega) (by omega) (by omega) (by omega) ?_
    rw [show c + 1 + k = c + (k + 1) by omega]
    exact h
/-- what a token's bits ask for: error, kind, byte or distance, how many, the next bit -/
def tkn (m : Nat) (B : Nat → Nat) (x c q : Nat) : Nat × Nat × Nat × Nat × Nat :=
  if B x = 0 then
    (if x + 9 ≤ m then (if c < 200 then (0, 0, bv B 0 8 (x + 1), 1, x + 9) else (5, 0, 0, 0, x)) else (1, 0, 0, 0, x))
  else if m ≤ x + 1 then (1, 0, 0, 0, x)
  else if B (x + 1) = 0 then
    (if (num m B 8 0 (x + 2)).1 = 0 then
      (if (num m B 8 0 (num m B 8 0 (x + 2)).2.2).1 = 0 then
        (if c < (num m B 8 0 (x + 2)).2.1 then (3, 0, 0, 0, x)
        else if 200 < c + ((num m B 8 0 (num m B 8 0 (x + 2)).2.2).2.1 + 1) then (5, 0, 0, 0, x)
        else (0, 1, (num m B 8 0 (x + 2)).2.1, (num m B 8 0 (num m B 8 0 (x + 2)).2.2).2.1 + 1, (num m B 8 0 (num m B 8 0 (x + 2)).2.2).2.2))
      else ((num m B 8 0 (num m B 8 0 (x + 2)).2.2).1, 0, 0, 0, x))
    else ((num m B 8 0 (x + 2)).1, 0, 0, 0, x))
  else
    (if (num m B 8 0 (x + 2)).1 = 0 then
      (if q = 0 then (4, 0, 0, 0, x)
      else if 200 < c + (num m B 8 0 (x + 2)).2.1 then (5, 0, 0, 0, x)
      else (0, 1, q, (num m B 8 0 (x + 2)).2.1, (num m B 8 0 (x + 2)).2.2))
    else ((num m B 8 0 (x + 2)).1, 0, 0, 0, x))
/-- a good token goes on behind itself, and keeps what is known -/
def TkOK (m x c : Nat) (s : Nat × Nat × Nat × Nat × Nat) : Prop := s.1 = 0 → (x < s.2.2.2.2 ∧ s.2.2.2.2 ≤ m) ∧ (s.2.1 = 0 → c < 200) ∧ (s.2.1 ≠ 0 → 1 ≤ s.2.2.1 ∧ s.2.2.1 ≤ c ∧ c + s.2.2.2.1 ≤ 200)
theorem tkn_ok {m x c q : Nat} {B : Nat → Nat} (hb1 : ∀ i, B i ≤ 1) (hx : x < m) (hq : q ≤ c) : TkOK m x c (tkn m B x c q) := by
  unfold tkn
  have ne1 : ∀ {e a b d f : Nat}, e ≠ 0 → TkOK m x c (e, a, b, d, f) := fun he h => absurd h he
  by_cases c1 : B x = 0
  · rw [if_pos c1]
    by_cases c2 : x + 9 ≤ m
    · rw [if_pos c2]
      by_cases c3 : c < 200
      · rw [if_pos c3]
        exact fun _ => ⟨⟨by show x < x + 9; omega, c2⟩, fun _ => c3, fun h => absurd rfl h⟩
      · rw [if_neg c3]
        exact ne1 (by decide)
    · rw [if_neg c2]
      exact ne1 (by decide)
  · rw [if_neg c1]
    by_cases c2 : m ≤ x + 1
    · rw [if_pos c2]
      exact ne1 (by decide)
    · rw [if_neg c2]
      by_cases c4 : B (x + 1) = 0
      · rw [if_pos c4]
        by_cases c5 : (num m B 8 0 (x + 2)).1 = 0
        · rw [if_pos c5]
          obtain ⟨a1, a2, a3, a4⟩ := num_ok hb1 8 0 (x + 2) rfl c5
          by_cases c6 : (num m B 8 0 (num m B 8 0 (x + 2)).2.2).1 = 0
          · rw [if_pos c6]
            obtain ⟨b1, b2, b3, b4⟩ := num_ok hb1 8 0 _ rfl c6
            by_cases c7 : c < (num m B 8 0 (x + 2)).2.1
            · rw [if_pos c7]
              exact ne1 (by decide)
            · rw [if_neg c7]
              by_cases c8 : 200 < c + ((num m B 8 0 (num m B 8 0 (x + 2)).2.2).2.1 + 1)
              · rw [if_pos c8]
                exact ne1 (by decide)
              · rw [if_neg c8]
                refine fun _ => ⟨⟨?_, b3⟩, fun h => absurd h (Nat.succ_ne_zero 0), fun _ => ⟨a1, Nat.le_of_not_lt c7, Nat.le_of_not_lt c8⟩⟩
                show x < (num m B 8 0 (num m B 8 0 (x + 2)).2.2).2.2
                omega
          · rw [if_neg c6]
            exact ne1 c6
        · rw [if_neg c5]
          exact ne1 c5
      · rw [if_neg c4]
        by_cases c5 : (num m B 8 0 (x + 2)).1 = 0
        · rw [if_pos c5]
          obtain ⟨a1, a2, a3, a4⟩ := num_ok hb1 8 0 (x + 2) rfl c5
          by_cases c6 : q = 0
          · rw [if_pos c6]
            exact ne1 (by decide)
          · rw [if_neg c6]
            by_cases c8 : 200 < c + (num m B 8 0 (x + 2)).2.1
            · rw [if_pos c8]
              exact ne1 (by decide)
            · rw [if_neg c8]
              refine fun _ => ⟨⟨?_, a3⟩, fun h => absurd h (Nat.succ_ne_zero 0), fun _ => ⟨Nat.one_le_iff_ne_zero.mpr c6, hq, Nat.le_of_not_lt c8⟩⟩
              show x < (num m B 8 0 (x + 2)).2.2
              omega
        · rw [if_neg c5]
          exact ne1 c5
def TkP (c q : Nat) (rb : Nat → Int32) (s : Nat × Nat × Nat × Nat × Nat) (post : Int32 → Int32 → Int32 → Int32 → (Nat → Int32) → Prop) : Prop :=
  (s.1 ≠ 0 → ∀ rx, post (nI s.1) (nI c) rx (nI q) rb) ∧ (s.1 = 0 → s.2.1 = 0 → post 0 (nI (c + 1)) (nI s.2.2.2.2) (nI q) (upd rb c (nI s.2.2.1))) ∧ (s.1 = 0 → s.2.1 ≠ 0 → post 0 (nI (c + s.2.2.2.1)) (nI s.2.2.2.2) (nI s.2.2.1) (cpy9 s.2.2.1 s.2.2.2.1 rb c))
theorem i_neg1 : -(-1 : Int32) = 1 := by decide
theorem i_neg2 : -(-2 : Int32) = 2 := by decide
theorem rtX {m x c q : Nat} {br rb : Nat → Int32} {B : Nat → Nat} {post : Int32 → Int32 → Int32 → Int32 → (Nat → Int32) → Prop} (hbt : ∀ i, br i = nI (B i)) (hb1 : ∀ i, B i ≤ 1) (hm : m ≤ 800) (hx : x < m) (hc : c ≤ 200) (hq : q ≤ c) (h : TkP c q rb (tkn m B x c q) post) : wpX6_readToken (nI m) br (nI c) (nI x) (nI q) rb post := by
  unfold wpX6_readToken
  unfold tkn at h
  have bx := hb1 x
  have bx2 := hb1 (x + 1)
  refine tkbX hbt hm (by omega) (fun _ => ?_) (fun z => by omega)
  refine pk_eq (B x) 0 (fun c1 => ?_) (fun c1 => ?_)
  · rw [if_pos c1] at h
    unfold wpX6_readLiteral
    refine sX6_takeBehind (h := 0) (k := 8) hbt hb1 hm (by omega) (by omega) (fun z => ?_) (fun z rx => ?_)
    · rw [if_pos (by omega)] at h
      have h2 := bv_lt hb1 8 0 (x + 1) 0 (by decide)
      refine br_t (nI_pos' (by omega)) ?_
      refine pk_lt c 200 (fun y => ?_) (fun y => ?_)
      · rw [if_pos y] at h
        rw [nI_clamp (by omega), nI_1]
        exact ⟨vp_in_nI y (by decide), h.2.1 rfl rfl⟩
      · rw [if_neg (by omega)] at h
        exact h.1 (Nat.succ_ne_zero 4) _
    · rw [if_neg (by omega)] at h
      exact br_f i_nn (h.1 (Nat.succ_ne_zero 0) _)
  · rw [if_neg c1] at h
    refine tkbX hbt hm (by omega) (fun z => ?_) (fun z => ?_)
    · rw [if_neg (by omega)] at h
      refine br_t (nI_pos' (by omega)) ?_
      rw [show x + 1 + 1 = x + 2 by omega]
      refine pk_eq (B (x + 1)) 0 (fun c4 => ?_) (fun c4 => ?_)
      · rw [if_pos c4] at h
        unfold wpX6_readMatch
        have e9 := num_err (m := m) (B := B) 8 0 (x + 2)
        refine sX6_takeNumber hbt hb1 hm (by omega) ⟨fun c5 => ?_, fun c5 rx => ?_, fun c5 rx => ?_⟩
        · rw [if_pos c5] at h
          obtain ⟨a1, a2, a3, a4⟩ := num_ok hb1 8 0 (x + 2) rfl c5
          refine br_t (nI_pos' (by omega)) ?_
          refine sX6_takeNumber hbt hb1 hm a3 ⟨fun c6 => ?_, fun c6 rx => ?_, fun c6 rx => ?_⟩
          · rw [if_pos c6] at h
            obtain ⟨b1, b2, b3, b4⟩ := num_ok hb1 8 0 _ rfl c6
            refine br_t (nI_pos' (by omega)) ?_
            refine pk_le (num m B 8 0 (x + 2)).2.1 c (fun c7 => ?_) (fun c7 => ?_)
            · rw [if_neg (by omega)] at h
              rw [nI_1]
              refine sX6_copy (by omega) hc c7 (fun c8 => ?_) (fun c8 => ?_)
              · rw [if_neg (by omega)] at h
                exact br_t rfl (h.2.2 rfl (Nat.succ_ne_zero 0))
              · rw [if_pos c8] at h
                exact br_f (by decide) (h.1 (Nat.succ_ne_zero 4) _)
            · rw [if_pos c7] at h
              exact h.1 (Nat.succ_ne_zero 2) _
          · rw [if_neg (by omega), c6] at h
            refine br_f i_nn ?_
            rw [i_neg1]
            exact h.1 (Nat.succ_ne_zero 0) _
          · rw [if_neg (by omega), c6] at h
            refine br_f (by decide) ?_
            rw [i_neg2]
            exact h.1 (Nat.succ_ne_zero 1) _
        · rw [if_neg (by omega), c5] at h
          refine br_f i_nn ?_
          rw [i_neg1]
          exact h.1 (Nat.succ_ne_zero 0) _
        · rw [if_neg (by omega), c5] at h
          refine br_f (by decide) ?_
          rw [i_neg2]
          exact h.1 (Nat.succ_ne_zero 1) _
      · rw [if_neg c4] at h
        unfold wpX6_readAgain
        refine sX6_takeNumber hbt hb1 hm (by omega) ⟨fun c5 => ?_, fun c5 rx => ?_, fun c5 rx => ?_⟩
        · rw [if_pos c5] at h
          obtain ⟨a1, a2, a3, a4⟩ := num_ok hb1 8 0 (x + 2) rfl c5
          refine br_t (nI_pos' (by omega)) ?_
          refine pk_eq q 0 (fun c6 => ?_) (fun c6 => ?_)
          · rw [if_pos c6] at h
            exact h.1 (Nat.succ_ne_zero 3) _
          · rw [if_neg c6] at h
            refine sX6_copy (by omega) hc hq (fun c8 => ?_) (fun c8 => ?_)
            · rw [if_neg (by omega)] at h
              exact h.2.2 rfl (Nat.succ_ne_zero 0)
            · rw [if_pos c8] at h
              exact h.1 (Nat.succ_ne_zero 4) _
        · rw [if_neg (by omega), c5] at h
          refine br_f i_nn ?_
          rw [i_neg1]
          exact h.1 (Nat.succ_ne_zero 0) _
        · rw [if_neg (by omega), c5] at h
          refine br_f (by decide) ?_
          rw [i_neg2]
          exact h.1 (Nat.succ_ne_zero 1) _
    · rw [if_pos (by omega)] at h
      exact br_f i_nn (h.1 (Nat.succ_ne_zero 0) _)
-- all tokens
def rd (m : Nat) (B : Nat → Nat) : Nat → Nat → Nat → Nat → (Nat → Int32) → Nat × Int32 × Nat × (Nat → Int32)
  | 0, _, c, _, rb => (0, -1, c, rb)
  | f + 1, x, c, q, rb => if m ≤ x then (0, -1, c, rb) else if (tkn m B x c q).1 ≠ 0 then ((tkn m B x c q).1, nI x, c, rb) else if (tkn m B x c q).2.1 = 0 then rd m B f (tkn m B x c q).2.2.2.2 (c + 1) q (upd rb c (nI (tkn m B x c q).2.2.1)) else rd m B f (tkn m B x c q).2.2.2.2 (c + (tkn m B x c q).2.2.2.1) (tkn m B x c q).2.2.1 (cpy9 (tkn m B x c q).2.2.1 (tkn m B x c q).2.2.2.1 rb c)
theorem rd_le {m : Nat} {B : Nat → Nat} (hb1 : ∀ i, B i ≤ 1) : ∀ (f x c q : Nat) (rb : Nat → Int32), c ≤ 200 → q ≤ c → (rd m B f x c q rb).2.2.1 ≤ 200
  | 0, x, c, q, rb, hc, _ => hc
  | f + 1, x, c, q, rb, hc, hq => by
    rw [rd]
    by_cases c1 : m ≤ x
    · rw [if_pos c1]; exact hc
    · rw [if_neg c1]
      have ok := tkn_ok (q := q) hb1 (Nat.lt_of_not_le c1) hq
      by_cases c2 : (tkn m B x c q).1 ≠ 0
      · rw [if_pos c2]; exact hc
      · rw [if_neg c2]
        have c3 : (tkn m B x c q).1 = 0 := by omega
        obtain ⟨-, o1, o2⟩ := ok c3
        by_cases c4 : (tkn m B x c q).2.1 = 0
        · rw [if_pos c4]
          exact rd_le hb1 f _ _ _ _ (o1 c4) (by omega)
        · rw [if_neg c4]
          obtain ⟨u1, u2, u3⟩ := o2 c4
          exact rd_le hb1 f _ _ _ _ u3 (by omega)
theorem rdX {m : Nat} {br : Nat → Int32} {B : Nat → Nat} {post : Int32 → Int32 → Int32 → Int32 → Int32 → (Nat → Int32) → Prop} (hbt : ∀ i, br i = nI (B i)) (hb1 : ∀ i, B i ≤ 1) (hm : m ≤ 800) : ∀ (f j x c q : Nat) (rb : Nat → Int32), m - x ≤ f → x ≤ m → j ≤ x → c ≤ 200 → q ≤ c → (∀ rx rp, post (nI (rd m B f x c q rb).1) (nI (rd m B f x c q rb).2.2.1) (rd m B f x c q rb).2.1 rx rp (rd m B f x c q rb).2.2.2) → wpX6_readAll_22 (nI m) br (fun (v3_9 : Int32) (v4_10 : Int32) (rn_11 : Int32) (rx_12 : Int32) (rp_13 : Int32) (rb_14 : Nat → Int32) => post v4_10 rn_11 v3_9 rx_12 rp_13 rb_14) (fun (rn_15 : Int32) (rx_16 : Int32) (rp_17 : Int32) (rb_18 : Nat → Int32) => post 0 rn_15 (-1) rx_16 rp_17 rb_18) (f + 1) (nI j) (nI c) (nI x) (nI q) rb := by
  intro f
  induction f with
  | zero =>
    intro j x c q rb hf hx hj hc hq h
    rw [wpX6_readAll_22]
    exact pk_le 800 j (fun _ => h _ _) (fun _ => br_t (nI_le (by omega) (by omega)) (h _ _))
  | succ f ih =>
    intro j x c q rb hf hx hj hc hq h
    rw [wpX6_readAll_22]
    by_cases c1 : m ≤ x
    · rw [rd, if_pos c1] at h
      exact pk_le 800 j (fun _ => h _ _) (fun _ => br_t (nI_le c1 (by omega)) (h _ _))
    · rw [rd, if_neg c1] at h
      have ok := tkn_ok (q := q) hb1 (Nat.lt_of_not_le c1) hq
      refine br_f (nI_ge (a := j) (b := 800) (by omega) (by decide)) (br_f (nI_ge (by omega) (by omega)) ?_)
      refine rtX hbt hb1 hm (by omega) hc hq ⟨fun c2 rx => ?_, fun c2 c3 => ?_, fun c2 c3 => ?_⟩
      · rw [if_pos c2] at h
        have b : (tkn m B x c q).1 < 2 ^ 31 := by
          have e1 := num_err (m := m) (B := B) 8 0 (x + 2)
          have e2 := num_err (m := m) (B := B) 8 0 (num m B 8 0 (x + 2)).2.2
          unfold tkn
          (repeat' split) <;> (try decide) <;> omega
        exact br_f (nI_ne0 (by omega) b) (h _ _)
      · obtain ⟨o0, o1, -⟩ := ok c2
        rw [if_neg (by omega), if_pos c3] at h
        refine br_t rfl ?_
        rw [nI_1]
        exact ih (j + 1) _ (c + 1) q _ (by omega) o0.2 (by omega) (o1 c3) (by omega) h
      · obtain ⟨o0, -, o2⟩ := ok c2
        obtain ⟨u1, u2, u3⟩ := o2 c3
        rw [if_neg (by omega), if_neg c3] at h
        refine br_t rfl ?_
        rw [nI_1]
        exact ih (j + 1) _ _ _ _ (by omega) o0.2 (by omega) u3 (by omega) h
-- the reference's reading
theorem tkL {m M : Nat} {br : Nat → Int32} {B : Nat → Nat} {K : Int32 → Int32 → Prop} (hbt : ∀ i, br i = nI (B i)) (hm : m ≤ 800) (hM : M ≤ 9) : ∀ (k fuel j h x : Nat), j + k = M → k < fuel → x + k ≤ m → K (nI (bv B h k x)) (nI (x + k)) → wpX10_take_29 (nI M) 0 br K fuel (nI h) (nI j) (nI x) := by
  intro k
  induction k with
  | zero =>
    intro fuel j h x hj hf hx h1
    obtain ⟨f, rfl⟩ : ∃ f, fuel = f + 1 := ⟨fuel - 1, by omega⟩
    rw [wpX10_take_29]
    exact br_t (nI_le (by omega) (by omega)) h1
  | succ k ih =>
    intro fuel j h x hj hf hx h1
    obtain ⟨f, rfl⟩ : ∃ f, fuel = f + 1 := ⟨fuel - 1, by omega⟩
    rw [wpX10_take_29]
    refine br_f (nI_ge (by omega) (by omega)) (br_t rfl ⟨vp_in_nI (by omega) (by decide), ?_⟩)
    rw [nI_clamp (by omega), hbt, i_2h, nI_1, nI_1]
    refine ih f (j + 1) (2 * h + B x) (x + 1) (by omega) (by omega) (by omega) ?_
    rw [show x + 1 + k = x + (k + 1) by omega]
    exact h1
theorem tkM1 {mbn mat mer v1 : Int32} {br : Nat → Int32} {post : Int32 → Int32 → Int32 → Prop} (hm : ¬ mer = 0) (h : post 0 mat mer) : wpX10_take mbn mat mer br v1 post := by
  refine br_f hm ⟨1, ?_⟩
  rw [wpX10_take_29]
  exact ⟨fun _ => h, fun _ => br_f hm h⟩
theorem tkM0 {m k x : Nat} {br : Nat → Int32} {B : Nat → Nat} {post : Int32 → Int32 → Int32 → Prop} (hbt : ∀ i, br i = nI (B i)) (hm : m ≤ 800) (hk : k ≤ 9) (hx : x ≤ m) (h1 : x + k ≤ m → post (nI (bv B 0 k x)) (nI (x + k)) 0) (h2 : m < x + k → post 0 (nI x) 1) : wpX10_take (nI m) (nI x) 0 br (nI k) post := by
  unfold wpX10_take
  rw [nI_add]
  refine br_t rfl (pk_le (x + k) m (fun c => ?_) (fun c => ?_))
  · exact ⟨k + 1, tkL hbt hm hk k (k + 1) 0 0 x (by omega) (by omega) c (h1 c)⟩
  · refine ⟨1, ?_⟩
    rw [wpX10_take_29]
    exact ⟨fun _ => h2 c, fun _ => br_f ne10 (h2 c)⟩
theorem nuM1 {mbn mat mer : Int32} {br : Nat → Int32} {post : Int32 → Int32 → Int32 → Prop} (hm : ¬ mer = 0) (h : post 0 mat mer) : wpX10_takeNumber mbn mat mer br post := by
  refine ⟨1, ?_⟩
  rw [wpX10_takeNumber_2]
  exact br_f hm (tkM1 hm h)
def NumM (r : Nat × Nat × Nat) (post : Int32 → Int32 → Int32 → Prop) : Prop := (r.1 = 0 → post (nI r.2.1) (nI r.2.2) 0) ∧ (r.1 ≠ 0 → ∀ mat, post 0 mat (nI r.1))
theorem nuM {m : Nat} {br : Nat → Int32} {B : Nat → Nat} {post : Int32 → Int32 → Int32 → Prop} (hbt : ∀ i, br i = nI (B i)) (hb1 : ∀ i, B i ≤ 1) (hm : m ≤ 800) : ∀ (g fuel z x : Nat), z + g = 7 → g + 2 ≤ fuel → x ≤ m → NumM (num m B (g + 1) z x) post → wpX10_takeNumber_2 (nI m) br (fun (v1_6 : Int32) (mat_7 : Int32) (mer_8 : Int32) => wpX10_take (nI m) mat_7 mer_8 br (v1_6 + 1) (fun (r_9 : Int32) (mat_10 : Int32) (mer_11 : Int32) => post r_9 mat_10 mer_11)) fuel (nI z) (nI x) 0 := by
  intro g
  induction g with
  | zero =>
    intro fuel z x hz hf hx h
    obtain ⟨f, rfl⟩ : ∃ f, fuel = f + 1 + 1 := ⟨fuel - 2, by omega⟩
    have b := hb1 x
    rw [wpX10_takeNumber_2]
    rw [num] at h
    refine br_t rfl (pk_le m x (fun c => ?_) (fun c => ?_))
    · rw [if_pos c] at h
      rw [nI_1]
      exact tkM0 hbt hm (by omega) hx (fun y => by omega) (fun _ => h.2 (Nat.succ_ne_zero 0) _)
    · rw [if_neg (by omega)] at h
      rw [nI_clamp (by omega), hbt, nI_1, nI_1]
      refine ⟨vp_in_nI (by omega) (by decide), ?_⟩
      refine pk_eq (B x) 0 (fun c2 => ?_) (fun c2 => ?_)
      · rw [if_pos c2, num] at h
        refine br_f (nI_ge (a := 7) (b := z + 1) (by omega) (by omega)) ?_
        rw [wpX10_takeNumber_2]
        exact br_f ne20 (tkM1 ne20 (h.2 (Nat.succ_ne_zero 1) _))
      · rw [if_neg c2] at h
        have c3 : B x = 1 := by omega
        refine tkM0 hbt hm (by omega) hx (fun y => ?_) (fun y => ?_)
        · rw [if_pos (by omega)] at h
          rw [bv, c3, show x + (z + 1) = x + 1 + z by omega]
          exact h.1 rfl
        · rw [if_neg (by omega)] at h
          exact h.2 (Nat.succ_ne_zero 0) _
  | succ g ih =>
    intro fuel z x hz hf hx h
    obtain ⟨f, rfl⟩ : ∃ f, fuel = f + 1 := ⟨fuel - 1, by omega⟩
    have b := hb1 x
    rw [wpX10_takeNumber_2]
    rw [num] at h
    refine br_t rfl (pk_le m x (fun c => ?_) (fun c => ?_))
    · rw [if_pos c] at h
      rw [nI_1]
      exact tkM0 hbt hm (by omega) hx (fun y => by omega) (fun _ => h.2 (Nat.succ_ne_zero 0) _)
    · rw [if_neg (by omega)] at h
      rw [nI_clamp (by omega), hbt, nI_1, nI_1]
      refine ⟨vp_in_nI (by omega) (by decide), ?_⟩
      refine pk_eq (B x) 0 (fun c2 => ?_) (fun c2 => ?_)
      · rw [if_pos c2] at h
        exact br_t (nI_le (a := z + 1) (b := 7) (by omega) (by decide)) (ih f (z + 1) (x + 1) (by omega) (by omega) (by omega) h)
      · rw [if_neg c2] at h
        have c3 : B x = 1 := by omega
        refine tkM0 hbt hm (by omega) hx (fun y => ?_) (fun y => ?_)
        · rw [if_pos (by omega)] at h
          rw [bv, c3, show x + (z + 1) = x + 1 + z by omega]
          exact h.1 rfl
        · rw [if_neg (by omega)] at h
          exact h.2 (Nat.succ_ne_zero 0) _
theorem sX10_takeNumber {m x : Nat} {br : Nat → Int32} {B : Nat → Nat} {post : Int32 → Int32 → Int32 → Prop} (hbt : ∀ i, br i = nI (B i)) (hb1 : ∀ i, B i ≤ 1) (hm : m ≤ 800) (hx : x ≤ m) (h : NumM (num m B 8 0 x) post) : wpX10_takeNumber (nI m) (nI x) 0 br post :=
  ⟨9, nuM hbt hb1 hm 7 9 0 x (by omega) (by omega) hx h⟩
/-- an error stands: nothing is made, and the place is noted -/
theorem r126e {v1 v2 v3 v4 v5 k0 mmd mep mat mer : Int32} {mou : Nat → Int32} {KB : Int32 → Int32 → Int32 → Int32 → Int32 → (Nat → Int32) → Prop} {K256 : Int32 → Int32 → Int32 → Int32 → (Nat → Int32) → Prop} (hm : ¬ mer = 0) (h : KB v4 mmd v2 mat mer mou) : wpX10_read_126 v1 v2 v3 v4 v5 k0 mmd mep mat mer mou KB K256 := by
  unfold wpX10_read_126 wpX10_read_153 wpX10_read_174 wpX10_read_199 wpX10_read_250
  exact br_f hm (br_f hm (br_f hm (br_f hm h)))
theorem r102e {v1 v2 v3 v4 k0 mmd mep mat mer : Int32} {mou : Nat → Int32} {KB : Int32 → Int32 → Int32 → Int32 → Int32 → (Nat → Int32) → Prop} {K256 : Int32 → Int32 → Int32 → Int32 → (Nat → Int32) → Prop} (hm : ¬ mer = 0) (h : KB v4 mmd v2 mat mer mou) : wpX10_read_102 v1 v2 v3 v4 k0 mmd mep mat mer mou KB K256 := by
  unfold wpX10_read_102
  exact ⟨fun _ => r126e hm h, fun _ => ⟨fun _ => r126e hm h, fun _ => r126e hm h⟩⟩
def TkM (x c q : Nat) (rb : Nat → Int32) (s : Nat × Nat × Nat × Nat × Nat) (mep : Int32) (KB : Int32 → Int32 → Int32 → Int32 → Int32 → (Nat → Int32) → Prop) : Prop :=
  (s.1 ≠ 0 → ∀ v mat, KB v (nI c) (nI x) mat (nI s.1) rb) ∧ (s.1 = 0 → s.2.1 = 0 → KB (nI q) (nI (c + 1)) mep (nI s.2.2.2.2) 0 (upd rb c (nI s.2.2.1))) ∧ (s.1 = 0 → s.2.1 ≠ 0 → KB (nI s.2.2.1) (nI (c + s.2.2.2.1)) mep (nI s.2.2.2.2) 0 (cpy9 s.2.2.1 s.2.2.2.1 rb c))
theorem ne30 : ¬ (3 : Int32) = 0 := by decide
theorem ne40 : ¬ (4 : Int32) = 0 := by decide
theorem ne50 : ¬ (5 : Int32) = 0 := by decide
theorem ne21 : ¬ (2 : Int32) = 1 := by decide
theorem ne12 : ¬ (1 : Int32) = 2 := by decide
theorem ne01 : ¬ (0 : Int32) = 1 := by decide
theorem ne02 : ¬ (0 : Int32) = 2 := by decide
/-- a copy, at last -/
theorem r174 {c d k : Nat} {v2 v3 v5 mep mat : Int32} {mou : Nat → Int32} {KB : Int32 → Int32 → Int32 → Int32 → Int32 → (Nat → Int32) → Prop} {K256 : Int32 → Int32 → Int32 → Int32 → (Nat → Int32) → Prop} (hc : c ≤ 200) (hk : k ≤ 300) (hd : d ≤ c) (h3 : ¬ v3 = 0) (h1 : c + k ≤ 200 → KB (nI d) (nI (c + k)) mep mat 0 (cpy9 d k mou c)) (h2 : 200 < c + k → KB (nI d) (nI c) v2 mat 5 mou) : wpX10_read_174 v2 v3 (nI d) v5 (nI k) (nI c) mep mat 0 mou KB K256 := by
  unfold wpX10_read_174 wpX10_read_199 wpX10_read_250
  rw [nI_add]
  refine br_t rfl (pk_le (c + k) 200 (fun z => ?_) (fun z => ?_))
  · exact br_t rfl (br_f h3 ⟨k + 1, cpM hk k (k + 1) 0 c mou (by omega) (by omega) z hd (h1 z)⟩)
  · exact br_f ne50 (h2 z)
theorem rtM {m x c q : Nat} {br rb : Nat → Int32} {B : Nat → Nat} {mep : Int32} {KB : Int32 → Int32 → Int32 → Int32 → Int32 → (Nat → Int32) → Prop} {K256 : Int32 → Int32 → Int32 → Int32 → (Nat → Int32) → Prop} (hbt : ∀ i, br i = nI (B i)) (hb1 : ∀ i, B i ≤ 1) (hm : m ≤ 800) (hx : x < m) (hc : c ≤ 200) (hq : q ≤ c) (h : TkM x c q rb (tkn m B x c q) mep KB) : wpX10_take (nI m) (nI x) 0 br 1 (fun (r_3 : Int32) (mat_4 : Int32) (mer_5 : Int32) => (r_3 = 0 → (wpX10_read_69 (nI q) (nI x) 0 (nI m) (nI c) mep mat_4 mer_5 br rb KB K256)) ∧ (¬ r_3 = 0 → (wpX10_take (nI m) mat_4 mer_5 br 1 (fun (r_7 : Int32) (mat_8 : Int32) (mer_9 : Int32) => wpX10_read_69 (nI q) (nI x) (1 + r_7) (nI m) (nI c) mep mat_8 mer_9 br rb KB K256)))) := by
  unfold tkn at h
  have bx := hb1 x
  have bx2 := hb1 (x + 1)
  refine tkM0 (k := 1) hbt hm (by omega) (by omega) (fun _ => ?_) (fun z => by omega)
  have e0 : ∀ y, bv B 0 1 y = B y := fun y => by rw [bv, bv]; omega
  rw [e0]
  refine pk_eq (B x) 0 (fun c1 => ?_) (fun c1 => ?_)
  · rw [if_pos c1] at h
    unfold wpX10_read_69 wpX10_read_83
    refine br_f ne01 (br_t rfl (tkM0 (k := 8) hbt hm (by omega) (by omega) (fun z => ?_) (fun z => ?_)))
    · rw [if_pos (by omega)] at h
      unfold wpX10_read_102 wpX10_read_126 wpX10_read_153 wpX10_read_174 wpX10_read_199 wpX10_read_250
      refine br_t rfl (br_t rfl (br_t rfl (br_t rfl (br_f ne02 (br_t rfl ?_)))))
      rw [nI_1]
      refine pk_le (c + 1) 200 (fun y => ?_) (fun y => ?_)
      · rw [if_pos (by omega)] at h
        refine br_t rfl (br_t rfl ⟨vp_in_nI y (by decide), ?_⟩)
        rw [nI_clamp (by omega), show x + 1 + 8 = x + 9 by omega]
        exact h.2.1 rfl rfl
      · rw [if_neg (by omega)] at h
        exact br_f ne50 (h.1 (Nat.succ_ne_zero 4) _ _)
    · rw [if_neg (by omega)] at h
      exact r102e ne10 (h.1 (Nat.succ_ne_zero 0) _ _)
  · rw [if_neg c1] at h
    refine tkM0 (k := 1) hbt hm (by omega) (by omega) (fun z => ?_) (fun z => ?_)
    · rw [if_neg (by omega)] at h
      rw [e0, show x + 1 + 1 = x + 2 by omega]
      unfold wpX10_read_69 wpX10_read_83
      have e9 := num_err (m := m) (B := B) 8 0 (x + 2)
      by_cases c4 : B (x + 1) = 0
      · rw [if_pos c4] at h
        rw [c4]
        refine br_t rfl (sX10_takeNumber hbt hb1 hm (by omega) ⟨fun c5 => ?_, fun c5 mat => ?_⟩)
        · rw [if_pos c5] at h
          obtain ⟨a1, a2, a3, a4⟩ := num_ok hb1 8 0 (x + 2) rfl c5
          have e8 := num_err (m := m) (B := B) 8 0 (num m B 8 0 (x + 2)).2.2
          refine br_f (by decide) (sX10_takeNumber hbt hb1 hm a3 ⟨fun c6 => ?_, fun c6 mat => ?_⟩)
          · rw [if_pos c6] at h
            obtain ⟨b1, b2, b3, b4⟩ := num_ok hb1 8 0 _ rfl c6
            unfold wpX10_read_102 wpX10_read_126
            refine br_f (by decide) (br_t rfl (br_t rfl (br_f (by decide) ?_)))
            rw [nI_1]
            refine pk_le (num m B 8 0 (x + 2)).2.1 c (fun c7 => ?_) (fun c7 => ?_)
            · rw [if_neg (by omega)] at h
              unfold wpX10_read_153
              refine br_t rfl (br_f (by decide) (r174 hc (by omega) c7 (by decide) (fun c8 => ?_) (fun c8 => ?_)))
              · rw [if_neg (by omega)] at h
                exact h.2.2 rfl (Nat.succ_ne_zero 0)
              · rw [if_pos c8] at h
                exact h.1 (Nat.succ_ne_zero 4) _ _
            · rw [if_pos c7] at h
              unfold wpX10_read_153 wpX10_read_174 wpX10_read_199 wpX10_read_250
              exact br_f ne30 (br_f ne30 (br_f ne30 (h.1 (Nat.succ_ne_zero 2) _ _)))
          · rw [if_neg c6] at h
            exact r102e (nI_ne0 (by omega) (by omega)) (h.1 c6 _ _)
        · rw [if_neg c5] at h
          have hne : ¬ nI (num m B 8 0 (x + 2)).1 = 0 := nI_ne0 (by omega) (by omega)
          exact br_f (by decide) (nuM1 hne (r102e hne (h.1 c5 _ _)))
      · rw [if_neg c4] at h
        have c3 : B (x + 1) = 1 := by omega
        rw [c3]
        refine br_f (by decide) (br_f (by decide) (sX10_takeNumber hbt hb1 hm (by omega) ⟨fun c5 => ?_, fun c5 mat => ?_⟩))
        · rw [if_pos c5] at h
          obtain ⟨a1, a2, a3, a4⟩ := num_ok hb1 8 0 (x + 2) rfl c5
          unfold wpX10_read_102 wpX10_read_126
          refine br_f (by decide) (br_f (by decide) (br_t rfl (br_f (by decide) (br_t (nI_le hq (by omega)) ?_))))
          unfold wpX10_read_153
          refine br_t rfl (br_t (by decide) (pk_eq q 0 (fun c6 => ?_) (fun c6 => ?_)))
          · rw [if_pos c6] at h
            unfold wpX10_read_174 wpX10_read_199 wpX10_read_250
            exact br_f ne40 (br_f ne40 (h.1 (Nat.succ_ne_zero 3) _ _))
          · rw [if_neg c6] at h
            refine r174 hc (by omega) hq (by decide) (fun c8 => ?_) (fun c8 => ?_)
            · rw [if_neg (by omega)] at h
              exact h.2.2 rfl (Nat.succ_ne_zero 0)
            · rw [if_pos c8] at h
              exact h.1 (Nat.succ_ne_zero 4) _ _
        · rw [if_neg c5] at h
          exact r102e (nI_ne0 (by omega) (by omega)) (h.1 c5 _ _)
    · rw [if_pos (by omega)] at h
      unfold wpX10_read_69 wpX10_read_83
      exact br_t rfl (nuM1 ne10 (br_f (by decide) (nuM1 ne10 (r102e ne10 (h.1 (Nat.succ_ne_zero 0) _ _)))))
theorem rdM {m : Nat} {br : Nat → Int32} {B : Nat → Nat} {K256 : Int32 → Int32 → Int32 → Int32 → (Nat → Int32) → Prop} (hbt : ∀ i, br i = nI (B i)) (hb1 : ∀ i, B i ≤ 1) (hm : m ≤ 800) : ∀ (f x c q : Nat) (rb : Nat → Int32), m - x ≤ f → x ≤ m → c ≤ 200 → q ≤ c → (∀ mat, K256 (nI (rd m B f x c q rb).2.2.1) (rd m B f x c q rb).2.1 mat (nI (rd m B f x c q rb).1) (rd m B f x c q rb).2.2.2) → wpX10_read_27 (nI m) br K256 (f + 2) (nI q) (nI c) (-1) (nI x) 0 rb := by
  intro f
  induction f with
  | zero =>
    intro x c q rb hf hx hc hq h
    rw [wpX10_read_27]
    exact br_t (nI_le (by omega) (by omega)) (h _)
  | succ f ih =>
    intro x c q rb hf hx hc hq h
    rw [wpX10_read_27]
    by_cases c1 : m ≤ x
    · rw [rd, if_pos c1] at h
      exact br_t (nI_le c1 (by omega)) (h _)
    · rw [rd, if_neg c1] at h
      have ok := tkn_ok (q := q) hb1 (Nat.lt_of_not_le c1) hq
      refine br_f (nI_ge (by omega) (by omega)) (br_t rfl ?_)
      refine rtM hbt hb1 hm (by omega) hc hq ⟨fun c2 v mat => ?_, fun c2 c3 => ?_, fun c2 c3 => ?_⟩
      · rw [if_pos c2] at h
        have b : (tkn m B x c q).1 < 2 ^ 31 := by
          have e1 := num_err (m := m) (B := B) 8 0 (x + 2)
          have e2 := num_err (m := m) (B := B) 8 0 (num m B 8 0 (x + 2)).2.2
          unfold tkn
          (repeat' split) <;> (try decide) <;> omega
        rw [wpX10_read_27]
        exact ⟨fun _ => h _, fun _ => br_f (nI_ne0 (by omega) b) (h _)⟩
      · obtain ⟨o0, o1, -⟩ := ok c2
        rw [if_neg (by omega), if_pos c3] at h
        exact ih _ (c + 1) q _ (by omega) o0.2 (o1 c3) (by omega) h
      · obtain ⟨o0, -, o2⟩ := ok c2
        obtain ⟨u1, u2, u3⟩ := o2 c3
        rw [if_neg (by omega), if_neg c3] at h
        exact ih _ _ _ _ (by omega) o0.2 u3 (by omega) h
set_option maxHeartbeats 1000000 in
theorem cs_1722 {L : Nat} {xs : Nat → Int32} {v5 : Int32} {tn : Int32} {tb : Nat → Int32} {sw : Int32} {sl : Int32} {sg : Int32} {sp : Int32} {ww : Nat → Int32} {wr : Nat → Int32} {wm : Nat → Int32} {wl : Nat → Int32} {wd : Nat → Int32} {pn : Int32} {pch : Int32} {pk : Nat → Int32} {pl : Nat → Int32} {pd : Nat → Int32} {ps : Nat → Int32} {bn : Int32} {br : Nat → Int32} {rn : Int32} {rf : Int32} {rx : Int32} {rp : Int32} {rb : Nat → Int32} {mth : Int32} {msz : Int32} {mwi : Int32} {mle : Int32} {mgr : Int32} {mpr : Int32} {mhp : Int32} {mtk : Int32} {mbn : Int32} {mmd : Int32} {mep : Int32} {mat : Int32} {mer : Int32} {mtx : Nat → Int32} {mki : Nat → Int32} {mln : Nat → Int32} {mdi : Nat → Int32} {mst : Nat → Int32} {mbi : Nat → Int32} {mou : Nat → Int32} {mco : Nat → Int32} {mct : Nat → Int32} {mfk : Nat → Int32} {mfl : Nat → Int32} {mfd : Nat → Int32} {mgo : Nat → Int32} {mma : Nat → Int32} {ov : Nat → Int64} {od : Nat → UInt64} {KB : Int32 → Int32 → (Nat → Int32) → Int32 → Int32 → Int32 → Int32 → (Nat → Int32) → (Nat → Int32) → (Nat → Int32) → (Nat → Int32) → (Nat → Int32) → Int32 → Int32 → (Nat → Int32) → (Nat → Int32) → (Nat → Int32) → (Nat → Int32) → Int32 → (Nat → Int32) → Int32 → Int32 → Int32 → Int32 → (Nat → Int32) → Int32 → Int32 → Int32 → Int32 → Int32 → Int32 → Int32 → Int32 → Int32 → Int32 → Int32 → Int32 → Int32 → (Nat → Int32) → (Nat → Int32) → (Nat → Int32) → (Nat → Int32) → (Nat → Int32) → (Nat → Int32) → (Nat → Int32) → (Nat → Int32) → (Nat → Int32) → (Nat → Int32) → (Nat → Int32) → (Nat → Int32) → (Nat → Int32) → (Nat → Int32) → (Nat → Int64) → (Nat → UInt64) → Prop} (hI : Inv tn tb sw sl sg sp pn pch pk pl pd ps bn br rn rf rb msz mwi mle mgr mpr mhp mtk mbn mmd mep mtx mki mln mdi mst mbi mou) (hv1 : vp_in (v5 + 1) L) (hv2 : vp_in (v5 + 2) L) (hv3 : vp_in (v5 + 3) L) (hKB : ∀ (v59 : Int32) (tn9 : Int32) (tb9 : Nat → Int32) (sw9 : Int32) (sl9 : Int32) (sg9 : Int32) (sp9 : Int32) (ww9 : Nat → Int32) (wr9 : Nat → Int32) (wm9 : Nat → Int32) (wl9 : Nat → Int32) (wd9 : Nat → Int32) (pn9 : Int32) (pch9 : Int32) (pk9 : Nat → Int32) (pl9 : Nat → Int32) (pd9 : Nat → Int32) (ps9 : Nat → Int32) (bn9 : Int32) (br9 : Nat → Int32) (rn9 : Int32) (rf9 : Int32) (rx9 : Int32) (rp9 : Int32) (rb9 : Nat → Int32) (mth9 : Int32) (msz9 : Int32) (mwi9 : Int32) (mle9 : Int32) (mgr9 : Int32) (mpr9 : Int32) (mhp9 : Int32) (mtk9 : Int32) (mbn9 : Int32) (mmd9 : Int32) (mep9 : Int32) (mat9 : Int32) (mer9 : Int32) (mtx9 : Nat → Int32) (mki9 : Nat → Int32) (mln9 : Nat → Int32) (mdi9 : Nat → Int32) (mst9 : Nat → Int32) (mbi9 : Nat → Int32) (mou9 : Nat → Int32) (mco9 : Nat → Int32) (mct9 : Nat → Int32) (mfk9 : Nat → Int32) (mfl9 : Nat → Int32) (mfd9 : Nat → Int32) (mgo9 : Nat → Int32) (mma9 : Nat → Int32) (ov9 : Nat → Int64) (od9 : Nat → UInt64), v59 = v5 + 4 → Inv tn9 tb9 sw9 sl9 sg9 sp9 pn9 pch9 pk9 pl9 pd9 ps9 bn9 br9 rn9 rf9 rb9 msz9 mwi9 mle9 mgr9 mpr9 mhp9 mtk9 mbn9 mmd9 mep9 mtx9 mki9 mln9 mdi9 mst9 mbi9 mou9 → KB v59 tn9 tb9 sw9 sl9 sg9 sp9 ww9 wr9 wm9 wl9 wd9 pn9 pch9 pk9 pl9 pd9 ps9 bn9 br9 rn9 rf9 rx9 rp9 rb9 mth9 msz9 mwi9 mle9 mgr9 mpr9 mhp9 mtk9 mbn9 mmd9 mep9 mat9 mer9 mtx9 mki9 mln9 mdi9 mst9 mbi9 mou9 mco9 mct9 mfk9 mfl9 mfd9 mgo9 mma9 ov9 od9) : wpL_law_1722 v5 tn tb sw sl sg sp ww wr wm wl wd pn pch pk pl pd ps bn br rb msz mwi mle mgr mpr mhp mtk mbn mtx mki mln mdi mst mbi mou mco mct mfk mfl mfd mgo mma ov od KB := by
  obtain ⟨hT, hSe, hPl, hB, hR⟩ := hI
  obtain ⟨m, hm, rfl, rfl, rfl, hbi⟩ := id hB
  obtain ⟨r, hr, rfl, rfl, rfl, rfl⟩ := id hR
  unfold wpL_law_1722 wpX9_read
  have hbt : ∀ i, mbi i = nI (if mbi i = 0 then 0 else 1) := by
    intro i
    rcases hbi i with e | e
    · rw [e]; rfl
    · rw [e]; rfl
  have hb1 : ∀ i, (if mbi i = 0 then 0 else 1) ≤ 1 := by
    intro i
    split <;> omega
  generalize hBe : (fun i => if mbi i = 0 then 0 else 1) = B
  have hbt : ∀ i, mbi i = nI (B i) := by rw [← hBe]; exact hbt
  have hb1 : ∀ i, B i ≤ 1 := by rw [← hBe]; exact hb1
  have hc := rd_le (m := m) hb1 m 0 0 0 mou (by omega) (by omega)
  unfold wpX6_readAll
  refine ⟨m + 1, ?_⟩
  refine rdX hbt hb1 hm m 0 0 0 0 mou (by omega) (by omega) (by omega) (by omega) (by omega) (fun rx rp => ?_)
  unfold wpX10_read
  refine ⟨m + 2, ?_⟩
  refine rdM hbt hb1 hm m 0 0 0 mou (by omega) (by omega) (by omega) (by omega) (fun mat => ?_)
  exact ⟨fun _ => (hKB _ _ _ _ _ _ _ _ _ _ _ _ _ _ _ _ _ _ _ _ _ _ _ _ _ _ _ _ _ _ _ _ _ _ _ _ _ _ _ _ _ _ _ _ _ _ _ _ _ _ _ _ _ _ rfl ⟨hT, hSe, hPl, hB, ⟨(rd m B m 0 0 0 mou).2.2.1, hc, rfl, rfl, rfl, rfl⟩⟩), fun q => absurd rfl q⟩

