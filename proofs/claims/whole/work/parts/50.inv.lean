/-- the text: the same in both, at most 64 bytes -/
def IT (tn : Int32) (tb : Nat → Int32) (msz : Int32) (mtx : Nat → Int32) : Prop := ∃ n : Nat, n ≤ 64 ∧ tn = nI n ∧ msz = nI n ∧ mtx = tb ∧ ∀ i, ∃ b : Nat, b < 256 ∧ tb i = nI b
/-- the settings -/
def IS (sw sl sg sp mwi mle mgr mpr : Int32) : Prop := ∃ w le gr pr : Nat, (1 ≤ w ∧ w ≤ 64) ∧ (2 ≤ le ∧ le ≤ 6) ∧ (le ≤ gr ∧ gr ≤ 64) ∧ pr ≤ 30 ∧ (sw = nI w ∧ sl = nI le ∧ sg = nI gr ∧ sp = nI pr) ∧ mwi = nI w ∧ mle = nI le ∧ mgr = nI gr ∧ mpr = nI pr
def tokOK (K l d : Nat) : Prop := (K = 0 ∧ l = 1 ∧ d = 0) ∨ (K = 1 ∧ (2 ≤ l ∧ l ≤ 64) ∧ (1 ≤ d ∧ d ≤ 64)) ∨ (K = 2 ∧ (1 ≤ l ∧ l ≤ 64) ∧ (1 ≤ d ∧ d ≤ 64))
/-- k tokens that make n bytes -/
def PlanOK (pk pl pd ps : Nat → Int32) (k n : Nat) : Prop := ∃ K Ls D P : Nat → Nat, P 0 = 0 ∧ P k = n ∧ ∀ i, i < k → (pk i = nI (K i) ∧ pl i = nI (Ls i) ∧ pd i = nI (D i) ∧ ps i = nI (P i)) ∧ P (i + 1) = P i + Ls i ∧ tokOK (K i) (Ls i) (D i)
def IP (tn pn pch : Int32) (pk pl pd ps : Nat → Int32) (mhp mtk : Int32) (mki mln mdi mst : Nat → Int32) : Prop := mki = pk ∧ mln = pl ∧ mdi = pd ∧ mst = ps ∧ mhp = pch ∧ ((pch = 0 ∧ pn = 0) ∨ (pch = 1 ∧ mtk = pn ∧ ∃ k n : Nat, n ≤ 64 ∧ k ≤ 64 ∧ pn = nI k ∧ tn = nI n ∧ PlanOK pk pl pd ps k n))
def IB (bn : Int32) (br : Nat → Int32) (mbn : Int32) (mbi : Nat → Int32) : Prop := ∃ m : Nat, m ≤ 800 ∧ bn = nI m ∧ mbn = nI m ∧ mbi = br ∧ ∀ i, br i = 0 ∨ br i = 1
def IR (rn rf : Int32) (rb : Nat → Int32) (mmd mep : Int32) (mou : Nat → Int32) : Prop := ∃ r : Nat, r ≤ 200 ∧ rn = nI r ∧ mmd = nI r ∧ mou = rb ∧ mep = rf
def Inv (tn : Int32) (tb : Nat → Int32) (sw sl sg sp : Int32) (pn pch : Int32) (pk pl pd ps : Nat → Int32) (bn : Int32) (br : Nat → Int32) (rn rf : Int32) (rb : Nat → Int32) (msz mwi mle mgr mpr mhp mtk mbn mmd mep : Int32) (mtx mki mln mdi mst mbi mou : Nat → Int32) : Prop :=
  IT tn tb msz mtx ∧ IS sw sl sg sp mwi mle mgr mpr ∧ IP tn pn pch pk pl pd ps mhp mtk mki mln mdi mst ∧ IB bn br mbn mbi ∧ IR rn rf rb mmd mep mou
theorem iIn1 {v lo hi : Int32} {post : Int32 → Prop} (h1 : ¬ v < lo) (h2 : ¬ hi < v) (h : post 1) : wpX10_isIn v lo hi post := ⟨fun c => absurd c h1, fun _ => ⟨fun c => absurd c h2, fun _ => h⟩⟩
theorem iIn0 {v lo hi : Int32} {post : Int32 → Prop} (h1 : v < lo ∨ hi < v) (h : post 0) : wpX10_isIn v lo hi post := ⟨fun _ => h, fun c => ⟨fun _ => h, fun d => (h1.elim c d).elim⟩⟩
theorem ne10 : ¬ (1 : Int32) = 0 := by decide
theorem ne20 : ¬ (2 : Int32) = 0 := by decide
theorem nbz : nb9 0 := rfl
theorem nbo : nb9 1 := rfl
theorem tl0 {ov : Nat → Int64} {x : Int64} {P : Prop} (h : P) : (lg_cmp (vp_updL ov (0 : Int32).toNatClampNeg x (0 : Int32).toNatClampNeg) x = 0 → P) ∧ (¬ lg_cmp (vp_updL ov (0 : Int32).toNatClampNeg x (0 : Int32).toNatClampNeg) x = 0 → False) := ⟨fun _ => h, fun q => q (by simp [lg_cmp, vp_updL])⟩
theorem tlK0 {P Q : Prop} (h : P) : ((0 : Int32) = 0 → (((0 : Int32) = 0 → P) ∧ (¬ (0 : Int32) = 0 → Q))) ∧ (¬ (0 : Int32) = 0 → False) := ⟨fun _ => ⟨fun _ => h, fun q => absurd rfl q⟩, fun q => absurd rfl q⟩
theorem tlK1 {P Q : Prop} (h : Q) : ((1 : Int32) = 1 → (((1 : Int32) = 0 → P) ∧ (¬ (1 : Int32) = 0 → Q))) ∧ (¬ (1 : Int32) = 1 → False) := ⟨fun _ => ⟨fun q => absurd q ne10, fun _ => h⟩, fun q => absurd rfl q⟩
theorem tlK2 {P Q : Prop} (h : Q) : ((2 : Int32) = 2 → (((2 : Int32) = 0 → P) ∧ (¬ (2 : Int32) = 0 → Q))) ∧ (¬ (2 : Int32) = 2 → False) := ⟨fun _ => ⟨fun q => absurd q ne20, fun _ => h⟩, fun q => absurd rfl q⟩
theorem i_ngt {a b : Int32} (h : a ≤ b) : ¬ b < a := fun q => by rw [Int32.le_iff_toInt_le] at h; rw [Int32.lt_iff_toInt_lt] at q; omega
theorem i_gt {a b : Int32} (h : ¬ a ≤ b) : b < a := by rw [Int32.le_iff_toInt_le] at h; rw [Int32.lt_iff_toInt_lt]; omega
theorem i_ge {a b : Int32} (h : ¬ a < b) : b ≤ a := by rw [Int32.lt_iff_toInt_lt] at h; rw [Int32.le_iff_toInt_le]; omega
theorem i_nle {a b : Int32} (h : a < b) : ¬ b ≤ a := fun q => by rw [Int32.lt_iff_toInt_lt] at h; rw [Int32.le_iff_toInt_le] at q; omega
/-- 'v at most n - 1' and 'v less than n' are one, for sizes -/
theorem i_last {v : Int32} {n : Nat} (hn : n < 2 ^ 30) : (nI n - 1 < v) ↔ nI n ≤ v := by
  have e : (nI n - 1).toInt = (n : Int) - 1 := by
    have h1 : (1 : Int32) = nI 1 := rfl
    rw [h1, pk_sub_toInt hn (by decide)]; rfl
  rw [Int32.lt_iff_toInt_lt, Int32.le_iff_toInt_le, e, nI_toInt (by omega)]
  omega
/-- a number between two others is a small one -/
theorem i_nat {v hi : Int32} {N : Nat} (h0 : ¬ v < 0) (h1 : v ≤ hi) (hN : hi.toInt = N) : ∃ j : Nat, j ≤ N ∧ v = nI j := nI_of2 hN h0 h1
theorem i_pos {v : Int32} (h : ¬ v < 1) : ¬ v < 0 := by
  intro q
  rw [Int32.lt_iff_toInt_lt] at h q
  have e1 : (1 : Int32).toInt = 1 := by decide
  have e0 : (0 : Int32).toInt = 0 := by decide
  omega
theorem i_pos2 {v : Int32} (h : ¬ v < 2) : ¬ v < 0 := by
  intro q
  rw [Int32.lt_iff_toInt_lt] at h q
  have e1 : (2 : Int32).toInt = 2 := by decide
  have e0 : (0 : Int32).toInt = 0 := by decide
  omega
theorem i_at {v : Int32} {n N : Nat} (h0 : ¬ v < 0) (h1 : ¬ nI n ≤ v) (hn : n ≤ N) (hN : N < 2 ^ 31) : ∃ j : Nat, j < n ∧ v = nI j ∧ vp_in v N := by
  obtain ⟨j, hj, rfl⟩ := nI_of h0
  have h2 : j < n := by
    rcases Nat.lt_or_ge j n with q | q
    · exact q
    · exact absurd (nI_le q hj) h1
  exact ⟨j, h2, rfl, vp_in_nI (by omega) hN⟩
theorem upd_byte {t : Nat → Int32} {k b : Nat} (h : ∀ i, ∃ b : Nat, b < 256 ∧ t i = nI b) (hb : b < 256) : ∀ i, ∃ c : Nat, c < 256 ∧ upd t k (nI b) i = nI c := by
  intro i
  by_cases hi : i = k
  · exact ⟨b, hb, by rw [hi]; exact pk_us⟩
  · obtain ⟨c, hc, e⟩ := h i
    exact ⟨c, hc, by rw [pk_un hi]; exact e⟩

