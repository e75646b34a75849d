/-! the block of a group, as a relation: what its 66 bits are -/
def aD (g : Nat → Int32) (a b : Nat) : Prop := ∀ k, a ≤ k → k < b → (g k).toInt < 256
def aQ (g : Nat → Int32) (a b : Nat) : Prop := ∀ k, a ≤ k → k < b → (g k).toInt = 256 ∨ (g k).toInt = 259
def fD (g : Nat → Int32) (B : Nat → Bool) (o a b : Nat) : Prop := ∀ k, a ≤ k → k < b → ∀ j, j < 8 → B (o + 8 * k + j) = bt (g k) j
def fC (g : Nat → Int32) (B : Nat → Bool) (a b : Nat) : Prop := ∀ k, a ≤ k → k < b → ∀ j, j < 7 → B (10 + 7 * k + j) = (decide (¬ (g k).toInt = 256) && bt 30 j)
def fT (B : Nat → Bool) (t : Int32) : Prop := B 0 = true ∧ B 1 = false ∧ ∀ j, j < 8 → B (2 + j) = bt t j
def fZ (B : Nat → Bool) (a b : Nat) : Prop := ∀ q, a ≤ q → q < b → B q = false
def gMid (g : Nat → Int32) : Prop := (g 4).toInt = 257 ∧ aQ g 0 4 ∧ aD g 5 8
def gSt (g : Nat → Int32) : Prop := (g 0).toInt = 257 ∧ aD g 1 8
def gEnd (g : Nat → Int32) (d : Nat) : Prop := (g d).toInt = 258 ∧ aD g 0 d ∧ aQ g (d + 1) 8
def fE (B : Nat → Bool) : Prop := ∀ k, k < 8 → ∀ j, j < 7 → B (10 + 7 * k + j) = bt 30 j
def blkR (g : Nat → Int32) (B : Nat → Bool) : Prop :=
  (aD g 0 8 → B 0 = false ∧ B 1 = true ∧ fD g B 2 0 8) ∧
  (gSt g → fT B 120 ∧ fD g B 2 1 8) ∧
  (gMid g → fT B 51 ∧ fC g B 0 4 ∧ fZ B 38 42 ∧ fD g B 2 5 8) ∧
  (∀ d, d < 8 → gEnd g d → fT B (st_k d) ∧ fD g B 10 0 d ∧ fZ B (10 + 8 * d) (17 + 7 * d) ∧ fC g B (d + 1) 8) ∧
  (aQ g 0 8 → fT B 30 ∧ fC g B 0 8) ∧
  (¬ aD g 0 8 → ¬ gSt g → ¬ gMid g → (∀ d, d < 8 → ¬ gEnd g d) → ¬ aQ g 0 8 → fT B 30 ∧ fE B)
theorem fT_eq {B C : Nat → Bool} {t : Int32} (h : fT B t) (k : fT C t) : ∀ q, q < 10 → B q = C q := by
  intro q hq
  rcases (show q = 0 ∨ q = 1 ∨ 2 ≤ q by omega) with rfl | rfl | h2
  · rw [h.1, k.1]
  · rw [h.2.1, k.2.1]
  · obtain ⟨j, rfl⟩ : ∃ j, q = 2 + j := ⟨q - 2, by omega⟩
    rw [h.2.2 j (by omega), k.2.2 j (by omega)]
theorem fD_eq {g g' : Nat → Int32} {B C : Nat → Bool} {o a b : Nat} (hg : ∀ k, k < 8 → g k = g' k) (hb : b ≤ 8) (h : fD g B o a b) (k : fD g' C o a b) : ∀ q, o + 8 * a ≤ q → q < o + 8 * b → B q = C q := by
  intro q h1 h2
  have e : q = o + 8 * ((q - o) / 8) + (q - o) % 8 := by omega
  rw [e, h _ (by omega) (by omega) _ (by omega), k _ (by omega) (by omega) _ (by omega), hg _ (by omega)]
theorem fC_eq {g g' : Nat → Int32} {B C : Nat → Bool} {a b : Nat} (hg : ∀ k, k < 8 → g k = g' k) (hb : b ≤ 8) (h : fC g B a b) (k : fC g' C a b) : ∀ q, 10 + 7 * a ≤ q → q < 10 + 7 * b → B q = C q := by
  intro q h1 h2
  have e : q = 10 + 7 * ((q - 10) / 7) + (q - 10) % 7 := by omega
  rw [e, h _ (by omega) (by omega) _ (by omega), k _ (by omega) (by omega) _ (by omega), hg _ (by omega)]
theorem fE_eq {B C : Nat → Bool} (h : fE B) (k : fE C) : ∀ q, 10 ≤ q → q < 66 → B q = C q := by
  intro q h1 h2
  have e : q = 10 + 7 * ((q - 10) / 7) + (q - 10) % 7 := by omega
  rw [e, h _ (by omega) _ (by omega), k _ (by omega) _ (by omega)]
theorem aD_cg {g g' : Nat → Int32} (hg : ∀ k, k < 8 → g k = g' k) {a b : Nat} (hb : b ≤ 8) (h : aD g a b) : aD g' a b := fun k h1 h2 => by rw [← hg k (by omega)]; exact h k h1 h2
theorem aQ_cg {g g' : Nat → Int32} (hg : ∀ k, k < 8 → g k = g' k) {a b : Nat} (hb : b ≤ 8) (h : aQ g a b) : aQ g' a b := fun k h1 h2 => by rw [← hg k (by omega)]; exact h k h1 h2
/-- a group's block is one -/
theorem blkR_eq {g g' : Nat → Int32} {B C : Nat → Bool} (hg : ∀ k, k < 8 → g k = g' k) (h : blkR g B) (k : blkR g' C) : ∀ q, q < 66 → B q = C q := by
  have hg' : ∀ k, k < 8 → g' k = g k := fun k hk => (hg k hk).symm
  intro q hq
  by_cases c1 : aD g 0 8
  · have a := h.1 c1
    have b := k.1 (aD_cg hg (by omega) c1)
    rcases (show q = 0 ∨ q = 1 ∨ 2 ≤ q by omega) with rfl | rfl | h2
    · rw [a.1, b.1]
    · rw [a.2.1, b.2.1]
    · exact fD_eq hg (by omega) a.2.2 b.2.2 q (by omega) (by omega)
  by_cases c2 : gSt g
  · have a := h.2.1 c2
    have b := k.2.1 ⟨by rw [← hg 0 (by omega)]; exact c2.1, aD_cg hg (by omega) c2.2⟩
    rcases Nat.lt_or_ge q 10 with h2 | h2
    · exact fT_eq a.1 b.1 q h2
    · exact fD_eq hg (by omega) a.2 b.2 q (by omega) (by omega)
  by_cases c3 : gMid g
  · have a := h.2.2.1 c3
    have b := k.2.2.1 ⟨by rw [← hg 4 (by omega)]; exact c3.1, aQ_cg hg (by omega) c3.2.1, aD_cg hg (by omega) c3.2.2⟩
    rcases (show q < 10 ∨ (10 ≤ q ∧ q < 38) ∨ (38 ≤ q ∧ q < 42) ∨ 42 ≤ q by omega) with h2 | h2 | h2 | h2
    · exact fT_eq a.1 b.1 q h2
    · exact fC_eq hg (by omega) a.2.1 b.2.1 q (by omega) (by omega)
    · rw [a.2.2.1 q h2.1 h2.2, b.2.2.1 q h2.1 h2.2]
    · exact fD_eq hg (by omega) a.2.2.2 b.2.2.2 q (by omega) (by omega)
  by_cases c4 : ∃ d, d < 8 ∧ gEnd g d
  · obtain ⟨d, hd, c4⟩ := c4
    have a := h.2.2.2.1 d hd c4
    have b := k.2.2.2.1 d hd ⟨by rw [← hg d hd]; exact c4.1, aD_cg hg (by omega) c4.2.1, aQ_cg hg (by omega) c4.2.2⟩
    rcases (show q < 10 ∨ (10 ≤ q ∧ q < 10 + 8 * d) ∨ (10 + 8 * d ≤ q ∧ q < 17 + 7 * d) ∨ 17 + 7 * d ≤ q by omega) with h2 | h2 | h2 | h2
    · exact fT_eq a.1 b.1 q h2
    · exact fD_eq hg (by omega) a.2.1 b.2.1 q (by omega) (by omega)
    · rw [a.2.2.1 q h2.1 h2.2, b.2.2.1 q h2.1 h2.2]
    · exact fC_eq hg (by omega) a.2.2.2 b.2.2.2 q (by omega) (by omega)
  have c4' : ∀ d, d < 8 → ¬ gEnd g d := fun d hd c => c4 ⟨d, hd, c⟩
  by_cases c5 : aQ g 0 8
  · have a := h.2.2.2.2.1 c5
    have b := k.2.2.2.2.1 (aQ_cg hg (by omega) c5)
    rcases Nat.lt_or_ge q 10 with h2 | h2
    · exact fT_eq a.1 b.1 q h2
    · exact fC_eq hg (by omega) a.2 b.2 q (by omega) (by omega)
  · have a := h.2.2.2.2.2 c1 c2 c3 c4' c5
    have b := k.2.2.2.2.2 (fun c => c1 (aD_cg hg' (by omega) c)) (fun c => c2 ⟨by rw [hg 0 (by omega)]; exact c.1, aD_cg hg' (by omega) c.2⟩) (fun c => c3 ⟨by rw [hg 4 (by omega)]; exact c.1, aQ_cg hg' (by omega) c.2.1, aD_cg hg' (by omega) c.2.2⟩) (fun d hd c => c4' d hd ⟨by rw [hg d hd]; exact c.1, aD_cg hg' (by omega) c.2.1, aQ_cg hg' (by omega) c.2.2⟩) (fun c => c5 (aQ_cg hg' (by omega) c))
    rcases Nat.lt_or_ge q 10 with h2 | h2
    · exact fT_eq a.1 b.1 q h2
    · exact fE_eq a.2 b.2 q (by omega) (by omega)
def eT (ty : Int32) : Prop := ∃ d, d < 8 ∧ ty = st_k d
/-! the class's payload: fields put over each other -/
def orb (f : Nat → Bool) : Nat → Bool
  | 0 => false
  | k + 1 => orb f k || f k
theorem orb_none {f : Nat → Bool} : ∀ n, (∀ k, k < n → f k = false) → orb f n = false := by
  intro n
  induction n with
  | zero => exact fun _ => rfl
  | succ n ih => intro h; show (orb f n || f n) = false; rw [ih (fun k hk => h k (by omega)), h n (by omega)]; rfl
theorem orb_one {f : Nat → Bool} {k0 : Nat} : ∀ n, k0 < n → (∀ k, k < n → k ≠ k0 → f k = false) → orb f n = f k0 := by
  intro n
  induction n with
  | zero => intro h; omega
  | succ n ih =>
    intro h h2
    show (orb f n || f n) = f k0
    by_cases e : k0 = n
    · rw [e, orb_none n (fun k hk => h2 k (by omega) (by omega))]; simp
    · rw [ih (by omega) (fun k hk hne => h2 k (by omega) hne), h2 n (by omega) (by omega)]; simp
def bo (sh : Nat) (c : Int32) (x p : Nat) : Bool := if c.toInt < 256 then decide (sh ≤ p) && bt c (p - sh) else if c.toInt = 259 then decide (8 + 7 * x ≤ p) && bt 30 (p - (8 + 7 * x)) else false
theorem bt_hi {c : Int32} (h : 0 ≤ c.toInt ∧ c.toInt < 256) {j : Nat} (hj : 8 ≤ j) : bt c j = false := by
  rcases Nat.lt_or_ge j 32 with h2 | h2
  · obtain ⟨n, hn, rfl⟩ := nI_of (x := c) (by rw [Int32.lt_iff_toInt_lt, zi_0]; omega)
    rw [nI_toInt hn] at h
    show (BitVec.ofNat 32 n).getLsbD j = false
    rw [BitVec.getLsbD_ofNat]
    have e : n.testBit j = false := Nat.testBit_lt_two_pow (Nat.lt_of_lt_of_le (show n < 2 ^ 8 by omega) (Nat.pow_le_pow_right (by decide) hj))
    rw [e]; simp
  · exact bt_big h2
theorem bt_30 : ∀ j, j < 32 → 7 ≤ j → bt 30 j = false := by decide +kernel
theorem bo_d {sh : Nat} {c : Int32} {x p : Nat} (hc : 0 ≤ c.toInt ∧ c.toInt < 256) (h : p < sh ∨ sh + 8 ≤ p) : bo sh c x p = false := by
  unfold bo
  rw [if_pos hc.2]
  rcases h with h | h
  · simp [Nat.not_le.mpr h]
  · rw [bt_hi hc (by omega)]; simp
theorem bo_c {sh : Nat} {c : Int32} {x p : Nat} (hc : 256 ≤ c.toInt) (hx : x < 8) (hp : p < 64) (h : p < 8 + 7 * x ∨ 15 + 7 * x ≤ p) : bo sh c x p = false := by
  unfold bo
  rw [if_neg (by omega)]
  by_cases e : c.toInt = 259
  · rw [if_pos e]
    rcases h with h | h
    · simp [Nat.not_le.mpr h]
    · by_cases e2 : p - (8 + 7 * x) < 32
      · rw [bt_30 _ e2 (by omega)]; simp
      · rw [bt_big (by omega)]; simp
  · rw [if_neg e]
theorem bo_dv {sh : Nat} {c : Int32} {x j : Nat} (hc : c.toInt < 256) : bo sh c x (sh + j) = bt c j := by
  unfold bo
  rw [if_pos hc]; simp
theorem bo_cv {sh : Nat} {c : Int32} {x j : Nat} (hc : c.toInt = 256 ∨ c.toInt = 259) : bo sh c x (8 + 7 * x + j) = (decide (¬ c.toInt = 256) && bt 30 j) := by
  unfold bo
  rw [if_neg (by omega)]
  rcases hc with e | e
  · rw [if_neg (by omega)]; simp [e]
  · rw [if_pos e]; simp [e]
def tyR (g : Nat → Int32) (r : Int32) : Prop := (r.toInt = -1 ∧ aD g 0 8) ∨ (∃ d, d < 8 ∧ gEnd g d ∧ r = st_k d) ∨ (r.toInt = 120 ∧ gSt g) ∨ (r.toInt = 51 ∧ gMid g) ∨ (r.toInt = 30 ∧ aQ g 0 8) ∨ (r.toInt = -2 ∧ ¬ aD g 0 8 ∧ ¬ gSt g ∧ ¬ gMid g ∧ (∀ d, d < 8 → ¬ gEnd g d) ∧ ¬ aQ g 0 8)
theorem no_end {g : Nat → Int32} {d0 : Nat} (h1 : aD g 0 d0) (h2 : 256 ≤ (g d0).toInt) (h3 : ¬ ((g d0).toInt = 258 ∧ aQ g (d0 + 1) 8)) : ∀ d, d < 8 → ¬ gEnd g d := by
  intro d hd c
  rcases Nat.lt_trichotomy d d0 with h | h | h
  · have := h1 d (by omega) h
    have := c.1
    omega
  · subst h
    exact h3 ⟨c.1, c.2.2⟩
  · have := c.2.1 d0 (by omega) h
    omega
/-! one case holds: the relation -/
theorem x_st_end {g : Nat → Int32} {d : Nat} (hd : d < 8) (a : gSt g) (b : gEnd g d) : False := by
  rcases Nat.eq_zero_or_pos d with h | h
  · subst h; have := a.1; have := b.1; omega
  · have := b.2.1 0 (by omega) h; have := a.1; omega
theorem x_mid_end {g : Nat → Int32} {d : Nat} (hd : d < 8) (a : gMid g) (b : gEnd g d) : False := by
  have h0 := a.2.1 0 (by omega) (by omega)
  rcases Nat.eq_zero_or_pos d with h | h
  · subst h; have := b.1; omega
  · have := b.2.1 0 (by omega) h; omega
theorem x_all_end {g : Nat → Int32} {d : Nat} (hd : d < 8) (a : aD g 0 8) (b : gEnd g d) : False := by
  have := a d (by omega) hd; have := b.1; omega
theorem x_qui_end {g : Nat → Int32} {d : Nat} (hd : d < 8) (a : aQ g 0 8) (b : gEnd g d) : False := by
  have := a d (by omega) hd; have := b.1; omega
theorem x_end_end {g : Nat → Int32} {d e : Nat} (hd : d < 8) (he : e < 8) (a : gEnd g d) (b : gEnd g e) : d = e := by
  rcases Nat.lt_trichotomy d e with h | h | h
  · have := b.2.1 d (by omega) h; have := a.1; omega
  · exact h
  · have := a.2.1 e (by omega) h; have := b.1; omega
theorem x_all_st {g : Nat → Int32} (a : aD g 0 8) (b : gSt g) : False := by have := a 0 (by omega) (by omega); have := b.1; omega
theorem x_all_mid {g : Nat → Int32} (a : aD g 0 8) (b : gMid g) : False := by have := a 4 (by omega) (by omega); have := b.1; omega
theorem x_all_qui {g : Nat → Int32} (a : aD g 0 8) (b : aQ g 0 8) : False := by have := a 0 (by omega) (by omega); have := b 0 (by omega) (by omega); omega
theorem x_st_mid {g : Nat → Int32} (a : gSt g) (b : gMid g) : False := by have := b.2.1 0 (by omega) (by omega); have := a.1; omega
theorem x_st_qui {g : Nat → Int32} (a : gSt g) (b : aQ g 0 8) : False := by have := b 0 (by omega) (by omega); have := a.1; omega
theorem x_mid_qui {g : Nat → Int32} (a : gMid g) (b : aQ g 0 8) : False := by have := b 4 (by omega) (by omega); have := a.1; omega
theorem blkR_all {g : Nat → Int32} {B : Nat → Bool} (c : aD g 0 8) (h : B 0 = false ∧ B 1 = true ∧ fD g B 2 0 8) : blkR g B :=
  ⟨fun _ => h, fun k => (x_all_st c k).elim, fun k => (x_all_mid c k).elim, fun d hd k => (x_all_end hd c k).elim, fun k => (x_all_qui c k).elim, fun k => absurd c k⟩
theorem blkR_st {g : Nat → Int32} {B : Nat → Bool} (c : gSt g) (h : fT B 120 ∧ fD g B 2 1 8) : blkR g B :=
  ⟨fun k => (x_all_st k c).elim, fun _ => h, fun k => (x_st_mid c k).elim, fun d hd k => (x_st_end hd c k).elim, fun k => (x_st_qui c k).elim, fun _ k => absurd c k⟩
theorem blkR_mid {g : Nat → Int32} {B : Nat → Bool} (c : gMid g) (h : fT B 51 ∧ fC g B 0 4 ∧ fZ B 38 42 ∧ fD g B 2 5 8) : blkR g B :=
  ⟨fun k => (x_all_mid k c).elim, fun k => (x_st_mid k c).elim, fun _ => h, fun d hd k => (x_mid_end hd c k).elim, fun k => (x_mid_qui c k).elim, fun _ _ k => absurd c k⟩
theorem blkR_end {g : Nat → Int32} {B : Nat → Bool} {d : Nat} (hd : d < 8) (c : gEnd g d) (h : fT B (st_k d) ∧ fD g B 10 0 d ∧ fZ B (10 + 8 * d) (17 + 7 * d) ∧ fC g B (d + 1) 8) : blkR g B :=
  ⟨fun k => (x_all_end hd k c).elim, fun k => (x_st_end hd k c).elim, fun k => (x_mid_end hd k c).elim, fun e he k => by rw [← x_end_end hd he c k]; exact h, fun k => (x_qui_end hd k c).elim, fun _ _ _ k => absurd c (k d hd)⟩
theorem blkR_qui {g : Nat → Int32} {B : Nat → Bool} (c : aQ g 0 8) (h : fT B 30 ∧ fC g B 0 8) : blkR g B :=
  ⟨fun k => (x_all_qui k c).elim, fun k => (x_st_qui k c).elim, fun k => (x_mid_qui k c).elim, fun d hd k => (x_qui_end hd c k).elim, fun _ => h, fun _ _ _ _ k => absurd c k⟩
theorem blkR_err {g : Nat → Int32} {B : Nat → Bool} (c1 : ¬ aD g 0 8) (c2 : ¬ gSt g) (c3 : ¬ gMid g) (c4 : ∀ d, d < 8 → ¬ gEnd g d) (c5 : ¬ aQ g 0 8) (h : fT B 30 ∧ fE B) : blkR g B :=
  ⟨fun k => absurd k c1, fun k => absurd k c2, fun k => absurd k c3, fun d hd k => absurd k (c4 d hd), fun k => absurd k c5, fun _ _ _ _ _ => h⟩
theorem bl_30 : ∀ j, j < 64 → bl 30 j = bt 30 j := by decide +kernel
theorem bl_cn {c : Int32} (h : 0 ≤ c.toInt) {j : Nat} (hj : j < 64) : bl c.toInt64 j = bt c j := by
  rw [bl_i2l _ hj]
  by_cases h2 : j < 32
  · rw [if_pos h2]
  · rw [if_neg h2, bt_big (Nat.not_lt.mp h2)]
    obtain ⟨n, hn, rfl⟩ := nI_of (x := c) (by rw [Int32.lt_iff_toInt_lt, zi_0]; omega)
    show (BitVec.ofNat 32 n).getLsbD 31 = false
    rw [BitVec.getLsbD_ofNat, Nat.testBit_lt_two_pow hn]; simp
def tb (ty : Int32) (q : Nat) : Bool := if ty.toInt = -1 then false else bt ty q
