/-! the model's block: fields written one behind another -/
def uD (g base : Nat → Int32) (o a k : Nat) : Nat → Int32 := fun q => if o + 8 * a ≤ q ∧ q < o + 8 * k then bi (bt (g ((q - o) / 8)) ((q - o) % 8)) else base q
def uC (g base : Nat → Int32) (a k : Nat) : Nat → Int32 := fun q => if 10 + 7 * a ≤ q ∧ q < 10 + 7 * k then bi (decide (¬ (g ((q - 10) / 7)).toInt = 256) && bt 30 ((q - 10) % 7)) else base q
def uT (base : Nat → Int32) (t : Int32) : Nat → Int32 := fun q => if 2 ≤ q ∧ q < 10 then bi (bt t (q - 2)) else base q
def gE : Nat → Int32 := fun _ => 259
theorem uD_0 {g base : Nat → Int32} {o a k : Nat} (h : k = a) (q : Nat) : base q = uD g base o a k q := by
  unfold uD
  rw [if_neg (by omega)]
theorem uC_0 {g base : Nat → Int32} {a k : Nat} (h : k = a) (q : Nat) : base q = uC g base a k q := by
  unfold uC
  rw [if_neg (by omega)]
theorem uD_s {g base F F2 : Nat → Int32} {o a k t n : Nat} {c : Int32} (h : ∀ q, F q = uD g base o a k q) (hs : ∀ q, F2 q = if t ≤ q ∧ q < t + n then bi (bt c (q - t)) else F q) (ht : t = o + 8 * k) (hn : n = 8) (hc : g k = c) (ha : a ≤ k) {k2 : Nat} (hk : k2 = k + 1) : ∀ q, F2 q = uD g base o a k2 q := by
  subst ht; subst hn; subst hk
  intro q
  rw [hs q]
  unfold uD
  by_cases e : o + 8 * k ≤ q ∧ q < o + 8 * k + 8
  · rw [if_pos e, if_pos (by omega), show (q - o) / 8 = k by omega, show (q - o) % 8 = q - (o + 8 * k) by omega, hc]
  · rw [if_neg e, h q]
    unfold uD
    by_cases e2 : o + 8 * a ≤ q ∧ q < o + 8 * k
    · rw [if_pos e2, if_pos (by omega)]
    · rw [if_neg e2, if_neg (by omega)]
theorem uC_s {g base F F2 : Nat → Int32} {a k t : Nat} {c : Int32} (h : ∀ q, F q = uC g base a k q) (hs : ∀ q, F2 q = if t ≤ q ∧ q < t + 7 then bi (decide (¬ c.toInt = 256) && bt 30 (q - t)) else F q) (ht : t = 10 + 7 * k) (hc : g k = c) (ha : a ≤ k) {k2 : Nat} (hk : k2 = k + 1) : ∀ q, F2 q = uC g base a k2 q := by
  subst ht; subst hk
  intro q
  rw [hs q]
  unfold uC
  by_cases e : 10 + 7 * k ≤ q ∧ q < 10 + 7 * k + 7
  · rw [if_pos e, if_pos (by omega), show (q - 10) / 7 = k by omega, show (q - 10) % 7 = q - (10 + 7 * k) by omega, hc]
  · rw [if_neg e, h q]
    unfold uC
    by_cases e2 : 10 + 7 * a ≤ q ∧ q < 10 + 7 * k
    · rw [if_pos e2, if_pos (by omega)]
    · rw [if_neg e2, if_neg (by omega)]
theorem uT_of {base F : Nat → Int32} {t n : Nat} {c d : Int32} (hs : ∀ q, F q = if t ≤ q ∧ q < t + n then bi (bt c (q - t)) else base q) (ht : t = 2) (hn : n = 8) (hc : c = d) : ∀ q, F q = uT base d q := by
  subst ht; subst hn; subst hc
  exact hs
/-- all places hold bits -/
def isB (F : Nat → Int32) : Prop := ∀ q, q < 66 → F q = bi (bt (F q) 0)
theorem bi_idem (b : Bool) : bi b = bi (bt (bi b) 0) := by rw [bi_t0]
theorem uD_B {g base : Nat → Int32} {o a k : Nat} (h : isB base) : isB (uD g base o a k) := by
  intro q hq
  unfold uD
  by_cases e : o + 8 * a ≤ q ∧ q < o + 8 * k
  · rw [if_pos e]; exact bi_idem _
  · rw [if_neg e]; exact h q hq
theorem uC_B {g base : Nat → Int32} {a k : Nat} (h : isB base) : isB (uC g base a k) := by
  intro q hq
  unfold uC
  by_cases e : 10 + 7 * a ≤ q ∧ q < 10 + 7 * k
  · rw [if_pos e]; exact bi_idem _
  · rw [if_neg e]; exact h q hq
theorem uT_B {base : Nat → Int32} {t : Int32} (h : isB base) : isB (uT base t) := by
  intro q hq
  unfold uT
  by_cases e : 2 ≤ q ∧ q < 10
  · rw [if_pos e]; exact bi_idem _
  · rw [if_neg e]; exact h q hq
/-- cleared, and one bit of the head set -/
def hdZ (F : Nat → Int32) (p : Nat) : Prop := ∀ q, q < 66 → F q = if q = p then 1 else 0
theorem hdZ_B {F : Nat → Int32} {p : Nat} (h : hdZ F p) : isB F := by
  intro q hq
  rw [h q hq]
  by_cases e : q = p
  · rw [if_pos e]; rfl
  · rw [if_neg e]; rfl
theorem hdZ_of {Z F : Nat → Int32} {i v : Int32} {p : Nat} (hz : ∀ q, q < 66 → Z q = 0) (e : F = upd Z i.toNatClampNeg v) (hi : i.toInt = p) (hv : v = 1) : hdZ F p := by
  intro q hq
  have x : i.toNatClampNeg = p := by show i.toInt.toNat = p; omega
  rw [e, x]
  by_cases g : q = p
  · rw [if_pos g, g, hv]; exact pk_us
  · rw [if_neg g, pk_un g]; exact hz q hq
def okE (g F : Nat → Int32) : Prop := blkR g (fun q => bt (F q) 0) ∧ isB F
theorem vD {g base : Nat → Int32} {o a b k j : Nat} (h1 : a ≤ k) (h2 : k < b) (hj : j < 8) : bt (uD g base o a b (o + 8 * k + j)) 0 = bt (g k) j := by
  unfold uD
  rw [if_pos (by omega), bi_t0, show (o + 8 * k + j - o) / 8 = k by omega, show (o + 8 * k + j - o) % 8 = j by omega]
theorem vC {g base : Nat → Int32} {a b k j : Nat} (h1 : a ≤ k) (h2 : k < b) (hj : j < 7) : bt (uC g base a b (10 + 7 * k + j)) 0 = (decide (¬ (g k).toInt = 256) && bt 30 j) := by
  unfold uC
  rw [if_pos (by omega), bi_t0, show (10 + 7 * k + j - 10) / 7 = k by omega, show (10 + 7 * k + j - 10) % 7 = j by omega]
theorem vD_o {g base : Nat → Int32} {o a b q : Nat} (h : q < o + 8 * a ∨ o + 8 * b ≤ q) : uD g base o a b q = base q := by
  unfold uD
  rw [if_neg (by omega)]
theorem vC_o {g base : Nat → Int32} {a b q : Nat} (h : q < 10 + 7 * a ∨ 10 + 7 * b ≤ q) : uC g base a b q = base q := by
  unfold uC
  rw [if_neg (by omega)]
theorem vT {base : Nat → Int32} {t : Int32} {j : Nat} (hj : j < 8) : bt (uT base t (2 + j)) 0 = bt t j := by
  unfold uT
  rw [if_pos (by omega), bi_t0, show 2 + j - 2 = j by omega]
theorem vT_o {base : Nat → Int32} {t : Int32} {q : Nat} (h : q < 2 ∨ 10 ≤ q) : uT base t q = base q := by
  unfold uT
  rw [if_neg (by omega)]
theorem hz_1 {F : Nat → Int32} {p : Nat} (h : hdZ F p) {q : Nat} (hq : q < 66) (e : q = p) : bt (F q) 0 = true := by rw [h q hq, if_pos e]; rfl
theorem hz_0 {F : Nat → Int32} {p : Nat} (h : hdZ F p) {q : Nat} (hq : q < 66) (e : ¬ q = p) : bt (F q) 0 = false := by rw [h q hq, if_neg e]; rfl
theorem okE_cg {g F F' : Nat → Int32} (h : ∀ q, F q = F' q) (k : okE g F') : okE g F := by
  rw [show F = F' from funext h]
  exact k
theorem enc_all {g base : Nat → Int32} (c : aD g 0 8) (hb : hdZ base 1) : okE g (uD g base 2 0 8) := by
  refine ⟨blkR_all c ⟨?_, ?_, fun k a b j hj => vD a b hj⟩, uD_B (hdZ_B hb)⟩
  · show bt (uD g base 2 0 8 0) 0 = false
    rw [vD_o (by omega)]; exact hz_0 hb (by omega) (by omega)
  · show bt (uD g base 2 0 8 1) 0 = true
    rw [vD_o (by omega)]; exact hz_1 hb (by omega) rfl
theorem fT_of {F base : Nat → Int32} {t : Int32} (hb : hdZ base 0) (h : ∀ q, q < 10 → F q = uT base t q) : fT (fun q => bt (F q) 0) t := by
  refine ⟨?_, ?_, fun j hj => ?_⟩
  · show bt (F 0) 0 = true
    rw [h 0 (by omega), vT_o (by omega)]; exact hz_1 hb (by omega) rfl
  · show bt (F 1) 0 = false
    rw [h 1 (by omega), vT_o (by omega)]; exact hz_0 hb (by omega) (by omega)
  · show bt (F (2 + j)) 0 = bt t j
    rw [h _ (by omega), vT hj]
theorem enc_st {g base : Nat → Int32} (c : gSt g) (hb : hdZ base 0) : okE g (uD g (uT base 120) 2 1 8) :=
  ⟨blkR_st c ⟨fT_of hb (fun q hq => vD_o (by omega)), fun k a b j hj => vD a b hj⟩, uD_B (uT_B (hdZ_B hb))⟩
theorem enc_mid {g base : Nat → Int32} (c : gMid g) (hb : hdZ base 0) : okE g (uD g (uC g (uT base 51) 0 4) 2 5 8) := by
  refine ⟨blkR_mid c ⟨fT_of hb (fun q hq => by rw [vD_o (by omega), vC_o (by omega)]), fun k a b j hj => ?_, fun q a b => ?_, fun k a b j hj => vD a b hj⟩, uD_B (uC_B (uT_B (hdZ_B hb)))⟩
  · show bt (uD g (uC g (uT base 51) 0 4) 2 5 8 (10 + 7 * k + j)) 0 = _
    rw [vD_o (by omega)]
    exact vC a b hj
  · show bt (uD g (uC g (uT base 51) 0 4) 2 5 8 q) 0 = false
    rw [vD_o (by omega), vC_o (by omega), vT_o (by omega)]
    exact hz_0 hb (by omega) (by omega)
theorem enc_end {g base : Nat → Int32} {d : Nat} (hd : d < 8) (c : gEnd g d) (hb : hdZ base 0) : okE g (uC g (uD g (uT base (st_k d)) 10 0 d) (d + 1) 8) := by
  refine ⟨blkR_end hd c ⟨fT_of hb (fun q hq => by rw [vC_o (by omega), vD_o (by omega)]), fun k a b j hj => ?_, fun q a b => ?_, fun k a b j hj => vC a b hj⟩, uC_B (uD_B (uT_B (hdZ_B hb)))⟩
  · show bt (uC g (uD g (uT base (st_k d)) 10 0 d) (d + 1) 8 (10 + 8 * k + j)) 0 = _
    rw [vC_o (by omega)]
    exact vD a b hj
  · show bt (uC g (uD g (uT base (st_k d)) 10 0 d) (d + 1) 8 q) 0 = false
    rw [vC_o (by omega), vD_o (by omega), vT_o (by omega)]
    exact hz_0 hb (by omega) (by omega)
theorem enc_qui {g base : Nat → Int32} (c : aQ g 0 8) (hb : hdZ base 0) : okE g (uC g (uT base 30) 0 8) :=
  ⟨blkR_qui c ⟨fT_of hb (fun q hq => vC_o (by omega)), fun k a b j hj => vC a b hj⟩, uC_B (uT_B (hdZ_B hb))⟩
theorem enc_err {g base : Nat → Int32} (c1 : ¬ aD g 0 8) (c2 : ¬ gSt g) (c3 : ¬ gMid g) (c4 : ∀ d, d < 8 → ¬ gEnd g d) (c5 : ¬ aQ g 0 8) (hb : hdZ base 0) : okE g (uC gE (uT base 30) 0 8) := by
  refine ⟨blkR_err c1 c2 c3 c4 c5 ⟨fT_of hb (fun q hq => vC_o (by omega)), fun k b j hj => ?_⟩, uC_B (uT_B (hdZ_B hb))⟩
  show bt (uC gE (uT base 30) 0 8 (10 + 7 * k + j)) 0 = _
  rw [vC (by omega) b hj]
  show (decide (¬ (259 : Int32).toInt = 256) && bt 30 j) = bt 30 j
  rw [decide_eq_true (by decide)]; rfl
/-- the first END -/
def fEnd (g : Nat → Int32) (en : Int32) (k : Nat) : Prop := (en.toInt = -1 ∧ ∀ j, j < k → ¬ (g j).toInt = 258) ∨ ((0 ≤ en.toInt ∧ en.toInt < k) ∧ (g en.toInt.toNat).toInt = 258 ∧ ∀ j, j < en.toInt.toNat → ¬ (g j).toInt = 258)
theorem fEnd_u {g : Nat → Int32} {en : Int32} (h : fEnd g en 8) {d : Nat} (hd : d < 8) (c : gEnd g d) : 0 ≤ en.toInt ∧ d = en.toInt.toNat := by
  rcases h with ⟨_, h⟩ | ⟨h1, h2, h3⟩
  · exact absurd c.1 (h d hd)
  · refine ⟨h1.1, ?_⟩
    rcases Nat.lt_trichotomy d en.toInt.toNat with e | e | e
    · exact absurd c.1 (h3 d e)
    · exact e
    · have := c.2.1 _ (Nat.zero_le _) e; omega
theorem stD_t {r : Int32} {P : Prop} (h : stD r P) (hr : ¬ r.toInt = 0) : P := by
  rcases h with g | g
  · exact g.2
  · exact absurd g.1 hr
theorem stD_f {r : Int32} {P : Prop} (h : stD r P) (hr : r.toInt = 0) : ¬ P := by
  rcases h with g | g
  · have := g.1; omega
  · exact g.2
theorem fEnd_n {g : Nat → Int32} {en : Int32} {k k2 : Nat} (h : fEnd g en k) (hk : k2 = k + 1) (hn : ¬ (g k).toInt = 258) : fEnd g en k2 := by
  subst hk
  rcases h with ⟨a, b⟩ | ⟨a, b, c⟩
  · refine Or.inl ⟨a, fun j hj => ?_⟩
    rcases (show j < k ∨ j = k by omega) with e | e
    · exact b j e
    · rw [e]; exact hn
  · exact Or.inr ⟨by omega, b, c⟩
theorem fEnd_k {g : Nat → Int32} {en : Int32} {k k2 : Nat} (h : fEnd g en k) (hk : k2 = k + 1) (he : 0 ≤ en.toInt) : fEnd g en k2 := by
  subst hk
  rcases h with ⟨a, b⟩ | ⟨a, b, c⟩
  · omega
  · exact Or.inr ⟨by omega, b, c⟩
theorem fEnd_f {g : Nat → Int32} {en kk : Int32} {k k2 : Nat} (h : fEnd g en k) (hk : k2 = k + 1) (he : en.toInt < 0) (e : (g k).toInt = 258) (hkk : kk.toInt = k) : fEnd g kk k2 := by
  subst hk
  rcases h with ⟨a, b⟩ | ⟨a, b, c⟩
  · refine Or.inr ⟨by omega, ?_, fun j hj => b j (by omega)⟩
    rw [show kk.toInt.toNat = k by omega]; exact e
  · omega
