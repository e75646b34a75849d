/-! a group sent: what comes onto the line -/
def txB (σ B : Nat → Bool) (q : Nat) : Bool := if q < 2 then B q else scB σ (fun k => B (k + 2)) (q - 2)
def sndR (B : Nat → Bool) (cn cn2 : Int) (σ σ2 : Nat → Bool) (X X2 : Int → Bool) : Prop :=
  cn2 = cn + 66 ∧ (∀ q : Nat, q < 66 → X2 (cn + q) = txB σ B q) ∧ (∀ j : Int, 0 ≤ j → j < cn → X2 j = X j) ∧ ∀ j, j < 58 → σ2 j = scS σ (fun k => B (k + 2)) 64 j
def sameX (cn : Int) (X Y : Int → Bool) : Prop := ∀ j : Int, 0 ≤ j → j < cn → X j = Y j
def sameS (σ τ : Nat → Bool) : Prop := ∀ j, j < 58 → σ j = τ j
theorem sndR_cg {B C σ σ2 τ τ2 : Nat → Bool} {X X2 Y Y2 : Int → Bool} {cn cn2 dn dn2 : Int} (hc : cn = dn) (h0 : 0 ≤ cn) (hB : ∀ q, q < 66 → B q = C q) (hσ : sameS σ τ) (hX : sameX cn X Y) (h : sndR B cn cn2 σ σ2 X X2) (k : sndR C dn dn2 τ τ2 Y Y2) : cn2 = dn2 ∧ sameS σ2 τ2 ∧ sameX cn2 X2 Y2 := by
  obtain rfl := hc
  obtain ⟨h1, h2, h3, h4⟩ := h
  obtain ⟨k1, k2, k3, k4⟩ := k
  refine ⟨by omega, fun j hj => ?_, fun j a b => ?_⟩
  · rw [h4 j hj, k4 j hj]
    exact scS_cg hσ 64 (fun i hi => hB _ (by omega)) j hj
  · rcases (show j < cn ∨ cn ≤ j by omega) with c | c
    · rw [h3 j a c, k3 j a c]
      exact hX j a c
    · obtain ⟨q, rfl⟩ : ∃ q : Nat, j = cn + q := ⟨(j - cn).toNat, by omega⟩
      rw [h2 q (by omega), k2 q (by omega)]
      unfold txB
      by_cases e : q < 2
      · rw [if_pos e, if_pos e, hB q (by omega)]
      · rw [if_neg e, if_neg e]
        exact scB_cg hσ _ (fun i hi => hB _ (by omega))
/-- head and payload as 66 bits -/
def hpB (hd : Int32) (pl : Int64) (q : Nat) : Bool := if q = 0 then bt hd 1 else if q = 1 then bt hd 0 else bl pl (q - 2)
theorem hpB_2 (hd : Int32) (pl : Int64) (k : Nat) : hpB hd pl (k + 2) = bl pl k := by
  unfold hpB
  rw [if_neg (by omega), if_neg (by omega)]
  rfl
theorem hpB_2' (hd : Int32) (pl : Int64) (k : Nat) : hpB hd pl (2 + k) = bl pl k := by rw [Nat.add_comm, hpB_2]
theorem hd_1 {hd : Int32} (h : hd.toInt = 1) : bt hd 1 = false ∧ bt hd 0 = true := by
  obtain rfl : hd = 1 := Int32.toInt_inj.mp (h.trans (by decide))
  decide
theorem hd_2 {hd : Int32} (h : hd.toInt = 2) : bt hd 1 = true ∧ bt hd 0 = false := by
  obtain rfl : hd = 2 := Int32.toInt_inj.mp (h.trans (by decide))
  decide
theorem hpB_0 (hd : Int32) (pl : Int64) : hpB hd pl 0 = bt hd 1 := rfl
theorem hpB_1 (hd : Int32) (pl : Int64) : hpB hd pl 1 = bt hd 0 := rfl
def pbits (g : Nat → Int32) (ty : Int32) (pl : Int64) : Prop := (¬ eT ty → ∀ q, q < 64 → bl pl q = (tb ty q || orb (fun j => bo (0 + 8 * j) (g j) j q) 8)) ∧ (eT ty → ∀ q, q < 64 → bl pl q = (tb ty q || orb (fun j => bo (8 + 8 * j) (g j) j q) 8))
theorem st_ne : ∀ d, d < 8 → ¬ (st_k d).toInt = -1 ∧ ¬ (st_k d).toInt = 120 ∧ ¬ (st_k d).toInt = 51 ∧ ¬ (st_k d).toInt = 30 ∧ ¬ (st_k d).toInt = -2 ∧ 0 ≤ (st_k d).toInt ∧ (st_k d).toInt ≤ 255 := by decide +kernel
theorem no_eT {ty : Int32} (h : ty.toInt = -1 ∨ ty.toInt = 120 ∨ ty.toInt = 51 ∨ ty.toInt = 30) : ¬ eT ty := by
  rintro ⟨d, hd, rfl⟩
  have := st_ne d hd
  omega
theorem tb_lo {ty : Int32} (h : 0 ≤ ty.toInt ∧ ty.toInt ≤ 255) {q : Nat} : tb ty q = bt ty q := by
  unfold tb
  rw [if_neg (by omega)]
theorem tb_hi {ty : Int32} (h : ty.toInt = -1 ∨ (0 ≤ ty.toInt ∧ ty.toInt ≤ 255)) {q : Nat} (hq : 8 ≤ q) : tb ty q = false := by
  unfold tb
  by_cases e : ty.toInt = -1
  · rw [if_pos e]
  · rw [if_neg e]
    exact bt_hi (by omega) hq
theorem bo_n {sh : Nat} {c : Int32} {x p : Nat} (h : 256 ≤ c.toInt) (h2 : ¬ c.toInt = 259) : bo sh c x p = false := by
  unfold bo
  rw [if_neg (by omega), if_neg h2]
/-- fields of a payload whose bytes stand at 8 j + o -/
theorem pf_d {g : Nat → Int32} {ty : Int32} {o : Nat} (ho : o ≤ 8) (hg : ∀ j, j < 8 → 0 ≤ (g j).toInt ∧ (g j).toInt ≤ 259) (hty : ty.toInt = -1 ∨ (0 ≤ ty.toInt ∧ ty.toInt ≤ 255)) {k j : Nat} (hk : k < 8) (hj : j < 8) (h8 : 8 ≤ o + 8 * k + j ∨ ty.toInt = -1) (hd : (g k).toInt < 256) (hx : ∀ i, i < 8 → i ≠ k → (g i).toInt = 259 → o + 8 * k + j < 8 + 7 * i ∨ 15 + 7 * i ≤ o + 8 * k + j) (hp : o + 8 * k + j < 64) : (tb ty (o + 8 * k + j) || orb (fun i => bo (o + 8 * i) (g i) i (o + 8 * k + j)) 8) = bt (g k) j := by
  have ht : tb ty (o + 8 * k + j) = false := by
    rcases h8 with h | h
    · exact tb_hi hty h
    · unfold tb; rw [if_pos h]
  rw [ht, orb_one (k0 := k) 8 hk (fun i hi hne => ?_)]
  · show (false || bo (o + 8 * k) (g k) k (o + 8 * k + j)) = _
    rw [bo_dv hd]; simp
  · show bo (o + 8 * i) (g i) i (o + 8 * k + j) = false
    by_cases c : (g i).toInt < 256
    · exact bo_d ⟨(hg i hi).1, c⟩ (by omega)
    · by_cases c2 : (g i).toInt = 259
      · exact bo_c (by omega) hi hp (hx i hi hne c2)
      · exact bo_n (by omega) c2
theorem pf_c {g : Nat → Int32} {ty : Int32} {o : Nat} (hg : ∀ j, j < 8 → 0 ≤ (g j).toInt ∧ (g j).toInt ≤ 259) (hty : 0 ≤ ty.toInt ∧ ty.toInt ≤ 255) {k j : Nat} (hk : k < 8) (hj : j < 7) (hc : (g k).toInt = 256 ∨ (g k).toInt = 259) (hx : ∀ i, i < 8 → (g i).toInt < 256 → 8 + 7 * k + j < o + 8 * i ∨ o + 8 * i + 8 ≤ 8 + 7 * k + j) : (tb ty (8 + 7 * k + j) || orb (fun i => bo (o + 8 * i) (g i) i (8 + 7 * k + j)) 8) = (decide (¬ (g k).toInt = 256) && bt 30 j) := by
  rw [tb_hi (Or.inr hty) (by omega), orb_one (k0 := k) 8 hk (fun i hi hne => ?_)]
  · show (false || bo (o + 8 * k) (g k) k (8 + 7 * k + j)) = _
    rw [bo_cv hc]; simp
  · show bo (o + 8 * i) (g i) i (8 + 7 * k + j) = false
    by_cases c : (g i).toInt < 256
    · exact bo_d ⟨(hg i hi).1, c⟩ (hx i hi c)
    · exact bo_c (by omega) hi (by omega) (by omega)
theorem pf_z {g : Nat → Int32} {ty : Int32} {o q : Nat} (hg : ∀ j, j < 8 → 0 ≤ (g j).toInt ∧ (g j).toInt ≤ 259) (hty : 0 ≤ ty.toInt ∧ ty.toInt ≤ 255) (hq : 8 ≤ q ∧ q < 64) (hx : ∀ i, i < 8 → ((g i).toInt < 256 → q < o + 8 * i ∨ o + 8 * i + 8 ≤ q) ∧ ((g i).toInt = 259 → q < 8 + 7 * i ∨ 15 + 7 * i ≤ q)) : (tb ty q || orb (fun i => bo (o + 8 * i) (g i) i q) 8) = false := by
  rw [tb_hi (Or.inr hty) hq.1, orb_none 8 (fun i hi => ?_)]
  · rfl
  · show bo (o + 8 * i) (g i) i q = false
    by_cases c : (g i).toInt < 256
    · exact bo_d ⟨(hg i hi).1, c⟩ ((hx i hi).1 c)
    · by_cases c2 : (g i).toInt = 259
      · exact bo_c (by omega) hi hq.2 ((hx i hi).2 c2)
      · exact bo_n (by omega) c2
theorem pf_t {g : Nat → Int32} {ty : Int32} {o q : Nat} (hg : ∀ j, j < 8 → 0 ≤ (g j).toInt ∧ (g j).toInt ≤ 259) (hty : 0 ≤ ty.toInt ∧ ty.toInt ≤ 255) (hq : q < 8) (hx : ∀ i, i < 8 → (g i).toInt < 256 → 8 ≤ o + 8 * i) : (tb ty q || orb (fun i => bo (o + 8 * i) (g i) i q) 8) = bt ty q := by
  rw [tb_lo hty, orb_none 8 (fun i hi => ?_)]
  · simp
  · show bo (o + 8 * i) (g i) i q = false
    by_cases c : (g i).toInt < 256
    · have := hx i hi c
      exact bo_d ⟨(hg i hi).1, c⟩ (by omega)
    · exact bo_c (by omega) hi (by omega) (by omega)

theorem i_of {x y : Int32} {z : Int} (h : x.toInt = z) (hy : y.toInt = z) : x = y := Int32.toInt_inj.mp (h.trans hy.symm)
/-- what the class sends of a group whose type it has found -/
theorem cls_blk {g : Nat → Int32} {ty hd : Int32} {pl : Int64} (hg : ∀ j, j < 8 → 0 ≤ (g j).toInt ∧ (g j).toInt ≤ 259) (hty : tyR g ty) (hne : ¬ ty.toInt = -2) (h1 : ty.toInt = -1 → hd.toInt = 1) (h2 : ¬ ty.toInt = -1 → hd.toInt = 2) (hp : pbits g ty pl) : blkR g (hpB hd pl) := by
  rcases hty with ⟨e, c⟩ | ⟨d, hd8, c, e⟩ | ⟨e, c⟩ | ⟨e, c⟩ | ⟨e, c⟩ | ⟨e, _⟩
  · have hb := hp.1 (no_eT (by omega))
    have hh := hd_1 (h1 e)
    refine blkR_all c ⟨hh.1, hh.2, fun k a b j hj => ?_⟩
    rw [show 2 + 8 * k + j = 2 + (0 + 8 * k + j) by omega, hpB_2', hb _ (by omega)]
    exact pf_d (by omega) hg (Or.inl e) b hj (Or.inr e) (c k (by omega) b) (fun i hi hn q => by have := c i (by omega) hi; omega) (by omega)
  · have sn := st_ne d hd8
    rw [← e] at sn
    have hb := hp.2 ⟨d, hd8, e⟩
    have hh := hd_2 (h2 (by omega))
    refine blkR_end hd8 c ⟨⟨hh.1, hh.2, fun j hj => ?_⟩, fun k a b j hj => ?_, fun q a b => ?_, fun k a b j hj => ?_⟩
    · rw [hpB_2', hb _ (by omega), pf_t hg (by omega) hj (fun i hi _ => by omega), e]
    · rw [show 10 + 8 * k + j = 2 + (8 + 8 * k + j) by omega, hpB_2', hb _ (by omega)]
      exact pf_d (by omega) hg (Or.inr (by omega)) (by omega) hj (Or.inl (by omega)) (c.2.1 k (by omega) b) (fun i hi hn q => by
        rcases (show i < d ∨ i = d ∨ d < i by omega) with x | x | x
        · have := c.2.1 i (by omega) x; omega
        · subst x; have := c.1; omega
        · omega) (by omega)
    · rw [show q = 2 + (q - 2) by omega, hpB_2', hb _ (by omega)]
      refine pf_z hg (by omega) (by omega) (fun i hi => ⟨fun q9 => ?_, fun q9 => ?_⟩)
      · rcases (show i < d ∨ i = d ∨ d < i by omega) with x | x | x
        · omega
        · subst x; have := c.1; omega
        · have := c.2.2 i (by omega) hi; omega
      · rcases (show i < d ∨ i = d ∨ d < i by omega) with x | x | x
        · have := c.2.1 i (by omega) x; omega
        · subst x; have := c.1; omega
        · omega
    · rw [show 10 + 7 * k + j = 2 + (8 + 7 * k + j) by omega, hpB_2', hb _ (by omega)]
      exact pf_c hg (by omega) b hj (c.2.2 k (by omega) b) (fun i hi q => by
        rcases (show i < d ∨ i = d ∨ d < i by omega) with x | x | x
        · omega
        · subst x; have := c.1; omega
        · have := c.2.2 i (by omega) hi; omega)
  · have hb := hp.1 (no_eT (by omega))
    have hh := hd_2 (h2 (by omega))
    refine blkR_st c ⟨⟨hh.1, hh.2, fun j hj => ?_⟩, fun k a b j hj => ?_⟩
    · rw [hpB_2', hb _ (by omega), pf_t hg (by omega) hj (fun i hi q => by rcases (show i = 0 ∨ 1 ≤ i by omega) with x | x; (· subst x; have := c.1; omega); (· omega)), i_of e (y := 120) (by decide)]
    · rw [show 2 + 8 * k + j = 2 + (0 + 8 * k + j) by omega, hpB_2', hb _ (by omega)]
      exact pf_d (by omega) hg (Or.inr (by omega)) b hj (Or.inl (by omega)) (c.2 k a b) (fun i hi hn q => by rcases (show i = 0 ∨ 1 ≤ i by omega) with x | x; (· subst x; have := c.1; omega); (· have := c.2 i x hi; omega)) (by omega)
  · have hb := hp.1 (no_eT (by omega))
    have hh := hd_2 (h2 (by omega))
    have kd : ∀ i, i < 8 → (i < 4 ∧ ((g i).toInt = 256 ∨ (g i).toInt = 259)) ∨ (i = 4 ∧ (g i).toInt = 257) ∨ (5 ≤ i ∧ (g i).toInt < 256) := fun i hi => by
      rcases (show i < 4 ∨ i = 4 ∨ 5 ≤ i by omega) with x | x | x
      · exact Or.inl ⟨x, c.2.1 i (by omega) x⟩
      · subst x; exact Or.inr (Or.inl ⟨rfl, c.1⟩)
      · exact Or.inr (Or.inr ⟨x, c.2.2 i x hi⟩)
    refine blkR_mid c ⟨⟨hh.1, hh.2, fun j hj => ?_⟩, fun k a b j hj => ?_, fun q a b => ?_, fun k a b j hj => ?_⟩
    · rw [hpB_2', hb _ (by omega), pf_t hg (by omega) hj (fun i hi q => by have := kd i hi; omega), i_of e (y := 51) (by decide)]
    · rw [show 10 + 7 * k + j = 2 + (8 + 7 * k + j) by omega, hpB_2', hb _ (by omega)]
      exact pf_c hg (by omega) (by omega) hj (c.2.1 k (by omega) b) (fun i hi q => by have := kd i hi; omega)
    · rw [show q = 2 + (q - 2) by omega, hpB_2', hb _ (by omega)]
      exact pf_z hg (by omega) (by omega) (fun i hi => ⟨fun q9 => by have := kd i hi; omega, fun q9 => by have := kd i hi; omega⟩)
    · rw [show 2 + 8 * k + j = 2 + (0 + 8 * k + j) by omega, hpB_2', hb _ (by omega)]
      exact pf_d (by omega) hg (Or.inr (by omega)) b hj (Or.inl (by omega)) (c.2.2 k a b) (fun i hi hn q => by have := kd i hi; omega) (by omega)
  · have hb := hp.1 (no_eT (by omega))
    have hh := hd_2 (h2 (by omega))
    refine blkR_qui c ⟨⟨hh.1, hh.2, fun j hj => ?_⟩, fun k a b j hj => ?_⟩
    · rw [hpB_2', hb _ (by omega), pf_t hg (by omega) hj (fun i hi q => by have := c i (by omega) hi; omega), i_of e (y := 30) (by decide)]
    · rw [show 10 + 7 * k + j = 2 + (8 + 7 * k + j) by omega, hpB_2', hb _ (by omega)]
      exact pf_c hg (by omega) b hj (c k a b) (fun i hi q => by have := c i (by omega) hi; omega)
  · exact absurd e hne
/-- .. and of one that has none: all errors -/
theorem cls_err {g g2 : Nat → Int32} {ty tz hd : Int32} {pl : Int64} (hty : tyR g tz) (hz : tz.toInt = -2) (h9 : ∀ j, j < 8 → (g2 j).toInt = 259) (e : ty.toInt = 30) (h2 : hd.toInt = 2) (hp : pbits g2 ty pl) : blkR g (hpB hd pl) := by
  have hg : ∀ j, j < 8 → 0 ≤ (g2 j).toInt ∧ (g2 j).toInt ≤ 259 := fun j hj => by have := h9 j hj; omega
  have hb := hp.1 (no_eT (by omega))
  have hh := hd_2 h2
  have key : fT (hpB hd pl) 30 ∧ fE (hpB hd pl) := by
    refine ⟨⟨hh.1, hh.2, fun j hj => ?_⟩, fun k b j hj => ?_⟩
    · rw [hpB_2', hb _ (by omega), pf_t hg (by omega) hj (fun i hi q => by have := h9 i hi; omega), i_of e (y := 30) (by decide)]
    · rw [show 10 + 7 * k + j = 2 + (8 + 7 * k + j) by omega, hpB_2', hb _ (by omega)]
      rw [pf_c hg (by omega) b hj (Or.inr (h9 k b)) (fun i hi q => by have := h9 i hi; omega)]
      simp [h9 k b]
  rcases hty with ⟨q, _⟩ | ⟨d, hd8, _, q⟩ | ⟨q, _⟩ | ⟨q, _⟩ | ⟨q, _⟩ | ⟨_, c1, c2, c3, c4, c5⟩
  · omega
  · have := st_ne d hd8
    rw [← q] at this
    omega
  · omega
  · omega
  · omega
  · exact blkR_err c1 c2 c3 c4 c5 key

def sndI (hd : Int32) (pl : Int64) (f c : Int) (fw fw3 : Nat → Int64) (la la3 : Int64) (k : Nat) : Prop := (∀ j : Int, 0 ≤ j → j < c → lnB fw3 f j = lnB fw f j) ∧ (lnB fw3 f c = bt hd 1 ∧ lnB fw3 f (c + 1) = bt hd 0) ∧ (∀ q : Nat, q < k → lnB fw3 f (c + 2 + q) = scB (bl la) (bl pl) q) ∧ ∀ j, j < 58 → bl la3 j = scS (bl la) (bl pl) k j
theorem sndI_0 {hd b1 b0 : Int32} {pl : Int64} {f c d : Int} {fw fw1 fw2 : Nat → Int64} {la : Int64} (hc : 0 ≤ c ∧ c + 66 ≤ 9087) (hd' : d = c + 1) (h1 : ∀ j : Int, lnB fw1 f j = if (f + j) % 9088 = (f + c) % 9088 then bt b1 0 else lnB fw f j) (h2 : ∀ j : Int, lnB fw2 f j = if (f + j) % 9088 = (f + d) % 9088 then bt b0 0 else lnB fw1 f j) (e1 : bt b1 0 = bt hd 1) (e0 : bt b0 0 = bt hd 0) : sndI hd pl f c fw fw2 la la 0 := by
  subst hd'
  refine ⟨fun j a b => ?_, ⟨?_, ?_⟩, fun q hq => absurd hq (by omega), fun j _ => rfl⟩
  · rw [h2, if_neg (by omega), h1, if_neg (by omega)]
  · rw [h2, if_neg (by omega), h1, if_pos rfl, e1]
  · rw [h2, if_pos rfl, e0]
theorem sndI_s {hd r b : Int32} {pl : Int64} {f c d : Int} {fw fw3 fw4 : Nat → Int64} {la la3 la4 : Int64} {k : Nat} (hc : 0 ≤ c ∧ c + 66 ≤ 9087) (hk : k < 64) (hd' : d = c + 2 + k) (h : sndI hd pl f c fw fw3 la la3 k) (hb : bt b 0 = bl pl k) (hr : r = bi (scO (bl la3) (bt b 0))) (hl : ∀ j, j < 58 → bl la4 j = scN (bl la3) (scO (bl la3) (bt b 0)) j) (ha : ∀ j : Int, lnB fw4 f j = if (f + j) % 9088 = (f + d) % 9088 then bt r 0 else lnB fw3 f j) : sndI hd pl f c fw fw4 la la4 (k + 1) := by
  subst hd'
  obtain ⟨h1, h2, h3, h4⟩ := h
  have ho : scO (bl la3) (bt b 0) = scB (bl la) (bl pl) k := by
    unfold scB scO
    rw [h4 38 (by omega), h4 57 (by omega), hb]
  refine ⟨fun j a b => ?_, ⟨?_, ?_⟩, fun q hq => ?_, fun j hj => ?_⟩
  · rw [ha, if_neg (by omega), h1 j a b]
  · rw [ha, if_neg (by omega), h2.1]
  · rw [ha, if_neg (by omega), h2.2]
  · by_cases e : q = k
    · subst e
      rw [ha, if_pos rfl, hr, bi_t0, ho]
    · rw [ha, if_neg (by omega), h3 q (by omega)]
  · rw [hl j hj, ho]
    show scN (bl la3) _ j = scN (scS (bl la) (bl pl) k) (scO (scS (bl la) (bl pl) k) (bl pl k)) j
    unfold scN
    by_cases e : j = 0
    · rw [if_pos e, if_pos e]; rfl
    · rw [if_neg e, if_neg e, h4 (j - 1) (by omega)]
theorem sndI_e {hd : Int32} {pl : Int64} {f c d : Int} {fw fw3 : Nat → Int64} {la la3 : Int64} (hd' : d = c + 66) (h : sndI hd pl f c fw fw3 la la3 64) : sndR (hpB hd pl) c d (bl la) (bl la3) (lnB fw f) (lnB fw3 f) := by
  obtain ⟨h1, h2, h3, h4⟩ := h
  have hp : (fun k => hpB hd pl (k + 2)) = bl pl := funext (fun k => hpB_2 hd pl k)
  refine ⟨hd', fun q hq => ?_, h1, fun j hj => ?_⟩
  · unfold txB
    rw [hp]
    rcases (show q = 0 ∨ q = 1 ∨ 2 ≤ q by omega) with rfl | rfl | e
    · rw [if_pos (by omega), hpB_0, ← h2.1]; simp
    · rw [if_pos (by omega), hpB_1, ← h2.2]; simp
    · rw [if_neg (by omega), ← h3 (q - 2) (by omega)]
      congr 1
      omega
  · rw [hp]; exact h4 j hj
theorem iu_1 {hd v w : Int32} (hw : w = 1) (e : v = (hd.toUInt32 >>> (w.toUInt32 &&& Int32.toUInt32 31)).toInt32) (h : hd.toInt = 1 ∨ hd.toInt = 2) : v = bi (bt hd 1) := by
  rcases h with h | h
  · obtain rfl : hd = 1 := Int32.toInt_inj.mp (h.trans (by decide))
    rw [e, hw]; decide
  · obtain rfl : hd = 2 := Int32.toInt_inj.mp (h.trans (by decide))
    rw [e, hw]; decide
theorem ty_7 {g : Nat → Int32} {ty : Int32} (h : tyR g ty) : eT ty → 256 ≤ (g 7).toInt := by
  rintro ⟨d, hd, e⟩
  have sn := st_ne d hd
  rw [← e] at sn
  rcases h with ⟨q, _⟩ | ⟨d2, hd2, c, _⟩ | ⟨q, _⟩ | ⟨q, _⟩ | ⟨q, _⟩ | ⟨q, _⟩
  · omega
  · rcases (show d2 = 7 ∨ d2 < 7 by omega) with x | x
    · subst x; have := c.1; omega
    · have := c.2.2 7 (by omega) (by omega); omega
  · omega
  · omega
  · omega
  · omega
theorem ty_rg {g : Nat → Int32} {ty : Int32} (h : tyR g ty) (hne : ¬ ty.toInt = -2) : ty.toInt = -1 ∨ (0 ≤ ty.toInt ∧ ty.toInt ≤ 255) := by
  rcases h with ⟨q, _⟩ | ⟨d, hd, _, e⟩ | ⟨q, _⟩ | ⟨q, _⟩ | ⟨q, _⟩ | ⟨q, _⟩
  · omega
  · have sn := st_ne d hd
    rw [← e] at sn
    omega
  · omega
  · omega
  · omega
  · omega
