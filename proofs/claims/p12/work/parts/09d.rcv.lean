/-! the receiver's heads and counts -/
def hitR (f lk dn ht sl br wh lk2 dn2 ht2 sl2 br2 wh2 : Int) : Prop :=
  (f = 0 → (lk2 = 0 ∧ dn2 = 1 ∧ ht2 = 0) ∧ sl2 = sl + 1 ∧ br2 = 0 ∧ wh2 = 0) ∧
  (¬ f = 0 → (dn2 = dn ∧ sl2 = sl ∧ br2 = br ∧ wh2 = wh) ∧ (ht = 63 → lk2 = 1 ∧ ht2 = 0) ∧ (¬ ht = 63 → lk2 = lk ∧ ht2 = ht + 1))
def rowR (f lk dn ht sl br wh lk2 dn2 ht2 sl2 br2 wh2 : Int) : Prop :=
  ((f = 0 ∧ wh = 15) → (lk2 = 0 ∧ dn2 = 1 ∧ ht2 = 0) ∧ sl2 = sl + 1 ∧ br2 = 0 ∧ wh2 = 0) ∧
  (¬ (f = 0 ∧ wh = 15) → (lk2 = lk ∧ dn2 = dn ∧ ht2 = ht ∧ sl2 = sl) ∧ (br = 63 → br2 = 0 ∧ wh2 = 0) ∧ (¬ br = 63 → br2 = br + 1 ∧ (f = 0 → wh2 = wh + 1) ∧ (¬ f = 0 → wh2 = wh)))
def fitI (hd : Int) : Int := if hd = 1 ∨ hd = 2 then 1 else 0
theorem fit_1 {hd v : Int} (h : hd = 1 ∨ hd = 2) (e : v = 1) : v = fitI hd := by unfold fitI; rw [if_pos h, e]
theorem fit_0 {hd v : Int} (h : ¬ (hd = 1 ∨ hd = 2)) (e : v = 0) : v = fitI hd := by unfold fitI; rw [if_neg h, e]
def endR (hd lk dn ht sl br wh gc lk2 dn2 ht2 sl2 br2 wh2 gc2 : Int) : Prop :=
  (lk = 0 → gc2 = gc ∧ hitR (fitI hd) lk dn ht sl br wh lk2 dn2 ht2 sl2 br2 wh2) ∧ (¬ lk = 0 → gc2 = gc + 1 ∧ rowR (fitI hd) lk dn ht sl br wh lk2 dn2 ht2 sl2 br2 wh2)
theorem end_hit {f hd lk dn ht sl br wh gc lk2 dn2 ht2 sl2 br2 wh2 gc2 : Int} (hl : lk = 0) (hg : gc2 = gc) (hf : f = fitI hd) (h : hitR f lk dn ht sl br wh lk2 dn2 ht2 sl2 br2 wh2) : endR hd lk dn ht sl br wh gc lk2 dn2 ht2 sl2 br2 wh2 gc2 :=
  ⟨fun _ => ⟨hg, hf ▸ h⟩, fun q => absurd hl q⟩
theorem end_row {f hd lk dn ht sl br wh gc lk2 dn2 ht2 sl2 br2 wh2 gc2 : Int} (hl : ¬ lk = 0) (hg : gc2 = gc + 1) (hf : f = fitI hd) (h : rowR f lk dn ht sl br wh lk2 dn2 ht2 sl2 br2 wh2) : endR hd lk dn ht sl br wh gc lk2 dn2 ht2 sl2 br2 wh2 gc2 :=
  ⟨fun q => absurd q hl, fun _ => ⟨hg, hf ▸ h⟩⟩
def hdK (hv hd : Int) : Prop := (hv = 0 → hd = 0) ∧ (hv = 1 → hd ≤ 1)
def rwK (ml rw : Int) : Prop := ml = 1 → rw ≤ 63
def tkR (b hd hv lk dn ht sl br wh gc hd2 hv2 lk2 dn2 ht2 sl2 br2 wh2 gc2 : Int) : Prop :=
  (dn = 1 → (dn2 = 0 ∧ hd2 = hd ∧ hv2 = hv) ∧ lk2 = lk ∧ ht2 = ht ∧ sl2 = sl ∧ br2 = br ∧ wh2 = wh ∧ gc2 = gc) ∧
  (¬ dn = 1 → hv < 65 → (dn2 = dn ∧ hv2 = hv + 1 ∧ (hv < 2 → hd2 = 2 * hd + b) ∧ (2 ≤ hv → hd2 = hd)) ∧ lk2 = lk ∧ ht2 = ht ∧ sl2 = sl ∧ br2 = br ∧ wh2 = wh ∧ gc2 = gc) ∧
  (¬ dn = 1 → 65 ≤ hv → (hd2 = 0 ∧ hv2 = 0) ∧ endR hd lk dn ht sl br wh gc lk2 dn2 ht2 sl2 br2 wh2 gc2)
theorem tk_drop {b hd hv lk dn ht sl br wh gc dn2 : Int} (h : dn = 1) (h2 : dn2 = 0) : tkR b hd hv lk dn ht sl br wh gc hd hv lk dn2 ht sl br wh gc :=
  ⟨fun _ => ⟨⟨h2, rfl, rfl⟩, rfl, rfl, rfl, rfl, rfl, rfl⟩, fun q => absurd h q, fun q => absurd h q⟩
theorem tk_go {b hd hv lk dn ht sl br wh gc hd2 hv2 : Int} (h : ¬ dn = 1) (h1 : hv < 65) (h2 : hv2 = hv + 1) (h3 : hv < 2 → hd2 = 2 * hd + b) (h4 : 2 ≤ hv → hd2 = hd) : tkR b hd hv lk dn ht sl br wh gc hd2 hv2 lk dn ht sl br wh gc :=
  ⟨fun q => absurd q h, fun _ _ => ⟨⟨rfl, h2, h3, h4⟩, rfl, rfl, rfl, rfl, rfl, rfl⟩, fun _ q => absurd q (by omega)⟩
theorem tk_end {b hd hv lk dn ht sl br wh gc hd2 hv2 lk2 dn2 ht2 sl2 br2 wh2 gc2 : Int} (h : ¬ dn = 1) (h1 : 65 ≤ hv) (h2 : hd2 = 0) (h3 : hv2 = 0) (h4 : endR hd lk dn ht sl br wh gc lk2 dn2 ht2 sl2 br2 wh2 gc2) : tkR b hd hv lk dn ht sl br wh gc hd2 hv2 lk2 dn2 ht2 sl2 br2 wh2 gc2 :=
  ⟨fun q => absurd q h, fun _ q => absurd q (by omega), fun _ _ => ⟨⟨h2, h3⟩, h4⟩⟩
theorem hd_sh {hd s b x y : Int32} (h : 0 ≤ hd.toInt ∧ hd.toInt ≤ 3) (hb : 0 ≤ b.toInt ∧ b.toInt ≤ 1) (hs : s = 1) (hx : x = hd <<< (s &&& 31)) (hy : y = x ||| b) : y.toInt = 2 * hd.toInt + b.toInt := by
  subst hs
  have e1 : hd = 0 ∨ hd = 1 ∨ hd = 2 ∨ hd = 3 := by
    rcases (show hd.toInt = 0 ∨ hd.toInt = 1 ∨ hd.toInt = 2 ∨ hd.toInt = 3 by omega) with k | k | k | k
    · exact Or.inl (Int32.toInt_inj.mp (k.trans (by decide)))
    · exact Or.inr (Or.inl (Int32.toInt_inj.mp (k.trans (by decide))))
    · exact Or.inr (Or.inr (Or.inl (Int32.toInt_inj.mp (k.trans (by decide)))))
    · exact Or.inr (Or.inr (Or.inr (Int32.toInt_inj.mp (k.trans (by decide)))))
  have e2 : b = 0 ∨ b = 1 := by
    rcases (show b.toInt = 0 ∨ b.toInt = 1 by omega) with k | k
    · exact Or.inl (Int32.toInt_inj.mp (k.trans (by decide)))
    · exact Or.inr (Int32.toInt_inj.mp (k.trans (by decide)))
  rw [hy, hx]
  rcases e1 with k | k | k | k <;> rcases e2 with j | j <;> rw [k, j] <;> decide
def tkT (b : Int) (S T : Int × Int × Int × Int × Int × Int × Int × Int × Int) : Prop :=
  tkR b S.1 S.2.1 S.2.2.1 S.2.2.2.1 S.2.2.2.2.1 S.2.2.2.2.2.1 S.2.2.2.2.2.2.1 S.2.2.2.2.2.2.2.1 S.2.2.2.2.2.2.2.2 T.1 T.2.1 T.2.2.1 T.2.2.2.1 T.2.2.2.2.1 T.2.2.2.2.2.1 T.2.2.2.2.2.2.1 T.2.2.2.2.2.2.2.1 T.2.2.2.2.2.2.2.2
def itC (f : Nat → Int) : Nat → (Int × Int × Int × Int × Int × Int × Int × Int × Int) → (Int × Int × Int × Int × Int × Int × Int × Int × Int) → Prop
  | 0, S, T => T = S
  | n + 1, S, T => ∃ M, itC f n S M ∧ tkT (f n) M T
theorem itC_s {f : Nat → Int} {n k2 : Nat} {S M T : Int × Int × Int × Int × Int × Int × Int × Int × Int} {b : Int} (h : itC f n S M) (e : b = f n) (hk : k2 = n + 1) (h2 : tkT b M T) : itC f k2 S T := by
  subst hk
  exact ⟨M, h, e ▸ h2⟩
def cnt (c n : Int) : Nat := (if c < n then c else n).toNat
theorem cnt_e {c n : Int} {k : Nat} (hk : (c < n ∧ (k : Int) = c) ∨ (n ≤ c ∧ (k : Int) = n)) : cnt c n = k := by
  unfold cnt
  rcases hk with h | h
  · rw [if_pos h.1]; omega
  · rw [if_neg (by omega)]; omega
def rcA (c cn : Int) (f : Nat → Int) (S S2 : Int × Int × Int × Int × Int × Int × Int × Int × Int) (r : Int) : Prop :=
  (c < 0 → r = -12) ∧ (0 ≤ c → r = S2.2.2.2.2.2.2.2.2 - S.2.2.2.2.2.2.2.2) ∧ itC f (cnt c cn) S S2
theorem rcA_n {c cn : Int} {f : Nat → Int} {S : Int × Int × Int × Int × Int × Int × Int × Int × Int} {r : Int} (h : c < 0) (h2 : 0 ≤ cn) (hr : r = -12) : rcA c cn f S S r := by
  refine ⟨fun _ => hr, fun q => absurd q (by omega), ?_⟩
  have e : cnt c cn = 0 := by unfold cnt; rw [if_pos (by omega)]; omega
  rw [e]
  rfl
theorem rcA_i {c cn : Int} {f : Nat → Int} {S S2 : Int × Int × Int × Int × Int × Int × Int × Int × Int} {r : Int} {k : Nat} (h : itC f k S S2) (h0 : 0 ≤ c) (hk : (c < cn ∧ (k : Int) = c) ∨ (cn ≤ c ∧ (k : Int) = cn)) (hr : r = S2.2.2.2.2.2.2.2.2 - S.2.2.2.2.2.2.2.2) : rcA c cn f S S2 r :=
  ⟨fun q => absurd q (by omega), fun _ => hr, by rw [cnt_e hk]; exact h⟩
/-! the model's -/
def fitM (c0 c1 : Int) : Int := if c0 = c1 then 0 else 1
theorem fitM_eq {c0 c1 : Int} (h : c0 = c1) : fitM c0 c1 = 0 := by unfold fitM; rw [if_pos h]
theorem fitM_ne {c0 c1 : Int} (h : ¬ c0 = c1) : fitM c0 c1 = 1 := by unfold fitM; rw [if_neg h]
def whR (f ss ml mh mp rw wr tc ss2 ml2 mh2 mp2 rw2 wr2 tc2 : Int) : Prop :=
  (ml = 0 → (tc2 = tc ∧ rw2 = 0 ∧ wr2 = 0) ∧ (f = 0 → ml2 = 0 ∧ mh2 = 0 ∧ ss2 = 1 ∧ mp2 = mp + 1) ∧ (¬ f = 0 → (ss2 = ss ∧ mp2 = mp) ∧ (mh = 63 → ml2 = 1 ∧ mh2 = 0) ∧ (¬ mh = 63 → ml2 = 0 ∧ mh2 = mh + 1))) ∧
  (¬ ml = 0 → tc2 = tc + 1 ∧ ((f = 0 ∧ wr = 15) → ml2 = 0 ∧ mh2 = 0 ∧ wr2 = 0 ∧ ss2 = 1 ∧ mp2 = mp + 1) ∧ (¬ (f = 0 ∧ wr = 15) → (ml2 = ml ∧ mh2 = mh ∧ ss2 = ss ∧ mp2 = mp) ∧ (rw = 63 → rw2 = 0 ∧ wr2 = 0) ∧ (¬ rw = 63 → rw2 = rw + 1 ∧ (f = 0 → wr2 = wr + 1) ∧ (¬ f = 0 → wr2 = wr))))
def mkR (b c0 c1 tk ss ml mh mp rw wr tc c02 c12 tk2 ss2 ml2 mh2 mp2 rw2 wr2 tc2 : Int) : Prop :=
  (ss = 1 → (ss2 = 0 ∧ c02 = c0 ∧ c12 = c1 ∧ tk2 = tk) ∧ ml2 = ml ∧ mh2 = mh ∧ mp2 = mp ∧ rw2 = rw ∧ wr2 = wr ∧ tc2 = tc) ∧
  (¬ ss = 1 → tk < 65 → (ss2 = ss ∧ tk2 = tk + 1 ∧ (tk = 0 → c02 = b) ∧ (tk = 1 → c02 = c0 ∧ c12 = b) ∧ (2 ≤ tk → c02 = c0 ∧ c12 = c1)) ∧ ml2 = ml ∧ mh2 = mh ∧ mp2 = mp ∧ rw2 = rw ∧ wr2 = wr ∧ tc2 = tc) ∧
  (¬ ss = 1 → 65 ≤ tk → tk2 = 0 ∧ whR (fitM c0 c1) ss ml mh mp rw wr tc ss2 ml2 mh2 mp2 rw2 wr2 tc2)
def mkT (b : Int) (S T : Int × Int × Int × Int × Int × Int × Int × Int × Int × Int) : Prop :=
  mkR b S.1 S.2.1 S.2.2.1 S.2.2.2.1 S.2.2.2.2.1 S.2.2.2.2.2.1 S.2.2.2.2.2.2.1 S.2.2.2.2.2.2.2.1 S.2.2.2.2.2.2.2.2.1 S.2.2.2.2.2.2.2.2.2 T.1 T.2.1 T.2.2.1 T.2.2.2.1 T.2.2.2.2.1 T.2.2.2.2.2.1 T.2.2.2.2.2.2.1 T.2.2.2.2.2.2.2.1 T.2.2.2.2.2.2.2.2.1 T.2.2.2.2.2.2.2.2.2
def itM (f : Nat → Int) : Nat → (Int × Int × Int × Int × Int × Int × Int × Int × Int × Int) → (Int × Int × Int × Int × Int × Int × Int × Int × Int × Int) → Prop
  | 0, S, T => T = S
  | n + 1, S, T => ∃ M, itM f n S M ∧ mkT (f n) M T
theorem itM_s {f : Nat → Int} {n k2 : Nat} {S M T : Int × Int × Int × Int × Int × Int × Int × Int × Int × Int} {b : Int} (h : itM f n S M) (e : b = f n) (hk : k2 = n + 1) (h2 : mkT b M T) : itM f k2 S T := by
  subst hk
  exact ⟨M, h, e ▸ h2⟩
theorem mk_drop {b c0 c1 tk ss ml mh mp rw wr tc ss2 : Int} (h : ss = 1) (h2 : ss2 = 0) : mkT b (c0, c1, tk, ss, ml, mh, mp, rw, wr, tc) (c0, c1, tk, ss2, ml, mh, mp, rw, wr, tc) :=
  ⟨fun _ => ⟨⟨h2, rfl, rfl, rfl⟩, rfl, rfl, rfl, rfl, rfl, rfl⟩, fun q => absurd h q, fun q => absurd h q⟩
theorem mk_up {go F : Nat → Int32} {x : Int32} {t : Nat} {tk ss ml mh mp rw wr tc tk2 : Int} (hF : F = upd go t x) (ht : (t : Int) = tk) (h : ¬ ss = 1) (h1 : tk < 65) (h2 : tk2 = tk + 1) : mkT x.toInt ((go 0).toInt, (go 1).toInt, tk, ss, ml, mh, mp, rw, wr, tc) ((F 0).toInt, (F 1).toInt, tk2, ss, ml, mh, mp, rw, wr, tc) := by
  refine ⟨fun q => absurd q h, fun _ _ => ⟨⟨rfl, h2, fun q => ?_, fun q => ?_, fun q => ?_⟩, rfl, rfl, rfl, rfl, rfl, rfl⟩, fun _ q => absurd (show 65 ≤ tk from q) (by omega)⟩
  · have q : tk = 0 := q
    show (F 0).toInt = x.toInt
    rw [hF, show t = 0 by omega, pk_us]
  · have q : tk = 1 := q
    show (F 0).toInt = (go 0).toInt ∧ (F 1).toInt = x.toInt
    rw [hF, show t = 1 by omega, pk_us, pk_un (by omega)]
    exact ⟨rfl, rfl⟩
  · have q : 2 ≤ tk := q
    show (F 0).toInt = (go 0).toInt ∧ (F 1).toInt = (go 1).toInt
    rw [hF, pk_un (by omega), pk_un (by omega)]
    exact ⟨rfl, rfl⟩
theorem mk_end {go F : Nat → Int32} {x : Int32} {t : Nat} {b tk ss ml mh mp rw wr tc c02 c12 tk2 ss2 ml2 mh2 mp2 rw2 wr2 tc2 : Int} (hF : F = upd go t x) (ht : (t : Int) = tk) (h : ¬ ss = 1) (h1 : 65 ≤ tk) (h2 : tk2 = 0) (hw : whR (fitM (F 0).toInt (F 1).toInt) ss ml mh mp rw wr tc ss2 ml2 mh2 mp2 rw2 wr2 tc2) : mkT b ((go 0).toInt, (go 1).toInt, tk, ss, ml, mh, mp, rw, wr, tc) (c02, c12, tk2, ss2, ml2, mh2, mp2, rw2, wr2, tc2) := by
  refine ⟨fun q => absurd q h, fun _ q => absurd (show tk < 65 from q) (by omega), fun _ _ => ⟨h2, ?_⟩⟩
  show whR (fitM (go 0).toInt (go 1).toInt) ss ml mh mp rw wr tc ss2 ml2 mh2 mp2 rw2 wr2 tc2
  rw [hF, pk_un (by omega), pk_un (by omega)] at hw
  exact hw
def rcM (c mz : Int) (f : Nat → Int) (S S2 : Int × Int × Int × Int × Int × Int × Int × Int × Int × Int) (r : Int) : Prop :=
  (c < 0 → r = -12) ∧ (0 ≤ c → r = S2.2.2.2.2.2.2.2.2.2 - S.2.2.2.2.2.2.2.2.2) ∧ itM f (cnt c mz) S S2
theorem rcM_n {c cn : Int} {f : Nat → Int} {S : Int × Int × Int × Int × Int × Int × Int × Int × Int × Int} {r : Int} (h : c < 0) (h2 : 0 ≤ cn) (hr : r = -12) : rcM c cn f S S r := by
  refine ⟨fun _ => hr, fun q => absurd q (by omega), ?_⟩
  have e : cnt c cn = 0 := by unfold cnt; rw [if_pos (by omega)]; omega
  rw [e]
  rfl
theorem rcM_i {c cn : Int} {f : Nat → Int} {S S2 : Int × Int × Int × Int × Int × Int × Int × Int × Int × Int} {r : Int} {k : Nat} (h : itM f k S S2) (h0 : 0 ≤ c) (hk : (c < cn ∧ (k : Int) = c) ∨ (cn ≤ c ∧ (k : Int) = cn)) (hr : r = S2.2.2.2.2.2.2.2.2.2 - S.2.2.2.2.2.2.2.2.2) : rcM c cn f S S2 r :=
  ⟨fun q => absurd q (by omega), fun _ => hr, by rw [cnt_e hk]; exact h⟩
/-! the coupling -/
def cpM (hd hv lk dn ht sl br wh gc c0 c1 tk ss ml mh mp rw wr tc : Int) : Prop :=
  (hv = tk ∧ lk = ml ∧ dn = ss ∧ ht = mh ∧ sl = mp ∧ wh = wr ∧ gc = tc) ∧ (0 ≤ hv ∧ (lk = 0 → br = 0 ∧ wh = 0) ∧ (¬ lk = 0 → br = rw)) ∧ (hv = 0 → hd = 0) ∧ (1 ≤ hv → 0 ≤ c0 ∧ c0 ≤ 1) ∧ (hv = 1 → hd = c0) ∧ (2 ≤ hv → hd = 2 * c0 + c1 ∧ 0 ≤ c1 ∧ c1 ≤ 1)
theorem fit_cp {hd c0 c1 : Int} (h0 : 0 ≤ c0 ∧ c0 ≤ 1) (h1 : 0 ≤ c1 ∧ c1 ≤ 1) (h : hd = 2 * c0 + c1) : fitI hd = fitM c0 c1 := by
  unfold fitI fitM
  rcases (show c0 = c1 ∨ ¬ c0 = c1 by omega) with k | k
  · rw [if_pos k, if_neg (by omega)]
  · rw [if_neg k, if_pos (by omega)]
set_option maxHeartbeats 4000000 in
theorem cpM_s {b hd hv lk dn ht sl br wh gc c0 c1 tk ss ml mh mp rw wr tc hd2 hv2 lk2 dn2 ht2 sl2 br2 wh2 gc2 c02 c12 tk2 ss2 ml2 mh2 mp2 rw2 wr2 tc2 : Int} (hb : 0 ≤ b ∧ b ≤ 1) (h : cpM hd hv lk dn ht sl br wh gc c0 c1 tk ss ml mh mp rw wr tc)
    (a : tkR b hd hv lk dn ht sl br wh gc hd2 hv2 lk2 dn2 ht2 sl2 br2 wh2 gc2) (m : mkR b c0 c1 tk ss ml mh mp rw wr tc c02 c12 tk2 ss2 ml2 mh2 mp2 rw2 wr2 tc2) : cpM hd2 hv2 lk2 dn2 ht2 sl2 br2 wh2 gc2 c02 c12 tk2 ss2 ml2 mh2 mp2 rw2 wr2 tc2 := by
  obtain ⟨⟨rfl, rfl, rfl, rfl, rfl, rfl, rfl⟩, ⟨g1, g2, g3⟩, g4, g5, g6, g7⟩ := h
  by_cases hn : dn = 1
  · obtain ⟨⟨rfl, rfl, rfl⟩, rfl, rfl, rfl, rfl, rfl, rfl⟩ := a.1 hn
    obtain ⟨⟨rfl, rfl, rfl, rfl⟩, rfl, rfl, rfl, rfl, rfl, rfl⟩ := m.1 hn
    exact ⟨⟨rfl, rfl, rfl, rfl, rfl, rfl, rfl⟩, ⟨g1, g2, g3⟩, g4, g5, g6, g7⟩
  · by_cases hv65 : hv < 65
    · obtain ⟨⟨rfl, rfl, a3, a4⟩, rfl, rfl, rfl, rfl, rfl, rfl⟩ := a.2.1 hn hv65
      obtain ⟨⟨rfl, rfl, m3, m4, m5⟩, rfl, rfl, rfl, rfl, rfl, rfl⟩ := m.2.1 hn hv65
      refine ⟨⟨rfl, rfl, rfl, rfl, rfl, rfl, rfl⟩, ⟨by omega, g2, g3⟩, ?_⟩
      clear a m g2 g3
      rcases (show hv = 0 ∨ hv = 1 ∨ 2 ≤ hv by omega) with k | k | k
      · have q1 := a3 (by omega)
        have q2 := m3 k
        have q3 := g4 k
        refine ⟨fun q => by omega, fun q => by omega, fun q => by omega, fun q => by omega⟩
      · have q1 := a3 (by omega)
        have q2 := m4 k
        have q3 := g6 k
        have q4 := g5 (by omega)
        refine ⟨fun q => by omega, fun q => by omega, fun q => by omega, fun q => by omega⟩
      · have q1 := a4 k
        have q2 := m5 k
        have q3 := g7 k
        have q4 := g5 (by omega)
        refine ⟨fun q => by omega, fun q => by omega, fun q => by omega, fun q => by omega⟩
    · obtain ⟨⟨rfl, rfl⟩, aE⟩ := a.2.2 hn (by omega)
      obtain ⟨rfl, mE⟩ := m.2.2 hn (by omega)
      have q3 := g7 (by omega)
      have q4 := g5 (by omega)
      rw [← fit_cp q4 q3.2 q3.1] at mE
      clear a m
      unfold endR hitR rowR at aE
      unfold whR at mE
      generalize fitI hd = f at aE mE
      suffices w : (lk2 = ml2 ∧ dn2 = ss2 ∧ ht2 = mh2 ∧ sl2 = mp2 ∧ wh2 = wr2 ∧ gc2 = tc2) ∧ ((lk2 = 0 → br2 = 0 ∧ wh2 = 0) ∧ (¬ lk2 = 0 → br2 = rw2)) from ⟨⟨rfl, w.1⟩, ⟨by omega, w.2⟩, fun _ => rfl, fun q => absurd q (by omega), fun q => absurd q (by omega), fun q => absurd q (by omega)⟩
      clear g4 g5 g6 g7
      by_cases hl : lk = 0
      · have e1 := aE.1 hl
        have e2 := mE.1 hl
        have e3 := g2 hl
        clear aE mE g2 g3
        by_cases hf : f = 0
        · have r1 := e1.2.1 hf
          have r2 := e2.2.1 hf
          omega
        · have r1 := e1.2.2 hf
          have r2 := e2.2.2 hf
          by_cases hh : ht = 63
          · have s1 := r1.2.1 hh
            have s2 := r2.2.1 hh
            omega
          · have s1 := r1.2.2 hh
            have s2 := r2.2.2 hh
            omega
      · have e1 := aE.2 hl
        have e2 := mE.2 hl
        have e3 := g3 hl
        clear aE mE g2 g3
        by_cases hf : f = 0 ∧ wh = 15
        · have r1 := e1.2.1 hf
          have r2 := e2.2.1 hf
          omega
        · have r1 := e1.2.2 hf
          have r2 := e2.2.2 hf
          by_cases hh : br = 63
          · have s1 := r1.2.1 hh
            have s2 := r2.2.1 (by omega)
            omega
          · have s1 := r1.2.2 hh
            have s2 := r2.2.2 (by omega)
            omega
def cpT (S : Int × Int × Int × Int × Int × Int × Int × Int × Int) (M : Int × Int × Int × Int × Int × Int × Int × Int × Int × Int) : Prop :=
  cpM S.1 S.2.1 S.2.2.1 S.2.2.2.1 S.2.2.2.2.1 S.2.2.2.2.2.1 S.2.2.2.2.2.2.1 S.2.2.2.2.2.2.2.1 S.2.2.2.2.2.2.2.2 M.1 M.2.1 M.2.2.1 M.2.2.2.1 M.2.2.2.2.1 M.2.2.2.2.2.1 M.2.2.2.2.2.2.1 M.2.2.2.2.2.2.2.1 M.2.2.2.2.2.2.2.2.1 M.2.2.2.2.2.2.2.2.2
theorem it_cpl {f g : Nat → Int} {S : Int × Int × Int × Int × Int × Int × Int × Int × Int} {M : Int × Int × Int × Int × Int × Int × Int × Int × Int × Int} (hc : cpT S M) : ∀ (n : Nat) (S2 : Int × Int × Int × Int × Int × Int × Int × Int × Int) (M2 : Int × Int × Int × Int × Int × Int × Int × Int × Int × Int), (∀ k, k < n → g k = f k ∧ 0 ≤ f k ∧ f k ≤ 1) → itC f n S S2 → itM g n M M2 → cpT S2 M2 := by
  intro n
  induction n with
  | zero =>
    intro S2 M2 _ a m
    have a : S2 = S := a
    have m : M2 = M := m
    rw [a, m]
    exact hc
  | succ n ih =>
    intro S2 M2 hk a m
    obtain ⟨S1, a1, a2⟩ := a
    obtain ⟨M1, m1, m2⟩ := m
    have h1 := ih S1 M1 (fun k q => hk k (by omega)) a1 m1
    rw [(hk n (by omega)).1] at m2
    exact cpM_s (hk n (by omega)).2 h1 a2 m2
