/-! characters taken in, on an abstract state: waiting, bits, group, scrambler, line -/
def accR (c : Int32) (wa wa2 cn cn2 : Int) (g g2 : Nat → Int32) (σ σ2 : Nat → Bool) (X X2 : Int → Bool) : Prop :=
  (wa < 7 → wa2 = wa + 1 ∧ cn2 = cn ∧ (∀ k : Nat, (k : Int) < wa → g2 k = g k) ∧ g2 wa.toNat = c ∧ sameS σ σ2 ∧ sameX cn X X2) ∧
  (wa = 7 → wa2 = 0 ∧ ∃ (G : Nat → Int32) (B : Nat → Bool), (∀ k, k < 7 → G k = g k) ∧ G 7 = c ∧ blkR G B ∧ sndR B cn cn2 σ σ2 X X2)
def cplR (wa cn : Int) (g h : Nat → Int32) (σ τ : Nat → Bool) (X Y : Int → Bool) : Prop := (∀ k : Nat, (k : Int) < wa → g k = h k) ∧ sameS σ τ ∧ sameX cn X Y
theorem accR_cg {c : Int32} {wa wa2 cn cn2 wb wb2 dn dn2 : Int} {g g2 h h2 : Nat → Int32} {σ σ2 τ τ2 : Nat → Bool} {X X2 Y Y2 : Int → Bool} (hw : wa = wb) (hc : cn = dn) (r : (0 ≤ wa ∧ wa < 8) ∧ 0 ≤ cn) (p : cplR wa cn g h σ τ X Y) (a : accR c wa wa2 cn cn2 g g2 σ σ2 X X2) (b : accR c wb wb2 dn dn2 h h2 τ τ2 Y Y2) : wa2 = wb2 ∧ cn2 = dn2 ∧ cplR wa2 cn2 g2 h2 σ2 τ2 X2 Y2 := by
  obtain rfl := hw
  obtain rfl := hc
  rcases (show wa < 7 ∨ wa = 7 by omega) with e | e
  · obtain ⟨a1, a2, a3, a4, a5, a6⟩ := a.1 e
    obtain ⟨b1, b2, b3, b4, b5, b6⟩ := b.1 e
    refine ⟨by omega, by omega, fun k hk => ?_, fun j hj => ?_, fun j x y => ?_⟩
    · rcases (show (k : Int) < wa ∨ k = wa.toNat by omega) with q | q
      · rw [a3 k q, b3 k q, p.1 k q]
      · rw [q, a4, b4]
    · rw [← a5 j hj, ← b5 j hj, p.2.1 j hj]
    · rw [← a6 j x (by omega), ← b6 j x (by omega), p.2.2 j x (by omega)]
  · obtain ⟨a1, G, B, a2, a3, a4, a5⟩ := a.2 e
    obtain ⟨b1, G', B', b2, b3, b4, b5⟩ := b.2 e
    have hG : ∀ k, k < 8 → G k = G' k := fun k hk => by
      rcases (show k < 7 ∨ k = 7 by omega) with q | q
      · rw [a2 k q, b2 k q, p.1 k (by omega)]
      · rw [q, a3, b3]
    obtain ⟨c1, c2, c3⟩ := sndR_cg rfl r.2 (blkR_eq hG a4 b4) p.2.1 p.2.2 a5 b5
    exact ⟨by omega, c1, fun k hk => absurd hk (by omega), c2, c3⟩
abbrev Ab : Type := Int × Int × (Nat → Int32) × (Nat → Bool) × (Int → Bool)
def acc1 (c : Int32) (s t : Ab) : Prop := accR c s.1 t.1 s.2.1 t.2.1 s.2.2.1 t.2.2.1 s.2.2.2.1 t.2.2.2.1 s.2.2.2.2 t.2.2.2.2
def accL : List Int32 → Ab → Ab → Prop
  | [], s, t => s = t
  | c :: cs, s, t => ∃ m, acc1 c s m ∧ accL cs m t
theorem accL_snoc {c : Int32} : ∀ {cs : List Int32} {s m t : Ab}, accL cs s m → acc1 c m t → accL (cs ++ [c]) s t := by
  intro cs
  induction cs with
  | nil => intro s m t h k; cases h; exact ⟨t, k, rfl⟩
  | cons d cs ih => intro s m t h k; obtain ⟨m', h1, h2⟩ := h; exact ⟨m', h1, ih h2 k⟩
theorem accL_app {cs ds : List Int32} : ∀ {s m t : Ab}, accL cs s m → accL ds m t → accL (cs ++ ds) s t := by
  induction cs with
  | nil => intro s m t h k; cases h; exact k
  | cons d cs ih => intro s m t h k; obtain ⟨m', h1, h2⟩ := h; exact ⟨m', h1, ih h2 k⟩
def okA (s : Ab) : Prop := (0 ≤ s.1 ∧ s.1 < 8) ∧ 0 ≤ s.2.1
def cplA (s t : Ab) : Prop := s.1 = t.1 ∧ s.2.1 = t.2.1 ∧ cplR s.1 s.2.1 s.2.2.1 t.2.2.1 s.2.2.2.1 t.2.2.2.1 s.2.2.2.2 t.2.2.2.2
theorem acc1_ok {c : Int32} {s t : Ab} (h : okA s) (k : acc1 c s t) : okA t := by
  obtain ⟨⟨h1, h2⟩, h3⟩ := h
  rcases (show s.1 < 7 ∨ s.1 = 7 by omega) with e | e
  · obtain ⟨a1, a2, -⟩ := k.1 e
    exact ⟨by omega, by omega⟩
  · obtain ⟨a1, G, B, -, -, -, a5⟩ := k.2 e
    have := a5.1
    exact ⟨by omega, by omega⟩
theorem acc1_cg {c : Int32} {s t s2 t2 : Ab} (h : okA s) (p : cplA s t) (a : acc1 c s s2) (b : acc1 c t t2) : cplA s2 t2 := accR_cg p.1 p.2.1 h p.2.2 a b
theorem accL_cg : ∀ {cs : List Int32} {s t s2 t2 : Ab}, okA s → cplA s t → accL cs s s2 → accL cs t t2 → cplA s2 t2 := by
  intro cs
  induction cs with
  | nil => intro s t s2 t2 _ p a b; cases a; cases b; exact p
  | cons c cs ih =>
    intro s t s2 t2 h p a b
    obtain ⟨m, a1, a2⟩ := a
    obtain ⟨n, b1, b2⟩ := b
    exact ih (acc1_ok h a1) (acc1_cg h p a1 b1) a2 b2
theorem accR_v {c : Int32} {wa wa2 cn cn2 : Int} {g g2 : Nat → Int32} {σ σ2 : Nat → Bool} {X X2 : Int → Bool} (h : ∀ k : Nat, (k : Int) < wa → 0 ≤ (g k).toInt ∧ (g k).toInt ≤ 259) (hc : 0 ≤ c.toInt ∧ c.toInt ≤ 259) (hw : 0 ≤ wa ∧ wa < 8) (a : accR c wa wa2 cn cn2 g g2 σ σ2 X X2) : ∀ k : Nat, (k : Int) < wa2 → 0 ≤ (g2 k).toInt ∧ (g2 k).toInt ≤ 259 := by
  intro k hk
  rcases (show wa < 7 ∨ wa = 7 by omega) with e | e
  · obtain ⟨a1, a2, a3, a4, -⟩ := a.1 e
    rcases (show (k : Int) < wa ∨ k = wa.toNat by omega) with q | q
    · rw [a3 k q]; exact h k q
    · rw [q, a4]; exact hc
  · obtain ⟨a1, -⟩ := a.2 e
    omega
/-- the bytes of an int, the highest first -/
def wch (w : Int32) (s : Nat) : Int32 := nI (w.toBitVec.toNat / 2 ^ s % 256)
def wl (w : Int32) : Nat → List Int32
  | 0 => []
  | n + 1 => wl w n ++ [wch w (24 - 8 * n)]
theorem su_k : ∀ k, k < 32 → (((nI k).toUInt32 &&& Int32.toUInt32 31).toBitVec % 32).toNat = k := by decide +kernel
theorem wch_u {w s x y r : Int32} {k : Nat} (hs : s.toInt = k) (hk : k < 32) (hx : x = (w.toUInt32 >>> (s.toUInt32 &&& Int32.toUInt32 31)).toInt32) (hy : y = 255) (hr : r = x &&& y) : r = wch w k := by
  have e : s = nI k := Int32.toInt_inj.mp (hs.trans (nI_toInt (by omega)).symm)
  rw [hr, hy, pk_and x 8 (m := 255) (by decide), hx, e, pk_ushr w (nI k) k (su_k k hk)]
  rfl
/-- idle groups sent -/
def idlR : Nat → Int → Int → (Nat → Bool) → (Nat → Bool) → (Int → Bool) → (Int → Bool) → Prop
  | 0, cn, cn2, σ, σ2, X, X2 => cn2 = cn ∧ sameS σ σ2 ∧ sameX cn X X2
  | n + 1, cn, cn2, σ, σ2, X, X2 => ∃ (d : Int) (τ : Nat → Bool) (Y : Int → Bool) (B : Nat → Bool), idlR n cn d σ τ X Y ∧ (∀ G : Nat → Int32, (∀ k, k < 8 → (G k).toInt = 256) → blkR G B) ∧ sndR B d cn2 τ σ2 Y X2
theorem blk_idle {hd : Int32} {pl : Int64} (h : hd.toInt = 2) (hp : pl = 30) : ∀ G : Nat → Int32, (∀ k, k < 8 → (G k).toInt = 256) → blkR G (hpB hd pl) := by
  intro G hG
  subst hp
  have hh := hd_2 h
  refine blkR_qui (fun k _ hk => Or.inl (hG k hk)) ⟨⟨hh.1, hh.2, fun j hj => ?_⟩, fun k a b j hj => ?_⟩
  · rw [hpB_2', bl_30 j (by omega)]
  · rw [show 10 + 7 * k + j = 2 + (8 + 7 * k + j) by omega, hpB_2', bl_30 _ (by omega)]
    rw [show bt 30 (8 + 7 * k + j) = false from by
      by_cases e2 : 8 + 7 * k + j < 32
      · exact bt_30 _ e2 (by omega)
      · exact bt_big (by omega)]
    simp [hG k b]
theorem idlR_cg : ∀ {n : Nat} {cn cn2 dn dn2 : Int} {σ σ2 τ τ2 : Nat → Bool} {X X2 Y Y2 : Int → Bool}, cn = dn → 0 ≤ cn → sameS σ τ → sameX cn X Y → idlR n cn cn2 σ σ2 X X2 → idlR n dn dn2 τ τ2 Y Y2 → (cn2 = dn2 ∧ 0 ≤ cn2) ∧ sameS σ2 τ2 ∧ sameX cn2 X2 Y2 := by
  intro n
  induction n with
  | zero =>
    intro cn cn2 dn dn2 σ σ2 τ τ2 X X2 Y Y2 hc h0 hs hX a b
    obtain rfl := hc
    obtain ⟨a1, a2, a3⟩ := a
    obtain ⟨b1, b2, b3⟩ := b
    refine ⟨by omega, fun j hj => ?_, fun j x y => ?_⟩
    · rw [← a2 j hj, ← b2 j hj, hs j hj]
    · rw [← a3 j x (by omega), ← b3 j x (by omega), hX j x (by omega)]
  | succ n ih =>
    intro cn cn2 dn dn2 σ σ2 τ τ2 X X2 Y Y2 hc h0 hs hX a b
    obtain ⟨d, t, Z, B, a1, a2, a3⟩ := a
    obtain ⟨d', t', Z', B', b1, b2, b3⟩ := b
    obtain ⟨⟨c1, c2⟩, c3, c4⟩ := ih hc h0 hs hX a1 b1
    have hB := blkR_eq (g := fun _ => nI 256) (g' := fun _ => nI 256) (fun _ _ => rfl) (a2 _ (fun _ _ => by decide)) (b2 _ (fun _ _ => by decide))
    obtain ⟨e1, e2, e3⟩ := sndR_cg c1 c2 hB c3 c4 a3 b3
    have := a3.1
    exact ⟨by omega, e2, e3⟩
/-! the model's reading of a group -/
def stD (al : Int32) (P : Prop) : Prop := (al.toInt = 1 ∧ P) ∨ (al.toInt = 0 ∧ ¬ P)
theorem stF {al v : Int32} {P P' : Prop} (h : stD al P) (h0 : al.toInt = 0) (hv : v.toInt = 0) (himp : P' → P) : stD v P' := by
  refine Or.inr ⟨hv, fun p' => ?_⟩
  rcases h with g | g
  · omega
  · exact g.2 (himp p')
theorem stT {al v : Int32} {P P' : Prop} (h : stD al P) (h0 : ¬ al.toInt = 0) (hv : v.toInt = 1) (himp : P → P') : stD v P' := by
  rcases h with g | g
  · exact Or.inl ⟨hv, himp g.2⟩
  · omega
theorem stX {v : Int32} {P' : Prop} (hv : v.toInt = 0) (himp : ¬ P') : stD v P' := Or.inr ⟨hv, himp⟩
theorem aD_s {g : Nat → Int32} {a k : Nat} (h : (g k).toInt < 256) (q : aD g a k) : aD g a (k + 1) := fun j x y => by
  rcases (show j < k ∨ j = k by omega) with e | e
  · exact q j x e
  · rw [e]; exact h
theorem aQ_s {g : Nat → Int32} {a k : Nat} (h : (g k).toInt = 256 ∨ (g k).toInt = 259) (q : aQ g a k) : aQ g a (k + 1) := fun j x y => by
  rcases (show j < k ∨ j = k by omega) with e | e
  · exact q j x e
  · rw [e]; exact h
theorem ss_k : ∀ n, n < 32 → ((nI n &&& 31).toBitVec.smod 32).toNat = n := by decide +kernel
theorem sb_k {x k : Int32} {n : Nat} (hk : k.toInt = n) (hn : n < 32) : bt (x >>> (k &&& 31)) 0 = bt x n := by
  have e : k = nI n := Int32.toInt_inj.mp (hk.trans (nI_toInt (by omega)).symm)
  rw [e]
  unfold bt
  rw [Int32.toBitVec_shiftRight]
  show (x.toBitVec.sshiftRight ((nI n &&& 31).toBitVec.smod 32).toNat).getLsbD 0 = _
  rw [ss_k n hn, BitVec.getLsbD_sshiftRight]
  simp [hn]
