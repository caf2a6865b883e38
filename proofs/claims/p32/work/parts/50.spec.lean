def runB (f : Nat → Bool) (n : Nat) : Nat → Nat → Nat
  | 0, p => p
  | k + 1, p => if p < n ∧ f p = true then runB f n k (p + 1) else p
def rn (f : Nat → Bool) (n p : Nat) : Nat := runB f n (n - p) p
theorem runB_spec (f : Nat → Bool) (n : Nat) : ∀ k p, p + k = n → p ≤ runB f n k p ∧ runB f n k p ≤ n ∧ (∀ j, p ≤ j → j < runB f n k p → f j = true) ∧ (runB f n k p < n → f (runB f n k p) = false)
  | 0, p, h => ⟨Nat.le_refl _, by simp only [runB]; omega, fun j h1 h2 => absurd h2 (by simp only [runB]; omega), fun h2 => absurd h2 (by simp only [runB]; omega)⟩
  | k + 1, p, h => by
    by_cases hc : p < n ∧ f p = true
    · obtain ⟨h1, h2, h3, h4⟩ := runB_spec f n k (p + 1) (by omega)
      simp only [runB, if_pos hc]
      refine ⟨by omega, h2, fun j h5 h6 => ?_, h4⟩
      by_cases hj : j = p
      · rw [hj]; exact hc.2
      · exact h3 j (by omega) h6
    · simp only [runB, if_neg hc]
      refine ⟨Nat.le_refl _, by omega, fun j h5 h6 => absurd h6 (by omega), fun h5 => ?_⟩
      cases hf : f p
      · rfl
      · exact absurd ⟨h5, hf⟩ hc
theorem rn_spec {f : Nat → Bool} {n p : Nat} (h : p ≤ n) : p ≤ rn f n p ∧ rn f n p ≤ n ∧ (∀ j, p ≤ j → j < rn f n p → f j = true) ∧ (rn f n p < n → f (rn f n p) = false) := runB_spec f n (n - p) p (by omega)
theorem rn_eq {f : Nat → Bool} {n p q : Nat} (h1 : p ≤ q) (h2 : q ≤ n) (h3 : ∀ j, p ≤ j → j < q → f j = true) (h4 : q < n → f q = false) : rn f n p = q := by
  obtain ⟨g1, g2, g3, g4⟩ := rn_spec (f := f) (show p ≤ n by omega)
  rcases Nat.lt_trichotomy (rn f n p) q with h | h | h
  · have := h3 _ g1 h; have := g4 (by omega); simp_all
  · exact h
  · have := g3 _ h1 h; have := h4 (by omega); simp_all
def fS (B : Nat → Int) (j : Nat) : Bool := decide (B j = 32)
def fL (B : Nat → Int) (j : Nat) : Bool := decide (97 ≤ B j ∧ B j ≤ 122)
def fD (B : Nat → Int) (j : Nat) : Bool := decide (48 ≤ B j ∧ B j ≤ 57)
theorem fS_t {B : Nat → Int} {j : Nat} : fS B j = true ↔ B j = 32 := by simp [fS]
theorem fS_f {B : Nat → Int} {j : Nat} : fS B j = false ↔ B j ≠ 32 := by simp [fS]
theorem fL_t {B : Nat → Int} {j : Nat} : fL B j = true ↔ 97 ≤ B j ∧ B j ≤ 122 := by simp [fL]
theorem fL_f {B : Nat → Int} {j : Nat} : fL B j = false ↔ ¬ (97 ≤ B j ∧ B j ≤ 122) := by simp only [fL, decide_eq_false_iff_not]
theorem fD_t {B : Nat → Int} {j : Nat} : fD B j = true ↔ 48 ≤ B j ∧ B j ≤ 57 := by simp [fD]
theorem fD_f {B : Nat → Int} {j : Nat} : fD B j = false ↔ ¬ (48 ≤ B j ∧ B j ≤ 57) := by simp only [fD, decide_eq_false_iff_not]
def wv (B : Nat → Int) (p : Nat) : Nat → Int
  | 0 => 0
  | k + 1 => 32 * wv B p k + (B (p + k) - 96)
def nv (B : Nat → Int) (p : Nat) : Nat → Int
  | 0 => 0
  | k + 1 => 10 * nv B p k + (B (p + k) - 48)
theorem wv_rng {B : Nat → Int} {p : Nat} : ∀ k, (∀ j, p ≤ j → j < p + k → fL B j = true) → 0 ≤ wv B p k ∧ wv B p k < 32 ^ k
  | 0, _ => ⟨Int.le_refl _, by simp [wv]⟩
  | k + 1, h => by
    obtain ⟨h1, h2⟩ := wv_rng k (fun j a b => h j a (by omega))
    have h3 := fL_t.mp (h (p + k) (by omega) (by omega))
    have e : (32 : Int) ^ (k + 1) = 32 * 32 ^ k := by rw [Int.pow_succ]; omega
    simp only [wv]; rw [e]; omega
theorem nv_rng {B : Nat → Int} {p : Nat} : ∀ k, (∀ j, p ≤ j → j < p + k → fD B j = true) → 0 ≤ nv B p k ∧ nv B p k < 10 ^ k
  | 0, _ => ⟨Int.le_refl _, by simp [nv]⟩
  | k + 1, h => by
    obtain ⟨h1, h2⟩ := nv_rng k (fun j a b => h j a (by omega))
    have h3 := fD_t.mp (h (p + k) (by omega) (by omega))
    have e : (10 : Int) ^ (k + 1) = 10 * 10 ^ k := by rw [Int.pow_succ]; omega
    simp only [nv]; rw [e]; omega
/-- two words of letters with one number are one word -/
theorem wv_inj {B C : Nat → Int} {p q : Nat} : ∀ k m, (∀ j, p ≤ j → j < p + k → fL B j = true) → (∀ j, q ≤ j → j < q + m → fL C j = true) → wv B p k = wv C q m → k = m ∧ ∀ j, j < k → B (p + j) = C (q + j)
  | 0, 0, _, _, _ => ⟨rfl, fun j h => absurd h (by omega)⟩
  | 0, m + 1, _, h2, e => by
    have h3 := fL_t.mp (h2 (q + m) (by omega) (by omega))
    have h4 := wv_rng m (fun j a b => h2 j a (by omega))
    simp only [wv] at e; omega
  | k + 1, 0, h1, _, e => by
    have h3 := fL_t.mp (h1 (p + k) (by omega) (by omega))
    have h4 := wv_rng k (fun j a b => h1 j a (by omega))
    simp only [wv] at e; omega
  | k + 1, m + 1, h1, h2, e => by
    have h3 := fL_t.mp (h1 (p + k) (by omega) (by omega))
    have h4 := fL_t.mp (h2 (q + m) (by omega) (by omega))
    simp only [wv] at e
    obtain ⟨e1, e2⟩ := wv_inj k m (fun j a b => h1 j a (by omega)) (fun j a b => h2 j a (by omega)) (by omega)
    subst e1
    refine ⟨rfl, fun j hj => ?_⟩
    by_cases hjk : j = k
    · subst hjk; omega
    · exact e2 j (by omega)
theorem wv_congr {B C : Nat → Int} {p q : Nat} : ∀ k, (∀ j, j < k → B (p + j) = C (q + j)) → wv B p k = wv C q k
  | 0, _ => rfl
  | k + 1, h => by simp only [wv]; rw [wv_congr k (fun j hj => h j (by omega)), h k (by omega)]
def pl (B : Nat → Int) (n p : Nat) : Nat := rn (fS B) n p
def kd (B : Nat → Int) (n p : Nat) : Int :=
  if n ≤ pl B n p then 0 else if fL B (pl B n p) = true then (if rn (fL B) n (pl B n p) ≤ pl B n p + 8 then 1 else 4) else if fD B (pl B n p) = true then (if rn (fD B) n (pl B n p) ≤ pl B n p + 3 then 2 else 4) else if B (pl B n p) = 59 then 3 else 4
def nx (B : Nat → Int) (n p : Nat) : Nat :=
  if n ≤ pl B n p then pl B n p else if fL B (pl B n p) = true then rn (fL B) n (pl B n p) else if fD B (pl B n p) = true then rn (fD B) n (pl B n p) else pl B n p + 1
def vl (B : Nat → Int) (n p : Nat) : Int := if fL B (pl B n p) = true then wv B (pl B n p) (nx B n p - pl B n p) else nv B (pl B n p) (nx B n p - pl B n p)
def isW (B : Nat → Int) (n p i : Nat) : Prop := kd B n p = 1 ∧ nx B n p = pl B n p + sLen i ∧ ∀ j, j < sLen i → B (pl B n p + j) = ((sB.getD i []).getD j 0).toInt
theorem pl_le {B : Nat → Int} {n p : Nat} (h : p ≤ n) : p ≤ pl B n p ∧ pl B n p ≤ n := ⟨(rn_spec h).1, (rn_spec h).2.1⟩
theorem nx_le {B : Nat → Int} {n p : Nat} (h : p ≤ n) : pl B n p ≤ nx B n p ∧ nx B n p ≤ n := by
  have h1 := pl_le (B := B) h
  unfold nx
  split
  · exact ⟨Nat.le_refl _, h1.2⟩
  · split
    · exact ⟨(rn_spec h1.2).1, (rn_spec h1.2).2.1⟩
    · split
      · exact ⟨(rn_spec h1.2).1, (rn_spec h1.2).2.1⟩
      · omega
/-- the number of a known text -/
def tv (i : Nat) : Int := wv (fun j => ((sB.getD i []).getD j 0).toInt) 0 (sLen i)
def BT (B : Nat → Int) (n bt : Nat) (I : Nat → Nat → Int32) : Prop := ∀ j : Nat, j < n → (I bt j).toInt = B j
def TkC (B : Nat → Int) (n tk p : Nat) (I : Nat → Nat → Int32) (J : Nat → Nat → Int64) : Prop := (I tk 3).toInt = kd B n p ∧ (I tk 4).toInt = pl B n p ∧ (I tk 2).toInt = nx B n p ∧ (I tk 1).toInt = n ∧ (kd B n p = 1 ∨ kd B n p = 2 → (J tk 5).toInt = vl B n p)
section BYTES
variable {B : Nat → Int} {n bt tk p : Nat} {K : Nat → Nat} {I I' : Nat → Nat → Int32} {J J' : Nat → Nat → Int64} {l lj : List (Nat × Nat)}
theorem BT.mv (h : BT B n bt I) (hF : Fr K l I I') (hk : K bt = 40) (hin : ∀ k, inS l 40 k = false) : BT B n bt I' := fun j hj => by rw [hF.get hk (hin j)]; exact h j hj
theorem BT.at (h : BT B n bt I) {x i : Int32} (e : x = I bt i.toNatClampNeg) (h0 : 0 ≤ i.toInt) (h1 : i.toInt < n) : x.toInt = B i.toInt.toNat := by
  have hc := clampI h0
  rw [e, h _ (by omega), show i.toNatClampNeg = i.toInt.toNat by omega]
theorem BT.put (h : BT B n bt I) {a k q : Nat} {v : Int32} (e : I' = up2 I a k v) (hq : K a = q) (hk : K bt = 40) (hne : q ≠ 40) : BT B n bt I' := fun j hj => by
  rw [e, up2_ne _ _ (Or.inl (fun z => hne (by rw [← hq, ← z, hk])))]; exact h j hj
theorem TkC.mv (h : TkC B n tk p I J) (hF : Fr K l I I') (hFJ : Fr K lj J J') (hk : K tk = 8) (i1 : inS l 8 1 = false) (i2 : inS l 8 2 = false) (i3 : inS l 8 3 = false) (i4 : inS l 8 4 = false) (i5 : inS lj 8 5 = false) : TkC B n tk p I' J' := by
  obtain ⟨h1, h2, h3, h4, h5⟩ := h
  exact ⟨by rw [hF.get hk i3]; exact h1, by rw [hF.get hk i4]; exact h2, by rw [hF.get hk i2]; exact h3, by rw [hF.get hk i1]; exact h4, fun z => by rw [hFJ.get hk i5]; exact h5 z⟩
theorem TkC.mvI (h : TkC B n tk p I J) (hF : Fr K l I I') (hk : K tk = 8) (i1 : inS l 8 1 = false) (i2 : inS l 8 2 = false) (i3 : inS l 8 3 = false) (i4 : inS l 8 4 = false) : TkC B n tk p I' J := h.mv hF (Fr.refl (l := [])) hk i1 i2 i3 i4 rfl
theorem TkC.put (h : TkC B n tk p I J) {a k q : Nat} {v : Int32} (e : I' = up2 I a k v) (hq : K a = q) (hk : K tk = 8) (hne : q ≠ 8) : TkC B n tk p I' J := by
  have hn : ∀ j, I' tk j = I tk j := fun j => by rw [e, up2_ne _ _ (Or.inl (fun z => hne (by rw [← hq, ← z, hk])))]
  obtain ⟨h1, h2, h3, h4, h5⟩ := h
  exact ⟨by rw [hn]; exact h1, by rw [hn]; exact h2, by rw [hn]; exact h3, by rw [hn]; exact h4, h5⟩
theorem TkC.putJ (h : TkC B n tk p I J) {a k q : Nat} {v : Int64} (e : J' = up2 J a k v) (hq : K a = q) (hk : K tk = 8) (hne : q ≠ 8) : TkC B n tk p I J' := by
  obtain ⟨h1, h2, h3, h4, h5⟩ := h
  exact ⟨h1, h2, h3, h4, fun z => by rw [e, up2_ne _ _ (Or.inl (fun z => hne (by rw [← hq, ← z, hk])))]; exact h5 z⟩
end BYTES
theorem all_0 {P : Nat → Prop} {q : Nat} {i : Int} (h : i = q) : ∀ j : Nat, q ≤ j → (j : Int) < i → P j := fun j h1 h2 => absurd h2 (by omega)
theorem all_s {P : Nat → Prop} {q : Nat} {i i' : Int} (h : ∀ j : Nat, q ≤ j → (j : Int) < i → P j) (h0 : 0 ≤ i) (e : i' = i + 1) (hP : P i.toNat) : ∀ j : Nat, q ≤ j → (j : Int) < i' → P j := by
  intro j h1 h2
  by_cases hj : (j : Int) < i
  · exact h j h1 hj
  · rw [show j = i.toNat by omega]; exact hP
theorem rn_at {f : Nat → Bool} {n q : Nat} {i : Int} (h1 : (q : Int) ≤ i) (h2 : i ≤ n) (h3 : ∀ j : Nat, q ≤ j → (j : Int) < i → f j = true) (h4 : i < n → f i.toNat = false) : (rn f n q : Int) = i := by
  rw [rn_eq (q := i.toNat) (by omega) (by omega) (fun j a b => h3 j a (by omega)) (fun z => h4 (by omega))]; omega
theorem wv_s {B : Nat → Int} {q : Nat} {i i' w w' : Int} (h : w = wv B q (i - q).toNat) (h0 : (q : Int) ≤ i) (e : i' = i + 1) (hw : w' = 32 * w + (B i.toNat - 96)) : w' = wv B q (i' - q).toNat := by
  rw [show (i' - q).toNat = (i - q).toNat + 1 by omega]; simp only [wv]; rw [← h, hw, show q + (i - q).toNat = i.toNat by omega]
theorem nv_s {B : Nat → Int} {q : Nat} {i i' w w' : Int} (h : w = nv B q (i - q).toNat) (h0 : (q : Int) ≤ i) (e : i' = i + 1) (hw : w' = 10 * w + (B i.toNat - 48)) : w' = nv B q (i' - q).toNat := by
  rw [show (i' - q).toNat = (i - q).toNat + 1 by omega]; simp only [nv]; rw [← h, hw, show q + (i - q).toNat = i.toNat by omega]
/-- a word's number, a letter more -/
theorem nn64 {v : Int64} (h0 : 0 ≤ v.toInt) : v.toInt = v.toBitVec.toNat := by
  have h1 : v.toInt = v.toBitVec.toInt := rfl
  rw [h1] at h0 ⊢
  rw [BitVec.toInt_eq_toNat_cond] at h0 ⊢
  have h2 := v.toBitVec.isLt
  split
  · rfl
  · rename_i h; rw [if_neg h] at h0; omega
theorem to64 {v : Int64} {k : Nat} (h : v.toBitVec.toNat = k) (hk : k < 2 ^ 63) : v.toInt = k := by
  have h1 : v.toInt = v.toBitVec.toInt := rfl
  rw [h1, BitVec.toInt_eq_toNat_cond, h, if_pos (by omega)]
theorem sh_or {v z y : Int64} {x s : Int32} (hs : s = 5) (hz : z = v <<< (s.toInt64 &&& 63)) (hy : y = z ||| x.toInt64) (h0 : 0 ≤ v.toInt) (h1 : v.toInt < 2 ^ 50) (h2 : 0 ≤ x.toInt) (h3 : x.toInt < 32) : y.toInt = 32 * v.toInt + x.toInt := by
  subst hs
  rw [show ((5 : Int32).toInt64 &&& 63) = (5 : Int64) by decide] at hz
  have e1 := nn64 h0
  have e2 : x.toInt64.toInt = x.toInt := Int32.toInt_toInt64 x
  have e3 := nn64 (v := x.toInt64) (by omega)
  have e4 : z.toBitVec.toNat = v.toBitVec.toNat <<< 5 := by
    rw [hz, Int64.toBitVec_shiftLeft, show ((5 : Int64).toBitVec.smod 64) = 5#64 by decide]
    rw [BitVec.shiftLeft_eq', BitVec.toNat_shiftLeft, show (5#64).toNat = 5 by decide, Nat.shiftLeft_eq, Nat.mod_eq_of_lt (by omega)]
  have e5 : y.toBitVec.toNat = v.toBitVec.toNat <<< 5 + x.toInt64.toBitVec.toNat := by
    rw [hy, Int64.toBitVec_or, BitVec.toNat_or, e4, ← Nat.shiftLeft_add_eq_or_of_lt (by omega)]
  rw [Nat.shiftLeft_eq] at e5
  have e6 := to64 e5 (by omega)
  omega
theorem ti64_add {x y : Int64} (h1 : -(2 ^ 63) ≤ x.toInt + y.toInt) (h2 : x.toInt + y.toInt < 2 ^ 63) : (x + y).toInt = x.toInt + y.toInt := by
  rw [Int64.toInt_add, Int.bmod_eq_of_le (by omega) (by omega)]
theorem ti64_mul {x y : Int64} (h1 : -(2 ^ 63) ≤ x.toInt * y.toInt) (h2 : x.toInt * y.toInt < 2 ^ 63) : (x * y).toInt = x.toInt * y.toInt := by
  rw [Int64.toInt_mul, Int.bmod_eq_of_le (by omega) (by omega)]
theorem mul_ad {v z w y t : Int64} {x : Int32} (ht : t = 10) (hz : z = v * t) (hy : y = z + w) (hw : w = x.toInt64) (h0 : 0 ≤ v.toInt) (h1 : v.toInt < 2 ^ 50) (h2 : 0 ≤ x.toInt) (h3 : x.toInt < 32) : y.toInt = 10 * v.toInt + x.toInt := by
  subst ht hw
  have e2 : x.toInt64.toInt = x.toInt := Int32.toInt_toInt64 x
  have e3 : (10 : Int64).toInt = 10 := rfl
  have e4 : z.toInt = v.toInt * 10 := by rw [hz, ti64_mul (by rw [e3]; omega) (by rw [e3]; omega), e3]
  rw [hy, ti64_add (by omega) (by omega)]; omega
theorem pow_le {b k m : Nat} (hb : 0 < b) (h : k ≤ m) : (b : Int) ^ k ≤ (b : Int) ^ m := by
  have h1 := Int.ofNat_le.mpr (Nat.pow_le_pow_right hb h)
  rw [Int.natCast_pow, Int.natCast_pow] at h1
  exact h1
theorem let_s {B : Nat → Int} {q : Nat} {i : Int} {v z y w : Int64} {x s : Int32} (hv : i ≤ q + 8 → v.toInt = wv B q (i - q).toNat) (ha : ∀ j : Nat, q ≤ j → (j : Int) < i → fL B j = true) (hq : (q : Int) ≤ i) (hs : s = 5) (hz : z = v <<< (s.toInt64 &&& 63)) (hw : w = x.toInt64) (hy : y = z ||| w) (hx : x.toInt = B i.toNat - 96) (hl : fL B i.toNat = true) : i + 1 ≤ q + 8 → y.toInt = wv B q (i + 1 - q).toNat := by
  intro h8
  have hv := hv (by omega)
  have hb := wv_rng (B := B) (p := q) (i - q).toNat (fun j a b => ha j a (by omega))
  have hp := pow_le (b := 32) (k := (i - q).toNat) (m := 7) (by decide) (by omega)
  have h7 : ((32 : Nat) : Int) ^ 7 = 34359738368 := by decide
  have hl' := fL_t.mp hl
  subst hw
  refine wv_s (i := i) (w := v.toInt) hv hq rfl ?_
  have hpp : ((32 : Nat) : Int) = 32 := rfl
  rw [hpp] at hp h7
  rw [sh_or hs hz hy (by omega) (by omega) (by omega) (by omega)]; omega
theorem dig_s {B : Nat → Int} {q : Nat} {i : Int} {v z y w t : Int64} {x : Int32} (hv : i ≤ q + 3 → v.toInt = nv B q (i - q).toNat) (ha : ∀ j : Nat, q ≤ j → (j : Int) < i → fD B j = true) (hq : (q : Int) ≤ i) (ht : t = 10) (hz : z = v * t) (hw : w = x.toInt64) (hy : y = z + w) (hx : x.toInt = B i.toNat - 48) (hl : fD B i.toNat = true) : i + 1 ≤ q + 3 → y.toInt = nv B q (i + 1 - q).toNat := by
  intro h8
  have hv := hv (by omega)
  have hb := nv_rng (B := B) (p := q) (i - q).toNat (fun j a b => ha j a (by omega))
  have hp := pow_le (b := 10) (k := (i - q).toNat) (m := 2) (by decide) (by omega)
  have h7 : ((10 : Nat) : Int) ^ 2 = 100 := by decide
  have hl' := fD_t.mp hl
  refine nv_s (i := i) (w := v.toInt) hv hq rfl ?_
  have hpp : ((10 : Nat) : Int) = 10 := rfl
  rw [hpp] at hp h7
  rw [mul_ad ht hz hy hw (by omega) (by omega) (by omega) (by omega)]; omega
section TKC
variable {B : Nat → Int} {n tk p : Nat} {I : Nat → Nat → Int32} {J : Nat → Nat → Int64}
theorem TkC_end (h3 : (I tk 3).toInt = 0) (h4 : (I tk 4).toInt = pl B n p) (h2 : (I tk 2).toInt = pl B n p) (h1 : (I tk 1).toInt = n) (hn : n ≤ pl B n p) : TkC B n tk p I J := by
  have e1 : kd B n p = 0 := by unfold kd; rw [if_pos hn]
  have e2 : nx B n p = pl B n p := by unfold nx; rw [if_pos hn]
  exact ⟨by rw [h3, e1], h4, by rw [h2, e2], h1, fun z => by omega⟩
theorem TkC_let (h3 : (I tk 3).toInt = (if rn (fL B) n (pl B n p) ≤ pl B n p + 8 then 1 else 4)) (h4 : (I tk 4).toInt = pl B n p) (h2 : (I tk 2).toInt = rn (fL B) n (pl B n p)) (h1 : (I tk 1).toInt = n) (hn : pl B n p < n) (hl : fL B (pl B n p) = true) (hj : rn (fL B) n (pl B n p) ≤ pl B n p + 8 → (J tk 5).toInt = wv B (pl B n p) (rn (fL B) n (pl B n p) - pl B n p)) : TkC B n tk p I J := by
  have e1 : kd B n p = (if rn (fL B) n (pl B n p) ≤ pl B n p + 8 then 1 else 4) := by unfold kd; rw [if_neg (by omega), if_pos hl]
  have e2 : nx B n p = rn (fL B) n (pl B n p) := by unfold nx; rw [if_neg (by omega), if_pos hl]
  have e3 : vl B n p = wv B (pl B n p) (nx B n p - pl B n p) := by unfold vl; rw [if_pos hl]
  refine ⟨by rw [h3, e1], h4, by rw [h2, e2], h1, fun z => ?_⟩
  rw [e3, e2]
  refine hj ?_
  rw [e1] at z
  by_cases h : rn (fL B) n (pl B n p) ≤ pl B n p + 8
  · exact h
  · rw [if_neg h] at z; omega
theorem TkC_dig (h3 : (I tk 3).toInt = (if rn (fD B) n (pl B n p) ≤ pl B n p + 3 then 2 else 4)) (h4 : (I tk 4).toInt = pl B n p) (h2 : (I tk 2).toInt = rn (fD B) n (pl B n p)) (h1 : (I tk 1).toInt = n) (hn : pl B n p < n) (hl : fD B (pl B n p) = true) (hj : rn (fD B) n (pl B n p) ≤ pl B n p + 3 → (J tk 5).toInt = nv B (pl B n p) (rn (fD B) n (pl B n p) - pl B n p)) : TkC B n tk p I J := by
  have h0 : ¬ fL B (pl B n p) = true := by
    have h8 := fD_t.mp hl
    intro h9
    have h9 := fL_t.mp h9
    omega
  have e1 : kd B n p = (if rn (fD B) n (pl B n p) ≤ pl B n p + 3 then 2 else 4) := by unfold kd; rw [if_neg (by omega), if_neg h0, if_pos hl]
  have e2 : nx B n p = rn (fD B) n (pl B n p) := by unfold nx; rw [if_neg (by omega), if_neg h0, if_pos hl]
  have e3 : vl B n p = nv B (pl B n p) (nx B n p - pl B n p) := by unfold vl; rw [if_neg h0]
  refine ⟨by rw [h3, e1], h4, by rw [h2, e2], h1, fun z => ?_⟩
  rw [e3, e2]
  refine hj ?_
  rw [e1] at z
  by_cases h : rn (fD B) n (pl B n p) ≤ pl B n p + 3
  · exact h
  · rw [if_neg h] at z; omega
theorem TkC_oth (h3 : (I tk 3).toInt = (if B (pl B n p) = 59 then 3 else 4)) (h4 : (I tk 4).toInt = pl B n p) (h2 : (I tk 2).toInt = pl B n p + 1) (h1 : (I tk 1).toInt = n) (hn : pl B n p < n) (hl : ¬ (97 ≤ B (pl B n p) ∧ B (pl B n p) ≤ 122)) (hd : ¬ (48 ≤ B (pl B n p) ∧ B (pl B n p) ≤ 57)) : TkC B n tk p I J := by
  have h0 : ¬ fL B (pl B n p) = true := fun z => hl (fL_t.mp z)
  have h5 : ¬ fD B (pl B n p) = true := fun z => hd (fD_t.mp z)
  have e1 : kd B n p = (if B (pl B n p) = 59 then 3 else 4) := by unfold kd; rw [if_neg (by omega), if_neg h0, if_neg h5]
  have e2 : nx B n p = pl B n p + 1 := by unfold nx; rw [if_neg (by omega), if_neg h0, if_neg h5]
  refine ⟨by rw [h3, e1], h4, by rw [h2, e2]; omega, h1, fun z => ?_⟩
  rw [e1] at z
  split at z <;> omega
end TKC
