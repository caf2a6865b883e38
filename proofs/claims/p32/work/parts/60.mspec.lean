theorem and255 (x : Int32) : (x &&& 255).toInt = x.toInt % 256 := by
  have h1 : (x &&& 255).toBitVec.toNat = x.toBitVec.toNat % 256 := by
    rw [Int32.toBitVec_and, BitVec.toNat_and, show (255 : Int32).toBitVec.toNat = 2 ^ 8 - 1 by decide, Nat.and_two_pow_sub_one_eq_mod]
  have h2 : (x &&& 255).toInt = (x &&& 255).toBitVec.toInt := rfl
  have h3 : x.toInt = x.toBitVec.toInt := rfl
  rw [h2, h3, BitVec.toInt_eq_toNat_cond, BitVec.toInt_eq_toNat_cond, h1]
  have h4 := x.toBitVec.isLt
  split <;> split <;> omega
def tB (i : Nat) : Nat → Int := fun j => ((sB.getD i []).getD j 0).toInt
def okT (i : Nat) : Bool := !(i == 29) && !(i == 30)
theorem txt_ok {i : Nat} (hi : i < 60) (ho : okT i = true) : sLen i ≤ 8 ∧ ∀ j, j < sLen i → fL (tB i) j = true := by
  have h : ∀ i, i < 60 → okT i = true → sLen i ≤ 8 ∧ ∀ j, j < sLen i → fL (tB i) j = true := by decide +kernel
  exact h i hi ho
theorem txt_31 {i : Nat} (h1 : 31 ≤ i) (h2 : i < 60) : sB.getD i [] = sB.getD (i - 31) [] := by
  have h : ∀ i, i < 60 → 31 ≤ i → sB.getD i [] = sB.getD (i - 31) [] := by decide +kernel
  exact h i h2 h1
theorem okT_31 {i : Nat} (h1 : 31 ≤ i) : okT i = true := by simp [okT]; omega
theorem mul_l {v z w y t : Int64} {x : Int32} (ht : t = 32) (hz : z = t * v) (hw : w = x.toInt64) (hy : y = z + w) (h0 : 0 ≤ v.toInt) (h1 : v.toInt < 2 ^ 50) (h2 : 0 ≤ x.toInt) (h3 : x.toInt < 64) : y.toInt = 32 * v.toInt + x.toInt := by
  subst ht hw
  have e2 : x.toInt64.toInt = x.toInt := Int32.toInt_toInt64 x
  have e3 : (32 : Int64).toInt = 32 := rfl
  have e4 : z.toInt = 32 * v.toInt := by rw [hz, ti64_mul (by rw [e3]; omega) (by rw [e3]; omega), e3]
  rw [hy, ti64_add (by omega) (by omega)]; omega
theorem let_m {B : Nat → Int} {q : Nat} {i : Int} {v z y w t : Int64} {x : Int32} (hv : v.toInt = wv B q (i - q).toNat) (ha : ∀ j : Nat, q ≤ j → (j : Int) < i → fL B j = true) (hq : (q : Int) ≤ i) (h8 : i ≤ q + 7) (ht : t = 32) (hz : z = t * v) (hw : w = x.toInt64) (hy : y = z + w) (hx : x.toInt = B i.toNat - 96) (hl : fL B i.toNat = true) : y.toInt = wv B q (i + 1 - q).toNat := by
  have hb := wv_rng (B := B) (p := q) (i - q).toNat (fun j a b => ha j a (by omega))
  have hp := pow_le (b := 32) (k := (i - q).toNat) (m := 7) (by decide) (by omega)
  have h7 : ((32 : Nat) : Int) ^ 7 = 34359738368 := by decide
  have hl' := fL_t.mp hl
  refine wv_s (i := i) (w := v.toInt) hv hq rfl ?_
  have hpp : ((32 : Nat) : Int) = 32 := rfl
  rw [hpp] at hp h7
  rw [mul_l ht hz hw hy (by omega) (by omega) (by omega) (by omega)]; omega
theorem nv_b {B : Nat → Int} {q : Nat} {i : Int} (ha : ∀ j : Nat, q ≤ j → (j : Int) < i → fD B j = true) (hq : (q : Int) ≤ i) (h8 : i ≤ q + 2) : 0 ≤ nv B q (i - q).toNat ∧ nv B q (i - q).toNat ≤ 99 := by
  have hb := nv_rng (B := B) (p := q) (i - q).toNat (fun j a b => ha j a (by omega))
  have hp := pow_le (b := 10) (k := (i - q).toNat) (m := 2) (by decide) (by omega)
  have h7 : ((10 : Nat) : Int) ^ 2 = 100 := by decide
  have hpp : ((10 : Nat) : Int) = 10 := rfl
  rw [hpp] at hp h7
  omega
def sortM (k : Int) : Int := if k = 0 then 1 else if k = 1 then 2 else if k = 2 then 3 else if k = 3 then 4 else 0
def TkM (B : Nat → Int) (n m p : Nat) (I : Nat → Nat → Int32) (J : Nat → Nat → Int64) : Prop := (I m 9).toInt = sortM (kd B n p) ∧ (I m 10).toInt = pl B n p ∧ (kd B n p ≠ 4 → (I m 8).toInt = nx B n p) ∧ (I m 7).toInt = n ∧ (kd B n p = 1 → (J m 14).toInt = vl B n p) ∧ (kd B n p = 2 → (I m 11).toInt = vl B n p)
theorem sort_1 {k : Int} : sortM k = 1 ↔ k = 0 := by unfold sortM; split <;> (try split) <;> (try split) <;> (try split) <;> omega
theorem sort_2 {k : Int} : sortM k = 2 ↔ k = 1 := by unfold sortM; split <;> (try split) <;> (try split) <;> (try split) <;> omega
theorem sort_3 {k : Int} : sortM k = 3 ↔ k = 2 := by unfold sortM; split <;> (try split) <;> (try split) <;> (try split) <;> omega
theorem sort_4 {k : Int} : sortM k = 4 ↔ k = 3 := by unfold sortM; split <;> (try split) <;> (try split) <;> (try split) <;> omega
theorem sort_5 {k : Int} : sortM k ≠ 5 := by unfold sortM; split <;> (try split) <;> (try split) <;> (try split) <;> omega
section TKM
variable {B : Nat → Int} {n m p : Nat} {K : Nat → Nat} {I I' : Nat → Nat → Int32} {J J' : Nat → Nat → Int64} {l lj : List (Nat × Nat)}
theorem TkM.e1 (h : TkM B n m p I J) : (I m 9).toInt = 1 ↔ kd B n p = 0 := by rw [h.1]; exact sort_1
theorem TkM.e2 (h : TkM B n m p I J) : (I m 9).toInt = 2 ↔ kd B n p = 1 := by rw [h.1]; exact sort_2
theorem TkM.e3 (h : TkM B n m p I J) : (I m 9).toInt = 3 ↔ kd B n p = 2 := by rw [h.1]; exact sort_3
theorem TkM.e4 (h : TkM B n m p I J) : (I m 9).toInt = 4 ↔ kd B n p = 3 := by rw [h.1]; exact sort_4
theorem TkM.e5 (h : TkM B n m p I J) : (I m 9).toInt ≠ 5 := by rw [h.1]; exact sort_5
theorem TkM.mv (h : TkM B n m p I J) (hF : Fr K l I I') (hFJ : Fr K lj J J') (hk : K m = 11) (i7 : inS l 11 7 = false) (i8 : inS l 11 8 = false) (i9 : inS l 11 9 = false) (i10 : inS l 11 10 = false) (i11 : inS l 11 11 = false) (i14 : inS lj 11 14 = false) : TkM B n m p I' J' := by
  obtain ⟨h1, h2, h3, h4, h5, h6⟩ := h
  exact ⟨by rw [hF.get hk i9]; exact h1, by rw [hF.get hk i10]; exact h2, fun z => by rw [hF.get hk i8]; exact h3 z, by rw [hF.get hk i7]; exact h4, fun z => by rw [hFJ.get hk i14]; exact h5 z, fun z => by rw [hF.get hk i11]; exact h6 z⟩
theorem TkM.put (h : TkM B n m p I J) {a k q : Nat} {v : Int32} (e : I' = up2 I a k v) (hq : K a = q) (hk : K m = 11) (hne : q ≠ 11) : TkM B n m p I' J := by
  have hn : ∀ j, I' m j = I m j := fun j => by rw [e, up2_ne _ _ (Or.inl (fun z => hne (by rw [← hq, ← z, hk])))]
  obtain ⟨h1, h2, h3, h4, h5, h6⟩ := h
  exact ⟨by rw [hn]; exact h1, by rw [hn]; exact h2, fun z => by rw [hn]; exact h3 z, by rw [hn]; exact h4, h5, fun z => by rw [hn]; exact h6 z⟩
theorem TkM.putJ (h : TkM B n m p I J) {a k q : Nat} {v : Int64} (e : J' = up2 J a k v) (hq : K a = q) (hk : K m = 11) (hne : q ≠ 11) : TkM B n m p I J' := by
  obtain ⟨h1, h2, h3, h4, h5, h6⟩ := h
  exact ⟨h1, h2, h3, h4, fun z => by rw [e, up2_ne _ _ (Or.inl (fun z => hne (by rw [← hq, ← z, hk])))]; exact h5 z, h6⟩
theorem BT.mv9 {mt : Nat} (h : BT B n mt I) (hF : Fr K l I I') (hk : K mt = 49) (hin : ∀ k, inS l 49 k = false) : BT B n mt I' := fun j hj => by rw [hF.get hk (hin j)]; exact h j hj
theorem TkM_end (h9 : (I m 9).toInt = 1) (h10 : (I m 10).toInt = pl B n p) (h8 : (I m 8).toInt = pl B n p) (h7 : (I m 7).toInt = n) (hn : n ≤ pl B n p) : TkM B n m p I J := by
  have e1 : kd B n p = 0 := by unfold kd; rw [if_pos hn]
  have e2 : nx B n p = pl B n p := by unfold nx; rw [if_pos hn]
  exact ⟨by rw [h9, e1]; rfl, h10, fun _ => by rw [h8, e2], h7, fun z => by omega, fun z => by omega⟩
theorem TkM_let (h9 : (I m 9).toInt = (if rn (fL B) n (pl B n p) ≤ pl B n p + 8 then 2 else 0)) (h10 : (I m 10).toInt = pl B n p) (h8 : (I m 8).toInt = rn (fL B) n (pl B n p)) (h7 : (I m 7).toInt = n) (hn : pl B n p < n) (hl : fL B (pl B n p) = true) (hj : rn (fL B) n (pl B n p) ≤ pl B n p + 8 → (J m 14).toInt = wv B (pl B n p) (rn (fL B) n (pl B n p) - pl B n p)) : TkM B n m p I J := by
  have e1 : kd B n p = (if rn (fL B) n (pl B n p) ≤ pl B n p + 8 then 1 else 4) := by unfold kd; rw [if_neg (by omega), if_pos hl]
  have e2 : nx B n p = rn (fL B) n (pl B n p) := by unfold nx; rw [if_neg (by omega), if_pos hl]
  have e3 : vl B n p = wv B (pl B n p) (nx B n p - pl B n p) := by unfold vl; rw [if_pos hl]
  refine ⟨?_, h10, fun _ => by rw [h8, e2], h7, fun z => ?_, fun z => ?_⟩
  · rw [h9, e1]; split <;> rfl
  · rw [e3, e2]; refine hj ?_
    rw [e1] at z
    by_cases h : rn (fL B) n (pl B n p) ≤ pl B n p + 8
    · exact h
    · rw [if_neg h] at z; omega
  · rw [e1] at z; split at z <;> omega
theorem TkM_dig (h9 : (I m 9).toInt = (if rn (fD B) n (pl B n p) ≤ pl B n p + 3 then 3 else 0)) (h10 : (I m 10).toInt = pl B n p) (h8 : (I m 8).toInt = rn (fD B) n (pl B n p)) (h7 : (I m 7).toInt = n) (hn : pl B n p < n) (hl : fD B (pl B n p) = true) (hj : rn (fD B) n (pl B n p) ≤ pl B n p + 3 → (I m 11).toInt = nv B (pl B n p) (rn (fD B) n (pl B n p) - pl B n p)) : TkM B n m p I J := by
  have h0 : ¬ fL B (pl B n p) = true := by
    have h8 := fD_t.mp hl
    intro h9
    have h9 := fL_t.mp h9
    omega
  have e1 : kd B n p = (if rn (fD B) n (pl B n p) ≤ pl B n p + 3 then 2 else 4) := by unfold kd; rw [if_neg (by omega), if_neg h0, if_pos hl]
  have e2 : nx B n p = rn (fD B) n (pl B n p) := by unfold nx; rw [if_neg (by omega), if_neg h0, if_pos hl]
  have e3 : vl B n p = nv B (pl B n p) (nx B n p - pl B n p) := by unfold vl; rw [if_neg h0]
  refine ⟨?_, h10, fun _ => by rw [h8, e2], h7, fun z => ?_, fun z => ?_⟩
  · rw [h9, e1]; split <;> rfl
  · rw [e1] at z; split at z <;> omega
  · rw [e3, e2]; refine hj ?_
    rw [e1] at z
    by_cases h : rn (fD B) n (pl B n p) ≤ pl B n p + 3
    · exact h
    · rw [if_neg h] at z; omega
theorem TkM_sem (h9 : (I m 9).toInt = 4) (h10 : (I m 10).toInt = pl B n p) (h8 : (I m 8).toInt = pl B n p + 1) (h7 : (I m 7).toInt = n) (hn : pl B n p < n) (hb : B (pl B n p) = 59) : TkM B n m p I J := by
  have h0 : ¬ fL B (pl B n p) = true := fun z => by have := fL_t.mp z; omega
  have h5 : ¬ fD B (pl B n p) = true := fun z => by have := fD_t.mp z; omega
  have e1 : kd B n p = 3 := by unfold kd; rw [if_neg (by omega), if_neg h0, if_neg h5, if_pos hb]
  have e2 : nx B n p = pl B n p + 1 := by unfold nx; rw [if_neg (by omega), if_neg h0, if_neg h5]
  exact ⟨by rw [h9, e1]; rfl, h10, fun _ => by rw [h8, e2]; omega, h7, fun z => by omega, fun z => by omega⟩
theorem TkM_bad (h9 : (I m 9).toInt = 0) (h10 : (I m 10).toInt = pl B n p) (h7 : (I m 7).toInt = n) (hn : pl B n p < n) (hl : ¬ (97 ≤ B (pl B n p) ∧ B (pl B n p) ≤ 122)) (hd : ¬ (48 ≤ B (pl B n p) ∧ B (pl B n p) ≤ 57)) (hb : B (pl B n p) ≠ 59) : TkM B n m p I J := by
  have h0 : ¬ fL B (pl B n p) = true := fun z => hl (fL_t.mp z)
  have h5 : ¬ fD B (pl B n p) = true := fun z => hd (fD_t.mp z)
  have e1 : kd B n p = 4 := by unfold kd; rw [if_neg (by omega), if_neg h0, if_neg h5, if_neg hb]
  exact ⟨by rw [h9, e1]; rfl, h10, fun z => absurd e1 z, h7, fun z => by omega, fun z => by omega⟩
/-- a word is a known one just if it has its number -/
theorem isW_iff {i : Nat} (hp : p ≤ n) (hk : kd B n p = 1) (hi : i < 60) (ho : okT i = true) : isW B n p i ↔ vl B n p = tv i := by
  obtain ⟨t1, t2⟩ := txt_ok hi ho
  have hlt : ¬ n ≤ pl B n p := fun z => by unfold kd at hk; rw [if_pos z] at hk; omega
  have hl : fL B (pl B n p) = true := by
    apply Classical.byContradiction; intro hc
    unfold kd at hk; rw [if_neg hlt, if_neg hc] at hk
    split at hk
    · split at hk <;> omega
    · split at hk <;> omega
  have e2 : nx B n p = rn (fL B) n (pl B n p) := by unfold nx; rw [if_neg hlt, if_pos hl]
  have e3 : vl B n p = wv B (pl B n p) (nx B n p - pl B n p) := by unfold vl; rw [if_pos hl]
  have hp2 := pl_le (B := B) hp
  obtain ⟨g1, g2, g3, -⟩ := rn_spec (f := fL B) hp2.2
  rw [← e2] at g1 g2 g3
  have tvd : tv i = wv (tB i) 0 (sLen i) := rfl
  constructor
  · rintro ⟨-, h1, h2⟩
    rw [e3, tvd, show nx B n p - pl B n p = sLen i by omega]
    exact wv_congr _ (fun j hj => by rw [h2 j hj, Nat.zero_add]; rfl)
  · intro h
    rw [e3, tvd] at h
    obtain ⟨h1, h2⟩ := wv_inj _ _ (fun j a b => g3 j a (by omega)) (fun j a b => t2 j (by omega)) h
    refine ⟨hk, by omega, fun j hj => ?_⟩
    have := h2 j (by omega)
    rw [this, Nat.zero_add]; rfl
theorem isW_31 {i : Nat} (h1 : 31 ≤ i) (h2 : i < 60) : isW B n p i ↔ isW B n p (i - 31) := by unfold isW sLen; rw [txt_31 h1 h2]
end TKM
