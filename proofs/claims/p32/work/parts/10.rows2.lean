section RW2
variable {g : GG} {X : XT} {cc : ByteArray} {own : String} {nL : Nat} {rm : Room} {pc : Nat} {lv : List (Nat × Value)} {st : List Value} {cn sn : Nat} {K len : Nat → Nat} {I : Nat → Nat → Int32} {J : Nat → Nat → Int64} {R : Nat → Nat → Option Nat} {M : MM} {a q n : Nat}
theorem r_ldcw (hC : Cx g X cc own nL rm) {ix : Nat} {n : Int} {v : Int32} (hm : Cond.constant own ix v ∈ tb) (hd : decode cc pc = .ok (.ldc_w ix, 3)) (hn : v.toInt = n) (k : ∀ z : Int32, z = v → z.toInt = n → P g X nL (pc + 3) lv (.int z :: st) cn sn M) : P g X nL pc lv st cn sn M := fun H locs ls hw hS hl => lv_ldcw hC.1 hC.2.1 hC.2.2.2.1 (hC.2.2.2.2.1 _ hm) hd (k _ rfl hn H locs ls hw hS hl)
theorem r_ldcwS (hC : Cx g X cc own nL rm) {ix i : Nat} (hi : i < 60) (h1 : (sT.getD i ("", 0, "")).1 = own) (h2 : (sT.getD i ("", 0, "")).2.1 = ix) (hd : decode cc pc = .ok (.ldc_w ix, 3)) (k : P g X nL (pc + 3) lv (.ref (g.2.2.1 i) :: st) cn sn M) : P g X nL pc lv st cn sn M := by
  intro H locs ls hw hS hl T hT XS
  have h := hC.2.2.2.2.2.2.2.1.1 i hi
  rw [h1, h2] at h
  obtain ⟨t, a1, b1⟩ := k H locs ls hw hS hl T hT XS
  have hW : (xS X).WarmedH (xS X).vm := State.WarmedH.refl _
  exact ⟨t, XS.ldcStringW hC.1 hC.2.2.2.1 (text := (sT.getD i ("", 0, "")).2.2) (a := g.2.2.1 i) h.1 h.2 (g := F0 (xM X) pc ls st) rfl (by rw [hC.2.1]; exact hd) t a1, b1⟩
theorem x_iaload (hC : Cx g X cc own nL rm) {i : Int32} (hK : K a = q) (hn : len a = n) (h0 : q ≠ 0) (hO : kO q = none) (hA : kA q = 1) (hd : decode cc pc = .ok (.iaload, 1)) (h1 : 0 ≤ i.toInt) (h2 : i.toInt < n)
    (k : ∀ z : Int32, z = I a i.toNatClampNeg → P g X nL (pc + 1) lv (.int z :: st) cn sn (K, len, I, J, R)) : P g X nL pc lv (.int i :: .ref a :: st) cn sn (K, len, I, J, R) := r_iaload hC (by rw [hK]; exact h0) (by rw [hK]; exact hO) (by rw [hK]; exact hA) h1 (by rw [hn]; exact h2) hd k
theorem x_baload (hC : Cx g X cc own nL rm) {i : Int32} (hK : K a = q) (hn : len a = n) (h0 : q ≠ 0) (hO : kO q = none) (hA : kA q = 0) (hd : decode cc pc = .ok (.baload, 1)) (h1 : 0 ≤ i.toInt) (h2 : i.toInt < n)
    (k : ∀ z : Int32, z = I a i.toNatClampNeg → P g X nL (pc + 1) lv (.int z :: st) cn sn (K, len, I, J, R)) : P g X nL pc lv (.int i :: .ref a :: st) cn sn (K, len, I, J, R) := r_baload hC (by rw [hK]; exact h0) (by rw [hK]; exact hO) (by rw [hK]; exact hA) h1 (by rw [hn]; exact h2) hd k
theorem x_zaload (hC : Cx g X cc own nL rm) {i : Int32} (hK : K a = q) (hn : len a = n) (h0 : q ≠ 0) (hO : kO q = none) (hA : kA q = 3) (hd : decode cc pc = .ok (.baload, 1)) (h1 : 0 ≤ i.toInt) (h2 : i.toInt < n)
    (k : ∀ z : Int32, z = I a i.toNatClampNeg → P g X nL (pc + 1) lv (.int z :: st) cn sn (K, len, I, J, R)) : P g X nL pc lv (.int i :: .ref a :: st) cn sn (K, len, I, J, R) := r_zaload hC (by rw [hK]; exact h0) (by rw [hK]; exact hO) (by rw [hK]; exact hA) h1 (by rw [hn]; exact h2) hd k
theorem x_laload (hC : Cx g X cc own nL rm) {i : Int32} (hK : K a = q) (hn : len a = n) (h0 : q ≠ 0) (hO : kO q = none) (hA : kA q = 2) (hd : decode cc pc = .ok (.laload, 1)) (h1 : 0 ≤ i.toInt) (h2 : i.toInt < n)
    (k : ∀ z : Int64, z = J a i.toNatClampNeg → P g X nL (pc + 1) lv (.long z :: st) cn sn (K, len, I, J, R)) : P g X nL pc lv (.int i :: .ref a :: st) cn sn (K, len, I, J, R) := r_laload hC (by rw [hK]; exact h0) (by rw [hK]; exact hO) (by rw [hK]; exact hA) h1 (by rw [hn]; exact h2) hd k
theorem x_iastore (hC : Cx g X cc own nL rm) {i v : Int32} (hK : K a = q) (hn : len a = n) (h0 : q ≠ 0) (hO : kO q = none) (hA : kA q = 1) (hd : decode cc pc = .ok (.iastore, 1)) (h1 : 0 ≤ i.toInt) (h2 : i.toInt < n)
    (k : ∀ I', I' = up2 I a i.toNatClampNeg v → P g X nL (pc + 1) lv st cn sn (K, len, I', J, R)) : P g X nL pc lv (.int v :: .int i :: .ref a :: st) cn sn (K, len, I, J, R) := r_iastore hC (by rw [hK]; exact h0) (by rw [hK]; exact hO) (by rw [hK]; exact hA) h1 (by rw [hn]; exact h2) hd k
theorem x_bastore (hC : Cx g X cc own nL rm) {i v : Int32} (hK : K a = q) (hn : len a = n) (h0 : q ≠ 0) (hO : kO q = none) (hA : kA q = 0) (hd : decode cc pc = .ok (.bastore, 1)) (h1 : 0 ≤ i.toInt) (h2 : i.toInt < n)
    (k : ∀ I', I' = up2 I a i.toNatClampNeg (vp_nar .byte v) → P g X nL (pc + 1) lv st cn sn (K, len, I', J, R)) : P g X nL pc lv (.int v :: .int i :: .ref a :: st) cn sn (K, len, I, J, R) := r_bastore hC (by rw [hK]; exact h0) (by rw [hK]; exact hO) (by rw [hK]; exact hA) h1 (by rw [hn]; exact h2) hd k
theorem x_zastore (hC : Cx g X cc own nL rm) {i v : Int32} (hK : K a = q) (hn : len a = n) (h0 : q ≠ 0) (hO : kO q = none) (hA : kA q = 3) (hd : decode cc pc = .ok (.bastore, 1)) (h1 : 0 ≤ i.toInt) (h2 : i.toInt < n)
    (k : ∀ I', I' = up2 I a i.toNatClampNeg (vp_nar .boolean v) → P g X nL (pc + 1) lv st cn sn (K, len, I', J, R)) : P g X nL pc lv (.int v :: .int i :: .ref a :: st) cn sn (K, len, I, J, R) := r_zastore hC (by rw [hK]; exact h0) (by rw [hK]; exact hO) (by rw [hK]; exact hA) h1 (by rw [hn]; exact h2) hd k
theorem x_lastore (hC : Cx g X cc own nL rm) {i : Int32} {v : Int64} (hK : K a = q) (hn : len a = n) (h0 : q ≠ 0) (hO : kO q = none) (hA : kA q = 2) (hd : decode cc pc = .ok (.lastore, 1)) (h1 : 0 ≤ i.toInt) (h2 : i.toInt < n)
    (k : ∀ J', J' = up2 J a i.toNatClampNeg v → P g X nL (pc + 1) lv st cn sn (K, len, I, J', R)) : P g X nL pc lv (.long v :: .int i :: .ref a :: st) cn sn (K, len, I, J, R) := r_lastore hC (by rw [hK]; exact h0) (by rw [hK]; exact hO) (by rw [hK]; exact hA) h1 (by rw [hn]; exact h2) hd k
theorem x_aaload (hC : Cx g X cc own nL rm) {i : Int32} {b : Nat} {C : String} (hK : K a = q) (hn : len a = n) (h0 : q ≠ 0) (hO : kO q = none) (ht : (kA q = 4 ∧ C = "HillTap$Course") ∨ (kA q = 5 ∧ C = "HillTap$Story")) (hd : decode cc pc = .ok (.aaload, 1)) (h1 : 0 ≤ i.toInt) (h2 : i.toInt < n) (hv : R a i.toNatClampNeg = some b)
    (k : P g X nL (pc + 1) lv (.ref b :: st) cn sn (K, len, I, J, R)) : P g X nL pc lv (.int i :: .ref a :: st) cn sn (K, len, I, J, R) := r_aaload (C := C) (t := kA q) hC (by rw [hK]; exact h0) (by rw [hK]; exact hO) (by rw [hK]) ht h1 (by rw [hn]; exact h2) hv hd k
theorem Sf.crs (h : Sf K len I R) (hk : K a = 44) {i : Int32} (h1 : 0 ≤ i.toInt) (h2 : i.toInt < 6) : ∃ b, R a i.toNatClampNeg = some b ∧ K b = 1 := h.2.1.1 a hk _ (by have := clampI h1; omega)
theorem Sf.sto (h : Sf K len I R) (hk : K a = 45) {i : Int32} (h1 : 0 ≤ i.toInt) (h2 : i.toInt < 6) : ∃ b, R a i.toNatClampNeg = some b ∧ K b = 5 := h.2.1.2.1 a hk _ (by have := clampI h1; omega)
end RW2
section SFX
variable {K len : Nat → Nat} {I I' : Nat → Nat → Int32} {R : Nat → Nat → Option Nat} {a : Nat} {v : Int32}
theorem up2_at {b j k : Nat} (h : b ≠ a ∨ j ≠ k) (e : I' = up2 I a k v) : I' b j = I b j := by rw [e, up2_ne _ _ h]
theorem up2_kk {k q r b j : Nat} (e : I' = up2 I a k v) (hk : K a = q) (hb : K b = r) (h : r ≠ q) : I' b j = I b j := up2_at (Or.inl fun z => h (by rw [← hb, ← hk, z])) e
/-- the lake's froms (4) and planned (5) -/
theorem Sf.put34 (h : Sf K len I R) (e : I' = up2 I a 4 v) (hk : K a = 3) (h0 : 0 ≤ v.toInt) (h1 : v.toInt ≤ 16) (h2 : (I a 5).toInt ≤ v.toInt) : Sf K len I' R := by
  refine ⟨h.1, h.2.1, h.2.2.1, h.2.2.2.1.put e hk (fun lo hi z => by cases z; exact ⟨h0, h1⟩), h.2.2.2.2.1.put e hk (fun lo hi z => by cases z), ⟨fun b hb => ?_, fun b hb => ?_, fun b hb => ?_, fun b kd mo hb g1 g2 j => ?_⟩⟩
  · by_cases hba : b = a
    · subst hba; rw [e, up2_self, up2_ne _ _ (Or.inr (by decide))]; exact h2
    · rw [up2_at (Or.inl hba) e, up2_at (Or.inl hba) e]; exact h.2.2.2.2.2.1 b hb
  · rw [up2_kk e hk hb (by decide), up2_kk e hk hb (by decide)]; exact h.2.2.2.2.2.2.1 b hb
  · rw [up2_kk e hk hb (by decide)]; exact h.2.2.2.2.2.2.2.1 b hb
  · have z1 := h.2.2.1.kd hb g1; have z2 := h.2.2.1.mo hb g2; rw [up2_kk e hk hb (by decide), up2_kk e hk z1 (by omega), up2_kk e hk z2 (by omega)]; exact h.2.2.2.2.2.2.2.2 b kd mo hb g1 g2 j
theorem Sf.put35 (h : Sf K len I R) (e : I' = up2 I a 5 v) (hk : K a = 3) (h0 : 0 ≤ v.toInt) (h1 : v.toInt ≤ 16) (h2 : v.toInt ≤ (I a 4).toInt) : Sf K len I' R := by
  refine ⟨h.1, h.2.1, h.2.2.1, h.2.2.2.1.put e hk (fun lo hi z => by cases z; exact ⟨h0, h1⟩), h.2.2.2.2.1.put e hk (fun lo hi z => by cases z), ⟨fun b hb => ?_, fun b hb => ?_, fun b hb => ?_, fun b kd mo hb g1 g2 j => ?_⟩⟩
  · by_cases hba : b = a
    · subst hba; rw [e, up2_self, up2_ne _ _ (Or.inr (by decide))]; exact h2
    · rw [up2_at (Or.inl hba) e, up2_at (Or.inl hba) e]; exact h.2.2.2.2.2.1 b hb
  · rw [up2_kk e hk hb (by decide), up2_kk e hk hb (by decide)]; exact h.2.2.2.2.2.2.1 b hb
  · rw [up2_kk e hk hb (by decide)]; exact h.2.2.2.2.2.2.2.1 b hb
  · have z1 := h.2.2.1.kd hb g1; have z2 := h.2.2.1.mo hb g2; rw [up2_kk e hk hb (by decide), up2_kk e hk z1 (by omega), up2_kk e hk z2 (by omega)]; exact h.2.2.2.2.2.2.2.2 b kd mo hb g1 g2 j
/-- the reference's froms (4) and told (5) -/
theorem Sf.putA4 (h : Sf K len I R) (e : I' = up2 I a 4 v) (hk : K a = 10) (h0 : 0 ≤ v.toInt) (h1 : v.toInt ≤ 16) (h2 : (I a 5).toInt ≤ v.toInt) : Sf K len I' R := by
  refine ⟨h.1, h.2.1, h.2.2.1, h.2.2.2.1.put e hk (fun lo hi z => by cases z; exact ⟨h0, h1⟩), h.2.2.2.2.1.put e hk (fun lo hi z => by cases z), ⟨fun b hb => ?_, fun b hb => ?_, fun b hb => ?_, fun b kd mo hb g1 g2 j => ?_⟩⟩
  · rw [up2_kk e hk hb (by decide), up2_kk e hk hb (by decide)]; exact h.2.2.2.2.2.1 b hb
  · by_cases hba : b = a
    · subst hba; rw [e, up2_self, up2_ne _ _ (Or.inr (by decide))]; exact h2
    · rw [up2_at (Or.inl hba) e, up2_at (Or.inl hba) e]; exact h.2.2.2.2.2.2.1 b hb
  · rw [up2_kk e hk hb (by decide)]; exact h.2.2.2.2.2.2.2.1 b hb
  · have z1 := h.2.2.1.kd hb g1; have z2 := h.2.2.1.mo hb g2; rw [up2_at (Or.inr (by decide)) e, up2_kk e hk z1 (by omega), up2_kk e hk z2 (by omega)]; exact h.2.2.2.2.2.2.2.2 b kd mo hb g1 g2 j
theorem Sf.putA5 (h : Sf K len I R) (e : I' = up2 I a 5 v) (hk : K a = 10) (h0 : 0 ≤ v.toInt) (h1 : v.toInt ≤ 8) (h2 : v.toInt ≤ (I a 4).toInt) : Sf K len I' R := by
  refine ⟨h.1, h.2.1, h.2.2.1, h.2.2.2.1.put e hk (fun lo hi z => by cases z; exact ⟨h0, h1⟩), h.2.2.2.2.1.put e hk (fun lo hi z => by cases z), ⟨fun b hb => ?_, fun b hb => ?_, fun b hb => ?_, fun b kd mo hb g1 g2 j => ?_⟩⟩
  · rw [up2_kk e hk hb (by decide), up2_kk e hk hb (by decide)]; exact h.2.2.2.2.2.1 b hb
  · by_cases hba : b = a
    · subst hba; rw [e, up2_self, up2_ne _ _ (Or.inr (by decide))]; exact h2
    · rw [up2_at (Or.inl hba) e, up2_at (Or.inl hba) e]; exact h.2.2.2.2.2.2.1 b hb
  · rw [up2_kk e hk hb (by decide)]; exact h.2.2.2.2.2.2.2.1 b hb
  · have z1 := h.2.2.1.kd hb g1; have z2 := h.2.2.1.mo hb g2; rw [up2_at (Or.inr (by decide)) e, up2_kk e hk z1 (by omega), up2_kk e hk z2 (by omega)]; exact h.2.2.2.2.2.2.2.2 b kd mo hb g1 g2 j
/-- the reference's gone -/
theorem Sf.putB19 (h : Sf K len I R) (e : I' = up2 I a 19 v) (hk : K a = 11) (h0 : v.toInt = -2 ∨ 0 ≤ v.toInt) (h1 : v.toInt ≤ 59) : Sf K len I' R := by
  refine ⟨h.1, h.2.1, h.2.2.1, h.2.2.2.1.put e hk (fun lo hi z => by cases z; exact ⟨by omega, h1⟩), h.2.2.2.2.1.put e hk (fun lo hi z => by cases z), ⟨fun b hb => ?_, fun b hb => ?_, fun b hb => ?_, fun b kd mo hb g1 g2 j => ?_⟩⟩
  · rw [up2_kk e hk hb (by decide), up2_kk e hk hb (by decide)]; exact h.2.2.2.2.2.1 b hb
  · rw [up2_kk e hk hb (by decide), up2_kk e hk hb (by decide)]; exact h.2.2.2.2.2.2.1 b hb
  · by_cases hba : b = a
    · subst hba; rw [e, up2_self]; omega
    · rw [up2_at (Or.inl hba) e]; exact h.2.2.2.2.2.2.2.1 b hb
  · have z1 := h.2.2.1.kd hb g1; have z2 := h.2.2.1.mo hb g2; rw [up2_kk e hk hb (by decide), up2_kk e hk z1 (by omega), up2_kk e hk z2 (by omega)]; exact h.2.2.2.2.2.2.2.2 b kd mo hb g1 g2 j
theorem Sf.gone (h : Sf K len I R) (hk : K a = 11) {x : Int32} (e : x = I a 19) : x.toInt ≠ -1 := by rw [e]; exact h.2.2.2.2.2.2.2.1 a hk
theorem Sf.plan (h : Sf K len I R) (hk : K a = 3) : (I a 5).toInt ≤ (I a 4).toInt := h.2.2.2.2.2.1 a hk
theorem Sf.told (h : Sf K len I R) (hk : K a = 10) : (I a 5).toInt ≤ (I a 4).toInt := h.2.2.2.2.2.2.1 a hk
/-- the reference's rows of kinds and mores, at a place that is no story yet -/
theorem Sf.putK (h : Sf K len I R) {b j rm : Nat} (e : I' = up2 I b j v) (hb : K b = 1000 + 2 * rm ∨ K b = 1001 + 2 * rm) (hj : (I rm 7).toInt ≤ j) : Sf K len I' R := by
  have big : 1000 ≤ K b := by omega
  have nb : ∀ c i, K c < 1000 → I' c i = I c i := fun c i hc => up2_at (Or.inl fun z => by rw [z] at hc; omega) e
  refine ⟨h.1, h.2.1, h.2.2.1, h.2.2.2.1.put e rfl (fun lo hi z => by rw [rng_arr (by omega)] at z; cases z), h.2.2.2.2.1.put e rfl (fun lo hi z => ?_), ⟨fun c hc => ?_, fun c hc => ?_, fun c hc => ?_, fun c kd mo hc g1 g2 i => ?_⟩⟩
  · exfalso
    have : arrT (K b) = none := by unfold arrT; split <;> first | rfl | omega
    rw [this] at z; cases z
  · rw [nb c 5 (by omega), nb c 4 (by omega)]; exact h.2.2.2.2.2.1 c hc
  · rw [nb c 5 (by omega), nb c 4 (by omega)]; exact h.2.2.2.2.2.2.1 c hc
  · rw [nb c 19 (by omega)]; exact h.2.2.2.2.2.2.2.1 c hc
  · have z1 := h.2.2.1.kd hc g1
    have z2 := h.2.2.1.mo hc g2
    rw [nb c 7 (by omega)]
    intro hi
    have n1 : I' kd i = I kd i := up2_at (by
      by_cases y : kd = b
      · right; intro y2; subst y y2; have : c = rm := by omega
        subst this; omega
      · exact Or.inl y) e
    have n2 : I' mo i = I mo i := up2_at (by
      by_cases y : mo = b
      · right; intro y2; subst y y2; have : c = rm := by omega
        subst this; omega
      · exact Or.inl y) e
    rw [n1, n2]
    exact h.2.2.2.2.2.2.2.2 c kd mo hc g1 g2 i hi
/-- one story more -/
theorem Sf.putA7 (h : Sf K len I R) {kd mo : Nat} (e : I' = up2 I a 7 v) (hk : K a = 10) (r1 : R a 17 = some kd) (r2 : R a 19 = some mo) (h0 : 0 ≤ v.toInt) (h1 : v.toInt ≤ 6) {j : Nat} (hj : (j : Int) = (I a 7).toInt) (hv : v.toInt = (I a 7).toInt + 1) (hn : (I kd j).toInt = 2 → 1 ≤ (I mo j).toInt ∧ (I mo j).toInt ≤ 20) : Sf K len I' R := by
  refine ⟨h.1, h.2.1, h.2.2.1, h.2.2.2.1.put e hk (fun lo hi z => by cases z; exact ⟨h0, h1⟩), h.2.2.2.2.1.put e hk (fun lo hi z => by cases z), ⟨fun b hb => ?_, fun b hb => ?_, fun b hb => ?_, fun b kd2 mo2 hb g1 g2 i => ?_⟩⟩
  · rw [up2_kk e hk hb (by decide), up2_kk e hk hb (by decide)]; exact h.2.2.2.2.2.1 b hb
  · rw [up2_at (Or.inr (by decide)) e, up2_at (Or.inr (by decide)) e]; exact h.2.2.2.2.2.2.1 b hb
  · rw [up2_kk e hk hb (by decide)]; exact h.2.2.2.2.2.2.2.1 b hb
  · have z1 := h.2.2.1.kd hb g1
    have z2 := h.2.2.1.mo hb g2
    rw [up2_kk e hk z1 (by omega), up2_kk e hk z2 (by omega)]
    by_cases hba : b = a
    · subst hba
      rw [r1] at g1; cases g1
      rw [r2] at g2; cases g2
      rw [e, up2_self]
      intro hi
      by_cases y : i = j
      · subst y; exact hn
      · exact h.2.2.2.2.2.2.2.2 b kd mo hb r1 r2 i (by omega)
    · rw [up2_at (Or.inl hba) e]
      exact h.2.2.2.2.2.2.2.2 b kd2 mo2 hb g1 g2 i
end SFX
theorem nF_0 : ("HillTapModel", 167, "HillTapModel$Hill", "stands", "I", "HillTapModel") ∈ nestF := by decide +kernel
theorem nF_1 : ("HillTapModel", 205, "HillTapModel$Hill", "moves", "I", "HillTapModel") ∈ nestF := by decide +kernel
theorem nF_2 : ("HillTapModel", 207, "HillTapModel$Hill", "to", "I", "HillTapModel") ∈ nestF := by decide +kernel
theorem nF_3 : ("HillTapModel", 170, "HillTapModel$Hill", "pegs", "I", "HillTapModel") ∈ nestF := by decide +kernel
theorem nF_4 : ("HillTapModel", 224, "HillTapModel$Hill", "froms", "I", "HillTapModel") ∈ nestF := by decide +kernel
theorem nF_5 : ("HillTapModel", 234, "HillTapModel$Hill", "told", "I", "HillTapModel") ∈ nestF := by decide +kernel
theorem nF_6 : ("HillTapModel", 237, "HillTapModel$Hill", "rains", "I", "HillTapModel") ∈ nestF := by decide +kernel
theorem nF_7 : ("HillTapModel", 173, "HillTapModel$Hill", "stories", "I", "HillTapModel") ∈ nestF := by decide +kernel
theorem nF_8 : ("HillTapModel", 274, "HillTapModel$Hill", "villages", "I", "HillTapModel") ∈ nestF := by decide +kernel
theorem nF_9 : ("HillTapModel", 289, "HillTapModel$Hill", "knowers", "I", "HillTapModel") ∈ nestF := by decide +kernel
theorem nF_10 : ("HillTapModel", 155, "HillTapModel$Hill", "names", "I", "HillTapModel") ∈ nestF := by decide +kernel
theorem nF_11 : ("HillTapModel", 220, "HillTapModel$Hill", "push", "[I", "HillTapModel") ∈ nestF := by decide +kernel
theorem nF_12 : ("HillTapModel", 222, "HillTapModel$Hill", "bed", "[I", "HillTapModel") ∈ nestF := by decide +kernel
theorem nF_13 : ("HillTapModel", 228, "HillTapModel$Hill", "fromDay", "[I", "HillTapModel") ∈ nestF := by decide +kernel
theorem nF_14 : ("HillTapModel", 231, "HillTapModel$Hill", "fromLevel", "[I", "HillTapModel") ∈ nestF := by decide +kernel
theorem nF_15 : ("HillTapModel", 242, "HillTapModel$Hill", "rain", "[I", "HillTapModel") ∈ nestF := by decide +kernel
theorem nF_16 : ("HillTapModel", 263, "HillTapModel$Hill", "weighs", "[I", "HillTapModel") ∈ nestF := by decide +kernel
theorem nF_17 : ("HillTapModel", 265, "HillTapModel$Hill", "kind", "[I", "HillTapModel") ∈ nestF := by decide +kernel
theorem nF_18 : ("HillTapModel", 268, "HillTapModel$Hill", "k", "[I", "HillTapModel") ∈ nestF := by decide +kernel
theorem nF_19 : ("HillTapModel", 271, "HillTapModel$Hill", "more", "[I", "HillTapModel") ∈ nestF := by decide +kernel
theorem nF_20 : ("HillTapModel", 283, "HillTapModel$Hill", "high", "[I", "HillTapModel") ∈ nestF := by decide +kernel
theorem nF_21 : ("HillTapModel", 285, "HillTapModel$Hill", "people", "[I", "HillTapModel") ∈ nestF := by decide +kernel
theorem nF_22 : ("HillTapModel", 287, "HillTapModel$Hill", "needs", "[I", "HillTapModel") ∈ nestF := by decide +kernel
theorem nF_23 : ("HillTapModel", 296, "HillTapModel$Hill", "knowsPeg", "[I", "HillTapModel") ∈ nestF := by decide +kernel
theorem nF_24 : ("HillTapModel", 299, "HillTapModel$Hill", "knowsAt", "[I", "HillTapModel") ∈ nestF := by decide +kernel
theorem nF_25 : ("HillTapModel", 151, "HillTapModel$Hill", "name", "[J", "HillTapModel") ∈ nestF := by decide +kernel
theorem nF_26 : ("HillTapModel", 158, "HillTapModel$Hill", "nameSort", "[I", "HillTapModel") ∈ nestF := by decide +kernel
theorem nF_27 : ("HillTapModel", 161, "HillTapModel$Hill", "nameNumber", "[I", "HillTapModel") ∈ nestF := by decide +kernel
theorem nM_0 : (("HillTap", 9, ⟨"HillTap$Tape", "<init>", "()V"⟩, "HillTap") : String × Nat × MethodName × String) ∈ nestM := by decide +kernel
theorem nM_1 : (("HillTap$Hill", 11, ⟨"HillTap$Lake", "<init>", "()V"⟩, "HillTap") : String × Nat × MethodName × String) ∈ nestM := by decide +kernel
theorem nM_2 : (("HillTap$Hill", 49, ⟨"HillTap$Story", "<init>", "()V"⟩, "HillTap") : String × Nat × MethodName × String) ∈ nestM := by decide +kernel
theorem nM_3 : (("HillTap", 45, ⟨"HillTap$Course", "<init>", "()V"⟩, "HillTap") : String × Nat × MethodName × String) ∈ nestM := by decide +kernel
theorem nM_4 : (("HillTap", 59, ⟨"HillTap$Readings", "<init>", "()V"⟩, "HillTap") : String × Nat × MethodName × String) ∈ nestM := by decide +kernel
theorem nM_5 : (("HillTap$Course", 61, ⟨"HillTap", "row", "(II)I"⟩, "HillTap") : String × Nat × MethodName × String) ∈ nestM := by decide +kernel
theorem nM_6 : (("HillTap$Readings", 31, ⟨"HillTap", "row", "(II)I"⟩, "HillTap") : String × Nat × MethodName × String) ∈ nestM := by decide +kernel
theorem nM_7 : (("HillTapModel", 308, ⟨"HillTapModel$Hill", "<init>", "()V"⟩, "HillTapModel") : String × Nat × MethodName × String) ∈ nestM := by decide +kernel
theorem okX0_init : yOk yX0_init 0 := by decide +kernel
theorem okX0_follow : yOk yX0_follow 4 := by decide +kernel
theorem okX0_togetherAhead : yOk yX0_togetherAhead 1 := by decide +kernel
theorem okX0_heldFrom : yOk yX0_heldFrom 1 := by decide +kernel
theorem okX0_speedOf : yOk yX0_speedOf 4 := by decide +kernel
theorem okX0_creepBy : yOk yX0_creepBy 4 := by decide +kernel
theorem okX0_fillAdds : yOk yX0_fillAdds 4 := by decide +kernel
theorem okX0_fillByRise : yOk yX0_fillByRise 3 := by decide +kernel
theorem okX0_fillByMean : yOk yX0_fillByMean 3 := by decide +kernel
theorem okX0_fillByRain : yOk yX0_fillByRain 2 := by decide +kernel
theorem okX1_init : yOk yX1_init 0 := by decide +kernel
theorem okX1_empty : yOk yX1_empty 0 := by decide +kernel
theorem okX2_init : yOk yX2_init 0 := by decide +kernel
theorem okX2_empty : yOk yX2_empty 0 := by decide +kernel
theorem okX2_addFrom : yOk yX2_addFrom 2 := by decide +kernel
theorem okX2_goalOf : yOk yX2_goalOf 1 := by decide +kernel
theorem okX2_towards : yOk yX2_towards 2 := by decide +kernel
theorem okX2_fillByPlan : yOk yX2_fillByPlan 2 := by decide +kernel
theorem okX2_fillSteady : yOk yX2_fillSteady 2 := by decide +kernel
theorem okX3_init : yOk yX3_init 0 := by decide +kernel
theorem okX3_add : yOk yX3_add 4 := by decide +kernel
theorem okX3_firstMisfit : yOk yX3_firstMisfit 1 := by decide +kernel
theorem okX3_firstDayOf : yOk yX3_firstDayOf 2 := by decide +kernel
theorem okX4_init : yOk yX4_init 0 := by decide +kernel
theorem okX4_findsAt : yOk yX4_findsAt 1 := by decide +kernel
theorem okX5_init : yOk yX5_init 0 := by decide +kernel
theorem okX5_add : yOk yX5_add 1 := by decide +kernel
theorem okX6_init : yOk yX6_init 1 := by decide +kernel
theorem okX6_tellHill : yOk yX6_tellHill 2 := by decide +kernel
theorem okX6_takeLine : yOk yX6_takeLine 1 := by decide +kernel
theorem okX6_takeLake : yOk yX6_takeLake 1 := by decide +kernel
theorem okX6_takePeg : yOk yX6_takePeg 1 := by decide +kernel
theorem okX6_takeFrom : yOk yX6_takeFrom 1 := by decide +kernel
theorem okX6_takeRain : yOk yX6_takeRain 1 := by decide +kernel
theorem okX6_takeStory : yOk yX6_takeStory 1 := by decide +kernel
theorem okX6_kindHere : yOk yX6_kindHere 0 := by decide +kernel
theorem okX6_takeVillage : yOk yX6_takeVillage 1 := by decide +kernel
theorem okX6_takeKnower : yOk yX6_takeKnower 1 := by decide +kernel
theorem okX6_pegNamed : yOk yX6_pegNamed 2 := by decide +kernel
theorem okX6_takeNewName : yOk yX6_takeNewName 0 := by decide +kernel
theorem okX6_isName : yOk yX6_isName 0 := by decide +kernel
theorem okX6_takeWhole : yOk yX6_takeWhole 2 := by decide +kernel
theorem okX6_takeNumber : yOk yX6_takeNumber 3 := by decide +kernel
theorem okX6_faulty : yOk yX6_faulty 1 := by decide +kernel
theorem okX7_init : yOk yX7_init 1 := by decide +kernel
theorem okX7_begin : yOk yX7_begin 1 := by decide +kernel
theorem okX7_next : yOk yX7_next 0 := by decide +kernel
theorem okX7_isEnd : yOk yX7_isEnd 0 := by decide +kernel
theorem okX7_isAnyWord : yOk yX7_isAnyWord 0 := by decide +kernel
theorem okX7_isWhole : yOk yX7_isWhole 0 := by decide +kernel
theorem okX7_isSemicolon : yOk yX7_isSemicolon 0 := by decide +kernel
theorem okX7_isWord : yOk yX7_isWord 1 := by decide +kernel
theorem okX7_takeLetters : yOk yX7_takeLetters 0 := by decide +kernel
theorem okX7_takeDigits : yOk yX7_takeDigits 0 := by decide +kernel
theorem okX8_init : yOk yX8_init 0 := by decide +kernel
theorem okX8_feed : yOk yX8_feed 5 := by decide +kernel
theorem okX8_hill : yOk yX8_hill 1 := by decide +kernel
theorem okX8_fault : yOk yX8_fault 0 := by decide +kernel
theorem okX8_where : yOk yX8_where 0 := by decide +kernel
theorem okX8_level : yOk yX8_level 1 := by decide +kernel
theorem okX8_plan : yOk yX8_plan 2 := by decide +kernel
theorem okX8_undo : yOk yX8_undo 0 := by decide +kernel
theorem okX8_peg : yOk yX8_peg 4 := by decide +kernel
theorem okX8_gone : yOk yX8_gone 1 := by decide +kernel
theorem okX8_wave : yOk yX8_wave 1 := by decide +kernel
theorem okX8_read : yOk yX8_read 4 := by decide +kernel
theorem okX8_forget : yOk yX8_forget 0 := by decide +kernel
theorem okX8_fits : yOk yX8_fits 0 := by decide +kernel
theorem okX8_fit : yOk yX8_fit 1 := by decide +kernel
theorem okX8_weight : yOk yX8_weight 1 := by decide +kernel
theorem okX8_clear : yOk yX8_clear 0 := by decide +kernel
theorem okX8_lettings : yOk yX8_lettings 0 := by decide +kernel
theorem okX8_tap : yOk yX8_tap 1 := by decide +kernel
theorem okX8_fooled : yOk yX8_fooled 1 := by decide +kernel
theorem okX8_nought : yOk yX8_nought 3 := by decide +kernel
theorem okX8_span : yOk yX8_span 5 := by decide +kernel
theorem okX8_helps : yOk yX8_helps 2 := by decide +kernel
theorem okX8_last : yOk yX8_last 1 := by decide +kernel
theorem okX8_safe : yOk yX8_safe 1 := by decide +kernel
theorem okX8_found : yOk yX8_found 2 := by decide +kernel
theorem okX8_bore : yOk yX8_bore 0 := by decide +kernel
theorem okX8_struck : yOk yX8_struck 2 := by decide +kernel
theorem okX8_dead : yOk yX8_dead 2 := by decide +kernel
theorem okX8_tell : yOk yX8_tell 2 := by decide +kernel
theorem okX8_part : yOk yX8_part 3 := by decide +kernel
theorem okX8_knew : yOk yX8_knew 1 := by decide +kernel
theorem okX8_led : yOk yX8_led 2 := by decide +kernel
theorem okX8_size : yOk yX8_size 1 := by decide +kernel
theorem okX8_trouble : yOk yX8_trouble 0 := by decide +kernel
theorem okX8_refuse : yOk yX8_refuse 1 := by decide +kernel
theorem okX8_answer : yOk yX8_answer 1 := by decide +kernel
theorem okX8_noHill : yOk yX8_noHill 0 := by decide +kernel
theorem okX8_isDay : yOk yX8_isDay 1 := by decide +kernel
theorem okX8_isStory : yOk yX8_isStory 1 := by decide +kernel
theorem okX8_isPeg : yOk yX8_isPeg 1 := by decide +kernel
theorem okX8_isVillage : yOk yX8_isVillage 1 := by decide +kernel
theorem okX8_isPegDay : yOk yX8_isPegDay 3 := by decide +kernel
theorem okX8_row : yOk yX8_row 2 := by decide +kernel
theorem okX8_planAnew : yOk yX8_planAnew 0 := by decide +kernel
theorem okX8_courseOf : yOk yX8_courseOf 1 := by decide +kernel
theorem okX8_staysIfDownFrom : yOk yX8_staysIfDownFrom 2 := by decide +kernel
theorem okX8_staysIfSteady : yOk yX8_staysIfSteady 2 := by decide +kernel
theorem okX8_findFits : yOk yX8_findFits 0 := by decide +kernel
theorem okX8_isFit : yOk yX8_isFit 1 := by decide +kernel
theorem okX8_countFitsUpTo : yOk yX8_countFitsUpTo 1 := by decide +kernel
theorem okX8_weightOfFits : yOk yX8_weightOfFits 0 := by decide +kernel
theorem okX8_strikes : yOk yX8_strikes 2 := by decide +kernel
theorem okX8_greatestAlike : yOk yX8_greatestAlike 1 := by decide +kernel
theorem okX8_weightFinding : yOk yX8_weightFinding 1 := by decide +kernel
theorem okX8_falls : yOk yX8_falls 1 := by decide +kernel
theorem okX8_isLetting : yOk yX8_isLetting 1 := by decide +kernel
theorem okX8_countLettings : yOk yX8_countLettings 0 := by decide +kernel
theorem okX8_tapOf : yOk yX8_tapOf 1 := by decide +kernel
theorem okX8_noughtBy : yOk yX8_noughtBy 3 := by decide +kernel
theorem okX9_init : yOk yX9_init 0 := by decide +kernel
theorem okX9_find : yOk yX9_find 1 := by decide +kernel
theorem okX10_init : yOk yX10_init 0 := by decide +kernel
theorem okX10_refused : yOk yX10_refused 1 := by decide +kernel
theorem okX10_done : yOk yX10_done 1 := by decide +kernel
theorem okX10_in : yOk yX10_in 3 := by decide +kernel
theorem okX10_byteAt : yOk yX10_byteAt 1 := by decide +kernel
theorem okX10_isLetter : yOk yX10_isLetter 1 := by decide +kernel
theorem okX10_isDigit : yOk yX10_isDigit 1 := by decide +kernel
theorem okX10_wordOf : yOk yX10_wordOf 1 := by decide +kernel
theorem okX10_goesOn : yOk yX10_goesOn 0 := by decide +kernel
theorem okX10_wrong : yOk yX10_wrong 1 := by decide +kernel
theorem okX10_isWord : yOk yX10_isWord 1 := by decide +kernel
theorem okX10_readWhole : yOk yX10_readWhole 2 := by decide +kernel
theorem okX10_readPart : yOk yX10_readPart 3 := by decide +kernel
theorem okX10_isName : yOk yX10_isName 0 := by decide +kernel
theorem okX10_begins : yOk yX10_begins 2 := by decide +kernel
theorem okX10_readFresh : yOk yX10_readFresh 2 := by decide +kernel
theorem okX10_readHill : yOk yX10_readHill 0 := by decide +kernel
theorem okX10_readLine : yOk yX10_readLine 0 := by decide +kernel
theorem okX10_readLake : yOk yX10_readLake 0 := by decide +kernel
theorem okX10_readPeg : yOk yX10_readPeg 0 := by decide +kernel
theorem okX10_readFrom : yOk yX10_readFrom 0 := by decide +kernel
theorem okX10_readRain : yOk yX10_readRain 0 := by decide +kernel
theorem okX10_readStory : yOk yX10_readStory 0 := by decide +kernel
theorem okX10_readVillage : yOk yX10_readVillage 0 := by decide +kernel
theorem okX10_readKnower : yOk yX10_readKnower 0 := by decide +kernel
theorem okX10_feed : yOk yX10_feed 5 := by decide +kernel
theorem okX10_hill : yOk yX10_hill 1 := by decide +kernel
theorem okX10_fault : yOk yX10_fault 0 := by decide +kernel
theorem okX10_where : yOk yX10_where 0 := by decide +kernel
theorem okX10_goalOf : yOk yX10_goalOf 1 := by decide +kernel
theorem okX10_fills : yOk yX10_fills 2 := by decide +kernel
theorem okX10_levelAt : yOk yX10_levelAt 1 := by decide +kernel
theorem okX10_isDay : yOk yX10_isDay 1 := by decide +kernel
theorem okX10_isPeg : yOk yX10_isPeg 1 := by decide +kernel
theorem okX10_isStory : yOk yX10_isStory 1 := by decide +kernel
theorem okX10_isVillage : yOk yX10_isVillage 1 := by decide +kernel
theorem okX10_level : yOk yX10_level 1 := by decide +kernel
theorem okX10_plan : yOk yX10_plan 2 := by decide +kernel
theorem okX10_undo : yOk yX10_undo 0 := by decide +kernel
theorem okX10_addOf : yOk yX10_addOf 3 := by decide +kernel
theorem okX10_newOf : yOk yX10_newOf 2 := by decide +kernel
theorem okX10_meanOf : yOk yX10_meanOf 2 := by decide +kernel
theorem okX10_rainOf : yOk yX10_rainOf 1 := by decide +kernel
theorem okX10_runs : yOk yX10_runs 2 := by decide +kernel
theorem okX10_speedOf : yOk yX10_speedOf 4 := by decide +kernel
theorem okX10_runsAsTold : yOk yX10_runsAsTold 1 := by decide +kernel
theorem okX10_speeds : yOk yX10_speeds 1 := by decide +kernel
theorem okX10_peg : yOk yX10_peg 4 := by decide +kernel
theorem okX10_gone : yOk yX10_gone 1 := by decide +kernel
theorem okX10_waveOf : yOk yX10_waveOf 0 := by decide +kernel
theorem okX10_wave : yOk yX10_wave 1 := by decide +kernel
theorem okX10_read : yOk yX10_read 4 := by decide +kernel
theorem okX10_forget : yOk yX10_forget 0 := by decide +kernel
theorem okX10_agrees : yOk yX10_agrees 2 := by decide +kernel
theorem okX10_weighs : yOk yX10_weighs 0 := by decide +kernel
theorem okX10_fitsUpTo : yOk yX10_fitsUpTo 1 := by decide +kernel
theorem okX10_fits : yOk yX10_fits 0 := by decide +kernel
theorem okX10_fit : yOk yX10_fit 1 := by decide +kernel
theorem okX10_weight : yOk yX10_weight 1 := by decide +kernel
theorem okX10_clear : yOk yX10_clear 0 := by decide +kernel
theorem okX10_isLetting : yOk yX10_isLetting 1 := by decide +kernel
theorem okX10_lettingsOf : yOk yX10_lettingsOf 0 := by decide +kernel
theorem okX10_lettings : yOk yX10_lettings 0 := by decide +kernel
theorem okX10_isHeld : yOk yX10_isHeld 1 := by decide +kernel
theorem okX10_tapOf : yOk yX10_tapOf 1 := by decide +kernel
theorem okX10_tap : yOk yX10_tap 1 := by decide +kernel
theorem okX10_fooled : yOk yX10_fooled 1 := by decide +kernel
theorem okX10_noughtBy : yOk yX10_noughtBy 3 := by decide +kernel
theorem okX10_isLine : yOk yX10_isLine 3 := by decide +kernel
theorem okX10_nought : yOk yX10_nought 3 := by decide +kernel
theorem okX10_span : yOk yX10_span 5 := by decide +kernel
theorem okX10_isHelp : yOk yX10_isHelp 2 := by decide +kernel
theorem okX10_helps : yOk yX10_helps 2 := by decide +kernel
theorem okX10_last : yOk yX10_last 1 := by decide +kernel
theorem okX10_safe : yOk yX10_safe 1 := by decide +kernel
theorem okX10_foundBy : yOk yX10_foundBy 2 := by decide +kernel
theorem okX10_found : yOk yX10_found 2 := by decide +kernel
theorem okX10_alikeAt : yOk yX10_alikeAt 1 := by decide +kernel
theorem okX10_bore : yOk yX10_bore 0 := by decide +kernel
theorem okX10_isStruck : yOk yX10_isStruck 1 := by decide +kernel
theorem okX10_struck : yOk yX10_struck 2 := by decide +kernel
theorem okX10_dead : yOk yX10_dead 2 := by decide +kernel
theorem okX10_tell : yOk yX10_tell 2 := by decide +kernel
theorem okX10_part : yOk yX10_part 3 := by decide +kernel
theorem okX10_knew : yOk yX10_knew 1 := by decide +kernel
theorem okX10_led : yOk yX10_led 2 := by decide +kernel
theorem okX10_size : yOk yX10_size 1 := by decide +kernel
theorem okX10_trouble : yOk yX10_trouble 0 := by decide +kernel
theorem okJ0_length_8abf5 : yOk yJ0_length_8abf5 0 := by decide +kernel
theorem okJ0_charAt_5068e : yOk yJ0_charAt_5068e 1 := by decide +kernel
theorem okJ0_coder_7d493 : yOk yJ0_coder_7d493 0 := by decide +kernel
theorem okJ0_isLatin1_aae02 : yOk yJ0_isLatin1_aae02 0 := by decide +kernel
theorem okJ0_checkIndex_df160 : yOk yJ0_checkIndex_df160 2 := by decide +kernel
theorem okJ1_charAt_3b067 : yOk yJ1_charAt_3b067 2 := by decide +kernel
theorem okJ7_fill_53178 : yOk yJ7_fill_53178 2 := by decide +kernel
theorem okJ3_checkIndex_8e157 : yOk yJ3_checkIndex_8e157 3 := by decide +kernel

