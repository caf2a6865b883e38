/-- an object of class ci at a is being made: F its fields' rows and parts so far (field, address, kind, length); what was there before is as it was -/
def Con (K0 len0 : Nat → Nat) (I0 : Nat → Nat → Int32) (R0 : Nat → Nat → Option Nat) (a ci : Nat) (Z : Nat → Int32) (F : List (Nat × Nat × Nat × Nat)) (K len : Nat → Nat) (I : Nat → Nat → Int32) (R : Nat → Nat → Option Nat) : Prop :=
  Sf K len I R ∧ K a = 21 + ci ∧ I a = Z ∧ (∀ e ∈ F, R a e.1 = some e.2.1 ∧ K e.2.1 = e.2.2.1 ∧ (e.2.1 ≠ a ∧ e.2.2.1 ≠ 0) ∧ len e.2.1 = e.2.2.2) ∧ (∀ k, (∀ e ∈ F, e.1 ≠ k) → R a k = none) ∧ ∀ b, K0 b ≠ 0 → b ≠ a → K b = K0 b ∧ len b = len0 b ∧ I b = I0 b ∧ R b = R0 b
/-- .. and has been made -/
def Made (K0 len0 : Nat → Nat) (I0 : Nat → Nat → Int32) (R0 : Nat → Nat → Option Nat) (a ci : Nat) (Z : Nat → Int32) (M : MM) : Prop :=
  Sf M.1 M.2.1 M.2.2.1 M.2.2.2.2 ∧ M.1 a = 1 + ci ∧ M.2.2.1 a = Z ∧ ∀ b, K0 b ≠ 0 → b ≠ a → M.1 b = K0 b ∧ M.2.1 b = len0 b ∧ M.2.2.1 b = I0 b ∧ M.2.2.2.2 b = R0 b
section MAKE
variable {K0 len0 : Nat → Nat} {I0 : Nat → Nat → Int32} {R0 : Nat → Nat → Option Nat} {a ci cj : Nat} {Z Z' : Nat → Int32} {F : List (Nat × Nat × Nat × Nat)} {K len K' len' : Nat → Nat} {I I' : Nat → Nat → Int32} {J J' : Nat → Nat → Int64} {R R' R2 : Nat → Nat → Option Nat} {q kd n k : Nat}
theorem Con.start (h : Sf K len I R) (hk : K a = 21 + ci) (hI : I a = Z) (hR : ∀ k, R a k = none) : Con K len I R a ci Z [] K len I R := ⟨h, hk, hI, fun _ z => (by cases z), fun k _ => hR k, fun _ _ _ => ⟨rfl, rfl, rfl, rfl⟩⟩
theorem Con.ne0 (c : Con K0 len0 I0 R0 a ci Z F K len I R) : K a ≠ 0 := by rw [c.2.1]; omega
theorem Con.up (c : Con K0 len0 I0 R0 a ci Z F K len I R) (hci : ci ≤ 10) : pkU (K a) = true := by
  rw [c.2.1]; unfold pkU; simp only [Bool.or_eq_true, Bool.and_eq_true, Nat.ble_eq, beq_iff_eq]; omega
theorem Con.kq (c : Con K0 len0 I0 R0 a ci Z F K len I R) (hq : K q = 0) : va_up K q kd a = 21 + ci := by
  rw [va_up_ne _ _ (fun z => c.ne0 (by rw [z]; exact hq))]; exact c.2.1
/-- a row made, and put into the field k -/
theorem Con.row (c : Con K0 len0 I0 R0 a ci Z F K len I R) (hci : ci ≤ 10) (hq : K q = 0) (hp : pk kd = true) (hF : ∀ e ∈ F, e.1 ≠ k) (e : R' = up2 (z2 R q none) a k (some q)) : Con K0 len0 I0 R0 a ci Z ((k, q, kd, n) :: F) (va_up K q kd) (va_up len q n) (z2 I q 0) R' := by
  have haq : a ≠ q := fun z => c.ne0 (by rw [z]; exact hq)
  have ka : va_up K q kd a = 21 + ci := by rw [va_up_ne _ _ haq]; exact c.2.1
  refine ⟨(c.1.grow hq hp).setR (a := a) (by rw [va_up_ne _ _ haq]; exact c.up hci) e, ka, ?_, fun en hen => ?_, fun j hj => ?_, fun b hb hba => ?_⟩
  · funext j; rw [z2_ne _ _ _ haq]; exact congrFun c.2.2.1 j
  · rcases List.mem_cons.mp hen with rfl | hen
    · exact ⟨by rw [e, up2_self], va_up_self _ _ _, ⟨haq.symm, fun z => by rw [show kd = 0 from z] at hp; exact absurd hp (by decide)⟩, va_up_self _ _ _⟩
    · obtain ⟨h1, h2, h3, h4⟩ := c.2.2.2.1 en hen
      have hbq : en.2.1 ≠ q := fun z => h3.2 (by rw [← h2, z, hq])
      exact ⟨by rw [e, up2_ne _ _ (Or.inr (hF en hen)), z2_ne _ _ _ haq]; exact h1, by rw [va_up_ne _ _ hbq]; exact h2, h3, by rw [va_up_ne _ _ hbq]; exact h4⟩
  · rw [e, up2_ne _ _ (Or.inr ?_), z2_ne _ _ _ haq]
    · exact c.2.2.2.2.1 j (fun en hen => hj en (List.mem_cons_of_mem _ hen))
    · exact fun z => hj (k, q, kd, n) List.mem_cons_self z.symm
  · obtain ⟨h1, h2, h3, h4⟩ := c.2.2.2.2.2 b hb hba
    have hbq : b ≠ q := fun z => hb (by rw [← h1, z, hq])
    refine ⟨by rw [va_up_ne _ _ hbq]; exact h1, by rw [va_up_ne _ _ hbq]; exact h2, ?_, ?_⟩
    · funext j; rw [z2_ne _ _ _ hbq]; exact congrFun h3 j
    · funext j; rw [e, up2_ne _ _ (Or.inl hba), z2_ne _ _ _ hbq]; exact congrFun h4 j
theorem Sf.growO (h : Sf K len I R) (hq : K q = 0) (hp : pk kd = true) : Sf (va_up K q kd) len (z2 I q 0) (z2 R q none) := by
  have e : va_up len q (len q) = len := by
    funext b; by_cases hb : b = q
    · subst hb; exact va_up_self _ _ _
    · exact va_up_ne _ _ hb
  have := h.grow (n := len q) hq hp
  rwa [e] at this
/-- an old part stored -/
theorem Con.old (c : Con K0 len0 I0 R0 a ci Z F K len I R) (hci : ci ≤ 10) {b : Nat} (hb : K b = kd) (hn : len b = n) (hk0 : kd ≠ 0) (hba : b ≠ a) (hF : ∀ e ∈ F, e.1 ≠ k) (e : R2 = up2 R a k (some b)) : Con K0 len0 I0 R0 a ci Z ((k, b, kd, n) :: F) K len I R2 := by
  refine ⟨c.1.setR (a := a) (c.up hci) e, c.2.1, c.2.2.1, fun en hen => ?_, fun j hj => ?_, fun b' hb' hba' => ?_⟩
  · rcases List.mem_cons.mp hen with rfl | hen
    · exact ⟨by rw [e, up2_self], hb, ⟨hba, hk0⟩, hn⟩
    · obtain ⟨h1, h2, h3, h4⟩ := c.2.2.2.1 en hen
      exact ⟨by rw [e, up2_ne _ _ (Or.inr (hF en hen))]; exact h1, h2, h3, h4⟩
  · rw [e, up2_ne _ _ (Or.inr fun z => hj (k, b, kd, n) List.mem_cons_self z.symm)]
    exact c.2.2.2.2.1 j (fun en hen => hj en (List.mem_cons_of_mem _ hen))
  · obtain ⟨h1, h2, h3, h4⟩ := c.2.2.2.2.2 b' hb' hba'
    exact ⟨h1, h2, h3, by funext j; rw [e, up2_ne _ _ (Or.inl hba')]; exact congrFun h4 j⟩
/-- behind a part's constructor: the maker's own state -/
theorem Con.after (c : Con K0 len0 I0 R0 a ci Z F K len I R) (hq : K q = 0) (h : Made (va_up K q (21 + cj)) len (z2 I q 0) (z2 R q none) q cj Z' (K', len', I', J', R')) : Con K0 len0 I0 R0 a ci Z F K' len' I' R' ∧ K' q = 1 + cj ∧ q ≠ a ∧ I' q = Z' := by
  have old : ∀ b, K b ≠ 0 → b ≠ q ∧ K' b = K b ∧ len' b = len b ∧ I' b = I b ∧ R' b = R b := by
    intro b hb
    have hbq : b ≠ q := fun z => hb (by rw [z]; exact hq)
    obtain ⟨h1, h2, h3, h4⟩ := h.2.2.2 b (by rw [va_up_ne _ _ hbq]; exact hb) hbq
    refine ⟨hbq, by rw [← va_up_ne K (21 + cj) hbq]; exact h1, h2, ?_, ?_⟩
    · funext j; exact (congrFun h3 j).trans (z2_ne _ _ _ hbq)
    · funext j; exact (congrFun h4 j).trans (z2_ne _ _ _ hbq)
  obtain ⟨a0, a1, a2, a3, a4⟩ := old a c.ne0
  refine ⟨⟨h.1, by rw [a1]; exact c.2.1, by rw [a3]; exact c.2.2.1, fun en hen => ?_, fun j hj => by rw [a4]; exact c.2.2.2.2.1 j hj, fun b hb hba => ?_⟩, h.2.1, a0.symm, h.2.2.1⟩
  · obtain ⟨h1, h2, h3, h4⟩ := c.2.2.2.1 en hen
    obtain ⟨b0, b1, b2, b3, b4⟩ := old en.2.1 (by rw [h2]; exact h3.2)
    exact ⟨by rw [a4]; exact h1, by rw [b1]; exact h2, h3, by rw [b2]; exact h4⟩
  · obtain ⟨h1, h2, h3, h4⟩ := c.2.2.2.2.2 b hb hba
    obtain ⟨b0, b1, b2, b3, b4⟩ := old b (by rw [h1]; exact hb)
    exact ⟨b1.trans h1, b2.trans h2, b3.trans h3, b4.trans h4⟩
/-- a number put -/
theorem Con.num (c : Con K0 len0 I0 R0 a ci Z F K len I R) (hci : ci ≤ 10) {w : Int32} (e : I' = up2 I a k w) : Con K0 len0 I0 R0 a ci (va_up Z k w) F K len I' R := by
  refine ⟨c.1.setI (a := a) (c.up hci) e, c.2.1, ?_, c.2.2.2.1, c.2.2.2.2.1, fun b hb hba => ?_⟩
  · funext j; rw [e]
    by_cases hj : j = k
    · subst hj; rw [up2_self, va_up_self]
    · rw [up2_ne _ _ (Or.inr hj), va_up_ne _ _ hj]; exact congrFun c.2.2.1 j
  · obtain ⟨h1, h2, h3, h4⟩ := c.2.2.2.2.2 b hb hba
    exact ⟨h1, h2, by funext j; rw [e, up2_ne _ _ (Or.inl hba)]; exact congrFun h3 j, h4⟩
/-- the row of objects at b, which is the field k's, filled up to j -/
def Fil (b j t : Nat) (K : Nat → Nat) (R : Nat → Nat → Option Nat) : Prop := ∀ i, i < j → ∃ c, R b i = some c ∧ K c = t ∧ t ≠ 0
theorem Con.elem (c : Con K0 len0 I0 R0 a ci Z F K len I R) {b j t u : Nat} (hb : K b = u) (hu : pkU u = true) (hba : b ≠ a) (hnew : K0 b = 0) (hf : Fil b j t K R) (hq : K q = t) (ht : t ≠ 0) (e : R2 = up2 R b j (some q)) : Con K0 len0 I0 R0 a ci Z F K len I R2 ∧ Fil b (j + 1) t K R2 := by
  refine ⟨⟨c.1.setR (a := b) (by rw [hb]; exact hu) e, c.2.1, c.2.2.1, fun en hen => ?_, fun i hi => ?_, fun d hd hda => ?_⟩, fun i hi => ?_⟩
  · obtain ⟨h1, h2, h3, h4⟩ := c.2.2.2.1 en hen
    exact ⟨by rw [e, up2_ne _ _ (Or.inl (Ne.symm hba))]; exact h1, h2, h3, h4⟩
  · rw [e, up2_ne _ _ (Or.inl (Ne.symm hba))]; exact c.2.2.2.2.1 i hi
  · obtain ⟨h1, h2, h3, h4⟩ := c.2.2.2.2.2 d hd hda
    exact ⟨h1, h2, h3, by funext i; rw [e, up2_ne _ _ (Or.inl fun z => hd (by rw [z]; exact hnew))]; exact congrFun h4 i⟩
  · by_cases hij : i = j
    · subst hij; exact ⟨q, by rw [e, up2_self], hq, ht⟩
    · obtain ⟨d, h1, h2⟩ := hf i (by omega)
      exact ⟨d, by rw [e, up2_ne _ _ (Or.inr hij)]; exact h1, h2⟩
theorem Fil.after {b j t : Nat} (hf : Fil b j t K R) (hb : K b ≠ 0) (hq : K q = 0) (h : Made (va_up K q (21 + cj)) len (z2 I q 0) (z2 R q none) q cj Z' (K', len', I', J', R')) : Fil b j t K' R' ∧ K' b = K b ∧ len' b = len b := by
  have old : ∀ b, K b ≠ 0 → K' b = K b ∧ len' b = len b ∧ R' b = R b := by
    intro b hb
    have hbq : b ≠ q := fun z => hb (by rw [z]; exact hq)
    obtain ⟨h1, h2, h3, h4⟩ := h.2.2.2 b (by rw [va_up_ne _ _ hbq]; exact hb) hbq
    refine ⟨by rw [← va_up_ne K (21 + cj) hbq]; exact h1, h2, ?_⟩
    funext j; exact (congrFun h4 j).trans (z2_ne _ _ _ hbq)
  obtain ⟨b1, b2, b3⟩ := old b hb
  refine ⟨fun i hi => ?_, b1, b2⟩
  obtain ⟨d, h1, h2, h3⟩ := hf i hi
  exact ⟨d, by rw [b3]; exact h1, by rw [(old d (by rw [h2]; exact h3)).1]; exact h2, h3⟩
/-- the row is full -/
theorem Con.full (c : Con K0 len0 I0 R0 a ci Z ((k, q, 30 + n, 6) :: F) K len I R) (hn : n = 4 ∨ n = 5) (hf : Fil q 6 (if n = 4 then 1 else 5) K R) (hnew : K0 q = 0) (hF : ∀ e ∈ F, e.2.2.1 ≠ 34 ∧ e.2.2.1 ≠ 35) : Con K0 len0 I0 R0 a ci Z ((k, q, 40 + n, 6) :: F) (va_up K q (40 + n)) len I R := by
  obtain ⟨h1, h2, h3, h4⟩ := c.2.2.2.1 _ List.mem_cons_self
  have hkq : K q = 30 + n := h2
  refine ⟨c.1.sealA hn hkq (fun j hj => ?_), ?_, c.2.2.1, fun en hen => ?_, fun j hj => ?_, fun b hb hba => ?_⟩
  · obtain ⟨d, g1, g2, -⟩ := hf j hj
    exact ⟨d, g1, g2⟩
  · rw [va_up_ne _ _ (Ne.symm h3.1)]; exact c.2.1
  · rcases List.mem_cons.mp hen with rfl | hen
    · exact ⟨h1, va_up_self _ _ _, ⟨h3.1, by show 40 + n ≠ 0; omega⟩, h4⟩
    · obtain ⟨g1, g2, g3, g4⟩ := c.2.2.2.1 en (List.mem_cons_of_mem _ hen)
      have : en.2.1 ≠ q := fun z => by
        have := hF en hen
        rw [z, hkq] at g2
        omega
      exact ⟨g1, by rw [va_up_ne _ _ this]; exact g2, g3, g4⟩
  · refine c.2.2.2.2.1 j (fun en hen => ?_)
    rcases List.mem_cons.mp hen with rfl | hen
    · exact hj (k, q, 40 + n, 6) List.mem_cons_self
    · exact hj en (List.mem_cons_of_mem _ hen)
  · obtain ⟨g1, g2, g3, g4⟩ := c.2.2.2.2.2 b hb hba
    exact ⟨by rw [va_up_ne _ _ (fun z => hb (by rw [z]; exact hnew))]; exact g1, g2, g3, g4⟩
/-- the object is whole -/
theorem Con.made (c : Con K0 len0 I0 R0 a ci Z F K len I R) (hci : ci ≤ 10) (hr : ∀ e ∈ refT (1 + ci), ∃ f ∈ F, f.1 = e.1 ∧ f.2.2.1 = e.2.1 ∧ (e.2.2 ≠ 0 → f.2.2.2 = e.2.2)) (hi : ∀ k lo hi, rngI (1 + ci) k = some (lo, hi) → lo ≤ (Z k).toInt ∧ (Z k).toInt ≤ hi) (h3 : ci = 2 ∨ ci = 9 → (Z 5).toInt ≤ (Z 4).toInt) (h11 : ci = 10 → (Z 19).toInt ≠ -1 ∧ (∀ e ∈ F, e.1 ≠ 3) ∧ (∀ e ∈ F, e.1 ≠ 4)) (h10 : ci = 9 → (Z 7).toInt ≤ 0 ∧ ∃ kd mo, (17, kd, 1000 + 2 * a, 6) ∈ F ∧ (19, mo, 1001 + 2 * a, 6) ∈ F) : Made K0 len0 I0 R0 a ci Z (va_up K a (1 + ci), len, I, J, R) := by
  refine ⟨c.1.seal c.2.1 hci (fun e he => ?_) (fun k lo hi' hh => by rw [c.2.2.1]; exact hi k lo hi' hh) (fun z => by rw [c.2.2.1]; exact h3 z) (fun z => ?_) (fun z => ?_), va_up_self _ _ _, c.2.2.1, fun b hb hba => ?_⟩
  · obtain ⟨f, hf, g1, g2, g3⟩ := hr e he
    obtain ⟨h1, h2, h3, h4⟩ := c.2.2.2.1 f hf
    exact ⟨f.2.1, by rw [← g1]; exact h1, by rw [← g2]; exact h2, h3.1, fun z => by rw [← g3 z]; exact h4⟩
  · obtain ⟨g1, g2, g3⟩ := h11 z
    exact ⟨by rw [c.2.2.1]; exact g1, c.2.2.2.2.1 3 g2, c.2.2.2.2.1 4 g3⟩
  · obtain ⟨g0, kd, mo, g1, g2⟩ := h10 z
    obtain ⟨h1, h2, h3, h4⟩ := c.2.2.2.1 _ g1
    obtain ⟨h5, h6, h7, h8⟩ := c.2.2.2.1 _ g2
    exact ⟨by rw [c.2.2.1]; exact g0, kd, mo, h1, h2, h4, h5, h6, h8, h3.1, h7.1⟩
  · obtain ⟨h1, h2, h3, h4⟩ := c.2.2.2.2.2 b hb hba
    exact ⟨by show va_up K a (1 + ci) b = _; rw [va_up_ne _ _ hba]; exact h1, h2, h3, h4⟩
end MAKE
theorem r_sealA {g : GG} {X : XT} {nL pc cn sn q t : Nat} {lv : List (Nat × Value)} {st : List Value} {K len : Nat → Nat} {I : Nat → Nat → Int32} {J : Nat → Nat → Int64} {R : Nat → Nat → Option Nat} (ht : t = 4 ∨ t = 5) (hq : K q = 30 + t) (k : P g X nL pc lv st cn sn (va_up K q (40 + t), len, I, J, R)) : P g X nL pc lv st cn sn (K, len, I, J, R) := by
  intro H locs ls hw hS hl
  refine k H locs ls ?_ hS hl
  obtain ⟨L, hL, hP, hD⟩ := hw
  have e : va_pl L (cellE g (K, len, I, J, R)) = va_pl L (cellE g (va_up K q (40 + t), len, I, J, R)) := va_pl_congr (fun b => by
    by_cases hb : b = q
    · subst hb
      rw [cellE_arr (by show kO (K b) = none; rw [hq]; rcases ht with rfl | rfl <;> rfl), cellE_arr (by show kO (va_up K b (40 + t) b) = none; rw [va_up_self]; rcases ht with rfl | rfl <;> rfl)]
      show Sum.inl (g.2.1 (kA (K b)), len b, arE (kA (K b)) _ b) = Sum.inl (g.2.1 (kA (va_up K b (40 + t) b)), len b, arE (kA (va_up K b (40 + t) b)) _ b)
      rw [va_up_self, hq]
      rcases ht with rfl | rfl <;> rfl
    · exact (cellE_same (M := (K, len, I, J, R)) (M' := (va_up K q (40 + t), len, I, J, R)) (va_up_ne _ _ hb) rfl rfl rfl rfl).symm)
  rw [e] at hP hD
  refine ⟨L, fun b => ?_, hP, hD⟩
  rw [hL b]
  show K b ≠ 0 ↔ va_up K q (40 + t) b ≠ 0
  by_cases hb : b = q
  · subst hb; rw [hq, va_up_self]; omega
  · rw [va_up_ne _ _ hb]
theorem nlt_0 {z : Int32} (h : 0 ≤ z.toInt) : ¬ z < 0 := fun c => by have := Int32.lt_iff_toInt_lt.mp c; have e : (0 : Int32).toInt = 0 := rfl; omega
theorem cl_of {z : Int32} {n : Nat} (h : z.toInt = (n : Int)) : z.toNatClampNeg = n := by
  show z.toInt.toNat = n
  omega

