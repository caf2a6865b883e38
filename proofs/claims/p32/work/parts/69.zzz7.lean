def LP1 (D : DD) : Nat → Int := fun j => Lp D (Gp D 60) (j + 1)
def CO (D : DD) (s : Nat) (L : Nat → Int) (wet : Int) (c : Nat) (I : Nat → Nat → Int32) (R : Nat → Nat → Option Nat) : Prop := (∀ sr ir wr tr, R c 0 = some sr → R c 1 = some ir → R c 2 = some wr → R c 3 = some tr → CRi D s (Ad D s L wet) sr ir wr tr 60 0 I) ∧ (I c 5).toInt = GV D s (Ad D s L wet) 60 ∧ (I c 6).toInt = Wq D s (Ad D s L wet) L 60
def KN (D : DD) (x : Nat) (I : Nat → Nat → Int32) (R : Nat → Nat → Option Nat) : Prop := ∀ kn cr s c, R x 6 = some kn → R x 5 = some cr → s < 6 → R cr s = some c → (I kn s).toInt ≠ 0 → 1 ≤ D 0 7 → CO D s (LP1 D) 1 c I R
def EBj (D : DD) (E : Nat → Nat → Int) (j : Nat) : Prop := (0 ≤ E 0 j ∧ E 0 j < D 0 5) ∧ (0 ≤ E 1 j ∧ E 1 j ≤ 59) ∧ (0 ≤ E 2 j ∧ E 2 j ≤ 99999) ∧ 0 ≤ E 3 j ∧ E 3 j ≤ 999
def RdC (D : DD) (E : Nat → Nat → Int) (rd : Nat) (I : Nat → Nat → Int32) (R : Nat → Nat → Option Nat) : Prop := (∀ r j a : Nat, r < 4 → R rd (r + 1) = some a → (j : Int) < (I rd 0).toInt → (I a j).toInt = E r j) ∧ ∀ j : Nat, (j : Int) < (I rd 0).toInt → EBj D E j
def RdM (E : Nat → Nat → Int) (m : Nat) (I : Nat → Nat → Int32) (R : Nat → Nat → Option Nat) : Prop := ∀ r j a : Nat, r < 4 → R m (r + 21) = some a → (j : Int) < (I m 20).toInt → (I a j).toInt = E r j
def KC (D : DD) (E : Nat → Nat → Int) (x h lk rd : Nat) (I : Nat → Nat → Int32) (R : Nat → Nat → Option Nat) : Prop := RW (CC h lk R) (cntN D) D I ∧ scC D h lk I ∧ (1 ≤ D 0 7 → DJ D ∧ D 0 6 ≤ 6 ∧ ∀ lv, R x 4 = some lv → LvR D lv I) ∧ KN D x I R ∧ RdC D E rd I R
def KA (x h lk rd : Nat) (K len : Nat → Nat) (R : Nat → Nat → Option Nat) : Prop := (∃ I0, Sf K len I0 R) ∧ UU K R ∧ K x = 9 ∧ K h = 2 ∧ K lk = 3 ∧ K rd = 4
def qK (x : Nat) : Bool := x == 1 || x == 2 || x == 3 || x == 4 || x == 41 || x == 43 || x == 46 || x == 47 || x == 65 || x == 66 || (Nat.ble 50 x && Nat.ble x 53) || qC x
theorem qK_big : ∀ x, 1000 ≤ x → qK x = true → qK 1000 = true := by
  intro x hx h; simp only [qK, qC, Bool.or_eq_true, Bool.and_eq_true, beq_iff_eq, Nat.ble_eq] at h; omega
section KEEP
variable {D : DD} {E : Nat → Nat → Int} {x h lk rd s c : Nat} {K len : Nat → Nat} {I I0 I1 I2 : Nat → Nat → Int32} {R : Nat → Nat → Option Nat} {L : Nat → Int} {wet : Int} {l : List (Nat × Nat)}
theorem CO.eq (hc : CO D s L wet c I R) (e : ∀ b k, (b = c ∨ ∃ j, j < 4 ∧ R c j = some b) → I1 b k = I b k) : CO D s L wet c I1 R := by
  obtain ⟨h1, h2, h3⟩ := hc
  refine ⟨fun sr ir wr tr g0 g1 g2 g3 => (h1 sr ir wr tr g0 g1 g2 g3).eq (fun b k z => e b k (Or.inr ?_)), by rw [e c 5 (Or.inl rfl)]; exact h2, by rw [e c 6 (Or.inl rfl)]; exact h3⟩
  rcases z with rfl | rfl | rfl | rfl
  · exact ⟨0, by decide, g0⟩
  · exact ⟨1, by decide, g1⟩
  · exact ⟨2, by decide, g2⟩
  · exact ⟨3, by decide, g3⟩
theorem rk1 (hs : Sf K len I0 R) (kc : K c = 1) {j a : Nat} (hj : j < 5) (ha : R c j = some a) : K a = 50 + j := by
  have : j = 0 ∨ j = 1 ∨ j = 2 ∨ j = 3 ∨ j = 4 := by omega
  rcases this with rfl | rfl | rfl | rfl | rfl
  · exact refK hs (n := 300) kc (by decide) ha
  · exact refK hs (n := 300) kc (by decide) ha
  · exact refK hs (n := 300) kc (by decide) ha
  · exact refK hs (n := 60) kc (by decide) ha
  · exact refK hs (n := 60) kc (by decide) ha
theorem rk4 (hs : Sf K len I0 R) (krd : K rd = 4) {r a : Nat} (hr : r < 4) (ha : R rd (r + 1) = some a) : K a = 46 ∨ K a = 47 ∨ K a = 65 ∨ K a = 66 := by
  have : r = 0 ∨ r = 1 ∨ r = 2 ∨ r = 3 := by omega
  rcases this with rfl | rfl | rfl | rfl
  · exact Or.inl (refK hs (n := 24) krd (by decide) ha)
  · exact Or.inr (Or.inl (refK hs (n := 24) krd (by decide) ha))
  · exact Or.inr (Or.inr (Or.inl (refK hs (n := 24) krd (by decide) ha)))
  · exact Or.inr (Or.inr (Or.inr (refK hs (n := 24) krd (by decide) ha)))
theorem kcr (hs : Sf K len I0 R) (kx : K x = 9) {cr : Nat} (h5 : R x 5 = some cr) (h6 : s < 6) (hc : R cr s = some c) : K cr = 44 ∧ K c = 1 := by
  have k5 : K cr = 44 := refK hs (n := 6) kx (by decide) h5
  obtain ⟨b, g1, g2⟩ := hs.2.1.1 cr k5 s h6
  rw [hc] at g1; cases g1; exact ⟨k5, g2⟩
/-- all but one course and its rows, and one row of levels -/
theorem KC.eqT (hc : KC D E x h lk rd I R) (ka : KA x h lk rd K len R) {tc tl : Nat} (htc : R x 8 = some tc) (htl : R x 7 = some tl) (he : ∀ a k, qK (K a) = true → a ≠ tc → a ≠ tl → (∀ j, j < 5 → R tc j ≠ some a) → I1 a k = I a k) : KC D E x h lk rd I1 R := by
  obtain ⟨⟨I0, hs⟩, hu, kx, kh, klk, krd⟩ := ka
  obtain ⟨c1, c2, c3, c4, c5⟩ := hc
  have ktc : K tc = 1 := refK hs (n := 0) kx (by decide) htc
  have ktl : K tl = 41 := refK hs (n := 60) kx (by decide) htl
  have no : ∀ a q, K a = q → q ≠ 1 → q ≠ 41 → ¬ (50 ≤ q ∧ q ≤ 54) → qK q = true → ∀ k, I1 a k = I a k := fun a q h1 h2 h3 h4 h5 k => he a k (by rw [h1]; exact h5) (fun z => h2 (by rw [← h1, z]; exact ktc)) (fun z => h3 (by rw [← h1, z]; exact ktl)) (fun j hj z => h4 (by have := rk1 hs ktc hj z; omega))
  have eh := no h 2 kh (by decide) (by decide) (by decide) rfl
  have el := no lk 3 klk (by decide) (by decide) (by decide) rfl
  have er := no rd 4 krd (by decide) (by decide) (by decide) rfl
  refine ⟨c1.eq (fun r j a k hC => ?_), ?_, fun z => ⟨(c3 z).1, (c3 z).2.1, fun lv hlv j hj => ?_⟩, fun kn cr s c g1 g2 g3 g4 g5 g7 => ?_, ⟨fun r j a hr ha hj => ?_, fun j hj => c5.2 j (by rw [er] at hj; exact hj)⟩⟩
  · have hq := (CC_x hs kh klk hu).1 r j a k hC
    refine no a (K a) rfl ?_ ?_ ?_ ?_ k
    all_goals (simp only [qK, qC, Bool.or_eq_true, Bool.and_eq_true, beq_iff_eq, Nat.ble_eq] at hq ⊢; omega)
  · unfold scC; simp only [eh, el]; exact c2
  · have klv : K lv = 41 := refK hs (n := 60) kx (by decide) hlv
    rw [he lv j (by rw [klv]; rfl) (fun z => by rw [z, ktc] at klv; exact absurd klv (by decide)) (hu.ne hlv htl (by rw [klv]; decide) (Or.inr (by decide))) (fun i hi z => by have := rk1 hs ktc hi z; omega)]
    exact (c3 z).2.2 lv hlv j hj
  · have kkn : K kn = 43 := refK hs (n := 6) kx (by decide) g1
    obtain ⟨kcr, kc⟩ := kcr hs kx g2 g3 g4
    rw [no kn 43 kkn (by decide) (by decide) (by decide) rfl] at g5
    have nct : c ≠ tc := hu.ne g4 htc (by rw [kc]; decide) (Or.inl (fun z => by rw [z, kx] at kcr; exact absurd kcr (by decide)))
    refine (c4 kn cr s c g1 g2 g3 g4 g5 g7).eq (fun b k z => ?_)
    rcases z with rfl | ⟨j, hj, z⟩
    · exact he b k (by rw [kc]; rfl) nct (fun z => by rw [z, ktl] at kc; exact absurd kc (by decide)) (fun i hi z => by have := rk1 hs ktc hi z; omega)
    · have kb := rk1 hs kc (by omega : j < 5) z
      exact he b k (by rw [kb]; simp only [qK, Bool.or_eq_true, Bool.and_eq_true, beq_iff_eq, Nat.ble_eq]; omega) (fun y => by rw [y, ktc] at kb; omega) (fun y => by rw [y, ktl] at kb; omega) (fun i hi y => hu.ne z y (by omega) (Or.inl nct) rfl)
  · rw [er] at hj
    have kb := rk4 hs krd hr ha
    rw [he a j (by simp only [qK, Bool.or_eq_true, Bool.and_eq_true, beq_iff_eq, Nat.ble_eq]; omega) (fun y => by rw [y, ktc] at kb; omega) (fun y => by rw [y, ktl] at kb; omega) (fun i hi y => by have := rk1 hs ktc hi y; omega)]
    exact c5.1 r j a hr ha hj
theorem KC.eq (hc : KC D E x h lk rd I R) (ka : KA x h lk rd K len R) (he : ∀ a k, qK (K a) = true → I1 a k = I a k) : KC D E x h lk rd I1 R := by
  obtain ⟨tc, htc, -⟩ := ka.1.choose_spec.obj ka.2.2.1 8 1 (by decide)
  obtain ⟨tl, htl, -⟩ := ka.1.choose_spec.row ka.2.2.1 7 41 60 (by decide) (by decide)
  exact hc.eqT ka htc htl (fun a k z _ _ _ => he a k z)
theorem KC.mv (hc : KC D E x h lk rd I R) (ka : KA x h lk rd K len R) (hF : Fr K l I I1) (ho : okQ qK l = true) : KC D E x h lk rd I1 R := hc.eq ka (fun a k z => hF.get rfl (okQ_in ho qK_big z k))
theorem KC.put (hc : KC D E x h lk rd I R) (ka : KA x h lk rd K len R) {a k q : Nat} {v : Int32} (e : I1 = up2 I a k v) (hk : K a = q) (hq : qK q = false) : KC D E x h lk rd I1 R := hc.eq ka (fun b j z => up2_at (Or.inl (fun y => by rw [y, hk, hq] at z; cases z)) e)
/-- a course worked out -/
theorem KC.fol (hc : KC D E x h lk rd I R) (ka : KA x h lk rd K len R) {kn cr : Nat} {v : Int32} (h6 : R x 6 = some kn) (h5 : R x 5 = some cr) (hs6 : s < 6) (hcs : R cr s = some c) (hO : ∀ b k, b ≠ c → (∀ j, j < 5 → R c j ≠ some b) → I1 b k = I b k) (hq : CO D s (LP1 D) 1 c I1 R) (e : I2 = up2 I1 kn s v) : KC D E x h lk rd I2 R ∧ CO D s (LP1 D) 1 c I2 R := by
  obtain ⟨⟨I0, hs⟩, hu, kx, kh, klk, krd⟩ := ka
  obtain ⟨c1, c2, c3, c4, c5⟩ := hc
  obtain ⟨kcr1, kc⟩ := kcr hs kx h5 hs6 hcs
  have kkn : K kn = 43 := refK hs (n := 6) kx (by decide) h6
  have e2 : ∀ b k, b ≠ kn → I2 b k = I1 b k := fun b k z => up2_at (Or.inl z) e
  have no : ∀ a q, K a = q → q ≠ 1 → q ≠ 43 → ¬ (50 ≤ q ∧ q ≤ 54) → ∀ k, I2 a k = I a k := fun a q h1 h2 h3 h4 k => (e2 a k (fun z => h3 (by rw [← h1, z]; exact kkn))).trans (hO a k (fun z => h2 (by rw [← h1, z]; exact kc)) (fun j hj z => h4 (by have := rk1 hs kc hj z; omega)))
  have hq2 : CO D s (LP1 D) 1 c I2 R := hq.eq (fun b k z => e2 b k (fun y => by
    rcases z with z | ⟨j, hj, z⟩
    · rw [← y, z, kc] at kkn; exact absurd kkn (by decide)
    · have := rk1 hs kc (by omega : j < 5) z; rw [y, kkn] at this; omega))
  have eh := no h 2 kh (by decide) (by decide) (by decide)
  have el := no lk 3 klk (by decide) (by decide) (by decide)
  have er := no rd 4 krd (by decide) (by decide) (by decide)
  refine ⟨⟨c1.eq (fun r j a k hC => ?_), ?_, fun z => ⟨(c3 z).1, (c3 z).2.1, fun lv hlv j hj => ?_⟩, fun kn' cr' s' c' g1 g2 g3 g4 g5 g7 => ?_, ⟨fun r j a hr ha hj => ?_, fun j hj => c5.2 j (by rw [er] at hj; exact hj)⟩⟩, hq2⟩
  · have hq' := (CC_x hs kh klk hu).1 r j a k hC
    refine no a (K a) rfl ?_ ?_ ?_ k
    all_goals (simp only [qC, Bool.or_eq_true, Bool.and_eq_true, beq_iff_eq, Nat.ble_eq] at hq'; omega)
  · unfold scC; simp only [eh, el]; exact c2
  · have klv : K lv = 41 := refK hs (n := 60) kx (by decide) hlv
    rw [no lv 41 klv (by decide) (by decide) (by decide)]
    exact (c3 z).2.2 lv hlv j hj
  · rw [h6] at g1; cases g1; rw [h5] at g2; cases g2
    by_cases hss : s' = s
    · subst hss; rw [hcs] at g4; cases g4; exact hq2
    · obtain ⟨-, kc'⟩ := kcr hs kx h5 g3 g4
      have ncc : c' ≠ c := hu.ne g4 hcs (by rw [kc']; decide) (Or.inr hss)
      have ek : I2 kn s' = I kn s' := (up2_at (Or.inr hss) e).trans (hO kn s' (fun z => by rw [z, kc] at kkn; exact absurd kkn (by decide)) (fun j hj z => by have := rk1 hs kc hj z; omega))
      rw [ek] at g5
      refine (c4 kn cr s' c' h6 h5 g3 g4 g5 g7).eq (fun b k z => (e2 b k (fun y => ?_)).trans (hO b k ?_ ?_))
      · rcases z with z | ⟨j, hj, z⟩
        · rw [← y, z, kc'] at kkn; exact absurd kkn (by decide)
        · have := rk1 hs kc' (by omega : j < 5) z; rw [y, kkn] at this; omega
      · rcases z with z | ⟨j, hj, z⟩
        · rw [z]; exact ncc
        · intro y; have := rk1 hs kc' (by omega : j < 5) z; rw [y, kc] at this; omega
      · rcases z with z | ⟨j, hj, z⟩
        · intro i hi y; have := rk1 hs kc hi y; rw [z, kc'] at this; omega
        · intro i hi y; have := rk1 hs kc' (by omega : j < 5) z; exact hu.ne z y (by omega) (Or.inl ncc) rfl
  · rw [er] at hj
    have kb := rk4 hs krd hr ha
    rw [no a (K a) rfl (by omega) (by omega) (by omega)]
    exact c5.1 r j a hr ha hj
theorem KC.sto (hc : KC D E x h lk rd I R) {sa a : Nat} (hsa : R h 7 = some sa) (ha : R sa s = some a) (h6 : s < 6) (hsk : (s : Int) < D 0 7) : (I a 0).toInt = D 6 s ∧ (I a 1).toInt = D 7 s ∧ (I a 2).toInt = D 8 s ∧ (D 7 s = 2 ∨ D 7 s = 3 ∨ D 7 s = 4 → (I a 3).toInt = D 9 s) :=
  ⟨hc.1 6 _ _ _ (cCs (k := 0) (by decide) h6 hsa ha) (by rw [cnt_6]; exact hsk) (fun h9 => absurd h9 (by decide)), hc.1 7 _ _ _ (cCs (k := 1) (by decide) h6 hsa ha) (by rw [cnt_7]; exact hsk) (fun h9 => absurd h9 (by decide)), hc.1 8 _ _ _ (cCs (k := 2) (by decide) h6 hsa ha) (by rw [cnt_8]; exact hsk) (fun h9 => absurd h9 (by decide)), fun z => hc.1 9 _ _ _ (cCs (k := 3) (by decide) h6 hsa ha) (by rw [cnt_9]; exact hsk) (fun _ => z)⟩
theorem LP1_b (hJ : DJ D) (j : Nat) : 0 ≤ LP1 D j ∧ LP1 D j ≤ 999 := Lp_b hJ (fun d => Gp_b hJ) (j + 1)
theorem KC.lev (hc : KC D E x h lk rd I R) (h7 : 1 ≤ D 0 7) {lv : Nat} (hlv : R x 4 = some lv) : ∀ j : Nat, j < 60 → (I lv j).toInt = LP1 D j ∧ 0 ≤ LP1 D j ∧ LP1 D j ≤ 999 := fun j hj => ⟨(hc.2.2.1 h7).2.2 lv hlv j hj, LP1_b (hc.2.2.1 h7).1 j⟩
theorem KC.rn (hc : KC D E x h lk rd I R) {rr : Nat} (hrr : R h 5 = some rr) : ∀ j : Nat, j < 60 → (I rr j).toInt = D 5 j := fun j hj => hc.1 5 _ _ _ (cCt (r := 5) rfl hrr) (by show (j : Int) < 60; omega) (fun h9 => absurd h9 (by decide))
theorem KC.kn (hc : KC D E x h lk rd I R) {kn cr : Nat} (h6 : R x 6 = some kn) (h5 : R x 5 = some cr) (hs6 : s < 6) (hcs : R cr s = some c) (hk : (I kn s).toInt ≠ 0) (h7 : 1 ≤ D 0 7) : CO D s (LP1 D) 1 c I R := hc.2.2.2.1 kn cr s c h6 h5 hs6 hcs hk h7
/-- the rows of a course -/
theorem CO.spd (hc : CO D s L wet c I R) (hs : Sf K len I0 R) (kc : K c = 1) {sr d p : Nat} (h0 : R c 0 = some sr) (hd : d < 60) (hp : (p : Int) < D 0 5) : (I sr (60 * p + d)).toInt = SV D s (Ad D s L wet) d p := by
  obtain ⟨ir, h1, -⟩ := hs.row kc 1 51 300 (by decide) (by decide)
  obtain ⟨wr, h2, -⟩ := hs.row kc 2 52 300 (by decide) (by decide)
  obtain ⟨tr, h3, -⟩ := hs.row kc 3 53 60 (by decide) (by decide)
  exact ((hc.1 sr ir wr tr h0 h1 h2 h3).1 d p (Or.inl hd) hp).1
theorem CO.inc (hc : CO D s L wet c I R) (hs : Sf K len I0 R) (kc : K c = 1) {ir d p : Nat} (h1 : R c 1 = some ir) (hd : d < 60) (hp : (p : Int) < D 0 5) : (I ir (60 * p + d)).toInt = NV D s (Ad D s L wet) d p := by
  obtain ⟨sr, h0, -⟩ := hs.row kc 0 50 300 (by decide) (by decide)
  obtain ⟨wr, h2, -⟩ := hs.row kc 2 52 300 (by decide) (by decide)
  obtain ⟨tr, h3, -⟩ := hs.row kc 3 53 60 (by decide) (by decide)
  exact ((hc.1 sr ir wr tr h0 h1 h2 h3).1 d p (Or.inl hd) hp).2.1
theorem CO.wrn (hc : CO D s L wet c I R) (hs : Sf K len I0 R) (kc : K c = 1) {wr d p : Nat} (h2 : R c 2 = some wr) (hd : d < 60) (hp : (p : Int) < D 0 5) : (I wr (60 * p + d)).toInt = WV D s (Ad D s L wet) d p := by
  obtain ⟨sr, h0, -⟩ := hs.row kc 0 50 300 (by decide) (by decide)
  obtain ⟨ir, h1, -⟩ := hs.row kc 1 51 300 (by decide) (by decide)
  obtain ⟨tr, h3, -⟩ := hs.row kc 3 53 60 (by decide) (by decide)
  exact ((hc.1 sr ir wr tr h0 h1 h2 h3).1 d p (Or.inl hd) hp).2.2
theorem CO.tog (hc : CO D s L wet c I R) (hs : Sf K len I0 R) (kc : K c = 1) {tr d : Nat} (h3 : R c 3 = some tr) (hd : d < 60) : (I tr d).toInt = Ps (SV D s (Ad D s L wet) d) (D 0 5).toNat := by
  obtain ⟨sr, h0, -⟩ := hs.row kc 0 50 300 (by decide) (by decide)
  obtain ⟨ir, h1, -⟩ := hs.row kc 1 51 300 (by decide) (by decide)
  obtain ⟨wr, h2, -⟩ := hs.row kc 2 52 300 (by decide) (by decide)
  exact (hc.1 sr ir wr tr h0 h1 h2 h3).2 d hd
theorem CO.mv (hc : CO D s L wet c I R) (hs : Sf K len I0 R) (kc : K c = 1) (hF : Fr K l I I1) (ho : okQ qK l = true) : CO D s L wet c I1 R := hc.eq (fun b k z => hF.get rfl (okQ_in ho qK_big (by
  rcases z with rfl | ⟨j, hj, z⟩
  · rw [kc]; rfl
  · have := rk1 hs kc (by omega : j < 5) z; simp only [qK, Bool.or_eq_true, Bool.and_eq_true, beq_iff_eq, Nat.ble_eq]; omega) k))
theorem KC.adb (hc : KC D E x h lk rd I R) (hs : (s : Int) < D 0 7) {w2 : Int} : ∀ d, 0 ≤ Ad D s (LP1 D) w2 d ∧ Ad D s (LP1 D) w2 d ≤ 300000 := Ad_b (hc.2.2.1 (by omega)).1 (hc.2.2.1 (by omega)).2.1 hs (LP1_b (hc.2.2.1 (by omega)).1)
theorem KC.svb (hc : KC D E x h lk rd I R) (hs : (s : Int) < D 0 7) {w2 : Int} (d p : Nat) : 0 ≤ SV D s (Ad D s (LP1 D) w2) d p ∧ SV D s (Ad D s (LP1 D) w2) d p ≤ 30100 := SV_b (hc.2.2.1 (by omega)).1 (hc.adb hs) d p
theorem KC.nvb (hc : KC D E x h lk rd I R) (hs : (s : Int) < D 0 7) {w2 : Int} (d p : Nat) (hd : d < 60) : 0 ≤ NV D s (Ad D s (LP1 D) w2) d p ∧ NV D s (Ad D s (LP1 D) w2) d p ≤ 1806000 := by
  have h := (Cs_b (s := s) (hc.2.2.1 (by omega)).1 (hc.adb hs (w2 := w2)) (d + 1) p).2.1
  refine ⟨h.1, Int.le_trans h.2 ?_⟩
  have : ((d + 1 : Nat) : Int) = d + 1 := by omega
  rw [this]; omega
theorem KC.rdr (hc : KC D E x h lk rd I R) {r j a : Nat} (hr : r < 4) (ha : R rd (r + 1) = some a) (hj : (j : Int) < (I rd 0).toInt) : (I a j).toInt = E r j := hc.2.2.2.2.1 r j a hr ha hj
theorem KC.rdb (hc : KC D E x h lk rd I R) {j : Nat} (hj : (j : Int) < (I rd 0).toInt) : EBj D E j := hc.2.2.2.2.2 j hj
end KEEP
