theorem sAd {i x y : Int32} {L : Nat} {c : Int} (e : y = i + x) (t : x.toInt = c) (h0 : 0 ≤ c) (h5 : c ≤ 5) (hi : 0 ≤ i.toInt) (hiL : i.toInt + 6 ≤ L) (hL : L ≤ 3072) : y.toInt = i.toInt + c := by rw [e, ti_add (by omega) (by omega), t]
theorem sLo {i y : Int32} {c : Int} (t : y.toInt = i.toInt + c) (h0 : 0 ≤ c) (hi : 0 ≤ i.toInt) : 0 ≤ y.toInt := by omega
theorem sHi {i y : Int32} {L : Nat} {c : Int} (t : y.toInt = i.toInt + c) (h5 : c ≤ 5) (hiL : i.toInt + 6 ≤ L) : y.toInt < L := by omega
def Hid (p : Prop) : Prop := p
theorem Hid.mk {p : Prop} (h : p) : Hid p := h
theorem Hid.out {p : Prop} (h : Hid p) : p := h
def LA (x m o tp bt te tk nr pr rd mt : Nat) (K len : Nat → Nat) (R : Nat → Nat → Option Nat) : Prop := K x = 9 ∧ K m = 11 ∧ (K o = 42 ∧ len o = 1) ∧ (R x 0 = some tp ∧ K tp = 6) ∧ (R tp 0 = some bt ∧ K bt = 40 ∧ len bt = 900) ∧ (R x 1 = some te ∧ K te = 7) ∧ (R te 0 = some tk ∧ K tk = 8) ∧ R tk 0 = some tp ∧ (R te 1 = some nr ∧ K nr = 42 ∧ len nr = 19) ∧ (R te 2 = some pr ∧ K pr = 48 ∧ len pr = 5) ∧ (R x 9 = some rd ∧ K rd = 4) ∧ (R m 5 = some mt ∧ K mt = 49 ∧ len mt = 900)
def LH (x h s lk ls : Nat) (K : Nat → Nat) (R : Nat → Nat → Option Nat) : Prop := (R x 2 = some h ∧ K h = 2) ∧ (R x 3 = some s ∧ K s = 2) ∧ (R h 0 = some lk ∧ K lk = 3) ∧ (R s 0 = some ls ∧ K ls = 3) ∧ h ≠ s ∧ lk ≠ ls
def LB (tp bt mt : Nat) (I : Nat → Nat → Int32) : Prop := ∀ j : Nat, (j : Int) < (I tp 1).toInt → I mt j = I bt j ∧ -128 ≤ (I bt j).toInt ∧ (I bt j).toInt ≤ 127
def LV (x m tp te : Nat) (I : Nat → Nat → Int32) : Prop := (I tp 1).toInt = (I m 6).toInt ∧ (I te 5).toInt = (I m 12).toInt ∧ ((I x 12).toInt = 4 → (I m 2).toInt = (I te 6).toInt) ∧ ((I x 12).toInt ≠ 4 → (I m 2).toInt = -1)
def LR (h lk rd m : Nat) (K : Nat → Nat) (I : Nat → Nat → Int32) (R : Nat → Nat → Option Nat) : Prop := (I rd 0).toInt = (I m 20).toInt ∧ ((R m 3 = none ∧ (I h 1).toInt = 0 ∧ (I h 4).toInt = 0 ∧ (I h 6).toInt = 0 ∧ (I h 8).toInt = 0 ∧ (I h 12).toInt = 0 ∧ (I lk 1).toInt = 0 ∧ (I lk 3).toInt = 0 ∧ (I lk 4).toInt = 0 ∧ (I lk 5).toInt = 0 ∧ (I rd 0).toInt = 0) ∨ (∃ hm, R m 3 = some hm ∧ K hm = 10 ∧ 1 ≤ (I h 6).toInt ∧ (I h 1).toInt = (I hm 3).toInt ∧ (I h 4).toInt = (I hm 6).toInt ∧ (I h 6).toInt = (I hm 7).toInt ∧ (I h 8).toInt = (I hm 8).toInt ∧ (I h 12).toInt = (I hm 9).toInt ∧ (I lk 1).toInt = (I hm 0).toInt ∧ (I lk 3).toInt = (I hm 2).toInt ∧ (I lk 4).toInt = (I hm 4).toInt ∧ (I lk 5).toInt = (I hm 4).toInt - (I hm 5).toInt))
/-- the numbers of both hills -/
def LCb (x h lk m : Nat) (D : DD) (K : Nat → Nat) (I : Nat → Nat → Int32) (R : Nat → Nat → Option Nat) : Prop := RW (CC h lk R) (cntN D) D I ∧ scC D h lk I ∧ ∀ hm, R m 3 = some hm → K hm = 10 ∧ DJ D ∧ RW (CM hm R) (cntN D) D I ∧ scM D hm I ∧ ∀ lv, R x 4 = some lv → LvR D lv I
def LC (x h lk rd m : Nat) (K : Nat → Nat) (I : Nat → Nat → Int32) (R : Nat → Nat → Option Nat) : Prop := UU K R ∧ ∃ D : DD, LCb x h lk m D K I R ∧ ∃ E : Nat → Nat → Int, KC D E x h lk rd I R ∧ RdM E m I R
def LI (x m o tp bt te tk nr pr rd mt : Nat) (K len : Nat → Nat) (I : Nat → Nat → Int32) (R : Nat → Nat → Option Nat) : Prop := Sf K len I R ∧ LA x m o tp bt te tk nr pr rd mt K len R ∧ (∃ h s lk ls, LH x h s lk ls K R ∧ LR h lk rd m K I R ∧ LC x h lk rd m K I R) ∧ LB tp bt mt I ∧ LV x m tp te I
def okL (l : List (Nat × Nat)) : Bool := !(inS l 6 1) && !(inS l 7 5) && !(inS l 7 6) && !(inS l 11 6) && !(inS l 11 12) && l.all (fun e => e.1 != 40 && e.1 != 49)
def okW (l : List (Nat × Nat)) : Bool := !(inS l 4 0) && !(inS l 11 20) && l.all (fun e => e.1 != 2 && e.1 != 3 && e.1 != 10)
def okV (l : List (Nat × Nat)) : Bool := l.all (fun e => e.1 != 2 && e.1 != 3 && e.1 != 10) && okQ qC l && okQ qM l
section LINV
variable {x m o tp bt te tk nr pr rd mt : Nat} {K len K2 len2 : Nat → Nat} {I I1 I2 : Nat → Nat → Int32} {R R2 : Nat → Nat → Option Nat} {l l1 l2 : List (Nat × Nat)}
theorem okA_in {q : Nat} (hq : q = 40 ∨ q = 49) (h : l.all (fun e => e.1 != 40 && e.1 != 49) = true) (k : Nat) : inS l q k = false := by
  apply Classical.byContradiction; intro hc
  rw [Bool.not_eq_false] at hc
  obtain ⟨e, he, h1⟩ := List.any_eq_true.mp hc
  have h2 := List.all_eq_true.mp h e he
  simp only [Bool.and_eq_true, Bool.or_eq_true, beq_iff_eq, bne_iff_ne, Nat.ble_eq] at h1 h2
  omega
theorem LB.mv (h : LB tp bt mt I) (hF : Fr K l I I1) (ktp : K tp = 6) (kbt : K bt = 40) (kmt : K mt = 49) (ho : okL l = true) : LB tp bt mt I1 := by
  simp only [okL, Bool.and_eq_true, Bool.not_eq_true'] at ho
  obtain ⟨⟨⟨⟨⟨i1, i2⟩, i3⟩, i4⟩, i5⟩, i6⟩ := ho
  intro j hj
  rw [hF.get ktp i1] at hj
  rw [hF.get kmt (okA_in (Or.inr rfl) i6 j), hF.get kbt (okA_in (Or.inl rfl) i6 j)]
  exact h j hj
theorem okW_in {q : Nat} (hq : q = 2 ∨ q = 3 ∨ q = 10) (h : l.all (fun e => e.1 != 2 && e.1 != 3 && e.1 != 10) = true) (k : Nat) : inS l q k = false := by
  apply Classical.byContradiction; intro hc
  rw [Bool.not_eq_false] at hc
  obtain ⟨e, he, h1⟩ := List.any_eq_true.mp hc
  have h2 := List.all_eq_true.mp h e he
  simp only [Bool.and_eq_true, Bool.or_eq_true, beq_iff_eq, bne_iff_ne, Nat.ble_eq] at h1 h2
  omega
theorem LR.mv {h lk : Nat} (hr : LR h lk rd m K I R) (hF : Fr K l I I1) (kh : K h = 2) (klk : K lk = 3) (krd : K rd = 4) (km : K m = 11) (ho : okW l = true) : LR h lk rd m K I1 R := by
  simp only [okW, Bool.and_eq_true, Bool.not_eq_true'] at ho
  obtain ⟨⟨i1, i2⟩, i3⟩ := ho
  have a : ∀ k, I1 h k = I h k := fun k => hF.get kh (okW_in (Or.inl rfl) i3 k)
  have b : ∀ k, I1 lk k = I lk k := fun k => hF.get klk (okW_in (Or.inr (Or.inl rfl)) i3 k)
  have c : I1 rd 0 = I rd 0 := hF.get krd i1
  have d : I1 m 20 = I m 20 := hF.get km i2
  unfold LR at hr ⊢
  simp only [a, b, c, d]
  refine ⟨hr.1, ?_⟩
  rcases hr.2 with z | ⟨hm, z1, z2, z3⟩
  · exact Or.inl z
  · have e : ∀ k, I1 hm k = I hm k := fun k => hF.get z2 (okW_in (Or.inr (Or.inr rfl)) i3 k)
    simp only [← e] at z3
    exact Or.inr ⟨hm, z1, z2, z3⟩
theorem LvR.eq {D : DD} {lv : Nat} (h : LvR D lv I) (e : ∀ j, I1 lv j = I lv j) : LvR D lv I1 := fun j hj => by rw [e]; exact h j hj
theorem LCb.mvT {h lk : Nat} {D : DD} {I0 : Nat → Nat → Int32} (lc : LCb x h lk m D K I R) (hu : UU K R) (hs : Sf K len I0 R) (hF : Fr K l I I1) (kh : K h = 2) (klk : K lk = 3) (ho : okV l = true) (hl : ∀ hm lv, R m 3 = some hm → R x 4 = some lv → LvR D lv I1) : LCb x h lk m D K I1 R := by
  simp only [okV, Bool.and_eq_true] at ho
  obtain ⟨⟨i1, i2⟩, i3⟩ := ho
  have a : ∀ k, I1 h k = I h k := fun k => hF.get kh (okW_in (Or.inl rfl) i1 k)
  have b : ∀ k, I1 lk k = I lk k := fun k => hF.get klk (okW_in (Or.inr (Or.inl rfl)) i1 k)
  obtain ⟨rw1, sc, hh⟩ := lc
  refine ⟨rw1.mv (CC_x hs kh klk hu) qC_big hF i2, ?_, fun hm z => ?_⟩
  · unfold scC; simp only [a, b]; exact sc
  · obtain ⟨z1, z2, z3, z4, z5⟩ := hh hm z
    have c : ∀ k, I1 hm k = I hm k := fun k => hF.get z1 (okW_in (Or.inr (Or.inr rfl)) i1 k)
    refine ⟨z1, z2, z3.mv (CM_x hs z1) qM_big hF i3, ?_, fun lv hv => hl hm lv z hv⟩
    unfold scM; simp only [c]; exact z4
theorem ok41 {l : List (Nat × Nat)} (h : l.all (fun e => e.1 != 41) = true) (k : Nat) : inS l 41 k = false := by
  apply Classical.byContradiction; intro hc
  rw [Bool.not_eq_false] at hc
  obtain ⟨e, he, h1⟩ := List.any_eq_true.mp hc
  have h2 := List.all_eq_true.mp h e he
  simp only [Bool.and_eq_true, Bool.or_eq_true, beq_iff_eq, bne_iff_ne, Nat.ble_eq] at h1 h2
  omega
def okU (l : List (Nat × Nat)) : Bool := okV l && l.all (fun e => e.1 != 41)
theorem LCb.mv {h lk : Nat} {D : DD} {I0 : Nat → Nat → Int32} (lc : LCb x h lk m D K I R) (hu : UU K R) (hs : Sf K len I0 R) (kx : K x = 9) (hF : Fr K l I I1) (kh : K h = 2) (klk : K lk = 3) (ho : okU l = true) : LCb x h lk m D K I1 R := by
  simp only [okU, Bool.and_eq_true] at ho
  exact lc.mvT hu hs hF kh klk ho.1 (fun hm lv z hv => ((lc.2.2 hm z).2.2.2.2 lv hv).eq (fun j => hF.get (refK hs (n := 60) kx (by decide) hv) (ok41 ho.2 j)))
/-- the rows of what was READ, of the reference -/
def okX (l : List (Nat × Nat)) : Bool := !(inS l 11 20) && l.all (fun e => e.1 != 89 && e.1 != 90 && e.1 != 91 && e.1 != 92)
theorem okX_in {q : Nat} (hq : q = 89 ∨ q = 90 ∨ q = 91 ∨ q = 92) (h : l.all (fun e => e.1 != 89 && e.1 != 90 && e.1 != 91 && e.1 != 92) = true) (k : Nat) : inS l q k = false := by
  apply Classical.byContradiction; intro hc
  rw [Bool.not_eq_false] at hc
  obtain ⟨e, he, h1⟩ := List.any_eq_true.mp hc
  have h2 := List.all_eq_true.mp h e he
  simp only [Bool.and_eq_true, Bool.or_eq_true, beq_iff_eq, bne_iff_ne, Nat.ble_eq] at h1 h2
  omega
theorem rk11 {I0 : Nat → Nat → Int32} (hs : Sf K len I0 R) (km : K m = 11) {r a : Nat} (hr : r < 4) (ha : R m (r + 21) = some a) : K a = 89 ∨ K a = 90 ∨ K a = 91 ∨ K a = 92 := by
  have : r = 0 ∨ r = 1 ∨ r = 2 ∨ r = 3 := by omega
  rcases this with rfl | rfl | rfl | rfl
  · exact Or.inl (refK hs (n := 24) km (by decide) ha)
  · exact Or.inr (Or.inl (refK hs (n := 24) km (by decide) ha))
  · exact Or.inr (Or.inr (Or.inl (refK hs (n := 24) km (by decide) ha)))
  · exact Or.inr (Or.inr (Or.inr (refK hs (n := 24) km (by decide) ha)))
theorem RdM.mv {E : Nat → Nat → Int} {I0 : Nat → Nat → Int32} (h : RdM E m I R) (hs : Sf K len I0 R) (km : K m = 11) (hF : Fr K l I I1) (ho : okX l = true) : RdM E m I1 R := by
  simp only [okX, Bool.and_eq_true, Bool.not_eq_true'] at ho
  intro r j a hr ha hj
  rw [hF.get km ho.1] at hj
  rw [hF.get rfl (okX_in (rk11 hs km hr ha) ho.2 j)]; exact h r j a hr ha hj
def okZ (l : List (Nat × Nat)) : Bool := okU l && okQ qK l && okX l
theorem LC.mv {h lk : Nat} {I0 : Nat → Nat → Int32} (lc : LC x h lk rd m K I R) (hs : Sf K len I0 R) (kx : K x = 9) (km : K m = 11) (krd : K rd = 4) (hF : Fr K l I I1) (kh : K h = 2) (klk : K lk = 3) (ho : okZ l = true) : LC x h lk rd m K I1 R := by
  simp only [okZ, Bool.and_eq_true] at ho
  obtain ⟨hu, D, lb, E, kc, rm⟩ := lc
  exact ⟨hu, D, lb.mv hu hs kx hF kh klk ho.1.1, E, kc.mv ⟨⟨_, hs⟩, hu, kx, kh, klk, krd⟩ hF ho.1.2, rm.mv hs km hF ho.2⟩
theorem LR.pos {h lk : Nat} {D : DD} {hm : Nat} (lr : LR h lk rd m K I R) (sc : scC D h lk I) (z : R m 3 = some hm) : 1 ≤ D 0 7 := by
  rcases lr.2 with ⟨r3, -⟩ | ⟨hm2, r3, k2, m0, -⟩
  · rw [r3] at z; cases z
  · rw [← sc.2.2.2.2.2.1]; exact m0
/-- a call of the class that may work out courses, then one of the reference -/
theorem LC.two {h lk : Nat} {D : DD} {E : Nat → Nat → Int} {l1 l2 : List (Nat × Nat)} (hu : UU K R) (lb : LCb x h lk m D K I R) (rm : RdM E m I R) (lr : LR h lk rd m K I R) (hs : Sf K len I R) (kx : K x = 9) (km : K m = 11) (krd : K rd = 4) (kh : K h = 2) (klk : K lk = 3) (h1 : Fr K l1 I I1) (h2 : Fr K l2 I1 I2) (kc : KC D E x h lk rd I1 R) (v1 : okV l1 = true) (x1 : okX l1 = true) (z2 : okZ l2 = true) : LC x h lk rd m K I2 R := by
  have c1 : LC x h lk rd m K I1 R := ⟨hu, D, lb.mvT hu hs h1 kh klk v1 (fun hm lv z hv => (kc.2.2.1 (lr.pos lb.2.1 z)).2.2 lv hv), E, kc, rm.mv hs km h1 x1⟩
  exact c1.mv hs kx km krd h2 kh klk z2
/-- the reference's numbers behind a call of the class -/
theorem LC.mc {h lk : Nat} {D : DD} {E : Nat → Nat → Int} (lb : LCb x h lk m D K I R) (kc : KC D E x h lk rd I R) (rm : RdM E m I R) (lr : LR h lk rd m K I R) (hs : Sf K len I R) (km : K m = 11) (hF : Fr K l I I1) (ho : okN l = true) : ∀ hm, R m 3 = some hm → MC D E m hm I1 R := fun hm z => by
  obtain ⟨z1, z2, z3, z4, z5⟩ := lb.2.2 hm z
  have p := lr.pos lb.2.1 z
  exact MC.mv (I := I) ⟨⟨z2, (kc.2.2.1 p).2.1, p⟩, z3, z4, rm, fun j hj => kc.2.2.2.2.2 j (by rw [lr.1]; exact hj)⟩ hs km z1 hF ho
theorem KC.toR {h lk : Nat} {D : DD} {E : Nat → Nat → Int} (hc : KC D E x h lk rd I R) (ka : KA x h lk rd K len R) (e4 : ∀ k, k = 4 ∨ k = 5 ∨ k = 6 → R2 x k = R x k) (e : ∀ b k, K b = 1 ∨ K b = 2 ∨ K b = 3 ∨ K b = 4 ∨ K b = 44 ∨ K b = 45 → R2 b k = R b k) (rt : RW (CC h lk R2) (cntN D) D I) : KC D E x h lk rd I R2 := by
  obtain ⟨⟨I0, hs⟩, hu, kx, kh, klk, krd⟩ := ka
  obtain ⟨c1, c2, c3, c4, c5, c6⟩ := hc
  refine ⟨rt, c2, fun z => ⟨(c3 z).1, (c3 z).2.1, fun lv hlv => (c3 z).2.2 lv (by rw [← e4 4 (by decide)]; exact hlv)⟩, fun kn cr s c g1 g2 g3 g4 g5 g7 => ?_, fun r j a hr ha hj => c5 r j a hr (by rw [← e rd (r + 1) (by omega)]; exact ha) hj, c6⟩
  rw [e4 6 (by decide)] at g1
  rw [e4 5 (by decide)] at g2
  have k5 : K cr = 44 := refK hs (n := 6) kx (by decide) g2
  rw [e cr s (by omega)] at g4
  have kc := (kcr hs kx g2 g3 g4).2
  obtain ⟨d1, d2⟩ := c4 kn cr s c g1 g2 g3 g4 g5 g7
  exact ⟨fun sr ir wr tr y0 y1 y2 y3 => d1 sr ir wr tr (by rw [← e c 0 (by omega)]; exact y0) (by rw [← e c 1 (by omega)]; exact y1) (by rw [← e c 2 (by omega)]; exact y2) (by rw [← e c 3 (by omega)]; exact y3), d2⟩
/-- what was READ has changed -/
def qR (y : Nat) : Bool := qK y && !(y == 4) && !(y == 46) && !(y == 47) && !(y == 65) && !(y == 66)
theorem qR_big : ∀ y, 1000 ≤ y → qR y = true → qR 1000 = true := by
  intro y hy h; simp only [qR, qK, qC, Bool.or_eq_true, Bool.and_eq_true, beq_iff_eq, Nat.ble_eq, Bool.not_eq_true', beq_eq_false_iff_ne] at h; omega
def qW (y : Nat) : Bool := y == 1 || (Nat.ble 50 y && Nat.ble y 53)
theorem qW_big : ∀ y, 1000 ≤ y → qW y = true → qW 1000 = true := by
  intro y hy h; simp only [qW, Bool.or_eq_true, Bool.and_eq_true, beq_iff_eq, Nat.ble_eq] at h; omega
def qY (y : Nat) : Bool := y == 46 || y == 47 || y == 65 || y == 66
theorem qY_big : ∀ y, 1000 ≤ y → qY y = true → qY 1000 = true := by
  intro y hy h; simp only [qY, Bool.or_eq_true, beq_iff_eq] at h; omega
theorem Fr.crs (hF : Fr K l I I1) (ho : okQ qW l = true) : ∀ a k, K a = 1 ∨ (50 ≤ K a ∧ K a ≤ 53) → I1 a k = I a k := fun a k z => hF.get rfl (okQ_in ho qW_big (by simp only [qW, Bool.or_eq_true, Bool.and_eq_true, beq_iff_eq, Nat.ble_eq]; exact z) k)
theorem Fr.rrow (hF : Fr K l I I1) {I0 : Nat → Nat → Int32} (hs : Sf K len I0 R) (krd : K rd = 4) (ho : okQ qY l = true) : ∀ a k, (∃ r, r < 4 ∧ R rd (r + 1) = some a) → I1 a k = I a k := fun a k ⟨r, hr, ha⟩ => hF.get rfl (okQ_in ho qY_big (by have := rk4 hs krd hr ha; simp only [qY, Bool.or_eq_true, beq_iff_eq]; omega) k)
theorem mf_q {q : Nat → Bool} (hf : ∀ b k, K b ≠ 0 → inS l (K b) k = false → I2 b k = I1 b k) (ho : okQ q l = true) (hb : ∀ y, 1000 ≤ y → q y = true → q 1000 = true) (q0 : q 0 = false) : ∀ b k, q (K b) = true → I2 b k = I1 b k := fun b k z => hf b k (fun y => by rw [y, q0] at z; cases z) (okQ_in ho hb z k)
theorem q_W {y : Nat} (h : y = 1 ∨ (50 ≤ y ∧ y ≤ 53)) : qW y = true := by simp only [qW, Bool.or_eq_true, Bool.and_eq_true, beq_iff_eq, Nat.ble_eq]; exact h
theorem q_Y {I0 : Nat → Nat → Int32} (hs : Sf K len I0 R) (krd : K rd = 4) {a : Nat} (h : ∃ r, r < 4 ∧ R rd (r + 1) = some a) : qY (K a) = true := by
  obtain ⟨r, hr, ha⟩ := h
  have := rk4 hs krd hr ha; simp only [qY, Bool.or_eq_true, beq_iff_eq]; omega
theorem KC.rdx {h lk : Nat} {D : DD} {E E' : Nat → Nat → Int} (hc : KC D E x h lk rd I R) (ka : KA x h lk rd K len R) (hF : Fr K l I I1) (ho : okQ qR l = true) (hr : RdC D E' rd I1 R) : KC D E' x h lk rd I1 R := by
  obtain ⟨⟨I0, hs⟩, hu, kx, kh, klk, krd⟩ := id ka
  obtain ⟨c1, c2, c3, c4, c5⟩ := hc
  have no : ∀ a q, K a = q → qR q = true → ∀ k, I1 a k = I a k := fun a q h1 h4 k => hF.get h1 (okQ_in ho qR_big h4 k)
  have eh := no h 2 kh rfl
  have el := no lk 3 klk rfl
  refine ⟨c1.eq (fun r j a k hC => ?_), ?_, fun z => ⟨(c3 z).1, (c3 z).2.1, fun lv hlv j hj => ?_⟩, KN.eq c4 ka (fun a k z => ?_) (fun kn hkn j => ?_), hr⟩
  · have hq := (CC_x hs kh klk hu).1 r j a k hC
    refine no a (K a) rfl ?_ k
    simp only [qR, qK, qC, Bool.or_eq_true, Bool.and_eq_true, beq_iff_eq, Nat.ble_eq, Bool.not_eq_true', beq_eq_false_iff_ne] at hq ⊢
    omega
  · unfold scC; simp only [eh, el]; exact c2
  · rw [no lv 41 (refK hs (n := 60) kx (by decide) hlv) rfl]; exact (c3 z).2.2 lv hlv j hj
  · refine no a (K a) rfl ?_ k
    simp only [qR, qK, Bool.or_eq_true, Bool.and_eq_true, beq_iff_eq, Nat.ble_eq, Bool.not_eq_true', beq_eq_false_iff_ne]; omega
  · exact no kn 43 (refK hs (n := 6) kx (by decide) hkn) rfl j
theorem RdC.sm {D : DD} {E : Nat → Nat → Int} {I0 : Nat → Nat → Int32} (h : RdC D E rd I R) (hs : Sf K len I0 R) (krd : K rd = 4) (e : ∀ b k, (K b = 46 ∨ K b = 47 ∨ K b = 65 ∨ K b = 66) → I1 b k = I b k) (ec : (I1 rd 0).toInt = (I rd 0).toInt) : RdC D E rd I1 R :=
  ⟨fun r j a hr ha hj => by rw [ec] at hj; rw [e a j (rk4 hs krd hr ha)]; exact h.1 r j a hr ha hj, fun j hj => by rw [ec] at hj; exact h.2 j hj⟩
theorem RdC.ad {D : DD} {E : Nat → Nat → Int} {c p d i u : Int} (h : RdC D E rd I R) (hc : (I rd 0).toInt = c) (h0 : 0 ≤ c) (ec : (I1 rd 0).toInt = c + 1) (hA : RdA 1 (apE E c.toNat p d i u) rd I1 R (c + 1)) (b0 : 0 ≤ p ∧ p < D 0 5) (b1 : 0 ≤ d ∧ d ≤ 59) (b2 : 0 ≤ i ∧ i ≤ 99999) (b3 : 0 ≤ u ∧ u ≤ 999) : RdC D (apE E c.toNat p d i u) rd I1 R := by
  refine ⟨fun r j a hr ha hj => hA r j a hr ha (by rw [ec] at hj; exact hj), fun j hj => ?_⟩
  rw [ec] at hj
  by_cases hjc : j = c.toNat
  · subst hjc; unfold EBj; rw [apE_0, apE_1, apE_2, apE_3]; exact ⟨b0, b1, b2, b3⟩
  · have h1 := h.2 j (by omega)
    unfold EBj at h1 ⊢; rw [apE_n hjc, apE_n hjc, apE_n hjc, apE_n hjc]; exact h1
theorem RW.toR {h lk : Nat} {N : Nat → Int} {D : DD} {I0 : Nat → Nat → Int32} (hr : RW (CC h lk R) N D I) (hs : Sf K len I0 R) (kh : K h = 2) (klk : K lk = 3) (e : ∀ b k, K b = 2 ∨ K b = 3 ∨ K b = 45 → R2 b k = R b k) : RW (CC h lk R2) N D I := by
  intro r j a k hC
  refine hr r j a k ?_
  rcases hC with ⟨o, f, h1, h2, h3⟩ | ⟨h1, h2, h3, sa, h4, h5⟩
  · refine Or.inl ⟨o, f, h1, ?_, h3⟩
    cases o
    · exact (e lk f (Or.inr (Or.inl klk))).symm.trans h2
    · exact (e h f (Or.inl kh)).symm.trans h2
  · have h4' : R h 7 = some sa := (e h 7 (Or.inl kh)).symm.trans h4
    have ksa := refK hs (n := 6) (t := 45) kh (by decide) h4'
    exact Or.inr ⟨h1, h2, h3, sa, h4', (e sa j (Or.inr (Or.inr ksa))).symm.trans h5⟩
theorem RW.toRM {rm : Nat} {N : Nat → Int} {D : DD} (hr : RW (CM rm R) N D I) (e : ∀ k, R2 rm k = R rm k) : RW (CM rm R2) N D I := fun r j a k hC => hr r j a k ⟨hC.1, hC.2.1, hC.2.2.1, (e _).symm.trans hC.2.2.2⟩
theorem q0C {q : Nat} (h : qC q = true) : q ≠ 0 := fun z => by rw [z] at h; exact absurd h (by decide)
/-- plan() of both, undo() of both: the numbers -/
theorem LCb.step {h lk : Nat} {D D' : DD} {lA lB : List (Nat × Nat)} (hs : Sf K len I R) (kh : K h = 2) (klk : K lk = 3) (hu : UU K R) (scd : scC D h lk I) (hA : Fr K lA I I1) (hB : Fr K lB I1 I2)
    (a1 : inS lA 3 1 = false) (a2 : inS lA 3 2 = false) (a3 : inS lA 3 3 = false) (aH : ∀ k, inS lA 2 k = false) (aM : ∀ k, inS lA 10 k = false) (bH : ∀ k, inS lB 2 k = false) (bL : ∀ k, inS lB 3 k = false) (bq : okQ qC lB = true) (b0 : inS lB 10 0 = false) (b1 : inS lB 10 1 = false) (b2 : inS lB 10 2 = false) (b3 : inS lB 10 3 = false) (b7 : inS lB 10 7 = false) (b8 : inS lB 10 8 = false) (b9 : inS lB 10 9 = false) (kx : K x = 9) (b41 : ∀ k, inS lB 41 k = false)
    (hD : ∀ k, k ≠ 4 → D' 0 k = D 0 k) (rwc : RW (CC h lk R) (cntN D') D' I1) (l4 : (I1 lk 4).toInt = D' 0 4) (hh : ∀ hm, R m 3 = some hm → K hm = 10 ∧ DJ D' ∧ RW (CM hm R) (cntN D') D' I2 ∧ scM D hm I ∧ (I2 hm 4).toInt = D' 0 4 ∧ ∀ lv, R x 4 = some lv → LvR D' lv I1) : LCb x h lk m D' K I2 R := by
  obtain ⟨s1, s2, s3, s4, s5, s7, s8, s9⟩ := scd
  refine ⟨rwc.mv (CC_x hs kh klk hu) qC_big hB bq, ⟨?_, ?_, ?_, ?_, ?_, ?_, ?_, ?_⟩, fun hm z => ?_⟩
  · rw [hB.get klk (bL 1), hA.get klk a1, hD 1 (by decide)]; exact s1
  · rw [hB.get klk (bL 2), hA.get klk a2, hD 2 (by decide)]; exact s2
  · rw [hB.get klk (bL 3), hA.get klk a3, hD 3 (by decide)]; exact s3
  · rw [hB.get klk (bL 4)]; exact l4
  · rw [hB.get kh (bH 1), hA.get kh (aH 1), hD 5 (by decide)]; exact s5
  · rw [hB.get kh (bH 6), hA.get kh (aH 6), hD 7 (by decide)]; exact s7
  · rw [hB.get kh (bH 8), hA.get kh (aH 8), hD 8 (by decide)]; exact s8
  · rw [hB.get kh (bH 12), hA.get kh (aH 12), hD 9 (by decide)]; exact s9
  · obtain ⟨z1, z2, z3, ⟨t0, t1, t2, t4, t3, t7, t8, t9⟩, z5, z6⟩ := hh hm z
    refine ⟨z1, z2, z3, ⟨?_, ?_, ?_, z5, ?_, ?_, ?_, ?_⟩, fun lv hv => (z6 lv hv).eq (fun j => hB.get (refK hs (n := 60) kx (by decide) hv) (b41 j))⟩
    · rw [hB.get z1 b0, hA.get z1 (aM 0), hD 1 (by decide)]; exact t0
    · rw [hB.get z1 b1, hA.get z1 (aM 1), hD 2 (by decide)]; exact t1
    · rw [hB.get z1 b2, hA.get z1 (aM 2), hD 3 (by decide)]; exact t2
    · rw [hB.get z1 b3, hA.get z1 (aM 3), hD 5 (by decide)]; exact t3
    · rw [hB.get z1 b7, hA.get z1 (aM 7), hD 7 (by decide)]; exact t7
    · rw [hB.get z1 b8, hA.get z1 (aM 8), hD 8 (by decide)]; exact t8
    · rw [hB.get z1 b9, hA.get z1 (aM 9), hD 9 (by decide)]; exact t9
theorem eq_two {C : Prop} {a r8 r10 : Int} (k8 : (C ∧ r8 = a) ∨ (¬ C ∧ r8 = -1)) (k10 : (C ∧ r10 = a) ∨ (¬ C ∧ r10 = -1)) : r8 = r10 := by
  rcases k8 with ⟨h1, h2⟩ | ⟨h1, h2⟩
  · rcases k10 with ⟨h3, h4⟩ | ⟨h3, h4⟩
    · rw [h2, h4]
    · exact absurd h1 h3
  · rcases k10 with ⟨h3, h4⟩ | ⟨h3, h4⟩
    · exact absurd h3 h1
    · rw [h2, h4]
/-- two calls that refuse or answer -/
theorem LBV.ref (la : LA x m o tp bt te tk nr pr rd mt K len R) (lb : LB tp bt mt I) (lv : LV x m tp te I) (h1 : Fr K l1 I I1) (h2 : Fr K l2 I1 I2) (o1 : okL l1 = true) (o2 : okL l2 = true) (o3 : inS l2 9 12 = false) (t4 : (I1 x 12).toInt ≠ 4) (w1 : (I2 m 2).toInt = -1) : LB tp bt mt I2 ∧ LV x m tp te I2 := by
  obtain ⟨kx, km, -, ⟨-, ktp⟩, ⟨-, kbt, -⟩, ⟨-, kte⟩, -, -, -, -, -, -, kmt, -⟩ := id la
  refine ⟨(lb.mv h1 ktp kbt kmt o1).mv h2 ktp kbt kmt o2, ?_⟩
  simp only [okL, Bool.and_eq_true, Bool.not_eq_true'] at o1 o2
  obtain ⟨⟨⟨⟨⟨i1, i2⟩, i3⟩, i4⟩, i5⟩, -⟩ := o1
  obtain ⟨⟨⟨⟨⟨j1, j2⟩, j3⟩, j4⟩, j5⟩, -⟩ := o2
  refine ⟨?_, ?_, fun z => ?_, fun _ => w1⟩
  · rw [h2.get ktp j1, h1.get ktp i1, h2.get km j4, h1.get km i4]; exact lv.1
  · rw [h2.get kte j2, h1.get kte i2, h2.get km j5, h1.get km i5]; exact lv.2.1
  · rw [h2.get kx o3] at z; exact absurd z t4
theorem LBV.sil (la : LA x m o tp bt te tk nr pr rd mt K len R) (lb : LB tp bt mt I) (lv : LV x m tp te I) (h1 : Fr K l1 I I1) (h2 : Fr K l2 I1 I2) (o1 : okL l1 = true) (o2 : okL l2 = true) (o3 : inS l2 9 12 = false) (o4 : inS l1 9 12 = false) (o5 : inS l2 11 2 = false) (o6 : inS l1 11 2 = false) : LB tp bt mt I2 ∧ LV x m tp te I2 := by
  obtain ⟨kx, km, -, ⟨-, ktp⟩, ⟨-, kbt, -⟩, ⟨-, kte⟩, -, -, -, -, -, -, kmt, -⟩ := id la
  refine ⟨(lb.mv h1 ktp kbt kmt o1).mv h2 ktp kbt kmt o2, ?_⟩
  simp only [okL, Bool.and_eq_true, Bool.not_eq_true'] at o1 o2
  obtain ⟨⟨⟨⟨⟨i1, i2⟩, i3⟩, i4⟩, i5⟩, -⟩ := o1
  obtain ⟨⟨⟨⟨⟨j1, j2⟩, j3⟩, j4⟩, j5⟩, -⟩ := o2
  unfold LV
  rw [h2.get ktp j1, h1.get ktp i1, h2.get km j4, h1.get km i4, h2.get kte j2, h1.get kte i2, h2.get km j5, h1.get km i5, h2.get kx o3, h1.get kx o4, h2.get km o5, h1.get km o6, h2.get kte j3, h1.get kte i3]
  exact lv
theorem LI.ref (h : LI x m o tp bt te tk nr pr rd mt K len I R) (hs : Sf K len I2 R) (h1 : Fr K l1 I I1) (h2 : Fr K l2 I1 I2) (o1 : okL l1 = true) (o2 : okL l2 = true) (q1 : okW l1 = true) (q2 : okW l2 = true) (v1 : okZ l1 = true) (v2 : okZ l2 = true) (o3 : inS l2 9 12 = false) (t4 : (I1 x 12).toInt ≠ 4) (w1 : (I2 m 2).toInt = -1) : LI x m o tp bt te tk nr pr rd mt K len I2 R := by
  obtain ⟨hs0, la, ⟨h, s, lk, ls, lh, lr, lc⟩, lb, lv⟩ := h
  have km : K m = 11 := la.2.1
  have krd : K rd = 4 := la.2.2.2.2.2.2.2.2.2.2.1.2
  exact ⟨hs, la, ⟨h, s, lk, ls, lh, (lr.mv h1 lh.1.2 lh.2.2.1.2 krd km q1).mv h2 lh.1.2 lh.2.2.1.2 krd km q2, (lc.mv hs0 la.1 km krd h1 lh.1.2 lh.2.2.1.2 v1).mv hs0 la.1 km krd h2 lh.1.2 lh.2.2.1.2 v2⟩, LBV.ref la lb lv h1 h2 o1 o2 o3 t4 w1⟩
theorem LI.sil (h : LI x m o tp bt te tk nr pr rd mt K len I R) (hs : Sf K len I2 R) (h1 : Fr K l1 I I1) (h2 : Fr K l2 I1 I2) (o1 : okL l1 = true) (o2 : okL l2 = true) (q1 : okW l1 = true) (q2 : okW l2 = true) (v1 : okZ l1 = true) (v2 : okZ l2 = true) (o3 : inS l2 9 12 = false) (o4 : inS l1 9 12 = false) (o5 : inS l2 11 2 = false) (o6 : inS l1 11 2 = false) : LI x m o tp bt te tk nr pr rd mt K len I2 R := by
  obtain ⟨hs0, la, ⟨h, s, lk, ls, lh, lr, lc⟩, lb, lv⟩ := h
  have km : K m = 11 := la.2.1
  have krd : K rd = 4 := la.2.2.2.2.2.2.2.2.2.2.1.2
  exact ⟨hs, la, ⟨h, s, lk, ls, lh, (lr.mv h1 lh.1.2 lh.2.2.1.2 krd km q1).mv h2 lh.1.2 lh.2.2.1.2 krd km q2, (lc.mv hs0 la.1 km krd h1 lh.1.2 lh.2.2.1.2 v1).mv hs0 la.1 km krd h2 lh.1.2 lh.2.2.1.2 v2⟩, LBV.sil la lb lv h1 h2 o1 o2 o3 o4 o5 o6⟩
theorem LA.mv (h : LA x m o tp bt te tk nr pr rd mt K len R) (hK : ∀ b, K b ≠ 0 → K2 b = K b ∧ len2 b = len b) (hR : ∀ b k, K b ≠ 0 → ¬ (K b = 9 ∧ (k = 2 ∨ k = 3)) → ¬ (K b = 11 ∧ (k = 3 ∨ k = 4)) → R2 b k = R b k) : LA x m o tp bt te tk nr pr rd mt K2 len2 R2 := by
  obtain ⟨kx, km, ⟨ko, no⟩, ⟨htp, ktp⟩, ⟨hbb, kbt, nbt⟩, ⟨hte, kte⟩, ⟨htk, ktk⟩, hbt, ⟨hnr, knr, lnr⟩, ⟨hpr, kpr, lpr⟩, ⟨hrd, krd⟩, ⟨hmt, kmt, nmt⟩⟩ := h
  have k : ∀ b q, K b = q → q ≠ 0 → K2 b = q := fun b q h1 h2 => (hK b (by rw [h1]; exact h2)).1.trans h1
  have n : ∀ b q v, K b = q → q ≠ 0 → len b = v → len2 b = v := fun b q v h1 h2 h3 => (hK b (by rw [h1]; exact h2)).2.trans h3
  have r : ∀ b q j v, K b = q → q ≠ 0 → ¬ (q = 9 ∧ (j = 2 ∨ j = 3)) → ¬ (q = 11 ∧ (j = 3 ∨ j = 4)) → R b j = v → R2 b j = v := fun b q j v h1 h2 h3 h4 h5 => (hR b j (by rw [h1]; exact h2) (by rw [h1]; exact h3) (by rw [h1]; exact h4)).trans h5
  exact ⟨k x 9 kx (by decide), k m 11 km (by decide), ⟨k o 42 ko (by decide), n o 42 1 ko (by decide) no⟩, ⟨r x 9 0 _ kx (by decide) (by decide) (by decide) htp, k tp 6 ktp (by decide)⟩, ⟨r tp 6 0 _ ktp (by decide) (by decide) (by decide) hbb, k bt 40 kbt (by decide), n bt 40 900 kbt (by decide) nbt⟩, ⟨r x 9 1 _ kx (by decide) (by decide) (by decide) hte, k te 7 kte (by decide)⟩, ⟨r te 7 0 _ kte (by decide) (by decide) (by decide) htk, k tk 8 ktk (by decide)⟩, r tk 8 0 _ ktk (by decide) (by decide) (by decide) hbt, ⟨r te 7 1 _ kte (by decide) (by decide) (by decide) hnr, k nr 42 knr (by decide), n nr 42 19 knr (by decide) lnr⟩, ⟨r te 7 2 _ kte (by decide) (by decide) (by decide) hpr, k pr 48 kpr (by decide), n pr 48 5 kpr (by decide) lpr⟩, ⟨r x 9 9 _ kx (by decide) (by decide) (by decide) hrd, k rd 4 krd (by decide)⟩, ⟨r m 11 5 _ km (by decide) (by decide) (by decide) hmt, k mt 49 kmt (by decide), n mt 49 900 kmt (by decide) nmt⟩⟩
theorem in_92 {q k : Nat} (h : ¬ (q = 9 ∧ (k = 2 ∨ k = 3))) : inS [(9, 2), (9, 3)] q k = false := by
  apply Classical.byContradiction; intro hc
  rw [Bool.not_eq_false] at hc
  obtain ⟨e, he, h1⟩ := List.any_eq_true.mp hc
  simp only [Bool.and_eq_true, Bool.or_eq_true, beq_iff_eq, Nat.ble_eq, List.mem_cons, List.not_mem_nil, or_false] at h1 he
  rcases he with rfl | rfl <;> simp at h1 <;> omega
theorem in_113 {q k : Nat} (h : ¬ (q = 11 ∧ (k = 3 ∨ k = 4))) : inS [(11, 3), (11, 4)] q k = false := by
  apply Classical.byContradiction; intro hc
  rw [Bool.not_eq_false] at hc
  obtain ⟨e, he, h1⟩ := List.any_eq_true.mp hc
  simp only [Bool.and_eq_true, Bool.or_eq_true, beq_iff_eq, Nat.ble_eq, List.mem_cons, List.not_mem_nil, or_false] at h1 he
  rcases he with rfl | rfl <;> simp at h1 <;> omega
/-- both took twenty bytes, or neither did -/
theorem LB.feed {f : Nat → Int} {N : Nat} (h : LB tp bt mt I) (hN : (I tp 1).toInt = N) (h1 : BS bt N f 20 I I1) (e1 : I1 mt = I mt) (h2 : BS mt N f 20 I1 I2) (e2 : I2 bt = I1 bt) (hl : (I2 tp 1).toInt = (N : Int) + 20) (hr : ∀ k, -128 ≤ f k ∧ f k ≤ 127) : LB tp bt mt I2 := by
  intro j hj
  by_cases hjn : j < N
  · obtain ⟨g1, g2, g3⟩ := h j (by omega)
    rw [h2.1 j hjn, e1, e2, h1.1 j hjn]
    exact ⟨g1, g2, g3⟩
  · have a1 := h1.2 (j - N) (by omega)
    have a2 := h2.2 (j - N) (by omega)
    rw [show N + (j - N) = j by omega] at a1 a2
    have hf := hr (j - N)
    rw [e2]
    exact ⟨Int32.toInt_inj.mp (by rw [a1, a2]), by omega, by omega⟩
end LINV
theorem pos7 {d : Int} (h0 : 0 ≤ d) (h1 : d ≠ 0) : 1 ≤ d := by omega
theorem int_plan {h6 d v f8 f8' p8 p8' r8 f10 f10' r10 t10 : Int} (hk : 1 ≤ h6) (hf : f8 = f10) (hp : p8 = f10 - t10) (k8 : ((h6 ≠ 0 ∧ 0 ≤ d ∧ d ≤ 59 ∧ 0 ≤ v ∧ v ≤ 999 ∧ f8 < 16) ∧ r8 = f8 + 1 ∧ f8' = f8 + 1 ∧ p8' = p8 + 1) ∨ (¬ (h6 ≠ 0 ∧ 0 ≤ d ∧ d ≤ 59 ∧ 0 ≤ v ∧ v ≤ 999 ∧ f8 < 16) ∧ r8 = -1 ∧ f8' = f8 ∧ p8' = p8)) (k10 : ((0 ≤ d ∧ d ≤ 59 ∧ 0 ≤ v ∧ v ≤ 999 ∧ f10 < 16) ∧ r10 = f10 + 1 ∧ f10' = f10 + 1) ∨ (¬ (0 ≤ d ∧ d ≤ 59 ∧ 0 ≤ v ∧ v ≤ 999 ∧ f10 < 16) ∧ r10 = -1 ∧ f10' = f10)) : r8 = r10 ∧ f8' = f10' ∧ p8' = f10' - t10 := by omega
theorem int_planN {h6 d v f8 f8' p8 p8' r8 : Int} (hk : h6 = 0) (k8 : ((h6 ≠ 0 ∧ 0 ≤ d ∧ d ≤ 59 ∧ 0 ≤ v ∧ v ≤ 999 ∧ f8 < 16) ∧ r8 = f8 + 1 ∧ f8' = f8 + 1 ∧ p8' = p8 + 1) ∨ (¬ (h6 ≠ 0 ∧ 0 ≤ d ∧ d ≤ 59 ∧ 0 ≤ v ∧ v ≤ 999 ∧ f8 < 16) ∧ r8 = -1 ∧ f8' = f8 ∧ p8' = p8)) : r8 = -1 ∧ f8' = f8 ∧ p8' = p8 := by omega
theorem int_undo {p8 p8' f8 f8' r8 f10 f10' t10 r10 : Int} (hf : f8 = f10) (hp : p8 = f10 - t10) (ht : t10 ≤ f10) (k8 : (0 < p8 ∧ r8 = 1 ∧ f8' = f8 - 1 ∧ p8' = p8 - 1) ∨ (p8 ≤ 0 ∧ r8 = 0 ∧ f8' = f8 ∧ p8' = p8)) (k10 : (f10 ≠ t10 ∧ r10 = 1 ∧ f10' = f10 - 1) ∨ (f10 = t10 ∧ r10 = 0 ∧ f10' = f10)) : r8 = r10 ∧ f8' = f10' ∧ p8' = f10' - t10 := by omega
theorem int_undoN {p8 p8' f8 f8' r8 : Int} (hp : p8 = 0) (k8 : (0 < p8 ∧ r8 = 1 ∧ f8' = f8 - 1 ∧ p8' = p8 - 1) ∨ (p8 ≤ 0 ∧ r8 = 0 ∧ f8' = f8 ∧ p8' = p8)) : r8 = 0 ∧ f8' = f8 ∧ p8' = p8 := by omega
theorem int_read {p d i o h1 m3 c8 c8' r8 c10 c10' r10 : Int} (hp : h1 = m3) (hc : c8 = c10) (k8 : ((0 ≤ p ∧ p < h1 ∧ 0 ≤ d ∧ d ≤ 59 ∧ 0 ≤ i ∧ i ≤ 99999 ∧ 0 ≤ o ∧ o ≤ 999 ∧ c8 < 24) ∧ r8 = c8 + 1 ∧ c8' = c8 + 1) ∨ (¬ (0 ≤ p ∧ p < h1 ∧ 0 ≤ d ∧ d ≤ 59 ∧ 0 ≤ i ∧ i ≤ 99999 ∧ 0 ≤ o ∧ o ≤ 999 ∧ c8 < 24) ∧ r8 = -1 ∧ c8' = c8)) (k10 : ((0 ≤ p ∧ p < m3 ∧ 0 ≤ d ∧ d ≤ 59 ∧ 0 ≤ i ∧ i ≤ 99999 ∧ 0 ≤ o ∧ o ≤ 999 ∧ c10 < 24) ∧ r10 = c10 + 1 ∧ c10' = c10 + 1) ∨ (¬ (0 ≤ p ∧ p < m3 ∧ 0 ≤ d ∧ d ≤ 59 ∧ 0 ≤ i ∧ i ≤ 99999 ∧ 0 ≤ o ∧ o ≤ 999 ∧ c10 < 24) ∧ r10 = -1 ∧ c10' = c10)) : r8 = r10 ∧ c8' = c10' := by omega
theorem int_readN {p d i o h1 c8 c8' r8 : Int} (hp : h1 = 0) (k8 : ((0 ≤ p ∧ p < h1 ∧ 0 ≤ d ∧ d ≤ 59 ∧ 0 ≤ i ∧ i ≤ 99999 ∧ 0 ≤ o ∧ o ≤ 999 ∧ c8 < 24) ∧ r8 = c8 + 1 ∧ c8' = c8 + 1) ∨ (¬ (0 ≤ p ∧ p < h1 ∧ 0 ≤ d ∧ d ≤ 59 ∧ 0 ≤ i ∧ i ≤ 99999 ∧ 0 ≤ o ∧ o ≤ 999 ∧ c8 < 24) ∧ r8 = -1 ∧ c8' = c8)) : r8 = -1 ∧ c8' = c8 := by omega

