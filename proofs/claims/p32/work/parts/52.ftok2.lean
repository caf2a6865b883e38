noncomputable def pif {α : Type} (c : Prop) (a b : α) : α := @ite α c (Classical.propDecidable c) a b
theorem pif_t {α : Type} {c : Prop} {a b : α} (h : c) : pif c a b = a := @if_pos c (Classical.propDecidable c) h α a b
theorem pif_f {α : Type} {c : Prop} {a b : α} (h : ¬ c) : pif c a b = b := @if_neg c (Classical.propDecidable c) h α a b
abbrev ER (α : Type) : Type := Except (Int × Nat) α
def bnd {α β : Type} (x : ER α) (f : α → ER β) : ER β := match x with
  | .error e => .error e
  | .ok a => f a
theorem bnd_ok {α β : Type} {a : α} {f : α → ER β} : bnd (.ok a) f = f a := rfl
theorem bnd_er {α β : Type} {e : Int × Nat} {f : α → ER β} : bnd (.error e) f = .error e := rfl
noncomputable def sWhole (B : Nat → Int) (n p : Nat) (lo hi : Int) : ER (Int × Nat) := pif (kd B n p = 2) (pif (vl B n p < lo ∨ hi < vl B n p) (.error (4, pl B n p)) (.ok (vl B n p, nx B n p))) (.error (1, pl B n p))
noncomputable def sNum (B : Nat → Int) (n p i : Nat) (lo hi : Int) : ER (Int × Nat) := pif (isW B n p i) (sWhole B n (nx B n p) lo hi) (.error (1, pl B n p))
def isNm (B : Nat → Int) (n p : Nat) : Prop := kd B n p = 1 ∧ ¬ isW B n p 0 ∧ ¬ isW B n p 4 ∧ ¬ isW B n p 5 ∧ ¬ isW B n p 6 ∧ ¬ isW B n p 7 ∧ ¬ isW B n p 8 ∧ ¬ isW B n p 9
noncomputable def sKind (B : Nat → Int) (n p : Nat) : Int := pif (isW B n p 15) 0 (pif (isW B n p 16) 1 (pif (isW B n p 17) 2 (pif (isW B n p 18) 3 (pif (isW B n p 19) 4 (pif (isW B n p 20) 5 (-1))))))
theorem lgc_lt {x y : Int64} (h : (lg_cmp x y).toInt < 0) : x.toInt < y.toInt := by
  apply Classical.byContradiction; intro hc
  have h1 : ¬ x < y := fun z => hc (Int64.lt_iff_toInt_lt.mp z)
  by_cases h2 : y < x
  · have e : lg_cmp x y = 1 := by simp [lg_cmp, h2]
    rw [e] at h; exact absurd h (by decide)
  · have e3 : x = y := Int64.toInt_inj.mp (by have := mt Int64.lt_iff_toInt_lt.mpr h1; have := mt Int64.lt_iff_toInt_lt.mpr h2; omega)
    have e : lg_cmp x y = 0 := by subst e3; simp [lg_cmp]
    rw [e] at h; exact absurd h (by decide)
theorem lgc_gt {x y : Int64} (h : 0 < (lg_cmp x y).toInt) : y.toInt < x.toInt := by
  apply Classical.byContradiction; intro hc
  have h1 : ¬ y < x := fun z => hc (Int64.lt_iff_toInt_lt.mp z)
  by_cases h2 : x < y
  · have hne : ¬ x = y := fun d => by rw [d] at h2; have := Int64.lt_iff_toInt_lt.mp h2; omega
    have e : lg_cmp x y = -1 := by simp [lg_cmp, h1, hne]
    rw [e] at h; exact absurd h (by decide)
  · have e3 : x = y := Int64.toInt_inj.mp (by have := mt Int64.lt_iff_toInt_lt.mpr h1; have := mt Int64.lt_iff_toInt_lt.mpr h2; omega)
    have e : lg_cmp x y = 0 := by subst e3; simp [lg_cmp]
    rw [e] at h; exact absurd h (by decide)
theorem lgc_eq {x y : Int64} (h : (lg_cmp x y).toInt = 0) : x.toInt = y.toInt := by
  have h1 := lgc_ge (by omega : 0 ≤ (lg_cmp x y).toInt); have h2 := lgc_le (by omega : (lg_cmp x y).toInt ≤ 0); omega
theorem lgc_ne {x y : Int64} (h : (lg_cmp x y).toInt ≠ 0) : x.toInt ≠ y.toInt := by
  intro z
  apply h
  rw [Int64.toInt_inj.mp z]; simp [lg_cmp]

set_option maxHeartbeats 4000000 in
set_option maxRecDepth 100000 in
theorem f_X7_isEnd (g : GG) (l : Launch) (K len : Nat → Nat) (I : Nat → Nat → Int32) (J : Nat → Nat → Int64) (R : Nat → Nat → Option Nat) (hs : Sf K len I R) (a0 : Nat) (ka0 : K a0 = 8) (B : Nat → Int) (n : Nat) (p : Nat) (tkc : TkC B n a0 p I J) : Ct g l yX7_isEnd cX7_isEnd 1 (Option.some Jvm.ClassFile.FieldType.boolean) rmX7_isEnd [.ref a0] (K, len, I, J, R) (pI0 (K, len, I, J, R) (fun r => (0 ≤ r.toInt) ∧ (r.toInt ≤ 1) ∧ (r.toInt = 1 ∧ kd B n p = 0 ∨ r.toInt = 0 ∧ kd B n p ≠ 0))) := by
  refine Ct_intro (by decide +kernel) (Nat.le_of_ble_eq_true rfl) (fun X hC hL hKK hNm hr hlk hQ => ?_)
  subst hL
  have hC : Cx g X cX7_isEnd "HillTap$Tokens" 1 rmX7_isEnd := hC
  show P g X 1 0 [(0, .ref a0)] [] 0 0 (K, len, I, J, R)
  have hF : Fr K [] I I := Fr.refl
  obtain ⟨tk3, tk4, tk2, tk1, tk5⟩ := tkc
  refine r_aload_n hC dX7_isEnd_0 0 rfl ?_
  refine r_geti hC 3 (ci := 7) rfl u7_in (by decide) mT_1_62 dX7_isEnd_1 ka0 rfl rfl (fun x1_ e1 => ?_)
  have f1 : x1_.toInt = (I a0 3).toInt := by rw [e1]
  refine r_if_ne hC (tgt := 11) dX7_isEnd_4 (by decide) (fun c2 => ?_) (fun c2 => ?_)
  · refine r_iconst hC (v := (0)) dX7_isEnd_11 (by decide) (by decide) (fun x3_ e3 t3 => ?_)
    exact r_iret hC hQ hlk hr (by rw [e3]; rfl) (by decide) (by decide) dX7_isEnd_12 ⟨_, rfl, rfl, ⟨(by omega), (by omega), (by omega)⟩⟩
  · refine r_iconst hC (v := (1)) dX7_isEnd_7 (by decide) (by decide) (fun x4_ e4 t4 => ?_)
    refine r_goto hC (tgt := 12) dX7_isEnd_8 (by decide) ?_
    exact r_iret hC hQ hlk hr (by rw [e4]; rfl) (by decide) (by decide) dX7_isEnd_12 ⟨_, rfl, rfl, ⟨(by omega), (by omega), (by omega)⟩⟩
set_option maxHeartbeats 4000000 in
set_option maxRecDepth 100000 in
theorem f_X7_isAnyWord (g : GG) (l : Launch) (K len : Nat → Nat) (I : Nat → Nat → Int32) (J : Nat → Nat → Int64) (R : Nat → Nat → Option Nat) (hs : Sf K len I R) (a0 : Nat) (ka0 : K a0 = 8) (B : Nat → Int) (n : Nat) (p : Nat) (tkc : TkC B n a0 p I J) : Ct g l yX7_isAnyWord cX7_isAnyWord 1 (Option.some Jvm.ClassFile.FieldType.boolean) rmX7_isAnyWord [.ref a0] (K, len, I, J, R) (pI0 (K, len, I, J, R) (fun r => (0 ≤ r.toInt) ∧ (r.toInt ≤ 1) ∧ (r.toInt = 1 ∧ kd B n p = 1 ∨ r.toInt = 0 ∧ kd B n p ≠ 1))) := by
  refine Ct_intro (by decide +kernel) (Nat.le_of_ble_eq_true rfl) (fun X hC hL hKK hNm hr hlk hQ => ?_)
  subst hL
  have hC : Cx g X cX7_isAnyWord "HillTap$Tokens" 1 rmX7_isAnyWord := hC
  show P g X 1 0 [(0, .ref a0)] [] 0 0 (K, len, I, J, R)
  have hF : Fr K [] I I := Fr.refl
  obtain ⟨tk3, tk4, tk2, tk1, tk5⟩ := tkc
  refine r_aload_n hC dX7_isAnyWord_0 0 rfl ?_
  refine r_geti hC 3 (ci := 7) rfl u7_in (by decide) mT_1_62 dX7_isAnyWord_1 ka0 rfl rfl (fun x1_ e1 => ?_)
  have f1 : x1_.toInt = (I a0 3).toInt := by rw [e1]
  refine r_iconst hC (v := (1)) dX7_isAnyWord_4 (by decide) (by decide) (fun x2_ e2 t2 => ?_)
  refine r_icmp_ne hC (tgt := 12) dX7_isAnyWord_5 (by decide) (fun c3 => ?_) (fun c3 => ?_)
  · refine r_iconst hC (v := (0)) dX7_isAnyWord_12 (by decide) (by decide) (fun x4_ e4 t4 => ?_)
    exact r_iret hC hQ hlk hr (by rw [e4]; rfl) (by decide) (by decide) dX7_isAnyWord_13 ⟨_, rfl, rfl, ⟨(by omega), (by omega), (by omega)⟩⟩
  · refine r_iconst hC (v := (1)) dX7_isAnyWord_8 (by decide) (by decide) (fun x5_ e5 t5 => ?_)
    refine r_goto hC (tgt := 13) dX7_isAnyWord_9 (by decide) ?_
    exact r_iret hC hQ hlk hr (by rw [e5]; rfl) (by decide) (by decide) dX7_isAnyWord_13 ⟨_, rfl, rfl, ⟨(by omega), (by omega), (by omega)⟩⟩
set_option maxHeartbeats 4000000 in
set_option maxRecDepth 100000 in
theorem f_X7_isWhole (g : GG) (l : Launch) (K len : Nat → Nat) (I : Nat → Nat → Int32) (J : Nat → Nat → Int64) (R : Nat → Nat → Option Nat) (hs : Sf K len I R) (a0 : Nat) (ka0 : K a0 = 8) (B : Nat → Int) (n : Nat) (p : Nat) (tkc : TkC B n a0 p I J) : Ct g l yX7_isWhole cX7_isWhole 1 (Option.some Jvm.ClassFile.FieldType.boolean) rmX7_isWhole [.ref a0] (K, len, I, J, R) (pI0 (K, len, I, J, R) (fun r => (0 ≤ r.toInt) ∧ (r.toInt ≤ 1) ∧ (r.toInt = 1 ∧ kd B n p = 2 ∨ r.toInt = 0 ∧ kd B n p ≠ 2))) := by
  refine Ct_intro (by decide +kernel) (Nat.le_of_ble_eq_true rfl) (fun X hC hL hKK hNm hr hlk hQ => ?_)
  subst hL
  have hC : Cx g X cX7_isWhole "HillTap$Tokens" 1 rmX7_isWhole := hC
  show P g X 1 0 [(0, .ref a0)] [] 0 0 (K, len, I, J, R)
  have hF : Fr K [] I I := Fr.refl
  obtain ⟨tk3, tk4, tk2, tk1, tk5⟩ := tkc
  refine r_aload_n hC dX7_isWhole_0 0 rfl ?_
  refine r_geti hC 3 (ci := 7) rfl u7_in (by decide) mT_1_62 dX7_isWhole_1 ka0 rfl rfl (fun x1_ e1 => ?_)
  have f1 : x1_.toInt = (I a0 3).toInt := by rw [e1]
  refine r_iconst hC (v := (2)) dX7_isWhole_4 (by decide) (by decide) (fun x2_ e2 t2 => ?_)
  refine r_icmp_ne hC (tgt := 12) dX7_isWhole_5 (by decide) (fun c3 => ?_) (fun c3 => ?_)
  · refine r_iconst hC (v := (0)) dX7_isWhole_12 (by decide) (by decide) (fun x4_ e4 t4 => ?_)
    exact r_iret hC hQ hlk hr (by rw [e4]; rfl) (by decide) (by decide) dX7_isWhole_13 ⟨_, rfl, rfl, ⟨(by omega), (by omega), (by omega)⟩⟩
  · refine r_iconst hC (v := (1)) dX7_isWhole_8 (by decide) (by decide) (fun x5_ e5 t5 => ?_)
    refine r_goto hC (tgt := 13) dX7_isWhole_9 (by decide) ?_
    exact r_iret hC hQ hlk hr (by rw [e5]; rfl) (by decide) (by decide) dX7_isWhole_13 ⟨_, rfl, rfl, ⟨(by omega), (by omega), (by omega)⟩⟩
set_option maxHeartbeats 4000000 in
set_option maxRecDepth 100000 in
theorem f_X7_isSemicolon (g : GG) (l : Launch) (K len : Nat → Nat) (I : Nat → Nat → Int32) (J : Nat → Nat → Int64) (R : Nat → Nat → Option Nat) (hs : Sf K len I R) (a0 : Nat) (ka0 : K a0 = 8) (B : Nat → Int) (n : Nat) (p : Nat) (tkc : TkC B n a0 p I J) : Ct g l yX7_isSemicolon cX7_isSemicolon 1 (Option.some Jvm.ClassFile.FieldType.boolean) rmX7_isSemicolon [.ref a0] (K, len, I, J, R) (pI0 (K, len, I, J, R) (fun r => (0 ≤ r.toInt) ∧ (r.toInt ≤ 1) ∧ (r.toInt = 1 ∧ kd B n p = 3 ∨ r.toInt = 0 ∧ kd B n p ≠ 3))) := by
  refine Ct_intro (by decide +kernel) (Nat.le_of_ble_eq_true rfl) (fun X hC hL hKK hNm hr hlk hQ => ?_)
  subst hL
  have hC : Cx g X cX7_isSemicolon "HillTap$Tokens" 1 rmX7_isSemicolon := hC
  show P g X 1 0 [(0, .ref a0)] [] 0 0 (K, len, I, J, R)
  have hF : Fr K [] I I := Fr.refl
  obtain ⟨tk3, tk4, tk2, tk1, tk5⟩ := tkc
  refine r_aload_n hC dX7_isSemicolon_0 0 rfl ?_
  refine r_geti hC 3 (ci := 7) rfl u7_in (by decide) mT_1_62 dX7_isSemicolon_1 ka0 rfl rfl (fun x1_ e1 => ?_)
  have f1 : x1_.toInt = (I a0 3).toInt := by rw [e1]
  refine r_iconst hC (v := (3)) dX7_isSemicolon_4 (by decide) (by decide) (fun x2_ e2 t2 => ?_)
  refine r_icmp_ne hC (tgt := 12) dX7_isSemicolon_5 (by decide) (fun c3 => ?_) (fun c3 => ?_)
  · refine r_iconst hC (v := (0)) dX7_isSemicolon_12 (by decide) (by decide) (fun x4_ e4 t4 => ?_)
    exact r_iret hC hQ hlk hr (by rw [e4]; rfl) (by decide) (by decide) dX7_isSemicolon_13 ⟨_, rfl, rfl, ⟨(by omega), (by omega), (by omega)⟩⟩
  · refine r_iconst hC (v := (1)) dX7_isSemicolon_8 (by decide) (by decide) (fun x5_ e5 t5 => ?_)
    refine r_goto hC (tgt := 13) dX7_isSemicolon_9 (by decide) ?_
    exact r_iret hC hQ hlk hr (by rw [e5]; rfl) (by decide) (by decide) dX7_isSemicolon_13 ⟨_, rfl, rfl, ⟨(by omega), (by omega), (by omega)⟩⟩
set_option maxHeartbeats 4000000 in
set_option maxRecDepth 100000 in
theorem f_X7_begin (g : GG) (l : Launch) (K len : Nat → Nat) (I : Nat → Nat → Int32) (J : Nat → Nat → Int64) (R : Nat → Nat → Option Nat) (hs : Sf K len I R) (a0 : Nat) (ka0 : K a0 = 8) (x1 : Int32) (tp : Nat) (bt : Nat) (hbt : R a0 0 = some tp) (hkt : K tp = 6) (hbb : R tp 0 = some bt) (hkb : K bt = 40) (nbt : len bt = 900) (B : Nat → Int) (n : Nat) (hB : BT B n bt I) (hn : n ≤ 900) (p0 : 0 ≤ x1.toInt) (p1 : x1.toInt = n) (p2 : n ≤ (I tp 1).toInt) : Ct g l yX7_begin cX7_begin 2 (Option.none : Option Jvm.ClassFile.FieldType) rmX7_begin [.ref a0, .int x1] (K, len, I, J, R) (pV2 (K, len, I, J, R) (fun I' J' => Sf K len I' R ∧ Fr K [(8, 1), (8, 2), (8, 3), (8, 4)] I I' ∧ Fr K [(8, 5)] J J' ∧ (TkC B n a0 0 I' J'))) := by
  refine Ct_intro (by decide +kernel) (Nat.le_of_ble_eq_true rfl) (fun X hC hL hKK hNm hr hlk hQ => ?_)
  subst hL
  have hC : Cx g X cX7_begin "HillTap$Tokens" 2 rmX7_begin := hC
  show P g X 2 0 [(0, .ref a0), (1, .int x1)] [] 0 0 (K, len, I, J, R)
  have hF : Fr K [(8, 1), (8, 2), (8, 3), (8, 4)] I I := Fr.refl
  have hFJ : Fr K [(8, 5)] J J := Fr.refl
  have b_x1 := ti_rng x1
  obtain ⟨L0, eL0⟩ : ∃ z : Int32, z = I tp 1 := ⟨_, rfl⟩
  have fL0 : L0.toInt = (I tp 1).toInt := by rw [eL0]
  have rL0 := hs.rng hkt rfl eL0
  refine r_aload_n hC dX7_begin_0 0 rfl ?_
  refine r_iload_n hC dX7_begin_1 1 rfl ?_
  refine r_aload_n hC dX7_begin_2 0 rfl ?_
  refine r_getr hC 0 (ci := 7) rfl u7_in (by decide) mT_1_59 dX7_begin_3 ka0 rfl rfl hbt ?_
  refine r_geti hC 1 (ci := 5) rfl u5_in (by decide) mT_1_39 dX7_begin_6 hkt rfl rfl (fun x1_ e1 => ?_)
  have r1 := hs.rng hkt rfl e1
  have f1 : x1_.toInt = (I tp 1).toInt := by rw [e1]
  have w1 : x1_ = L0 := by rw [e1]; exact eL0.symm
  have wt1 : x1_.toInt = L0.toInt := by rw [w1]
  refine r_mmin hC mT_2_153 mT_2_154 mT_1_12 mT_2_155 (by decide) (Nat.le_of_ble_eq_true rfl) (Nat.zero_le _) (Nat.zero_le _) dX7_begin_9 (fun x2_ e2 t2a t2b t2c => ?_)
  refine r_puti hC 1 (ci := 7) rfl u7_in tyX7_ok nmX7 (by decide) mT_1_60 rfl rfl rfl dX7_begin_12 ka0 rfl rfl (fun I3 eI3 => ?_)
  have hs3 := hs.put1 eI3 ka0 rfl (by omega) (by omega) rfl rfl (by decide)
  have hF3 := hF.put eI3 ka0 rfl
  refine r_aload_n hC dX7_begin_15 0 rfl ?_
  refine r_iconst hC (v := (0)) dX7_begin_16 (by decide) (by decide) (fun x4_ e4 t4 => ?_)
  refine r_puti hC 2 (ci := 7) rfl u7_in tyX7_ok nmX7 (by decide) mT_1_61 rfl rfl rfl dX7_begin_17 ka0 rfl rfl (fun I5 eI5 => ?_)
  have hs5 := hs3.put1 eI5 ka0 rfl (by omega) (by omega) rfl rfl (by decide)
  have hF5 := hF3.put eI5 ka0 rfl
  refine r_aload_n hC dX7_begin_20 0 rfl ?_
  have hq2 : I5 a0 2 = x4_ := (by rw [eI5]; exact up2_self _ _ _ _)
  have hq2t : (I5 a0 2).toInt = x4_.toInt := congrArg Int32.toInt hq2
  have hq1 : I5 a0 1 = x2_ := (Eq.trans (up2_at (Or.inr (by decide)) eI5) (by rw [eI3]; exact up2_self _ _ _ _))
  have hq1t : (I5 a0 1).toInt = x2_.toInt := congrArg Int32.toInt hq1
  refine r_callV hC (As := []) (rest := []) (ci := 7) (f_X7_next g (xL X) K len I5 J R hs5 a0 ka0 tp bt hbt hkt hbb hkb nbt B n (hB.mv hF5 hkb (fun _ => rfl)) hn 0 (Nat.zero_le n) (by omega) (by omega)) mT_2_159 mT_1_4 mT_2_156 mT_2_157 mT_2_158 okX7_next ⟨by decide, by decide⟩ rfl (by show kO (K a0) = _; rw [ka0]; rfl) rfl rfl (Nat.le_of_ble_eq_true rfl) ⟨by decide, by decide⟩ dX7_begin_21 (aV2 (F := fun st M => P g X 2 24 [(0, .ref a0), (1, .int x1)] st _ _ M) (M := (K, len, I5, J, R)) fun I6 J6 h6 => ?_)
  obtain ⟨hs6, hf6, hfj6, k6_0⟩ := h6
  show P g X 2 24 [(0, .ref a0), (1, .int x1)] [] _ _ (K, len, I6, J6, R)
  have hF6 : Fr K [(8, 1), (8, 2), (8, 3), (8, 4)] I I6 := hF5.trans hf6 rfl rfl
  have hFJ6 : Fr K [(8, 5)] J J6 := hFJ.trans hfj6 rfl rfl
  exact r_vret hC hQ hlk hr (by decide) (by decide) dX7_begin_24 ⟨_, _, rfl, rfl, ⟨hs6, hF6, hFJ6, (by assumption)⟩⟩
set_option maxHeartbeats 4000000 in
set_option maxRecDepth 100000 in
theorem f_X7_isWord (g : GG) (l : Launch) (K len : Nat → Nat) (I : Nat → Nat → Int32) (J : Nat → Nat → Int64) (R : Nat → Nat → Option Nat) (hs : Sf K len I R) (a0 : Nat) (ka0 : K a0 = 8) (i1 : Nat) (pi1 : i1 < 60) (tp : Nat) (bt : Nat) (hbt : R a0 0 = some tp) (hkt : K tp = 6) (hbb : R tp 0 = some bt) (hkb : K bt = 40) (nbt : len bt = 900) (B : Nat → Int) (n : Nat) (hB : BT B n bt I) (hn : n ≤ 900) (p : Nat) (hp : p ≤ n) (tkc : TkC B n a0 p I J) : Ct g l yX7_isWord cX7_isWord 4 (Option.some Jvm.ClassFile.FieldType.boolean) rmX7_isWord [.ref a0, .ref (g.2.2.1 i1)] (K, len, I, J, R) (pI0 (K, len, I, J, R) (fun r => (0 ≤ r.toInt) ∧ (r.toInt ≤ 1) ∧ (r.toInt = 1 ∧ isW B n p i1 ∨ r.toInt = 0 ∧ ¬ isW B n p i1))) := by
  refine Ct_intro (by decide +kernel) (Nat.le_of_ble_eq_true rfl) (fun X hC hL hKK hNm hr hlk hQ => ?_)
  subst hL
  have hC : Cx g X cX7_isWord "HillTap$Tokens" 4 rmX7_isWord := hC
  show P g X 4 0 [(0, .ref a0), (1, .ref (g.2.2.1 i1))] [] 0 0 (K, len, I, J, R)
  have hF : Fr K [] I I := Fr.refl
  obtain ⟨tk3, tk4, tk2, tk1, tk5⟩ := tkc
  have hnx := nx_le (B := B) hp
  refine r_aload_n hC dX7_isWord_0 1 rfl ?_
  refine r_callT hC (As := []) (rest := []) (i := i1) pi1 (c_J0_length_8abf5 g (xL X) K len I J R hs i1 pi1) mT_2_181 mT_1_13 mT_2_178 mT_2_179 mT_2_180 okJ0_length_8abf5 ⟨by decide, by decide⟩ rfl rfl (Nat.le_of_ble_eq_true rfl) ⟨by decide, by decide⟩ dX7_isWord_1 (aI0 (F := fun st M => P g X 4 4 [(0, .ref a0), (1, .ref (g.2.2.1 i1))] st _ _ M) (M := (K, len, I, J, R)) fun x1_ h1 => ?_)
  obtain ⟨k1_0, k1_1, k1_2⟩ := h1
  show P g X 4 4 [(0, .ref a0), (1, .ref (g.2.2.1 i1))] [.int x1_] _ _ (K, len, I, J, R)
  refine r_istore_n hC (lv' := [(2, .int x1_), (0, .ref a0), (1, .ref (g.2.2.1 i1))]) dX7_isWord_4 (by decide) rfl ?_
  refine r_aload_n hC dX7_isWord_5 1 rfl ?_
  refine r_geti hC 3 (ci := 7) rfl u7_in (by decide) mT_1_62 dX7_isWord_6 ka0 rfl rfl (fun x2_ e2 => ?_)
  have f2 : x2_.toInt = (I a0 3).toInt := by rw [e2]
  refine r_iconst hC (v := (1)) dX7_isWord_9 (by decide) (by decide) (fun x3_ e3 t3 => ?_)
  refine r_icmp_ne hC (tgt := 26) dX7_isWord_10 (by decide) (fun c4 => ?_) (fun c4 => ?_)
  · refine r_iconst hC (v := (0)) dX7_isWord_26 (by decide) (by decide) (fun x5_ e5 t5 => ?_)
    exact r_iret hC hQ hlk hr (by rw [e5]; rfl) (by decide) (by decide) dX7_isWord_27 ⟨_, rfl, rfl, ⟨(by omega), (by omega), (by first | (exfalso; omega) | exact Or.inl ⟨by omega, by omega, by omega, fun j h9 => NOx_v30_2 j (Nat.zero_le j) (by omega)⟩ | exact Or.inr ⟨by omega, fun h9 => by have h8 := h9.1; have h7 := h9.2.1; omega⟩ | exact Or.inr ⟨by omega, fun h9 => by have h8 := h9.2.2 NOx_l3.toInt.toNat (by omega); omega⟩)⟩⟩
  · refine r_aload_n hC dX7_isWord_13 1 rfl ?_
    refine r_geti hC 2 (ci := 7) rfl u7_in (by decide) mT_1_61 dX7_isWord_14 ka0 rfl rfl (fun x6_ e6 => ?_)
    have r6 := hs.rng ka0 rfl e6
    have f6 : x6_.toInt = (I a0 2).toInt := by rw [e6]
    refine r_aload_n hC dX7_isWord_17 1 rfl ?_
    refine r_geti hC 4 (ci := 7) rfl u7_in (by decide) mT_1_63 dX7_isWord_18 ka0 rfl rfl (fun x7_ e7 => ?_)
    have r7 := hs.rng ka0 rfl e7
    have f7 : x7_.toInt = (I a0 4).toInt := by rw [e7]
    refine r_isub hC dX7_isWord_21 (fun x8_ e8 => ?_)
    try have t8 : x8_.toInt = x6_.toInt - x7_.toInt := by rw [e8]; exact ti_sub (by omega) (by omega)
    refine r_iload_n hC dX7_isWord_22 0 rfl ?_
    refine r_icmp_eq hC (tgt := 28) dX7_isWord_23 (by decide) (fun c9 => ?_) (fun c9 => ?_)
    · refine r_iconst hC (v := (0)) dX7_isWord_28 (by decide) (by decide) (fun x10_ e10 t10 => ?_)
      refine r_istore_n hC (lv' := [(3, .int x10_), (2, .int x1_), (0, .ref a0), (1, .ref (g.2.2.1 i1))]) dX7_isWord_29 (by decide) rfl ?_
      have LP11 : ∀ (mu : Nat) (x11_3 : Int32) (v11_0 : 0 ≤ x11_3.toInt) (v11_1 : x11_3.toInt ≤ x1_.toInt) (v11_2 : ∀ j : Nat, 0 ≤ j → (j : Int) < x11_3.toInt → B (pl B n p + j) = ((sB.getD i1 []).getD j 0).toInt), (x1_.toInt - x11_3.toInt).toNat = mu → P g X 4 30 [(0, .ref a0), (1, .ref (g.2.2.1 i1)), (2, .int x1_), (3, .int x11_3)] [] 0 0 (K, len, I, J, R) := by
        intro mu; induction mu using Nat.strongRecOn with | ind mu ih => ?_
        intro x11_3 v11_0 v11_1 v11_2 hmu
        have ih11 := ih
        clear ih
        have hmu11 := hmu
        clear hmu
        refine r_iload_n hC dX7_isWord_30 3 rfl ?_
        refine r_iload_n hC dX7_isWord_31 2 rfl ?_
        refine r_icmp_ge hC (tgt := 78) dX7_isWord_32 (by decide) (fun c12 => ?_) (fun c12 => ?_)
        · refine r_iconst hC (v := (1)) dX7_isWord_78 (by decide) (by decide) (fun x13_ e13 t13 => ?_)
          exact r_iret hC hQ hlk hr (by rw [e13]; rfl) (by decide) (by decide) dX7_isWord_79 ⟨_, rfl, rfl, ⟨(by omega), (by omega), (by first | (exfalso; omega) | exact Or.inl ⟨by omega, by omega, by omega, fun j h9 => v11_2 j (Nat.zero_le j) (by omega)⟩ | exact Or.inr ⟨by omega, fun h9 => by have h8 := h9.1; have h7 := h9.2.1; omega⟩ | exact Or.inr ⟨by omega, fun h9 => by have h8 := h9.2.2 x11_3.toInt.toNat (by omega); omega⟩)⟩⟩
        · refine r_aload_n hC dX7_isWord_35 0 rfl ?_
          refine r_geti hC 4 (ci := 7) rfl u7_in (by decide) mT_1_63 dX7_isWord_36 ka0 rfl rfl (fun x14_ e14 => ?_)
          have r14 := hs.rng ka0 rfl e14
          have f14 : x14_.toInt = (I a0 4).toInt := by rw [e14]
          have w14 : x14_ = x7_ := by rw [e14]; exact e7.symm
          have wt14 : x14_.toInt = x7_.toInt := by rw [w14]
          refine r_iload_n hC dX7_isWord_39 3 rfl ?_
          refine r_iadd hC dX7_isWord_40 (fun x15_ e15 => ?_)
          try have t15 : x15_.toInt = x14_.toInt + x11_3.toInt := by rw [e15]; exact ti_add (by omega) (by omega)
          refine r_aload_n hC dX7_isWord_41 0 rfl ?_
          refine r_geti hC 1 (ci := 7) rfl u7_in (by decide) mT_1_60 dX7_isWord_42 ka0 rfl rfl (fun x16_ e16 => ?_)
          have r16 := hs.rng ka0 rfl e16
          have f16 : x16_.toInt = (I a0 1).toInt := by rw [e16]
          refine r_icmp_ge hC (tgt := 78) dX7_isWord_45 (by decide) (fun c17 => ?_) (fun c17 => ?_)
          · refine r_iconst hC (v := (1)) dX7_isWord_78 (by decide) (by decide) (fun x18_ e18 t18 => ?_)
            exact r_iret hC hQ hlk hr (by rw [e18]; rfl) (by decide) (by decide) dX7_isWord_79 ⟨_, rfl, rfl, ⟨(by omega), (by omega), (by first | (exfalso; omega) | exact Or.inl ⟨by omega, by omega, by omega, fun j h9 => v11_2 j (Nat.zero_le j) (by omega)⟩ | exact Or.inr ⟨by omega, fun h9 => by have h8 := h9.1; have h7 := h9.2.1; omega⟩ | exact Or.inr ⟨by omega, fun h9 => by have h8 := h9.2.2 x11_3.toInt.toNat (by omega); omega⟩)⟩⟩
          · refine r_aload_n hC dX7_isWord_48 0 rfl ?_
            refine r_getr hC 0 (ci := 7) rfl u7_in (by decide) mT_1_59 dX7_isWord_49 ka0 rfl rfl hbt ?_
            refine r_getr hC 0 (ci := 5) rfl u5_in (by decide) mT_1_37 dX7_isWord_52 hkt rfl rfl hbb ?_
            refine r_aload_n hC dX7_isWord_55 0 rfl ?_
            refine r_geti hC 4 (ci := 7) rfl u7_in (by decide) mT_1_63 dX7_isWord_56 ka0 rfl rfl (fun x19_ e19 => ?_)
            have r19 := hs.rng ka0 rfl e19
            have f19 : x19_.toInt = (I a0 4).toInt := by rw [e19]
            have w19 : x19_ = x14_ := by rw [e19]; exact e14.symm
            have wt19 : x19_.toInt = x14_.toInt := by rw [w19]
            refine r_iload_n hC dX7_isWord_59 3 rfl ?_
            refine r_iadd hC dX7_isWord_60 (fun x20_ e20 => ?_)
            try have t20 : x20_.toInt = x19_.toInt + x11_3.toInt := by rw [e20]; exact ti_add (by omega) (by omega)
            refine x_baload hC hkb nbt (by decide) rfl rfl dX7_isWord_61 (by omega) (by omega) (fun x21_ e21 => ?_)
            have B21 := (hB.mv hF hkb (fun _ => rfl)).at e21 (by omega) (by omega)
            refine r_aload_n hC dX7_isWord_62 1 rfl ?_
            refine r_iload_n hC dX7_isWord_63 3 rfl ?_
            refine r_callT hC (As := [.int x11_3]) (rest := [.int x21_]) (i := i1) pi1 (c_J0_charAt_5068e g (xL X) K len I J R hs i1 pi1 x11_3 (by omega) (by omega)) mT_2_191 mT_1_13 mT_2_188 mT_2_189 mT_2_190 okJ0_charAt_5068e ⟨by decide, by decide⟩ rfl rfl (Nat.le_of_ble_eq_true rfl) ⟨by decide, by decide⟩ dX7_isWord_64 (aI0 (F := fun st M => P g X 4 67 [(0, .ref a0), (1, .ref (g.2.2.1 i1)), (2, .int x1_), (3, .int x11_3)] st _ _ M) (M := (K, len, I, J, R)) fun x22_ h22 => ?_)
            have k22_0 := h22
            show P g X 4 67 [(0, .ref a0), (1, .ref (g.2.2.1 i1)), (2, .int x1_), (3, .int x11_3)] [.int x22_, .int x21_] _ _ (K, len, I, J, R)
            have hch : x22_.toInt = ((sB.getD i1 []).getD x11_3.toInt.toNat 0).toInt := by rw [k22_0, show x11_3.toNatClampNeg = x11_3.toInt.toNat from (by have h9 := clampI (i := x11_3) (by omega); omega)]
            have hby : x21_.toInt = B (pl B n p + x11_3.toInt.toNat) := B21.trans (congrArg B (by omega))
            refine r_icmp_eq hC (tgt := 72) dX7_isWord_67 (by decide) (fun c23 => ?_) (fun c23 => ?_)
            · obtain ⟨x24_, e24⟩ : ∃ z : Int32, z = x11_3 + Int32.ofInt (1) := ⟨_, rfl⟩
              refine r_iinc hC (j := 3) (v := x24_) (lv' := [(3, .int x24_), (0, .ref a0), (1, .ref (g.2.2.1 i1)), (2, .int x1_)]) dX7_isWord_72 rfl (by rw [e24]) (by decide) rfl ?_
              try have t24 : x24_.toInt = x11_3.toInt + (1) := by rw [e24]; exact (ti_add (b := Int32.ofInt (1)) (by show _ ≤ _ + (1 : Int); omega) (by show _ + (1 : Int) ≤ _; omega))
              refine r_goto hC (tgt := 30) dX7_isWord_75 (by decide) ?_
              refine r_sub [1, 2, 3, 0] rfl ?_
              exact ih11 ((x1_.toInt - x24_.toInt).toNat) (by omega) x24_ (by omega) (by omega) (by first | exact all_0 (P := fun j => B (pl B n p + j) = ((sB.getD i1 []).getD j 0).toInt) (q := 0) (by omega) | exact all_s (P := fun j => B (pl B n p + j) = ((sB.getD i1 []).getD j 0).toInt) v11_2 (by omega) (by omega) (by show B (pl B n p + _) = _; omega)) rfl
            · refine r_iconst hC (v := (0)) dX7_isWord_70 (by decide) (by decide) (fun x25_ e25 t25 => ?_)
              exact r_iret hC hQ hlk hr (by rw [e25]; rfl) (by decide) (by decide) dX7_isWord_71 ⟨_, rfl, rfl, ⟨(by omega), (by omega), (by first | (exfalso; omega) | exact Or.inl ⟨by omega, by omega, by omega, fun j h9 => v11_2 j (Nat.zero_le j) (by omega)⟩ | exact Or.inr ⟨by omega, fun h9 => by have h8 := h9.1; have h7 := h9.2.1; omega⟩ | exact Or.inr ⟨by omega, fun h9 => by have h8 := h9.2.2 x11_3.toInt.toNat (by omega); omega⟩)⟩⟩
      refine r_sub [2, 3, 1, 0] rfl ?_
      exact LP11 _ x10_ (by omega) (by omega) (by first | exact all_0 (P := fun j => B (pl B n p + j) = ((sB.getD i1 []).getD j 0).toInt) (q := 0) (by omega) | exact all_s (P := fun j => B (pl B n p + j) = ((sB.getD i1 []).getD j 0).toInt) v11_2 (by omega) (by omega) (by show B (pl B n p + _) = _; omega)) rfl
    · refine r_iconst hC (v := (0)) dX7_isWord_26 (by decide) (by decide) (fun x26_ e26 t26 => ?_)
      exact r_iret hC hQ hlk hr (by rw [e26]; rfl) (by decide) (by decide) dX7_isWord_27 ⟨_, rfl, rfl, ⟨(by omega), (by omega), (by first | (exfalso; omega) | exact Or.inl ⟨by omega, by omega, by omega, fun j h9 => NOx_v30_2 j (Nat.zero_le j) (by omega)⟩ | exact Or.inr ⟨by omega, fun h9 => by have h8 := h9.1; have h7 := h9.2.1; omega⟩ | exact Or.inr ⟨by omega, fun h9 => by have h8 := h9.2.2 NOx_l3.toInt.toNat (by omega); omega⟩)⟩⟩

