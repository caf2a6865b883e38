theorem r_sub {g : GG} {X : XT} {nL pc cn sn : Nat} {lv lv' : List (Nat × Value)} {st : List Value} {M : MM} (ks : List Nat) (h : lv_pick lv ks = lv') (k : P g X nL pc lv' st cn sn M) : P g X nL pc lv st cn sn M := fun H locs ls hw hS hl => k H locs ls hw hS (lv_sub hl ks h)
theorem kOb {q : Nat} (h : 100 ≤ q) : kO q = none := by unfold kO; rw [if_neg (by omega), if_neg (by omega), if_neg (by omega), if_neg (by omega)]
theorem kAb {q : Nat} (h : 100 ≤ q) : kA q = 1 := by unfold kA; rw [if_neg (by omega), if_neg (by omega), if_neg (by omega), if_neg (by omega), if_neg (by omega), if_neg (by omega), if_neg (by omega)]
def pV0 (M : MM) (Q : Prop) : Option Value → MM → Prop := fun v M' => v = none ∧ M' = M ∧ Q
theorem aV0 {F : List Value → MM → Prop} {rest : List Value} {M : MM} {Q : Prop} (k : Q → F rest M) : ∀ v M', pV0 M Q v M' → F (v.toList ++ rest) M' := by rintro v M' ⟨rfl, rfl, h⟩; exact k h
theorem r_getsQ {g : GG} {X : XT} {cc : ByteArray} {own : String} {nL : Nat} {rm : Room} {pc : Nat} {lv : List (Nat × Value)} {st : List Value} {cn sn : Nat} {M : MM} (hC : Cx g X cc own nL rm) {ix : Nat} (hlk : Cond.fieldLink own ix "jdk/internal/util/Preconditions" "SIOOBE_FORMATTER" "Ljava/util/function/BiFunction;" ∈ tb) (hd : decode cc pc = .ok (.getstatic ix, 3)) (k : ∀ v, (v = .null ∨ ∃ t, v = .ref t) → P g X nL (pc + 3) lv (v :: st) cn sn M) : P g X nL pc lv st cn sn M := by
  intro H locs ls hw hS hl
  rcases hC.2.2.2.2.2.2.1.2.2.1.1 with h | ⟨t, h⟩
  · exact va_gets hC.1 hC.2.1 h hS hC.2.2.2.1 (hC.2.2.2.2.1 _ hlk) (fun x h => h) hd (k _ (Or.inl rfl) H locs ls hw hS hl)
  · exact va_gets hC.1 hC.2.1 h hS hC.2.2.2.1 (hC.2.2.2.2.1 _ hlk) (fun x h => h) hd (k _ (Or.inr ⟨t, rfl⟩) H locs ls hw hS hl)
abbrev rmJ3_checkIndex_8e157 : Room := { frames := 0, cells := 0, slots := 0, locals := 0 }
set_option maxRecDepth 100000 in
theorem c_J3_checkIndex_8e157 (g : GG) (l : Launch) (M : MM) (x0 x1 : Int32) (v2 : Value) (hv : v2 = .null ∨ ∃ t, v2 = .ref t) (h1 : 0 ≤ x0.toInt) (h2 : x0.toInt < x1.toInt) : Ct g l yJ3_checkIndex_8e157 cJ3_checkIndex_8e157 3 (some .int) rmJ3_checkIndex_8e157 [.int x0, .int x1, v2] M (pI0 M (fun _ => True)) := by
  rcases hv with rfl | ⟨t, rfl⟩
  all_goals
    refine Ct_intro (by decide +kernel) (Nat.le_of_ble_eq_true rfl) (fun X hC hL hKK hNm hr hlk hQ => ?_)
    subst hL
    refine r_iload_n hC dJ3_checkIndex_8e157_0 0 rfl ?_
    refine r_if_lt hC (tgt := 9) dJ3_checkIndex_8e157_1 (by decide) (fun c => absurd c (by omega)) (fun c => ?_)
    refine r_iload_n hC dJ3_checkIndex_8e157_4 0 rfl ?_
    refine r_iload_n hC dJ3_checkIndex_8e157_5 1 rfl ?_
    refine r_icmp_lt hC (tgt := 16) dJ3_checkIndex_8e157_6 (by decide) (fun c => ?_) (fun c => absurd c (by omega))
    refine r_iload_n hC dJ3_checkIndex_8e157_16 0 rfl ?_
    exact r_iret hC hQ hlk hr rfl (by decide) (by decide) dJ3_checkIndex_8e157_17 ⟨_, rfl, rfl, trivial⟩
abbrev rmJ0_checkIndex_df160 : Room := { frames := 1, cells := 0, slots := 0, locals := 22 }
set_option maxRecDepth 100000 in
theorem c_J0_checkIndex_df160 (g : GG) (l : Launch) (K len : Nat → Nat) (I : Nat → Nat → Int32) (J : Nat → Nat → Int64) (R : Nat → Nat → Option Nat) (hs : Sf K len I R) (x0 x1 : Int32) (h1 : 0 ≤ x0.toInt) (h2 : x0.toInt < x1.toInt) : Ct g l yJ0_checkIndex_df160 cJ0_checkIndex_df160 2 none rmJ0_checkIndex_df160 [.int x0, .int x1] (K, len, I, J, R) (pV0 (K, len, I, J, R) True) := by
  refine Ct_intro (by decide +kernel) (Nat.le_of_ble_eq_true rfl) (fun X hC hL hKK hNm hr hlk hQ => ?_)
  subst hL
  refine r_iload_n hC dJ0_checkIndex_df160_0 0 rfl ?_
  refine r_iload_n hC dJ0_checkIndex_df160_1 1 rfl ?_
  refine r_getsQ hC mT_2_202 dJ0_checkIndex_df160_2 (fun v hv => ?_)
  refine r_callS hC (As := [.int x0, .int x1, v]) (rest := []) (c_J3_checkIndex_8e157 g (xL X) _ x0 x1 v hv h1 h2) mT_2_206 mT_1_15 mT_2_204 mT_2_205 okJ3_checkIndex_8e157 ⟨by decide, by decide⟩ rfl rfl (Nat.le_of_ble_eq_true rfl) ⟨by decide, by decide⟩ dJ0_checkIndex_df160_5 (aI0 (F := fun st M => P g X 2 8 _ st _ _ M) fun r h => ?_)
  refine r_pop hC dJ0_checkIndex_df160_8 rfl ?_
  exact r_vret hC hQ hlk hr (by decide) (by decide) dJ0_checkIndex_df160_9 ⟨rfl, rfl, trivial⟩
theorem mn_1 (x y : Int32) : (if y < x then y else x).toInt ≤ x.toInt ∧ (if y < x then y else x).toInt ≤ y.toInt ∧ ((if y < x then y else x).toInt = x.toInt ∨ (if y < x then y else x).toInt = y.toInt) := by
  by_cases h : y < x
  · rw [if_pos h]; have := Int32.lt_iff_toInt_lt.mp h; omega
  · rw [if_neg h]; have := mt Int32.lt_iff_toInt_lt.mpr h; omega
theorem mx_1 (x y : Int32) : x.toInt ≤ (if x < y then y else x).toInt ∧ y.toInt ≤ (if x < y then y else x).toInt ∧ ((if x < y then y else x).toInt = x.toInt ∨ (if x < y then y else x).toInt = y.toInt) := by
  by_cases h : x < y
  · rw [if_pos h]; have := Int32.lt_iff_toInt_lt.mp h; omega
  · rw [if_neg h]; have := mt Int32.lt_iff_toInt_lt.mpr h; omega
theorem r_mmin {g : GG} {X : XT} {cc : ByteArray} {own : String} {nL : Nat} {rm : Room} {pc : Nat} {lv : List (Nat × Value)} {st : List Value} {cn sn : Nat} {M : MM} (hC : Cx g X cc own nL rm) {ix : Nat} {x y : Int32} (hl : Cond.methodLink own ix Lib.Math.min.name ∈ tb) (hst : Cond.static Lib.Math.min.name ∈ tb) (hini : Cond.initialized "java/lang/Math" ∈ tb) (hco : Cond.code Lib.Math.min.name Lib.Math.min.code 2 (some .int) ∈ tb) (hf : 1 ≤ rm.frames) (hlo : (st.map fun v => v.category).sum + 13 ≤ rm.locals) (hc : cn ≤ rm.cells) (hs : sn ≤ rm.slots) (hd : decode cc pc = .ok (.invokestatic ix, 3)) (k : ∀ z : Int32, z = (if y < x then y else x) → z.toInt ≤ x.toInt → z.toInt ≤ y.toInt → (z.toInt = x.toInt ∨ z.toInt = y.toInt) → P g X nL (pc + 3) lv (.int z :: st) cn sn M) : P g X nL pc lv (.int y :: .int x :: st) cn sn M := by
  intro H locs ls hw hS hl'
  have hR := hC.2.2.2.2.2.2.2.2
  exact va_mmin hC.1 hC.2.1 (hC.2.2.1.trans hl'.1.symm) hC.2.2.2.1 (hC.2.2.2.2.1 _ hl) (hC.2.2.2.2.1 _ hst) (hC.2.2.2.2.1 _ hini) (hC.2.2.2.2.1 _ hco) (by rw [hR]; exact hf) (by rw [hR]; exact hlo) (by rw [hR]; exact hc) (by rw [hR]; exact hs) hd (k _ rfl (mn_1 x y).1 (mn_1 x y).2.1 (mn_1 x y).2.2 H locs ls hw hS hl')
theorem r_mmax {g : GG} {X : XT} {cc : ByteArray} {own : String} {nL : Nat} {rm : Room} {pc : Nat} {lv : List (Nat × Value)} {st : List Value} {cn sn : Nat} {M : MM} (hC : Cx g X cc own nL rm) {ix : Nat} {x y : Int32} (hl : Cond.methodLink own ix Lib.Math.max.name ∈ tb) (hst : Cond.static Lib.Math.max.name ∈ tb) (hini : Cond.initialized "java/lang/Math" ∈ tb) (hco : Cond.code Lib.Math.max.name Lib.Math.max.code 2 (some .int) ∈ tb) (hf : 1 ≤ rm.frames) (hlo : (st.map fun v => v.category).sum + 13 ≤ rm.locals) (hc : cn ≤ rm.cells) (hs : sn ≤ rm.slots) (hd : decode cc pc = .ok (.invokestatic ix, 3)) (k : ∀ z : Int32, z = (if x < y then y else x) → x.toInt ≤ z.toInt → y.toInt ≤ z.toInt → (z.toInt = x.toInt ∨ z.toInt = y.toInt) → P g X nL (pc + 3) lv (.int z :: st) cn sn M) : P g X nL pc lv (.int y :: .int x :: st) cn sn M := by
  intro H locs ls hw hS hl'
  have hR := hC.2.2.2.2.2.2.2.2
  exact va_mmax hC.1 hC.2.1 (hC.2.2.1.trans hl'.1.symm) hC.2.2.2.1 (hC.2.2.2.2.1 _ hl) (hC.2.2.2.2.1 _ hst) (hC.2.2.2.2.1 _ hini) (hC.2.2.2.2.1 _ hco) (by rw [hR]; exact hf) (by rw [hR]; exact hlo) (by rw [hR]; exact hc) (by rw [hR]; exact hs) hd (k _ rfl (mx_1 x y).1 (mx_1 x y).2.1 (mx_1 x y).2.2 H locs ls hw hS hl')
theorem r_mabs {g : GG} {X : XT} {cc : ByteArray} {own : String} {nL : Nat} {rm : Room} {pc : Nat} {lv : List (Nat × Value)} {st : List Value} {cn sn : Nat} {M : MM} (hC : Cx g X cc own nL rm) {ix : Nat} {x : Int32} (hl : Cond.methodLink own ix Lib.Math.abs.name ∈ tb) (hst : Cond.static Lib.Math.abs.name ∈ tb) (hini : Cond.initialized "java/lang/Math" ∈ tb) (hco : Cond.code Lib.Math.abs.name Lib.Math.abs.code 1 (some .int) ∈ tb) (hf : 1 ≤ rm.frames) (hlo : (st.map fun v => v.category).sum + 13 ≤ rm.locals) (hc : cn ≤ rm.cells) (hs : sn ≤ rm.slots) (hd : decode cc pc = .ok (.invokestatic ix, 3)) (k : ∀ z : Int32, z = (if 0 ≤ x then x else 0 - x) → P g X nL (pc + 3) lv (.int z :: st) cn sn M) : P g X nL pc lv (.int x :: st) cn sn M := by
  intro H locs ls hw hS hl'
  have hR := hC.2.2.2.2.2.2.2.2
  exact va_mabs hC.1 hC.2.1 (hC.2.2.1.trans hl'.1.symm) hC.2.2.2.1 (hC.2.2.2.2.1 _ hl) (hC.2.2.2.2.1 _ hst) (hC.2.2.2.2.1 _ hini) (hC.2.2.2.2.1 _ hco) (by rw [hR]; exact hf) (by rw [hR]; exact hlo) (by rw [hR]; exact hc) (by rw [hR]; exact hs) hd (k _ rfl H locs ls hw hS hl')
theorem txt_l (i : Nat) (h : i < 60) : (Int32.ofNat (sLen i)).toInt = sLen i := by
  have : ∀ i, i < 60 → (Int32.ofNat (sLen i)).toInt = sLen i := by decide +kernel
  exact this i h
theorem txt_m (i : Nat) (h : i < 60) : (Int32.ofNat (sLen i)).toInt ≤ 20 := by
  have : ∀ i, i < 60 → (Int32.ofNat (sLen i)).toInt ≤ 20 := by decide +kernel
  exact this i h
theorem txt_b : ∀ l ∈ sB, ∀ x ∈ l, (((x &&& 255).toUInt32 % 65536).toInt32) = x ∧ narrow .char (.int x) = .int x := by decide +kernel
theorem txt_at (i j : Nat) : (sB.getD i []).getD j 0 = 0 ∨ ∃ l ∈ sB, (sB.getD i []).getD j 0 ∈ l := by
  by_cases hi : i < sB.length
  · by_cases hj : j < (sB.getD i []).length
    · right
      refine ⟨sB.getD i [], ?_, ?_⟩
      · rw [List.getD_eq_getElem?_getD, List.getElem?_eq_getElem hi]; exact List.getElem_mem hi
      · rw [List.getD_eq_getElem?_getD (l := sB.getD i []), List.getElem?_eq_getElem hj]; exact List.getElem_mem hj
    · left
      rw [List.getD_eq_getElem?_getD (l := sB.getD i []), List.getElem?_eq_none (by omega)]; rfl
  · left
    rw [List.getD_eq_getElem?_getD (l := sB), List.getElem?_eq_none (by omega)]; rfl
theorem txt_c (i j : Nat) : (((sB.getD i []).getD j 0 &&& 255).toUInt32 % 65536).toInt32 = (sB.getD i []).getD j 0 := by
  rcases txt_at i j with h | ⟨l, h1, h2⟩
  · rw [h]; rfl
  · exact (txt_b l h1 _ h2).1
theorem txt_n (i j : Nat) : narrow .char (.int ((sB.getD i []).getD j 0)) = .int ((sB.getD i []).getD j 0) := by
  rcases txt_at i j with h | ⟨l, h1, h2⟩
  · rw [h]; rfl
  · exact (txt_b l h1 _ h2).2
theorem lgc_ge {x y : Int64} (h : 0 ≤ (lg_cmp x y).toInt) : y.toInt ≤ x.toInt := by
  by_cases c : x < y
  · have e : lg_cmp x y = -1 := by
      have : ¬ y < x := fun d => by have := Int64.lt_iff_toInt_lt.mp c; have := Int64.lt_iff_toInt_lt.mp d; omega
      have hne : ¬ x = y := fun d => by rw [d] at c; have := Int64.lt_iff_toInt_lt.mp c; omega
      simp [lg_cmp, this, hne]
    rw [e] at h; exact absurd h (by decide)
  · have := mt Int64.lt_iff_toInt_lt.mpr c; omega
theorem lgc_le {x y : Int64} (h : (lg_cmp x y).toInt ≤ 0) : x.toInt ≤ y.toInt := by
  by_cases c : y < x
  · have e : lg_cmp x y = 1 := by simp [lg_cmp, c]
    rw [e] at h; exact absurd h (by decide)
  · have := mt Int64.lt_iff_toInt_lt.mpr c; omega
theorem l2i_in {x : Int64} (h1 : -2147483648 ≤ x.toInt) (h2 : x.toInt ≤ 2147483647) : x.toInt32.toInt = x.toInt := by
  rw [Int64.toInt_toInt32, Int.bmod_eq_of_le (by omega) (by omega)]
abbrev rmJ0_coder_7d493 : Room := { frames := 0, cells := 0, slots := 0, locals := 0 }
abbrev rmJ0_isLatin1_aae02 : Room := { frames := 0, cells := 0, slots := 0, locals := 0 }
abbrev rmJ0_length_8abf5 : Room := { frames := 1, cells := 0, slots := 0, locals := 20 }
abbrev rmJ1_charAt_3b067 : Room := { frames := 2, cells := 0, slots := 0, locals := 43 }
abbrev rmJ0_charAt_5068e : Room := { frames := 3, cells := 0, slots := 0, locals := 64 }
abbrev rmJ7_fill_53178 : Room := { frames := 0, cells := 0, slots := 0, locals := 0 }
set_option maxHeartbeats 4000000 in
set_option maxRecDepth 100000 in
theorem c_J0_coder_7d493 (g : GG) (l : Launch) (K len : Nat → Nat) (I : Nat → Nat → Int32) (J : Nat → Nat → Int64) (R : Nat → Nat → Option Nat) (hs : Sf K len I R) (i0 : Nat) (pi0 : i0 < 60) : Ct g l yJ0_coder_7d493 cJ0_coder_7d493 1 (Option.some Jvm.ClassFile.FieldType.byte) rmJ0_coder_7d493 [.ref (g.2.2.1 i0)] (K, len, I, J, R) (pI0 (K, len, I, J, R) (fun r => (r = 0))) := by
  refine Ct_intro (by decide +kernel) (Nat.le_of_ble_eq_true rfl) (fun X hC hL hKK hNm hr hlk hQ => ?_)
  subst hL
  have hC : Cx g X cJ0_coder_7d493 "java/lang/String" 1 rmJ0_coder_7d493 := hC
  show P g X 1 0 [(0, .ref (g.2.2.1 i0))] [] 0 0 (K, len, I, J, R)
  have hF : Fr K [] I I := Fr.refl
  refine r_getsC hC mT_2_186 dJ0_coder_7d493_0 ?_
  obtain ⟨x1_, e1⟩ : ∃ z : Int32, z = 1 := ⟨_, rfl⟩
  rw [← e1]
  have t1 : x1_.toInt = 1 := by rw [e1]; rfl
  refine r_if_eq hC (tgt := 13) dJ0_coder_7d493_3 (by decide) (fun c2 => ?_) (fun c2 => ?_)
  · exfalso; omega
  refine r_aload_n hC dJ0_coder_7d493_6 0 rfl ?_
  refine r_getCoder hC pi0 mT_7_101 dJ0_coder_7d493_7 ?_
  obtain ⟨x3_, e3⟩ : ∃ z : Int32, z = 0 := ⟨_, rfl⟩
  rw [← e3]
  have t3 : x3_.toInt = 0 := by rw [e3]; rfl
  refine r_goto hC (tgt := 14) dJ0_coder_7d493_10 (by decide) ?_
  exact r_iret hC hQ hlk hr (by subst_vars; rfl) (by decide) (by decide) dJ0_coder_7d493_14 ⟨_, rfl, rfl, (by assumption)⟩
set_option maxHeartbeats 4000000 in
set_option maxRecDepth 100000 in
theorem c_J0_isLatin1_aae02 (g : GG) (l : Launch) (K len : Nat → Nat) (I : Nat → Nat → Int32) (J : Nat → Nat → Int64) (R : Nat → Nat → Option Nat) (hs : Sf K len I R) (i0 : Nat) (pi0 : i0 < 60) : Ct g l yJ0_isLatin1_aae02 cJ0_isLatin1_aae02 1 (Option.some Jvm.ClassFile.FieldType.boolean) rmJ0_isLatin1_aae02 [.ref (g.2.2.1 i0)] (K, len, I, J, R) (pI0 (K, len, I, J, R) (fun r => (r = 1))) := by
  refine Ct_intro (by decide +kernel) (Nat.le_of_ble_eq_true rfl) (fun X hC hL hKK hNm hr hlk hQ => ?_)
  subst hL
  have hC : Cx g X cJ0_isLatin1_aae02 "java/lang/String" 1 rmJ0_isLatin1_aae02 := hC
  show P g X 1 0 [(0, .ref (g.2.2.1 i0))] [] 0 0 (K, len, I, J, R)
  have hF : Fr K [] I I := Fr.refl
  refine r_getsC hC mT_2_186 dJ0_isLatin1_aae02_0 ?_
  obtain ⟨x1_, e1⟩ : ∃ z : Int32, z = 1 := ⟨_, rfl⟩
  rw [← e1]
  have t1 : x1_.toInt = 1 := by rw [e1]; rfl
  refine r_if_eq hC (tgt := 17) dJ0_isLatin1_aae02_3 (by decide) (fun c2 => ?_) (fun c2 => ?_)
  · exfalso; omega
  refine r_aload_n hC dJ0_isLatin1_aae02_6 0 rfl ?_
  refine r_getCoder hC pi0 mT_7_101 dJ0_isLatin1_aae02_7 ?_
  obtain ⟨x3_, e3⟩ : ∃ z : Int32, z = 0 := ⟨_, rfl⟩
  rw [← e3]
  have t3 : x3_.toInt = 0 := by rw [e3]; rfl
  refine r_if_ne hC (tgt := 17) dJ0_isLatin1_aae02_10 (by decide) (fun c4 => ?_) (fun c4 => ?_)
  · exfalso; omega
  refine r_iconst hC (v := (1)) dJ0_isLatin1_aae02_13 (by decide) (by decide) (fun x5_ e5 t5 => ?_)
  refine r_goto hC (tgt := 18) dJ0_isLatin1_aae02_14 (by decide) ?_
  exact r_iret hC hQ hlk hr (by rw [e5]; rfl) (by decide) (by decide) dJ0_isLatin1_aae02_18 ⟨_, rfl, rfl, (by assumption)⟩
set_option maxHeartbeats 4000000 in
set_option maxRecDepth 100000 in
theorem c_J0_length_8abf5 (g : GG) (l : Launch) (K len : Nat → Nat) (I : Nat → Nat → Int32) (J : Nat → Nat → Int64) (R : Nat → Nat → Option Nat) (hs : Sf K len I R) (i0 : Nat) (pi0 : i0 < 60) : Ct g l yJ0_length_8abf5 cJ0_length_8abf5 1 (Option.some Jvm.ClassFile.FieldType.int) rmJ0_length_8abf5 [.ref (g.2.2.1 i0)] (K, len, I, J, R) (pI0 (K, len, I, J, R) (fun r => (r = Int32.ofNat (sLen i0)) ∧ (r.toInt = sLen i0) ∧ (r.toInt ≤ 20))) := by
  refine Ct_intro (by decide +kernel) (Nat.le_of_ble_eq_true rfl) (fun X hC hL hKK hNm hr hlk hQ => ?_)
  subst hL
  have hC : Cx g X cJ0_length_8abf5 "java/lang/String" 1 rmJ0_length_8abf5 := hC
  show P g X 1 0 [(0, .ref (g.2.2.1 i0))] [] 0 0 (K, len, I, J, R)
  have hF : Fr K [] I I := Fr.refl
  refine r_aload_n hC dJ0_length_8abf5_0 0 rfl ?_
  refine r_getValue hC pi0 mT_7_100 dJ0_length_8abf5_1 ?_
  refine r_txtLen hC pi0 dJ0_length_8abf5_4 ?_
  obtain ⟨x1_, e1⟩ : ∃ z : Int32, z = Int32.ofNat (sLen i0) := ⟨_, rfl⟩
  rw [← e1]
  refine r_aload_n hC dJ0_length_8abf5_5 0 rfl ?_
  refine r_callT hC (As := []) (rest := [.int x1_]) (i := i0) pi0 (c_J0_coder_7d493 g (xL X) K len I J R hs i0 pi0) mT_2_185 mT_1_13 mT_2_182 mT_2_183 mT_2_184 okJ0_coder_7d493 ⟨by decide, by decide⟩ rfl rfl (Nat.le_of_ble_eq_true rfl) ⟨by decide, by decide⟩ dJ0_length_8abf5_6 (aI0 (F := fun st M => P g X 1 9 [(0, .ref (g.2.2.1 i0))] st _ _ M) (M := (K, len, I, J, R)) fun x2_ h2 => ?_)
  have k2_0 := h2
  show P g X 1 9 [(0, .ref (g.2.2.1 i0))] [.int x2_, .int x1_] _ _ (K, len, I, J, R)
  refine r_ishr hC dJ0_length_8abf5_9 (fun x3_ e3 => ?_)
  exact r_iret hC hQ hlk hr rfl (by decide) (by decide) dJ0_length_8abf5_10 ⟨_, rfl, rfl, ⟨(by subst_vars; exact sb_shr0 _), (by subst_vars; rw [sb_shr0]; exact txt_l _ pi0), (by subst_vars; rw [sb_shr0]; exact txt_m _ pi0)⟩⟩
set_option maxHeartbeats 4000000 in
set_option maxRecDepth 100000 in
theorem c_J1_charAt_3b067 (g : GG) (l : Launch) (K len : Nat → Nat) (I : Nat → Nat → Int32) (J : Nat → Nat → Int64) (R : Nat → Nat → Option Nat) (hs : Sf K len I R) (i0 : Nat) (pi0 : i0 < 60) (x1 : Int32) (p0 : 0 ≤ x1.toInt) (p1 : x1.toInt < sLen i0) : Ct g l yJ1_charAt_3b067 cJ1_charAt_3b067 2 (Option.some Jvm.ClassFile.FieldType.char) rmJ1_charAt_3b067 [.ref (g.2.2.2 i0), .int x1] (K, len, I, J, R) (pI0 (K, len, I, J, R) (fun r => (r = (sB.getD i0 []).getD x1.toNatClampNeg 0))) := by
  refine Ct_intro (by decide +kernel) (Nat.le_of_ble_eq_true rfl) (fun X hC hL hKK hNm hr hlk hQ => ?_)
  subst hL
  have hC : Cx g X cJ1_charAt_3b067 "java/lang/StringLatin1" 2 rmJ1_charAt_3b067 := hC
  show P g X 2 0 [(0, .ref (g.2.2.2 i0)), (1, .int x1)] [] 0 0 (K, len, I, J, R)
  have hF : Fr K [] I I := Fr.refl
  have b_x1 := ti_rng x1
  refine r_iload_n hC dJ1_charAt_3b067_0 1 rfl ?_
  refine r_aload_n hC dJ1_charAt_3b067_1 0 rfl ?_
  refine r_txtLen hC pi0 dJ1_charAt_3b067_2 ?_
  obtain ⟨x1_, e1⟩ : ∃ z : Int32, z = Int32.ofNat (sLen i0) := ⟨_, rfl⟩
  rw [← e1]
  have tL : x1_.toInt = sLen i0 := by subst_vars; exact txt_l _ pi0
  refine r_callS hC (As := [.int x1, .int x1_]) (rest := []) (c_J0_checkIndex_df160 g (xL X) K len I J R hs x1 x1_ (by omega) (by omega)) mT_2_201 mT_1_13 mT_2_199 mT_2_200 okJ0_checkIndex_df160 ⟨by decide, by decide⟩ rfl rfl (Nat.le_of_ble_eq_true rfl) ⟨by decide, by decide⟩ dJ1_charAt_3b067_3 (aV0 (F := fun st M => P g X 2 6 [(0, .ref (g.2.2.2 i0)), (1, .int x1)] st _ _ M) (M := (K, len, I, J, R)) fun  h2 => ?_)
  skip
  show P g X 2 6 [(0, .ref (g.2.2.2 i0)), (1, .int x1)] [] _ _ (K, len, I, J, R)
  refine r_aload_n hC dJ1_charAt_3b067_6 0 rfl ?_
  refine r_iload_n hC dJ1_charAt_3b067_7 1 rfl ?_
  refine r_txtAt hC pi0 (by omega) (by omega) dJ1_charAt_3b067_8 ?_
  obtain ⟨x3_, e3⟩ : ∃ z : Int32, z = (sB.getD i0 []).getD x1.toNatClampNeg 0 := ⟨_, rfl⟩
  rw [← e3]
  refine r_sipush hC (v := (255)) dJ1_charAt_3b067_9 (by decide) (by decide) (fun x4_ e4 t4 => ?_)
  refine r_iand hC dJ1_charAt_3b067_12 (fun x5_ e5 => ?_)
  refine r_i2c hC dJ1_charAt_3b067_13 (fun x6_ e6 => ?_)
  exact r_iret hC hQ hlk hr (by subst_vars; exact pk_nc _) (by decide) (by decide) dJ1_charAt_3b067_14 ⟨_, rfl, rfl, (by subst_vars; exact txt_c _ _)⟩
set_option maxHeartbeats 4000000 in
set_option maxRecDepth 100000 in
theorem c_J0_charAt_5068e (g : GG) (l : Launch) (K len : Nat → Nat) (I : Nat → Nat → Int32) (J : Nat → Nat → Int64) (R : Nat → Nat → Option Nat) (hs : Sf K len I R) (i0 : Nat) (pi0 : i0 < 60) (x1 : Int32) (p0 : 0 ≤ x1.toInt) (p1 : x1.toInt < sLen i0) : Ct g l yJ0_charAt_5068e cJ0_charAt_5068e 2 (Option.some Jvm.ClassFile.FieldType.char) rmJ0_charAt_5068e [.ref (g.2.2.1 i0), .int x1] (K, len, I, J, R) (pI0 (K, len, I, J, R) (fun r => (r = (sB.getD i0 []).getD x1.toNatClampNeg 0))) := by
  refine Ct_intro (by decide +kernel) (Nat.le_of_ble_eq_true rfl) (fun X hC hL hKK hNm hr hlk hQ => ?_)
  subst hL
  have hC : Cx g X cJ0_charAt_5068e "java/lang/String" 2 rmJ0_charAt_5068e := hC
  show P g X 2 0 [(0, .ref (g.2.2.1 i0)), (1, .int x1)] [] 0 0 (K, len, I, J, R)
  have hF : Fr K [] I I := Fr.refl
  have b_x1 := ti_rng x1
  refine r_aload_n hC dJ0_charAt_5068e_0 0 rfl ?_
  refine r_callT hC (As := []) (rest := []) (i := i0) pi0 (c_J0_isLatin1_aae02 g (xL X) K len I J R hs i0 pi0) mT_2_195 mT_1_13 mT_2_192 mT_2_193 mT_2_194 okJ0_isLatin1_aae02 ⟨by decide, by decide⟩ rfl rfl (Nat.le_of_ble_eq_true rfl) ⟨by decide, by decide⟩ dJ0_charAt_5068e_1 (aI0 (F := fun st M => P g X 2 4 [(0, .ref (g.2.2.1 i0)), (1, .int x1)] st _ _ M) (M := (K, len, I, J, R)) fun x1_ h1 => ?_)
  have k1_0 := h1
  show P g X 2 4 [(0, .ref (g.2.2.1 i0)), (1, .int x1)] [.int x1_] _ _ (K, len, I, J, R)
  have tL : x1_.toInt = 1 := by subst_vars; rfl
  refine r_if_eq hC (tgt := 16) dJ0_charAt_5068e_4 (by decide) (fun c2 => ?_) (fun c2 => ?_)
  · exfalso; omega
  refine r_aload_n hC dJ0_charAt_5068e_7 0 rfl ?_
  refine r_getValue hC pi0 mT_7_100 dJ0_charAt_5068e_8 ?_
  refine r_iload_n hC dJ0_charAt_5068e_11 1 rfl ?_
  refine r_callS hC (As := [.ref (g.2.2.2 i0), .int x1]) (rest := []) (c_J1_charAt_3b067 g (xL X) K len I J R hs i0 pi0 x1 (by omega) (by omega)) mT_2_198 mT_1_14 mT_2_196 mT_2_197 okJ1_charAt_3b067 ⟨by decide, by decide⟩ rfl rfl (Nat.le_of_ble_eq_true rfl) ⟨by decide, by decide⟩ dJ0_charAt_5068e_12 (aI0 (F := fun st M => P g X 2 15 [(0, .ref (g.2.2.1 i0)), (1, .int x1)] st _ _ M) (M := (K, len, I, J, R)) fun x3_ h3 => ?_)
  have k3_0 := h3
  show P g X 2 15 [(0, .ref (g.2.2.1 i0)), (1, .int x1)] [.int x3_] _ _ (K, len, I, J, R)
  exact r_iret hC hQ hlk hr (by subst_vars; exact txt_n _ _) (by decide) (by decide) dJ0_charAt_5068e_15 ⟨_, rfl, rfl, (by assumption)⟩
