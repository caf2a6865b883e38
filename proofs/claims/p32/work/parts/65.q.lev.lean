def gz (D : DD) (day : Int) : Nat → Int × Int
  | 0 => (0, D 0 1)
  | n + 1 => if D 3 n ≤ day ∧ (gz D day n).1 ≤ D 3 n then (D 3 n, D 4 n) else gz D day n
def tw (m g l : Int) : Int := if l < g then min g (l + m) else max g (l - m)
def Gp (D : DD) (down : Int) (d : Nat) : Int := if (d : Int) < down then min (gz D d (D 0 4).toNat).2 (D 0 3) else 0
/-- the level ahead of day d, with the goals G -/
def Lp (D : DD) (G : Nat → Int) : Nat → Int
  | 0 => D 0 1
  | d + 1 => tw (D 0 2) (G d) (Lp D G d)
section LEV
variable {D : DD} {day l g m : Int} {n : Nat}
theorem gz_t (h : gz D day n = (l, g)) (h1 : D 3 n ≤ day) (h2 : l ≤ D 3 n) : gz D day (n + 1) = (D 3 n, D 4 n) := by
  simp only [gz]; rw [h, if_pos ⟨h1, h2⟩]
theorem gz_f (h : gz D day n = (l, g)) (h1 : ¬ (D 3 n ≤ day ∧ l ≤ D 3 n)) : gz D day (n + 1) = (l, g) := by
  simp only [gz]; rw [h, if_neg h1]
theorem gz_b (hJ : DJ D) : ∀ n, 0 ≤ (gz D day n).2 ∧ (gz D day n).2 ≤ 999
  | 0 => by simp only [gz]; have := hJ.2.2.2.2.1; omega
  | n + 1 => by
    simp only [gz]
    split
    · have h := hJ.2.2.2.1 4 n (by decide) (by decide) (by decide)
      have e : hiB 4 = 999 := rfl
      rw [e] at h; exact h
    · exact gz_b hJ n
theorem Gp_b (hJ : DJ D) {down : Int} {d : Nat} : 0 ≤ Gp D down d ∧ Gp D down d ≤ 999 := by
  unfold Gp
  have h := gz_b hJ (day := d) (D 0 4).toNat
  have h2 := hJ.2.2.2.2.1
  split <;> omega
theorem Lp_b (hJ : DJ D) {G : Nat → Int} (hG : ∀ d, 0 ≤ G d ∧ G d ≤ 999) : ∀ d, 0 ≤ Lp D G d ∧ Lp D G d ≤ 999
  | 0 => by simp only [Lp]; have := hJ.2.2.2.2.1; omega
  | d + 1 => by
    simp only [Lp]; unfold tw
    have h1 := hG d; have h2 := Lp_b hJ hG d; have h3 := hJ.2.2.2.2.1
    split <;> omega
theorem tw_lt {r : Int} (h : l < g) (hr : r = min g (l + m)) : r = tw m g l := by unfold tw; rw [if_pos h]; exact hr
theorem tw_ge {r : Int} (h : ¬ l < g) (hr : r = max g (l - m)) : r = tw m g l := by unfold tw; rw [if_neg h]; exact hr
theorem Gp_t {down : Int} {d : Nat} (h : (d : Int) < down) : Gp D down d = min (gz D d (D 0 4).toNat).2 (D 0 3) := by unfold Gp; rw [if_pos h]
theorem Gp_n {down : Int} {d : Nat} (h : ¬ (d : Int) < down) : Gp D down d = 0 := by unfold Gp; rw [if_neg h]
end LEV
theorem fillf_s {I I' : Nat → Nat → Int32} {a k : Nat} {x : Int32} {f : Nat → Int} {i i2 : Int} (h : ∀ j : Nat, 0 ≤ j → (j : Int) < i → (I a j).toInt = f j) (e : I' = up2 I a k x) (hk : (k : Int) = i) (hx : x.toInt = f k) (h2 : i2 = i + 1) : ∀ j : Nat, 0 ≤ j → (j : Int) < i2 → (I' a j).toInt = f j := by
  intro j _ hj
  by_cases hjk : j = k
  · subst hjk; rw [e, up2_self]; exact hx
  · rw [e, up2_ne _ _ (Or.inr hjk)]; exact h j (Nat.zero_le j) (by omega)
/-- the row of the levels, by the plan; the row of what is known -/
def LvR (D : DD) (lv : Nat) (I : Nat → Nat → Int32) : Prop := ∀ j : Nat, j < 60 → (I lv j).toInt = Lp D (Gp D 60) (j + 1)
theorem LvR.put {D : DD} {lv a k q : Nat} {v : Int32} {K : Nat → Nat} {I I' : Nat → Nat → Int32} (h : LvR D lv I) (e : I' = up2 I a k v) (hq : K a = q) (klv : K lv = 41) (hne : q ≠ 41) : LvR D lv I' := fun j hj => by rw [up2_kk e hq klv (Ne.symm hne)]; exact h j hj
theorem LvR.mv {D : DD} {lv : Nat} {K : Nat → Nat} {l : List (Nat × Nat)} {I I' : Nat → Nat → Int32} (h : LvR D lv I) (hF : Fr K l I I') (klv : K lv = 41) (hin : ∀ k, inS l 41 k = false) : LvR D lv I' := fun j hj => by rw [hF.get klv (hin j)]; exact h j hj
/-- the from that counts: none yet, or the b-th -/
def GzB (D : DD) (day : Int) (n : Nat) (b : Int) : Prop := (b = -1 ∧ gz D day n = (0, D 0 1)) ∨ (0 ≤ b ∧ b < n ∧ gz D day n = (D 3 b.toNat, D 4 b.toNat))
theorem GzB.t {D : DD} {day b : Int} {n : Nat} (hJ : DJ D) (h : GzB D day n b) (h1 : D 3 n ≤ day) (h2 : b = -1 ∨ D 3 b.toNat ≤ D 3 n) : GzB D day (n + 1) n := by
  refine Or.inr ⟨by omega, by omega, ?_⟩
  have h0 := hJ.2.2.2.1 3 n (by decide) (by decide) (by decide)
  rw [Int.toNat_natCast]
  rcases h with ⟨g1, g2⟩ | ⟨g1, g2, g3⟩
  · exact gz_t g2 h1 h0.1
  · exact gz_t g3 h1 (by rcases h2 with h2 | h2; omega; exact h2)
theorem GzB.f {D : DD} {day b : Int} {n : Nat} (h : GzB D day n b) (h1 : ¬ (D 3 n ≤ day) ∨ (b ≠ -1 ∧ ¬ D 3 b.toNat ≤ D 3 n)) : GzB D day (n + 1) b := by
  rcases h with ⟨g1, g2⟩ | ⟨g1, g2, g3⟩
  · exact Or.inl ⟨g1, gz_f g2 (by rcases h1 with h1 | h1; exact fun z => h1 z.1; exact absurd g1 h1.1)⟩
  · refine Or.inr ⟨g1, by omega, gz_f g3 ?_⟩
    rcases h1 with h1 | h1
    · exact fun z => h1 z.1
    · exact fun z => h1.2 z.2
/-- the reference's goals: nought from a day on, one goal for all days, or the plan's; never above to -/
def Gm (D : DD) (down goal : Int) (d : Nat) : Int := if down ≤ (d : Int) then min 0 (D 0 3) else if goal ≠ -1 then min goal (D 0 3) else min (gz D d (D 0 4).toNat).2 (D 0 3)
theorem Gm_p {D : DD} {down : Int} (h3 : 0 ≤ D 0 3) : Gm D down (-1) = Gp D down := by
  funext d; unfold Gm Gp
  by_cases h : down ≤ (d : Int)
  · rw [if_pos h, if_neg (by omega)]; omega
  · rw [if_neg h, if_neg (show ¬ ((-1 : Int) ≠ -1) by decide), if_pos (show (d : Int) < down by omega)]
theorem Gm_b {D : DD} (hJ : DJ D) {down goal : Int} {d : Nat} (hg : -1 ≤ goal ∧ goal ≤ 999) : 0 ≤ Gm D down goal d ∧ Gm D down goal d ≤ 999 := by
  unfold Gm
  have h := gz_b hJ (day := d) (D 0 4).toNat
  have h2 := hJ.2.2.2.2.1
  split
  · omega
  · split <;> omega
theorem Gm_1 {D : DD} {down goal : Int} {d : Nat} (h : down ≤ (d : Int)) : Gm D down goal d = min 0 (D 0 3) := by unfold Gm; rw [if_pos h]
theorem Gm_2 {D : DD} {down goal : Int} {d : Nat} (h : ¬ down ≤ (d : Int)) (hg : goal ≠ -1) : Gm D down goal d = min goal (D 0 3) := by unfold Gm; rw [if_neg h, if_pos hg]
theorem Gm_3 {D : DD} {down goal : Int} {d : Nat} (h : ¬ down ≤ (d : Int)) (hg : goal = -1) : Gm D down goal d = min (gz D d (D 0 4).toNat).2 (D 0 3) := by unfold Gm; rw [if_neg h, if_neg (by omega)]

set_option maxHeartbeats 4000000 in
set_option maxRecDepth 100000 in
theorem f_X2_goalOf (g : GG) (l : Launch) (K len : Nat → Nat) (I : Nat → Nat → Int32) (J : Nat → Nat → Int64) (R : Nat → Nat → Option Nat) (hs : Sf K len I R) (a0 : Nat) (ka0 : K a0 = 3) (x1 : Int32) (hz : Nat) (khz : K hz = 2) (hu : UU K R) (D : DD) (hJ : DJ D) (rwd : RW (CC hz a0 R) (cntN D) D I) (hd1 : (I a0 1).toInt = D 0 1) (hd2 : (I a0 2).toInt = D 0 2) (hd3 : (I a0 3).toInt = D 0 3) (hd4 : (I a0 4).toInt = D 0 4) : Ct g l yX2_goalOf cX2_goalOf 5 (Option.some Jvm.ClassFile.FieldType.int) rmX2_goalOf [.ref a0, .int x1] (K, len, I, J, R) (pI0 (K, len, I, J, R) (fun r => (r.toInt = min (gz D x1.toInt (D 0 4).toNat).2 (D 0 3)))) := by
  refine Ct_intro (by decide +kernel) (Nat.le_of_ble_eq_true rfl) (fun X hC hL hKK hNm hr hlk hQ => ?_)
  subst hL
  have hC : Cx g X cX2_goalOf "HillTap$Lake" 5 rmX2_goalOf := hC
  show P g X 5 0 [(0, .ref a0), (1, .int x1)] [] 0 0 (K, len, I, J, R)
  have hF : Fr K [] I I := Fr.refl
  have b_x1 := ti_rng x1
  obtain ⟨F4, eF4⟩ : ∃ z : Int32, z = I a0 4 := ⟨_, rfl⟩
  have fF4 : F4.toInt = (I a0 4).toInt := by rw [eF4]
  have rF4 := hs.rng ka0 rfl eF4
  refine r_iconst hC (v := (0)) dX2_goalOf_0 (by decide) (by decide) (fun x1_ e1 t1 => ?_)
  refine r_istore_n hC (lv' := [(2, .int x1_), (0, .ref a0), (1, .int x1)]) dX2_goalOf_1 (by decide) rfl ?_
  refine r_aload_n hC dX2_goalOf_2 1 rfl ?_
  refine r_geti hC 1 (ci := 2) rfl u2_in (by decide) mT_1_119 dX2_goalOf_3 ka0 rfl rfl (fun x2_ e2 => ?_)
  have f2 : x2_.toInt = (I a0 1).toInt := by rw [e2]
  refine r_istore_n hC (lv' := [(3, .int x2_), (2, .int x1_), (0, .ref a0), (1, .int x1)]) dX2_goalOf_6 (by decide) rfl ?_
  refine r_iconst hC (v := (0)) dX2_goalOf_7 (by decide) (by decide) (fun x3_ e3 t3 => ?_)
  refine r_istore hC (lv' := [(4, .int x3_), (3, .int x2_), (2, .int x1_), (0, .ref a0), (1, .int x1)]) dX2_goalOf_8 (by decide) rfl ?_
  have LP4 : ∀ (mu : Nat) (x4_4 : Int32) (x4_3 : Int32) (x4_2 : Int32) (v4_0 : 0 ≤ x4_4.toInt) (v4_1 : x4_4.toInt ≤ D 0 4) (v4_2 : gz D x1.toInt x4_4.toInt.toNat = (x4_2.toInt, x4_3.toInt)), (16 - x4_4.toInt).toNat = mu → P g X 5 10 [(0, .ref a0), (1, .int x1), (2, .int x4_2), (3, .int x4_3), (4, .int x4_4)] [] 0 0 (K, len, I, J, R) := by
    intro mu; induction mu using Nat.strongRecOn with | ind mu ih => ?_
    intro x4_4 x4_3 x4_2 v4_0 v4_1 v4_2 hmu
    have ih4 := ih
    clear ih
    have hmu4 := hmu
    clear hmu
    refine r_iload hC dX2_goalOf_10 4 rfl ?_
    refine r_aload_n hC dX2_goalOf_12 0 rfl ?_
    refine r_geti hC 4 (ci := 2) rfl u2_in (by decide) mT_1_128 dX2_goalOf_13 ka0 rfl rfl (fun x5_ e5 => ?_)
    have r5 := hs.rng ka0 rfl e5
    have f5 : x5_.toInt = (I a0 4).toInt := by rw [e5]
    have w5 : x5_ = F4 := by rw [e5]; exact eF4.symm
    have wt5 : x5_.toInt = F4.toInt := by rw [w5]
    refine r_icmp_ge hC (tgt := 63) dX2_goalOf_16 (by decide) (fun c6 => ?_) (fun c6 => ?_)
    · refine r_iload_n hC dX2_goalOf_63 3 rfl ?_
      refine r_aload_n hC dX2_goalOf_64 0 rfl ?_
      refine r_geti hC 3 (ci := 2) rfl u2_in (by decide) mT_1_125 dX2_goalOf_65 ka0 rfl rfl (fun x7_ e7 => ?_)
      have f7 : x7_.toInt = (I a0 3).toInt := by rw [e7]
      refine r_mmin hC mT_3_106 mT_2_154 mT_1_12 mT_2_155 (by decide) (Nat.le_of_ble_eq_true rfl) (Nat.zero_le _) (Nat.zero_le _) dX2_goalOf_68 (fun x8_ e8 t8a t8b t8c => ?_)
      exact r_iret hC hQ hlk hr rfl (by decide) (by decide) dX2_goalOf_71 ⟨_, rfl, rfl, (by rw [show (D 0 4).toNat = x4_4.toInt.toNat by omega, v4_2]; show _ = min x4_3.toInt (D 0 3); omega)⟩
    · refine r_aload_n hC dX2_goalOf_19 0 rfl ?_
      obtain ⟨a9_, hb9, hk9, hn9⟩ := hs.row ka0 6 63 16 (by decide) (by decide)
      refine r_getr hC 6 (ci := 2) rfl u2_in (by decide) mT_1_133 dX2_goalOf_20 ka0 rfl rfl hb9 ?_
      refine r_iload hC dX2_goalOf_23 4 rfl ?_
      refine x_iaload hC hk9 hn9 (by decide) rfl rfl dX2_goalOf_25 (by omega) (by omega) (fun x10_ e10 => ?_)
      have q10 : x10_.toInt = D 3 x4_4.toInt.toNat := by rw [e10, clx (i := x4_4) rfl (by omega)]; exact rwd 3 _ _ _ (cCf (r := 3) rfl hb9) (by rw [cnt_3]; omega) (fun h9 => absurd h9 (by decide))
      refine r_iload_n hC dX2_goalOf_26 1 rfl ?_
      refine r_icmp_gt hC (tgt := 57) dX2_goalOf_27 (by decide) (fun c11 => ?_) (fun c11 => ?_)
      · obtain ⟨x12_, e12⟩ : ∃ z : Int32, z = x4_4 + Int32.ofInt (1) := ⟨_, rfl⟩
        refine r_iinc hC (j := 4) (v := x12_) (lv' := [(4, .int x12_), (0, .ref a0), (1, .int x1), (2, .int x4_2), (3, .int x4_3)]) dX2_goalOf_57 rfl (by rw [e12]) (by decide) rfl ?_
        try have t12 : x12_.toInt = x4_4.toInt + (1) := by rw [e12]; exact (ti_add (b := Int32.ofInt (1)) (by show _ ≤ _ + (1 : Int); omega) (by show _ + (1 : Int) ≤ _; omega))
        refine r_goto hC (tgt := 10) dX2_goalOf_60 (by decide) ?_
        refine r_sub [1, 2, 3, 4, 0] rfl ?_
        exact ih4 ((16 - x12_.toInt).toNat) (by omega) x12_ x4_3 x4_2 (by omega) (by omega) (by first | (rw [show x12_.toInt.toNat = 0 by omega]; simp only [gz]; exact Prod.ext (by show (0 : Int) = _; omega) (by show D 0 1 = _; omega)) | (rw [show x12_.toInt.toNat = x4_4.toInt.toNat + 1 by omega, gz_t v4_2 (by omega) (by omega)]; exact Prod.ext (by show D 3 _ = _; omega) (by show D 4 _ = _; omega)) | (rw [show x12_.toInt.toNat = x4_4.toInt.toNat + 1 by omega]; exact gz_f v4_2 (by omega))) rfl
      · refine r_aload_n hC dX2_goalOf_30 0 rfl ?_
        refine r_getr hC 6 (ci := 2) rfl u2_in (by decide) mT_1_133 dX2_goalOf_31 ka0 rfl rfl hb9 ?_
        refine r_iload hC dX2_goalOf_34 4 rfl ?_
        refine x_iaload hC hk9 hn9 (by decide) rfl rfl dX2_goalOf_36 (by omega) (by omega) (fun x13_ e13 => ?_)
        have q13 : x13_.toInt = D 3 x4_4.toInt.toNat := by rw [e13, clx (i := x4_4) rfl (by omega)]; exact rwd 3 _ _ _ (cCf (r := 3) rfl hb9) (by rw [cnt_3]; omega) (fun h9 => absurd h9 (by decide))
        refine r_iload_n hC dX2_goalOf_37 2 rfl ?_
        refine r_icmp_lt hC (tgt := 57) dX2_goalOf_38 (by decide) (fun c14 => ?_) (fun c14 => ?_)
        · obtain ⟨x15_, e15⟩ : ∃ z : Int32, z = x4_4 + Int32.ofInt (1) := ⟨_, rfl⟩
          refine r_iinc hC (j := 4) (v := x15_) (lv' := [(4, .int x15_), (0, .ref a0), (1, .int x1), (2, .int x4_2), (3, .int x4_3)]) dX2_goalOf_57 rfl (by rw [e15]) (by decide) rfl ?_
          try have t15 : x15_.toInt = x4_4.toInt + (1) := by rw [e15]; exact (ti_add (b := Int32.ofInt (1)) (by show _ ≤ _ + (1 : Int); omega) (by show _ + (1 : Int) ≤ _; omega))
          refine r_goto hC (tgt := 10) dX2_goalOf_60 (by decide) ?_
          refine r_sub [1, 2, 3, 4, 0] rfl ?_
          exact ih4 ((16 - x15_.toInt).toNat) (by omega) x15_ x4_3 x4_2 (by omega) (by omega) (by first | (rw [show x15_.toInt.toNat = 0 by omega]; simp only [gz]; exact Prod.ext (by show (0 : Int) = _; omega) (by show D 0 1 = _; omega)) | (rw [show x15_.toInt.toNat = x4_4.toInt.toNat + 1 by omega, gz_t v4_2 (by omega) (by omega)]; exact Prod.ext (by show D 3 _ = _; omega) (by show D 4 _ = _; omega)) | (rw [show x15_.toInt.toNat = x4_4.toInt.toNat + 1 by omega]; exact gz_f v4_2 (by omega))) rfl
        · refine r_aload_n hC dX2_goalOf_41 0 rfl ?_
          refine r_getr hC 6 (ci := 2) rfl u2_in (by decide) mT_1_133 dX2_goalOf_42 ka0 rfl rfl hb9 ?_
          refine r_iload hC dX2_goalOf_45 4 rfl ?_
          refine x_iaload hC hk9 hn9 (by decide) rfl rfl dX2_goalOf_47 (by omega) (by omega) (fun x16_ e16 => ?_)
          have q16 : x16_.toInt = D 3 x4_4.toInt.toNat := by rw [e16, clx (i := x4_4) rfl (by omega)]; exact rwd 3 _ _ _ (cCf (r := 3) rfl hb9) (by rw [cnt_3]; omega) (fun h9 => absurd h9 (by decide))
          refine r_istore_n hC (lv' := [(2, .int x16_), (0, .ref a0), (1, .int x1), (3, .int x4_3), (4, .int x4_4)]) dX2_goalOf_48 (by decide) rfl ?_
          refine r_aload_n hC dX2_goalOf_49 1 rfl ?_
          obtain ⟨a17_, hb17, hk17, hn17⟩ := hs.row ka0 7 64 16 (by decide) (by decide)
          refine r_getr hC 7 (ci := 2) rfl u2_in (by decide) mT_1_134 dX2_goalOf_50 ka0 rfl rfl hb17 ?_
          refine r_iload hC dX2_goalOf_53 4 rfl ?_
          refine x_iaload hC hk17 hn17 (by decide) rfl rfl dX2_goalOf_55 (by omega) (by omega) (fun x18_ e18 => ?_)
          have q18 : x18_.toInt = D 4 x4_4.toInt.toNat := by rw [e18, clx (i := x4_4) rfl (by omega)]; exact rwd 4 _ _ _ (cCf (r := 4) rfl hb17) (by rw [cnt_4]; omega) (fun h9 => absurd h9 (by decide))
          refine r_istore_n hC (lv' := [(3, .int x18_), (2, .int x16_), (0, .ref a0), (1, .int x1), (4, .int x4_4)]) dX2_goalOf_56 (by decide) rfl ?_
          obtain ⟨x19_, e19⟩ : ∃ z : Int32, z = x4_4 + Int32.ofInt (1) := ⟨_, rfl⟩
          refine r_iinc hC (j := 4) (v := x19_) (lv' := [(4, .int x19_), (3, .int x18_), (2, .int x16_), (0, .ref a0), (1, .int x1)]) dX2_goalOf_57 rfl (by rw [e19]) (by decide) rfl ?_
          try have t19 : x19_.toInt = x4_4.toInt + (1) := by rw [e19]; exact (ti_add (b := Int32.ofInt (1)) (by show _ ≤ _ + (1 : Int); omega) (by show _ + (1 : Int) ≤ _; omega))
          refine r_goto hC (tgt := 10) dX2_goalOf_60 (by decide) ?_
          refine r_sub [3, 4, 2, 1, 0] rfl ?_
          exact ih4 ((16 - x19_.toInt).toNat) (by omega) x19_ x18_ x16_ (by omega) (by omega) (by first | (rw [show x19_.toInt.toNat = 0 by omega]; simp only [gz]; exact Prod.ext (by show (0 : Int) = _; omega) (by show D 0 1 = _; omega)) | (rw [show x19_.toInt.toNat = x4_4.toInt.toNat + 1 by omega, gz_t v4_2 (by omega) (by omega)]; exact Prod.ext (by show D 3 _ = _; omega) (by show D 4 _ = _; omega)) | (rw [show x19_.toInt.toNat = x4_4.toInt.toNat + 1 by omega]; exact gz_f v4_2 (by omega))) rfl
  refine r_sub [3, 4, 2, 1, 0] rfl ?_
  exact LP4 _ x3_ x2_ x1_ (by omega) (by omega) (by first | (rw [show x3_.toInt.toNat = 0 by omega]; simp only [gz]; exact Prod.ext (by show (0 : Int) = _; omega) (by show D 0 1 = _; omega)) | (rw [show x3_.toInt.toNat = x4_4.toInt.toNat + 1 by omega, gz_t v4_2 (by omega) (by omega)]; exact Prod.ext (by show D 3 _ = _; omega) (by show D 4 _ = _; omega)) | (rw [show x3_.toInt.toNat = x4_4.toInt.toNat + 1 by omega]; exact gz_f v4_2 (by omega))) rfl
set_option maxHeartbeats 4000000 in
set_option maxRecDepth 100000 in
theorem f_X2_towards (g : GG) (l : Launch) (K len : Nat → Nat) (I : Nat → Nat → Int32) (J : Nat → Nat → Int64) (R : Nat → Nat → Option Nat) (hs : Sf K len I R) (a0 : Nat) (ka0 : K a0 = 3) (x1 : Int32) (x2 : Int32) (p0 : 0 ≤ x1.toInt) (p1 : x1.toInt ≤ 9999) (p2 : 0 ≤ x2.toInt) (p3 : x2.toInt ≤ 9999) (p4 : 0 ≤ (I a0 2).toInt) (p5 : (I a0 2).toInt ≤ 50) : Ct g l yX2_towards cX2_towards 3 (Option.some Jvm.ClassFile.FieldType.int) rmX2_towards [.ref a0, .int x1, .int x2] (K, len, I, J, R) (pI0 (K, len, I, J, R) (fun r => (r.toInt = tw (I a0 2).toInt x1.toInt x2.toInt))) := by
  refine Ct_intro (by decide +kernel) (Nat.le_of_ble_eq_true rfl) (fun X hC hL hKK hNm hr hlk hQ => ?_)
  subst hL
  have hC : Cx g X cX2_towards "HillTap$Lake" 3 rmX2_towards := hC
  show P g X 3 0 [(0, .ref a0), (1, .int x1), (2, .int x2)] [] 0 0 (K, len, I, J, R)
  have hF : Fr K [] I I := Fr.refl
  have b_x1 := ti_rng x1
  have b_x2 := ti_rng x2
  refine r_iload_n hC dX2_towards_0 2 rfl ?_
  refine r_iload_n hC dX2_towards_1 1 rfl ?_
  refine r_icmp_ge hC (tgt := 18) dX2_towards_2 (by decide) (fun c1 => ?_) (fun c1 => ?_)
  · refine r_iload_n hC dX2_towards_18 1 rfl ?_
    refine r_iload_n hC dX2_towards_19 2 rfl ?_
    refine r_aload_n hC dX2_towards_20 0 rfl ?_
    refine r_geti hC 2 (ci := 2) rfl u2_in (by decide) mT_1_123 dX2_towards_21 ka0 rfl rfl (fun x2_ e2 => ?_)
    have f2 : x2_.toInt = (I a0 2).toInt := by rw [e2]
    refine r_isub hC dX2_towards_24 (fun x3_ e3 => ?_)
    try have t3 : x3_.toInt = x2.toInt - x2_.toInt := by rw [e3]; exact ti_sub (by omega) (by omega)
    refine r_mmax hC mT_3_111 mT_3_11 mT_1_12 mT_3_12 (by decide) (Nat.le_of_ble_eq_true rfl) (Nat.zero_le _) (Nat.zero_le _) dX2_towards_25 (fun x4_ e4 t4a t4b t4c => ?_)
    exact r_iret hC hQ hlk hr rfl (by decide) (by decide) dX2_towards_28 ⟨_, rfl, rfl, (by first | exact tw_lt (by omega) (by omega) | exact tw_ge (by omega) (by omega))⟩
  · refine r_iload_n hC dX2_towards_5 1 rfl ?_
    refine r_iload_n hC dX2_towards_6 2 rfl ?_
    refine r_aload_n hC dX2_towards_7 0 rfl ?_
    refine r_geti hC 2 (ci := 2) rfl u2_in (by decide) mT_1_123 dX2_towards_8 ka0 rfl rfl (fun x5_ e5 => ?_)
    have f5 : x5_.toInt = (I a0 2).toInt := by rw [e5]
    refine r_iadd hC dX2_towards_11 (fun x6_ e6 => ?_)
    try have t6 : x6_.toInt = x2.toInt + x5_.toInt := by rw [e6]; exact ti_add (by omega) (by omega)
    refine r_mmin hC mT_3_106 mT_2_154 mT_1_12 mT_2_155 (by decide) (Nat.le_of_ble_eq_true rfl) (Nat.zero_le _) (Nat.zero_le _) dX2_towards_12 (fun x7_ e7 t7a t7b t7c => ?_)
    refine r_goto hC (tgt := 28) dX2_towards_15 (by decide) ?_
    exact r_iret hC hQ hlk hr rfl (by decide) (by decide) dX2_towards_28 ⟨_, rfl, rfl, (by first | exact tw_lt (by omega) (by omega) | exact tw_ge (by omega) (by omega))⟩
set_option maxHeartbeats 4000000 in
set_option maxRecDepth 100000 in
theorem f_X2_fillByPlan (g : GG) (l : Launch) (K len : Nat → Nat) (I : Nat → Nat → Int32) (J : Nat → Nat → Int64) (R : Nat → Nat → Option Nat) (hs : Sf K len I R) (a0 : Nat) (ka0 : K a0 = 3) (a1 : Nat) (ka1 : K a1 = 41) (na1 : len a1 = 60) (x2 : Int32) (hz : Nat) (khz : K hz = 2) (hu : UU K R) (D : DD) (hJ : DJ D) (rwd : RW (CC hz a0 R) (cntN D) D I) (hd1 : (I a0 1).toInt = D 0 1) (hd2 : (I a0 2).toInt = D 0 2) (hd3 : (I a0 3).toInt = D 0 3) (hd4 : (I a0 4).toInt = D 0 4) : Ct g l yX2_fillByPlan cX2_fillByPlan 5 (Option.none : Option Jvm.ClassFile.FieldType) rmX2_fillByPlan [.ref a0, .ref a1, .int x2] (K, len, I, J, R) (pV1 (K, len, I, J, R) (fun I' => Sf K len I' R ∧ Fr K [(41, 999)] I I' ∧ (∀ j : Nat, j < 60 → (I' a1 j).toInt = Lp D (Gp D x2.toInt) (j + 1)) ∧ (∀ b k, b ≠ a1 → I' b k = I b k))) := by
  refine Ct_intro (by decide +kernel) (Nat.le_of_ble_eq_true rfl) (fun X hC hL hKK hNm hr hlk hQ => ?_)
  subst hL
  have hC : Cx g X cX2_fillByPlan "HillTap$Lake" 5 rmX2_fillByPlan := hC
  show P g X 5 0 [(0, .ref a0), (1, .ref a1), (2, .int x2)] [] 0 0 (K, len, I, J, R)
  have hF : Fr K [(41, 999)] I I := Fr.refl
  have hcx := CC_x hs khz ka0 hu
  have b_x2 := ti_rng x2
  refine r_aload_n hC dX2_fillByPlan_0 0 rfl ?_
  refine r_geti hC 1 (ci := 2) rfl u2_in (by decide) mT_1_119 dX2_fillByPlan_1 ka0 rfl rfl (fun x1_ e1 => ?_)
  have f1 : x1_.toInt = (I a0 1).toInt := by rw [e1]
  refine r_istore_n hC (lv' := [(3, .int x1_), (0, .ref a0), (1, .ref a1), (2, .int x2)]) dX2_fillByPlan_4 (by decide) rfl ?_
  refine r_iconst hC (v := (0)) dX2_fillByPlan_5 (by decide) (by decide) (fun x2_ e2 t2 => ?_)
  refine r_istore hC (lv' := [(4, .int x2_), (3, .int x1_), (0, .ref a0), (1, .ref a1), (2, .int x2)]) dX2_fillByPlan_6 (by decide) rfl ?_
  have LP3 : ∀ (mu : Nat) (x3_4 : Int32) (x3_3 : Int32) (I3 : Nat → Nat → Int32) (hs3 : Sf K len I3 R) (hF3 : Fr K [(41, 999)] I I3) (v3_0 : 0 ≤ x3_4.toInt) (v3_1 : x3_4.toInt ≤ 60) (v3_2 : x3_3.toInt = Lp D (Gp D x2.toInt) x3_4.toInt.toNat) (v3_3 : ∀ j : Nat, 0 ≤ j → (j : Int) < x3_4.toInt → (I3 a1 j).toInt = (fun j => Lp D (Gp D x2.toInt) (j + 1)) j) (v3_4 : ∀ b k, b ≠ a1 → I3 b k = I b k), (60 - x3_4.toInt).toNat = mu → P g X 5 8 [(0, .ref a0), (1, .ref a1), (2, .int x2), (3, .int x3_3), (4, .int x3_4)] [] 0 0 (K, len, I3, J, R) := by
    intro mu; induction mu using Nat.strongRecOn with | ind mu ih => ?_
    intro x3_4 x3_3 I3 hs3 hF3 v3_0 v3_1 v3_2 v3_3 v3_4 hmu
    have ih3 := ih
    clear ih
    have hmu3 := hmu
    clear hmu
    refine r_iload hC dX2_fillByPlan_8 4 rfl ?_
    refine r_bipush hC (v := (60)) dX2_fillByPlan_10 (by decide) (by decide) (fun x4_ e4 t4 => ?_)
    refine r_icmp_ge hC (tgt := 48) dX2_fillByPlan_12 (by decide) (fun c5 => ?_) (fun c5 => ?_)
    · exact r_vret hC hQ hlk hr (by decide) (by decide) dX2_fillByPlan_48 ⟨_, rfl, rfl, ⟨hs3, hF3, (by exact fun j hj => v3_3 j (Nat.zero_le j) (by omega)), (by exact v3_4)⟩⟩
    · refine r_aload_n hC dX2_fillByPlan_15 0 rfl ?_
      refine r_iload hC dX2_fillByPlan_16 4 rfl ?_
      refine r_iload_n hC dX2_fillByPlan_18 2 rfl ?_
      refine r_icmp_ge hC (tgt := 31) dX2_fillByPlan_19 (by decide) (fun c6 => ?_) (fun c6 => ?_)
      · refine r_iconst hC (v := (0)) dX2_fillByPlan_31 (by decide) (by decide) (fun x7_ e7 t7 => ?_)
        refine r_iload_n hC dX2_fillByPlan_32 3 rfl ?_
        have gb := Gp_b hJ (down := x2.toInt) (d := x3_4.toInt.toNat)
        have lb := Lp_b hJ (G := (Gp D x2.toInt)) (fun d => Gp_b hJ) x3_4.toInt.toNat
        have d2 := hJ.2.2.2.2.1
        have gg : x7_.toInt = Gp D x2.toInt x3_4.toInt.toNat := by rw [Gp_n (by omega)]; omega
        have hm2 : (I3 a0 2).toInt = D 0 2 := by rw [hF3.get ka0 rfl]; exact hd2
        refine r_callV hC (As := [.int x7_, .int x3_3]) (rest := []) (ci := 2) (f_X2_towards g (xL X) K len I3 J R hs3 a0 ka0 x7_ x3_3 (by omega) (by omega) (by omega) (by omega) (by omega) (by omega)) mT_3_110 mT_1_6 mT_3_107 mT_3_109 mP_20 okX2_towards ⟨by decide, by decide⟩ rfl (by show kO (K a0) = _; rw [ka0]; rfl) rfl rfl (Nat.le_of_ble_eq_true rfl) ⟨by decide, by decide⟩ dX2_fillByPlan_33 (aI0 (F := fun st M => P g X 5 36 [(0, .ref a0), (1, .ref a1), (2, .int x2), (3, .int x3_3), (4, .int x3_4)] st _ _ M) (M := (K, len, I3, J, R)) fun x8_ h8 => ?_)
        have k8_0 := h8
        clear h8
        show P g X 5 36 [(0, .ref a0), (1, .ref a1), (2, .int x2), (3, .int x3_3), (4, .int x3_4)] [.int x8_] _ _ (K, len, I3, J, R)
        have tf : x8_.toInt = Lp D (Gp D x2.toInt) (x3_4.toInt.toNat + 1) := by show _ = tw (D 0 2) (Gp D x2.toInt _) (Lp D (Gp D x2.toInt) _); rw [k8_0, gg, v3_2, hm2]
        refine r_istore_n hC (lv' := [(3, .int x8_), (0, .ref a0), (1, .ref a1), (2, .int x2), (4, .int x3_4)]) dX2_fillByPlan_36 (by decide) rfl ?_
        refine r_aload_n hC dX2_fillByPlan_37 2 rfl ?_
        refine r_iload hC dX2_fillByPlan_38 4 rfl ?_
        refine r_iload_n hC dX2_fillByPlan_40 0 rfl ?_
        refine x_iastore hC ka1 na1 (by decide) rfl rfl dX2_fillByPlan_41 (by omega) (by omega) (fun I9 eI9 => ?_)
        have hs9 := hs3.put0 eI9 ka1 (rng_arr (by decide) _) rfl (xF_arr (by decide) _) (by decide)
        have hF9 := hF3.put eI9 ka1 (inS_arr rfl _)
        obtain ⟨x10_, e10⟩ : ∃ z : Int32, z = x3_4 + Int32.ofInt (1) := ⟨_, rfl⟩
        refine r_iinc hC (j := 4) (v := x10_) (lv' := [(4, .int x10_), (3, .int x8_), (0, .ref a0), (1, .ref a1), (2, .int x2)]) dX2_fillByPlan_42 rfl (by rw [e10]) (by decide) rfl ?_
        try have t10 : x10_.toInt = x3_4.toInt + (1) := by rw [e10]; exact (ti_add (b := Int32.ofInt (1)) (by show _ ≤ _ + (1 : Int); omega) (by show _ + (1 : Int) ≤ _; omega))
        refine r_goto hC (tgt := 8) dX2_fillByPlan_45 (by decide) ?_
        refine r_sub [2, 3, 4, 1, 0] rfl ?_
        exact ih3 ((60 - x10_.toInt).toNat) (by omega) x10_ x8_ I9 hs9 hF9 (by omega) (by omega) (by first | (rw [show x10_.toInt.toNat = 0 by omega]; show _ = D 0 1; omega) | (rw [show x10_.toInt.toNat = x3_4.toInt.toNat + 1 by omega]; exact tf)) (by first | exact all_0 (P := fun j => (I a1 j).toInt = Lp D (Gp D x2.toInt) (j + 1)) (q := 0) (by omega) | exact fillf_s (f := fun j => Lp D (Gp D x2.toInt) (j + 1)) (k := x3_4.toNatClampNeg) v3_3 eI9 (by have h9 := clampI (i := x3_4) (by omega); omega) (by rw [clx (i := x3_4) rfl (by omega)]; exact tf) (by omega)) (by first | exact fun b k hb => rfl | exact fill_o v3_4 eI9) rfl
      · refine r_aload_n hC dX2_fillByPlan_22 0 rfl ?_
        refine r_iload hC dX2_fillByPlan_23 4 rfl ?_
        refine r_callV hC (As := [.int x3_4]) (rest := [.ref a0]) (ci := 2) (f_X2_goalOf g (xL X) K len I3 J R hs3 a0 ka0 x3_4 hz khz hu D hJ (rwd.mv hcx qC_big hF3 rfl) (by rw [hF3.get ka0 rfl]; exact hd1) (by rw [hF3.get ka0 rfl]; exact hd2) (by rw [hF3.get ka0 rfl]; exact hd3) (by rw [hF3.get ka0 rfl]; exact hd4)) mT_3_105 mT_1_6 mT_3_102 mT_3_104 mP_19 okX2_goalOf ⟨by decide, by decide⟩ rfl (by show kO (K a0) = _; rw [ka0]; rfl) rfl rfl (Nat.le_of_ble_eq_true rfl) ⟨by decide, by decide⟩ dX2_fillByPlan_25 (aI0 (F := fun st M => P g X 5 28 [(0, .ref a0), (1, .ref a1), (2, .int x2), (3, .int x3_3), (4, .int x3_4)] st _ _ M) (M := (K, len, I3, J, R)) fun x11_ h11 => ?_)
        have k11_0 := h11
        clear h11
        show P g X 5 28 [(0, .ref a0), (1, .ref a1), (2, .int x2), (3, .int x3_3), (4, .int x3_4)] [.int x11_, .ref a0] _ _ (K, len, I3, J, R)
        refine r_goto hC (tgt := 32) dX2_fillByPlan_28 (by decide) ?_
        refine r_iload_n hC dX2_fillByPlan_32 3 rfl ?_
        have gb := Gp_b hJ (down := x2.toInt) (d := x3_4.toInt.toNat)
        have lb := Lp_b hJ (G := (Gp D x2.toInt)) (fun d => Gp_b hJ) x3_4.toInt.toNat
        have d2 := hJ.2.2.2.2.1
        have gg : x11_.toInt = Gp D x2.toInt x3_4.toInt.toNat := by rw [Gp_t (by omega), show ((x3_4.toInt.toNat : Nat) : Int) = x3_4.toInt by omega]; exact k11_0
        have hm2 : (I3 a0 2).toInt = D 0 2 := by rw [hF3.get ka0 rfl]; exact hd2
        refine r_callV hC (As := [.int x11_, .int x3_3]) (rest := []) (ci := 2) (f_X2_towards g (xL X) K len I3 J R hs3 a0 ka0 x11_ x3_3 (by omega) (by omega) (by omega) (by omega) (by omega) (by omega)) mT_3_110 mT_1_6 mT_3_107 mT_3_109 mP_20 okX2_towards ⟨by decide, by decide⟩ rfl (by show kO (K a0) = _; rw [ka0]; rfl) rfl rfl (Nat.le_of_ble_eq_true rfl) ⟨by decide, by decide⟩ dX2_fillByPlan_33 (aI0 (F := fun st M => P g X 5 36 [(0, .ref a0), (1, .ref a1), (2, .int x2), (3, .int x3_3), (4, .int x3_4)] st _ _ M) (M := (K, len, I3, J, R)) fun x12_ h12 => ?_)
        have k12_0 := h12
        clear h12
        show P g X 5 36 [(0, .ref a0), (1, .ref a1), (2, .int x2), (3, .int x3_3), (4, .int x3_4)] [.int x12_] _ _ (K, len, I3, J, R)
        have tf : x12_.toInt = Lp D (Gp D x2.toInt) (x3_4.toInt.toNat + 1) := by show _ = tw (D 0 2) (Gp D x2.toInt _) (Lp D (Gp D x2.toInt) _); rw [k12_0, gg, v3_2, hm2]
        refine r_istore_n hC (lv' := [(3, .int x12_), (0, .ref a0), (1, .ref a1), (2, .int x2), (4, .int x3_4)]) dX2_fillByPlan_36 (by decide) rfl ?_
        refine r_aload_n hC dX2_fillByPlan_37 2 rfl ?_
        refine r_iload hC dX2_fillByPlan_38 4 rfl ?_
        refine r_iload_n hC dX2_fillByPlan_40 0 rfl ?_
        refine x_iastore hC ka1 na1 (by decide) rfl rfl dX2_fillByPlan_41 (by omega) (by omega) (fun I13 eI13 => ?_)
        have hs13 := hs3.put0 eI13 ka1 (rng_arr (by decide) _) rfl (xF_arr (by decide) _) (by decide)
        have hF13 := hF3.put eI13 ka1 (inS_arr rfl _)
        obtain ⟨x14_, e14⟩ : ∃ z : Int32, z = x3_4 + Int32.ofInt (1) := ⟨_, rfl⟩
        refine r_iinc hC (j := 4) (v := x14_) (lv' := [(4, .int x14_), (3, .int x12_), (0, .ref a0), (1, .ref a1), (2, .int x2)]) dX2_fillByPlan_42 rfl (by rw [e14]) (by decide) rfl ?_
        try have t14 : x14_.toInt = x3_4.toInt + (1) := by rw [e14]; exact (ti_add (b := Int32.ofInt (1)) (by show _ ≤ _ + (1 : Int); omega) (by show _ + (1 : Int) ≤ _; omega))
        refine r_goto hC (tgt := 8) dX2_fillByPlan_45 (by decide) ?_
        refine r_sub [2, 3, 4, 1, 0] rfl ?_
        exact ih3 ((60 - x14_.toInt).toNat) (by omega) x14_ x12_ I13 hs13 hF13 (by omega) (by omega) (by first | (rw [show x14_.toInt.toNat = 0 by omega]; show _ = D 0 1; omega) | (rw [show x14_.toInt.toNat = x3_4.toInt.toNat + 1 by omega]; exact tf)) (by first | exact all_0 (P := fun j => (I a1 j).toInt = Lp D (Gp D x2.toInt) (j + 1)) (q := 0) (by omega) | exact fillf_s (f := fun j => Lp D (Gp D x2.toInt) (j + 1)) (k := x3_4.toNatClampNeg) v3_3 eI13 (by have h9 := clampI (i := x3_4) (by omega); omega) (by rw [clx (i := x3_4) rfl (by omega)]; exact tf) (by omega)) (by first | exact fun b k hb => rfl | exact fill_o v3_4 eI13) rfl
  refine r_sub [2, 3, 4, 1, 0] rfl ?_
  exact LP3 _ x2_ x1_ I hs hF (by omega) (by omega) (by first | (rw [show x2_.toInt.toNat = 0 by omega]; show _ = D 0 1; omega) | (rw [show x2_.toInt.toNat = x3_4.toInt.toNat + 1 by omega]; exact tf)) (by first | exact all_0 (P := fun j => (I a1 j).toInt = Lp D (Gp D x2.toInt) (j + 1)) (q := 0) (by omega) | exact fillf_s (f := fun j => Lp D (Gp D x2.toInt) (j + 1)) (k := x3_4.toNatClampNeg) v3_3 eI (by have h9 := clampI (i := x3_4) (by omega); omega) (by rw [clx (i := x3_4) rfl (by omega)]; exact tf) (by omega)) (by first | exact fun b k hb => rfl | exact fill_o v3_4 eI) rfl
set_option maxHeartbeats 4000000 in
set_option maxRecDepth 100000 in
theorem f_X8_planAnew (g : GG) (l : Launch) (K len : Nat → Nat) (I : Nat → Nat → Int32) (J : Nat → Nat → Int64) (R : Nat → Nat → Option Nat) (hs : Sf K len I R) (a0 : Nat) (ka0 : K a0 = 9) (h : Nat) (hh : R a0 2 = some h) (kh : K h = 2) (lk : Nat) (hlk2 : R h 0 = some lk) (klk : K lk = 3) (hu : UU K R) (D : DD) (hJ : DJ D) (rwd : RW (CC h lk R) (cntN D) D I) (hd1 : (I lk 1).toInt = D 0 1) (hd2 : (I lk 2).toInt = D 0 2) (hd3 : (I lk 3).toInt = D 0 3) (hd4 : (I lk 4).toInt = D 0 4) (lv : Nat) (hlv : R a0 4 = some lv) (klv : K lv = 41) (llv : len lv = 60) (kn : Nat) (hkn : R a0 6 = some kn) (kkn : K kn = 43) (lkn : len kn = 6) : Ct g l yX8_planAnew cX8_planAnew 2 (Option.none : Option Jvm.ClassFile.FieldType) rmX8_planAnew [.ref a0] (K, len, I, J, R) (pV1 (K, len, I, J, R) (fun I' => Sf K len I' R ∧ Fr K [(41, 999), (43, 999)] I I' ∧ (LvR D lv I') ∧ (∀ j : Nat, j < 6 → (I' kn j).toInt = 0))) := by
  refine Ct_intro (by decide +kernel) (Nat.le_of_ble_eq_true rfl) (fun X hC hL hKK hNm hr hlk hQ => ?_)
  subst hL
  have hC : Cx g X cX8_planAnew "HillTap" 2 rmX8_planAnew := hC
  show P g X 2 0 [(0, .ref a0)] [] 0 0 (K, len, I, J, R)
  have hF : Fr K [(41, 999), (43, 999)] I I := Fr.refl
  refine r_aload_n hC dX8_planAnew_0 0 rfl ?_
  refine r_getr hC 2 (ci := 8) rfl u8_in (by decide) mT_2_80 dX8_planAnew_1 ka0 rfl rfl hh ?_
  refine r_getr hC 0 (ci := 1) rfl u1_in (by decide) mT_1_182 dX8_planAnew_4 kh rfl rfl hlk2 ?_
  refine r_aload_n hC dX8_planAnew_7 0 rfl ?_
  refine r_getr hC 4 (ci := 8) rfl u8_in (by decide) mT_2_82 dX8_planAnew_8 ka0 rfl rfl hlv ?_
  refine r_bipush hC (v := (60)) dX8_planAnew_11 (by decide) (by decide) (fun x1_ e1 t1 => ?_)
  refine r_callV hC (As := [.ref lv, .int x1_]) (rest := []) (ci := 2) (f_X2_fillByPlan g (xL X) K len I J R hs lk klk lv klv llv x1_ h kh hu D hJ rwd hd1 hd2 hd3 hd4) mT_3_101 mT_1_6 mT_3_98 mT_3_99 mT_3_100 okX2_fillByPlan ⟨by decide, by decide⟩ rfl (by show kO (K lk) = _; rw [klk]; rfl) rfl rfl (Nat.le_of_ble_eq_true rfl) ⟨by decide, by decide⟩ dX8_planAnew_13 (aV1 (F := fun st M => P g X 2 16 [(0, .ref a0)] st _ _ M) (M := (K, len, I, J, R)) fun I2 h2 => ?_)
  obtain ⟨hs2, hf2, k2_0, k2_1⟩ := h2
  show P g X 2 16 [(0, .ref a0)] [] _ _ (K, len, I2, J, R)
  have hF2 : Fr K [(41, 999), (43, 999)] I I2 := hF.trans hf2 rfl rfl
  have lvr : LvR D lv I2 := fun j hj => by have h9 := k2_0 j hj; rw [t1] at h9; exact h9
  refine r_iconst hC (v := (0)) dX8_planAnew_16 (by decide) (by decide) (fun x3_ e3 t3 => ?_)
  refine r_istore_n hC (lv' := [(1, .int x3_), (0, .ref a0)]) dX8_planAnew_17 (by decide) rfl ?_
  have LP4 : ∀ (mu : Nat) (x4_1 : Int32) (I4 : Nat → Nat → Int32) (hs4 : Sf K len I4 R) (hF4 : Fr K [(41, 999), (43, 999)] I I4) (v4_0 : 0 ≤ x4_1.toInt) (v4_1 : x4_1.toInt ≤ 6) (v4_2 : LvR D lv I4) (v4_3 : ∀ j : Nat, 0 ≤ j → (j : Int) < x4_1.toInt → (I4 kn j).toInt = 0), (6 - x4_1.toInt).toNat = mu → P g X 2 18 [(0, .ref a0), (1, .int x4_1)] [] 0 0 (K, len, I4, J, R) := by
    intro mu; induction mu using Nat.strongRecOn with | ind mu ih => ?_
    intro x4_1 I4 hs4 hF4 v4_0 v4_1 v4_2 v4_3 hmu
    have ih4 := ih
    clear ih
    have hmu4 := hmu
    clear hmu
    refine r_iload_n hC dX8_planAnew_18 1 rfl ?_
    refine r_bipush hC (v := (6)) dX8_planAnew_19 (by decide) (by decide) (fun x5_ e5 t5 => ?_)
    refine r_icmp_ge hC (tgt := 37) dX8_planAnew_21 (by decide) (fun c6 => ?_) (fun c6 => ?_)
    · exact r_vret hC hQ hlk hr (by decide) (by decide) dX8_planAnew_37 ⟨_, rfl, rfl, ⟨hs4, hF4, (by exact v4_2), (by exact fun j hj => v4_3 j (Nat.zero_le j) (by omega))⟩⟩
    · refine r_aload_n hC dX8_planAnew_24 0 rfl ?_
      refine r_getr hC 6 (ci := 8) rfl u8_in (by decide) mT_2_84 dX8_planAnew_25 ka0 rfl rfl hkn ?_
      refine r_iload_n hC dX8_planAnew_28 1 rfl ?_
      refine r_iconst hC (v := (0)) dX8_planAnew_29 (by decide) (by decide) (fun x7_ e7 t7 => ?_)
      refine x_zastore hC kkn lkn (by decide) rfl rfl dX8_planAnew_30 (by omega) (by omega) (fun I8 eI8 => ?_)
      have hs8 := hs4.put0 eI8 kkn (rng_arr (by decide) _) rfl (xF_arr (by decide) _) (by decide)
      have hF8 := hF4.put eI8 kkn (inS_arr rfl _)
      obtain ⟨x9_, e9⟩ : ∃ z : Int32, z = x4_1 + Int32.ofInt (1) := ⟨_, rfl⟩
      refine r_iinc hC (j := 1) (v := x9_) (lv' := [(1, .int x9_), (0, .ref a0)]) dX8_planAnew_31 rfl (by rw [e9]) (by decide) rfl ?_
      try have t9 : x9_.toInt = x4_1.toInt + (1) := by rw [e9]; exact (ti_add (b := Int32.ofInt (1)) (by show _ ≤ _ + (1 : Int); omega) (by show _ + (1 : Int) ≤ _; omega))
      refine r_goto hC (tgt := 18) dX8_planAnew_34 (by decide) ?_
      refine r_sub [1, 0] rfl ?_
      exact ih4 ((6 - x9_.toInt).toNat) (by omega) x9_ I8 hs8 hF8 (by omega) (by omega) (by first | exact lvr | exact v4_2.put eI8 kkn klv (by decide)) (by first | (intro j h1 h2; exfalso; omega) | exact fill_s (k := x4_1.toNatClampNeg) v4_3 eI8 (by have h9 := clampI (i := x4_1) (by omega); omega) (by rw [e7]; rfl) (by omega)) rfl
  refine r_sub [1, 0] rfl ?_
  exact LP4 _ x3_ I2 hs2 hF2 (by omega) (by omega) (by first | exact lvr | exact v4_2.put eI2 kkn klv (by decide)) (by first | (intro j h1 h2; exfalso; omega) | exact fill_s (k := x4_1.toNatClampNeg) v4_3 eI2 (by have h9 := clampI (i := x4_1) (by omega); omega) (by rw [NOkz]; rfl) (by omega)) rfl

