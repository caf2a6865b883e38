theorem gs_m2 {v : Nat → Int} {e g : Int} (he : 0 ≤ e) : ∀ {p : Nat}, gs v e g p = -2 → g = -2 ∧ ∀ q, q < p → ¬ 100 ≤ v q
  | 0, h => ⟨h, fun q hq => absurd hq (by omega)⟩
  | p + 1, h => by
    by_cases hc : 100 ≤ v p
    · rw [gs_t hc] at h; omega
    · rw [gs_n hc] at h
      obtain ⟨h1, h2⟩ := gs_m2 he h
      refine ⟨h1, fun q hq => ?_⟩
      by_cases hqp : q = p
      · rw [hqp]; exact hc
      · exact h2 q (by omega)
theorem gs_all {v : Nat → Int} {e g : Int} : ∀ {p : Nat}, (∀ q, q < p → ¬ 100 ≤ v q) → gs v e g p = g
  | 0, _ => rfl
  | p + 1, h => by rw [gs_n (h p (by omega))]; exact gs_all (fun q hq => h q (by omega))
theorem Ps_dm {f g : Nat → Int} (h : ∀ j, f j ≤ g j) : ∀ {n m : Nat}, n ≤ m → Ps f m - Ps f n ≤ Ps g m - Ps g n
  | n, 0, hn => by have e : n = 0 := by omega
                   rw [e]; simp
  | n, m + 1, hn => by
    by_cases e : n = m + 1
    · rw [e]; simp
    · have h1 := Ps_dm h (n := n) (m := m) (by omega)
      have h2 := h m
      simp only [Ps]; omega
section DOWN
variable {D : DD} {s d p : Nat} {A A' L L' G G' : Nat → Int} {v v' w w' : Int}
theorem Rs_m (hv : v ≤ v') (hw : w ≤ w') : Rs D s d v' w' p ≤ Rs D s d v w p := by unfold Rs; split <;> split <;> omega
theorem Sp_m (hA : A d ≤ A' d) (hv : v ≤ v') (hw : w ≤ w') : Sp D s A d v w p ≤ Sp D s A' d v' w' p := by
  have h := Rs_m (D := D) (s := s) (d := d) (p := p) hv hw
  unfold Sp; omega
theorem Sp_0 : 0 ≤ Sp D s A d v w p := by unfold Sp; omega
theorem Cs_m (hA : ∀ d, A d ≤ A' d) : ∀ n, GV D s A' n = -2 → GV D s A n = -2 ∧ ∀ p, (Cs D s A n).1 p ≤ (Cs D s A' n).1 p ∧ (Cs D s A n).2.1 p ≤ (Cs D s A' n).2.1 p ∧ (Cs D s A n).2.2.1 p ≤ (Cs D s A' n).2.2.1 p
  | 0, _ => ⟨rfl, fun p => ⟨Int.le_refl _, Int.le_refl _, Int.le_refl _⟩⟩
  | n + 1, h => by
    rw [GV_s] at h
    obtain ⟨h1, h2⟩ := gs_m2 (by omega) h
    obtain ⟨g1, g2⟩ := Cs_m hA n h1
    have e1 : ∀ p, SV D s A n p = Sp D s A n ((Cs D s A n).1 p) ((Cs D s A n).2.2.1 p) p := fun p => by rw [SV_eq, if_pos g1]
    have e2 : ∀ p, SV D s A' n p = Sp D s A' n ((Cs D s A' n).1 p) ((Cs D s A' n).2.2.1 p) p := fun p => by rw [SV_eq, if_pos h1]
    have sv : ∀ p, SV D s A n p ≤ SV D s A' n p := fun p => by rw [e1, e2]; exact Sp_m (hA n) (g2 p).1 (g2 p).2.2
    have s0 : ∀ p, 0 ≤ SV D s A' n p := fun p => by rw [e2]; exact Sp_0
    have nv : ∀ p, NV D s A n p ≤ NV D s A' n p := fun p => by
      have a := NV_eq (D := D) (s := s) (A := A) (d := n) (p := p); have b := NV_eq (D := D) (s := s) (A := A') (d := n) (p := p)
      have c := sv p; have c2 := (g2 p).2.1; omega
    refine ⟨?_, fun p => ⟨sv p, nv p, ?_⟩⟩
    · rw [GV_s, gs_all (fun q hq => by have a := h2 q hq; have b := sv q; omega)]; exact g1
    · show WV D s A n p ≤ WV D s A' n p
      have a := sv p; have b := s0 p; have c := (g2 p).2.2; have e := nv p
      rw [WV_eq, WV_eq]; split <;> split <;> omega
theorem tw_m {m g g' l l' : Int} (hm : 0 ≤ m) (hg : g ≤ g') (hl : l ≤ l') : tw m g l ≤ tw m g' l' := by unfold tw; split <;> split <;> omega
theorem Lp_m (hm : 0 ≤ D 0 2) (hG : ∀ d, G d ≤ G' d) : ∀ n, Lp D G n ≤ Lp D G' n
  | 0 => Int.le_refl _
  | n + 1 => tw_m hm (hG n) (Lp_m hm hG n)
theorem Lp_cg : ∀ {n : Nat}, (∀ d, d < n → G d = G' d) → Lp D G n = Lp D G' n
  | 0, _ => rfl
  | n + 1, h => by
    show tw (D 0 2) (G n) (Lp D G n) = tw (D 0 2) (G' n) (Lp D G' n)
    rw [h n (by omega), Lp_cg (fun d hd => h d (by omega))]
theorem Hi_ge : ∀ n, Lp D G n ≤ Hi (D 0 1) (fun j => Lp D G (j + 1)) n
  | 0 => Int.le_refl _
  | n + 1 => by show _ ≤ max (Hi (D 0 1) (fun j => Lp D G (j + 1)) n) (Lp D G (n + 1)); omega
theorem Hi_up : ∀ {n : Nat}, (∀ i, i < n → Lp D G i ≤ Lp D G (i + 1)) → Hi (D 0 1) (fun j => Lp D G (j + 1)) n = Lp D G n
  | 0, _ => rfl
  | n + 1, h => by
    have h1 := Hi_up (n := n) (fun i hi => h i (by omega))
    have h2 := h n (by omega)
    show max (Hi (D 0 1) (fun j => Lp D G (j + 1)) n) (Lp D G (n + 1)) = Lp D G (n + 1)
    rw [h1]; omega
theorem St_i {g g' : Int} (hm : 0 ≤ D 0 2) (hg : g ≤ g') (h0 : D 0 1 ≤ g) : ∀ n, (Lp D (fun _ => g) n ≤ g ∧ Lp D (fun _ => g') n ≤ g') ∧ (Lp D (fun _ => g) n = g ∨ Lp D (fun _ => g) n = Lp D (fun _ => g') n)
  | 0 => ⟨⟨h0, by show D 0 1 ≤ g'; omega⟩, Or.inr rfl⟩
  | n + 1 => by
    have h := St_i hm hg h0 n
    show (tw (D 0 2) g (Lp D (fun _ => g) n) ≤ g ∧ tw (D 0 2) g' (Lp D (fun _ => g') n) ≤ g') ∧ (tw (D 0 2) g (Lp D (fun _ => g) n) = g ∨ tw (D 0 2) g (Lp D (fun _ => g) n) = tw (D 0 2) g' (Lp D (fun _ => g') n))
    unfold tw; split <;> split <;> omega
theorem St_d {g : Int} (hm : 0 ≤ D 0 2) (h0 : g ≤ D 0 1) : ∀ n, g ≤ Lp D (fun _ => g) n
  | 0 => h0
  | n + 1 => by
    have h := St_d hm h0 n
    show g ≤ tw (D 0 2) g (Lp D (fun _ => g) n)
    unfold tw; split <;> omega
theorem rise_s (hJ : DJ D) {g g' : Int} (hg : g ≤ g') (n : Nat) : max 0 (Lp D (fun _ => g) (n + 1) - Hi (D 0 1) (fun j => Lp D (fun _ => g) (j + 1)) n) ≤ max 0 (Lp D (fun _ => g') (n + 1) - Hi (D 0 1) (fun j => Lp D (fun _ => g') (j + 1)) n) := by
  have hm : 0 ≤ D 0 2 := by have := hJ.2.2.2.2.1; omega
  by_cases h0 : D 0 1 ≤ g
  · have u1 : ∀ i, Lp D (fun _ => g) i ≤ Lp D (fun _ => g) (i + 1) := fun i => by
      have h := St_i hm hg h0 i
      show _ ≤ tw (D 0 2) g (Lp D (fun _ => g) i)
      unfold tw; split <;> omega
    have u2 : ∀ i, Lp D (fun _ => g') i ≤ Lp D (fun _ => g') (i + 1) := fun i => by
      have h := St_i hm hg h0 i
      show _ ≤ tw (D 0 2) g' (Lp D (fun _ => g') i)
      unfold tw; split <;> omega
    rw [Hi_up (G := fun _ => g) (fun i _ => u1 i), Hi_up (G := fun _ => g') (fun i _ => u2 i)]
    have h := St_i hm hg h0 n
    show max 0 (tw (D 0 2) g (Lp D (fun _ => g) n) - Lp D (fun _ => g) n) ≤ max 0 (tw (D 0 2) g' (Lp D (fun _ => g') n) - Lp D (fun _ => g') n)
    unfold tw; split <;> split <;> omega
  · have h := St_d (D := D) (g := g) hm (by omega) n
    have h1 : Lp D (fun _ => g) (n + 1) ≤ Lp D (fun _ => g) n := by show tw (D 0 2) g (Lp D (fun _ => g) n) ≤ _; unfold tw; split <;> omega
    have h2 := Hi_ge (D := D) (G := fun _ => g) n
    omega
theorem Ad_m (hJ : DJ D) (hs : (s : Int) < D 0 7) {w : Int} (hL : ∀ j, L j ≤ L' j) (d : Nat) (hr : max 0 (L d - Hi (D 0 1) L d) ≤ max 0 (L' d - Hi (D 0 1) L' d)) : Ad D s L w d ≤ Ad D s L' w d := by
  have j8 := hJ.k8 s
  have jm := hJ.2.2.2.2.2.1 s hs
  by_cases c1 : D 7 s = 1
  · rw [Ad_1 (L := L) c1, Ad_1 (L := L') c1]
    have h := Int.mul_le_mul_of_nonneg_left hr j8.1
    omega
  by_cases c2 : D 7 s = 2
  · rw [Ad_2 (L := L) c2, Ad_2 (L := L') c2]
    have h3 := jm.2.1 c2
    have hp := Ps_dm hL (n := d + 1 - (D 9 s).toNat) (m := d + 1) (by omega)
    have hd := Int.ediv_le_ediv (show 0 < min (D 9 s) ((d : Int) + 1) by omega) hp
    have h := Int.mul_le_mul_of_nonneg_left hd j8.1
    omega
  by_cases c5 : D 7 s = 5
  · by_cases hw : w = 0
    · rw [Ad_5n (L := L) c5 hw, Ad_5n (L := L') c5 hw]; exact Int.le_refl _
    · rw [Ad_5 (L := L) c5 hw, Ad_5 (L := L') c5 hw]; exact Int.le_refl _
  · rw [Ad_d (L := L) ⟨c1, c2, c5⟩, Ad_d (L := L') ⟨c1, c2, c5⟩]
    have h := Int.mul_le_mul_of_nonneg_left (hL d) j8.1
    omega
end DOWN
def Hq (D : DD) (s : Nat) (g : Int) : Int := GV D s (Ad D s (fun j => Lp D (fun _ => g) (j + 1)) 1) 60
theorem Hq_m {D : DD} {s : Nat} (hJ : DJ D) (hs : (s : Int) < D 0 7) {m d : Int} (hmd : m ≤ d) (h : Hq D s d = -2) : Hq D s m = -2 := (Cs_m (fun k => Ad_m hJ hs (fun j => Lp_m (by have := hJ.2.2.2.2.1; omega) (fun i => hmd) (j + 1)) k (rise_s hJ hmd k)) 60 h).1
def Lst (f : Nat → Int) : Nat → Int
  | 0 => -2
  | n + 1 => if f n = -2 then (n : Int) else Lst f n
theorem Ls_t {f : Nat → Int} {n : Nat} (h : f n = -2) : Lst f (n + 1) = n := by simp only [Lst]; rw [if_pos h]
theorem Ls_n {f : Nat → Int} {n : Nat} (h : f n ≠ -2) : Lst f (n + 1) = Lst f n := by simp only [Lst]; rw [if_neg h]
theorem Ls_of {f : Nat → Int} {b : Int} : ∀ {n : Nat}, (∀ d : Nat, b < (d : Int) → d < n → f d ≠ -2) → (b = -1 ∨ (0 ≤ b ∧ b < n ∧ f b.toNat = -2)) → Lst f n = if b = -1 then -2 else b
  | 0, _, hb => by
    have h : b = -1 := by rcases hb with h | h; exact h; omega
    rw [if_pos h]; rfl
  | n + 1, h1, hb => by
    by_cases e : b = (n : Int)
    · rcases hb with h | ⟨h2, h3, h4⟩
      · omega
      · rw [e, Int.toNat_natCast] at h4
        rw [Ls_t h4, if_neg (by omega), e]
    · have h2 : f n ≠ -2 ∨ (n : Int) ≤ b := by
        by_cases y : b < (n : Int)
        · exact Or.inl (h1 n y (by omega))
        · exact Or.inr (by omega)
      rcases h2 with h2 | h2
      · rw [Ls_n h2]
        exact Ls_of (fun d y1 y2 => h1 d y1 (by omega)) (by rcases hb with h | ⟨y2, y3, y4⟩; exact Or.inl h; exact Or.inr ⟨y2, by omega, y4⟩)
      · exfalso; rcases hb with h | ⟨y2, y3, y4⟩ <;> omega

set_option maxHeartbeats 4000000 in
set_option maxRecDepth 100000 in
theorem a_X8_safe (g : GG) (l : Launch) (K len : Nat → Nat) (I : Nat → Nat → Int32) (J : Nat → Nat → Int64) (R : Nat → Nat → Option Nat) (hs : Sf K len I R) (a0 : Nat) (ka0 : K a0 = 9) (x1 : Int32) (h : Nat) (hh : R a0 2 = some h) (kh : K h = 2) (lk : Nat) (hlk2 : R h 0 = some lk) (klk : K lk = 3) (rd : Nat) (hrd : R a0 9 = some rd) (krd : K rd = 4) (lv : Nat) (hlv : R a0 4 = some lv) (klv : K lv = 41) (llv : len lv = 60) (kn : Nat) (hkn : R a0 6 = some kn) (kkn : K kn = 43) (lkn : len kn = 6) (cr : Nat) (hcr : R a0 5 = some cr) (kcr1 : K cr = 44) (lcr : len cr = 6) (hu : UU K R) (D : DD) (E : Nat → Nat → Int) (hc : KC D E a0 h lk rd I R) : Ct g l yX8_safe cX8_safe 6 (Option.some Jvm.ClassFile.FieldType.int) rmX8_safe [.ref a0, .int x1] (K, len, I, J, R) (pI1 (K, len, I, J, R) (fun r I' => Sf K len I' R ∧ Fr K [(1, 5), (1, 6), (9, 12), (41, 999), (50, 999), (51, 999), (52, 999), (53, 999), (54, 999)] I I' ∧ (KC D E a0 h lk rd I' R) ∧ ((0 ≤ x1.toInt ∧ x1.toInt < D 0 7) ∧ r.toInt = Lst (fun n => Hq D x1.toInt.toNat n) (D 0 3 + 1).toNat ∨ ¬ (0 ≤ x1.toInt ∧ x1.toInt < D 0 7) ∧ r.toInt = -1) ∧ ((I' a0 12).toInt ≠ 4))) := by
  refine Ct_intro (by decide +kernel) (Nat.le_of_ble_eq_true rfl) (fun X hC hL hKK hNm hr hlk hQ => ?_)
  subst hL
  have hC : Cx g X cX8_safe "HillTap" 6 rmX8_safe := hC
  show P g X 6 0 [(0, .ref a0), (1, .int x1)] [] 0 0 (K, len, I, J, R)
  have hF : Fr K [(1, 5), (1, 6), (9, 12), (41, 999), (50, 999), (51, 999), (52, 999), (53, 999), (54, 999)] I I := Fr.refl
  have ka : KA a0 h lk rd K len R := ⟨⟨_, hs⟩, hu, ka0, kh, klk, krd⟩
  obtain ⟨sd1, sd2, sd3, sd4, sd5, sd7, sd8, sd9⟩ := id hc.2.1
  have d7b := hs.rng kh (k := 6) rfl (x := I h 6) rfl
  have d5b := hs.rng kh (k := 1) rfl (x := I h 1) rfl
  have d8b := hs.rng kh (k := 8) rfl (x := I h 8) rfl
  have b_x1 := ti_rng x1
  refine r_aload_n hC dX8_safe_0 0 rfl ?_
  refine r_iload_n hC dX8_safe_1 1 rfl ?_
  refine r_callV hC (As := [.int x1]) (rest := []) (ci := 8) (f_X8_isStory g (xL X) K len I J R hs a0 ka0 x1 h hh kh) mT_3_155 mT_1_1 mT_3_152 mT_3_154 mP_24 okX8_isStory ⟨by decide, by decide⟩ rfl (by show kO (K a0) = _; rw [ka0]; rfl) rfl rfl (Nat.le_of_ble_eq_true rfl) ⟨by decide, by decide⟩ dX8_safe_2 (aI0 (F := fun st M => P g X 6 5 [(0, .ref a0), (1, .int x1)] st _ _ M) (M := (K, len, I, J, R)) fun x1_ h1 => ?_)
  have k1_0 := h1
  clear h1
  show P g X 6 5 [(0, .ref a0), (1, .int x1)] [.int x1_] _ _ (K, len, I, J, R)
  rcases k1_0 with ⟨hr1, hw1⟩ | ⟨hr1, hw1⟩
  · refine r_if_ne hC (tgt := 14) dX8_safe_5 (by decide) (fun c2 => ?_) (fun c2 => ?_)
    rotate_left
    · exfalso; omega
    obtain ⟨hJ, h6x, -⟩ := hc.2.2.1 (by omega)
    have hsx : ((x1.toInt.toNat : Nat) : Int) < D 0 7 := by omega
    have d3b := hJ.2.2.2.2.1
    refine r_iconst hC (v := (-1)) dX8_safe_14 (by decide) (by decide) (fun x3_ e3 t3 => ?_)
    refine r_istore_n hC (lv' := [(2, .int x3_), (0, .ref a0), (1, .int x1)]) dX8_safe_15 (by decide) rfl ?_
    refine r_aload_n hC dX8_safe_16 1 rfl ?_
    refine r_getr hC 2 (ci := 8) rfl u8_in (by decide) mT_2_80 dX8_safe_17 ka0 rfl rfl hh ?_
    refine r_getr hC 0 (ci := 1) rfl u1_in (by decide) mT_1_182 dX8_safe_20 kh rfl rfl hlk2 ?_
    refine r_geti hC 3 (ci := 2) rfl u2_in (by decide) mT_1_127 dX8_safe_23 klk rfl rfl (fun x4_ e4 => ?_)
    have f4 : x4_.toInt = (I lk 3).toInt := by rw [e4]
    have sc4 : x4_.toInt = D 0 3 := by rw [e4]; exact hc.2.1.2.2.1
    refine r_istore_n hC (lv' := [(3, .int x4_), (2, .int x3_), (0, .ref a0), (1, .int x1)]) dX8_safe_26 (by decide) rfl ?_
    refine r_iconst hC (v := (0)) dX8_safe_27 (by decide) (by decide) (fun x5_ e5 t5 => ?_)
    refine r_istore hC (lv' := [(4, .int x5_), (3, .int x4_), (2, .int x3_), (0, .ref a0), (1, .int x1)]) dX8_safe_28 (by decide) rfl ?_
    have LP6 : ∀ (mu : Nat) (x6_4 : Int32) (x6_3 : Int32) (x6_2 : Int32) (I6 : Nat → Nat → Int32) (hs6 : Sf K len I6 R) (hF6 : Fr K [(1, 5), (1, 6), (9, 12), (41, 999), (50, 999), (51, 999), (52, 999), (53, 999), (54, 999)] I I6) (v6_0 : 0 ≤ x6_4.toInt) (v6_1 : x6_4.toInt ≤ 1000) (v6_2 : -1 ≤ x6_2.toInt ∧ x6_2.toInt ≤ x6_3.toInt ∧ x6_3.toInt < D 0 3 + 1) (v6_3 : x6_3.toInt - x6_2.toInt ≤ 1000 - x6_4.toInt) (v6_4 : x6_2.toInt = -1 ∨ Hq D x1.toInt.toNat x6_2.toInt = -2) (v6_5 : ∀ d : Nat, x6_3.toInt < d → (d : Int) < D 0 3 + 1 → Hq D x1.toInt.toNat d ≠ -2) (v6_6 : KC D E a0 h lk rd I6 R), (1000 - x6_4.toInt).toNat = mu → P g X 6 30 [(0, .ref a0), (1, .int x1), (2, .int x6_2), (3, .int x6_3), (4, .int x6_4)] [] 0 0 (K, len, I6, J, R) := by
      intro mu; induction mu using Nat.strongRecOn with | ind mu ih => ?_
      intro x6_4 x6_3 x6_2 I6 hs6 hF6 v6_0 v6_1 v6_2 v6_3 v6_4 v6_5 v6_6 hmu
      have ih6 := ih
      clear ih
      have hmu6 := hmu
      clear hmu
      refine r_iload hC dX8_safe_30 4 rfl ?_
      refine r_sipush hC (v := (1000)) dX8_safe_32 (by decide) (by decide) (fun x7_ e7 t7 => ?_)
      refine r_icmp_ge hC (tgt := 79) dX8_safe_35 (by decide) (fun c8 => ?_) (fun c8 => ?_)
      · refine r_aload_n hC dX8_safe_79 0 rfl ?_
        refine r_iload_n hC dX8_safe_80 2 rfl ?_
        refine r_iconst hC (v := (-1)) dX8_safe_81 (by decide) (by decide) (fun x9_ e9 t9 => ?_)
        refine r_icmp_ne hC (tgt := 90) dX8_safe_82 (by decide) (fun c10 => ?_) (fun c10 => ?_)
        · refine r_iload_n hC dX8_safe_90 2 rfl ?_
          refine r_callV hC (As := [.int x6_2]) (rest := []) (ci := 8) (c_X8_answer g (xL X) K len I6 J R hs6 a0 ka0 x6_2) mT_3_115 mT_1_1 mT_3_112 mT_3_114 mP_21 okX8_answer ⟨by decide, by decide⟩ rfl (by show kO (K a0) = _; rw [ka0]; rfl) rfl rfl (Nat.le_of_ble_eq_true rfl) ⟨by decide, by decide⟩ dX8_safe_91 (aI1 (F := fun st M => P g X 6 94 [(0, .ref a0), (1, .int x1), (2, .int x6_2), (3, .int x6_3), (4, .int x6_4)] st _ _ M) (M := (K, len, I6, J, R)) fun x11_ I11 h11 => ?_)
          obtain ⟨hs11, hf11, k11_0, k11_1⟩ := h11
          show P g X 6 94 [(0, .ref a0), (1, .int x1), (2, .int x6_2), (3, .int x6_3), (4, .int x6_4)] [.int x11_] _ _ (K, len, I11, J, R)
          have hF11 : Fr K [(1, 5), (1, 6), (9, 12), (41, 999), (50, 999), (51, 999), (52, 999), (53, 999), (54, 999)] I I11 := hF6.trans hf11 rfl rfl
          have hc11 := v6_6.mv ka hf11 rfl
          exact r_iret hC hQ hlk hr rfl (by decide) (by decide) dX8_safe_94 ⟨_, _, rfl, rfl, ⟨hs11, hF11, (by exact hc11), (by first | exact Or.inr ⟨by omega, by omega⟩ | exact Or.inl ⟨by omega, (congrArg Int32.toInt k11_0).trans (by rw [Ls_of (b := x6_2.toInt) (n := (D 0 3 + 1).toNat) (fun d h1 h2 => v6_5 d (by omega) (by omega)) (by rcases v6_4 with z | z; exact Or.inl z; by_cases y : x6_2.toInt = -1; exact Or.inl y; exact Or.inr ⟨by omega, by omega, by show Hq D _ ((x6_2.toInt.toNat : Nat) : Int) = -2; rw [Int.toNat_of_nonneg (by omega)]; exact z⟩)]; first | (rw [if_pos (by omega)]; omega) | (rw [if_neg (by omega)]) | (rw [if_neg (by omega)]; omega))⟩), (by omega)⟩⟩
        · refine r_bipush hC (v := (-2)) dX8_safe_85 (by decide) (by decide) (fun x12_ e12 t12 => ?_)
          refine r_goto hC (tgt := 91) dX8_safe_87 (by decide) ?_
          refine r_callV hC (As := [.int x12_]) (rest := []) (ci := 8) (c_X8_answer g (xL X) K len I6 J R hs6 a0 ka0 x12_) mT_3_115 mT_1_1 mT_3_112 mT_3_114 mP_21 okX8_answer ⟨by decide, by decide⟩ rfl (by show kO (K a0) = _; rw [ka0]; rfl) rfl rfl (Nat.le_of_ble_eq_true rfl) ⟨by decide, by decide⟩ dX8_safe_91 (aI1 (F := fun st M => P g X 6 94 [(0, .ref a0), (1, .int x1), (2, .int x6_2), (3, .int x6_3), (4, .int x6_4)] st _ _ M) (M := (K, len, I6, J, R)) fun x13_ I13 h13 => ?_)
          obtain ⟨hs13, hf13, k13_0, k13_1⟩ := h13
          show P g X 6 94 [(0, .ref a0), (1, .int x1), (2, .int x6_2), (3, .int x6_3), (4, .int x6_4)] [.int x13_] _ _ (K, len, I13, J, R)
          have hF13 : Fr K [(1, 5), (1, 6), (9, 12), (41, 999), (50, 999), (51, 999), (52, 999), (53, 999), (54, 999)] I I13 := hF6.trans hf13 rfl rfl
          have hc13 := v6_6.mv ka hf13 rfl
          exact r_iret hC hQ hlk hr rfl (by decide) (by decide) dX8_safe_94 ⟨_, _, rfl, rfl, ⟨hs13, hF13, (by exact hc13), (by first | exact Or.inr ⟨by omega, by omega⟩ | exact Or.inl ⟨by omega, (congrArg Int32.toInt k13_0).trans (by rw [Ls_of (b := x6_2.toInt) (n := (D 0 3 + 1).toNat) (fun d h1 h2 => v6_5 d (by omega) (by omega)) (by rcases v6_4 with z | z; exact Or.inl z; by_cases y : x6_2.toInt = -1; exact Or.inl y; exact Or.inr ⟨by omega, by omega, by show Hq D _ ((x6_2.toInt.toNat : Nat) : Int) = -2; rw [Int.toNat_of_nonneg (by omega)]; exact z⟩)]; first | (rw [if_pos (by omega)]; omega) | (rw [if_neg (by omega)]) | (rw [if_neg (by omega)]; omega))⟩), (by omega)⟩⟩
      · refine r_iload_n hC dX8_safe_38 2 rfl ?_
        refine r_iload_n hC dX8_safe_39 3 rfl ?_
        refine r_icmp_ge hC (tgt := 79) dX8_safe_40 (by decide) (fun c14 => ?_) (fun c14 => ?_)
        · refine r_aload_n hC dX8_safe_79 0 rfl ?_
          refine r_iload_n hC dX8_safe_80 2 rfl ?_
          refine r_iconst hC (v := (-1)) dX8_safe_81 (by decide) (by decide) (fun x15_ e15 t15 => ?_)
          refine r_icmp_ne hC (tgt := 90) dX8_safe_82 (by decide) (fun c16 => ?_) (fun c16 => ?_)
          · refine r_iload_n hC dX8_safe_90 2 rfl ?_
            refine r_callV hC (As := [.int x6_2]) (rest := []) (ci := 8) (c_X8_answer g (xL X) K len I6 J R hs6 a0 ka0 x6_2) mT_3_115 mT_1_1 mT_3_112 mT_3_114 mP_21 okX8_answer ⟨by decide, by decide⟩ rfl (by show kO (K a0) = _; rw [ka0]; rfl) rfl rfl (Nat.le_of_ble_eq_true rfl) ⟨by decide, by decide⟩ dX8_safe_91 (aI1 (F := fun st M => P g X 6 94 [(0, .ref a0), (1, .int x1), (2, .int x6_2), (3, .int x6_3), (4, .int x6_4)] st _ _ M) (M := (K, len, I6, J, R)) fun x17_ I17 h17 => ?_)
            obtain ⟨hs17, hf17, k17_0, k17_1⟩ := h17
            show P g X 6 94 [(0, .ref a0), (1, .int x1), (2, .int x6_2), (3, .int x6_3), (4, .int x6_4)] [.int x17_] _ _ (K, len, I17, J, R)
            have hF17 : Fr K [(1, 5), (1, 6), (9, 12), (41, 999), (50, 999), (51, 999), (52, 999), (53, 999), (54, 999)] I I17 := hF6.trans hf17 rfl rfl
            have hc17 := v6_6.mv ka hf17 rfl
            exact r_iret hC hQ hlk hr rfl (by decide) (by decide) dX8_safe_94 ⟨_, _, rfl, rfl, ⟨hs17, hF17, (by exact hc17), (by first | exact Or.inr ⟨by omega, by omega⟩ | exact Or.inl ⟨by omega, (congrArg Int32.toInt k17_0).trans (by rw [Ls_of (b := x6_2.toInt) (n := (D 0 3 + 1).toNat) (fun d h1 h2 => v6_5 d (by omega) (by omega)) (by rcases v6_4 with z | z; exact Or.inl z; by_cases y : x6_2.toInt = -1; exact Or.inl y; exact Or.inr ⟨by omega, by omega, by show Hq D _ ((x6_2.toInt.toNat : Nat) : Int) = -2; rw [Int.toNat_of_nonneg (by omega)]; exact z⟩)]; first | (rw [if_pos (by omega)]; omega) | (rw [if_neg (by omega)]) | (rw [if_neg (by omega)]; omega))⟩), (by omega)⟩⟩
          · refine r_bipush hC (v := (-2)) dX8_safe_85 (by decide) (by decide) (fun x18_ e18 t18 => ?_)
            refine r_goto hC (tgt := 91) dX8_safe_87 (by decide) ?_
            refine r_callV hC (As := [.int x18_]) (rest := []) (ci := 8) (c_X8_answer g (xL X) K len I6 J R hs6 a0 ka0 x18_) mT_3_115 mT_1_1 mT_3_112 mT_3_114 mP_21 okX8_answer ⟨by decide, by decide⟩ rfl (by show kO (K a0) = _; rw [ka0]; rfl) rfl rfl (Nat.le_of_ble_eq_true rfl) ⟨by decide, by decide⟩ dX8_safe_91 (aI1 (F := fun st M => P g X 6 94 [(0, .ref a0), (1, .int x1), (2, .int x6_2), (3, .int x6_3), (4, .int x6_4)] st _ _ M) (M := (K, len, I6, J, R)) fun x19_ I19 h19 => ?_)
            obtain ⟨hs19, hf19, k19_0, k19_1⟩ := h19
            show P g X 6 94 [(0, .ref a0), (1, .int x1), (2, .int x6_2), (3, .int x6_3), (4, .int x6_4)] [.int x19_] _ _ (K, len, I19, J, R)
            have hF19 : Fr K [(1, 5), (1, 6), (9, 12), (41, 999), (50, 999), (51, 999), (52, 999), (53, 999), (54, 999)] I I19 := hF6.trans hf19 rfl rfl
            have hc19 := v6_6.mv ka hf19 rfl
            exact r_iret hC hQ hlk hr rfl (by decide) (by decide) dX8_safe_94 ⟨_, _, rfl, rfl, ⟨hs19, hF19, (by exact hc19), (by first | exact Or.inr ⟨by omega, by omega⟩ | exact Or.inl ⟨by omega, (congrArg Int32.toInt k19_0).trans (by rw [Ls_of (b := x6_2.toInt) (n := (D 0 3 + 1).toNat) (fun d h1 h2 => v6_5 d (by omega) (by omega)) (by rcases v6_4 with z | z; exact Or.inl z; by_cases y : x6_2.toInt = -1; exact Or.inl y; exact Or.inr ⟨by omega, by omega, by show Hq D _ ((x6_2.toInt.toNat : Nat) : Int) = -2; rw [Int.toNat_of_nonneg (by omega)]; exact z⟩)]; first | (rw [if_pos (by omega)]; omega) | (rw [if_neg (by omega)]) | (rw [if_neg (by omega)]; omega))⟩), (by omega)⟩⟩
        · refine r_iload_n hC dX8_safe_43 2 rfl ?_
          refine r_iload_n hC dX8_safe_44 3 rfl ?_
          refine r_iadd hC dX8_safe_45 (fun x20_ e20 => ?_)
          try have t20 : x20_.toInt = x6_2.toInt + x6_3.toInt := by rw [e20]; exact ti_add (by omega) (by omega)
          refine r_iconst hC (v := (1)) dX8_safe_46 (by decide) (by decide) (fun x21_ e21 t21 => ?_)
          refine r_iadd hC dX8_safe_47 (fun x22_ e22 => ?_)
          try have t22 : x22_.toInt = x20_.toInt + x21_.toInt := by rw [e22]; exact ti_add (by omega) (by omega)
          refine r_iconst hC (v := (2)) dX8_safe_48 (by decide) (by decide) (fun x23_ e23 t23 => ?_)
          refine r_idiv hC dX8_safe_49 (ne_0 (by omega)) (fun x24_ e24 => ?_)
          have td24 : x24_.toInt = x22_.toInt / 2 := by rw [e24, ti_div (by omega) (by omega), show x23_.toInt = 2 by omega]
          refine r_istore hC (lv' := [(5, .int x24_), (0, .ref a0), (1, .int x1), (2, .int x6_2), (3, .int x6_3), (4, .int x6_4)]) dX8_safe_50 (by decide) rfl ?_
          refine r_aload_n hC dX8_safe_52 1 rfl ?_
          refine r_iload_n hC dX8_safe_53 2 rfl ?_
          refine r_iload hC dX8_safe_54 0 rfl ?_
          refine r_callV hC (As := [.int x1, .int x24_]) (rest := []) (ci := 8) (f_X8_staysIfSteady g (xL X) K len I6 J R hs6 a0 ka0 x1 x24_ h hh kh lk hlk2 klk rd hrd krd lv hlv klv llv kn hkn kkn lkn cr hcr kcr1 lcr hu D E v6_6 (by omega) (by omega) (by omega)) mT_4_86 mT_1_1 mT_4_83 mT_4_85 mP_42 okX8_staysIfSteady ⟨by decide, by decide⟩ rfl (by show kO (K a0) = _; rw [ka0]; rfl) rfl rfl (Nat.le_of_ble_eq_true rfl) ⟨by decide, by decide⟩ dX8_safe_56 (aI1 (F := fun st M => P g X 6 59 [(5, .int x24_), (0, .ref a0), (1, .int x1), (2, .int x6_2), (3, .int x6_3), (4, .int x6_4)] st _ _ M) (M := (K, len, I6, J, R)) fun x25_ I25 h25 => ?_)
          obtain ⟨hs25, hf25, k25_0, k25_1⟩ := h25
          show P g X 6 59 [(5, .int x24_), (0, .ref a0), (1, .int x1), (2, .int x6_2), (3, .int x6_3), (4, .int x6_4)] [.int x25_] _ _ (K, len, I25, J, R)
          have hF25 : Fr K [(1, 5), (1, 6), (9, 12), (41, 999), (50, 999), (51, 999), (52, 999), (53, 999), (54, 999)] I I25 := hF6.trans hf25 rfl rfl
          rcases k25_1 with ⟨hr25, hw25⟩ | ⟨hr25, hw25⟩
          · refine r_if_eq hC (tgt := 68) dX8_safe_59 (by decide) (fun c26 => ?_) (fun c26 => ?_)
            · exfalso; omega
            refine r_iload hC dX8_safe_62 0 rfl ?_
            refine r_istore_n hC (lv' := [(2, .int x24_), (5, .int x24_), (0, .ref a0), (1, .int x1), (3, .int x6_3), (4, .int x6_4)]) dX8_safe_64 (by decide) rfl ?_
            refine r_goto hC (tgt := 73) dX8_safe_65 (by decide) ?_
            obtain ⟨x27_, e27⟩ : ∃ z : Int32, z = x6_4 + Int32.ofInt (1) := ⟨_, rfl⟩
            refine r_iinc hC (j := 5) (v := x27_) (lv' := [(4, .int x27_), (2, .int x24_), (5, .int x24_), (0, .ref a0), (1, .int x1), (3, .int x6_3)]) dX8_safe_73 rfl (by rw [e27]) (by decide) rfl ?_
            try have t27 : x27_.toInt = x6_4.toInt + (1) := by rw [e27]; exact (ti_add (b := Int32.ofInt (1)) (by show _ ≤ _ + (1 : Int); omega) (by show _ + (1 : Int) ≤ _; omega))
            refine r_goto hC (tgt := 30) dX8_safe_76 (by decide) ?_
            refine r_sub [3, 4, 1, 5, 0] rfl ?_
            exact ih6 ((1000 - x27_.toInt).toNat) (by omega) x27_ x6_3 x24_ I25 hs25 hF25 (by omega) (by omega) (by omega) (by omega) (by first | exact Or.inl (by omega) | exact Or.inr hw25 | exact v6_4) (by first | (intro d h1 h2; exfalso; omega) | exact v6_5 | exact fun d h1 h2 h3 => hw25 (Hq_m hJ hsx (show x24_.toInt ≤ ((d : Nat) : Int) by omega) h3)) (by exact k25_0) rfl
          · refine r_if_eq hC (tgt := 68) dX8_safe_59 (by decide) (fun c28 => ?_) (fun c28 => ?_)
            rotate_left
            · exfalso; omega
            refine r_iload hC dX8_safe_68 0 rfl ?_
            refine r_iconst hC (v := (1)) dX8_safe_70 (by decide) (by decide) (fun x29_ e29 t29 => ?_)
            refine r_isub hC dX8_safe_71 (fun x30_ e30 => ?_)
            try have t30 : x30_.toInt = x24_.toInt - x29_.toInt := by rw [e30]; exact ti_sub (by omega) (by omega)
            refine r_istore_n hC (lv' := [(3, .int x30_), (5, .int x24_), (0, .ref a0), (1, .int x1), (2, .int x6_2), (4, .int x6_4)]) dX8_safe_72 (by decide) rfl ?_
            obtain ⟨x31_, e31⟩ : ∃ z : Int32, z = x6_4 + Int32.ofInt (1) := ⟨_, rfl⟩
            refine r_iinc hC (j := 5) (v := x31_) (lv' := [(4, .int x31_), (3, .int x30_), (5, .int x24_), (0, .ref a0), (1, .int x1), (2, .int x6_2)]) dX8_safe_73 rfl (by rw [e31]) (by decide) rfl ?_
            try have t31 : x31_.toInt = x6_4.toInt + (1) := by rw [e31]; exact (ti_add (b := Int32.ofInt (1)) (by show _ ≤ _ + (1 : Int); omega) (by show _ + (1 : Int) ≤ _; omega))
            refine r_goto hC (tgt := 30) dX8_safe_76 (by decide) ?_
            refine r_sub [3, 4, 5, 1, 0] rfl ?_
            exact ih6 ((1000 - x31_.toInt).toNat) (by omega) x31_ x30_ x6_2 I25 hs25 hF25 (by omega) (by omega) (by omega) (by omega) (by first | exact Or.inl (by omega) | exact Or.inr hw25 | exact v6_4) (by first | (intro d h1 h2; exfalso; omega) | exact v6_5 | exact fun d h1 h2 h3 => hw25 (Hq_m hJ hsx (show x24_.toInt ≤ ((d : Nat) : Int) by omega) h3)) (by exact k25_0) rfl
    refine r_sub [3, 4, 2, 1, 0] rfl ?_
    exact LP6 _ x5_ x4_ x3_ I hs hF (by omega) (by omega) (by omega) (by omega) (by first | exact Or.inl (by omega) | exact Or.inr hw1 | exact v6_4) (by first | (intro d h1 h2; exfalso; omega) | exact v6_5 | exact fun d h1 h2 h3 => hw1 (Hq_m hJ hsx (show NOx_l5.toInt ≤ ((d : Nat) : Int) by omega) h3)) (by exact hc) rfl
  · refine r_if_ne hC (tgt := 14) dX8_safe_5 (by decide) (fun c32 => ?_) (fun c32 => ?_)
    · exfalso; omega
    refine r_aload_n hC dX8_safe_8 0 rfl ?_
    refine r_iconst hC (v := (1)) dX8_safe_9 (by decide) (by decide) (fun x33_ e33 t33 => ?_)
    refine r_callV hC (As := [.int x33_]) (rest := []) (ci := 8) (c_X8_refuse g (xL X) K len I J R hs a0 ka0 x33_) mT_2_133 mT_1_1 mT_2_130 mT_2_132 mP_0 okX8_refuse ⟨by decide, by decide⟩ rfl (by show kO (K a0) = _; rw [ka0]; rfl) rfl rfl (Nat.le_of_ble_eq_true rfl) ⟨by decide, by decide⟩ dX8_safe_10 (aI1 (F := fun st M => P g X 6 13 [(0, .ref a0), (1, .int x1)] st _ _ M) (M := (K, len, I, J, R)) fun x34_ I34 h34 => ?_)
    obtain ⟨hs34, hf34, k34_0, k34_1⟩ := h34
    show P g X 6 13 [(0, .ref a0), (1, .int x1)] [.int x34_] _ _ (K, len, I34, J, R)
    have hF34 : Fr K [(1, 5), (1, 6), (9, 12), (41, 999), (50, 999), (51, 999), (52, 999), (53, 999), (54, 999)] I I34 := hF.trans hf34 rfl rfl
    have hc34 := hc.mv ka hf34 rfl
    exact r_iret hC hQ hlk hr rfl (by decide) (by decide) dX8_safe_13 ⟨_, _, rfl, rfl, ⟨hs34, hF34, (by exact hc34), (by first | exact Or.inr ⟨by omega, by omega⟩ | exact Or.inl ⟨by omega, (congrArg Int32.toInt k34_0).trans (by rw [Ls_of (b := NOx_l2.toInt) (n := (D 0 3 + 1).toNat) (fun d h1 h2 => NOx_v30_5 d (by omega) (by omega)) (by rcases NOx_v30_4 with z | z; exact Or.inl z; by_cases y : NOx_l2.toInt = -1; exact Or.inl y; exact Or.inr ⟨by omega, by omega, by show Hq D _ ((NOx_l2.toInt.toNat : Nat) : Int) = -2; rw [Int.toNat_of_nonneg (by omega)]; exact z⟩)]; first | (rw [if_pos (by omega)]; omega) | (rw [if_neg (by omega)]) | (rw [if_neg (by omega)]; omega))⟩), (by omega)⟩⟩

