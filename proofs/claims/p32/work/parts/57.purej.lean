def BV (D : DD) : Prop := ∀ r j : Nat, 1 ≤ r → r ≤ 14 → r ≠ 5 → 0 ≤ D r j ∧ D r j ≤ hiB r
section PUREJ
variable {B : Nat → Int} {n p p' : Nat} {D D' : DD}
theorem BV.up (h : BV D) {r0 j0 : Nat} {v : Int} (hv : 1 ≤ r0 → r0 ≤ 14 → r0 ≠ 5 → 0 ≤ v ∧ v ≤ hiB r0) : BV (upD D r0 j0 v) := by
  intro r j h1 h2 h3
  by_cases hc : r = r0 ∧ j = j0
  · obtain ⟨rfl, rfl⟩ := hc; rw [upD_s]; exact hv h1 h2 h3
  · rw [upD_n]
    · exact h r j h1 h2 h3
    · by_cases hr : r = r0
      · exact Or.inr fun hj => hc ⟨hr, hj⟩
      · exact Or.inl hr
theorem dj_0 : DJ (fun _ _ => 0) := by
  refine ⟨fun j => by simp, fun i j h1 => by simp at h1; omega, fun j h1 => by simp at h1; omega, fun r j _ _ _ => ⟨Int.le_refl 0, ?_⟩, by simp, fun j h1 => by simp at h1; omega, fun j h1 => by simp at h1; omega, fun j h1 => by simp at h1; omega⟩
  unfold hiB; repeat' split
  all_goals (show (0 : Int) ≤ _; decide)
theorem dj_adN (h : DJ D) (h0 : 0 ≤ D 0 10) {v : Int} : DJ (adN D v) := by
  obtain ⟨j1, j2, j3, j4, j5, j6, j7, j8⟩ := h
  refine ⟨fun j => by simpa [adN, upD] using j1 j, fun i j => by simpa [adN, upD] using j2 i j, fun j hj => ?_, BV.up (BV.up j4 (by omega)) (by omega), by simpa [adN, upD] using j5, fun j => by simpa [adN, upD] using j6 j, fun j => by simpa [adN, upD] using j7 j, fun j => by simpa [adN, upD] using j8 j⟩
  obtain ⟨i, g1, g2⟩ := j3 j (by simpa [adN, upD] using hj)
  refine ⟨i, by simp [adN, upD]; omega, ?_⟩
  have : i ≠ (D 0 10).toNat := by omega
  simp [adN, upD, this, g2]
theorem dj_aLake (h : DJ D) {a b c : Int} (ha : 0 ≤ a ∧ a ≤ 500) (hb : 1 ≤ b ∧ b ≤ 50) (hc : max 1 a ≤ c ∧ c ≤ 999) : DJ (aLake D a b c) := by
  obtain ⟨j1, j2, j3, j4, j5, j6, j7, j8⟩ := h
  refine ⟨fun j => by simpa [aLake, upD] using j1 j, fun i j => by simpa [aLake, upD] using j2 i j, fun j => by simpa [aLake, upD] using j3 j, BV.up (BV.up (BV.up (BV.up j4 (by omega)) (by omega)) (by omega)) (by omega), by simp [aLake, upD]; omega, fun j => by simpa [aLake, upD] using j6 j, fun j => by simpa [aLake, upD] using j7 j, fun j => by simpa [aLake, upD] using j8 j⟩
theorem dj_aPeg (h : DJ D) (hD : DI D) {a b v : Int} (ha : 0 ≤ a ∧ a ≤ 999) (hb : 0 ≤ b ∧ b ≤ 999) (hv : ∀ j : Nat, (j : Int) < D 0 10 → D 20 j ≠ v) : DJ (aPeg (adN D v) a b v) := by
  have h0 : 0 ≤ D 0 10 ∧ 0 ≤ D 0 5 := by unfold DI at hD; omega
  obtain ⟨k1, k2, k3, -⟩ := id h
  obtain ⟨j1, j2, j3, j4, j5, j6, j7, j8⟩ := dj_adN h h0.1 (v := v)
  have e5 : adN D v 0 5 = D 0 5 := adN_n (by decide)
  have e23 : ∀ j, adN D v 23 j = D 23 j := fun j => by simp [adN, upD]
  refine ⟨fun j => by simpa [aPeg, upD] using j1 j, fun i j h1 h2 h3 => ?_, fun j h1 => ?_, BV.up (BV.up (BV.up (BV.up j4 (fun _ _ _ => ha)) (fun _ _ _ => hb)) (by omega)) (by omega), by simpa [aPeg, upD] using j5, fun j => by simpa [aPeg, upD] using j6 j, fun j => by simpa [aPeg, upD] using j7 j, fun j h1 => ?_⟩
  · have g1 : (i : Int) < D 0 5 + 1 := by simpa [aPeg, upD, e5] using h1
    have g2 : (j : Int) < D 0 5 + 1 := by simpa [aPeg, upD, e5] using h2
    have key : ∀ x : Nat, (x : Int) < D 0 5 → D 23 x ≠ v := fun x hx hz => by
      obtain ⟨i', q1, q2⟩ := k3 x hx
      exact hv i' q1 (q2.trans hz)
    have ev : ∀ x : Nat, aPeg (adN D v) a b v 23 x = if x = (D 0 5).toNat then v else D 23 x := fun x => by simp [aPeg, upD, e5, e23]
    rw [ev, ev] at h3
    by_cases hi : i = (D 0 5).toNat
    · by_cases hj : j = (D 0 5).toNat
      · omega
      · rw [if_pos hi, if_neg hj] at h3; exact absurd h3.symm (key j (by omega))
    · by_cases hj : j = (D 0 5).toNat
      · rw [if_neg hi, if_pos hj] at h3; exact absurd h3 (key i (by omega))
      · rw [if_neg hi, if_neg hj] at h3; exact k2 i j (by omega) (by omega) h3
  · have g1 : (j : Int) < D 0 5 + 1 := by simpa [aPeg, upD, e5] using h1
    by_cases hj : j = (D 0 5).toNat
    · refine ⟨(D 0 10).toNat, by simp [aPeg, adN, upD]; omega, ?_⟩
      subst hj; simp [aPeg, adN, upD]
    · obtain ⟨i, q1, q2⟩ := j3 j (by rw [e5]; omega)
      refine ⟨i, by simpa [aPeg, upD] using q1, ?_⟩
      have hj' : ¬ j = (adN D v 0 5).toNat := by rw [e5]; exact hj
      simpa [aPeg, upD, hj'] using q2
  · have g := j8 j (by simpa [aPeg, upD] using h1)
    have e : aPeg (adN D v) a b v 13 j = adN D v 13 j := by simp [aPeg, upD]
    have e' : aPeg (adN D v) a b v 0 5 = adN D v 0 5 + 1 := by simp [aPeg, upD]
    rw [e, e']; omega
theorem dj_aFrom (h : DJ D) {a b : Int} (ha : 0 ≤ a ∧ a ≤ 59) (hb : 0 ≤ b ∧ b ≤ 999) : DJ (aFrom D a b) := by
  obtain ⟨j1, j2, j3, j4, j5, j6, j7, j8⟩ := h
  refine ⟨fun j => by simpa [aFrom, upD] using j1 j, fun i j => by simpa [aFrom, upD] using j2 i j, fun j => by simpa [aFrom, upD] using j3 j, BV.up (BV.up (BV.up j4 (fun _ _ _ => ha)) (fun _ _ _ => hb)) (by omega), by simpa [aFrom, upD] using j5, fun j => by simpa [aFrom, upD] using j6 j, fun j => by simpa [aFrom, upD] using j7 j, fun j => by simpa [aFrom, upD] using j8 j⟩
theorem dj_aRain (h : DJ D) {a b : Int} (hb : 1 ≤ b ∧ b ≤ 99) : DJ (aRain D a b) := by
  obtain ⟨j1, j2, j3, j4, j5, j6, j7, j8⟩ := h
  refine ⟨fun j => ?_, fun i j => by simpa [aRain, upD] using j2 i j, fun j => by simpa [aRain, upD] using j3 j, BV.up (BV.up j4 (by omega)) (by omega), by simpa [aRain, upD] using j5, fun j => by simpa [aRain, upD] using j6 j, fun j => by simpa [aRain, upD] using j7 j, fun j => by simpa [aRain, upD] using j8 j⟩
  have g := j1 j
  have e6 : aRain D a b 0 6 = D 0 6 + 1 := by simp [aRain, upD]
  rw [e6]
  by_cases hj : j = a.toNat
  · have e : aRain D a b 5 j = D 5 j + b := by subst hj; simp [aRain, upD]
    rw [e]; omega
  · have e : aRain D a b 5 j = D 5 j := by simp [aRain, upD, hj]
    rw [e]; omega
theorem dj_aStory (h : DJ D) (h0 : 0 ≤ D 0 7) {w k x m : Int} (hw : 1 ≤ w ∧ w ≤ 99) (hk : 0 ≤ k ∧ k ≤ 5) (hx : 0 ≤ x ∧ x ≤ 99) (hm : 0 ≤ m ∧ m ≤ 999) (hm2 : k = 2 → 1 ≤ m ∧ m ≤ 20) (hm4 : k = 4 → 1 ≤ m ∧ m ≤ 99) : DJ (aStory D w k x m) := by
  obtain ⟨j1, j2, j3, j4, j5, j6, j7, j8⟩ := h
  refine ⟨fun j => by simpa [aStory, upD] using j1 j, fun i j => by simpa [aStory, upD] using j2 i j, fun j => by simpa [aStory, upD] using j3 j, BV.up (BV.up (BV.up (BV.up (BV.up j4 (fun _ _ _ => ⟨by omega, hw.2⟩)) (fun _ _ _ => hk)) (fun _ _ _ => hx)) (fun _ _ _ => hm)) (by omega), by simpa [aStory, upD] using j5, fun j h1 => ?_, fun j => by simpa [aStory, upD] using j7 j, fun j => by simpa [aStory, upD] using j8 j⟩
  have g1 : (j : Int) < D 0 7 + 1 := by simpa [aStory, upD] using h1
  by_cases hj : j = (D 0 7).toNat
  · have e6 : aStory D w k x m 6 j = w := by subst hj; simp [aStory, upD]
    have e7 : aStory D w k x m 7 j = k := by subst hj; simp [aStory, upD]
    have e9 : aStory D w k x m 9 j = m := by subst hj; simp [aStory, upD]
    rw [e6, e7, e9]; exact ⟨hw.1, hm2, hm4⟩
  · have e6 : aStory D w k x m 6 j = D 6 j := by simp [aStory, upD, hj]
    have e7 : aStory D w k x m 7 j = D 7 j := by simp [aStory, upD, hj]
    have e9 : aStory D w k x m 9 j = D 9 j := by simp [aStory, upD, hj]
    rw [e6, e7, e9]; exact j6 j (by omega)
theorem dj_aVil (h : DJ D) (h0 : 0 ≤ D 0 8) {a b c : Int} (ha : 0 ≤ a ∧ a ≤ 999) (hb : 1 ≤ b ∧ b ≤ 999) (hc : 0 ≤ c ∧ c ≤ 30) : DJ (aVil D a b c) := by
  obtain ⟨j1, j2, j3, j4, j5, j6, j7, j8⟩ := h
  refine ⟨fun j => by simpa [aVil, upD] using j1 j, fun i j => by simpa [aVil, upD] using j2 i j, fun j => by simpa [aVil, upD] using j3 j, BV.up (BV.up (BV.up (BV.up j4 (fun _ _ _ => ha)) (fun _ _ _ => ⟨by omega, hb.2⟩)) (fun _ _ _ => hc)) (by omega), by simpa [aVil, upD] using j5, fun j => by simpa [aVil, upD] using j6 j, fun j h1 => ?_, fun j => by simpa [aVil, upD] using j8 j⟩
  have g1 : (j : Int) < D 0 8 + 1 := by simpa [aVil, upD] using h1
  by_cases hj : j = (D 0 8).toNat
  · have e : aVil D a b c 11 j = b := by subst hj; simp [aVil, upD]
    rw [e]; exact hb.1
  · have e : aVil D a b c 11 j = D 11 j := by simp [aVil, upD, hj]
    rw [e]; exact j7 j (by omega)
theorem dj_aKno (h : DJ D) (h0 : 0 ≤ D 0 9) {a b : Int} (ha : 0 ≤ a ∧ a ≤ 4) (ha5 : a < D 0 5) (hb : 0 ≤ b ∧ b ≤ 999) : DJ (aKno D a b) := by
  obtain ⟨j1, j2, j3, j4, j5, j6, j7, j8⟩ := h
  refine ⟨fun j => by simpa [aKno, upD] using j1 j, fun i j => by simpa [aKno, upD] using j2 i j, fun j => by simpa [aKno, upD] using j3 j, BV.up (BV.up (BV.up j4 (fun _ _ _ => ha)) (fun _ _ _ => hb)) (by omega), by simpa [aKno, upD] using j5, fun j => by simpa [aKno, upD] using j6 j, fun j => by simpa [aKno, upD] using j7 j, fun j h1 => ?_⟩
  have g1 : (j : Int) < D 0 9 + 1 := by simpa [aKno, upD] using h1
  have e5 : aKno D a b 0 5 = D 0 5 := by simp [aKno, upD]
  rw [e5]
  by_cases hj : j = (D 0 9).toNat
  · have e : aKno D a b 13 j = a := by subst hj; simp [aKno, upD]
    rw [e]; exact ha5
  · have e : aKno D a b 13 j = D 13 j := by simp [aKno, upD, hj]
    rw [e]; exact j8 j (by omega)
theorem pgx_lt {v : Int} (h5 : D 0 5 ≤ 5) (h : ∃ j : Nat, (j : Int) < D 0 5 ∧ D 23 j = v) : 0 ≤ pgx D v ∧ pgx D v ≤ 4 ∧ pgx D v < D 0 5 := by
  obtain ⟨j, h1, h2⟩ := h
  unfold pgx
  by_cases c0 : D 23 0 = v
  · rw [pif_t c0]; omega
  rw [pif_f c0]
  by_cases c1 : D 23 1 = v
  · rw [pif_t c1]; have : j ≠ 0 := fun z => c0 (by rw [← z]; exact h2)
    omega
  rw [pif_f c1]
  by_cases c2 : D 23 2 = v
  · rw [pif_t c2]; have : j ≠ 0 := fun z => c0 (by rw [← z]; exact h2)
    have : j ≠ 1 := fun z => c1 (by rw [← z]; exact h2)
    omega
  rw [pif_f c2]
  have n0 : j ≠ 0 := fun z => c0 (by rw [← z]; exact h2)
  have n1 : j ≠ 1 := fun z => c1 (by rw [← z]; exact h2)
  have n2 : j ≠ 2 := fun z => c2 (by rw [← z]; exact h2)
  by_cases c3 : D 23 3 = v
  · rw [pif_t c3]; omega
  · rw [pif_f c3]
    have n3 : j ≠ 3 := fun z => c3 (by rw [← z]; exact h2)
    omega
theorem sMore_v {k v : Int} (hp : p ≤ n) (h : sMore B n p k = .ok (v, p')) : (0 ≤ v ∧ v ≤ 999) ∧ (k = 2 → 1 ≤ v ∧ v ≤ 20) ∧ (k = 4 → 1 ≤ v ∧ v ≤ 99) := by
  unfold sMore at h
  rcases pif_i h with ⟨h1, h⟩ | ⟨h1, h⟩
  · have := sNum_go hp h; omega
  · rcases pif_i h with ⟨h1, h⟩ | ⟨h1, h⟩
    · have := sNum_go hp h; omega
    · rcases pif_i h with ⟨h1, h⟩ | ⟨h1, h⟩
      · have := sNum_go hp h; omega
      · cases h; omega
theorem sFresh_v (h : sFresh B n p D = .ok (D', p')) : ∀ j : Nat, (j : Int) < D 0 10 → D 20 j ≠ vl B n p := by
  have h1 := sFresh_nm h
  unfold sFresh at h; rw [pif_t h1] at h
  rcases pif_i h with ⟨h2, h⟩ | ⟨h2, h⟩
  · cases h
  · exact fun j hj hz => h2 ⟨j, hj, hz⟩
theorem sKind_v : sKind B n p = -1 ∨ (0 ≤ sKind B n p ∧ sKind B n p ≤ 5) := by
  unfold sKind
  by_cases c0 : isW B n p 15
  · rw [pif_t c0]; omega
  rw [pif_f c0]
  by_cases c1 : isW B n p 16
  · rw [pif_t c1]; omega
  rw [pif_f c1]
  by_cases c2 : isW B n p 17
  · rw [pif_t c2]; omega
  rw [pif_f c2]
  by_cases c3 : isW B n p 18
  · rw [pif_t c3]; omega
  rw [pif_f c3]
  by_cases c4 : isW B n p 19
  · rw [pif_t c4]; omega
  rw [pif_f c4]
  by_cases c5 : isW B n p 20
  · rw [pif_t c5]; omega
  rw [pif_f c5]; omega
theorem sLine_dj (hp : p ≤ n) (hD : DI D) (hJ : DJ D) (h : sLine B n p D = .ok (D', p')) : DJ D' := by
  have hd := id hD
  unfold DI at hd
  unfold sLine at h
  rcases pif_i h with ⟨h1, h⟩ | ⟨hn, h⟩
  · have h0 := nx_go hp (show kd B n p ≠ 0 by rw [h1.1]; decide)
    unfold sLake at h
    rcases pif_i h with ⟨h2, h⟩ | ⟨h2, h⟩
    · cases h
    · obtain ⟨⟨a, q1⟩, e1, h⟩ := bnd_oki h
      have g1 := sNum_go h0.2 e1
      obtain ⟨⟨b, q2⟩, e2, h⟩ := bnd_oki h
      have g2 := sNum_go g1.1.2 e2
      obtain ⟨⟨c, q3⟩, e3, h⟩ := bnd_oki h
      have g3 := sNum_go g2.1.2 e3
      cases h
      exact dj_aLake hJ g1.2 g2.2 g3.2
  rcases pif_i h with ⟨h1, h⟩ | ⟨hn, h⟩
  · have h0 := nx_go hp (show kd B n p ≠ 0 by rw [h1.1]; decide)
    unfold sPeg at h
    rcases pif_i h with ⟨h2, h⟩ | ⟨h2, h⟩
    · cases h
    · obtain ⟨⟨f, q1⟩, e1, h⟩ := bnd_oki h
      have hv := sFresh_v e1
      obtain ⟨g1, rfl⟩ := sFresh_go h0.2 e1
      obtain ⟨⟨b, q2⟩, e2, h⟩ := bnd_oki h
      have g2 := sNum_go g1.2 e2
      obtain ⟨⟨c, q3⟩, e3, h⟩ := bnd_oki h
      have g3 := sNum_go g2.1.2 e3
      cases h
      exact dj_aPeg hJ hD g2.2 g3.2 hv
  rcases pif_i h with ⟨h1, h⟩ | ⟨hn, h⟩
  · have h0 := nx_go hp (show kd B n p ≠ 0 by rw [h1.1]; decide)
    unfold sFrom at h
    rcases pif_i h with ⟨h2, h⟩ | ⟨h2, h⟩
    · cases h
    · obtain ⟨⟨b, q2⟩, e2, h⟩ := bnd_oki h
      have g2 := sWhole_go h0.2 e2
      obtain ⟨⟨c, q3⟩, e3, h⟩ := bnd_oki h
      have g3 := sNum_go g2.1.2 e3
      cases h
      exact dj_aFrom hJ g2.2 g3.2
  rcases pif_i h with ⟨h1, h⟩ | ⟨hn, h⟩
  · have h0 := nx_go hp (show kd B n p ≠ 0 by rw [h1.1]; decide)
    unfold sRain at h
    rcases pif_i h with ⟨h2, h⟩ | ⟨h2, h⟩
    · cases h
    · obtain ⟨⟨b, q2⟩, e2, h⟩ := bnd_oki h
      have g2 := sWhole_go h0.2 e2
      obtain ⟨⟨c, q3⟩, e3, h⟩ := bnd_oki h
      have g3 := sNum_go g2.1.2 e3
      cases h
      exact dj_aRain hJ g3.2
  rcases pif_i h with ⟨h1, h⟩ | ⟨hn, h⟩
  · have h0 := nx_go hp (show kd B n p ≠ 0 by rw [h1.1]; decide)
    unfold sStory at h
    rcases pif_i h with ⟨h2, h⟩ | ⟨h2, h⟩
    · cases h
    · obtain ⟨⟨f, q1⟩, e1, h⟩ := bnd_oki h
      obtain ⟨g1, rfl⟩ := sFresh_go h0.2 e1
      obtain ⟨⟨b, q2⟩, e2, h⟩ := bnd_oki h
      have g2 := sNum_go g1.2 e2
      rcases pif_i h with ⟨h3, h⟩ | ⟨h3, h⟩
      · cases h
      · obtain ⟨⟨c, q3⟩, e3, h⟩ := bnd_oki h
        have g3 := sWhole_go (nx_le g2.1.2).2 e3
        obtain ⟨⟨d, q4⟩, e4, h⟩ := bnd_oki h
        have g4 := sMore_v g3.1.2 e4
        have g5 := sKind_v (B := B) (n := n) (p := q2)
        cases h
        refine dj_aStory (dj_adN hJ (by omega)) (by rw [adN_n (by decide)]; omega) g2.2 ?_ g3.2 g4.1 g4.2.1 g4.2.2
        rcases g5 with g5 | g5
        · exact absurd g5 h3
        · exact g5
  rcases pif_i h with ⟨h1, h⟩ | ⟨hn, h⟩
  · have h0 := nx_go hp (show kd B n p ≠ 0 by rw [h1.1]; decide)
    unfold sVillage at h
    rcases pif_i h with ⟨h2, h⟩ | ⟨h2, h⟩
    · cases h
    · obtain ⟨⟨f, q1⟩, e1, h⟩ := bnd_oki h
      obtain ⟨g1, rfl⟩ := sFresh_go h0.2 e1
      obtain ⟨⟨b, q2⟩, e2, h⟩ := bnd_oki h
      have g2 := sNum_go g1.2 e2
      obtain ⟨⟨c, q3⟩, e3, h⟩ := bnd_oki h
      have g3 := sNum_go g2.1.2 e3
      obtain ⟨⟨d, q4⟩, e4, h⟩ := bnd_oki h
      have g4 := sNum_go g3.1.2 e4
      cases h
      exact dj_aVil (dj_adN hJ (by omega)) (by rw [adN_n (by decide)]; omega) g2.2 g3.2 g4.2
  rcases pif_i h with ⟨h1, h⟩ | ⟨hn, h⟩
  · have h0 := nx_go hp (show kd B n p ≠ 0 by rw [h1.1]; decide)
    unfold sKnower at h
    rcases pif_i h with ⟨h2, h⟩ | ⟨h2, h⟩
    · cases h
    · obtain ⟨⟨f, q1⟩, e1, h⟩ := bnd_oki h
      obtain ⟨g1, rfl⟩ := sFresh_go h0.2 e1
      rcases pif_i h with ⟨h3, h⟩ | ⟨h3, h⟩
      · rcases pif_i h with ⟨h4, h⟩ | ⟨h4, h⟩
        · rcases pif_i h with ⟨h5, h⟩ | ⟨h5, h⟩
          · obtain ⟨⟨b, q2⟩, e2, h⟩ := bnd_oki h
            have g5 := nx_le (B := B) g1.2
            have g7 := nx_le (B := B) g5.2
            have g2 := sNum_go g7.2 e2
            have e5 : adN D (vl B n (nx B n p)) 0 5 = D 0 5 := adN_n (by decide)
            have g8 := pgx_lt (D := adN D (vl B n (nx B n p))) (by rw [e5]; omega) h5
            cases h
            exact dj_aKno (dj_adN hJ (by omega)) (by rw [adN_n (by decide)]; omega) ⟨g8.1, g8.2.1⟩ g8.2.2 g2.2
          · cases h
        · cases h
      · cases h
  cases h
end PUREJ
