theorem bnd_oki {α β : Type} {x : ER α} {f : α → ER β} {b : β} (h : bnd x f = .ok b) : ∃ a, x = .ok a ∧ f a = .ok b := by
  cases x with
  | error e => cases h
  | ok a => exact ⟨a, rfl, h⟩
theorem bnd_eri {α β : Type} {x : ER α} {f : α → ER β} {e : Int × Nat} (h : bnd x f = .error e) : x = .error e ∨ ∃ a, x = .ok a ∧ f a = .error e := by
  cases x with
  | error e' => left; cases h; rfl
  | ok a => exact Or.inr ⟨a, rfl, h⟩
theorem pif_i {α : Type} {c : Prop} {a b r : α} (h : pif c a b = r) : (c ∧ a = r) ∨ (¬ c ∧ b = r) := by
  by_cases hc : c
  · rw [pif_t hc] at h; exact Or.inl ⟨hc, h⟩
  · rw [pif_f hc] at h; exact Or.inr ⟨hc, h⟩
section PURE
variable {B : Nat → Int} {n p p' : Nat} {D D' : DD} {kf : Int} {qf : Nat}
theorem rn_gt {f : Nat → Bool} {n q : Nat} (h : q < n) (hf : f q = true) : q < rn f n q := by
  obtain ⟨h1, h2, h3, h4⟩ := rn_spec (f := f) (show q ≤ n by omega)
  rcases Nat.lt_or_eq_of_le h1 with z | z
  · exact z
  · rw [← z] at h4; have h5 := h4 h; rw [hf] at h5; cases h5
theorem nx_gt (h : kd B n p ≠ 0) : pl B n p < nx B n p := by
  have h1 : ¬ n ≤ pl B n p := fun z => h (by unfold kd; rw [if_pos z])
  unfold nx
  rw [if_neg h1]
  split
  · rename_i z; exact rn_gt (by omega) z
  · split
    · rename_i z; exact rn_gt (by omega) z
    · omega
theorem nx_go (hp : p ≤ n) (h : kd B n p ≠ 0) : p < nx B n p ∧ nx B n p ≤ n := by
  have h1 := pl_le (B := B) hp; have h2 := nx_le (B := B) hp; have h3 := nx_gt h; omega
theorem sWhole_go {lo hi v : Int} (hp : p ≤ n) (h : sWhole B n p lo hi = .ok (v, p')) : (p < p' ∧ p' ≤ n) ∧ lo ≤ v ∧ v ≤ hi := by
  unfold sWhole at h
  rcases pif_i h with ⟨h1, h⟩ | ⟨h1, h⟩
  · rcases pif_i h with ⟨h2, h⟩ | ⟨h2, h⟩
    · cases h
    · cases h; exact ⟨nx_go hp (by omega), by omega⟩
  · cases h
theorem sWhole_er {lo hi : Int} (h : sWhole B n p lo hi = .error (kf, qf)) : 1 ≤ kf := by
  unfold sWhole at h
  rcases pif_i h with ⟨h1, h⟩ | ⟨h1, h⟩
  · rcases pif_i h with ⟨h2, h⟩ | ⟨h2, h⟩
    · cases h; decide
    · cases h
  · cases h; decide
theorem sNum_go {i : Nat} {lo hi v : Int} (hp : p ≤ n) (h : sNum B n p i lo hi = .ok (v, p')) : (p < p' ∧ p' ≤ n) ∧ lo ≤ v ∧ v ≤ hi := by
  unfold sNum at h
  rcases pif_i h with ⟨h1, h⟩ | ⟨h1, h⟩
  · have h2 := nx_go hp (show kd B n p ≠ 0 by rw [h1.1]; decide)
    have h3 := sWhole_go h2.2 h
    exact ⟨by omega, h3.2⟩
  · cases h
theorem sNum_er {i : Nat} {lo hi : Int} (h : sNum B n p i lo hi = .error (kf, qf)) : 1 ≤ kf := by
  unfold sNum at h
  rcases pif_i h with ⟨h1, h⟩ | ⟨h1, h⟩
  · exact sWhole_er h
  · cases h; decide
theorem sFresh_go (hp : p ≤ n) (h : sFresh B n p D = .ok (D', p')) : (p < p' ∧ p' ≤ n) ∧ D' = adN D (vl B n p) := by
  have h1 := sFresh_nm h
  unfold sFresh at h; rw [pif_t h1] at h
  rcases pif_i h with ⟨h2, h⟩ | ⟨h2, h⟩
  · cases h
  · cases h; exact ⟨nx_go hp (by rw [h1.1]; decide), rfl⟩
theorem sFresh_er (h : sFresh B n p D = .error (kf, qf)) : 1 ≤ kf := by
  unfold sFresh at h
  rcases pif_i h with ⟨h1, h⟩ | ⟨h1, h⟩
  · rcases pif_i h with ⟨h2, h⟩ | ⟨h2, h⟩
    · cases h; decide
    · cases h
  · cases h; decide
theorem sMore_go {k v : Int} (hp : p ≤ n) (h : sMore B n p k = .ok (v, p')) : p ≤ p' ∧ p' ≤ n := by
  unfold sMore at h
  rcases pif_i h with ⟨h1, h⟩ | ⟨h1, h⟩
  · have := sNum_go hp h; omega
  · rcases pif_i h with ⟨h1, h⟩ | ⟨h1, h⟩
    · have := sNum_go hp h; omega
    · rcases pif_i h with ⟨h1, h⟩ | ⟨h1, h⟩
      · have := sNum_go hp h; omega
      · cases h; omega
theorem sMore_er {k : Int} (h : sMore B n p k = .error (kf, qf)) : 1 ≤ kf := by
  unfold sMore at h
  rcases pif_i h with ⟨h1, h⟩ | ⟨h1, h⟩
  · exact sNum_er h
  · rcases pif_i h with ⟨h1, h⟩ | ⟨h1, h⟩
    · exact sNum_er h
    · rcases pif_i h with ⟨h1, h⟩ | ⟨h1, h⟩
      · exact sNum_er h
      · cases h
theorem di_aLake (h : DI D) {a b c : Int} : DI (aLake D a b c) := by unfold DI at h ⊢; simp [aLake, upD]; omega
theorem di_aPeg (h : DI D) {v a b w : Int} (hv : D 0 5 < 5) : DI (aPeg (adN D v) a b w) := by unfold DI at h ⊢; simp [aPeg, upD, adN]; omega
theorem di_aFrom (h : DI D) {a b : Int} (hv : D 0 4 < 8) : DI (aFrom D a b) := by unfold DI at h ⊢; simp [aFrom, upD]; omega
theorem di_aRain (h : DI D) {a b : Int} (hv : D 0 6 < 6) : DI (aRain D a b) := by unfold DI at h ⊢; simp [aRain, upD]; omega
theorem di_aStory (h : DI D) {v a b c d : Int} (hv : D 0 7 < 6) : DI (aStory (adN D v) a b c d) := by unfold DI at h ⊢; simp [aStory, upD, adN]; omega
theorem di_aVil (h : DI D) {v a b c : Int} (hv : D 0 8 < 4) : DI (aVil (adN D v) a b c) := by unfold DI at h ⊢; simp [aVil, upD, adN]; omega
theorem di_aKno (h : DI D) {v a b : Int} (hv : D 0 9 < 4) : DI (aKno (adN D v) a b) := by unfold DI at h ⊢; simp [aKno, upD, adN]; omega
theorem sLake_go (hp : p ≤ n) (hk : kd B n p ≠ 0) (hD : DI D) (h : sLake B n p D = .ok (D', p')) : (p < p' ∧ p' ≤ n) ∧ DI D' := by
  have h0 := nx_go hp hk
  unfold sLake at h
  rcases pif_i h with ⟨h1, h⟩ | ⟨h1, h⟩
  · cases h
  · obtain ⟨⟨a, q1⟩, e1, h⟩ := bnd_oki h
    have g1 := (sNum_go h0.2 e1).1
    obtain ⟨⟨b, q2⟩, e2, h⟩ := bnd_oki h
    have g2 := (sNum_go g1.2 e2).1
    obtain ⟨⟨c, q3⟩, e3, h⟩ := bnd_oki h
    have g3 := (sNum_go g2.2 e3).1
    cases h
    exact ⟨by dsimp only at *; omega, di_aLake hD⟩
theorem sPeg_go (hp : p ≤ n) (hk : kd B n p ≠ 0) (hD : DI D) (h : sPeg B n p D = .ok (D', p')) : (p < p' ∧ p' ≤ n) ∧ DI D' := by
  have h0 := nx_go hp hk
  unfold sPeg at h
  rcases pif_i h with ⟨h1, h⟩ | ⟨h1, h⟩
  · cases h
  · obtain ⟨⟨f, q1⟩, e1, h⟩ := bnd_oki h
    obtain ⟨g1, rfl⟩ := sFresh_go h0.2 e1
    obtain ⟨⟨b, q2⟩, e2, h⟩ := bnd_oki h
    have g2 := (sNum_go g1.2 e2).1
    obtain ⟨⟨c, q3⟩, e3, h⟩ := bnd_oki h
    have g3 := (sNum_go g2.2 e3).1
    cases h
    exact ⟨by dsimp only at *; omega, di_aPeg hD (by omega)⟩
theorem sFrom_go (hp : p ≤ n) (hk : kd B n p ≠ 0) (hD : DI D) (h : sFrom B n p D = .ok (D', p')) : (p < p' ∧ p' ≤ n) ∧ DI D' := by
  have h0 := nx_go hp hk
  unfold sFrom at h
  rcases pif_i h with ⟨h1, h⟩ | ⟨h1, h⟩
  · cases h
  · obtain ⟨⟨b, q2⟩, e2, h⟩ := bnd_oki h
    have g2 := (sWhole_go h0.2 e2).1
    obtain ⟨⟨c, q3⟩, e3, h⟩ := bnd_oki h
    have g3 := (sNum_go g2.2 e3).1
    cases h
    exact ⟨by dsimp only at *; omega, di_aFrom hD (by omega)⟩
theorem sRain_go (hp : p ≤ n) (hk : kd B n p ≠ 0) (hD : DI D) (h : sRain B n p D = .ok (D', p')) : (p < p' ∧ p' ≤ n) ∧ DI D' := by
  have h0 := nx_go hp hk
  unfold sRain at h
  rcases pif_i h with ⟨h1, h⟩ | ⟨h1, h⟩
  · cases h
  · obtain ⟨⟨b, q2⟩, e2, h⟩ := bnd_oki h
    have g2 := (sWhole_go h0.2 e2).1
    obtain ⟨⟨c, q3⟩, e3, h⟩ := bnd_oki h
    have g3 := (sNum_go g2.2 e3).1
    cases h
    exact ⟨by dsimp only at *; omega, di_aRain hD (by omega)⟩
theorem sStory_go (hp : p ≤ n) (hk : kd B n p ≠ 0) (hD : DI D) (h : sStory B n p D = .ok (D', p')) : (p < p' ∧ p' ≤ n) ∧ DI D' := by
  have h0 := nx_go hp hk
  unfold sStory at h
  rcases pif_i h with ⟨h1, h⟩ | ⟨h1, h⟩
  · cases h
  · obtain ⟨⟨f, q1⟩, e1, h⟩ := bnd_oki h
    obtain ⟨g1, rfl⟩ := sFresh_go h0.2 e1
    obtain ⟨⟨b, q2⟩, e2, h⟩ := bnd_oki h
    have g2 := (sNum_go g1.2 e2).1
    rcases pif_i h with ⟨h2, h⟩ | ⟨h2, h⟩
    · cases h
    · obtain ⟨⟨c, q3⟩, e3, h⟩ := bnd_oki h
      have g3 := (sWhole_go (nx_le g2.2).2 e3).1
      have g5 := nx_le (B := B) g2.2
      have g6 := pl_le (B := B) g2.2
      obtain ⟨⟨d, q4⟩, e4, h⟩ := bnd_oki h
      have g4 := sMore_go g3.2 e4
      cases h
      exact ⟨by dsimp only at *; omega, di_aStory hD (by omega)⟩
theorem sVillage_go (hp : p ≤ n) (hk : kd B n p ≠ 0) (hD : DI D) (h : sVillage B n p D = .ok (D', p')) : (p < p' ∧ p' ≤ n) ∧ DI D' := by
  have h0 := nx_go hp hk
  unfold sVillage at h
  rcases pif_i h with ⟨h1, h⟩ | ⟨h1, h⟩
  · cases h
  · obtain ⟨⟨f, q1⟩, e1, h⟩ := bnd_oki h
    obtain ⟨g1, rfl⟩ := sFresh_go h0.2 e1
    obtain ⟨⟨b, q2⟩, e2, h⟩ := bnd_oki h
    have g2 := (sNum_go g1.2 e2).1
    obtain ⟨⟨c, q3⟩, e3, h⟩ := bnd_oki h
    have g3 := (sNum_go g2.2 e3).1
    obtain ⟨⟨d, q4⟩, e4, h⟩ := bnd_oki h
    have g4 := (sNum_go g3.2 e4).1
    cases h
    exact ⟨by dsimp only at *; omega, di_aVil hD (by omega)⟩
theorem sKnower_go (hp : p ≤ n) (hk : kd B n p ≠ 0) (hD : DI D) (h : sKnower B n p D = .ok (D', p')) : (p < p' ∧ p' ≤ n) ∧ DI D' := by
  have h0 := nx_go hp hk
  unfold sKnower at h
  rcases pif_i h with ⟨h1, h⟩ | ⟨h1, h⟩
  · cases h
  · obtain ⟨⟨f, q1⟩, e1, h⟩ := bnd_oki h
    obtain ⟨g1, rfl⟩ := sFresh_go h0.2 e1
    rcases pif_i h with ⟨h2, h⟩ | ⟨h2, h⟩
    · rcases pif_i h with ⟨h3, h⟩ | ⟨h3, h⟩
      · rcases pif_i h with ⟨h4, h⟩ | ⟨h4, h⟩
        · obtain ⟨⟨b, q2⟩, e2, h⟩ := bnd_oki h
          have g5 := nx_le (B := B) g1.2
          have g6 := pl_le (B := B) g1.2
          have g7 := nx_le (B := B) g5.2
          have g8 := pl_le (B := B) g5.2
          have g2 := (sNum_go g7.2 e2).1
          cases h
          exact ⟨by dsimp only at *; omega, di_aKno hD (by omega)⟩
        · cases h
      · cases h
    · cases h
theorem sLine_go (hp : p ≤ n) (hD : DI D) (h : sLine B n p D = .ok (D', p')) : (p < p' ∧ p' ≤ n) ∧ DI D' := by
  unfold sLine at h
  rcases pif_i h with ⟨h1, h⟩ | ⟨h1, h⟩
  · exact sLake_go hp (by rw [h1.1]; decide) hD h
  rcases pif_i h with ⟨h1, h⟩ | ⟨h1, h⟩
  · exact sPeg_go hp (by rw [h1.1]; decide) hD h
  rcases pif_i h with ⟨h1, h⟩ | ⟨h1, h⟩
  · exact sFrom_go hp (by rw [h1.1]; decide) hD h
  rcases pif_i h with ⟨h1, h⟩ | ⟨h1, h⟩
  · exact sRain_go hp (by rw [h1.1]; decide) hD h
  rcases pif_i h with ⟨h1, h⟩ | ⟨h1, h⟩
  · exact sStory_go hp (by rw [h1.1]; decide) hD h
  rcases pif_i h with ⟨h1, h⟩ | ⟨h1, h⟩
  · exact sVillage_go hp (by rw [h1.1]; decide) hD h
  rcases pif_i h with ⟨h1, h⟩ | ⟨h1, h⟩
  · exact sKnower_go hp (by rw [h1.1]; decide) hD h
  cases h
theorem line_er {α : Type} {c : Prop} {k : Int} {x : ER α} (hk : 1 ≤ k) {q : Nat} (h : pif c (.error (k, q)) x = .error (kf, qf)) (hx : x = .error (kf, qf) → 1 ≤ kf) : 1 ≤ kf := by
  rcases pif_i h with ⟨h1, h⟩ | ⟨h1, h⟩
  · cases h; exact hk
  · exact hx h
theorem line_er2 {α : Type} {c : Prop} {k : Int} {x : ER α} (hk : 1 ≤ k) {q : Nat} (h : pif c x (.error (k, q)) = .error (kf, qf)) (hx : x = .error (kf, qf) → 1 ≤ kf) : 1 ≤ kf := by
  rcases pif_i h with ⟨h1, h⟩ | ⟨h1, h⟩
  · exact hx h
  · cases h; exact hk
theorem bnd_e1 {α β : Type} {x : ER α} {f : α → ER β} (h : bnd x f = .error (kf, qf)) (h1 : x = .error (kf, qf) → 1 ≤ kf) (h2 : ∀ a, f a = .error (kf, qf) → 1 ≤ kf) : 1 ≤ kf := by
  rcases bnd_eri h with h | ⟨a, _, h⟩
  · exact h1 h
  · exact h2 a h
theorem sLine_er (h : sLine B n p D = .error (kf, qf)) : 1 ≤ kf := by
  unfold sLine at h
  rcases pif_i h with ⟨h1, h⟩ | ⟨h1, h⟩
  · exact line_er (by decide) h fun h => bnd_e1 h sNum_er fun _ h => bnd_e1 h sNum_er fun _ h => bnd_e1 h sNum_er fun _ h => by cases h
  rcases pif_i h with ⟨h1, h⟩ | ⟨h1, h⟩
  · exact line_er (by decide) h fun h => bnd_e1 h sFresh_er fun _ h => bnd_e1 h sNum_er fun _ h => bnd_e1 h sNum_er fun _ h => by cases h
  rcases pif_i h with ⟨h1, h⟩ | ⟨h1, h⟩
  · exact line_er (by decide) h fun h => bnd_e1 h sWhole_er fun _ h => bnd_e1 h sNum_er fun _ h => by cases h
  rcases pif_i h with ⟨h1, h⟩ | ⟨h1, h⟩
  · exact line_er (by decide) h fun h => bnd_e1 h sWhole_er fun _ h => bnd_e1 h sNum_er fun _ h => by cases h
  rcases pif_i h with ⟨h1, h⟩ | ⟨h1, h⟩
  · exact line_er (by decide) h fun h => bnd_e1 h sFresh_er fun _ h => bnd_e1 h sNum_er fun _ h => line_er (by decide) h fun h => bnd_e1 h sWhole_er fun _ h => bnd_e1 h sMore_er fun _ h => by cases h
  rcases pif_i h with ⟨h1, h⟩ | ⟨h1, h⟩
  · exact line_er (by decide) h fun h => bnd_e1 h sFresh_er fun _ h => bnd_e1 h sNum_er fun _ h => bnd_e1 h sNum_er fun _ h => bnd_e1 h sNum_er fun _ h => by cases h
  rcases pif_i h with ⟨h1, h⟩ | ⟨h1, h⟩
  · exact line_er (by decide) h fun h => bnd_e1 h sFresh_er fun _ h => line_er2 (by decide) h fun h => line_er2 (by decide) h fun h => line_er2 (by decide) h fun h => bnd_e1 h sNum_er fun _ h => by cases h
  cases h; decide
theorem sHill_go : ∀ (k p : Nat) (D D' : DD), p ≤ n → DI D → sHill B n k p D = .ok D' → DI D' ∧ D' 0 0 ≠ 0 ∧ D' 0 5 ≠ 0 ∧ D' 0 7 ≠ 0
  | 0, _, _, _, _, _, h => by cases h
  | k + 1, p, D, D', hp, hD, h => by
    simp only [sHill] at h
    obtain ⟨⟨f, q1⟩, e1, h⟩ := bnd_oki h
    obtain ⟨g1, g2⟩ := sLine_go hp hD e1
    rcases pif_i h with ⟨h1, h⟩ | ⟨h1, h⟩
    · exact sHill_go k _ _ _ (nx_le g1.2).2 g2 h
    · rcases pif_i h with ⟨h2, h⟩ | ⟨h2, h⟩
      · rcases pif_i h with ⟨h3, h⟩ | ⟨h3, h⟩
        · cases h
        · cases h; exact ⟨g2, fun z => h3 (Or.inl z), fun z => h3 (Or.inr (Or.inl z)), fun z => h3 (Or.inr (Or.inr z))⟩
      · cases h
theorem sHill_er : ∀ (k p : Nat) (D : DD), p ≤ n → n < p + k → DI D → sHill B n k p D = .error (kf, qf) → 1 ≤ kf
  | 0, _, _, hp, hk, _, _ => by omega
  | k + 1, p, D, hp, hk, hD, h => by
    simp only [sHill] at h
    rcases bnd_eri h with h | ⟨⟨f, q1⟩, e1, h⟩
    · exact sLine_er h
    · obtain ⟨g1, g2⟩ := sLine_go hp hD e1
      rcases pif_i h with ⟨h1, h⟩ | ⟨h1, h⟩
      · have g3 := nx_go (B := B) g1.2 (by rw [h1]; decide)
        exact sHill_er k _ _ g3.2 (by dsimp only at *; omega) g2 h
      · rcases pif_i h with ⟨h2, h⟩ | ⟨h2, h⟩
        · rcases pif_i h with ⟨h3, h⟩ | ⟨h3, h⟩
          · cases h; decide
          · cases h
        · cases h; decide
end PURE
