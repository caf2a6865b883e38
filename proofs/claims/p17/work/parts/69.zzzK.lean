def Fo (f : Nat → Int) (v : Int) : Nat → Int
  | 0 => -2
  | k + 1 => if Fo f v k ≠ -2 then Fo f v k else if f k = v then (k : Int) else -2
section ANS2
variable {D : DD} {s n k m : Nat} {i v : Int} {f : Nat → Int}
theorem Fo_n (h : Fo f v k = -2) (h1 : f k ≠ v) : Fo f v (k + 1) = -2 := by simp only [Fo]; rw [if_neg (by omega), if_neg h1]
theorem Fo_t (h : Fo f v k = -2) (h1 : f k = v) : Fo f v (k + 1) = k := by simp only [Fo]; rw [if_neg (by omega), if_pos h1]
theorem Fo_k (h : Fo f v k ≠ -2) : ∀ m, Fo f v (k + m) = Fo f v k
  | 0 => rfl
  | m + 1 => by
    have h1 := Fo_k h m
    show Fo f v (k + m + 1) = _
    simp only [Fo]; rw [if_pos (by rw [h1]; exact h), h1]
theorem Fo_hit (h : Fo f v k = -2) (h1 : f k = v) (hk : k < n) : Fo f v n = k := by
  have h2 := Fo_t h h1
  have h3 := Fo_k (k := k + 1) (by omega : Fo f v (k + 1) ≠ -2) (n - (k + 1))
  rw [show k + 1 + (n - (k + 1)) = n by omega] at h3
  rw [h3, h2]
end ANS2
