def Fb (D : DD) (E : Nat → Nat → Int) (N j : Nat) : Int := if 59 < Mf D E j N then 1 else 0
section BORE
variable {D : DD} {E : Nat → Nat → Int} {N s t n : Nat} {dep w i : Int} {f : Nat → Int}
theorem Fb_t (h : 59 < Mf D E s N) : Fb D E N s = 1 := by unfold Fb; rw [if_pos h]
theorem Fb_n (h : ¬ 59 < Mf D E s N) : Fb D E N s = 0 := by unfold Fb; rw [if_neg h]
end BORE
