section KEEP
variable {D : DD} {E : Nat → Nat → Int} {x h lk rd s c : Nat} {K len : Nat → Nat} {I I0 I1 I2 : Nat → Nat → Int32} {R : Nat → Nat → Option Nat} {L : Nat → Int} {wet : Int} {l : List (Nat × Nat)}
theorem KC.pvb (hc : KC D E x h lk rd I R) (hs : (s : Int) < D 0 7) {w2 : Int} (d p : Nat) : 0 ≤ Ps (SV D s (Ad D s (LP1 D) w2) d) p ∧ Ps (SV D s (Ad D s (LP1 D) w2) d) p ≤ 30100 * p := Pv_b (hc.2.2.1 (by omega)).1 (hc.adb hs) d p
theorem KC.rdr (hc : KC D E x h lk rd I R) {r j a : Nat} (hr : r < 4) (ha : R rd (r + 1) = some a) (hj : (j : Int) < (I rd 0).toInt) : (I a j).toInt = E r j := hc.2.2.2.2.1 r j a hr ha hj
theorem KC.rdb (hc : KC D E x h lk rd I R) {j : Nat} (hj : (j : Int) < (I rd 0).toInt) : EBj D E j := hc.2.2.2.2.2 j hj
end KEEP
