def Hi (s : Int) (L : Nat → Int) : Nat → Int
  | 0 => s
  | d + 1 => max (Hi s L d) (L d)
def Ps (f : Nat → Int) : Nat → Int
  | 0 => 0
  | n + 1 => Ps f n + f n
def Ad (D : DD) (s : Nat) (L : Nat → Int) (wet : Int) (d : Nat) : Int := if D 7 s = 1 then D 8 s * max 0 (L d - Hi (D 0 1) L d) / 100 else if D 7 s = 2 then D 8 s * ((Ps L (d + 1) - Ps L (d + 1 - (D 9 s).toNat)) / min (D 9 s) (d + 1)) / 100 else if D 7 s = 5 then (if wet ≠ 0 then D 8 s * (Ps (D 5) (d + 1) - Ps (D 5) (d + 1 - 5)) else 0) else D 8 s * L d / 100
section ADD
variable {f L : Nat → Int} {d n w : Nat}
end ADD
