def Ps (f : Nat → Int) : Nat → Int
  | 0 => 0
  | n + 1 => Ps f n + f n
section ADD
variable {f L : Nat → Int} {d n w : Nat}
end ADD
