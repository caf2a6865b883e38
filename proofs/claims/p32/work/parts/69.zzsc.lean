def scC (D : DD) (h lk : Nat) (I : Nat → Nat → Int32) : Prop := (I lk 1).toInt = D 0 1 ∧ (I lk 2).toInt = D 0 2 ∧ (I lk 3).toInt = D 0 3 ∧ (I lk 4).toInt = D 0 4 ∧ (I h 1).toInt = D 0 5 ∧ (I h 6).toInt = D 0 7 ∧ (I h 8).toInt = D 0 8 ∧ (I h 12).toInt = D 0 9
def scM (D : DD) (hm : Nat) (I : Nat → Nat → Int32) : Prop := (I hm 0).toInt = D 0 1 ∧ (I hm 1).toInt = D 0 2 ∧ (I hm 2).toInt = D 0 3 ∧ (I hm 4).toInt = D 0 4 ∧ (I hm 3).toInt = D 0 5 ∧ (I hm 7).toInt = D 0 7 ∧ (I hm 8).toInt = D 0 8 ∧ (I hm 9).toInt = D 0 9

