abbrev GG : Type := ((Nat → ClassId) × (Nat → Nat → Nat)) × (Nat → ClassId) × (Nat → Nat) × (Nat → Nat)
abbrev MM : Type := (Nat → Nat) × (Nat → Nat) × (Nat → Nat → Int32) × (Nat → Nat → Int64) × (Nat → Nat → Option Nat)
abbrev XT : Type := Program × Launch × Env × Room × State × MethodId × Array Value × List Frame × Method × Code × (State → Prop) × (Nat → Nat)
abbrev xP (X : XT) : Program := X.1
abbrev xL (X : XT) : Launch := X.2.1
abbrev xE (X : XT) : Env := X.2.2.1
abbrev xR (X : XT) : Room := X.2.2.2.1
abbrev xS (X : XT) : State := X.2.2.2.2.1
abbrev xM (X : XT) : MethodId := X.2.2.2.2.2.1
abbrev xA (X : XT) : Array Value := X.2.2.2.2.2.2.1
abbrev xB (X : XT) : List Frame := X.2.2.2.2.2.2.2.1
abbrev xT (X : XT) : Method := X.2.2.2.2.2.2.2.2.1
abbrev xC (X : XT) : Code := X.2.2.2.2.2.2.2.2.2.1
abbrev xQ (X : XT) : State → Prop := X.2.2.2.2.2.2.2.2.2.2.1
abbrev xK (X : XT) : Nat → Nat := X.2.2.2.2.2.2.2.2.2.2.2
def fk : Nat → List Nat := fun c => match c with
  | 0 => [2, 2, 2, 2, 2, 0, 0]
  | 1 => [2, 0, 2, 2, 0, 2, 0, 2, 0, 2, 2, 2, 0, 2, 2]
  | 2 => [0, 0, 0, 0, 0, 0, 2, 2]
  | 3 => [0, 2, 2, 2, 2]
  | 4 => [0, 0, 0, 0]
  | 5 => [2, 0]
  | 6 => [2, 2, 2, 0, 0, 0, 0]
  | 7 => [2, 0, 0, 0, 0, 1]
  | 8 => [2, 2, 2, 2, 2, 2, 2, 2, 2, 2, 2, 2, 0]
  | 9 => [0, 0, 0, 0, 0, 0, 0, 0, 0, 0, 0, 2, 2, 2, 2, 2, 2, 2, 2, 2, 2, 2, 2, 2, 2, 2, 2, 2]
  | _ => [0, 0, 0, 2, 2, 2, 0, 0, 0, 0, 0, 0, 0, 0, 1, 2, 2, 2, 2, 0, 0, 2, 2, 2, 2, 2]
def fvv (t : Nat) (M : MM) (a k : Nat) : Value := if t = 0 then .int (M.2.2.1 a k) else if t = 1 then .long (M.2.2.2.1 a k) else va_rf (M.2.2.2.2 a k)
def flds (ci : Nat) (M : MM) (a : Nat) : List Value := (fk ci).mapIdx (fun k t => fvv t M a k)
def kO (q : Nat) : Option Nat := if q = 0 then none else if q ≤ 11 then some (q - 1) else if q ≤ 20 then none else if q ≤ 31 then some (q - 21) else none
def kA (q : Nat) : Nat := if q = 40 ∨ q = 49 then 0 else if q = 42 ∨ q = 48 ∨ q = 82 then 2 else if q = 43 ∨ q = 93 then 3 else if q = 44 then 4 else if q = 45 then 5 else if q = 34 then 4 else if q = 35 then 5 else 1
def arE (t : Nat) (M : MM) (a : Nat) : (Nat → Int32) ⊕ (Nat → Int64) ⊕ (Nat → UInt32) ⊕ (Nat → UInt64) ⊕ (Nat → Option Nat) := if t = 2 then .inr (.inl (M.2.2.2.1 a)) else if t = 4 ∨ t = 5 then .inr (.inr (.inr (.inr (M.2.2.2.2 a)))) else .inl (M.2.2.1 a)
def cellE (g : GG) (M : MM) (a : Nat) : va_E := match kO (M.1 a) with
  | some ci => .inr (ci, flds ci M a)
  | none => .inl (g.2.1 (kA (M.1 a)), M.2.1 a, arE (kA (M.1 a)) M a)
def tys (g : GG) : List (ClassId × FieldType) := [(g.2.1 0, .byte), (g.2.1 1, .int), (g.2.1 2, .long), (g.2.1 3, .boolean), (g.2.1 4, .object "HillTap$Course"), (g.2.1 5, .object "HillTap$Story")]
def Areg (K : Nat → Nat) (sz : Nat) : Nat → Prop := fun q => K q ≠ 0 ∨ sz ≤ q
def sT : List (String × Nat × String) := [("HillTap$Teller", 80, "lake"), ("HillTap$Teller", 119, "stands"), ("HillTap$Teller", 130, "moves"), ("HillTap$Teller", 134, "to"), ("HillTap$Teller", 89, "peg"), ("HillTap$Teller", 94, "from"), ("HillTap$Teller", 99, "rain"), ("HillTap$Teller", 104, "story"), ("HillTap$Teller", 109, "village"), ("HillTap$Teller", 114, "knower"), ("HillTap$Teller", 151, "push"), ("HillTap$Teller", 156, "bed"), ("HillTap$Teller", 167, "level"), ("HillTap$Teller", 176, "much"), ("HillTap$Teller", 184, "weighs"), ("HillTap$Teller", 209, "creep"), ("HillTap$Teller", 211, "new"), ("HillTap$Teller", 213, "pressed"), ("HillTap$Teller", 215, "weak"), ("HillTap$Teller", 217, "quick"), ("HillTap$Teller", 219, "rains"), ("HillTap$Teller", 200, "late"), ("HillTap$Teller", 202, "after"), ("HillTap$Teller", 204, "above"), ("HillTap$Teller", 223, "high"), ("HillTap$Teller", 227, "people"), ("HillTap$Teller", 231, "needs"), ("HillTap$Teller", 238, "of"), ("HillTap$Teller", 250, "reads"), ("HillTap", 261, "no such story"), ("HillTap", 272, "no such day"), ("HillTapModel", 123, "lake"), ("HillTapModel", 196, "stands"), ("HillTapModel", 201, "moves"), ("HillTapModel", 203, "to"), ("HillTapModel", 125, "peg"), ("HillTapModel", 127, "from"), ("HillTapModel", 129, "rain"), ("HillTapModel", 131, "story"), ("HillTapModel", 133, "village"), ("HillTapModel", 135, "knower"), ("HillTapModel", 216, "push"), ("HillTapModel", 218, "bed"), ("HillTapModel", 227, "level"), ("HillTapModel", 240, "much"), ("HillTapModel", 244, "weighs"), ("HillTapModel", 246, "creep"), ("HillTapModel", 248, "new"), ("HillTapModel", 250, "pressed"), ("HillTapModel", 252, "weak"), ("HillTapModel", 254, "quick"), ("HillTapModel", 256, "rains"), ("HillTapModel", 257, "late"), ("HillTapModel", 259, "after"), ("HillTapModel", 261, "above"), ("HillTapModel", 277, "high"), ("HillTapModel", 279, "people"), ("HillTapModel", 281, "needs"), ("HillTapModel", 292, "of"), ("HillTapModel", 294, "reads")]
def sB : List (List Int32) := [[108, 97, 107, 101], [115, 116, 97, 110, 100, 115], [109, 111, 118, 101, 115], [116, 111], [112, 101, 103], [102, 114, 111, 109], [114, 97, 105, 110], [115, 116, 111, 114, 121], [118, 105, 108, 108, 97, 103, 101], [107, 110, 111, 119, 101, 114], [112, 117, 115, 104], [98, 101, 100], [108, 101, 118, 101, 108], [109, 117, 99, 104], [119, 101, 105, 103, 104, 115], [99, 114, 101, 101, 112], [110, 101, 119], [112, 114, 101, 115, 115, 101, 100], [119, 101, 97, 107], [113, 117, 105, 99, 107], [114, 97, 105, 110, 115], [108, 97, 116, 101], [97, 102, 116, 101, 114], [97, 98, 111, 118, 101], [104, 105, 103, 104], [112, 101, 111, 112, 108, 101], [110, 101, 101, 100, 115], [111, 102], [114, 101, 97, 100, 115], [110, 111, 32, 115, 117, 99, 104, 32, 115, 116, 111, 114, 121], [110, 111, 32, 115, 117, 99, 104, 32, 100, 97, 121], [108, 97, 107, 101], [115, 116, 97, 110, 100, 115], [109, 111, 118, 101, 115], [116, 111], [112, 101, 103], [102, 114, 111, 109], [114, 97, 105, 110], [115, 116, 111, 114, 121], [118, 105, 108, 108, 97, 103, 101], [107, 110, 111, 119, 101, 114], [112, 117, 115, 104], [98, 101, 100], [108, 101, 118, 101, 108], [109, 117, 99, 104], [119, 101, 105, 103, 104, 115], [99, 114, 101, 101, 112], [110, 101, 119], [112, 114, 101, 115, 115, 101, 100], [119, 101, 97, 107], [113, 117, 105, 99, 107], [114, 97, 105, 110, 115], [108, 97, 116, 101], [97, 102, 116, 101, 114], [97, 98, 111, 118, 101], [104, 105, 103, 104], [112, 101, 111, 112, 108, 101], [110, 101, 101, 100, 115], [111, 102], [114, 101, 97, 100, 115]]
def nestF : List (String × Nat × String × String × String × String) := [("HillTapModel", 167, "HillTapModel$Hill", "stands", "I", "HillTapModel"), ("HillTapModel", 205, "HillTapModel$Hill", "moves", "I", "HillTapModel"), ("HillTapModel", 207, "HillTapModel$Hill", "to", "I", "HillTapModel"), ("HillTapModel", 170, "HillTapModel$Hill", "pegs", "I", "HillTapModel"), ("HillTapModel", 224, "HillTapModel$Hill", "froms", "I", "HillTapModel"), ("HillTapModel", 234, "HillTapModel$Hill", "told", "I", "HillTapModel"), ("HillTapModel", 237, "HillTapModel$Hill", "rains", "I", "HillTapModel"), ("HillTapModel", 173, "HillTapModel$Hill", "stories", "I", "HillTapModel"), ("HillTapModel", 274, "HillTapModel$Hill", "villages", "I", "HillTapModel"), ("HillTapModel", 289, "HillTapModel$Hill", "knowers", "I", "HillTapModel"), ("HillTapModel", 155, "HillTapModel$Hill", "names", "I", "HillTapModel"), ("HillTapModel", 220, "HillTapModel$Hill", "push", "[I", "HillTapModel"), ("HillTapModel", 222, "HillTapModel$Hill", "bed", "[I", "HillTapModel"), ("HillTapModel", 228, "HillTapModel$Hill", "fromDay", "[I", "HillTapModel"), ("HillTapModel", 231, "HillTapModel$Hill", "fromLevel", "[I", "HillTapModel"), ("HillTapModel", 242, "HillTapModel$Hill", "rain", "[I", "HillTapModel"), ("HillTapModel", 263, "HillTapModel$Hill", "weighs", "[I", "HillTapModel"), ("HillTapModel", 265, "HillTapModel$Hill", "kind", "[I", "HillTapModel"), ("HillTapModel", 268, "HillTapModel$Hill", "k", "[I", "HillTapModel"), ("HillTapModel", 271, "HillTapModel$Hill", "more", "[I", "HillTapModel"), ("HillTapModel", 283, "HillTapModel$Hill", "high", "[I", "HillTapModel"), ("HillTapModel", 285, "HillTapModel$Hill", "people", "[I", "HillTapModel"), ("HillTapModel", 287, "HillTapModel$Hill", "needs", "[I", "HillTapModel"), ("HillTapModel", 296, "HillTapModel$Hill", "knowsPeg", "[I", "HillTapModel"), ("HillTapModel", 299, "HillTapModel$Hill", "knowsAt", "[I", "HillTapModel"), ("HillTapModel", 151, "HillTapModel$Hill", "name", "[J", "HillTapModel"), ("HillTapModel", 158, "HillTapModel$Hill", "nameSort", "[I", "HillTapModel"), ("HillTapModel", 161, "HillTapModel$Hill", "nameNumber", "[I", "HillTapModel")]
def nestM : List (String × Nat × MethodName × String) := [("HillTap", 9, ⟨"HillTap$Tape", "<init>", "()V"⟩, "HillTap"), ("HillTap$Hill", 11, ⟨"HillTap$Lake", "<init>", "()V"⟩, "HillTap"), ("HillTap$Hill", 49, ⟨"HillTap$Story", "<init>", "()V"⟩, "HillTap"), ("HillTap", 45, ⟨"HillTap$Course", "<init>", "()V"⟩, "HillTap"), ("HillTap", 59, ⟨"HillTap$Readings", "<init>", "()V"⟩, "HillTap"), ("HillTap$Course", 61, ⟨"HillTap", "row", "(II)I"⟩, "HillTap"), ("HillTap$Readings", 31, ⟨"HillTap", "row", "(II)I"⟩, "HillTap"), ("HillTapModel", 308, ⟨"HillTapModel$Hill", "<init>", "()V"⟩, "HillTapModel")]
def vx_L (C n d : String) (A : Nat → Prop) (U : State) (H : Heap) : Prop := ∃ (c : ClassId) (k : Class) (i : Nat) (f : Field) (a : Nat) (cell : Cell), U.vm.findClass C = some c ∧ U.fieldFound? C n d = some (c, k, i, f) ∧ f.isStatic = true ∧ k.statics = some a ∧ H[a]? = some cell ∧ cell.vm.isStatics = true ∧ cell.cls = c ∧ f.slot < cell.slots.size ∧ k.staticTypes[f.slot]? = some f.type ∧ ¬ A a
theorem vx_L.moved {C n d : String} {A : Nat → Prop} {u U : State} {H : Heap} (hvm : u.vm.Alike U.vm) (h : vx_L C n d A u H) : vx_L C n d A U H := by
  obtain ⟨c, k, i, f, a, cell, h1, h2, h3, h4, h5, h6, h7, h8, h9, h10⟩ := h
  obtain ⟨k', hi', he⟩ := State.fieldFound?_setVm hvm h2
  exact ⟨c, k', i, f, a, cell, by rw [hvm.findClass]; exact h1, hi', h3, by rw [he]; exact h4, h5, h6, h7, h8, by rw [he]; exact h9, h10⟩
theorem vx_L.kept {C n d : String} {A : Nat → Prop} {U : State} {H H1 : Heap} (h : vx_L C n d A U H) (hq : ∀ a : Nat, a < H.size → ¬ A a → H1[a]? = H[a]?) : vx_L C n d A U H1 := by
  obtain ⟨c, k, i, f, a, cell, h1, h2, h3, h4, h5, h6, h7, h8, h9, h10⟩ := h
  exact ⟨c, k, i, f, a, cell, h1, h2, h3, h4, by rw [hq a (Array.getElem?_eq_some_iff.mp h5).1 h10]; exact h5, h6, h7, h8, h9, h10⟩
theorem vx_L.narrow {C n d : String} {A B : Nat → Prop} {U : State} {H : Heap} (h : vx_L C n d A U H) (hAB : ∀ q, B q → A q) : vx_L C n d B U H := by
  obtain ⟨c, k, i, f, a, cell, h1, h2, h3, h4, h5, h6, h7, h8, h9, h10⟩ := h
  exact ⟨c, k, i, f, a, cell, h1, h2, h3, h4, h5, h6, h7, h8, h9, fun z => h10 (hAB _ z)⟩
theorem vx_L.word {C n d : String} {A : Nat → Prop} {s : State} {args : Array Value} (h : vx_L C n d A s s.heap) : (Cond.laysStatic C n d).before args s = true := by
  obtain ⟨c, k, i, f, a, cell, h1, h2, h3, h4, h5, h6, h7, h8, h9, -⟩ := h
  show (Cond.laysStatic C n d).holds args s none s [] = true
  exact Cond.laysStatic_of h1 h2 h3 h4 h5 h6 h7 h8 h9
/-- .. and what it holds: null or some reference -/
def vx_Zq (C n d : String) (A : Nat → Prop) (U : State) (H : Heap) : Prop := va_Zq C n d A U H ∧ vx_L C n d A U H
theorem vx_Zq.moved {C n d : String} {A : Nat → Prop} {u U : State} {H : Heap} (hvm : u.vm.Alike U.vm) (h : vx_Zq C n d A u H) : vx_Zq C n d A U H := ⟨va_Zq.moved hvm h.1, vx_L.moved hvm h.2⟩
theorem vx_Zq.kept {C n d : String} {A : Nat → Prop} {U : State} {H H1 : Heap} (h : vx_Zq C n d A U H) (hq : ∀ a : Nat, a < H.size → ¬ A a → H1[a]? = H[a]?) : vx_Zq C n d A U H1 := ⟨va_Zq.kept h.1 hq, vx_L.kept h.2 hq⟩
theorem vx_Zq.narrow {C n d : String} {A B : Nat → Prop} {U : State} {H : Heap} (h : vx_Zq C n d A U H) (hAB : ∀ q, B q → A q) : vx_Zq C n d B U H := ⟨va_Zq.narrow h.1 hAB, vx_L.narrow h.2 hAB⟩
abbrev sLen (i : Nat) : Nat := (sB.getD i []).length
/-- what the tables say beside the good words -/
def Ex (g : GG) (U : State) : Prop := (∀ i, i < 60 → vk_R (sT.getD i ("", 0, "")).1 (sT.getD i ("", 0, "")).2.1 (sT.getD i ("", 0, "")).2.2 (g.2.2.1 i) U) ∧ (∀ q ∈ nestF, va_Nw (.fieldLinkNest q.1 q.2.1 q.2.2.1 q.2.2.2.1 q.2.2.2.2.1 q.2.2.2.2.2) U) ∧ (∀ q ∈ nestM, va_Nw (.methodLinkNest q.1 q.2.1 q.2.2.1 q.2.2.2) U) ∧ va_AO "HillTap$Course" U ∧ va_AO "HillTap$Story" U
/-- what lies in the heap outside the pool: the texts, the statics -/
def Hx (g : GG) (A : Nat → Prop) (U : State) (H : Heap) : Prop := (∀ i, i < 60 → va_O "java/lang/String" (g.2.2.1 i) A U H ∧ va_OF "java/lang/String" "coder" "B" (.int 0) (g.2.2.1 i) A U H ∧ va_OF "java/lang/String" "value" "[B" (.ref (g.2.2.2 i)) (g.2.2.1 i) A U H ∧ va_T .byte (g.2.2.2 i) (sLen i) (fun j => .int ((sB.getD i []).getD j 0)) A U H) ∧ va_Z "java/lang/String" "COMPACT_STRINGS" "Z" (.int 1) A U H ∧ vx_Zq "jdk/internal/util/Preconditions" "SIOOBE_FORMATTER" "Ljava/util/function/BiFunction;" A U H ∧ vx_Zq "java/lang/Throwable" "UNASSIGNED_STACK" "[Ljava/lang/StackTraceElement;" A U H ∧ vx_Zq "java/lang/Throwable" "SUPPRESSED_SENTINEL" "Ljava/util/List;" A U H
theorem Ex.warm {g : GG} {s U : State} (hW : s.WarmedH U.vm) (h : Ex g s) : Ex g U := ⟨fun i hi => vk_R.warm hW (h.1 i hi), fun q hq => va_Nw.warmF hW (h.2.1 q hq), fun q hq => va_Nw.warmM hW (h.2.2.1 q hq), va_AO.moved hW.alike h.2.2.2.1, va_AO.moved hW.alike h.2.2.2.2⟩
theorem Ex.same {g : GG} {u U : State} (hv : u.vm = U.vm) (h : Ex g u) : Ex g U := ⟨fun i hi => vk_R.same hv.symm (h.1 i hi), fun q hq => va_Nw.same rfl hv (h.2.1 q hq), fun q hq => va_Nw.same rfl hv (h.2.2.1 q hq), va_AO.moved (by rw [hv]; exact Vm.Alike.refl _) h.2.2.2.1, va_AO.moved (by rw [hv]; exact Vm.Alike.refl _) h.2.2.2.2⟩
theorem Hx.moved {g : GG} {A : Nat → Prop} {u U : State} {H : Heap} (hvm : u.vm.Alike U.vm) (h : Hx g A u H) : Hx g A U H :=
  ⟨fun i hi => ⟨(h.1 i hi).1.moved hvm, (h.1 i hi).2.1.moved hvm, (h.1 i hi).2.2.1.moved hvm, (h.1 i hi).2.2.2.moved hvm⟩, h.2.1.moved hvm, h.2.2.1.moved hvm, h.2.2.2.1.moved hvm, h.2.2.2.2.moved hvm⟩
theorem Hx.kept {g : GG} {A : Nat → Prop} {U : State} {H H1 : Heap} (h : Hx g A U H) (hq : ∀ a : Nat, a < H.size → ¬ A a → H1[a]? = H[a]?) : Hx g A U H1 :=
  ⟨fun i hi => ⟨(h.1 i hi).1.kept hq, (h.1 i hi).2.1.kept hq, (h.1 i hi).2.2.1.kept hq, (h.1 i hi).2.2.2.kept hq⟩, h.2.1.kept hq, h.2.2.1.kept hq, h.2.2.2.1.kept hq, h.2.2.2.2.kept hq⟩
theorem Hx.narrow {g : GG} {A B : Nat → Prop} {U : State} {H : Heap} (h : Hx g A U H) (hAB : ∀ q, B q → A q) : Hx g B U H :=
  ⟨fun i hi => ⟨(h.1 i hi).1.narrow hAB, (h.1 i hi).2.1.narrow hAB, (h.1 i hi).2.2.1.narrow hAB, (h.1 i hi).2.2.2.narrow hAB⟩, h.2.1.narrow hAB, h.2.2.1.narrow hAB, h.2.2.2.1.narrow hAB, h.2.2.2.2.narrow hAB⟩
def Wv (g : GG) (M : MM) (A : Nat → Prop) (H : Heap) : Prop := ∃ L : List Nat, (∀ a, a ∈ L ↔ M.1 a ≠ 0) ∧ va_P g.1 vwCl (va_pl L (cellE g M)) H ∧ va_D A (va_pl L (cellE g M))
def Wd (g : GG) (M : MM) (U : State) : Prop := Wv g M (fun _ => True) U.heap ∧ va_K g.1 vwCl (tys g) U ∧ Hx g (Areg M.1 U.heap.size) U U.heap ∧ Ex g U
theorem Wv.weaken {g : GG} {M : MM} {A B : Nat → Prop} {H : Heap} (h : Wv g M A H) (hAB : ∀ a, M.1 a ≠ 0 → B a) : Wv g M B H := by
  obtain ⟨L, hL, hP, hD⟩ := h
  refine ⟨L, hL, hP, hD.1, fun k q hk => hAB q.1 ((hL _).mp ?_)⟩
  have := List.mem_of_getElem? hk
  obtain ⟨b, hb, e⟩ := List.mem_map.mp this
  rw [← e]; exact hb
theorem Wv.lt {g : GG} {M : MM} {A : Nat → Prop} {H : Heap} (h : Wv g M A H) {a : Nat} (ha : M.1 a ≠ 0) : a < H.size := by
  obtain ⟨L, hL, hP, hD⟩ := h
  exact va_pl_lt (X := []) hP ((hL a).mpr ha)
theorem Wv.inA {g : GG} {M : MM} {A : Nat → Prop} {H : Heap} (h : Wv g M A H) {a : Nat} (ha : M.1 a ≠ 0) : A a := by
  obtain ⟨L, hL, hP, hD⟩ := h
  obtain ⟨k, hk⟩ := va_pl_get (X := []) (f := cellE g M) ((hL a).mpr ha)
  exact hD.2 k _ hk
/-- what holds through a method's body -/
def Cx (g : GG) (X : XT) (cc : ByteArray) (own : String) (nL : Nat) (rm : Room) : Prop :=
  (xP X).tables.exec = Jvm.exec ∧ (xC X).code = cc ∧ (xC X).maxLocals = nL ∧ (xS X).vm.findClass own = some (xM X).cls ∧ (∀ w ∈ tb, w.before (xA X) (xS X) = true) ∧ va_K g.1 vwCl (tys g) (xS X) ∧ Hx g (Areg (xK X) (xS X).heap.size) (xS X) (xS X).heap ∧ Ex g (xS X) ∧ xR X = rm
/-- the machine stands at pc with these locals, this stack, this pool, and comes to its end -/
def P (g : GG) (X : XT) (nL pc : Nat) (lv : List (Nat × Value)) (st : List Value) (cn sn : Nat) (M : MM) : Prop :=
  ∀ (H : Heap) (locs : List Loc) (ls : Array Slot), Wv g M (Areg (xK X) (xS X).heap.size) H → va_S (Areg (xK X) (xS X).heap.size) (xS X).heap H locs → lv_has ls nL lv →
    W (xP X) (xL X) (xE X) (xR X) (xS X) (xM X) (xA X) (xB X) (xT X) (xC X) H locs cn sn (xQ X) (F0 (xM X) pc ls st)
/-- a contract: with these arguments and this pool the method returns, and Post holds of the answer and the pool -/
def Qg (g : GG) (Post : Option Value → MM → Prop) (A : Nat → Prop) : Array Value → State → Outcome → State → Prop := fun _ st oc t => (∃ (v : Option Value) (M' : MM), oc = .returned v ∧ Post v M' ∧ Wv g M' A t.heap) ∧ va_F A st t
def Ct (g : GG) (l : Launch) (y : MethodName) (cc : ByteArray) (nL : Nat) (ret : Option FieldType) (rm : Room) (av : List Value) (M : MM) (Post : Option Value → MM → Prop) : Prop :=
  ∀ sz : Nat, Met l y (.code y cc nL ret :: tb) rm (va_Pc av (fun U => U.heap.size = sz ∧ Wd g M U)) (Qg g Post (Areg M.1 sz)) rm.cells rm.slots (Areg M.1 sz)
theorem cellE_obj {g : GG} {M : MM} {a ci : Nat} (h : kO (M.1 a) = some ci) : cellE g M a = .inr (ci, flds ci M a) := by simp [cellE, h]
theorem cellE_arr {g : GG} {M : MM} {a : Nat} (h : kO (M.1 a) = none) : cellE g M a = .inl (g.2.1 (kA (M.1 a)), M.2.1 a, arE (kA (M.1 a)) M a) := by simp [cellE, h]
theorem kO_ne {q ci : Nat} (h : kO q = some ci) : q ≠ 0 := by intro e; rw [e] at h; simp [kO] at h
def up2 {α : Type} (f : Nat → Nat → α) (a k : Nat) (v : α) : Nat → Nat → α := fun b j => if b = a ∧ j = k then v else f b j
theorem up2_self {α : Type} (f : Nat → Nat → α) (a k : Nat) (v : α) : up2 f a k v a k = v := by simp [up2]
theorem up2_ne {α : Type} (f : Nat → Nat → α) {a k b j : Nat} (v : α) (h : b ≠ a ∨ j ≠ k) : up2 f a k v b j = f b j := by
  unfold up2; rw [if_neg]; rintro ⟨h1, h2⟩; rcases h with h | h <;> contradiction
theorem flds_get {ci k t : Nat} {M : MM} {a : Nat} (h : (fk ci)[k]? = some t) : (flds ci M a)[k]? = some (fvv t M a k) := by simp [flds, h]
theorem flds_len {ci : Nat} {M : MM} {a : Nat} : (flds ci M a).length = (fk ci).length := by simp [flds]
theorem Wv.at {g : GG} {M : MM} {A : Nat → Prop} {H : Heap} (h : Wv g M A H) {a : Nat} (ha : M.1 a ≠ 0) : ∃ (L : List Nat) (q : Nat), (∀ a, a ∈ L ↔ M.1 a ≠ 0) ∧ va_P g.1 vwCl (va_pl L (cellE g M)) H ∧ va_D A (va_pl L (cellE g M)) ∧ (va_pl L (cellE g M))[q]? = some (a, cellE g M a) := by
  obtain ⟨L, hL, hP, hD⟩ := h
  obtain ⟨q, hq⟩ := va_pl_get (X := []) (f := cellE g M) ((hL a).mpr ha)
  exact ⟨L, q, hL, hP, hD, hq⟩
/-- a pool whose one cell is written -/
theorem Wv.set {g : GG} {M M' : MM} {A : Nat → Prop} {H1 : Heap} {L : List Nat} {a q : Nat} {e : va_E} (hL : ∀ a, a ∈ L ↔ M.1 a ≠ 0) (hD : va_D A (va_pl L (cellE g M))) (ha : M.1 a ≠ 0) (hq : (va_pl L (cellE g M))[q]? = some (a, cellE g M a))
    (hK : M'.1 = M.1) (he : cellE g M' a = e) (ho : ∀ b, b ≠ a → cellE g M' b = cellE g M b) (hP1 : va_P g.1 vwCl ((va_pl L (cellE g M)).set q (a, e)) H1) (hD1 : va_D A ((va_pl L (cellE g M)).set q (a, e))) : Wv g M' A H1 := by
  have e1 : (va_pl L (cellE g M)).set q (a, e) = va_pl L (va_up (cellE g M) a e) := va_pl_set (X := []) hD ((hL a).mpr ha) hq
  have e2 : va_pl L (va_up (cellE g M) a e) = va_pl L (cellE g M') := va_pl_congr (fun b => by
    by_cases hb : b = a
    · subst hb; rw [va_up_self, he]
    · rw [va_up_ne _ _ hb, ho b hb])
  rw [e1, e2] at hP1 hD1
  exact ⟨L, fun b => by rw [hK]; exact hL b, hP1, hD1⟩

