theorem law_loop {g : GG} {X : XT} {b L : Nat} {xs : Nat → Int32} (hX : LX g X b L xs) {x m o tp bt te tk nr pr rd mt : Nat} (hfin : ∀ (lv : List (Nat × Value)) (cn sn : Nat) (M : MM) (v : Int32), v = 1 → cn ≤ 601024 → sn ≤ 7293034 → P g X 7 1260 lv [.int v] cn sn M) :
    ∀ (n k : Nat), k ≤ 512 → k + n = 513 → ∀ (i : Int32) (K len : Nat → Nat) (I : Nat → Nat → Int32) (J : Nat → Nat → Int64) (R : Nat → Nat → Option Nat), i.toInt = 6 * k → LI x m o tp bt te tk nr pr rd mt K len I R → P g X 7 23 [(0, .ref b), (1, .ref x), (2, .ref m), (3, .ref o), (4, .int i)] [] (200 + 18 * k) (11000 + 231 * k) (K, len, I, J, R) := by
  intro n
  induction n with
  | zero => intro k h1 h2; omega
  | succ n ih =>
    intro k h1 h2 i K len I J R ei hI
    have hX' := hX
    obtain ⟨hC, hcs, hl, hXs, hb, hbA, hL⟩ := hX'
    refine r_iload hC dL_law_23 4 rfl ?_
    refine r_aload_n hC dL_law_25 0 rfl ?_
    refine r_slen hC hXs hb hbA hL dL_law_26 (fun vL eL => ?_)
    refine r_bipush hC (v := (6)) dL_law_27 (by decide) (by decide) (fun c6 e6 t6 => ?_)
    refine r_isub hC dL_law_29 (fun d ed => ?_)
    have td : d.toInt = vL.toInt - c6.toInt := by rw [ed]; exact ti_sub (by omega) (by omega)
    refine r_icmp_gt hC (tgt := 1259) dL_law_30 (by decide) (fun c => ?_) (fun c => ?_)
    · refine r_iconst hC (v := (1)) dL_law_1259 (by decide) (by decide) (fun w ew tw => ?_)
      exact hfin _ _ _ _ w ew (by omega) (by omega)
    · refine r_aload_n hC dL_law_33 0 rfl ?_
      refine r_iload hC dL_law_34 4 rfl ?_
      refine r_sld hC hXs hb hbA (by omega) (by omega) dL_law_36 (fun v ev => ?_)
      refine r_bipush hC (v := (63)) dL_law_37 (by decide) (by decide) (fun c63 e63 t63 => ?_)
      refine r_iand hC dL_law_39 (fun sw esw => ?_)
      have kk : ∀ K' len' I' J' R', LI x m o tp bt te tk nr pr rd mt K' len' I' R' → P g X 7 1253 [(0, .ref b), (1, .ref x), (2, .ref m), (3, .ref o), (4, .int i)] [] (200 + 18 * k + 18) (11000 + 231 * k + 231) (K', len', I', J', R') := by
        intro K' len' I' J' R' hI'
        obtain ⟨i', ei'⟩ : ∃ z : Int32, z = i + Int32.ofInt (6) := ⟨_, rfl⟩
        refine r_iinc hC (j := 4) (v := i') (lv' := [(4, .int i'), (0, .ref b), (1, .ref x), (2, .ref m), (3, .ref o)]) dL_law_1253 rfl (by rw [ei']) (by decide) rfl ?_
        have ti' : i'.toInt = i.toInt + (6) := by rw [ei']; exact (ti_add (b := Int32.ofInt (6)) (by show _ ≤ _ + (6 : Int); omega) (by show _ + (6 : Int) ≤ _; omega))
        refine r_goto hC (tgt := 23) dL_law_1256 (by decide) ?_
        refine r_sub [1, 2, 3, 4, 0] rfl ?_
        exact r_widen hC (k2 := 200 + 18 * (k + 1)) (n2 := 11000 + 231 * (k + 1)) (by omega) (by omega) (ih (k + 1) (by omega) (by omega) i' K' len' I' J' R' (by omega) hI')
      by_cases ho : sw.toInt < 0 ∨ 33 < sw.toInt
      · refine r_tabOut hC (tgt := 1253) dL_law_40 ho (by decide) ?_
        exact r_widen hC (k2 := 200 + 18 * k + 18) (n2 := 11000 + 231 * k + 231) (by omega) (by omega) (kk K len I J R hI)
      · rcases (show sw.toInt = 0 ∨ sw.toInt = 1 ∨ sw.toInt = 2 ∨ sw.toInt = 3 ∨ sw.toInt = 4 ∨ sw.toInt = 5 ∨ sw.toInt = 6 ∨ sw.toInt = 7 ∨ sw.toInt = 8 ∨ sw.toInt = 9 ∨ sw.toInt = 10 ∨ sw.toInt = 11 ∨ sw.toInt = 12 ∨ sw.toInt = 13 ∨ sw.toInt = 14 ∨ sw.toInt = 15 ∨ sw.toInt = 16 ∨ sw.toInt = 17 ∨ sw.toInt = 18 ∨ sw.toInt = 19 ∨ sw.toInt = 20 ∨ sw.toInt = 21 ∨ sw.toInt = 22 ∨ sw.toInt = 23 ∨ sw.toInt = 24 ∨ sw.toInt = 25 ∨ sw.toInt = 26 ∨ sw.toInt = 27 ∨ sw.toInt = 28 ∨ sw.toInt = 29 ∨ sw.toInt = 30 ∨ sw.toInt = 31 ∨ sw.toInt = 32 ∨ sw.toInt = 33 by omega) with hj | hj | hj | hj | hj | hj | hj | hj | hj | hj | hj | hj | hj | hj | hj | hj | hj | hj | hj | hj | hj | hj | hj | hj | hj | hj | hj | hj | hj | hj | hj | hj | hj | hj
        · refine r_tabIn hC (tgt := 192) (off := 152) dL_law_40 (by omega) (by omega) (by rw [hj]; decide) (by decide) ?_
          exact law_0 hX hI (by omega) (by omega) (by omega) (by omega) kk
        · refine r_tabIn hC (tgt := 265) (off := 225) dL_law_40 (by omega) (by omega) (by rw [hj]; decide) (by decide) ?_
          exact law_1 hX hI (by omega) (by omega) (by omega) (by omega) kk
        · refine r_tabIn hC (tgt := 290) (off := 250) dL_law_40 (by omega) (by omega) (by rw [hj]; decide) (by decide) ?_
          exact law_2 hX hI (by omega) (by omega) (by omega) (by omega) kk
        · refine r_tabIn hC (tgt := 303) (off := 263) dL_law_40 (by omega) (by omega) (by rw [hj]; decide) (by decide) ?_
          exact law_3 hX hI (by omega) (by omega) (by omega) (by omega) kk
        · refine r_tabIn hC (tgt := 316) (off := 276) dL_law_40 (by omega) (by omega) (by rw [hj]; decide) (by decide) ?_
          exact law_4 hX hI (by omega) (by omega) (by omega) (by omega) kk
        · refine r_tabIn hC (tgt := 341) (off := 301) dL_law_40 (by omega) (by omega) (by rw [hj]; decide) (by decide) ?_
          exact law_5 hX hI (by omega) (by omega) (by omega) (by omega) kk
        · refine r_tabIn hC (tgt := 378) (off := 338) dL_law_40 (by omega) (by omega) (by rw [hj]; decide) (by decide) ?_
          exact law_6 hX hI (by omega) (by omega) (by omega) (by omega) kk
        · refine r_tabIn hC (tgt := 391) (off := 351) dL_law_40 (by omega) (by omega) (by rw [hj]; decide) (by decide) ?_
          exact law_7 hX hI (by omega) (by omega) (by omega) (by omega) kk
        · refine r_tabIn hC (tgt := 452) (off := 412) dL_law_40 (by omega) (by omega) (by rw [hj]; decide) (by decide) ?_
          exact law_8 hX hI (by omega) (by omega) (by omega) (by omega) kk
        · refine r_tabIn hC (tgt := 477) (off := 437) dL_law_40 (by omega) (by omega) (by rw [hj]; decide) (by decide) ?_
          exact law_9 hX hI (by omega) (by omega) (by omega) (by omega) kk
        · refine r_tabIn hC (tgt := 502) (off := 462) dL_law_40 (by omega) (by omega) (by rw [hj]; decide) (by decide) ?_
          exact law_10 hX hI (by omega) (by omega) (by omega) (by omega) kk
        · refine r_tabIn hC (tgt := 563) (off := 523) dL_law_40 (by omega) (by omega) (by rw [hj]; decide) (by decide) ?_
          exact law_11 hX hI (by omega) (by omega) (by omega) (by omega) kk
        · refine r_tabIn hC (tgt := 576) (off := 536) dL_law_40 (by omega) (by omega) (by rw [hj]; decide) (by decide) ?_
          exact law_12 hX hI (by omega) (by omega) (by omega) (by omega) kk
        · refine r_tabIn hC (tgt := 589) (off := 549) dL_law_40 (by omega) (by omega) (by rw [hj]; decide) (by decide) ?_
          exact law_13 hX hI (by omega) (by omega) (by omega) (by omega) kk
        · refine r_tabIn hC (tgt := 614) (off := 574) dL_law_40 (by omega) (by omega) (by rw [hj]; decide) (by decide) ?_
          exact law_14 hX hI (by omega) (by omega) (by omega) (by omega) kk
        · refine r_tabIn hC (tgt := 639) (off := 599) dL_law_40 (by omega) (by omega) (by rw [hj]; decide) (by decide) ?_
          exact law_15 hX hI (by omega) (by omega) (by omega) (by omega) kk
        · refine r_tabIn hC (tgt := 652) (off := 612) dL_law_40 (by omega) (by omega) (by rw [hj]; decide) (by decide) ?_
          exact law_16 hX hI (by omega) (by omega) (by omega) (by omega) kk
        · refine r_tabIn hC (tgt := 665) (off := 625) dL_law_40 (by omega) (by omega) (by rw [hj]; decide) (by decide) ?_
          exact law_17 hX hI (by omega) (by omega) (by omega) (by omega) kk
        · refine r_tabIn hC (tgt := 690) (off := 650) dL_law_40 (by omega) (by omega) (by rw [hj]; decide) (by decide) ?_
          exact law_18 hX hI (by omega) (by omega) (by omega) (by omega) kk
        · refine r_tabIn hC (tgt := 715) (off := 675) dL_law_40 (by omega) (by omega) (by rw [hj]; decide) (by decide) ?_
          exact law_19 hX hI (by omega) (by omega) (by omega) (by omega) kk
        · refine r_tabIn hC (tgt := 764) (off := 724) dL_law_40 (by omega) (by omega) (by rw [hj]; decide) (by decide) ?_
          exact law_20 hX hI (by omega) (by omega) (by omega) (by omega) kk
        · refine r_tabIn hC (tgt := 853) (off := 813) dL_law_40 (by omega) (by omega) (by rw [hj]; decide) (by decide) ?_
          exact law_21 hX hI (by omega) (by omega) (by omega) (by omega) kk
        · refine r_tabIn hC (tgt := 890) (off := 850) dL_law_40 (by omega) (by omega) (by rw [hj]; decide) (by decide) ?_
          exact law_22 hX hI (by omega) (by omega) (by omega) (by omega) kk
        · refine r_tabIn hC (tgt := 915) (off := 875) dL_law_40 (by omega) (by omega) (by rw [hj]; decide) (by decide) ?_
          exact law_23 hX hI (by omega) (by omega) (by omega) (by omega) kk
        · refine r_tabIn hC (tgt := 940) (off := 900) dL_law_40 (by omega) (by omega) (by rw [hj]; decide) (by decide) ?_
          exact law_24 hX hI (by omega) (by omega) (by omega) (by omega) kk
        · refine r_tabIn hC (tgt := 977) (off := 937) dL_law_40 (by omega) (by omega) (by rw [hj]; decide) (by decide) ?_
          exact law_25 hX hI (by omega) (by omega) (by omega) (by omega) kk
        · refine r_tabIn hC (tgt := 990) (off := 950) dL_law_40 (by omega) (by omega) (by rw [hj]; decide) (by decide) ?_
          exact law_26 hX hI (by omega) (by omega) (by omega) (by omega) kk
        · refine r_tabIn hC (tgt := 1027) (off := 987) dL_law_40 (by omega) (by omega) (by rw [hj]; decide) (by decide) ?_
          exact law_27 hX hI (by omega) (by omega) (by omega) (by omega) kk
        · refine r_tabIn hC (tgt := 1064) (off := 1024) dL_law_40 (by omega) (by omega) (by rw [hj]; decide) (by decide) ?_
          exact law_28 hX hI (by omega) (by omega) (by omega) (by omega) kk
        · refine r_tabIn hC (tgt := 1101) (off := 1061) dL_law_40 (by omega) (by omega) (by rw [hj]; decide) (by decide) ?_
          exact law_29 hX hI (by omega) (by omega) (by omega) (by omega) kk
        · refine r_tabIn hC (tgt := 1150) (off := 1110) dL_law_40 (by omega) (by omega) (by rw [hj]; decide) (by decide) ?_
          exact law_30 hX hI (by omega) (by omega) (by omega) (by omega) kk
        · refine r_tabIn hC (tgt := 1175) (off := 1135) dL_law_40 (by omega) (by omega) (by rw [hj]; decide) (by decide) ?_
          exact law_31 hX hI (by omega) (by omega) (by omega) (by omega) kk
        · refine r_tabIn hC (tgt := 1215) (off := 1175) dL_law_40 (by omega) (by omega) (by rw [hj]; decide) (by decide) ?_
          exact law_32 hX hI (by omega) (by omega) (by omega) (by omega) kk
        · refine r_tabIn hC (tgt := 1240) (off := 1200) dL_law_40 (by omega) (by omega) (by rw [hj]; decide) (by decide) ?_
          exact law_33 hX hI (by omega) (by omega) (by omega) (by omega) kk
theorem arrOf {s : State} {args : Array Value} {ty : FieldType} (h : (Cond.arrayClass ty).before args s = true) : ∃ cA, ArrOfT s cA ty ∧ s.vm.findClass ("[" ++ ty.toString) = some cA := by
  obtain ⟨c, k, comp, h1, h2, h3⟩ := Cond.arrayClass_spec h
  exact ⟨c, fun n z => ⟨fun k h => (by cases h), k, h2, comp, h3⟩, h1⟩
theorem arrOver {s : State} {args : Array Value} {C : String} (h : (Cond.arrayOver (.object C)).before args s = true) : ∃ cA, ArrOfT s cA (.object C) ∧ va_RA s cA (.object C) := by
  obtain ⟨comp, c, k, h1, h2, h3, h4, h5⟩ := Cond.arrayOver_spec h
  exact ⟨c, fun n z => ⟨fun k h => (by cases h), k, h3, comp, h4⟩, k, comp, h3, h4, h1, h5⟩
abbrev tmS (i : Nat) : Term := .string (sT.getD i ("", 0, "")).1 (sT.getD i ("", 0, "")).2.1
abbrev gnF : List Cond := flatC (Jvm.Cond.and given_1 narrow_1)
def txW (i : Nat) : List Cond := Cond.exactly (tmS i) "java/lang/String" :: Cond.eq (.field (tmS i) "java/lang/String" "coder" "B") (.int 0) :: Cond.arrayOf (.field (tmS i) "java/lang/String" "value" "[B") .byte :: Cond.eq (.length (.field (tmS i) "java/lang/String" "value" "[B")) (.int (Int32.ofNat (sLen i))) :: (List.range (sLen i)).map (fun j => Cond.eq (.elem (.field (tmS i) "java/lang/String" "value" "[B") (.int (Int32.ofNat j))) (.int ((sB.getD i []).getD j 0)))
set_option maxRecDepth 100000 in
theorem tx_all : gnF.drop 22 = (List.range 60).flatMap (fun i => txW i ++ (if 31 ≤ i then [Cond.eq (tmS (i - 31)) (tmS i)] else [])) := by decide +kernel
theorem tx_in {i : Nat} (hi : i < 60) {w : Cond} (h : w ∈ txW i) : w ∈ gnF := List.mem_of_mem_drop (i := 22) (by rw [tx_all]; exact List.mem_flatMap.mpr ⟨i, List.mem_range.mpr hi, List.mem_append_left _ h⟩)
theorem tx_1 (i : Nat) (hi : i < 60) : Cond.exactly (tmS i) "java/lang/String" ∈ gnF := tx_in hi List.mem_cons_self
theorem tx_2 (i : Nat) (hi : i < 60) : Cond.eq (.field (tmS i) "java/lang/String" "coder" "B") (.int 0) ∈ gnF := tx_in hi (List.mem_cons_of_mem _ List.mem_cons_self)
theorem tx_3 (i : Nat) (hi : i < 60) : Cond.arrayOf (.field (tmS i) "java/lang/String" "value" "[B") .byte ∈ gnF := tx_in hi (List.mem_cons_of_mem _ (List.mem_cons_of_mem _ List.mem_cons_self))
theorem tx_4 (i : Nat) (hi : i < 60) : Cond.eq (.length (.field (tmS i) "java/lang/String" "value" "[B")) (.int (Int32.ofNat (sLen i))) ∈ gnF := tx_in hi (List.mem_cons_of_mem _ (List.mem_cons_of_mem _ (List.mem_cons_of_mem _ List.mem_cons_self)))
theorem tx_5 (i : Nat) (hi : i < 60) (j : Nat) (hj : j < sLen i) : Cond.eq (.elem (.field (tmS i) "java/lang/String" "value" "[B") (.int (Int32.ofNat j))) (.int ((sB.getD i []).getD j 0)) ∈ gnF := tx_in hi (List.mem_cons_of_mem _ (List.mem_cons_of_mem _ (List.mem_cons_of_mem _ (List.mem_cons_of_mem _ (List.mem_map.mpr ⟨j, List.mem_range.mpr hj, rfl⟩)))))
theorem tx_6 : ∀ i, i < 60 → sLen i < 2 ^ 31 := by decide +kernel
theorem lwm_1 {w : Cond} (i : Nat) (h : tables_1_1[i]? = some w) : w ∈ lw_tbl := List.mem_append_right _ (show w ∈ tables_1 from List.mem_append_left _ (List.mem_of_getElem? h))
theorem lwm_2 {w : Cond} (i : Nat) (h : tables_1_2[i]? = some w) : w ∈ lw_tbl := List.mem_append_right _ (show w ∈ tables_1 from List.mem_append_right _ (List.mem_append_left _ (List.mem_of_getElem? h)))
theorem lwm_3 {w : Cond} (i : Nat) (h : tables_1_3[i]? = some w) : w ∈ lw_tbl := List.mem_append_right _ (show w ∈ tables_1 from List.mem_append_right _ (List.mem_append_right _ (List.mem_append_left _ (List.mem_of_getElem? h))))
theorem lwm_4 {w : Cond} (i : Nat) (h : tables_1_4[i]? = some w) : w ∈ lw_tbl := List.mem_append_right _ (show w ∈ tables_1 from List.mem_append_right _ (List.mem_append_right _ (List.mem_append_right _ (List.mem_append_left _ (List.mem_of_getElem? h)))))
theorem lwm_5 {w : Cond} (i : Nat) (h : tables_1_5[i]? = some w) : w ∈ lw_tbl := List.mem_append_right _ (show w ∈ tables_1 from List.mem_append_right _ (List.mem_append_right _ (List.mem_append_right _ (List.mem_append_right _ (List.mem_append_left _ (List.mem_of_getElem? h))))))
theorem lwm_6 {w : Cond} (i : Nat) (h : tables_1_6[i]? = some w) : w ∈ lw_tbl := List.mem_append_right _ (show w ∈ tables_1 from List.mem_append_right _ (List.mem_append_right _ (List.mem_append_right _ (List.mem_append_right _ (List.mem_append_right _ (List.mem_append_left _ (List.mem_of_getElem? h)))))))
theorem tx_7 : ∀ i, i < 60 → Cond.stringRef (sT.getD i ("", 0, "")).1 (sT.getD i ("", 0, "")).2.1 (sT.getD i ("", 0, "")).2.2 ∈ lw_tbl
  | 0, _ => lwm_2 173 rfl
  | 1, _ => lwm_2 235 rfl
  | 2, _ => lwm_3 8 rfl
  | 3, _ => lwm_3 9 rfl
  | 4, _ => lwm_3 13 rfl
  | 5, _ => lwm_3 30 rfl
  | 6, _ => lwm_3 31 rfl
  | 7, _ => lwm_3 32 rfl
  | 8, _ => lwm_3 33 rfl
  | 9, _ => lwm_3 34 rfl
  | 10, _ => lwm_3 35 rfl
  | 11, _ => lwm_3 36 rfl
  | 12, _ => lwm_3 41 rfl
  | 13, _ => lwm_3 50 rfl
  | 14, _ => lwm_3 55 rfl
  | 15, _ => lwm_3 60 rfl
  | 16, _ => lwm_3 61 rfl
  | 17, _ => lwm_3 62 rfl
  | 18, _ => lwm_3 63 rfl
  | 19, _ => lwm_3 64 rfl
  | 20, _ => lwm_3 65 rfl
  | 21, _ => lwm_3 66 rfl
  | 22, _ => lwm_3 67 rfl
  | 23, _ => lwm_3 68 rfl
  | 24, _ => lwm_3 73 rfl
  | 25, _ => lwm_3 74 rfl
  | 26, _ => lwm_3 75 rfl
  | 27, _ => lwm_3 80 rfl
  | 28, _ => lwm_3 85 rfl
  | 29, _ => lwm_4 201 rfl
  | 30, _ => lwm_4 228 rfl
  | 31, _ => lwm_5 219 rfl
  | 32, _ => lwm_5 237 rfl
  | 33, _ => lwm_6 9 rfl
  | 34, _ => lwm_6 10 rfl
  | 35, _ => lwm_6 11 rfl
  | 36, _ => lwm_6 28 rfl
  | 37, _ => lwm_6 29 rfl
  | 38, _ => lwm_6 30 rfl
  | 39, _ => lwm_6 31 rfl
  | 40, _ => lwm_6 32 rfl
  | 41, _ => lwm_6 37 rfl
  | 42, _ => lwm_6 38 rfl
  | 43, _ => lwm_6 43 rfl
  | 44, _ => lwm_6 48 rfl
  | 45, _ => lwm_6 53 rfl
  | 46, _ => lwm_6 54 rfl
  | 47, _ => lwm_6 55 rfl
  | 48, _ => lwm_6 56 rfl
  | 49, _ => lwm_6 57 rfl
  | 50, _ => lwm_6 58 rfl
  | 51, _ => lwm_6 59 rfl
  | 52, _ => lwm_6 60 rfl
  | 53, _ => lwm_6 61 rfl
  | 54, _ => lwm_6 62 rfl
  | 55, _ => lwm_6 67 rfl
  | 56, _ => lwm_6 68 rfl
  | 57, _ => lwm_6 69 rfl
  | 58, _ => lwm_6 74 rfl
  | 59, _ => lwm_6 75 rfl
  | n + 60, h => absurd h (by omega)
theorem tx_8 : ∀ q ∈ nestF, Cond.fieldLinkNest q.1 q.2.1 q.2.2.1 q.2.2.2.1 q.2.2.2.2.1 q.2.2.2.2.2 ∈ lw_tbl := List.forall_mem_cons.mpr ⟨lwm_5 93 rfl, List.forall_mem_cons.mpr ⟨lwm_5 94 rfl, List.forall_mem_cons.mpr ⟨lwm_5 95 rfl, List.forall_mem_cons.mpr ⟨lwm_5 96 rfl, List.forall_mem_cons.mpr ⟨lwm_5 97 rfl, List.forall_mem_cons.mpr ⟨lwm_5 98 rfl, List.forall_mem_cons.mpr ⟨lwm_5 99 rfl, List.forall_mem_cons.mpr ⟨lwm_5 100 rfl, List.forall_mem_cons.mpr ⟨lwm_5 101 rfl, List.forall_mem_cons.mpr ⟨lwm_5 102 rfl, List.forall_mem_cons.mpr ⟨lwm_5 104 rfl, List.forall_mem_cons.mpr ⟨lwm_5 106 rfl, List.forall_mem_cons.mpr ⟨lwm_5 108 rfl, List.forall_mem_cons.mpr ⟨lwm_5 110 rfl, List.forall_mem_cons.mpr ⟨lwm_5 112 rfl, List.forall_mem_cons.mpr ⟨lwm_5 114 rfl, List.forall_mem_cons.mpr ⟨lwm_5 116 rfl, List.forall_mem_cons.mpr ⟨lwm_5 118 rfl, List.forall_mem_cons.mpr ⟨lwm_5 120 rfl, List.forall_mem_cons.mpr ⟨lwm_5 122 rfl, List.forall_mem_cons.mpr ⟨lwm_5 124 rfl, List.forall_mem_cons.mpr ⟨lwm_5 126 rfl, List.forall_mem_cons.mpr ⟨lwm_5 128 rfl, List.forall_mem_cons.mpr ⟨lwm_5 130 rfl, List.forall_mem_cons.mpr ⟨lwm_5 132 rfl, List.forall_mem_cons.mpr ⟨lwm_5 134 rfl, List.forall_mem_cons.mpr ⟨lwm_5 136 rfl, List.forall_mem_cons.mpr ⟨lwm_5 138 rfl, fun _ h => absurd h List.not_mem_nil⟩⟩⟩⟩⟩⟩⟩⟩⟩⟩⟩⟩⟩⟩⟩⟩⟩⟩⟩⟩⟩⟩⟩⟩⟩⟩⟩⟩
theorem tx_9 : ∀ q ∈ nestM, Cond.methodLinkNest q.1 q.2.1 q.2.2.1 q.2.2.2 ∈ lw_tbl := List.forall_mem_cons.mpr ⟨lwm_1 32 rfl, List.forall_mem_cons.mpr ⟨lwm_1 113 rfl, List.forall_mem_cons.mpr ⟨lwm_1 156 rfl, List.forall_mem_cons.mpr ⟨lwm_2 21 rfl, List.forall_mem_cons.mpr ⟨lwm_2 56 rfl, List.forall_mem_cons.mpr ⟨lwm_3 190 rfl, List.forall_mem_cons.mpr ⟨lwm_3 231 rfl, List.forall_mem_cons.mpr ⟨lwm_5 88 rfl, fun _ h => absurd h List.not_mem_nil⟩⟩⟩⟩⟩⟩⟩⟩
theorem tx_10 : ∀ x ∈ dclL, Cond.declares x ∈ lw_tbl := by decide +kernel
theorem tx_11 : Cond.castable nse nse ∈ lw_tbl := by decide +kernel
theorem texts_of {args : Array Value} {s : State} {A : Nat → Prop} (hg : ∀ c ∈ gnF, c.before args s = true) (hA : ∀ a : Nat, a < s.heap.size → ¬ A a) : ∃ adK adV : Nat → Nat, ∀ i : Nat, i < 60 → ((tmS i).eval args s none [] s = some (.ref (adK i)) ∧ va_O "java/lang/String" (adK i) A s s.heap ∧ va_OF "java/lang/String" "coder" "B" (.int 0) (adK i) A s s.heap ∧ va_OF "java/lang/String" "value" "[B" (.ref (adV i)) (adK i) A s s.heap ∧ va_T .byte (adV i) (sLen i) (fun j => .int ((sB.getD i []).getD j 0)) A s s.heap) := by
  have h0 : ∀ i : Nat, ∃ q : Nat × Nat, i < 60 → (tmS i).eval args s none [] s = some (.ref q.1) ∧ va_O "java/lang/String" q.1 A s s.heap ∧ va_OF "java/lang/String" "coder" "B" (.int 0) q.1 A s s.heap ∧ va_OF "java/lang/String" "value" "[B" (.ref q.2) q.1 A s s.heap ∧ va_T .byte q.2 (sLen i) (fun j => .int ((sB.getD i []).getD j 0)) A s s.heap := by
    intro i
    by_cases hi : i < 60
    · obtain ⟨a, c, cA, kA, q1, q2, q3, q4, q5, q6, -⟩ := Cond.exactly_spec (args := args) (first := s) (o := none) (s := s) (idx := []) (t := tmS i) (cls := "java/lang/String") (hg _ (tx_1 i hi))
      obtain ⟨t, ht, hT⟩ := va_Tof (f := fun j => .int ((sB.getD i []).getD j 0)) (A := A) (tx_6 i hi) (hg _ (tx_3 i hi)) (va_eqt (hg _ (tx_4 i hi))) (fun j hj => va_eqt (hg _ (tx_5 i hi j hj))) hA
      exact ⟨(a, t), fun _ => ⟨q1, ⟨cA, q3, q5, by rw [q6]; exact q2, hA a (Array.getElem?_eq_some_iff.mp q3).1⟩, vk_OFof q1 (va_eqt (hg _ (tx_2 i hi))) hA, vk_OFof q1 ht hA, hT⟩⟩
    · exact ⟨(0, 0), fun h => absurd h hi⟩
  obtain ⟨ad, had⟩ := Classical.axiomOfChoice h0
  exact ⟨fun i => (ad i).1, fun i => (ad i).2, fun i hi => had i hi⟩
theorem Sf_0 : Sf (fun _ => 0) (fun _ => 0) (fun _ _ => 0) (fun _ _ => none) := by
  refine ⟨fun a e he => ?_, ⟨fun a h => ?_, fun a h => ?_, fun a h => ?_, fun a h => ?_⟩, fun a h => ?_, fun a k lo hi h => ?_, fun a lo hi h => ?_, fun a h => ?_, fun a h => ?_, fun a h => ?_, fun a kd mo h => ?_⟩
  · exact absurd he (by simp [refT])
  all_goals first | (exact absurd h (by decide)) | (exact absurd h (by simp [rngI, arrT]))
/-- the classes, the rows, the texts at the start -/
theorem start_g {args : Array Value} {s : State} (hts : ∀ w ∈ lw_tbl, w.before args s = true) (hg : ∀ c ∈ gnF, c.before args s = true) : ∃ g : GG, va_K g.1 vwCl (tys g) s ∧ Hx g (Areg (fun _ => 0) s.heap.size) s s.heap ∧ Ex g s := by
  have htb : ∀ w ∈ tb, w.before args s = true := fun w hw => hts w (tb_in hw)
  obtain ⟨c0, i0, hk0⟩ := u_known (C := RX0) (T := TX0) (N := 7) (n := 7) htb u0_in (hts (.instantiable RX0 7) (by decide +kernel))
  obtain ⟨c1, i1, hk1⟩ := u_known (C := RX1) (T := TX1) (N := 15) (n := 15) htb u1_in (hts (.instantiable RX1 15) (by decide +kernel))
  obtain ⟨c2, i2, hk2⟩ := u_known (C := RX2) (T := TX2) (N := 8) (n := 8) htb u2_in (hts (.instantiable RX2 8) (by decide +kernel))
  obtain ⟨c3, i3, hk3⟩ := u_known (C := RX3) (T := TX3) (N := 5) (n := 5) htb u3_in (hts (.instantiable RX3 5) (by decide +kernel))
  obtain ⟨c4, i4, hk4⟩ := u_known (C := RX4) (T := TX4) (N := 4) (n := 4) htb u4_in (hts (.instantiable RX4 4) (by decide +kernel))
  obtain ⟨c5, i5, hk5⟩ := u_known (C := RX5) (T := TX5) (N := 2) (n := 2) htb u5_in (hts (.instantiable RX5 2) (by decide +kernel))
  obtain ⟨c6, i6, hk6⟩ := u_known (C := RX6) (T := TX6) (N := 7) (n := 7) htb u6_in (hts (.instantiable RX6 7) (by decide +kernel))
  obtain ⟨c7, i7, hk7⟩ := u_known (C := RX7) (T := TX7) (N := 6) (n := 6) htb u7_in (hts (.instantiable RX7 6) (by decide +kernel))
  obtain ⟨c8, i8, hk8⟩ := u_known (C := RX8) (T := TX8) (N := 13) (n := 13) htb u8_in (hts (.instantiable RX8 13) (by decide +kernel))
  obtain ⟨c9, i9, hk9⟩ := u_known (C := RX9) (T := TX9) (N := 28) (n := 28) htb u9_in (hts (.instantiable RX9 28) (by decide +kernel))
  obtain ⟨c10, i10, hk10⟩ := u_known (C := RX10) (T := TX10) (N := 26) (n := 26) htb u10_in (hts (.instantiable RX10 26) (by decide +kernel))
  obtain ⟨a0, hA0, hN0⟩ := arrOf (hts (.arrayClass .byte) (by decide +kernel))
  obtain ⟨a1, hA1, hN1⟩ := arrOf (hts (.arrayClass .int) (by decide +kernel))
  obtain ⟨a2, hA2, hN2⟩ := arrOf (hts (.arrayClass .long) (by decide +kernel))
  obtain ⟨a3, hA3, hN3⟩ := arrOf (hts (.arrayClass .boolean) (by decide +kernel))
  obtain ⟨a4, hA4, hN4⟩ := arrOver (hts (.arrayOver (.object "HillTap$Course")) (by decide +kernel))
  obtain ⟨a5, hA5, hN5⟩ := arrOver (hts (.arrayOver (.object "HillTap$Story")) (by decide +kernel))
  have hA : ∀ a : Nat, a < s.heap.size → ¬ Areg (fun _ => 0) s.heap.size a := fun a h z => z.elim (fun q => q rfl) (fun q => by omega)
  obtain ⟨adK, adV, had⟩ := texts_of hg hA
  refine ⟨((fun k => if k = 0 then c0 else if k = 1 then c1 else if k = 2 then c2 else if k = 3 then c3 else if k = 4 then c4 else if k = 5 then c5 else if k = 6 then c6 else if k = 7 then c7 else if k = 8 then c8 else if k = 9 then c9 else c10, fun k => if k = 0 then i0 else if k = 1 then i1 else if k = 2 then i2 else if k = 3 then i3 else if k = 4 then i4 else if k = 5 then i5 else if k = 6 then i6 else if k = 7 then i7 else if k = 8 then i8 else if k = 9 then i9 else i10), (fun k => if k = 0 then a0 else if k = 1 then a1 else if k = 2 then a2 else if k = 3 then a3 else if k = 4 then a4 else a5), adK, adV), ⟨fun k q hq => ?_, fun k q hq => ?_⟩, ⟨fun i hi => (had i hi).2, ?_, ?_, ?_, ?_⟩, ⟨fun i hi => ?_, fun q hq => va_Nw.of rfl (hts _ (tx_8 q hq)), fun q hq => va_Nw.of rfl (hts _ (tx_9 q hq)), ?_, ?_⟩⟩
  · match k, hq with
    | 0, hq => cases hq; exact hk0
    | 1, hq => cases hq; exact hk1
    | 2, hq => cases hq; exact hk2
    | 3, hq => cases hq; exact hk3
    | 4, hq => cases hq; exact hk4
    | 5, hq => cases hq; exact hk5
    | 6, hq => cases hq; exact hk6
    | 7, hq => cases hq; exact hk7
    | 8, hq => cases hq; exact hk8
    | 9, hq => cases hq; exact hk9
    | 10, hq => cases hq; exact hk10
    | k + 11, hq => simp [vwCl] at hq
  · match k, hq with
    | 0, hq => cases hq; exact ⟨hA0, hN0⟩
    | 1, hq => cases hq; exact ⟨hA1, hN1⟩
    | 2, hq => cases hq; exact ⟨hA2, hN2⟩
    | 3, hq => cases hq; exact ⟨hA3, hN3⟩
    | 4, hq => cases hq; exact ⟨hA4, hN4⟩
    | 5, hq => cases hq; exact ⟨hA5, hN5⟩
    | k + 6, hq => simp [tys] at hq
  · exact va_Zof (hts _ (by decide +kernel)) (hts _ (by decide +kernel)) (va_eqt (hg _ (by decide +kernel))) hA
  · exact vx_Zqof (hts _ (by decide +kernel)) (hts _ (by decide +kernel)) (hg _ (by decide +kernel)) hA
  · exact vx_Zqof (hts _ (by decide +kernel)) (hts _ (by decide +kernel)) (hg _ (by decide +kernel)) hA
  · exact vx_Zqof (hts _ (by decide +kernel)) (hts _ (by decide +kernel)) (hg _ (by decide +kernel)) hA
  · exact vk_R.of (hts _ (tx_7 i hi)) (had i hi).1
  · exact va_AO.of (hts _ (by decide +kernel))
  · exact va_AO.of (hts _ (by decide +kernel))

