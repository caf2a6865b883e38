theorem UU_0 : UU (fun _ => 0) (fun _ _ => none) := ⟨fun _ _ _ h => (by cases h), fun _ _ _ _ _ h => (by cases h)⟩
def Di (I : Nat → Nat → Int32) (a : Nat) : DD := fun r j => if r = 5 then (I a j).toInt else 0
theorem RW_i {h lk a5 : Nat} {R : Nat → Nat → Option Nat} {I : Nat → Nat → Int32} (ha : R h 5 = some a5) : RW (CC h lk R) (cntN (Di I a5)) (Di I a5) I := by
  have e0 : ∀ j, Di I a5 0 j = 0 := fun j => by unfold Di; rw [if_neg (by decide)]
  intro r j a k hC hj _
  by_cases hr : r = 5
  · subst hr
    rcases hC with ⟨o, f, h1, h2, h3⟩ | ⟨h1, h2, -⟩
    · cases h1; subst h3; have h2' : R h 5 = some a := h2; rw [ha] at h2'; cases h2'; unfold Di; rw [if_pos rfl]
    · omega
  · exfalso
    have : cntN (Di I a5) r = 0 := by
      unfold cntN; rw [e0, e0, e0, e0, e0]
      repeat' split
      all_goals (first | rfl | contradiction)
    rw [this] at hj; omega
def R_law : String := "HillTapLaw"
def lw_P (b : Addr) (xs : List Int32) (args : Array Value) (s : State) : Prop := args = #[.ref b] ∧ s.IntsAt b xs ∧ xs.length ≤ 3072 ∧ (Jvm.Cond.and given_1 narrow_1).before args s = true
def lw_Q (_ : Array Value) (s : State) (o : Outcome) (t : State) : Prop := o = .returned (some (.int 1)) ∧ Framed s o t [] 601024 7293034
def lw_Z (below : List Frame) (a : Array Value) (s : State) : State → Prop := fun t => ∃ o, t.status = .running ∧ Ended t below o ∧ lw_Q a s o t
/-- the law's own end, with 1 on the stack, nothing written that was there before, its room as the claim has it -/
theorem lw_ret {p : Program} {l : Launch} {e : Env} {s : State} {m : MethodId} {below : List Frame} {meth : Method} {c : Code} {b : Nat} (hx : p.tables.exec = Jvm.exec) (hb : c.code = code) (hr : meth.sig.returnType = ret) (hlocks : meth.locks = false) {pc : Nat} {H : Heap} {ls : Array Slot} (hdg : decode code pc = .ok (.ireturn, 1)) : W p l e room_1 s m #[Value.ref b] below meth c H [] 601024 7293034 (lw_Z below #[Value.ref b] s) (F0 m pc ls [.int 1]) := by
  intro T hT X
  obtain ⟨fs, hret, hrun, hended, hW, hframe⟩ := X.leave (v := some (.int 1)) (hlocks := hlocks) (fun h => by rw [hr] at h; cases h)
  have hmeth' : T.vm.method? m = some meth := X.method'
  refine ⟨T.setFrames fs, ?_, .returned (some (.int 1)), hrun, hended, rfl, ⟨_, rfl⟩, hW, hframe⟩
  jvm_step X.here [X.here.top, hx, hb, hdg, hmeth', hr, ret, narrow_b1]
  (try refine ⟨rfl, ?_⟩); (try refine ⟨rfl, ?_⟩)
  first | (intro acts; rw [hret _ acts rfl rfl rfl]) | rw [hret _ _ rfl rfl rfl]
  exact Steps.refl _
/-- what holds at the law's entry: the machine, the code, the tables' words (any of lw_tbl by 'hts w (by decide +kernel)'), the script of L ints xs at the cell b, what the Statement gives of the start (any of its parts by flat_of_before) -/
def lw_At (p : Program) (s : State) (m : MethodId) (meth : Method) (c : Code) (b L : Nat) (xs : Nat → Int32) : Prop :=
  p.tables.exec = Jvm.exec ∧ c.code = code ∧ meth.sig.returnType = ret ∧ c.maxLocals = 7 ∧ s.vm.findClass R_law = some m.cls ∧ (∀ w ∈ lw_tbl, w.before #[Value.ref b] s = true) ∧ va_X b L xs s s.heap ∧ b < s.heap.size ∧ meth.locks = false ∧ (Jvm.Cond.and given_1 narrow_1).before #[Value.ref b] s = true
set_option maxHeartbeats 4000000 in
set_option maxRecDepth 100000 in
theorem whole_start {p : Program} {e : Env} {s : State} {m : MethodId} {below : List Frame} {meth : Method} {c : Code} (l : Launch) (hl : l.stackTraces = false) {b L : Nat} {xs : Nat → Int32} (hL : L ≤ 3072) (C0 : lw_At p s m meth c b L xs) : W p l e room_1 s m #[Value.ref b] below meth c s.heap [] 0 0 (lw_Z below #[Value.ref b] s) (entryFrame m ([Value.ref b] : List Value).toArray 7) := by
  obtain ⟨hx, hb, hr, hml, hown, hts, hXs, hbl, hlocks, hgv⟩ := C0
  obtain ⟨g, hK, hH, hE⟩ := start_g hts (flat_of_before _ hgv)
  have hcs : Cst s := Cst.of (hts _ tx_11) (fun x hx => hts _ (tx_10 x hx))
  obtain ⟨X, hXd⟩ : ∃ X : XT, X = (p, l, e, room_1, s, m, #[Value.ref b], below, meth, c, lw_Z below #[Value.ref b] s, fun _ => 0) := ⟨_, rfl⟩
  have hC : Cx g X cL_law "HillTapLaw" 7 room_1 := by subst hXd; exact ⟨hx, hb, hml, hown, fun w hw => hts w (tb_in hw), hK, hH, hE, rfl⟩
  have hLX : LX g X b L xs := by subst hXd; exact ⟨hC, hcs, hl, hXs, hbl, fun z => z.elim (fun q => q rfl) (fun q => absurd hbl (Nat.not_lt.mpr q)), hL⟩
  have hfin : ∀ (lv : List (Nat × Value)) (cn sn : Nat) (M : MM) (v : Int32), v = 1 → cn ≤ 601024 → sn ≤ 7293034 → P g X 7 1260 lv [.int v] cn sn M := by
    intro lv cn sn M v hv h1 h2 H locs ls hw hS hl'
    subst hXd hv
    refine va_forget (fun q hq => (hS.2.2 q hq).elim (fun z => absurd rfl z) id) ?_
    refine W.widen (k := 601024) (n := 7293034) h1 h2 ?_
    exact lw_ret hx hb hr hlocks dL_law_1260
  suffices h : P g X 7 0 [(0, .ref b)] [] 0 0 (fun _ => 0, fun _ => 0, fun _ _ => 0, fun _ _ => 0, fun _ _ => none) by
    rw [lg_entry_eq]
    subst hXd
    exact h s.heap [] _ ⟨[], fun a => ⟨fun z => absurd z List.not_mem_nil, fun z => absurd rfl z⟩, fun k q h => by simp [va_pl] at h, fun i j p q h => by simp [va_pl] at h, fun k q h => by simp [va_pl] at h⟩ va_S.rf (lv_entry [.ref b] (n := 7) (Nat.le_of_ble_eq_true rfl))
  refine r_new hC (ci := 8) (ty := tyX8) rfl u8_in tyX8_ok df8 mT_1_22 mT_1_23 mT_1_1 rfl (by decide) (by decide) dL_law_0 (fun q hq => ?_)
  refine r_dup hC dL_law_3 rfl ?_
  refine r_callI hC (As := []) (rest := [.ref q]) (c_X8_init g (xL X) _ _ _ _ _ (Sf_0.growO hq rfl) q (va_up_self _ _ _) (by funext j; exact z2_self _ _ _ _) (fun j => z2_self _ _ _ _) (UU.new (kd := 21 + 8) UU_0 hq (by decide)) (UN.fresh UU_0 hq)) mT_1_26 mT_1_1 mT_1_24 mT_1_25 rfl okX8_init ⟨by decide, by decide⟩ rfl rfl (Nat.le_of_ble_eq_true rfl) ⟨by decide, by decide⟩ dL_law_4 (aV5 (F := fun st M => P g X 7 7 [(0, .ref b)] st _ _ M) fun M1 h1 => ?_)
  obtain ⟨K1, len1, I1, J1, R1⟩ := M1
  obtain ⟨⟨h1, T, te, tk, h, lk, s, ls, rd, bo⟩, u1, -, -⟩ := h1
  dsimp only at bo u1
  obtain ⟨b0, b1, b2, b3, b9, bte, btk, bh, bs, kT, kte, ktk, kh, klk, ks, kls, krd, zT, zte, zh, zlk, zrd, nhs, nls⟩ := bo
  have k1 : K1 q = 9 := h1.2.1
  show P g X 7 7 [(0, .ref b)] [.ref q] _ _ (K1, len1, I1, J1, R1)
  refine r_astore_n hC (lv' := [(1, .ref q), (0, .ref b)]) dL_law_7 (by decide) rfl ?_
  refine r_new hC (ci := 10) (ty := tyX10) rfl u10_in tyX10_ok df10 mT_4_229 mT_4_230 mT_1_10 rfl (by decide) (by decide) dL_law_8 (fun q2 hq2 => ?_)
  refine r_dup hC dL_law_11 rfl ?_
  refine r_callI hC (As := []) (rest := [.ref q2]) (c_X10_init g (xL X) _ _ _ _ _ (h1.1.growO hq2 rfl) q2 (va_up_self _ _ _) (by funext j; exact z2_self _ _ _ _) (fun j => z2_self _ _ _ _) (UU.new (kd := 21 + 10) u1 hq2 (by decide)) (UN.fresh u1 hq2)) mT_4_233 mT_1_10 mT_4_231 mT_4_232 rfl okX10_init ⟨by decide, by decide⟩ rfl rfl (Nat.le_of_ble_eq_true rfl) ⟨by decide, by decide⟩ dL_law_12 (aV5 (F := fun st M => P g X 7 15 [(1, .ref q), (0, .ref b)] st _ _ M) fun M2 h2 => ?_)
  obtain ⟨K2, len2, I2, J2, R2⟩ := M2
  obtain ⟨⟨h2, rm3⟩, u2, -, -⟩ := h2
  dsimp only at rm3 u2
  have old := made_old hq2 h2
  show P g X 7 15 [(1, .ref q), (0, .ref b)] [.ref q2] _ _ (K2, len2, I2, J2, R2)
  have kq : K2 q = 9 := (old q (by rw [k1]; decide)).1.trans k1
  have km : K2 q2 = 11 := h2.2.1
  have oo : ∀ b q, K1 b = q → q ≠ 0 → K2 b = q ∧ len2 b = len1 b ∧ I2 b = I1 b ∧ R2 b = R1 b := fun b q z1 z2 => by obtain ⟨y1, y2, y3, y4⟩ := old b (by rw [z1]; exact z2); exact ⟨y1.trans z1, y2, y3, y4⟩
  obtain ⟨K_x9, -, I_x9, R_x9⟩ := oo q 9 k1 (by decide)
  obtain ⟨K_T, -, I_T, R_T⟩ := oo T 6 kT (by decide)
  obtain ⟨K_te, -, I_te, R_te⟩ := oo te 7 kte (by decide)
  obtain ⟨K_tk, -, I_tk, R_tk⟩ := oo tk 8 ktk (by decide)
  obtain ⟨K_h, -, I_h, R_h⟩ := oo h 2 kh (by decide)
  obtain ⟨K_lk, -, I_lk, R_lk⟩ := oo lk 3 klk (by decide)
  obtain ⟨K_s, -, I_s, R_s⟩ := oo s 2 ks (by decide)
  obtain ⟨K_ls, -, I_ls, R_ls⟩ := oo ls 3 kls (by decide)
  obtain ⟨K_rd, -, I_rd, R_rd⟩ := oo rd 4 krd (by decide)
  have rq0 := (congrFun R_x9 0).trans b0
  have rq1 := (congrFun R_x9 1).trans b1
  have rq2 := (congrFun R_x9 2).trans b2
  have rq3 := (congrFun R_x9 3).trans b3
  have rq9 := (congrFun R_x9 9).trans b9
  have rte := (congrFun R_te 0).trans bte
  have rtk := (congrFun R_tk 0).trans btk
  have rh := (congrFun R_h 0).trans bh
  have rs := (congrFun R_s 0).trans bs
  have hs22 : Sf K2 len2 I2 R2 := h2.1
  obtain ⟨bt, hbt, kbt, nbt⟩ := hs22.row (a := T) K_T 0 40 900 (by decide) (by decide)
  obtain ⟨nr, hnr, knr, lnr⟩ := hs22.row (a := te) K_te 1 42 19 (by decide) (by decide)
  obtain ⟨pr, hpr, kpr, lpr⟩ := hs22.row (a := te) K_te 2 48 5 (by decide) (by decide)
  obtain ⟨mt, hmt, kmt, nmt⟩ := hs22.row (a := q2) (q := 11) km 5 49 900 (by decide) (by decide)
  have iT : I2 T = fun _ => 0 := I_T.trans zT
  have ite : I2 te = fun _ => 0 := I_te.trans zte
  have im : I2 q2 = va_up (fun _ => 0) 2 (-1) := h2.2.2.1
  have ix : I2 q 12 = 0 := (congrFun I_x9 12).trans ((congrFun h1.2.2.1 12).trans (va_up_self _ _ _))
  refine r_astore_n hC (lv' := [(2, .ref q2), (1, .ref q), (0, .ref b)]) dL_law_15 (by decide) rfl ?_
  refine r_iconst hC (v := (1)) dL_law_16 (by decide) (by decide) (fun z1 ez1 tz1 => ?_)
  refine r_newarray hC (atype := .long) (ty := .long) (kd := 42) (t := 2) (N := 1) rfl mT_1_80 rfl rfl rfl (by decide) (fun _ h => h) (1, arE 2 (K2, len2, fun _ _ => 0, fun _ _ => 0, fun _ _ => none) 0) rfl (ha_2 1 _ _) (nlt_0 (by omega)) (cl_of (by omega)) (by decide) (by decide) (by decide) dL_law_17 (fun q3 hq3 => ?_)
  have n1 : q ≠ q3 := fun z => by rw [z, hq3] at kq; exact absurd kq (by decide)
  have n2 : q2 ≠ q3 := fun z => by rw [z, hq3] at km; exact absurd km (by decide)
  have n_T : T ≠ q3 := fun z => by rw [z, hq3] at K_T; exact absurd K_T (by decide)
  have n_te : te ≠ q3 := fun z => by rw [z, hq3] at K_te; exact absurd K_te (by decide)
  have n_tk : tk ≠ q3 := fun z => by rw [z, hq3] at K_tk; exact absurd K_tk (by decide)
  have n_h : h ≠ q3 := fun z => by rw [z, hq3] at K_h; exact absurd K_h (by decide)
  have n_lk : lk ≠ q3 := fun z => by rw [z, hq3] at K_lk; exact absurd K_lk (by decide)
  have n_s : s ≠ q3 := fun z => by rw [z, hq3] at K_s; exact absurd K_s (by decide)
  have n_ls : ls ≠ q3 := fun z => by rw [z, hq3] at K_ls; exact absurd K_ls (by decide)
  have n_rd : rd ≠ q3 := fun z => by rw [z, hq3] at K_rd; exact absurd K_rd (by decide)
  have n_bt : bt ≠ q3 := fun z => by rw [z, hq3] at kbt; exact absurd kbt (by decide)
  have n_nr : nr ≠ q3 := fun z => by rw [z, hq3] at knr; exact absurd knr (by decide)
  have n_pr : pr ≠ q3 := fun z => by rw [z, hq3] at kpr; exact absurd kpr (by decide)
  have n_mt : mt ≠ q3 := fun z => by rw [z, hq3] at kmt; exact absurd kmt (by decide)
  refine r_astore_n hC (lv' := [(3, .ref q3), (2, .ref q2), (1, .ref q), (0, .ref b)]) dL_law_19 (by decide) rfl ?_
  refine r_iconst hC (v := (0)) dL_law_20 (by decide) (by decide) (fun z0 ez0 tz0 => ?_)
  refine r_istore hC (lv' := [(4, .int z0), (3, .ref q3), (2, .ref q2), (1, .ref q), (0, .ref b)]) dL_law_21 (by decide) rfl ?_
  refine r_sub [4, 3, 2, 1, 0] rfl ?_
  refine r_widen hC (k2 := 200 + 18 * 0) (n2 := 11000 + 231 * 0) (by decide) (by decide) ?_
  have lrn : LR h lk rd q2 (va_up K2 q3 42) (z2 I2 q3 0) (z2 R2 q3 none) := by
    unfold LR; rw [z2_ne _ _ _ n_rd, z2_ne _ _ _ n2, I_rd.trans zrd, im]
    refine ⟨rfl, Or.inl ⟨(z2_ne _ _ _ n2).trans rm3, ?_⟩⟩
    rw [z2_ne _ _ _ n_h, z2_ne _ _ _ n_h, z2_ne _ _ _ n_h, z2_ne _ _ _ n_h, z2_ne _ _ _ n_h, z2_ne _ _ _ n_lk, z2_ne _ _ _ n_lk, z2_ne _ _ _ n_lk, z2_ne _ _ _ n_lk, I_h.trans zh, I_lk.trans zlk]
    exact ⟨rfl, rfl, rfl, rfl, rfl, rfl, rfl, rfl, rfl, rfl⟩
  obtain ⟨a5, ha5, ka5, -⟩ := hs22.row (a := h) K_h 5 57 60 (by decide) (by decide)
  have lcb2 : LCb q h lk q2 (Di (z2 I2 q3 0) a5) (va_up K2 q3 42) (z2 I2 q3 0) (z2 R2 q3 none) := by
    refine ⟨RW_i ((z2_ne _ _ _ n_h).trans ha5), ?_, fun hm z => ?_⟩
    · unfold scC; rw [z2_ne _ _ _ n_h, z2_ne _ _ _ n_h, z2_ne _ _ _ n_h, z2_ne _ _ _ n_h, z2_ne _ _ _ n_lk, z2_ne _ _ _ n_lk, z2_ne _ _ _ n_lk, z2_ne _ _ _ n_lk, I_h.trans zh, I_lk.trans zlk]; exact ⟨rfl, rfl, rfl, rfl, rfl, rfl, rfl, rfl⟩
    · rw [(z2_ne _ _ _ n2).trans rm3] at z; cases z
  have d70 : ¬ (1 ≤ Di (z2 I2 q3 0) a5 0 7) := by unfold Di; rw [if_neg (by decide)]; decide
  have rd00 : (z2 I2 q3 0 rd 0).toInt = 0 := by rw [z2_ne _ _ _ n_rd, I_rd.trans zrd]; rfl
  have m200 : (z2 I2 q3 0 q2 20).toInt = 0 := by rw [z2_ne _ _ _ n2, im]; rfl
  have lcn : LC q h lk rd q2 (va_up K2 q3 42) (z2 I2 q3 0) (z2 R2 q3 none) := ⟨UU.new u2 hq3 (by decide), _, lcb2, fun _ _ => 0, ⟨lcb2.1, lcb2.2.1, fun z => absurd z d70, fun _ _ _ _ _ _ _ _ _ z => absurd z d70, fun r j a2 hr ha hj => by exfalso; omega, fun j hj => by exfalso; omega⟩, fun r j a2 hr ha hj => by exfalso; omega⟩
  refine law_loop hLX hfin 513 0 (by omega) (by omega) z0 _ _ _ _ _ (by omega) (show LI q q2 q3 T bt te tk nr pr rd mt _ _ _ _ from ⟨h2.1.grow hq3 rfl, ⟨(va_up_ne _ _ n1).trans kq, (va_up_ne _ _ n2).trans km, ⟨va_up_self _ _ _, va_up_self _ _ _⟩, ⟨(z2_ne _ _ _ n1).trans rq0, (va_up_ne _ _ n_T).trans K_T⟩, ⟨(z2_ne _ _ _ n_T).trans hbt, (va_up_ne _ _ n_bt).trans kbt, (va_up_ne _ _ n_bt).trans nbt⟩, ⟨(z2_ne _ _ _ n1).trans rq1, (va_up_ne _ _ n_te).trans K_te⟩, ⟨(z2_ne _ _ _ n_te).trans rte, (va_up_ne _ _ n_tk).trans K_tk⟩, (z2_ne _ _ _ n_tk).trans rtk, ⟨(z2_ne _ _ _ n_te).trans hnr, (va_up_ne _ _ n_nr).trans knr, (va_up_ne _ _ n_nr).trans lnr⟩, ⟨(z2_ne _ _ _ n_te).trans hpr, (va_up_ne _ _ n_pr).trans kpr, (va_up_ne _ _ n_pr).trans lpr⟩, ⟨(z2_ne _ _ _ n1).trans rq9, (va_up_ne _ _ n_rd).trans K_rd⟩, ⟨(z2_ne _ _ _ n2).trans hmt, (va_up_ne _ _ n_mt).trans kmt, (va_up_ne _ _ n_mt).trans nmt⟩⟩, ⟨h, s, lk, ls, ⟨⟨(z2_ne _ _ _ n1).trans rq2, (va_up_ne _ _ n_h).trans K_h⟩, ⟨(z2_ne _ _ _ n1).trans rq3, (va_up_ne _ _ n_s).trans K_s⟩, ⟨(z2_ne _ _ _ n_h).trans rh, (va_up_ne _ _ n_lk).trans K_lk⟩, ⟨(z2_ne _ _ _ n_s).trans rs, (va_up_ne _ _ n_ls).trans K_ls⟩, nhs, nls⟩, lrn, lcn⟩, ?_, ?_⟩)
  · intro j hj; rw [z2_ne _ _ _ n_T, iT] at hj; exact absurd hj (by show ¬ ((j : Int) < 0); omega)
  · unfold LV; rw [z2_ne _ _ _ n_T, z2_ne _ _ _ n2, z2_ne _ _ _ n_te, z2_ne _ _ _ n2, z2_ne _ _ _ n1, z2_ne _ _ _ n2, z2_ne _ _ _ n_te, iT, ite, im, ix]; exact ⟨rfl, rfl, fun z => absurd z (by decide), fun _ => rfl⟩
set_option maxHeartbeats 4000000 in
theorem lw_walk (l : Launch) (hl : l.stackTraces = false) (b : Addr) (xs : List Int32) : MetFree l x (headSpec (Jvm.Cond.code x code maxLocals ret :: tables_1) room_1) (lw_P b xs) (fun _ _ _ _ _ => True) lw_Q := by
  refine MetFree.of_bodyS (code := code) (maxLocals := maxLocals) (ret := ret) (by decide) ?_ ?_
  · intro args s m h hn
    obtain ⟨meth, c, h1, h2, h3, h4, h5, h6, -, -⟩ := Cond.code_spec hn (atoms_spec (ws := Jvm.Cond.code x code maxLocals ret :: tables_1) h _ List.mem_cons_self)
    exact ⟨meth, c, h1, h2, h3, h4, h5, h6⟩
  · intro p e s m args below meth c s₁ B hml0 hP _
    obtain ⟨rfl, hx, hbd, hgv⟩ := hP
    obtain ⟨scr, harrAt, hlist, hof, hsmall⟩ := hx
    obtain ⟨hcb, hkn, -, -⟩ := State.arrayAt?_spec harrAt
    have hown : s.vm.findClass R_law = some m.cls := findClass_of_methodNamed B.named
    have hts0 : ∀ c ∈ (Jvm.Cond.code x code maxLocals ret :: tables_1), c.before #[Value.ref b] s = true := atoms_spec (ws := Jvm.Cond.code x code maxLocals ret :: tables_1) B.pre
    have hts : ∀ w ∈ lw_tbl, w.before #[Value.ref b] s = true := k2_hts_sels lw_privs (fun w hw => hts0 w (List.mem_cons_of_mem _ hw)) lw_privs_ok
    have hml : c.maxLocals = 7 := B.maxLocals_eq (hts0 _ List.mem_cons_self)
    have X₀ : Stand p l e room_1 s m #[Value.ref b] below meth c s₁ [] 0 0 := Stand.of_body B
    have hh0 : s₁.heap = s.heap := by rw [B.state]; rfl
    have hsz : scr.slots.size = xs.length := by rw [← Array.length_toList, hlist, List.length_map]
    have hval : ∀ j : Nat, j < xs.length → scr.slots[j]? = some (.int (xs.getD j 0)) := fun j hj => by
      rw [← Array.getElem?_toList, hlist]
      simp [hj]
    have hbl : b < s.heap.size := (Array.getElem?_eq_some_iff.mp hcb).1
    have hX : va_X b xs.length (fun j => xs.getD j 0) s s.heap := ⟨scr, hcb, hof, hkn, hsz, hval⟩
    have K : W p l e room_1 s m #[Value.ref b] below meth c s₁.heap [] 0 0 (lw_Z below #[Value.ref b] s) (entryFrame m ([Value.ref b] : List Value).toArray 7) := by
      rw [hh0]
      exact whole_start l hl hbd ⟨B.exec, B.bytes, B.returns, hml, hown, hts, hX, hbl, B.notSynchronized, hgv⟩
    obtain ⟨t, a1, o, b1, b2, b3⟩ := K s₁ rfl X₀
    exact ⟨t, o, a1, b1, b2, b3⟩
theorem lw_pre_spec {args : Array Value} {s : State} (h : (Jvm.Cond.and given_1 narrow_1).before args s = true) (hr : rest_1_c.before args s = true) : ∃ (b : Addr) (xs : List Int32), lw_P b xs args s := by
  have hs := flat_of_before _ h
  have hq := flat_of_before _ hr
  have hc : (Cond.count 1).before args s = true := hs _ (by decide +kernel)
  have harr : (Cond.arrayOf (.arg 0) .int).before args s = true := hs _ (by decide +kernel)
  have hle : (Cond.le (.length (.arg 0)) (.int 3072)).before args s = true := hs _ (by decide +kernel)
  have hlen : (Cond.isInt (.length (.arg 0))).before args s = true := hq _ (by decide +kernel)
  have hall : (Cond.all (.arg 0) (.isInt (.elem (.arg 0) (.index 0)))).before args s = true := hq _ (by decide +kernel)
  obtain ⟨b, xs, hb, hx⟩ := State.ints_of_pre rfl harr hlen hall
  have hsm : xs.length < 2 ^ 31 := hx.choose_spec.2.2.2
  have hev : (Term.length (.arg 0)).eval args s none [] s = some (.int xs.length.toInt32) := hx.length_eval hb
  have hv := Cond.le_ints hev (show (Term.int 3072).eval args s none [] s = some (.int 3072) from rfl)
  have hd : xs.length.toInt32 ≤ 3072 := by
    simpa [Cond.before, Cond.holds, hv] using hle
  have hN : xs.length ≤ 3072 := (Int32.ofNat_le_ofNat hsm (by decide)).mp (show Int32.ofNat xs.length ≤ Int32.ofNat 3072 from hd)
  exact ⟨b, xs, Cond.one_arg hc (show args[0]? = some (.ref b) from hb), hx, hN, h⟩
theorem lw_comes (l : Launch) (hl : l.stackTraces = false) : Comes l x (Jvm.Cond.code x code maxLocals ret :: tables_1) room_1 (fun tb e args s => Calls_1 tb e args s ∧ rest_1 tb e args s ∧ Pre_1 tb e args s)
    (fun _ _ args s o t => lw_Q args s o t) := by
  intro p e ha hc hk s m args below hf hfit hheap happ hpre
  obtain ⟨b, xs, hP⟩ := lw_pre_spec hpre.2.2 hpre.2.1
  obtain ⟨k, o, h1, h2, h3, hQ⟩ := lw_walk l hl b xs p e ha hc hk s m args below hf ((Spec.applies_iff_loose hf).mp happ).1 hP trivial
  exact ⟨k, o, h1, h2, h3, hQ⟩
theorem lw_frame {s t : State} {o : Outcome} {args : Array Value} (h : Framed s o t [] 601024 7293034) :
    Framed s o t (fieldLocs frame_1_writes args s ++ arrayLocs frame_1_arrays args s ++ staticLocs frame_1_statics s) 601024 7293034 := h
theorem lw_limb (L : Cond) (hL : ∀ (args : Array Value) (s t : State), L.after args s (.returned (some (.int 1))) t = true) :
    ArmFor flags0 classFile x code maxLocals ret World_1 tables_1 room_1 Calls_1 rest_1 Pre_1
      (fun tb e a s o t => postC L tb e a s o t ∧ Framed s o t (fieldLocs frame_1_writes a s ++ arrayLocs frame_1_arrays a s ++ staticLocs frame_1_statics s) 601024 7293034) := by
  intro l hfl _ _ p e ha hc hk s m args below hf hfit hheap happ hpre
  have hl : l.stackTraces = false := by rw [Launch.stackTraces, hfl]; decide +kernel
  obtain ⟨k, o, h1, h2, h3, rfl, hF⟩ := lw_comes l hl p e ha hc hk s m args below hf hfit hheap happ hpre
  exact ⟨k, _, h1, h2, h3, hL args s _, lw_frame hF⟩
theorem i_vc : Claimed_1_1 ∧ Claimed_1_2 := ⟨lw_limb limb_1_1 (fun args s t => by simp [limb_1_1, Cond.after, Cond.holds, Cond.value]), lw_limb limb_1_2 (fun args s t => Cond.after_iff.mpr (by
  first | (rw [show limb_1_2 = Cond.eq .result (.int 1) from rfl, Cond.eq_ints (x := 1) (y := 1) rfl rfl]; simp; done) | (simp [limb_1_2, Cond.value, Term.eval]; done)))⟩

