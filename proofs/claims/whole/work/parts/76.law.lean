/-! THE CLAIM OUT OF ONE WALK OF THE LAW'S BODY. Your part is whole_start (and what it stands on); all else here is the same for every law, but numbers. -/
def R_law : String := "ColourWorksLaw"
def lw_P (b : Addr) (xs : List Int32) (args : Array Value) (s : State) : Prop := args = #[.ref b] ∧ s.IntsAt b xs ∧ xs.length ≤ 3072 ∧ (Jvm.Cond.and given_1 narrow_1).before args s = true
/-- the law's own end, with 1 on the stack, nothing written that was there before, its room as the claim has it -/
theorem lw_ret {p : Program} {l : Launch} {e : Env} {s : State} {m : MethodId} {below : List Frame} {meth : Method} {c : Code} {b : Nat} (hx : p.tables.exec = Jvm.exec) (hb : c.code = code) (hr : meth.sig.returnType = ret) (hlocks : meth.locks = false) {pc : Nat} {H : Heap} {ls : Array Slot} (hdg : decode code pc = .ok (.ireturn, 1)) : W p l e room_1 s m #[Value.ref b] below meth c H [] 600000 7302250 (lw_Z below #[Value.ref b] s) (F0 m pc ls [.int 1]) := by
  intro T hT X
  obtain ⟨fs, hret, hrun, hended, hW, hframe⟩ := X.leave (v := some (.int 1)) (hlocks := hlocks) (fun h => by rw [hr] at h; cases h)
  have hmeth' : T.vm.method? m = some meth := X.method'
  refine ⟨T.setFrames fs, ?_, .returned (some (.int 1)), hrun, hended, rfl, ⟨_, rfl⟩, hW, hframe⟩
  jvm_step X.here [X.here.top, hx, hb, hdg, hmeth', hr, ret, narrow_b1]
  (try refine ⟨rfl, ?_⟩); (try refine ⟨rfl, ?_⟩)
  first | (intro acts; rw [hret _ acts rfl rfl rfl]) | rw [hret _ _ rfl rfl rfl]
  exact Steps.refl _
/-- what holds at the law's entry: the machine, the code, the tables' words (any of lw_tbl by 'hts w (by decide +kernel)'), the script of L ints xs at the cell b, what the Statement gives of the start (any of its parts by flat_of_before) -/
def lw_At (p : Program) (s : State) (m : MethodId) (meth : Method) (c : Code) (b L : Nat) (xs : Nat → Int32) : Prop :=
  p.tables.exec = Jvm.exec ∧ c.code = code ∧ meth.sig.returnType = ret ∧ c.maxLocals = 4 ∧ s.vm.findClass R_law = some m.cls ∧ (∀ w ∈ lw_tbl, w.before #[Value.ref b] s = true) ∧ va_X b L xs s s.heap ∧ b < s.heap.size ∧ meth.locks = false ∧ (Jvm.Cond.and given_1 narrow_1).before #[Value.ref b] s = true
theorem lw_retA {p : Program} {l : Launch} {e : Env} {s : State} {m : MethodId} {below : List Frame} {meth : Method} {c : Code} {args : Array Value} (hx : p.tables.exec = Jvm.exec) (hb : c.code = code) (hr : meth.sig.returnType = ret) (hlocks : meth.locks = false) {pc : Nat} {H : Heap} {ls : Array Slot} (hdg : decode code pc = .ok (.ireturn, 1)) : W p l e room_1 s m args below meth c H [] 600000 7302250 (lw_Z below args s) (F0 m pc ls [.int 1]) := by
  intro T hT X
  obtain ⟨fs, hret, hrun, hended, hW, hframe⟩ := X.leave (v := some (.int 1)) (hlocks := hlocks) (fun h => by rw [hr] at h; cases h)
  have hmeth' : T.vm.method? m = some meth := X.method'
  refine ⟨T.setFrames fs, ?_, .returned (some (.int 1)), hrun, hended, rfl, ⟨_, rfl⟩, hW, hframe⟩
  jvm_step X.here [X.here.top, hx, hb, hdg, hmeth', hr, ret, narrow_b1]
  (try refine ⟨rfl, ?_⟩); (try refine ⟨rfl, ?_⟩)
  first | (intro acts; rw [hret _ acts rfl rfl rfl]) | rw [hret _ _ rfl rfl rfl]
  exact Steps.refl _

theorem xl_ret {nm : MethodName} {q : Nat × (Nat → Int32)} {pc : Nat} {ls : List (Option Value)} {n : Nat} {h : HF} {kc ks : Nat} (hd : decode cL_law pc = .ok (.ireturn, 1)) (h1 : kc ≤ 600000) (h2 : ks ≤ 7302250) : Vg (mLaw nm) (some q) QL pc ls [.int 1] n h kc ks := by
  intro D dA sc b n0 p l e s m args below meth c C H locs lsm hP hn hS hL
  obtain ⟨hx, hb, hr0, hml, hown, hts, hlocks, hK, hsz, hnm, hX⟩ := id C
  have h0 := (hX q rfl).2.2
  refine va_forget (fun l hl => by rw [hsz, h0, Nat.add_zero]; exact hS.2.2 l hl) ?_
  refine W.widen (k := 600000) (n := 7302250) h1 h2 ?_
  exact lw_retA hx hb hr0 hlocks hd
theorem Vg_heap {M : MI} {X : SX} {Q : QF} {pc : Nat} {ls : List (Option Value)} {st : List Value} {n : Nat} {h h' : HF} {kc ks : Nat} (e : ∀ j, 1 ≤ j → j ≤ n → h j = h' j) (k : Vg M X Q pc ls st n h' kc ks) : Vg M X Q pc ls st n h kc ks := by
  intro D dA sc b n0 p l e1 s m args below meth c C H locs lsm hP hn hS hL
  have e2 : wd sc b dA n h = wd sc b dA n h' := by
    unfold wd
    refine List.map_congr_left (fun i hi => ?_)
    rw [e (i + 1) (by omega) (by have := List.mem_range.mp hi; omega)]
  rw [e2] at hP
  exact k D dA sc b n0 p l e1 s m args below meth c C H locs lsm hP hn hS hL
theorem law_loop {nm : MethodName} {L : Nat} {xs : Nat → Int32} (hL : L ≤ 3072) : ∀ (k i : Nat) (h : HF) (nb nl nr nt nd nj np : Nat), L + 1 ≤ i + k → i ≤ L + 6 → Rel h nb nl nr nt nd nj np → Vg (mLaw nm) (some (L, xs)) QL 18 [some (.ref 0), some (.ref 1), some (.ref 132), some (.int (nI i))] [] 170 h 170 7114 := by
  intro k
  induction k with
  | zero =>
    intro i h nb nl nr nt nd nj np hk hi r
    refine x_iload_n (q := 19) dL_law_18 rfl rfl rfl ?_
    refine x_aload_n (q := 20) dL_law_19 rfl rfl rfl ?_
    refine x_slen (q := 21) dL_law_20 rfl ?_
    refine x_bipush (q := 23) (v := 6) dL_law_21 rfl (by decide) ?_
    refine x_isub (q := 24) dL_law_23 rfl ?_
    have ey : (Int32.ofNat L - 6).toInt = (L : Int) - 6 := by
      have e1 : (Int32.ofNat L).toInt = (L : Int) := nI_tI (by omega)
      rw [tI_sub (by omega) (by omega) (by decide) (by decide), e1]; rfl
    refine x_ic_gt (q := 27) (t := 1344) dL_law_24 rfl (by decide) (fun _ => ?_) (fun c_ => absurd (Int32.lt_iff_toInt_lt.mpr (by rw [ey, nI_tI (by omega)]; omega)) c_)
    refine x_iconst (q := 1345) (v := 1) dL_law_1344 rfl (by decide) ?_
    exact xl_ret dL_law_1345 (by decide) (by decide)
  | succ k ih =>
    intro i h nb nl nr nt nd nj np hk hi r
    refine x_iload_n (q := 19) dL_law_18 rfl rfl rfl ?_
    refine x_aload_n (q := 20) dL_law_19 rfl rfl rfl ?_
    refine x_slen (q := 21) dL_law_20 rfl ?_
    refine x_bipush (q := 23) (v := 6) dL_law_21 rfl (by decide) ?_
    refine x_isub (q := 24) dL_law_23 rfl ?_
    have ey : (Int32.ofNat L - 6).toInt = (L : Int) - 6 := by
      have e1 : (Int32.ofNat L).toInt = (L : Int) := nI_tI (by omega)
      rw [tI_sub (by omega) (by omega) (by decide) (by decide), e1]; rfl
    refine x_ic_gt (q := 27) (t := 1344) dL_law_24 rfl (by decide) (fun _ => ?_) (fun c_ => ?_)
    · refine x_iconst (q := 1345) (v := 1) dL_law_1344 rfl (by decide) ?_
      exact xl_ret dL_law_1345 (by decide) (by decide)
    · have hi6 : i + 6 ≤ L := by
        rw [Int32.lt_iff_toInt_lt, ey, nI_tI (by omega)] at c_
        omega
      have K : ∀ (h2 : HF) (nb nl nr nt nd nj np : Nat), Rel h2 nb nl nr nt nd nj np → Vg (mLaw nm) (some (L, xs)) QL 1338 [some (.ref 0), some (.ref 1), some (.ref 132), some (.int (nI i))] [] 170 h2 170 7114 := by
        intro h2 nb nl nr nt nd nj np r2
        refine x_iinc (q := 1341) dL_law_1338 rfl rfl (show nI i + Int32.ofInt 6 = nI (i + 6) from nI_pj i 6) (Nat.le_of_ble_eq_true rfl) ?_
        refine x_goto (q := 18) dL_law_1341 (by decide) ?_
        exact ih (i + 6) h2 nb nl nr nt nd nj np (by omega) (by omega) r2
      refine x_aload_n (q := 28) dL_law_27 rfl rfl rfl ?_
      refine x_iload_n (q := 29) dL_law_28 rfl rfl rfl ?_
      refine x_sldN (q := 30) dL_law_29 rfl (by omega) (by omega) ?_
      refine x_bipush (q := 32) (v := 63) dL_law_30 rfl (by decide) ?_
      refine x_iand (q := 33) dL_law_32 rfl ?_
      by_cases ho : (xs i &&& 63).toInt < 0 ∨ 33 < (xs i &&& 63).toInt
      · exact x_tswO (q := 1338) dL_law_33 ho (by decide) (K h nb nl nr nt nd nj np r)
      · have hc : (xs i &&& 63).toInt = 0 ∨ (xs i &&& 63).toInt = 1 ∨ (xs i &&& 63).toInt = 2 ∨ (xs i &&& 63).toInt = 3 ∨ (xs i &&& 63).toInt = 4 ∨ (xs i &&& 63).toInt = 5 ∨ (xs i &&& 63).toInt = 6 ∨ (xs i &&& 63).toInt = 7 ∨ (xs i &&& 63).toInt = 8 ∨ (xs i &&& 63).toInt = 9 ∨ (xs i &&& 63).toInt = 10 ∨ (xs i &&& 63).toInt = 11 ∨ (xs i &&& 63).toInt = 12 ∨ (xs i &&& 63).toInt = 13 ∨ (xs i &&& 63).toInt = 14 ∨ (xs i &&& 63).toInt = 15 ∨ (xs i &&& 63).toInt = 16 ∨ (xs i &&& 63).toInt = 17 ∨ (xs i &&& 63).toInt = 18 ∨ (xs i &&& 63).toInt = 19 ∨ (xs i &&& 63).toInt = 20 ∨ (xs i &&& 63).toInt = 21 ∨ (xs i &&& 63).toInt = 22 ∨ (xs i &&& 63).toInt = 23 ∨ (xs i &&& 63).toInt = 24 ∨ (xs i &&& 63).toInt = 25 ∨ (xs i &&& 63).toInt = 26 ∨ (xs i &&& 63).toInt = 27 ∨ (xs i &&& 63).toInt = 28 ∨ (xs i &&& 63).toInt = 29 ∨ (xs i &&& 63).toInt = 30 ∨ (xs i &&& 63).toInt = 31 ∨ (xs i &&& 63).toInt = 32 ∨ (xs i &&& 63).toInt = 33 := by omega
        rcases hc with e | e | e | e | e | e | e | e | e | e | e | e | e | e | e | e | e | e | e | e | e | e | e | e | e | e | e | e | e | e | e | e | e | e
        · exact x_tswI (off := 151) (q := 184) dL_law_33 (by omega) (by omega) (by rw [e]; rfl) (by decide) (lw_c0 hi6 hL r K)
        · exact x_tswI (off := 184) (q := 217) dL_law_33 (by omega) (by omega) (by rw [e]; rfl) (by decide) (lw_c1 hi6 hL r K)
        · exact x_tswI (off := 237) (q := 270) dL_law_33 (by omega) (by omega) (by rw [e]; rfl) (by decide) (lw_c2 hi6 hL r K)
        · exact x_tswI (off := 280) (q := 313) dL_law_33 (by omega) (by omega) (by rw [e]; rfl) (by decide) (lw_c3 hi6 hL r K)
        · exact x_tswI (off := 303) (q := 336) dL_law_33 (by omega) (by omega) (by rw [e]; rfl) (by decide) (lw_c4 hi6 hL r K)
        · exact x_tswI (off := 326) (q := 359) dL_law_33 (by omega) (by omega) (by rw [e]; rfl) (by decide) (lw_c5 hi6 hL r K)
        · exact x_tswI (off := 349) (q := 382) dL_law_33 (by omega) (by omega) (by rw [e]; rfl) (by decide) (lw_c6 hi6 hL r K)
        · exact x_tswI (off := 362) (q := 395) dL_law_33 (by omega) (by omega) (by rw [e]; rfl) (by decide) (lw_c7 hi6 hL r K)
        · exact x_tswI (off := 431) (q := 464) dL_law_33 (by omega) (by omega) (by rw [e]; rfl) (by decide) (lw_c8 hi6 hL r K)
        · exact x_tswI (off := 464) (q := 497) dL_law_33 (by omega) (by omega) (by rw [e]; rfl) (by decide) (lw_c9 hi6 hL r K)
        · exact x_tswI (off := 477) (q := 510) dL_law_33 (by omega) (by omega) (by rw [e]; rfl) (by decide) (lw_c10 hi6 hL r K)
        · exact x_tswI (off := 520) (q := 553) dL_law_33 (by omega) (by omega) (by rw [e]; rfl) (by decide) (lw_c11 hi6 hL r K)
        · exact x_tswI (off := 563) (q := 596) dL_law_33 (by omega) (by omega) (by rw [e]; rfl) (by decide) (lw_c12 hi6 hL r K)
        · exact x_tswI (off := 626) (q := 659) dL_law_33 (by omega) (by omega) (by rw [e]; rfl) (by decide) (lw_c13 hi6 hL r K)
        · exact x_tswI (off := 649) (q := 682) dL_law_33 (by omega) (by omega) (by rw [e]; rfl) (by decide) (lw_c14 hi6 hL r K)
        · exact x_tswI (off := 672) (q := 705) dL_law_33 (by omega) (by omega) (by rw [e]; rfl) (by decide) (lw_c15 hi6 hL r K)
        · exact x_tswI (off := 705) (q := 738) dL_law_33 (by omega) (by omega) (by rw [e]; rfl) (by decide) (lw_c16 hi6 hL r K)
        · exact x_tswI (off := 738) (q := 771) dL_law_33 (by omega) (by omega) (by rw [e]; rfl) (by decide) (lw_c17 hi6 hL r K)
        · exact x_tswI (off := 791) (q := 824) dL_law_33 (by omega) (by omega) (by rw [e]; rfl) (by decide) (lw_c18 hi6 hL r K)
        · exact x_tswI (off := 824) (q := 857) dL_law_33 (by omega) (by omega) (by rw [e]; rfl) (by decide) (lw_c19 hi6 hL r K)
        · exact x_tswI (off := 847) (q := 880) dL_law_33 (by omega) (by omega) (by rw [e]; rfl) (by decide) (lw_c20 hi6 hL r K)
        · exact x_tswI (off := 880) (q := 913) dL_law_33 (by omega) (by omega) (by rw [e]; rfl) (by decide) (lw_c21 hi6 hL r K)
        · exact x_tswI (off := 903) (q := 936) dL_law_33 (by omega) (by omega) (by rw [e]; rfl) (by decide) (lw_c22 hi6 hL r K)
        · exact x_tswI (off := 936) (q := 969) dL_law_33 (by omega) (by omega) (by rw [e]; rfl) (by decide) (lw_c23 hi6 hL r K)
        · exact x_tswI (off := 969) (q := 1002) dL_law_33 (by omega) (by omega) (by rw [e]; rfl) (by decide) (lw_c24 hi6 hL r K)
        · exact x_tswI (off := 1002) (q := 1035) dL_law_33 (by omega) (by omega) (by rw [e]; rfl) (by decide) (lw_c25 hi6 hL r K)
        · exact x_tswI (off := 1035) (q := 1068) dL_law_33 (by omega) (by omega) (by rw [e]; rfl) (by decide) (lw_c26 hi6 hL r K)
        · exact x_tswI (off := 1094) (q := 1127) dL_law_33 (by omega) (by omega) (by rw [e]; rfl) (by decide) (lw_c27 hi6 hL r K)
        · exact x_tswI (off := 1127) (q := 1160) dL_law_33 (by omega) (by omega) (by rw [e]; rfl) (by decide) (lw_c28 hi6 hL r K)
        · exact x_tswI (off := 1180) (q := 1213) dL_law_33 (by omega) (by omega) (by rw [e]; rfl) (by decide) (lw_c29 hi6 hL r K)
        · exact x_tswI (off := 1223) (q := 1256) dL_law_33 (by omega) (by omega) (by rw [e]; rfl) (by decide) (lw_c30 hi6 hL r K)
        · exact x_tswI (off := 1246) (q := 1279) dL_law_33 (by omega) (by omega) (by rw [e]; rfl) (by decide) (lw_c31 hi6 hL r K)
        · exact x_tswI (off := 1269) (q := 1302) dL_law_33 (by omega) (by omega) (by rw [e]; rfl) (by decide) (lw_c32 hi6 hL r K)
        · exact x_tswI (off := 1282) (q := 1315) dL_law_33 (by omega) (by omega) (by rw [e]; rfl) (by decide) (lw_c33 hi6 hL r K)
theorem law_all {nm : MethodName} {L : Nat} {xs : Nat → Int32} (hL : L ≤ 3072) : Vg (mLaw nm) (some (L, xs)) QL 0 [some (.ref 0), none, none, none] [] 0 T0 0 0 := by
  refine x_new (q := 3) dL_law_0 rfl n_L_7 (Nat.le_of_ble_eq_true rfl) (Nat.le_of_ble_eq_true rfl) (kc' := 1) (ks' := 12) rfl rfl ?_
  show Vg _ _ _ 3 _ [.ref 1] 1 (hu _ 1 _) 1 12
  refine x_dup (q := 4) dL_law_3 rfl rfl ?_
  refine x_ci (q := 7) (av := []) (rest := [.ref 1]) dL_law_4 rfl l_L_9 (c_X9_init (hu_eq _ _ _)) rfl rfl (by decide) rfl rfl (kc' := 131) (ks' := 3240) rfl rfl (fun rr g hp => ?_)
  obtain ⟨rfl, hT⟩ := hp
  show Vg _ _ _ 7 _ [.ref 1] 131 g 131 3240
  refine x_astore_n (q := 8) dL_law_7 rfl rfl (Nat.le_of_ble_eq_true rfl) ?_
  refine x_new (q := 11) dL_law_8 rfl n_L_10 (Nat.le_of_ble_eq_true rfl) (Nat.le_of_ble_eq_true rfl) (kc' := 132) (ks' := 3289) rfl rfl ?_
  show Vg _ _ _ 11 _ [.ref 132] 132 (hu _ 132 _) 132 3289
  refine x_dup (q := 12) dL_law_11 rfl rfl ?_
  refine x_ci (q := 15) (av := []) (rest := [.ref 132]) dL_law_12 rfl l_L_12 (c_X10_init (fun j q1 q2 => by rw [hu_ne _ _ (by omega)]; exact hT j q1 q2) (hu_eq _ _ _)) rfl rfl (by decide) rfl rfl (kc' := 170) (ks' := 7114) rfl rfl (fun rr g2 hp => ?_)
  obtain ⟨rfl, hT2⟩ := hp
  show Vg _ _ _ 15 _ [.ref 132] 170 g2 170 7114
  refine x_astore_n (q := 16) dL_law_15 rfl rfl (Nat.le_of_ble_eq_true rfl) ?_
  refine x_iconst (q := 17) (v := 0) dL_law_16 rfl (by decide) ?_
  refine x_istore_n (q := 18) dL_law_17 rfl rfl (Nat.le_of_ble_eq_true rfl) ?_
  refine Vg_heap (h' := T0) hT2 ?_
  exact law_loop hL (L + 1) 0 T0 0 0 0 0 0 0 0 (by omega) (by omega) Rel_T0
/-- a class that the tables say can be made is known -/
theorem kn_of {s : State} {args : Array Value} {own : String} {idx ci N : Nat} {fs : List Value} (hg : ∀ w ∈ gw, w.before args s = true) (h : NL own idx ci fs N) : ∃ (cC : ClassId) (iS : Nat → Nat), ∀ q : vw_C, vwCl[ci]? = some q → u_Kn s q.1 q.2.1 q.2.2 cC iS := by
  obtain ⟨C, T, ty, h1, h2, h3, h4, h5, h6, h7, h8⟩ := h
  obtain ⟨cC, iS, hk⟩ := u_known (C := C) (T := T) (N := N) (n := N) hg h2 (hg _ h5)
  refine ⟨cC, iS, fun q hq => ?_⟩
  rw [h1] at hq
  cases hq
  exact hk
theorem ar_of {s : State} {args : Array Value} {ty : FieldType} (h : (Cond.arrayClass ty).before args s = true) : ∃ cA : ClassId, ArrOfT s cA ty ∧ s.vm.findClass ("[" ++ ty.toString) = some cA := by
  obtain ⟨cA, kA, comp, hfind, hk, hkind⟩ := Cond.arrayClass_spec h
  exact ⟨cA, fun n z => ⟨fun k h => (by cases h), kA, hk, comp, hkind⟩, hfind⟩
theorem ao_of {s : State} {C : String} (h : va_AO C s) : ∃ cA : ClassId, ArrOfT s cA (.object C) ∧ va_RA s cA (.object C) := by
  obtain ⟨comp, c, k, h1, h2, h3, h4, h5⟩ := Cond.arrayOver_spec h
  exact ⟨c, fun n z => ⟨fun k h => (by cases h), k, h3, comp, h4⟩, k, comp, h3, h4, h1, h5⟩
set_option maxHeartbeats 4000000 in
/-- THE LAW, from its entry -/
theorem whole_start {p : Program} {e : Env} {s : State} {m : MethodId} {below : List Frame} {meth : Method} {c : Code} (l : Launch) {b L : Nat} {xs : Nat → Int32} (hL : L ≤ 3072) (C0 : lw_At p s m meth c b L xs) : W p l e room_1 s m #[Value.ref b] below meth c s.heap [] 0 0 (lw_Z below #[Value.ref b] s) (entryFrame m ([Value.ref b] : List Value).toArray 4) := by
  obtain ⟨hx, hb, hr, hml, hown, hts, hX, hbl, hlocks, hgv⟩ := id C0
  have hg : ∀ w ∈ gw, w.before #[Value.ref b] s = true := fun w hw => hts w (List.mem_filter.mp hw).1
  obtain ⟨c0, i0, k0⟩ := kn_of hg n_X9_30
  obtain ⟨c1, i1, k1⟩ := kn_of hg n_X9_23
  obtain ⟨c2, i2, k2⟩ := kn_of hg n_X9_40
  obtain ⟨c3, i3, k3⟩ := kn_of hg n_X9_53
  obtain ⟨c4, i4, k4⟩ := kn_of hg n_X0_7
  obtain ⟨c5, i5, k5⟩ := kn_of hg n_X9_9
  obtain ⟨c6, i6, k6⟩ := kn_of hg n_X9_60
  obtain ⟨c7, i7, k7⟩ := kn_of hg n_X9_16
  obtain ⟨c8, i8, k8⟩ := kn_of hg n_X9_47
  obtain ⟨c9, i9, k9⟩ := kn_of hg n_L_7
  obtain ⟨c10, i10, k10⟩ := kn_of hg n_L_10
  obtain ⟨D, hKc⟩ : ∃ D : va_G, ∀ (k : Nat) (q : vw_C), vwCl[k]? = some q → u_Kn s q.1 q.2.1 q.2.2 (D.1 k) (D.2 k) := by
    refine ⟨((fun k => match k with | 0 => c0 | 1 => c1 | 2 => c2 | 3 => c3 | 4 => c4 | 5 => c5 | 6 => c6 | 7 => c7 | 8 => c8 | 9 => c9 | _ => c10), (fun k => match k with | 0 => i0 | 1 => i1 | 2 => i2 | 3 => i3 | 4 => i4 | 5 => i5 | 6 => i6 | 7 => i7 | 8 => i8 | 9 => i9 | _ => i10)), ?_⟩
    intro k q hq
    match k, hq with
    | 0, hq => exact k0 q hq
    | 1, hq => exact k1 q hq
    | 2, hq => exact k2 q hq
    | 3, hq => exact k3 q hq
    | 4, hq => exact k4 q hq
    | 5, hq => exact k5 q hq
    | 6, hq => exact k6 q hq
    | 7, hq => exact k7 q hq
    | 8, hq => exact k8 q hq
    | 9, hq => exact k9 q hq
    | 10, hq => exact k10 q hq
    | k + 11, hq => exact absurd (List.getElem?_eq_some_iff.mp hq).1 (by show ¬ k + 11 < 11; omega)
  have b0 : va_AO "ColourWorks$Batch" s := va_AO.of (hts (.arrayOver (.object "ColourWorks$Batch")) (by decide +kernel))
  have t0 : va_AO "ColourWorks$Tank" s := va_AO.of (hts (.arrayOver (.object "ColourWorks$Tank")) (by decide +kernel))
  obtain ⟨a0, x0, y0⟩ := ar_of (hg _ q_newi)
  obtain ⟨a1, x1, y1⟩ := ar_of (hg _ q_newb)
  obtain ⟨a2, x2, y2⟩ := ar_of (hg _ q_newl)
  obtain ⟨a3, x3, y3⟩ := ao_of b0
  obtain ⟨a4, x4, y4⟩ := ao_of t0
  obtain ⟨dA, e0, e1, e2, e3, e4⟩ : ∃ dA : Nat → ClassId, dA 0 = a0 ∧ dA 1 = a1 ∧ dA 2 = a2 ∧ dA 3 = a3 ∧ dA 4 = a4 := ⟨fun k => match k with | 0 => a0 | 1 => a1 | 2 => a2 | 3 => a3 | _ => a4, rfl, rfl, rfl, rfl, rfl⟩
  have hK : Kx D dA s := by
    refine ⟨⟨hKc, fun k q hk => ?_⟩, fun w hw => ?_, b0, t0⟩
    · match k, hk with
      | 0, hk => cases hk; rw [show (dA 0) = a0 from e0]; exact ⟨x0, y0⟩
      | 1, hk => cases hk; rw [show (dA 1) = a1 from e1]; exact ⟨x1, y1⟩
      | 2, hk => cases hk; rw [show (dA 2) = a2 from e2]; exact ⟨x2, y2⟩
      | 3, hk => cases hk; rw [show (dA 3) = a3 from e3]; exact ⟨x3, y3⟩
      | 4, hk => cases hk; rw [show (dA 4) = a4 from e4]; exact ⟨x4, y4⟩
      | k + 5, hk => exact absurd (List.getElem?_eq_some_iff.mp hk).1 (by show ¬ k + 5 < 5; omega)
    · obtain ⟨w1, w2⟩ := List.mem_filter.mp hw
      refine va_Nw.of ?_ (hts w w1)
      cases w <;> first | rfl | exact absurd w2 (by simp [nwp])
  have C : Cx (mLaw ⟨"", meth.name, ""⟩) (some (L, xs)) D dA b s.heap.size 0 p s m #[Value.ref b] meth c := ⟨hx, hb, hr, hml, hown, hg, hlocks, hK, rfl, rfl, fun q hq => by cases hq; exact ⟨hX, hbl, rfl⟩⟩
  have hl := lv_entry ([.ref b]) (n := 4) (Nat.le_of_ble_eq_true rfl)
  rw [lg_entry_eq]
  exact law_all hL D dA b s.heap.size 0 p l e s m #[Value.ref b] below meth c C s.heap [] _ (fun k q h => by simp [wd] at h) rfl va_S.rf hl
set_option maxHeartbeats 4000000 in
theorem lw_walk (l : Launch) (b : Addr) (xs : List Int32) : MetFree l x (headSpec (Jvm.Cond.code x code maxLocals ret :: tables_1) room_1) (lw_P b xs) (fun _ _ _ _ _ => True) lw_Q := by
  refine MetFree.of_bodyS (code := code) (maxLocals := maxLocals) (ret := ret) (by decide) ?_ ?_
  · intro args s m h hn
    obtain ⟨meth, c, h1, h2, h3, h4, h5, h6, -, -⟩ := Cond.code_spec hn (atoms_spec (ws := Jvm.Cond.code x code maxLocals ret :: tables_1) h _ List.mem_cons_self)
    exact ⟨meth, c, h1, h2, h3, h4, h5, h6⟩
  · intro p e s m args below meth c s₁ B hml0 hP _
    obtain ⟨rfl, hx, hbd, hgv⟩ := hP
    obtain ⟨scr, harrAt, hlist, hof, hsmall⟩ := hx
    obtain ⟨hcb, hkn, -, -⟩ := State.arrayAt?_spec harrAt
    have hown : s.vm.findClass R_law = some m.cls := findClass_of_methodNamed B.named
    have hts0 : ∀ c ∈ (Jvm.Cond.code x code maxLocals ret :: tables_1), c.before #[Value.ref b] s = true := atoms_spec (ws := Jvm.Cond.code x code maxLocals ret :: tables_1) B.pre
    have hts : ∀ w ∈ lw_tbl, w.before #[Value.ref b] s = true := k2_hts_sels lw_privs (fun w hw => hts0 w (List.mem_cons_of_mem _ hw)) lw_privs_ok
    have hml : c.maxLocals = 4 := B.maxLocals_eq (hts0 _ List.mem_cons_self)
    have X₀ : Stand p l e room_1 s m #[Value.ref b] below meth c s₁ [] 0 0 := Stand.of_body B
    have hh0 : s₁.heap = s.heap := by rw [B.state]; rfl
    have hsz : scr.slots.size = xs.length := by rw [← Array.length_toList, hlist, List.length_map]
    have hval : ∀ j : Nat, j < xs.length → scr.slots[j]? = some (.int (xs.getD j 0)) := fun j hj => by
      rw [← Array.getElem?_toList, hlist]
      simp [hj]
    have hbl : b < s.heap.size := (Array.getElem?_eq_some_iff.mp hcb).1
    have hX : va_X b xs.length (fun j => xs.getD j 0) s s.heap := ⟨scr, hcb, hof, hkn, hsz, hval⟩
    have K : W p l e room_1 s m #[Value.ref b] below meth c s₁.heap [] 0 0 (lw_Z below #[Value.ref b] s) (entryFrame m ([Value.ref b] : List Value).toArray 4) := by
      rw [hh0]
      exact whole_start l hbd ⟨B.exec, B.bytes, B.returns, hml, hown, hts, hX, hbl, B.notSynchronized, hgv⟩
    obtain ⟨t, a1, o, b1, b2, b3⟩ := K s₁ rfl X₀
    exact ⟨t, o, a1, b1, b2, b3⟩
theorem lw_pre_spec {args : Array Value} {s : State} (h : (Jvm.Cond.and given_1 narrow_1).before args s = true) (hr : rest_1_c.before args s = true) : ∃ (b : Addr) (xs : List Int32), lw_P b xs args s := by
  have hs := flat_of_before _ h
  have hq := flat_of_before _ hr
  have hc : (Cond.count 1).before args s = true := hs _ (by decide +kernel)
  have harr : (Cond.arrayOf (.arg 0) .int).before args s = true := hs _ (by decide +kernel)
  have hle : (Cond.le (.length (.arg 0)) (.int 3072)).before args s = true := hs _ (by decide +kernel)
  have hlen : (Cond.isInt (.length (.arg 0))).before args s = true := hq _ (by decide +kernel)
  have hall : (Cond.all (.arg 0) (.isInt (.elem (.arg 0) (.index 0)))).before args s = true := hq _ (by decide +kernel)
  obtain ⟨b, xs, hb, hx⟩ := State.ints_of_pre rfl harr hlen hall
  have hsm : xs.length < 2 ^ 31 := hx.choose_spec.2.2.2
  have hev : (Term.length (.arg 0)).eval args s none [] s = some (.int xs.length.toInt32) := hx.length_eval hb
  have hv := Cond.le_ints hev (show (Term.int 3072).eval args s none [] s = some (.int 3072) from rfl)
  have hd : xs.length.toInt32 ≤ 3072 := by
    simpa [Cond.before, Cond.holds, hv] using hle
  have hN : xs.length ≤ 3072 := (Int32.ofNat_le_ofNat hsm (by decide)).mp (show Int32.ofNat xs.length ≤ Int32.ofNat 3072 from hd)
  exact ⟨b, xs, Cond.one_arg hc (show args[0]? = some (.ref b) from hb), hx, hN, h⟩
theorem lw_comes (l : Launch) : Comes l x (Jvm.Cond.code x code maxLocals ret :: tables_1) room_1 (fun tb e args s => Calls_1 tb e args s ∧ rest_1 tb e args s ∧ Pre_1 tb e args s)
    (fun _ _ args s o t => lw_Q args s o t) := by
  intro p e ha hc hk s m args below hf hfit hheap happ hpre
  obtain ⟨b, xs, hP⟩ := lw_pre_spec hpre.2.2 hpre.2.1
  obtain ⟨k, o, h1, h2, h3, hQ⟩ := lw_walk l b xs p e ha hc hk s m args below hf ((Spec.applies_iff_loose hf).mp happ).1 hP trivial
  exact ⟨k, o, h1, h2, h3, hQ⟩
theorem lw_frame {s t : State} {o : Outcome} {args : Array Value} (h : Framed s o t [] 600000 7302250) :
    Framed s o t (fieldLocs frame_1_writes args s ++ arrayLocs frame_1_arrays args s ++ staticLocs frame_1_statics s) 600000 7302250 := h
theorem lw_limb (L : Cond) (hL : ∀ (args : Array Value) (s t : State), L.after args s (.returned (some (.int 1))) t = true) :
    ArmFor flags0 classFile x code maxLocals ret World_1 tables_1 room_1 Calls_1 rest_1 Pre_1
      (fun tb e a s o t => postC L tb e a s o t ∧ Framed s o t (fieldLocs frame_1_writes a s ++ arrayLocs frame_1_arrays a s ++ staticLocs frame_1_statics s) 600000 7302250) := by
  intro l _ _ _ p e ha hc hk s m args below hf hfit hheap happ hpre
  obtain ⟨k, o, h1, h2, h3, rfl, hF⟩ := lw_comes l p e ha hc hk s m args below hf hfit hheap happ hpre
  exact ⟨k, _, h1, h2, h3, hL args s _, lw_frame hF⟩
theorem i_vc : Claimed_1_1 ∧ Claimed_1_2 := ⟨lw_limb limb_1_1 (fun args s t => by simp [limb_1_1, Cond.after, Cond.holds, Cond.value]), lw_limb limb_1_2 (fun args s t => Cond.after_iff.mpr (by
  first | (rw [show limb_1_2 = Cond.eq .result (.int 1) from rfl, Cond.eq_ints (x := 1) (y := 1) rfl rfl]; simp; done) | (simp [limb_1_2, Cond.value, Term.eval]; done)))⟩
