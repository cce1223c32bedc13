theorem Mc.ofF {M : MI} {av : List Value} {n : Nat} {h : HF} {Post : PQ} (hy : plainFor (mY M) = true) (hown : (mY M).cls = mO M) (hlen : (lg_sl av).length ≤ mL M)
    (k : Vg M none (QM M n Post) 0 (lent0 av (mL M)) [] n h 0 0) : Mc M av n h Post := by
  intro l D dA sc b
  refine va_MetF (cc := mC M) (maxL := mL M) (ret := mT M) hy rfl ?_
  intro p e s m args below meth c s₁ B hml hv
  obtain ⟨hargs, hP, hsz, hK⟩ := hv
  have hts := atoms_spec (ws := miW M) B.pre
  have hfc : s.vm.findClass (mO M) = some m.cls := by rw [← hown]; exact findClass_of_methodNamed B.named
  have hin : meth.name = (mY M).name := (name_of_methodNamed B.named B.method).1
  have hl2 : (lg_sl (av.map (tV sc b))).length ≤ mL M := by
    have e : ∀ vs : List Value, (lg_sl (vs.map (tV sc b))).length = (lg_sl vs).length := by
      intro vs
      induction vs with
      | nil => rfl
      | cons v vs ih =>
        simp only [lg_sl, List.map_cons, List.flatMap_cons, List.length_append, tV_cat] at ih ⊢
        rw [ih]
        by_cases hc : v.category = 2
        · rw [if_pos hc, if_pos hc]; rfl
        · rw [if_neg hc, if_neg hc]; rfl
    rw [e]; exact hlen
  have hl := lv_entry (av.map (tV sc b)) (n := mL M) hl2
  subst hargs
  rw [lg_entry_eq]
  refine k D dA sc b n p l e s m _ below meth c ⟨B.exec, B.bytes, B.returns, hml, hfc, fun w hw => hts w (List.mem_cons_of_mem _ hw), B.notSynchronized, hK, hsz, hin, fun q hq => by cases hq⟩ s.heap [] _ hP (by omega) va_S.rf ?_
  refine ⟨hl.1, hl.2.1, fun q hq => ?_⟩
  obtain ⟨j, v, h1, h2⟩ := (lsq_mem sc b _ 0 q).mp hq
  subst h2
  exact hl.2.2 _ (lent_has sc b av 0 j v (lg_app h1))
theorem nI_inc (i : Nat) : nI i + Int32.ofInt 1 = nI (i + 1) := nI_1 i
def lle : List (Option Value) → List (Option Value) → Prop
  | [], _ => True
  | none :: l, _ :: l' => lle l l'
  | some v :: l, a :: l' => a = some v ∧ lle l l'
  | _ :: _, [] => False
theorem lle_lg : ∀ (l l' : List (Option Value)), lle l l' → ∀ (i : Nat) (v : Value), lg l i = some v → lg l' i = some v
  | [], _, _, i, v, e => by simp [lg] at e
  | none :: l, [], h, _, _, _ => h.elim
  | some w :: l, [], h, _, _, _ => h.elim
  | none :: l, a :: l', h, i, v, e => by
    cases i with
    | zero => cases e
    | succ i => exact lle_lg l l' h i v e
  | some w :: l, a :: l', h, i, v, e => by
    cases i with
    | zero => cases e; exact h.1
    | succ i => exact lle_lg l l' h.2 i v e
theorem Vg.weak {M : MI} {X : SX} {Q : QF} {pc : Nat} {ls ls' : List (Option Value)} {st : List Value} {n : Nat} {h : HF} {kc ks : Nat} (k : Vg M X Q pc ls st n h kc ks) (hl : lle ls ls') : Vg M X Q pc ls' st n h kc ks := by
  intro D dA sc b n0 p l e s m args below meth c C H locs lsm hP hn hS hL
  refine k D dA sc b n0 p l e s m args below meth c C H locs lsm hP hn hS ⟨hL.1, hL.2.1, fun q hq => ?_⟩
  obtain ⟨j, v, h1, h2⟩ := (lsq_mem sc b ls 0 q).mp hq
  exact hL.2.2 q ((lsq_mem sc b ls' 0 q).mpr ⟨j, v, lle_lg ls ls' hl j v h1, h2⟩)
section ZROWS
variable {M : MI} {X : SX} {Q : QF} {pc q : Nat} {ls : List (Option Value)} {st : List Value} {n : Nat} {h : HF} {kc ks : Nat}
theorem z_iald {a N j : Nat} {f : Nat → Int32} (hd : decode (mC M) pc = .ok (.iaload, 1)) (hq : pc + 1 = q) (ho : h a = .inl (0, N, .inl f)) (hj : j < N) (hN : N < 2147483648) (ha : 0 < a ∧ a ≤ n) (k : Vg M X Q q ls (.int (f j) :: st) n h kc ks) : Vg M X Q pc ls (.int (nI j) :: .ref a :: st) n h kc ks := by
  refine x_iald hd hq ho (vp_in_nI hj hN) ha ?_
  rw [nI_clamp (by omega)]; exact k
theorem z_zald {a N j : Nat} {f : Nat → Int32} (hd : decode (mC M) pc = .ok (.baload, 1)) (hq : pc + 1 = q) (ho : h a = .inl (1, N, .inl f)) (hj : j < N) (hN : N < 2147483648) (ha : 0 < a ∧ a ≤ n) (k : Vg M X Q q ls (.int (f j) :: st) n h kc ks) : Vg M X Q pc ls (.int (nI j) :: .ref a :: st) n h kc ks := by
  refine x_zald hd hq ho (vp_in_nI hj hN) ha ?_
  rw [nI_clamp (by omega)]; exact k
theorem z_lald {a N j : Nat} {f : Nat → Int64} (hd : decode (mC M) pc = .ok (.laload, 1)) (hq : pc + 1 = q) (ho : h a = .inl (2, N, .inr (.inl f))) (hj : j < N) (hN : N < 2147483648) (ha : 0 < a ∧ a ≤ n) (k : Vg M X Q q ls (.long (f j) :: st) n h kc ks) : Vg M X Q pc ls (.int (nI j) :: .ref a :: st) n h kc ks := by
  refine x_lald hd hq ho (vp_in_nI hj hN) ha ?_
  rw [nI_clamp (by omega)]; exact k
theorem z_iast {a N j : Nat} {f : Nat → Int32} {x : Int32} (hd : decode (mC M) pc = .ok (.iastore, 1)) (hq : pc + 1 = q) (ho : h a = .inl (0, N, .inl f)) (hj : j < N) (hN : N < 2147483648) (ha : 0 < a ∧ a ≤ n) (k : Vg M X Q q ls st n (si h a (upd f j x)) kc ks) : Vg M X Q pc ls (.int x :: .int (nI j) :: .ref a :: st) n h kc ks := by
  refine y_iast hd hq ho (vp_in_nI hj hN) ha ?_
  rw [nI_clamp (by omega)]; exact k
theorem z_zast {a N j : Nat} {f : Nat → Int32} {x : Int32} (hd : decode (mC M) pc = .ok (.bastore, 1)) (hq : pc + 1 = q) (ho : h a = .inl (1, N, .inl f)) (hj : j < N) (hN : N < 2147483648) (hb0 : vp_nar .boolean x = x) (ha : 0 < a ∧ a ≤ n) (k : Vg M X Q q ls st n (si h a (upd f j x)) kc ks) : Vg M X Q pc ls (.int x :: .int (nI j) :: .ref a :: st) n h kc ks := by
  refine y_zast hd hq ho (vp_in_nI hj hN) hb0 ha ?_
  rw [nI_clamp (by omega)]; exact k
theorem z_last {a N j : Nat} {f : Nat → Int64} {x : Int64} (hd : decode (mC M) pc = .ok (.lastore, 1)) (hq : pc + 1 = q) (ho : h a = .inl (2, N, .inr (.inl f))) (hj : j < N) (hN : N < 2147483648) (ha : 0 < a ∧ a ≤ n) (k : Vg M X Q q ls st n (sl h a (vp_updL f j x)) kc ks) : Vg M X Q pc ls (.long x :: .int (nI j) :: .ref a :: st) n h kc ks := by
  refine y_last hd hq ho (vp_in_nI hj hN) ha ?_
  rw [nI_clamp (by omega)]; exact k
theorem z_aald3 {a j : Nat} (hd : decode (mC M) pc = .ok (.aaload, 1)) (hq : pc + 1 = q) (ho : h a = .inl (3, 24, .inr (.inr (.inr (.inr rB))))) (hj : j < 24) (ha : 0 < a ∧ a ≤ n) (k : Vg M X Q q ls (.ref (40 + 3 * j) :: st) n h kc ks) : Vg M X Q pc ls (.int (nI j) :: .ref a :: st) n h kc ks := by
  refine x_aald3 hd hq ho (vp_in_nI hj (by decide)) ?_ ha k
  rw [nI_clamp (by omega), rB, Nat.ble_eq.mpr (by omega)]; rfl
theorem z_aald4 {a j : Nat} (hd : decode (mC M) pc = .ok (.aaload, 1)) (hq : pc + 1 = q) (ho : h a = .inl (4, 5, .inr (.inr (.inr (.inr rT))))) (hj : j < 5) (ha : 0 < a ∧ a ≤ n) (k : Vg M X Q q ls (.ref (112 + 4 * j) :: st) n h kc ks) : Vg M X Q pc ls (.int (nI j) :: .ref a :: st) n h kc ks := by
  refine x_aald4 hd hq ho (vp_in_nI hj (by decide)) ?_ ha k
  rw [nI_clamp (by omega), rT, Nat.ble_eq.mpr (by omega)]; rfl
end ZROWS
def isM (a : Nat) : Prop := shT a = .inr (4, [.ref (a + 1), .int 0, .long 0]) ∧ shT (a + 1) = .inl (0, 8, .inl (fun _ => 0)) ∧ 40 < a ∧ a + 1 ≤ 131
theorem mxo {a : Nat} (hm : isM a) {h : HF} (hS : Sh h) : h a = .inr (4, [.ref (a + 1), .int (fI h a 1), .long (fJ h a 2)]) ∧ h (a + 1) = .inl (0, 8, .inl (gi h (a + 1))) ∧ (0 < a ∧ a ≤ 170) ∧ (0 < a + 1 ∧ a + 1 ≤ 170) := by
  obtain ⟨h1, h2, h3, h4⟩ := hm
  exact ⟨sh_o (a := a) hS (by omega) h1, sh_i hS (by omega) h2, by omega, by omega⟩
theorem mxr {a : Nat} (hm : isM a) : 40 < a ∧ a + 1 ≤ 131 := hm.2.2
theorem mxb {a : Nat} (hm : isM a) : 0 < a ∧ a ≤ 170 := by have := hm.2.2; omega
theorem mxc {a : Nat} (hm : isM a) : 0 < a + 1 ∧ a + 1 ≤ 170 := by have := hm.2.2; omega
theorem isM_M {k : Nat} (hk : k < 24) : isM (41 + 3 * k) := by
  refine ⟨(shT_B hk).2.1, ?_, by omega, by omega⟩
  rw [show 41 + 3 * k + 1 = 42 + 3 * k by omega]; exact (shT_B hk).2.2
theorem isM_N {k : Nat} (hk : k < 5) : isM (113 + 4 * k) := by
  refine ⟨(shT_K hk).2.1, ?_, by omega, by omega⟩
  rw [show 113 + 4 * k + 1 = 114 + 4 * k by omega]; exact (shT_K hk).2.2.1
def absI (x : Int32) : Int32 := if 0 ≤ x then x else -x
def maxI (x y : Int32) : Int32 := if x < y then y else x
def minI (x y : Int32) : Int32 := if y < x then y else x
def minJ (x y : Int64) : Int64 := if y < x then y else x
set_option maxHeartbeats 4000000 in
set_option maxRecDepth 100000 in
theorem c_J9_abs_0f7a4 {h : HF} (hS : Sh h) (x : Int32) : Mc mJ9_abs_0f7a4 [.int x] 170 h (RI (absI x) h) := by
  refine Mc.ofF (by decide +kernel) rfl (Nat.le_of_ble_eq_true rfl) ?_
  refine x_iload_n (q := 1) dJ9_abs_0f7a4_0 rfl rfl rfl ?_
  refine x_if_ge (q := 4) (t := 9) dJ9_abs_0f7a4_1 rfl (by decide) (fun c_1 => ?_) (fun c_1 => ?_)
  · refine x_iload_n (q := 10) dJ9_abs_0f7a4_9 rfl rfl rfl ?_
    exact x_iret dJ9_abs_0f7a4_10 ⟨_, rfl, by first | rfl | (split <;> rfl)⟩ rfl (Nat.le_refl _) rfl ⟨by simp [absI, *], rfl⟩
  · refine x_iload_n (q := 5) dJ9_abs_0f7a4_4 rfl rfl rfl ?_
    refine x_ineg (q := 6) dJ9_abs_0f7a4_5 rfl ?_
    refine x_goto (q := 10) dJ9_abs_0f7a4_6 (by decide) ?_
    exact x_iret dJ9_abs_0f7a4_10 ⟨_, rfl, by first | rfl | (split <;> rfl)⟩ rfl (Nat.le_refl _) rfl ⟨by simp [absI, *], rfl⟩

set_option maxHeartbeats 4000000 in
set_option maxRecDepth 100000 in
theorem c_J9_max_7cf53 {h : HF} (hS : Sh h) (x y : Int32) : Mc mJ9_max_7cf53 [.int x, .int y] 170 h (RI (maxI x y) h) := by
  refine Mc.ofF (by decide +kernel) rfl (Nat.le_of_ble_eq_true rfl) ?_
  refine x_iload_n (q := 1) dJ9_max_7cf53_0 rfl rfl rfl ?_
  refine x_iload_n (q := 2) dJ9_max_7cf53_1 rfl rfl rfl ?_
  refine x_ic_lt (q := 5) (t := 9) dJ9_max_7cf53_2 rfl (by decide) (fun c_2 => ?_) (fun c_2 => ?_)
  · refine x_iload_n (q := 10) dJ9_max_7cf53_9 rfl rfl rfl ?_
    exact x_iret dJ9_max_7cf53_10 ⟨_, rfl, by first | rfl | (split <;> rfl)⟩ rfl (Nat.le_refl _) rfl ⟨by simp [maxI, *], rfl⟩
  · refine x_iload_n (q := 6) dJ9_max_7cf53_5 rfl rfl rfl ?_
    refine x_goto (q := 10) dJ9_max_7cf53_6 (by decide) ?_
    exact x_iret dJ9_max_7cf53_10 ⟨_, rfl, by first | rfl | (split <;> rfl)⟩ rfl (Nat.le_refl _) rfl ⟨by simp [maxI, *], rfl⟩

set_option maxHeartbeats 4000000 in
set_option maxRecDepth 100000 in
theorem c_J9_min_7cf53 {h : HF} (hS : Sh h) (x y : Int32) : Mc mJ9_min_7cf53 [.int x, .int y] 170 h (RI (minI x y) h) := by
  refine Mc.ofF (by decide +kernel) rfl (Nat.le_of_ble_eq_true rfl) ?_
  refine x_iload_n (q := 1) dJ9_min_7cf53_0 rfl rfl rfl ?_
  refine x_iload_n (q := 2) dJ9_min_7cf53_1 rfl rfl rfl ?_
  refine x_ic_gt (q := 5) (t := 9) dJ9_min_7cf53_2 rfl (by decide) (fun c_2 => ?_) (fun c_2 => ?_)
  · refine x_iload_n (q := 10) dJ9_min_7cf53_9 rfl rfl rfl ?_
    exact x_iret dJ9_min_7cf53_10 ⟨_, rfl, by first | rfl | (split <;> rfl)⟩ rfl (Nat.le_refl _) rfl ⟨by simp [minI, *], rfl⟩
  · refine x_iload_n (q := 6) dJ9_min_7cf53_5 rfl rfl rfl ?_
    refine x_goto (q := 10) dJ9_min_7cf53_6 (by decide) ?_
    exact x_iret dJ9_min_7cf53_10 ⟨_, rfl, by first | rfl | (split <;> rfl)⟩ rfl (Nat.le_refl _) rfl ⟨by simp [minI, *], rfl⟩

set_option maxHeartbeats 4000000 in
set_option maxRecDepth 100000 in
theorem c_J9_min_f86c9 {h : HF} (hS : Sh h) (x y : Int64) : Mc mJ9_min_f86c9 [.long x, .long y] 170 h (RJ (minJ x y) h) := by
  refine Mc.ofF (by decide +kernel) rfl (Nat.le_of_ble_eq_true rfl) ?_
  refine x_lload_n (q := 1) dJ9_min_f86c9_0 rfl rfl rfl ?_
  refine x_lload_n (q := 2) dJ9_min_f86c9_1 rfl rfl rfl ?_
  refine x_lcmp (q := 3) dJ9_min_f86c9_2 rfl ?_
  refine x_if_gt (q := 6) (t := 10) dJ9_min_f86c9_3 rfl (by decide) (fun c_3 => ?_) (fun c_3 => ?_)
  · refine x_lload_n (q := 11) dJ9_min_f86c9_10 rfl rfl rfl ?_
    exact x_lret dJ9_min_f86c9_11 rfl rfl (Nat.le_refl _) rfl ⟨by by_cases e : y < x <;> simp_all [minJ, lg_cmp] <;> (split at * <;> simp_all), rfl⟩
  · refine x_lload_n (q := 7) dJ9_min_f86c9_6 rfl rfl rfl ?_
    refine x_goto (q := 11) dJ9_min_f86c9_7 (by decide) ?_
    exact x_lret dJ9_min_f86c9_11 rfl rfl (Nat.le_refl _) rfl ⟨by by_cases e : y < x <;> simp_all [minJ, lg_cmp] <;> (split at * <;> simp_all), rfl⟩

set_option maxHeartbeats 4000000 in
set_option maxRecDepth 100000 in
theorem c_X9_within {h : HF} (hS : Sh h) (v a b : Int32) : Mc mX9_within [.int v, .int a, .int b] 170 h (RI (if a ≤ v ∧ v ≤ b then 1 else 0) h) := by
  refine Mc.of (by decide) rfl (Nat.le_of_ble_eq_true rfl) ?_
  refine x_iload_n (q := 1) dX9_within_0 rfl rfl rfl ?_
  refine x_iload_n (q := 2) dX9_within_1 rfl rfl rfl ?_
  refine x_ic_lt (q := 5) (t := 14) dX9_within_2 rfl (by decide) (fun c_2 => ?_) (fun c_2 => ?_)
  · refine x_iconst (q := 15) (v := 0) dX9_within_14 rfl (by decide) ?_
    exact x_iret dX9_within_15 ⟨_, rfl, by first | rfl | (split <;> rfl)⟩ rfl (Nat.le_refl _) rfl ⟨by first | rfl | (split <;> first | rfl | (exfalso; simp only [Int32.le_iff_toInt_le, Int32.lt_iff_toInt_lt, Int32.reduceToInt] at *; omega)), rfl⟩
  · refine x_iload_n (q := 6) dX9_within_5 rfl rfl rfl ?_
    refine x_iload_n (q := 7) dX9_within_6 rfl rfl rfl ?_
    refine x_ic_gt (q := 10) (t := 14) dX9_within_7 rfl (by decide) (fun c_7 => ?_) (fun c_7 => ?_)
    · refine x_iconst (q := 15) (v := 0) dX9_within_14 rfl (by decide) ?_
      exact x_iret dX9_within_15 ⟨_, rfl, by first | rfl | (split <;> rfl)⟩ rfl (Nat.le_refl _) rfl ⟨by first | rfl | (split <;> first | rfl | (exfalso; simp only [Int32.le_iff_toInt_le, Int32.lt_iff_toInt_lt, Int32.reduceToInt] at *; omega)), rfl⟩
    · refine x_iconst (q := 11) (v := 1) dX9_within_10 rfl (by decide) ?_
      refine x_goto (q := 15) dX9_within_11 (by decide) ?_
      exact x_iret dX9_within_15 ⟨_, rfl, by first | rfl | (split <;> rfl)⟩ rfl (Nat.le_refl _) rfl ⟨by first | rfl | (split <;> first | rfl | (exfalso; simp only [Int32.le_iff_toInt_le, Int32.lt_iff_toInt_lt, Int32.reduceToInt] at *; omega)), rfl⟩

set_option maxHeartbeats 4000000 in
set_option maxRecDepth 100000 in
theorem c_X9_isStrength {h : HF} (hS : Sh h) (v : Int32) : Mc mX9_isStrength [.int v] 170 h (RI (if 0 ≤ v ∧ v ≤ 1000 then 1 else 0) h) := by
  refine Mc.of (by decide) rfl (Nat.le_of_ble_eq_true rfl) ?_
  refine x_iload_n (q := 1) dX9_isStrength_0 rfl rfl rfl ?_
  refine x_iconst (q := 2) (v := 0) dX9_isStrength_1 rfl (by decide) ?_
  refine x_sipush (q := 5) (v := 1000) dX9_isStrength_2 rfl (by decide) ?_
  refine y_csI (q := 8) dX9_isStrength_5 rfl l_X9_97 (c_X9_within hS _ _ _) rfl rfl rfl rfl rfl rfl ?_
  exact x_iret dX9_isStrength_8 ⟨_, rfl, by first | rfl | (split <;> rfl)⟩ rfl (Nat.le_refl _) rfl ⟨by first | rfl | (split <;> first | rfl | (exfalso; simp only [Int32.le_iff_toInt_le, Int32.lt_iff_toInt_lt, Int32.reduceToInt] at *; omega)), rfl⟩

set_option maxHeartbeats 4000000 in
set_option maxRecDepth 100000 in
theorem c_X9_isBand {h : HF} (hS : Sh h) (v : Int32) : Mc mX9_isBand [.int v] 170 h (RI (if 0 ≤ v ∧ v ≤ 2 then 1 else 0) h) := by
  refine Mc.of (by decide) rfl (Nat.le_of_ble_eq_true rfl) ?_
  refine x_iload_n (q := 1) dX9_isBand_0 rfl rfl rfl ?_
  refine x_iconst (q := 2) (v := 0) dX9_isBand_1 rfl (by decide) ?_
  refine x_iconst (q := 3) (v := 2) dX9_isBand_2 rfl (by decide) ?_
  refine y_csI (q := 6) dX9_isBand_3 rfl l_X9_97 (c_X9_within hS _ _ _) rfl rfl rfl rfl rfl rfl ?_
  exact x_iret dX9_isBand_6 ⟨_, rfl, by first | rfl | (split <;> rfl)⟩ rfl (Nat.le_refl _) rfl ⟨by first | rfl | (split <;> first | rfl | (exfalso; simp only [Int32.le_iff_toInt_le, Int32.lt_iff_toInt_lt, Int32.reduceToInt] at *; omega)), rfl⟩

set_option maxHeartbeats 4000000 in
set_option maxRecDepth 100000 in
theorem c_X9_isTank {h : HF} (hS : Sh h) (v : Int32) : Mc mX9_isTank [.int v] 170 h (RI (if 0 ≤ v ∧ v ≤ 4 then 1 else 0) h) := by
  refine Mc.of (by decide) rfl (Nat.le_of_ble_eq_true rfl) ?_
  refine x_iload_n (q := 1) dX9_isTank_0 rfl rfl rfl ?_
  refine x_iconst (q := 2) (v := 0) dX9_isTank_1 rfl (by decide) ?_
  refine x_iconst (q := 3) (v := 4) dX9_isTank_2 rfl (by decide) ?_
  refine y_csI (q := 6) dX9_isTank_3 rfl l_X9_97 (c_X9_within hS _ _ _) rfl rfl rfl rfl rfl rfl ?_
  exact x_iret dX9_isTank_6 ⟨_, rfl, by first | rfl | (split <;> rfl)⟩ rfl (Nat.le_refl _) rfl ⟨by first | rfl | (split <;> first | rfl | (exfalso; simp only [Int32.le_iff_toInt_le, Int32.lt_iff_toInt_lt, Int32.reduceToInt] at *; omega)), rfl⟩

set_option maxHeartbeats 4000000 in
set_option maxRecDepth 100000 in
theorem c_X9_isHue {h : HF} (hS : Sh h) (v : Int32) : Mc mX9_isHue [.int v] 170 h (RI (if 0 ≤ v ∧ v ≤ 5 then 1 else 0) h) := by
  refine Mc.of (by decide) rfl (Nat.le_of_ble_eq_true rfl) ?_
  refine x_iload_n (q := 1) dX9_isHue_0 rfl rfl rfl ?_
  refine x_iconst (q := 2) (v := 0) dX9_isHue_1 rfl (by decide) ?_
  refine x_iconst (q := 3) (v := 5) dX9_isHue_2 rfl (by decide) ?_
  refine y_csI (q := 6) dX9_isHue_3 rfl l_X9_97 (c_X9_within hS _ _ _) rfl rfl rfl rfl rfl rfl ?_
  exact x_iret dX9_isHue_6 ⟨_, rfl, by first | rfl | (split <;> rfl)⟩ rfl (Nat.le_refl _) rfl ⟨by first | rfl | (split <;> first | rfl | (exfalso; simp only [Int32.le_iff_toInt_le, Int32.lt_iff_toInt_lt, Int32.reduceToInt] at *; omega)), rfl⟩

theorem if1 {c : Prop} {hdc : Decidable c} (h : c) : (if c then (1 : Int32) else 0) = 1 := if_pos h
theorem if0 {c : Prop} {hdc : Decidable c} (h : ¬ c) : (if c then (1 : Int32) else 0) = 0 := if_neg h
theorem ifn {c : Prop} {hdc : Decidable c} (h : (if c then (1 : Int32) else 0) = 0) : ¬ c := fun hc => by rw [if_pos hc] at h; exact absurd h (by decide)
theorem ify {c : Prop} {hdc : Decidable c} (h : ¬ (if c then (1 : Int32) else 0) = 0) : c := Classical.byContradiction fun hc => h (if_neg hc)
set_option maxHeartbeats 4000000 in
set_option maxRecDepth 100000 in
theorem c_X9_isAim {h : HF} (hS : Sh h) (x y z : Int32) : Mc mX9_isAim [.int x, .int y, .int z] 170 h (RI (if (0 ≤ x ∧ x ≤ 1000000) ∧ (0 ≤ y ∧ y ≤ 1000000) ∧ (0 ≤ z ∧ z ≤ 1000000) then 1 else 0) h) := by
  refine Mc.of (by decide) rfl (Nat.le_of_ble_eq_true rfl) ?_
  refine x_iload_n (q := 1) dX9_isAim_0 rfl rfl rfl ?_
  refine x_iconst (q := 2) (v := 0) dX9_isAim_1 rfl (by decide) ?_
  refine x_ldc (q := 4) dX9_isAim_2 rfl v_X9_208 ?_
  refine y_csI (q := 7) dX9_isAim_4 rfl l_X9_97 (c_X9_within hS _ _ _) rfl rfl rfl rfl rfl rfl ?_
  refine x_if_eq (q := 10) (t := 34) dX9_isAim_7 rfl (by decide) (fun c_7 => ?_) (fun c_7 => ?_)
  · refine x_iconst (q := 35) (v := 0) dX9_isAim_34 rfl (by decide) ?_
    exact x_iret dX9_isAim_35 ⟨_, rfl, by first | rfl | (split <;> rfl)⟩ rfl (Nat.le_refl _) rfl ⟨by first | (rw [if_pos ⟨ify c_7, ify c_17, ify c_27⟩]; done) | (rw [if_neg (fun z => ifn c_7 z.1)]; done) | (rw [if_neg (fun z => ifn c_17 z.2.1)]; done) | (rw [if_neg (fun z => ifn c_27 z.2.2)]; done), rfl⟩
  · refine x_iload_n (q := 11) dX9_isAim_10 rfl rfl rfl ?_
    refine x_iconst (q := 12) (v := 0) dX9_isAim_11 rfl (by decide) ?_
    refine x_ldc (q := 14) dX9_isAim_12 rfl v_X9_208 ?_
    refine y_csI (q := 17) dX9_isAim_14 rfl l_X9_97 (c_X9_within hS _ _ _) rfl rfl rfl rfl rfl rfl ?_
    refine x_if_eq (q := 20) (t := 34) dX9_isAim_17 rfl (by decide) (fun c_17 => ?_) (fun c_17 => ?_)
    · refine x_iconst (q := 35) (v := 0) dX9_isAim_34 rfl (by decide) ?_
      exact x_iret dX9_isAim_35 ⟨_, rfl, by first | rfl | (split <;> rfl)⟩ rfl (Nat.le_refl _) rfl ⟨by first | (rw [if_pos ⟨ify c_7, ify c_17, ify c_27⟩]; done) | (rw [if_neg (fun z => ifn c_7 z.1)]; done) | (rw [if_neg (fun z => ifn c_17 z.2.1)]; done) | (rw [if_neg (fun z => ifn c_27 z.2.2)]; done), rfl⟩
    · refine x_iload_n (q := 21) dX9_isAim_20 rfl rfl rfl ?_
      refine x_iconst (q := 22) (v := 0) dX9_isAim_21 rfl (by decide) ?_
      refine x_ldc (q := 24) dX9_isAim_22 rfl v_X9_208 ?_
      refine y_csI (q := 27) dX9_isAim_24 rfl l_X9_97 (c_X9_within hS _ _ _) rfl rfl rfl rfl rfl rfl ?_
      refine x_if_eq (q := 30) (t := 34) dX9_isAim_27 rfl (by decide) (fun c_27 => ?_) (fun c_27 => ?_)
      · refine x_iconst (q := 35) (v := 0) dX9_isAim_34 rfl (by decide) ?_
        exact x_iret dX9_isAim_35 ⟨_, rfl, by first | rfl | (split <;> rfl)⟩ rfl (Nat.le_refl _) rfl ⟨by first | (rw [if_pos ⟨ify c_7, ify c_17, ify c_27⟩]; done) | (rw [if_neg (fun z => ifn c_7 z.1)]; done) | (rw [if_neg (fun z => ifn c_17 z.2.1)]; done) | (rw [if_neg (fun z => ifn c_27 z.2.2)]; done), rfl⟩
      · refine x_iconst (q := 31) (v := 1) dX9_isAim_30 rfl (by decide) ?_
        refine x_goto (q := 35) dX9_isAim_31 (by decide) ?_
        exact x_iret dX9_isAim_35 ⟨_, rfl, by first | rfl | (split <;> rfl)⟩ rfl (Nat.le_refl _) rfl ⟨by first | (rw [if_pos ⟨ify c_7, ify c_17, ify c_27⟩]; done) | (rw [if_neg (fun z => ifn c_7 z.1)]; done) | (rw [if_neg (fun z => ifn c_17 z.2.1)]; done) | (rw [if_neg (fun z => ifn c_27 z.2.2)]; done), rfl⟩

def hbit (b : Int64) (i : Int32) : Prop := ¬ (b >>> (i.toInt64 &&& 63)) &&& 1 = 0
set_option maxHeartbeats 4000000 in
set_option maxRecDepth 100000 in
theorem c_X9_hasBit {h : HF} (hS : Sh h) (b : Int64) (i : Int32) : Mc mX9_hasBit [.long b, .int i] 170 h (RI (if (b >>> (i.toInt64 &&& 63)) &&& 1 = 0 then 0 else 1) h) := by
  refine Mc.of (by decide) rfl (Nat.le_of_ble_eq_true rfl) ?_
  refine x_lload_n (q := 1) dX9_hasBit_0 rfl rfl rfl ?_
  refine x_iload_n (q := 2) dX9_hasBit_1 rfl rfl rfl ?_
  refine x_lshr (q := 3) dX9_hasBit_2 rfl ?_
  refine x_lconst (q := 4) (v := 1) dX9_hasBit_3 rfl (by decide) ?_
  refine x_land (q := 5) dX9_hasBit_4 rfl ?_
  refine x_lconst (q := 6) (v := 0) dX9_hasBit_5 rfl (by decide) ?_
  refine x_lcmp (q := 7) dX9_hasBit_6 rfl ?_
  refine x_if_eq (q := 10) (t := 14) dX9_hasBit_7 rfl (by decide) (fun c_7 => ?_) (fun c_7 => ?_)
  · refine x_iconst (q := 15) (v := 0) dX9_hasBit_14 rfl (by decide) ?_
    exact x_iret dX9_hasBit_15 ⟨_, rfl, by first | rfl | (split <;> rfl)⟩ rfl (Nat.le_refl _) rfl ⟨by by_cases e : (b >>> (i.toInt64 &&& 63)) &&& 1 = 0 <;> simp_all [lg_cmp] <;> (split at * <;> simp_all), rfl⟩
  · refine x_iconst (q := 11) (v := 1) dX9_hasBit_10 rfl (by decide) ?_
    refine x_goto (q := 15) dX9_hasBit_11 (by decide) ?_
    exact x_iret dX9_hasBit_15 ⟨_, rfl, by first | rfl | (split <;> rfl)⟩ rfl (Nat.le_refl _) rfl ⟨by by_cases e : (b >>> (i.toInt64 &&& 63)) &&& 1 = 0 <;> simp_all [lg_cmp] <;> (split at * <;> simp_all), rfl⟩

theorem lgc0 {x y : Int64} : lg_cmp x y = 0 ↔ x = y := by
  by_cases h2 : x = y
  · subst h2; simp [lg_cmp]
  · by_cases h1 : y < x <;> simp [lg_cmp, h1, h2]
def shd (a s : Int64) : Int32 := if s = 0 then 1000000 else (minJ 1000000 (1000 * a / s)).toInt32
set_option maxHeartbeats 4000000 in
set_option maxRecDepth 100000 in
theorem c_X9_shadeOfSums {h : HF} (hS : Sh h) (a s : Int64) : Mc mX9_shadeOfSums [.long a, .long s] 170 h (RI (shd a s) h) := by
  refine Mc.of (by decide) rfl (Nat.le_of_ble_eq_true rfl) ?_
  refine x_lload_n (q := 1) dX9_shadeOfSums_0 rfl rfl rfl ?_
  refine x_lconst (q := 2) (v := 0) dX9_shadeOfSums_1 rfl (by decide) ?_
  refine x_lcmp (q := 3) dX9_shadeOfSums_2 rfl ?_
  refine x_if_ne (q := 6) (t := 9) dX9_shadeOfSums_3 rfl (by decide) (fun c_3 => ?_) (fun c_3 => ?_)
  · have hne : ¬ s = 0 := fun e => c_3 (lgc0.mpr e)
    refine x_ldc2 (q := 12) dX9_shadeOfSums_9 rfl v_X9_307 ?_
    refine x_ldc2 (q := 15) dX9_shadeOfSums_12 rfl v_X9_309 ?_
    refine x_lload_n (q := 16) dX9_shadeOfSums_15 rfl rfl rfl ?_
    refine x_lmul (q := 17) dX9_shadeOfSums_16 rfl ?_
    refine x_lload_n (q := 18) dX9_shadeOfSums_17 rfl rfl rfl ?_
    refine x_ldiv (q := 19) dX9_shadeOfSums_18 rfl hne ?_
    refine y_csJ (q := 22) dX9_shadeOfSums_19 rfl l_X9_311 (c_J9_min_f86c9 hS _ _) rfl rfl rfl rfl rfl rfl ?_
    refine x_l2i (q := 23) dX9_shadeOfSums_22 rfl ?_
    exact x_iret dX9_shadeOfSums_23 ⟨_, rfl, by first | rfl | (split <;> rfl)⟩ rfl (Nat.le_refl _) rfl ⟨by rw [shd, if_neg hne], rfl⟩
  · refine x_ldc (q := 8) dX9_shadeOfSums_6 rfl v_X9_208 ?_
    exact x_iret dX9_shadeOfSums_8 ⟨_, rfl, by first | rfl | (split <;> rfl)⟩ rfl (Nat.le_refl _) rfl ⟨by rw [shd, if_pos (lgc0.mp c_3)], rfl⟩

