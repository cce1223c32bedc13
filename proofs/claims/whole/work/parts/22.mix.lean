def filF (f : Nat → Int32) (v : Int32) (n : Nat) : Nat → Int32 := fun j => if j < n then v else f j
theorem filF_0 (f : Nat → Int32) (v : Int32) : filF f v 0 = f := by funext j; simp [filF]
theorem filF_s (f : Nat → Int32) (v : Int32) (i : Nat) : upd (filF f v i) i v = filF f v (i + 1) := by
  funext j
  simp only [upd, filF]
  by_cases h1 : j = i
  · subst h1; simp
  · by_cases h2 : j < i
    · rw [if_neg h1, if_pos h2, if_pos (by omega)]
    · rw [if_neg h1, if_neg h2, if_neg (by omega)]
theorem kI_of {a t N : Nat} (ht : shT a = .inl (t, N, .inl (fun _ => 0))) : kI a = true := by simp only [kI, ht]
set_option maxHeartbeats 4000000 in
set_option maxRecDepth 100000 in
theorem lp_fill {h : HF} (hS : Sh h) {a N : Nat} (h0 : 0 < a ∧ a ≤ 170) (ht : shT a = .inl (0, N, .inl (fun _ => 0))) (hN : N < 2147483648) (v : Int32) : ∀ (k i : Nat), i + k = N → Vg mJ7_fill_53178 none (QM mJ7_fill_53178 170 (RV (si h a (filF (gi h a) v N)))) 5 [some (.ref a), some (.int v), some (.int (nI i)), some (.int (nI N))] [] 170 (si h a (filF (gi h a) v i)) 0 0 := by
  intro k
  induction k with
  | zero =>
    intro i hi
    obtain rfl : i = N := by omega
    refine x_iload_n (q := 6) dJ7_fill_53178_5 rfl rfl rfl ?_
    refine x_iload_n (q := 7) dJ7_fill_53178_6 rfl rfl rfl ?_
    refine x_ic_ge (q := 10) (t := 20) dJ7_fill_53178_7 rfl (by decide) (fun _ => ?_) (fun c_ => absurd (nI_le (Nat.le_refl _) (by omega)) c_)
    exact x_vret dJ7_fill_53178_20 rfl rfl (Nat.le_refl _) rfl ⟨rfl, rfl⟩
  | succ k ih =>
    intro i hi
    refine x_iload_n (q := 6) dJ7_fill_53178_5 rfl rfl rfl ?_
    refine x_iload_n (q := 7) dJ7_fill_53178_6 rfl rfl rfl ?_
    refine x_ic_ge (q := 10) (t := 20) dJ7_fill_53178_7 rfl (by decide) (fun c_ => absurd c_ (nI_ge (by omega) (by omega))) (fun _ => ?_)
    refine x_aload_n (q := 11) dJ7_fill_53178_10 rfl rfl rfl ?_
    refine x_iload_n (q := 12) dJ7_fill_53178_11 rfl rfl rfl ?_
    refine x_iload_n (q := 13) dJ7_fill_53178_12 rfl rfl rfl ?_
    refine z_iast (q := 14) (j := i) dJ7_fill_53178_13 rfl (sh_i (hS.si a _) h0 ht) (by omega) hN h0 ?_
    refine Vg.nm (fun h1 eh1 => ?_)
    have hS1 : Sh h1 := by rw [eh1]; exact (hS.si a _).si _ _
    refine x_iinc (q := 17) (v := nI (i + 1)) dJ7_fill_53178_14 rfl rfl (nI_inc _) (by decide) ?_
    refine x_goto (q := 5) dJ7_fill_53178_17 (by decide) ?_
    have e9 : h1 = si h a (filF (gi h a) v (i + 1)) := by rw [eh1, si_si, gi_si_eq hS h0.1 h0.2 (kI_of ht), filF_s]
    rw [e9]; exact ih (i + 1) (by omega)

set_option maxHeartbeats 4000000 in
set_option maxRecDepth 100000 in
theorem c_J7_fill_53178 {h : HF} (hS : Sh h) {a N : Nat} (h0 : 0 < a ∧ a ≤ 170) (ht : shT a = .inl (0, N, .inl (fun _ => 0))) (hN : N < 2147483648) (v : Int32) : Mc mJ7_fill_53178 [.ref a, .int v] 170 h (RV (si h a (filF (gi h a) v N))) := by
  refine Mc.ofF (by decide +kernel) rfl (Nat.le_of_ble_eq_true rfl) ?_
  refine x_iconst (q := 1) (v := 0) dJ7_fill_53178_0 rfl (by decide) ?_
  refine x_istore_n (q := 2) dJ7_fill_53178_1 rfl rfl (by decide) ?_
  refine x_aload_n (q := 3) dJ7_fill_53178_2 rfl rfl rfl ?_
  refine x_alen (q := 4) (v := nI N) dJ7_fill_53178_3 rfl (sh_i hS h0 ht) rfl h0 ?_
  refine x_istore_n (q := 5) dJ7_fill_53178_4 rfl rfl (by decide) ?_
  have t9 := lp_fill hS h0 ht hN v N 0 (by omega)
  rw [filF_0, si_gi] at t9
  exact t9

def mixAdd (h : HF) (a b : Nat) (n : Int32) (l : Nat) : HF := sJ (sI (si h (a + 1) (upd (gi h (a + 1)) b (gi h (a + 1) b + n))) a 1 (fI h a 1 + n)) a 2 (fJ h a 2 ||| (1 : Int64) <<< ((nI l).toInt64 &&& 63))
theorem Sh.mixAdd {h : HF} (hS : Sh h) (a b : Nat) (n : Int32) (l : Nat) : Sh (mixAdd h a b n l) := ((hS.si _ _).sI _ _ _).sJ _ _ _
def addF (f g : Nat → Int32) (n : Nat) : Nat → Int32 := fun j => if j < n then f j + g j else f j
theorem addF_0 (f g : Nat → Int32) : addF f g 0 = f := by funext j; simp [addF]
theorem addF_s (f g : Nat → Int32) (i : Nat) : upd (addF f g i) i (f i + g i) = addF f g (i + 1) := by
  funext j
  simp only [upd, addF]
  by_cases h1 : j = i
  · subst h1; simp
  · by_cases h2 : j < i
    · rw [if_neg h1, if_pos h2, if_pos (by omega)]
    · rw [if_neg h1, if_neg h2, if_neg (by omega)]
theorem addF_i (f g : Nat → Int32) (i : Nat) : addF f g i i = f i := by simp [addF]
def addAllF (h : HF) (a o : Nat) : HF := sJ (sI (si h (a + 1) (addF (gi h (a + 1)) (gi h (o + 1)) 8)) a 1 (fI h a 1 + fI h o 1)) a 2 (fJ h a 2 ||| fJ h o 2)
theorem Sh.addAll {h : HF} (hS : Sh h) (a o : Nat) : Sh (addAllF h a o) := ((hS.si _ _).sI _ _ _).sJ _ _ _
def emptyF (h : HF) (a : Nat) : HF := sJ (sI (si h (a + 1) (filF (gi h (a + 1)) 0 8)) a 1 0) a 2 0
theorem Sh.empty {h : HF} (hS : Sh h) (a : Nat) : Sh (emptyF h a) := ((hS.si _ _).sI _ _ _).sJ _ _ _
set_option maxHeartbeats 4000000 in
set_option maxRecDepth 100000 in
theorem c_X4_add {h : HF} (hS : Sh h) {a : Nat} (hm : isM a) (b : Nat) (n : Int32) (l : Nat) (hb : b < 8) : Mc mX4_add [.ref a, .int (nI b), .int n, .int (nI l)] 170 h (RV (mixAdd h a b n l)) := by
  refine Mc.of (by decide) rfl (Nat.le_of_ble_eq_true rfl) ?_
  refine x_aload_n (q := 1) dX4_add_0 rfl rfl rfl ?_
  refine x_get (q := 4) dX4_add_1 rfl f_X4_9 ((mxo hm hS).1) rfl (mxb hm) ?_
  refine x_iload_n (q := 5) dX4_add_4 rfl rfl rfl ?_
  refine x_dup2 (q := 6) dX4_add_5 rfl rfl rfl ?_
  refine z_iald (q := 7) (j := b) dX4_add_6 rfl ((mxo hm hS).2.1) (by omega) (by decide) (mxc hm) ?_
  refine x_iload_n (q := 8) dX4_add_7 rfl rfl rfl ?_
  refine x_iadd (q := 9) dX4_add_8 rfl ?_
  refine z_iast (q := 10) (j := b) dX4_add_9 rfl ((mxo hm hS).2.1) (by omega) (by decide) (mxc hm) ?_
  refine Vg.nm (fun h1 eh1 => ?_)
  have hS1 : Sh h1 := by rw [eh1]; exact hS.si _ _
  refine x_aload_n (q := 11) dX4_add_10 rfl rfl rfl ?_
  refine x_dup (q := 12) dX4_add_11 rfl rfl ?_
  refine x_get (q := 15) dX4_add_12 rfl f_X4_15 ((mxo hm hS1).1) rfl (mxb hm) ?_
  refine x_iload_n (q := 16) dX4_add_15 rfl rfl rfl ?_
  refine x_iadd (q := 17) dX4_add_16 rfl ?_
  refine y_put (q := 20) dX4_add_17 rfl f_X4_15 ((mxo hm hS1).1) rfl (by first | rfl | decide) (by first | rfl | decide) (mxb hm) ?_
  refine Vg.nm (fun h2 eh2 => ?_)
  have hS2 : Sh h2 := by rw [eh2]; exact hS1.sI _ _ _
  refine x_aload_n (q := 21) dX4_add_20 rfl rfl rfl ?_
  refine x_dup (q := 22) dX4_add_21 rfl rfl ?_
  refine x_get (q := 25) dX4_add_22 rfl f_X4_19 ((mxo hm hS2).1) rfl (mxb hm) ?_
  refine x_lconst (q := 26) (v := 1) dX4_add_25 rfl (by decide) ?_
  refine x_iload_n (q := 27) dX4_add_26 rfl rfl rfl ?_
  refine x_lshl (q := 28) dX4_add_27 rfl ?_
  refine x_lor (q := 29) dX4_add_28 rfl ?_
  refine y_putJ (q := 32) dX4_add_29 rfl f_X4_19 ((mxo hm hS2).1) rfl (by first | rfl | decide) (by first | rfl | decide) (mxb hm) ?_
  refine Vg.nm (fun h3 eh3 => ?_)
  have hS3 : Sh h3 := by rw [eh3]; exact hS2.sJ _ _ _
  exact x_vret dX4_add_32 rfl rfl (Nat.le_refl _) rfl ⟨rfl, by subst_vars; simp only [mixAdd, fI_si, fJ_si, fJ_sI]⟩

set_option maxHeartbeats 4000000 in
set_option maxRecDepth 100000 in
theorem lp_addAll {h : HF} (hS : Sh h) {a o : Nat} (hm : isM a) (ho : isM o) (hne : a ≠ o) (h01 : a ≠ o + 1) (h02 : o ≠ a + 1) : ∀ (k i : Nat), i + k = 8 → Vg mX4_addAll none (QM mX4_addAll 170 (RV (addAllF h a o))) 2 [some (.ref a), some (.ref o), some (.int (nI i))] [] 170 (si h (a + 1) (addF (gi h (a + 1)) (gi h (o + 1)) i)) 0 0 := by
  intro k
  induction k with
  | zero =>
    intro i hi
    obtain rfl : i = 8 := by omega
    refine x_iload_n (q := 3) dX4_addAll_2 rfl rfl rfl ?_
    refine x_bipush (q := 5) (v := 8) dX4_addAll_3 rfl (by decide) ?_
    refine x_ic_ge (q := 8) (t := 29) dX4_addAll_5 rfl (by decide) (fun _ => ?_) (fun c_ => absurd (by decide) c_)
    refine x_aload_n (q := 30) dX4_addAll_29 rfl rfl rfl ?_
    refine x_dup (q := 31) dX4_addAll_30 rfl rfl ?_
    refine x_get (q := 34) dX4_addAll_31 rfl f_X4_15 ((mxo hm (hS.si (a + 1) _)).1) rfl (mxb hm) ?_
    refine x_aload_n (q := 35) dX4_addAll_34 rfl rfl rfl ?_
    refine x_get (q := 38) dX4_addAll_35 rfl f_X4_15 ((mxo ho (hS.si (a + 1) _)).1) rfl (mxb ho) ?_
    refine x_iadd (q := 39) dX4_addAll_38 rfl ?_
    refine y_put (q := 42) dX4_addAll_39 rfl f_X4_15 ((mxo hm (hS.si (a + 1) _)).1) rfl (by first | rfl | decide) (by first | rfl | decide) (mxb hm) ?_
    refine Vg.nm (fun h1 eh1 => ?_)
    have hS1 : Sh h1 := by rw [eh1]; exact (hS.si (a + 1) _).sI _ _ _
    refine x_aload_n (q := 43) dX4_addAll_42 rfl rfl rfl ?_
    refine x_dup (q := 44) dX4_addAll_43 rfl rfl ?_
    refine x_get (q := 47) dX4_addAll_44 rfl f_X4_19 ((mxo hm hS1).1) rfl (mxb hm) ?_
    refine x_aload_n (q := 48) dX4_addAll_47 rfl rfl rfl ?_
    refine x_get (q := 51) dX4_addAll_48 rfl f_X4_19 ((mxo ho hS1).1) rfl (mxb ho) ?_
    refine x_lor (q := 52) dX4_addAll_51 rfl ?_
    refine y_putJ (q := 55) dX4_addAll_52 rfl f_X4_19 ((mxo hm hS1).1) rfl (by first | rfl | decide) (by first | rfl | decide) (mxb hm) ?_
    refine Vg.nm (fun h2 eh2 => ?_)
    have hS2 : Sh h2 := by rw [eh2]; exact hS1.sJ _ _ _
    exact x_vret dX4_addAll_55 rfl rfl (Nat.le_refl _) rfl ⟨rfl, by subst_vars; simp only [addAllF, fI_si, fJ_si, fJ_sI, fI_sI_ne (Ne.symm hne)]⟩
  | succ k ih =>
    intro i hi
    refine x_iload_n (q := 3) dX4_addAll_2 rfl rfl rfl ?_
    refine x_bipush (q := 5) (v := 8) dX4_addAll_3 rfl (by decide) ?_
    refine x_ic_ge (q := 8) (t := 29) dX4_addAll_5 rfl (by decide) (fun c_ => absurd c_ (nI_ge (b := 8) (by omega) (by decide))) (fun _ => ?_)
    refine x_aload_n (q := 9) dX4_addAll_8 rfl rfl rfl ?_
    refine x_get (q := 12) dX4_addAll_9 rfl f_X4_9 ((mxo hm (hS.si (a + 1) _)).1) rfl (mxb hm) ?_
    refine x_iload_n (q := 13) dX4_addAll_12 rfl rfl rfl ?_
    refine x_dup2 (q := 14) dX4_addAll_13 rfl rfl rfl ?_
    refine z_iald (q := 15) (j := i) dX4_addAll_14 rfl ((mxo hm (hS.si (a + 1) _)).2.1) (by omega) (by decide) (mxc hm) ?_
    refine x_aload_n (q := 16) dX4_addAll_15 rfl rfl rfl ?_
    refine x_get (q := 19) dX4_addAll_16 rfl f_X4_9 ((mxo ho (hS.si (a + 1) _)).1) rfl (mxb ho) ?_
    refine x_iload_n (q := 20) dX4_addAll_19 rfl rfl rfl ?_
    refine z_iald (q := 21) (j := i) dX4_addAll_20 rfl ((mxo ho (hS.si (a + 1) _)).2.1) (by omega) (by decide) (mxc ho) ?_
    refine x_iadd (q := 22) dX4_addAll_21 rfl ?_
    refine z_iast (q := 23) (j := i) dX4_addAll_22 rfl ((mxo hm (hS.si (a + 1) _)).2.1) (by omega) (by decide) (mxc hm) ?_
    refine Vg.nm (fun h1 eh1 => ?_)
    have hS1 : Sh h1 := by rw [eh1]; exact (hS.si (a + 1) _).si _ _
    refine x_iinc (q := 26) (v := nI (i + 1)) dX4_addAll_23 rfl rfl (nI_inc _) (by decide) ?_
    refine x_goto (q := 2) dX4_addAll_26 (by decide) ?_
    have e9 : h1 = (si h (a + 1) (addF (gi h (a + 1)) (gi h (o + 1)) (i + 1))) := by rw [eh1, si_si, gi_si_eq hS (by omega) (mxc hm).2 (kI_of hm.2.1), gi_si_ne (by omega), addF_i, addF_s]
    rw [e9]; exact ih (i + 1) (by omega)

set_option maxHeartbeats 4000000 in
set_option maxRecDepth 100000 in
theorem c_X4_addAll {h : HF} (hS : Sh h) {a o : Nat} (hm : isM a) (ho : isM o) (hne : a ≠ o) (h01 : a ≠ o + 1) (h02 : o ≠ a + 1) : Mc mX4_addAll [.ref a, .ref o] 170 h (RV (addAllF h a o)) := by
  refine Mc.of (by decide) rfl (Nat.le_of_ble_eq_true rfl) ?_
  refine x_iconst (q := 1) (v := 0) dX4_addAll_0 rfl (by decide) ?_
  refine x_istore_n (q := 2) dX4_addAll_1 rfl rfl (by decide) ?_
  have t9 := lp_addAll hS hm ho hne h01 h02 8 0 (by omega)
  rw [addF_0, si_gi] at t9
  exact t9

set_option maxHeartbeats 4000000 in
set_option maxRecDepth 100000 in
theorem c_X4_empty {h : HF} (hS : Sh h) {a : Nat} (hm : isM a) : Mc mX4_empty [.ref a] 170 h (RV (emptyF h a)) := by
  refine Mc.of (by decide) rfl (Nat.le_of_ble_eq_true rfl) ?_
  refine x_aload_n (q := 1) dX4_empty_0 rfl rfl rfl ?_
  refine x_get (q := 4) dX4_empty_1 rfl f_X4_9 ((mxo hm hS).1) rfl (mxb hm) ?_
  refine x_iconst (q := 5) (v := 0) dX4_empty_4 rfl (by decide) ?_
  refine y_csV (q := 8) dX4_empty_5 rfl l_X4_23 (c_J7_fill_53178 hS (mxc hm) hm.2.1 (by decide) _) rfl rfl rfl rfl rfl rfl ?_
  refine Vg.nm (fun h1 eh1 => ?_)
  have hS1 : Sh h1 := by rw [eh1]; exact hS.si _ _
  refine x_aload_n (q := 9) dX4_empty_8 rfl rfl rfl ?_
  refine x_iconst (q := 10) (v := 0) dX4_empty_9 rfl (by decide) ?_
  refine y_put (q := 13) dX4_empty_10 rfl f_X4_15 ((mxo hm hS1).1) rfl (by first | rfl | decide) (by first | rfl | decide) (mxb hm) ?_
  refine Vg.nm (fun h2 eh2 => ?_)
  have hS2 : Sh h2 := by rw [eh2]; exact hS1.sI _ _ _
  refine x_aload_n (q := 14) dX4_empty_13 rfl rfl rfl ?_
  refine x_lconst (q := 15) (v := 0) dX4_empty_14 rfl (by decide) ?_
  refine y_putJ (q := 18) dX4_empty_15 rfl f_X4_19 ((mxo hm hS2).1) rfl (by first | rfl | decide) (by first | rfl | decide) (mxb hm) ?_
  refine Vg.nm (fun h3 eh3 => ?_)
  have hS3 : Sh h3 := by rw [eh3]; exact hS2.sJ _ _ _
  exact x_vret dX4_empty_18 rfl rfl (Nat.le_refl _) rfl ⟨rfl, by subst_vars; rfl⟩

set_option maxHeartbeats 4000000 in
set_option maxRecDepth 100000 in
theorem c_X8_isClean {h : HF} (hS : Sh h) {t : Nat} (ht : t < 5) : Mc mX8_isClean [.ref (112 + 4 * t)] 170 h (RI (if fI h (112 + 4 * t) 2 = 0 ∧ fI h (112 + 4 * t) 6 = 0 then 1 else 0) h) := by
  refine Mc.of (by decide) rfl (Nat.le_of_ble_eq_true rfl) ?_
  refine x_aload_n (q := 1) dX8_isClean_0 rfl rfl rfl ?_
  refine x_get (q := 4) dX8_isClean_1 rfl f_X8_22 (cl_K hS ht) rfl (by omega) ?_
  refine x_if_ne (q := 7) (t := 18) dX8_isClean_4 rfl (by decide) (fun c_4 => ?_) (fun c_4 => ?_)
  · refine x_iconst (q := 19) (v := 0) dX8_isClean_18 rfl (by decide) ?_
    exact x_iret dX8_isClean_19 ⟨_, rfl, by first | rfl | (split <;> rfl)⟩ rfl (Nat.le_refl _) rfl ⟨by first | (rw [if_pos ⟨c_4, c_11⟩]; done) | (rw [if_neg (fun z => c_4 z.1)]; done) | (rw [if_neg (fun z => c_11 z.2)]; done), rfl⟩
  · refine x_aload_n (q := 8) dX8_isClean_7 rfl rfl rfl ?_
    refine x_get (q := 11) dX8_isClean_8 rfl f_X8_36 (cl_K hS ht) rfl (by omega) ?_
    refine x_if_ne (q := 14) (t := 18) dX8_isClean_11 rfl (by decide) (fun c_11 => ?_) (fun c_11 => ?_)
    · refine x_iconst (q := 19) (v := 0) dX8_isClean_18 rfl (by decide) ?_
      exact x_iret dX8_isClean_19 ⟨_, rfl, by first | rfl | (split <;> rfl)⟩ rfl (Nat.le_refl _) rfl ⟨by first | (rw [if_pos ⟨c_4, c_11⟩]; done) | (rw [if_neg (fun z => c_4 z.1)]; done) | (rw [if_neg (fun z => c_11 z.2)]; done), rfl⟩
    · refine x_iconst (q := 15) (v := 1) dX8_isClean_14 rfl (by decide) ?_
      refine x_goto (q := 19) dX8_isClean_15 (by decide) ?_
      exact x_iret dX8_isClean_19 ⟨_, rfl, by first | rfl | (split <;> rfl)⟩ rfl (Nat.le_refl _) rfl ⟨by first | (rw [if_pos ⟨c_4, c_11⟩]; done) | (rw [if_neg (fun z => c_4 z.1)]; done) | (rw [if_neg (fun z => c_11 z.2)]; done), rfl⟩

abbrev alk (h : HF) (t o z : Nat) (g : Int32) : Prop := absI ((shof (gi h (113 + 4 * t + 1)) (gi h 3) (gi h 4) 0 z) - (shof (gi h (o + 1)) (gi h 3) (gi h 4) 0 z)) ≤ g ∧ absI ((shof (gi h (113 + 4 * t + 1)) (gi h 3) (gi h 4) 1 z) - (shof (gi h (o + 1)) (gi h 3) (gi h 4) 1 z)) ≤ g ∧ absI ((shof (gi h (113 + 4 * t + 1)) (gi h 3) (gi h 4) 2 z) - (shof (gi h (o + 1)) (gi h 3) (gi h 4) 2 z)) ≤ g
abbrev cov (h : HF) (t o z : Nat) : Prop := gi h (115 + 4 * t) 0 ≤ (shof (gi h (o + 1)) (gi h 3) (gi h 4) 0 z) ∧ gi h (115 + 4 * t) 1 ≤ (shof (gi h (o + 1)) (gi h 3) (gi h 4) 1 z) ∧ gi h (115 + 4 * t) 2 ≤ (shof (gi h (o + 1)) (gi h 3) (gi h 4) 2 z)
set_option maxHeartbeats 4000000 in
set_option maxRecDepth 100000 in
theorem c_X8_isAlike {h : HF} (hS : Sh h) {t : Nat} (ht : t < 5) {o : Nat} (ho : isM o) (g : Int32) (z : Nat) (hz : fI h 2 2 = nI z) (hz8 : z ≤ 8) : Mc mX8_isAlike [.ref (112 + 4 * t), .ref o, .ref 2, .int g] 170 h (RI (if alk h t o z g then 1 else 0) h) := by
  refine Mc.of (by decide) rfl (Nat.le_of_ble_eq_true rfl) ?_
  refine x_iconst (q := 1) (v := 0) dX8_isAlike_0 rfl (by decide) ?_
  refine x_istore (q := 3) dX8_isAlike_1 rfl (by decide) ?_
  refine x_iload (q := 5) dX8_isAlike_3 rfl rfl ?_
  refine x_iconst (q := 6) (v := 3) dX8_isAlike_5 rfl (by decide) ?_
  refine x_ic_ge (q := 9) (t := 42) dX8_isAlike_6 rfl (by decide) (fun c_ => absurd c_ (by decide)) (fun _ => ?_)
  refine x_aload_n (q := 10) dX8_isAlike_9 rfl rfl rfl ?_
  refine x_aload_n (q := 11) dX8_isAlike_10 rfl rfl rfl ?_
  refine x_get (q := 14) dX8_isAlike_11 rfl f_X8_12 (cl_K hS ht) rfl (by omega) ?_
  refine x_iload (q := 16) dX8_isAlike_14 rfl rfl ?_
  refine y_cvI (q := 19) dX8_isAlike_16 rfl l_X8_57 (c_X5_shadeOf hS (isM_N ht) 0 (by decide) z hz hz8) rfl rfl (cl_2 hS) (by decide) rfl rfl rfl rfl ?_
  refine x_aload_n (q := 20) dX8_isAlike_19 rfl rfl rfl ?_
  refine x_aload_n (q := 21) dX8_isAlike_20 rfl rfl rfl ?_
  refine x_iload (q := 23) dX8_isAlike_21 rfl rfl ?_
  refine y_cvI (q := 26) dX8_isAlike_23 rfl l_X8_57 (c_X5_shadeOf hS ho 0 (by decide) z hz hz8) rfl rfl (cl_2 hS) (by decide) rfl rfl rfl rfl ?_
  refine x_isub (q := 27) dX8_isAlike_26 rfl ?_
  refine y_csI (q := 30) dX8_isAlike_27 rfl l_X8_63 (c_J9_abs_0f7a4 hS _) rfl rfl rfl rfl rfl rfl ?_
  refine x_iload_n (q := 31) dX8_isAlike_30 rfl rfl rfl ?_
  refine x_ic_le (q := 34) (t := 36) dX8_isAlike_31 rfl (by decide) (fun c_31 => ?_) (fun c_31 => ?_)
  · refine x_iinc (q := 39) (v := 1) dX8_isAlike_36 rfl rfl (by decide) (by decide) ?_
    refine x_goto (q := 3) dX8_isAlike_39 (by decide) ?_
    refine x_iload (q := 5) dX8_isAlike_3 rfl rfl ?_
    refine x_iconst (q := 6) (v := 3) dX8_isAlike_5 rfl (by decide) ?_
    refine x_ic_ge (q := 9) (t := 42) dX8_isAlike_6 rfl (by decide) (fun c_ => absurd c_ (by decide)) (fun _ => ?_)
    refine x_aload_n (q := 10) dX8_isAlike_9 rfl rfl rfl ?_
    refine x_aload_n (q := 11) dX8_isAlike_10 rfl rfl rfl ?_
    refine x_get (q := 14) dX8_isAlike_11 rfl f_X8_12 (cl_K hS ht) rfl (by omega) ?_
    refine x_iload (q := 16) dX8_isAlike_14 rfl rfl ?_
    refine y_cvI (q := 19) dX8_isAlike_16 rfl l_X8_57 (c_X5_shadeOf hS (isM_N ht) 1 (by decide) z hz hz8) rfl rfl (cl_2 hS) (by decide) rfl rfl rfl rfl ?_
    refine x_aload_n (q := 20) dX8_isAlike_19 rfl rfl rfl ?_
    refine x_aload_n (q := 21) dX8_isAlike_20 rfl rfl rfl ?_
    refine x_iload (q := 23) dX8_isAlike_21 rfl rfl ?_
    refine y_cvI (q := 26) dX8_isAlike_23 rfl l_X8_57 (c_X5_shadeOf hS ho 1 (by decide) z hz hz8) rfl rfl (cl_2 hS) (by decide) rfl rfl rfl rfl ?_
    refine x_isub (q := 27) dX8_isAlike_26 rfl ?_
    refine y_csI (q := 30) dX8_isAlike_27 rfl l_X8_63 (c_J9_abs_0f7a4 hS _) rfl rfl rfl rfl rfl rfl ?_
    refine x_iload_n (q := 31) dX8_isAlike_30 rfl rfl rfl ?_
    refine x_ic_le (q := 34) (t := 36) dX8_isAlike_31 rfl (by decide) (fun c_31_1 => ?_) (fun c_31_1 => ?_)
    · refine x_iinc (q := 39) (v := 2) dX8_isAlike_36 rfl rfl (by decide) (by decide) ?_
      refine x_goto (q := 3) dX8_isAlike_39 (by decide) ?_
      refine x_iload (q := 5) dX8_isAlike_3 rfl rfl ?_
      refine x_iconst (q := 6) (v := 3) dX8_isAlike_5 rfl (by decide) ?_
      refine x_ic_ge (q := 9) (t := 42) dX8_isAlike_6 rfl (by decide) (fun c_ => absurd c_ (by decide)) (fun _ => ?_)
      refine x_aload_n (q := 10) dX8_isAlike_9 rfl rfl rfl ?_
      refine x_aload_n (q := 11) dX8_isAlike_10 rfl rfl rfl ?_
      refine x_get (q := 14) dX8_isAlike_11 rfl f_X8_12 (cl_K hS ht) rfl (by omega) ?_
      refine x_iload (q := 16) dX8_isAlike_14 rfl rfl ?_
      refine y_cvI (q := 19) dX8_isAlike_16 rfl l_X8_57 (c_X5_shadeOf hS (isM_N ht) 2 (by decide) z hz hz8) rfl rfl (cl_2 hS) (by decide) rfl rfl rfl rfl ?_
      refine x_aload_n (q := 20) dX8_isAlike_19 rfl rfl rfl ?_
      refine x_aload_n (q := 21) dX8_isAlike_20 rfl rfl rfl ?_
      refine x_iload (q := 23) dX8_isAlike_21 rfl rfl ?_
      refine y_cvI (q := 26) dX8_isAlike_23 rfl l_X8_57 (c_X5_shadeOf hS ho 2 (by decide) z hz hz8) rfl rfl (cl_2 hS) (by decide) rfl rfl rfl rfl ?_
      refine x_isub (q := 27) dX8_isAlike_26 rfl ?_
      refine y_csI (q := 30) dX8_isAlike_27 rfl l_X8_63 (c_J9_abs_0f7a4 hS _) rfl rfl rfl rfl rfl rfl ?_
      refine x_iload_n (q := 31) dX8_isAlike_30 rfl rfl rfl ?_
      refine x_ic_le (q := 34) (t := 36) dX8_isAlike_31 rfl (by decide) (fun c_31_2 => ?_) (fun c_31_2 => ?_)
      · refine x_iinc (q := 39) (v := 3) dX8_isAlike_36 rfl rfl (by decide) (by decide) ?_
        refine x_goto (q := 3) dX8_isAlike_39 (by decide) ?_
        refine x_iload (q := 5) dX8_isAlike_3 rfl rfl ?_
        refine x_iconst (q := 6) (v := 3) dX8_isAlike_5 rfl (by decide) ?_
        refine x_ic_ge (q := 9) (t := 42) dX8_isAlike_6 rfl (by decide) (fun _ => ?_) (fun c_ => absurd (by decide) c_)
        refine x_iconst (q := 43) (v := 1) dX8_isAlike_42 rfl (by decide) ?_
        exact x_iret dX8_isAlike_43 ⟨_, rfl, by first | rfl | (split <;> rfl)⟩ rfl (Nat.le_refl _) rfl ⟨by first | (rw [if_pos ⟨c_31, c_31_1, c_31_2⟩]; done) | (rw [if_neg (fun z => c_31_2 z.2.2)]; done) | (rw [if_neg (fun z => c_31_1 z.2.1)]; done) | (rw [if_neg (fun z => c_31 z.1)]; done), rfl⟩
      · refine x_iconst (q := 35) (v := 0) dX8_isAlike_34 rfl (by decide) ?_
        exact x_iret dX8_isAlike_35 ⟨_, rfl, by first | rfl | (split <;> rfl)⟩ rfl (Nat.le_refl _) rfl ⟨by first | (rw [if_pos ⟨c_31, c_31_1, c_31_2⟩]; done) | (rw [if_neg (fun z => c_31_2 z.2.2)]; done) | (rw [if_neg (fun z => c_31_1 z.2.1)]; done) | (rw [if_neg (fun z => c_31 z.1)]; done), rfl⟩
    · refine x_iconst (q := 35) (v := 0) dX8_isAlike_34 rfl (by decide) ?_
      exact x_iret dX8_isAlike_35 ⟨_, rfl, by first | rfl | (split <;> rfl)⟩ rfl (Nat.le_refl _) rfl ⟨by first | (rw [if_pos ⟨c_31, c_31_1, c_31_2⟩]; done) | (rw [if_neg (fun z => c_31_2 z.2.2)]; done) | (rw [if_neg (fun z => c_31_1 z.2.1)]; done) | (rw [if_neg (fun z => c_31 z.1)]; done), rfl⟩
  · refine x_iconst (q := 35) (v := 0) dX8_isAlike_34 rfl (by decide) ?_
    exact x_iret dX8_isAlike_35 ⟨_, rfl, by first | rfl | (split <;> rfl)⟩ rfl (Nat.le_refl _) rfl ⟨by first | (rw [if_pos ⟨c_31, c_31_1, c_31_2⟩]; done) | (rw [if_neg (fun z => c_31_2 z.2.2)]; done) | (rw [if_neg (fun z => c_31_1 z.2.1)]; done) | (rw [if_neg (fun z => c_31 z.1)]; done), rfl⟩

set_option maxHeartbeats 4000000 in
set_option maxRecDepth 100000 in
theorem c_X8_coversStain {h : HF} (hS : Sh h) {t : Nat} (ht : t < 5) {o : Nat} (ho : isM o) (z : Nat) (hz : fI h 2 2 = nI z) (hz8 : z ≤ 8) : Mc mX8_coversStain [.ref (112 + 4 * t), .ref o, .ref 2] 170 h (RI (if cov h t o z then 1 else 0) h) := by
  refine Mc.of (by decide) rfl (Nat.le_of_ble_eq_true rfl) ?_
  refine x_iconst (q := 1) (v := 0) dX8_coversStain_0 rfl (by decide) ?_
  refine x_istore_n (q := 2) dX8_coversStain_1 rfl rfl (by decide) ?_
  refine x_iload_n (q := 3) dX8_coversStain_2 rfl rfl rfl ?_
  refine x_iconst (q := 4) (v := 3) dX8_coversStain_3 rfl (by decide) ?_
  refine x_ic_ge (q := 7) (t := 30) dX8_coversStain_4 rfl (by decide) (fun c_ => absurd c_ (by decide)) (fun _ => ?_)
  refine x_aload_n (q := 8) dX8_coversStain_7 rfl rfl rfl ?_
  refine x_aload_n (q := 9) dX8_coversStain_8 rfl rfl rfl ?_
  refine x_iload_n (q := 10) dX8_coversStain_9 rfl rfl rfl ?_
  refine y_cvI (q := 13) dX8_coversStain_10 rfl l_X8_57 (c_X5_shadeOf hS ho 0 (by decide) z hz hz8) rfl rfl (cl_2 hS) (by decide) rfl rfl rfl rfl ?_
  refine x_aload_n (q := 14) dX8_coversStain_13 rfl rfl rfl ?_
  refine x_get (q := 17) dX8_coversStain_14 rfl f_X8_18 (cl_K hS ht) rfl (by omega) ?_
  refine x_iload_n (q := 18) dX8_coversStain_17 rfl rfl rfl ?_
  refine z_iald (q := 19) (j := 0) dX8_coversStain_18 rfl (cl_S hS ht) (by decide) (by decide) (by omega) ?_
  refine x_ic_ge (q := 22) (t := 24) dX8_coversStain_19 rfl (by decide) (fun c_19 => ?_) (fun c_19 => ?_)
  · refine x_iinc (q := 27) (v := 1) dX8_coversStain_24 rfl rfl (by decide) (by decide) ?_
    refine x_goto (q := 2) dX8_coversStain_27 (by decide) ?_
    refine x_iload_n (q := 3) dX8_coversStain_2 rfl rfl rfl ?_
    refine x_iconst (q := 4) (v := 3) dX8_coversStain_3 rfl (by decide) ?_
    refine x_ic_ge (q := 7) (t := 30) dX8_coversStain_4 rfl (by decide) (fun c_ => absurd c_ (by decide)) (fun _ => ?_)
    refine x_aload_n (q := 8) dX8_coversStain_7 rfl rfl rfl ?_
    refine x_aload_n (q := 9) dX8_coversStain_8 rfl rfl rfl ?_
    refine x_iload_n (q := 10) dX8_coversStain_9 rfl rfl rfl ?_
    refine y_cvI (q := 13) dX8_coversStain_10 rfl l_X8_57 (c_X5_shadeOf hS ho 1 (by decide) z hz hz8) rfl rfl (cl_2 hS) (by decide) rfl rfl rfl rfl ?_
    refine x_aload_n (q := 14) dX8_coversStain_13 rfl rfl rfl ?_
    refine x_get (q := 17) dX8_coversStain_14 rfl f_X8_18 (cl_K hS ht) rfl (by omega) ?_
    refine x_iload_n (q := 18) dX8_coversStain_17 rfl rfl rfl ?_
    refine z_iald (q := 19) (j := 1) dX8_coversStain_18 rfl (cl_S hS ht) (by decide) (by decide) (by omega) ?_
    refine x_ic_ge (q := 22) (t := 24) dX8_coversStain_19 rfl (by decide) (fun c_19_1 => ?_) (fun c_19_1 => ?_)
    · refine x_iinc (q := 27) (v := 2) dX8_coversStain_24 rfl rfl (by decide) (by decide) ?_
      refine x_goto (q := 2) dX8_coversStain_27 (by decide) ?_
      refine x_iload_n (q := 3) dX8_coversStain_2 rfl rfl rfl ?_
      refine x_iconst (q := 4) (v := 3) dX8_coversStain_3 rfl (by decide) ?_
      refine x_ic_ge (q := 7) (t := 30) dX8_coversStain_4 rfl (by decide) (fun c_ => absurd c_ (by decide)) (fun _ => ?_)
      refine x_aload_n (q := 8) dX8_coversStain_7 rfl rfl rfl ?_
      refine x_aload_n (q := 9) dX8_coversStain_8 rfl rfl rfl ?_
      refine x_iload_n (q := 10) dX8_coversStain_9 rfl rfl rfl ?_
      refine y_cvI (q := 13) dX8_coversStain_10 rfl l_X8_57 (c_X5_shadeOf hS ho 2 (by decide) z hz hz8) rfl rfl (cl_2 hS) (by decide) rfl rfl rfl rfl ?_
      refine x_aload_n (q := 14) dX8_coversStain_13 rfl rfl rfl ?_
      refine x_get (q := 17) dX8_coversStain_14 rfl f_X8_18 (cl_K hS ht) rfl (by omega) ?_
      refine x_iload_n (q := 18) dX8_coversStain_17 rfl rfl rfl ?_
      refine z_iald (q := 19) (j := 2) dX8_coversStain_18 rfl (cl_S hS ht) (by decide) (by decide) (by omega) ?_
      refine x_ic_ge (q := 22) (t := 24) dX8_coversStain_19 rfl (by decide) (fun c_19_2 => ?_) (fun c_19_2 => ?_)
      · refine x_iinc (q := 27) (v := 3) dX8_coversStain_24 rfl rfl (by decide) (by decide) ?_
        refine x_goto (q := 2) dX8_coversStain_27 (by decide) ?_
        refine x_iload_n (q := 3) dX8_coversStain_2 rfl rfl rfl ?_
        refine x_iconst (q := 4) (v := 3) dX8_coversStain_3 rfl (by decide) ?_
        refine x_ic_ge (q := 7) (t := 30) dX8_coversStain_4 rfl (by decide) (fun _ => ?_) (fun c_ => absurd (by decide) c_)
        refine x_iconst (q := 31) (v := 1) dX8_coversStain_30 rfl (by decide) ?_
        exact x_iret dX8_coversStain_31 ⟨_, rfl, by first | rfl | (split <;> rfl)⟩ rfl (Nat.le_refl _) rfl ⟨by first | (rw [if_pos ⟨c_19, c_19_1, c_19_2⟩]; done) | (rw [if_neg (fun z => c_19_2 z.2.2)]; done) | (rw [if_neg (fun z => c_19_1 z.2.1)]; done) | (rw [if_neg (fun z => c_19 z.1)]; done), rfl⟩
      · refine x_iconst (q := 23) (v := 0) dX8_coversStain_22 rfl (by decide) ?_
        exact x_iret dX8_coversStain_23 ⟨_, rfl, by first | rfl | (split <;> rfl)⟩ rfl (Nat.le_refl _) rfl ⟨by first | (rw [if_pos ⟨c_19, c_19_1, c_19_2⟩]; done) | (rw [if_neg (fun z => c_19_2 z.2.2)]; done) | (rw [if_neg (fun z => c_19_1 z.2.1)]; done) | (rw [if_neg (fun z => c_19 z.1)]; done), rfl⟩
    · refine x_iconst (q := 23) (v := 0) dX8_coversStain_22 rfl (by decide) ?_
      exact x_iret dX8_coversStain_23 ⟨_, rfl, by first | rfl | (split <;> rfl)⟩ rfl (Nat.le_refl _) rfl ⟨by first | (rw [if_pos ⟨c_19, c_19_1, c_19_2⟩]; done) | (rw [if_neg (fun z => c_19_2 z.2.2)]; done) | (rw [if_neg (fun z => c_19_1 z.2.1)]; done) | (rw [if_neg (fun z => c_19 z.1)]; done), rfl⟩
  · refine x_iconst (q := 23) (v := 0) dX8_coversStain_22 rfl (by decide) ?_
    exact x_iret dX8_coversStain_23 ⟨_, rfl, by first | rfl | (split <;> rfl)⟩ rfl (Nat.le_refl _) rfl ⟨by first | (rw [if_pos ⟨c_19, c_19_1, c_19_2⟩]; done) | (rw [if_neg (fun z => c_19_2 z.2.2)]; done) | (rw [if_neg (fun z => c_19_1 z.2.1)]; done) | (rw [if_neg (fun z => c_19 z.1)]; done), rfl⟩

abbrev adm (h : HF) (t o z : Nat) (g : Int32) : Prop := (0 < fI h (112 + 4 * t) 2 ∧ fI h (112 + 4 * t) 5 = 0 ∧ alk h t o z g) ∨ (fI h (112 + 4 * t) 2 ≤ 0 ∧ (fI h (112 + 4 * t) 6 = 0 ∨ cov h t o z))
set_option maxHeartbeats 4000000 in
set_option maxRecDepth 100000 in
theorem c_X8_admits {h : HF} (hS : Sh h) {t : Nat} (ht : t < 5) {o : Nat} (ho : isM o) (g : Int32) (z : Nat) (hz : fI h 2 2 = nI z) (hz8 : z ≤ 8) : Mc mX8_admits [.ref (112 + 4 * t), .ref o, .ref 2, .int g] 170 h (RI (if adm h t o z g then 1 else 0) h) := by
  refine Mc.of (by decide) rfl (Nat.le_of_ble_eq_true rfl) ?_
  refine x_aload_n (q := 1) dX8_admits_0 rfl rfl rfl ?_
  refine x_get (q := 4) dX8_admits_1 rfl f_X8_22 (cl_K hS ht) rfl (by omega) ?_
  refine x_if_le (q := 7) (t := 30) dX8_admits_4 rfl (by decide) (fun c_4 => ?_) (fun c_4 => ?_)
  · refine x_aload_n (q := 31) dX8_admits_30 rfl rfl rfl ?_
    refine x_get (q := 34) dX8_admits_31 rfl f_X8_36 (cl_K hS ht) rfl (by omega) ?_
    refine x_if_eq (q := 37) (t := 46) dX8_admits_34 rfl (by decide) (fun c_34 => ?_) (fun c_34 => ?_)
    · refine x_iconst (q := 47) (v := 1) dX8_admits_46 rfl (by decide) ?_
      refine x_goto (q := 51) dX8_admits_47 (by decide) ?_
      exact x_iret dX8_admits_51 ⟨_, rfl, by first | rfl | (split <;> rfl)⟩ rfl (Nat.le_refl _) rfl ⟨by first | (rw [if_pos (Or.inl ⟨Int32.not_le.mp c_4, c_11, ify c_21⟩)]; done) | (rw [if_neg (fun z => z.elim (fun z => c_11 z.2.1) (fun z => c_4 z.1))]; done) | (rw [if_neg (fun z => z.elim (fun z => ifn c_21 z.2.2) (fun z => c_4 z.1))]; done) | (rw [if_pos (Or.inr ⟨c_4, Or.inl c_34⟩)]; done) | (rw [if_pos (Or.inr ⟨c_4, Or.inr (ify c_43)⟩)]; done) | (rw [if_neg (fun z => z.elim (fun z => Int32.not_le.mpr z.1 c_4) (fun z => z.2.elim c_34 (ifn c_43)))]; done), rfl⟩
    · refine x_aload_n (q := 38) dX8_admits_37 rfl rfl rfl ?_
      refine x_aload_n (q := 39) dX8_admits_38 rfl rfl rfl ?_
      refine x_aload_n (q := 40) dX8_admits_39 rfl rfl rfl ?_
      refine y_cvI (q := 43) dX8_admits_40 rfl l_X8_43 (c_X8_coversStain hS ht ho z hz hz8) rfl rfl (cl_K hS ht) (by omega) rfl rfl rfl rfl ?_
      refine x_if_eq (q := 46) (t := 50) dX8_admits_43 rfl (by decide) (fun c_43 => ?_) (fun c_43 => ?_)
      · refine x_iconst (q := 51) (v := 0) dX8_admits_50 rfl (by decide) ?_
        exact x_iret dX8_admits_51 ⟨_, rfl, by first | rfl | (split <;> rfl)⟩ rfl (Nat.le_refl _) rfl ⟨by first | (rw [if_pos (Or.inl ⟨Int32.not_le.mp c_4, c_11, ify c_21⟩)]; done) | (rw [if_neg (fun z => z.elim (fun z => c_11 z.2.1) (fun z => c_4 z.1))]; done) | (rw [if_neg (fun z => z.elim (fun z => ifn c_21 z.2.2) (fun z => c_4 z.1))]; done) | (rw [if_pos (Or.inr ⟨c_4, Or.inl c_34⟩)]; done) | (rw [if_pos (Or.inr ⟨c_4, Or.inr (ify c_43)⟩)]; done) | (rw [if_neg (fun z => z.elim (fun z => Int32.not_le.mpr z.1 c_4) (fun z => z.2.elim c_34 (ifn c_43)))]; done), rfl⟩
      · refine x_iconst (q := 47) (v := 1) dX8_admits_46 rfl (by decide) ?_
        refine x_goto (q := 51) dX8_admits_47 (by decide) ?_
        exact x_iret dX8_admits_51 ⟨_, rfl, by first | rfl | (split <;> rfl)⟩ rfl (Nat.le_refl _) rfl ⟨by first | (rw [if_pos (Or.inl ⟨Int32.not_le.mp c_4, c_11, ify c_21⟩)]; done) | (rw [if_neg (fun z => z.elim (fun z => c_11 z.2.1) (fun z => c_4 z.1))]; done) | (rw [if_neg (fun z => z.elim (fun z => ifn c_21 z.2.2) (fun z => c_4 z.1))]; done) | (rw [if_pos (Or.inr ⟨c_4, Or.inl c_34⟩)]; done) | (rw [if_pos (Or.inr ⟨c_4, Or.inr (ify c_43)⟩)]; done) | (rw [if_neg (fun z => z.elim (fun z => Int32.not_le.mpr z.1 c_4) (fun z => z.2.elim c_34 (ifn c_43)))]; done), rfl⟩
  · refine x_aload_n (q := 8) dX8_admits_7 rfl rfl rfl ?_
    refine x_get (q := 11) dX8_admits_8 rfl f_X8_32 (cl_K hS ht) rfl (by omega) ?_
    refine x_if_ne (q := 14) (t := 28) dX8_admits_11 rfl (by decide) (fun c_11 => ?_) (fun c_11 => ?_)
    · refine x_iconst (q := 29) (v := 0) dX8_admits_28 rfl (by decide) ?_
      exact x_iret dX8_admits_29 ⟨_, rfl, by first | rfl | (split <;> rfl)⟩ rfl (Nat.le_refl _) rfl ⟨by first | (rw [if_pos (Or.inl ⟨Int32.not_le.mp c_4, c_11, ify c_21⟩)]; done) | (rw [if_neg (fun z => z.elim (fun z => c_11 z.2.1) (fun z => c_4 z.1))]; done) | (rw [if_neg (fun z => z.elim (fun z => ifn c_21 z.2.2) (fun z => c_4 z.1))]; done) | (rw [if_pos (Or.inr ⟨c_4, Or.inl c_34⟩)]; done) | (rw [if_pos (Or.inr ⟨c_4, Or.inr (ify c_43)⟩)]; done) | (rw [if_neg (fun z => z.elim (fun z => Int32.not_le.mpr z.1 c_4) (fun z => z.2.elim c_34 (ifn c_43)))]; done), rfl⟩
    · refine x_aload_n (q := 15) dX8_admits_14 rfl rfl rfl ?_
      refine x_aload_n (q := 16) dX8_admits_15 rfl rfl rfl ?_
      refine x_aload_n (q := 17) dX8_admits_16 rfl rfl rfl ?_
      refine x_iload_n (q := 18) dX8_admits_17 rfl rfl rfl ?_
      refine y_cvI (q := 21) dX8_admits_18 rfl l_X8_39 (c_X8_isAlike hS ht ho g z hz hz8) rfl rfl (cl_K hS ht) (by omega) rfl rfl rfl rfl ?_
      refine x_if_eq (q := 24) (t := 28) dX8_admits_21 rfl (by decide) (fun c_21 => ?_) (fun c_21 => ?_)
      · refine x_iconst (q := 29) (v := 0) dX8_admits_28 rfl (by decide) ?_
        exact x_iret dX8_admits_29 ⟨_, rfl, by first | rfl | (split <;> rfl)⟩ rfl (Nat.le_refl _) rfl ⟨by first | (rw [if_pos (Or.inl ⟨Int32.not_le.mp c_4, c_11, ify c_21⟩)]; done) | (rw [if_neg (fun z => z.elim (fun z => c_11 z.2.1) (fun z => c_4 z.1))]; done) | (rw [if_neg (fun z => z.elim (fun z => ifn c_21 z.2.2) (fun z => c_4 z.1))]; done) | (rw [if_pos (Or.inr ⟨c_4, Or.inl c_34⟩)]; done) | (rw [if_pos (Or.inr ⟨c_4, Or.inr (ify c_43)⟩)]; done) | (rw [if_neg (fun z => z.elim (fun z => Int32.not_le.mpr z.1 c_4) (fun z => z.2.elim c_34 (ifn c_43)))]; done), rfl⟩
      · refine x_iconst (q := 25) (v := 1) dX8_admits_24 rfl (by decide) ?_
        refine x_goto (q := 29) dX8_admits_25 (by decide) ?_
        exact x_iret dX8_admits_29 ⟨_, rfl, by first | rfl | (split <;> rfl)⟩ rfl (Nat.le_refl _) rfl ⟨by first | (rw [if_pos (Or.inl ⟨Int32.not_le.mp c_4, c_11, ify c_21⟩)]; done) | (rw [if_neg (fun z => z.elim (fun z => c_11 z.2.1) (fun z => c_4 z.1))]; done) | (rw [if_neg (fun z => z.elim (fun z => ifn c_21 z.2.2) (fun z => c_4 z.1))]; done) | (rw [if_pos (Or.inr ⟨c_4, Or.inl c_34⟩)]; done) | (rw [if_pos (Or.inr ⟨c_4, Or.inr (ify c_43)⟩)]; done) | (rw [if_neg (fun z => z.elim (fun z => Int32.not_le.mpr z.1 c_4) (fun z => z.2.elim c_34 (ifn c_43)))]; done), rfl⟩

