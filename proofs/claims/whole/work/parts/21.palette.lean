set_option maxHeartbeats 4000000 in
set_option maxRecDepth 100000 in
theorem c_X5_has {h : HF} (hS : Sh h) (v : Int32) : Mc mX5_has [.ref 2, .int v] 170 h (RI (if 0 ≤ v ∧ v < fI h 2 2 then 1 else 0) h) := by
  refine Mc.of (by decide) rfl (Nat.le_of_ble_eq_true rfl) ?_
  refine x_iload_n (q := 1) dX5_has_0 rfl rfl rfl ?_
  refine x_if_lt (q := 4) (t := 16) dX5_has_1 rfl (by decide) (fun c_1 => ?_) (fun c_1 => ?_)
  · refine x_iconst (q := 17) (v := 0) dX5_has_16 rfl (by decide) ?_
    exact x_iret dX5_has_17 ⟨_, rfl, by first | rfl | (split <;> rfl)⟩ rfl (Nat.le_refl _) rfl ⟨by first | rfl | (split <;> first | rfl | (exfalso; simp only [Int32.le_iff_toInt_le, Int32.lt_iff_toInt_lt, Int32.reduceToInt] at *; omega)), rfl⟩
  · refine x_iload_n (q := 5) dX5_has_4 rfl rfl rfl ?_
    refine x_aload_n (q := 6) dX5_has_5 rfl rfl rfl ?_
    refine x_get (q := 9) dX5_has_6 rfl f_X5_18 (cl_2 hS) rfl (by decide) ?_
    refine x_ic_ge (q := 12) (t := 16) dX5_has_9 rfl (by decide) (fun c_9 => ?_) (fun c_9 => ?_)
    · refine x_iconst (q := 17) (v := 0) dX5_has_16 rfl (by decide) ?_
      exact x_iret dX5_has_17 ⟨_, rfl, by first | rfl | (split <;> rfl)⟩ rfl (Nat.le_refl _) rfl ⟨by first | rfl | (split <;> first | rfl | (exfalso; simp only [Int32.le_iff_toInt_le, Int32.lt_iff_toInt_lt, Int32.reduceToInt] at *; omega)), rfl⟩
    · refine x_iconst (q := 13) (v := 1) dX5_has_12 rfl (by decide) ?_
      refine x_goto (q := 17) dX5_has_13 (by decide) ?_
      exact x_iret dX5_has_17 ⟨_, rfl, by first | rfl | (split <;> rfl)⟩ rfl (Nat.le_refl _) rfl ⟨by first | rfl | (split <;> first | rfl | (exfalso; simp only [Int32.le_iff_toInt_le, Int32.lt_iff_toInt_lt, Int32.reduceToInt] at *; omega)), rfl⟩

set_option maxHeartbeats 4000000 in
set_option maxRecDepth 100000 in
theorem c_X7_has {h : HF} (hS : Sh h) (v : Int32) : Mc mX7_has [.ref 5, .int v] 170 h (RI (if 0 ≤ v ∧ v < fI h 5 3 then 1 else 0) h) := by
  refine Mc.of (by decide) rfl (Nat.le_of_ble_eq_true rfl) ?_
  refine x_iload_n (q := 1) dX7_has_0 rfl rfl rfl ?_
  refine x_if_lt (q := 4) (t := 16) dX7_has_1 rfl (by decide) (fun c_1 => ?_) (fun c_1 => ?_)
  · refine x_iconst (q := 17) (v := 0) dX7_has_16 rfl (by decide) ?_
    exact x_iret dX7_has_17 ⟨_, rfl, by first | rfl | (split <;> rfl)⟩ rfl (Nat.le_refl _) rfl ⟨by first | rfl | (split <;> first | rfl | (exfalso; simp only [Int32.le_iff_toInt_le, Int32.lt_iff_toInt_lt, Int32.reduceToInt] at *; omega)), rfl⟩
  · refine x_iload_n (q := 5) dX7_has_4 rfl rfl rfl ?_
    refine x_aload_n (q := 6) dX7_has_5 rfl rfl rfl ?_
    refine x_get (q := 9) dX7_has_6 rfl f_X7_21 (cl_5 hS) rfl (by decide) ?_
    refine x_ic_ge (q := 12) (t := 16) dX7_has_9 rfl (by decide) (fun c_9 => ?_) (fun c_9 => ?_)
    · refine x_iconst (q := 17) (v := 0) dX7_has_16 rfl (by decide) ?_
      exact x_iret dX7_has_17 ⟨_, rfl, by first | rfl | (split <;> rfl)⟩ rfl (Nat.le_refl _) rfl ⟨by first | rfl | (split <;> first | rfl | (exfalso; simp only [Int32.le_iff_toInt_le, Int32.lt_iff_toInt_lt, Int32.reduceToInt] at *; omega)), rfl⟩
    · refine x_iconst (q := 13) (v := 1) dX7_has_12 rfl (by decide) ?_
      refine x_goto (q := 17) dX7_has_13 (by decide) ?_
      exact x_iret dX7_has_17 ⟨_, rfl, by first | rfl | (split <;> rfl)⟩ rfl (Nat.le_refl _) rfl ⟨by first | rfl | (split <;> first | rfl | (exfalso; simp only [Int32.le_iff_toInt_le, Int32.lt_iff_toInt_lt, Int32.reduceToInt] at *; omega)), rfl⟩

set_option maxHeartbeats 4000000 in
set_option maxRecDepth 100000 in
theorem c_X1_has {h : HF} (hS : Sh h) (v : Int32) : Mc mX1_has [.ref 9, .int v] 170 h (RI (if 0 ≤ v ∧ v < fI h 9 6 then 1 else 0) h) := by
  refine Mc.of (by decide) rfl (Nat.le_of_ble_eq_true rfl) ?_
  refine x_iload_n (q := 1) dX1_has_0 rfl rfl rfl ?_
  refine x_if_lt (q := 4) (t := 16) dX1_has_1 rfl (by decide) (fun c_1 => ?_) (fun c_1 => ?_)
  · refine x_iconst (q := 17) (v := 0) dX1_has_16 rfl (by decide) ?_
    exact x_iret dX1_has_17 ⟨_, rfl, by first | rfl | (split <;> rfl)⟩ rfl (Nat.le_refl _) rfl ⟨by first | rfl | (split <;> first | rfl | (exfalso; simp only [Int32.le_iff_toInt_le, Int32.lt_iff_toInt_lt, Int32.reduceToInt] at *; omega)), rfl⟩
  · refine x_iload_n (q := 5) dX1_has_4 rfl rfl rfl ?_
    refine x_aload_n (q := 6) dX1_has_5 rfl rfl rfl ?_
    refine x_get (q := 9) dX1_has_6 rfl f_X1_31 (cl_9 hS) rfl (by decide) ?_
    refine x_ic_ge (q := 12) (t := 16) dX1_has_9 rfl (by decide) (fun c_9 => ?_) (fun c_9 => ?_)
    · refine x_iconst (q := 17) (v := 0) dX1_has_16 rfl (by decide) ?_
      exact x_iret dX1_has_17 ⟨_, rfl, by first | rfl | (split <;> rfl)⟩ rfl (Nat.le_refl _) rfl ⟨by first | rfl | (split <;> first | rfl | (exfalso; simp only [Int32.le_iff_toInt_le, Int32.lt_iff_toInt_lt, Int32.reduceToInt] at *; omega)), rfl⟩
    · refine x_iconst (q := 13) (v := 1) dX1_has_12 rfl (by decide) ?_
      refine x_goto (q := 17) dX1_has_13 (by decide) ?_
      exact x_iret dX1_has_17 ⟨_, rfl, by first | rfl | (split <;> rfl)⟩ rfl (Nat.le_refl _) rfl ⟨by first | rfl | (split <;> first | rfl | (exfalso; simp only [Int32.le_iff_toInt_le, Int32.lt_iff_toInt_lt, Int32.reduceToInt] at *; omega)), rfl⟩

set_option maxHeartbeats 4000000 in
set_option maxRecDepth 100000 in
theorem c_X3_has {h : HF} (hS : Sh h) (v : Int32) : Mc mX3_has [.ref 25, .int v] 170 h (RI (if 0 ≤ v ∧ v < fI h 25 5 then 1 else 0) h) := by
  refine Mc.of (by decide) rfl (Nat.le_of_ble_eq_true rfl) ?_
  refine x_iload_n (q := 1) dX3_has_0 rfl rfl rfl ?_
  refine x_if_lt (q := 4) (t := 16) dX3_has_1 rfl (by decide) (fun c_1 => ?_) (fun c_1 => ?_)
  · refine x_iconst (q := 17) (v := 0) dX3_has_16 rfl (by decide) ?_
    exact x_iret dX3_has_17 ⟨_, rfl, by first | rfl | (split <;> rfl)⟩ rfl (Nat.le_refl _) rfl ⟨by first | rfl | (split <;> first | rfl | (exfalso; simp only [Int32.le_iff_toInt_le, Int32.lt_iff_toInt_lt, Int32.reduceToInt] at *; omega)), rfl⟩
  · refine x_iload_n (q := 5) dX3_has_4 rfl rfl rfl ?_
    refine x_aload_n (q := 6) dX3_has_5 rfl rfl rfl ?_
    refine x_get (q := 9) dX3_has_6 rfl f_X3_28 (cl_25 hS) rfl (by decide) ?_
    refine x_ic_ge (q := 12) (t := 16) dX3_has_9 rfl (by decide) (fun c_9 => ?_) (fun c_9 => ?_)
    · refine x_iconst (q := 17) (v := 0) dX3_has_16 rfl (by decide) ?_
      exact x_iret dX3_has_17 ⟨_, rfl, by first | rfl | (split <;> rfl)⟩ rfl (Nat.le_refl _) rfl ⟨by first | rfl | (split <;> first | rfl | (exfalso; simp only [Int32.le_iff_toInt_le, Int32.lt_iff_toInt_lt, Int32.reduceToInt] at *; omega)), rfl⟩
    · refine x_iconst (q := 13) (v := 1) dX3_has_12 rfl (by decide) ?_
      refine x_goto (q := 17) dX3_has_13 (by decide) ?_
      exact x_iret dX3_has_17 ⟨_, rfl, by first | rfl | (split <;> rfl)⟩ rfl (Nat.le_refl _) rfl ⟨by first | rfl | (split <;> first | rfl | (exfalso; simp only [Int32.le_iff_toInt_le, Int32.lt_iff_toInt_lt, Int32.reduceToInt] at *; omega)), rfl⟩

set_option maxHeartbeats 4000000 in
set_option maxRecDepth 100000 in
theorem c_X9_hasBatch {h : HF} (hS : Sh h) (v : Int32) : Mc mX9_hasBatch [.ref 1, .int v] 170 h (RI (if 0 ≤ v ∧ v < fI h 1 4 then 1 else 0) h) := by
  refine Mc.of (by decide) rfl (Nat.le_of_ble_eq_true rfl) ?_
  refine x_iload_n (q := 1) dX9_hasBatch_0 rfl rfl rfl ?_
  refine x_if_lt (q := 4) (t := 16) dX9_hasBatch_1 rfl (by decide) (fun c_1 => ?_) (fun c_1 => ?_)
  · refine x_iconst (q := 17) (v := 0) dX9_hasBatch_16 rfl (by decide) ?_
    exact x_iret dX9_hasBatch_17 ⟨_, rfl, by first | rfl | (split <;> rfl)⟩ rfl (Nat.le_refl _) rfl ⟨by first | rfl | (split <;> first | rfl | (exfalso; simp only [Int32.le_iff_toInt_le, Int32.lt_iff_toInt_lt, Int32.reduceToInt] at *; omega)), rfl⟩
  · refine x_iload_n (q := 5) dX9_hasBatch_4 rfl rfl rfl ?_
    refine x_aload_n (q := 6) dX9_hasBatch_5 rfl rfl rfl ?_
    refine x_get (q := 9) dX9_hasBatch_6 rfl f_X9_36 (cl_1 hS) rfl (by decide) ?_
    refine x_ic_ge (q := 12) (t := 16) dX9_hasBatch_9 rfl (by decide) (fun c_9 => ?_) (fun c_9 => ?_)
    · refine x_iconst (q := 17) (v := 0) dX9_hasBatch_16 rfl (by decide) ?_
      exact x_iret dX9_hasBatch_17 ⟨_, rfl, by first | rfl | (split <;> rfl)⟩ rfl (Nat.le_refl _) rfl ⟨by first | rfl | (split <;> first | rfl | (exfalso; simp only [Int32.le_iff_toInt_le, Int32.lt_iff_toInt_lt, Int32.reduceToInt] at *; omega)), rfl⟩
    · refine x_iconst (q := 13) (v := 1) dX9_hasBatch_12 rfl (by decide) ?_
      refine x_goto (q := 17) dX9_hasBatch_13 (by decide) ?_
      exact x_iret dX9_hasBatch_17 ⟨_, rfl, by first | rfl | (split <;> rfl)⟩ rfl (Nat.le_refl _) rfl ⟨by first | rfl | (split <;> first | rfl | (exfalso; simp only [Int32.le_iff_toInt_le, Int32.lt_iff_toInt_lt, Int32.reduceToInt] at *; omega)), rfl⟩

theorem ix3 (i d : Nat) : nI i * 3 + nI d = nI (i * 3 + d) := by
  rw [show (3 : Int32) = nI 3 from rfl, pk_mul, nI_add]
theorem ix6 (i d : Nat) : nI i * 6 + nI d = nI (i * 6 + d) := by
  rw [show (6 : Int32) = nI 6 from rfl, pk_mul, nI_add]
theorem ix8 (i d : Nat) : nI i * 8 + nI d = nI (i * 8 + d) := by
  rw [show (8 : Int32) = nI 8 from rfl, pk_mul, nI_add]
theorem ux8 (i d : Nat) : 8 * nI i + nI d = nI (8 * i + d) := by
  rw [show (8 : Int32) = nI 8 from rfl, pk_mul, nI_add]
theorem ux6 (i d : Nat) : 6 * nI i + nI d = nI (6 * i + d) := by
  rw [show (6 : Int32) = nI 6 from rfl, pk_mul, nI_add]
theorem ux3 (i d : Nat) : 3 * nI i + nI d = nI (3 * i + d) := by
  rw [show (3 : Int32) = nI 3 from rfl, pk_mul, nI_add]
theorem ux9 (i d : Nat) : 9 * nI i + nI d = nI (9 * i + d) := by
  rw [show (9 : Int32) = nI 9 from rfl, pk_mul, nI_add]
def tellF (h : HF) (i : Nat) (x y : Int32) : HF := si (si h 3 (upd (gi h 3) i x)) 4 (upd (gi h 4) i y)
theorem Sh.tell {h : HF} (hS : Sh h) (i : Nat) (x y : Int32) : Sh (tellF h i x y) := (hS.si _ _).si _ _
set_option maxHeartbeats 4000000 in
set_option maxRecDepth 100000 in
theorem c_X5_tell {h : HF} (hS : Sh h) (b d : Nat) (x y : Int32) (hb : b < 8) (hd : d < 3) : Mc mX5_tell [.ref 2, .int (nI b), .int (nI d), .int x, .int y] 170 h (RV (tellF h (b * 3 + d) x y)) := by
  refine Mc.of (by decide) rfl (Nat.le_of_ble_eq_true rfl) ?_
  refine x_aload_n (q := 1) dX5_tell_0 rfl rfl rfl ?_
  refine x_get (q := 4) dX5_tell_1 rfl f_X5_9 (cl_2 hS) rfl (by decide) ?_
  refine x_iload_n (q := 5) dX5_tell_4 rfl rfl rfl ?_
  refine x_iconst (q := 6) (v := 3) dX5_tell_5 rfl (by decide) ?_
  refine x_imul (q := 7) dX5_tell_6 rfl ?_
  refine x_iload_n (q := 8) dX5_tell_7 rfl rfl rfl ?_
  refine x_iadd (q := 9) dX5_tell_8 rfl ?_
  rw [ix3]
  refine x_iload_n (q := 10) dX5_tell_9 rfl rfl rfl ?_
  refine z_iast (q := 11) (j := b * 3 + d) dX5_tell_10 rfl (cl_3 hS) (by omega) (by decide) (by decide) ?_
  refine Vg.nm (fun h1 eh1 => ?_)
  have hS1 : Sh h1 := by rw [eh1]; exact hS.si _ _
  refine x_aload_n (q := 12) dX5_tell_11 rfl rfl rfl ?_
  refine x_get (q := 15) dX5_tell_12 rfl f_X5_15 (cl_2 hS1) rfl (by decide) ?_
  refine x_iload_n (q := 16) dX5_tell_15 rfl rfl rfl ?_
  refine x_iconst (q := 17) (v := 3) dX5_tell_16 rfl (by decide) ?_
  refine x_imul (q := 18) dX5_tell_17 rfl ?_
  refine x_iload_n (q := 19) dX5_tell_18 rfl rfl rfl ?_
  refine x_iadd (q := 20) dX5_tell_19 rfl ?_
  rw [ix3]
  refine x_iload (q := 22) dX5_tell_20 rfl rfl ?_
  refine z_iast (q := 23) (j := b * 3 + d) dX5_tell_22 rfl (cl_4 hS1) (by omega) (by decide) (by decide) ?_
  refine Vg.nm (fun h2 eh2 => ?_)
  have hS2 : Sh h2 := by rw [eh2]; exact hS1.si _ _
  exact x_vret dX5_tell_23 rfl rfl (Nat.le_refl _) rfl ⟨rfl, by subst_vars; simp only [gi_si_ne (show (4 : Nat) ≠ 3 by decide), tellF]⟩

def wsum (f g : Nat → Int32) (d : Nat) : Nat → Int64
  | 0 => 0
  | n + 1 => wsum f g d n + (f n).toInt64 * (g (n * 3 + d)).toInt64
set_option maxHeartbeats 4000000 in
set_option maxRecDepth 100000 in
theorem lp_X5_weighted3 {h : HF} (hS : Sh h) {a : Nat} (hm : isM a) (d : Nat) (hd : d < 3) (z : Nat) (hz : fI h 2 2 = nI z) (hz8 : z ≤ 8) : ∀ (k i : Nat), i + k = z → Vg mX5_weighted none (QM mX5_weighted 170 (RJ (wsum (gi h (a + 1)) (gi h 3) d z) h)) 6 [some (.ref 2), some (.ref (a + 1)), some (.ref 3), some (.int (nI d)), some (.long (wsum (gi h (a + 1)) (gi h 3) d i)), none, some (.int (nI i))] [] 170 h 0 0 := by
  intro k
  induction k with
  | zero =>
    intro i hi
    obtain rfl : i = z := by omega
    refine x_iload (q := 8) dX5_weighted_6 rfl rfl ?_
    refine x_aload_n (q := 9) dX5_weighted_8 rfl rfl rfl ?_
    refine x_get (q := 12) dX5_weighted_9 rfl f_X5_18 (cl_2 hS) rfl (by decide) ?_
    rw [hz]
    refine x_ic_ge (q := 15) (t := 41) dX5_weighted_12 rfl (by decide) (fun _ => ?_) (fun c_ => absurd (nI_le (Nat.le_refl _) (by omega)) c_)
    refine x_lload (q := 43) dX5_weighted_41 rfl rfl ?_
    exact x_lret dX5_weighted_43 rfl rfl (Nat.le_refl _) rfl ⟨rfl, rfl⟩
  | succ k ih =>
    intro i hi
    refine x_iload (q := 8) dX5_weighted_6 rfl rfl ?_
    refine x_aload_n (q := 9) dX5_weighted_8 rfl rfl rfl ?_
    refine x_get (q := 12) dX5_weighted_9 rfl f_X5_18 (cl_2 hS) rfl (by decide) ?_
    rw [hz]
    refine x_ic_ge (q := 15) (t := 41) dX5_weighted_12 rfl (by decide) (fun c_ => absurd c_ (nI_ge (by omega) (by omega))) (fun _ => ?_)
    refine x_lload (q := 17) dX5_weighted_15 rfl rfl ?_
    refine x_aload_n (q := 18) dX5_weighted_17 rfl rfl rfl ?_
    refine x_iload (q := 20) dX5_weighted_18 rfl rfl ?_
    refine z_iald (q := 21) (j := i) dX5_weighted_20 rfl ((mxo hm hS).2.1) (by omega) (by decide) (mxc hm) ?_
    refine x_i2l (q := 22) dX5_weighted_21 rfl ?_
    refine x_aload_n (q := 23) dX5_weighted_22 rfl rfl rfl ?_
    refine x_iload (q := 25) dX5_weighted_23 rfl rfl ?_
    refine x_iconst (q := 26) (v := 3) dX5_weighted_25 rfl (by decide) ?_
    refine x_imul (q := 27) dX5_weighted_26 rfl ?_
    refine x_iload_n (q := 28) dX5_weighted_27 rfl rfl rfl ?_
    refine x_iadd (q := 29) dX5_weighted_28 rfl ?_
    rw [ix3]
    refine z_iald (q := 30) (j := i * 3 + d) dX5_weighted_29 rfl (cl_3 hS) (by omega) (by decide) (by decide) ?_
    refine x_i2l (q := 31) dX5_weighted_30 rfl ?_
    refine x_lmul (q := 32) dX5_weighted_31 rfl ?_
    refine x_ladd (q := 33) dX5_weighted_32 rfl ?_
    refine x_lstore (q := 35) dX5_weighted_33 rfl (by decide) ?_
    refine x_iinc (q := 38) (v := nI (i + 1)) dX5_weighted_35 rfl rfl (nI_inc _) (by decide) ?_
    refine x_goto (q := 6) dX5_weighted_38 (by decide) ?_
    exact ih (i + 1) (by omega)

set_option maxHeartbeats 4000000 in
set_option maxRecDepth 100000 in
theorem c_X5_weighted3 {h : HF} (hS : Sh h) {a : Nat} (hm : isM a) (d : Nat) (hd : d < 3) (z : Nat) (hz : fI h 2 2 = nI z) (hz8 : z ≤ 8) : Mc mX5_weighted [.ref 2, .ref (a + 1), .ref 3, .int (nI d)] 170 h (RJ (wsum (gi h (a + 1)) (gi h 3) d z) h) := by
  refine Mc.of (by decide) rfl (Nat.le_of_ble_eq_true rfl) ?_
  refine x_lconst (q := 1) (v := 0) dX5_weighted_0 rfl (by decide) ?_
  refine x_lstore (q := 3) dX5_weighted_1 rfl (by decide) ?_
  refine x_iconst (q := 4) (v := 0) dX5_weighted_3 rfl (by decide) ?_
  refine x_istore (q := 6) dX5_weighted_4 rfl (by decide) ?_
  exact lp_X5_weighted3 hS hm d hd z hz hz8 z 0 (by omega)

set_option maxHeartbeats 4000000 in
set_option maxRecDepth 100000 in
theorem lp_X5_weighted4 {h : HF} (hS : Sh h) {a : Nat} (hm : isM a) (d : Nat) (hd : d < 3) (z : Nat) (hz : fI h 2 2 = nI z) (hz8 : z ≤ 8) : ∀ (k i : Nat), i + k = z → Vg mX5_weighted none (QM mX5_weighted 170 (RJ (wsum (gi h (a + 1)) (gi h 4) d z) h)) 6 [some (.ref 2), some (.ref (a + 1)), some (.ref 4), some (.int (nI d)), some (.long (wsum (gi h (a + 1)) (gi h 4) d i)), none, some (.int (nI i))] [] 170 h 0 0 := by
  intro k
  induction k with
  | zero =>
    intro i hi
    obtain rfl : i = z := by omega
    refine x_iload (q := 8) dX5_weighted_6 rfl rfl ?_
    refine x_aload_n (q := 9) dX5_weighted_8 rfl rfl rfl ?_
    refine x_get (q := 12) dX5_weighted_9 rfl f_X5_18 (cl_2 hS) rfl (by decide) ?_
    rw [hz]
    refine x_ic_ge (q := 15) (t := 41) dX5_weighted_12 rfl (by decide) (fun _ => ?_) (fun c_ => absurd (nI_le (Nat.le_refl _) (by omega)) c_)
    refine x_lload (q := 43) dX5_weighted_41 rfl rfl ?_
    exact x_lret dX5_weighted_43 rfl rfl (Nat.le_refl _) rfl ⟨rfl, rfl⟩
  | succ k ih =>
    intro i hi
    refine x_iload (q := 8) dX5_weighted_6 rfl rfl ?_
    refine x_aload_n (q := 9) dX5_weighted_8 rfl rfl rfl ?_
    refine x_get (q := 12) dX5_weighted_9 rfl f_X5_18 (cl_2 hS) rfl (by decide) ?_
    rw [hz]
    refine x_ic_ge (q := 15) (t := 41) dX5_weighted_12 rfl (by decide) (fun c_ => absurd c_ (nI_ge (by omega) (by omega))) (fun _ => ?_)
    refine x_lload (q := 17) dX5_weighted_15 rfl rfl ?_
    refine x_aload_n (q := 18) dX5_weighted_17 rfl rfl rfl ?_
    refine x_iload (q := 20) dX5_weighted_18 rfl rfl ?_
    refine z_iald (q := 21) (j := i) dX5_weighted_20 rfl ((mxo hm hS).2.1) (by omega) (by decide) (mxc hm) ?_
    refine x_i2l (q := 22) dX5_weighted_21 rfl ?_
    refine x_aload_n (q := 23) dX5_weighted_22 rfl rfl rfl ?_
    refine x_iload (q := 25) dX5_weighted_23 rfl rfl ?_
    refine x_iconst (q := 26) (v := 3) dX5_weighted_25 rfl (by decide) ?_
    refine x_imul (q := 27) dX5_weighted_26 rfl ?_
    refine x_iload_n (q := 28) dX5_weighted_27 rfl rfl rfl ?_
    refine x_iadd (q := 29) dX5_weighted_28 rfl ?_
    rw [ix3]
    refine z_iald (q := 30) (j := i * 3 + d) dX5_weighted_29 rfl (cl_4 hS) (by omega) (by decide) (by decide) ?_
    refine x_i2l (q := 31) dX5_weighted_30 rfl ?_
    refine x_lmul (q := 32) dX5_weighted_31 rfl ?_
    refine x_ladd (q := 33) dX5_weighted_32 rfl ?_
    refine x_lstore (q := 35) dX5_weighted_33 rfl (by decide) ?_
    refine x_iinc (q := 38) (v := nI (i + 1)) dX5_weighted_35 rfl rfl (nI_inc _) (by decide) ?_
    refine x_goto (q := 6) dX5_weighted_38 (by decide) ?_
    exact ih (i + 1) (by omega)

set_option maxHeartbeats 4000000 in
set_option maxRecDepth 100000 in
theorem c_X5_weighted4 {h : HF} (hS : Sh h) {a : Nat} (hm : isM a) (d : Nat) (hd : d < 3) (z : Nat) (hz : fI h 2 2 = nI z) (hz8 : z ≤ 8) : Mc mX5_weighted [.ref 2, .ref (a + 1), .ref 4, .int (nI d)] 170 h (RJ (wsum (gi h (a + 1)) (gi h 4) d z) h) := by
  refine Mc.of (by decide) rfl (Nat.le_of_ble_eq_true rfl) ?_
  refine x_lconst (q := 1) (v := 0) dX5_weighted_0 rfl (by decide) ?_
  refine x_lstore (q := 3) dX5_weighted_1 rfl (by decide) ?_
  refine x_iconst (q := 4) (v := 0) dX5_weighted_3 rfl (by decide) ?_
  refine x_istore (q := 6) dX5_weighted_4 rfl (by decide) ?_
  exact lp_X5_weighted4 hS hm d hd z hz hz8 z 0 (by omega)

set_option maxHeartbeats 4000000 in
set_option maxRecDepth 100000 in
theorem c_X5_absorbed {h : HF} (hS : Sh h) {a : Nat} (hm : isM a) (d : Nat) (hd : d < 3) (z : Nat) (hz : fI h 2 2 = nI z) (hz8 : z ≤ 8) : Mc mX5_absorbed [.ref 2, .ref a, .int (nI d)] 170 h (RJ (wsum (gi h (a + 1)) (gi h 3) d z) h) := by
  refine Mc.of (by decide) rfl (Nat.le_of_ble_eq_true rfl) ?_
  refine x_aload_n (q := 1) dX5_absorbed_0 rfl rfl rfl ?_
  refine x_aload_n (q := 2) dX5_absorbed_1 rfl rfl rfl ?_
  refine x_get (q := 5) dX5_absorbed_2 rfl f_X5_26 ((mxo hm hS).1) rfl (mxb hm) ?_
  refine x_aload_n (q := 6) dX5_absorbed_5 rfl rfl rfl ?_
  refine x_get (q := 9) dX5_absorbed_6 rfl f_X5_9 (cl_2 hS) rfl (by decide) ?_
  refine x_iload_n (q := 10) dX5_absorbed_9 rfl rfl rfl ?_
  refine y_cvJ (q := 13) dX5_absorbed_10 rfl l_X5_31 (c_X5_weighted3 hS hm d hd z hz hz8) rfl rfl (cl_2 hS) (by decide) rfl rfl rfl rfl ?_
  exact x_lret dX5_absorbed_13 rfl rfl (Nat.le_refl _) rfl ⟨rfl, rfl⟩

set_option maxHeartbeats 4000000 in
set_option maxRecDepth 100000 in
theorem c_X5_scattered {h : HF} (hS : Sh h) {a : Nat} (hm : isM a) (d : Nat) (hd : d < 3) (z : Nat) (hz : fI h 2 2 = nI z) (hz8 : z ≤ 8) : Mc mX5_scattered [.ref 2, .ref a, .int (nI d)] 170 h (RJ (wsum (gi h (a + 1)) (gi h 4) d z) h) := by
  refine Mc.of (by decide) rfl (Nat.le_of_ble_eq_true rfl) ?_
  refine x_aload_n (q := 1) dX5_scattered_0 rfl rfl rfl ?_
  refine x_aload_n (q := 2) dX5_scattered_1 rfl rfl rfl ?_
  refine x_get (q := 5) dX5_scattered_2 rfl f_X5_26 ((mxo hm hS).1) rfl (mxb hm) ?_
  refine x_aload_n (q := 6) dX5_scattered_5 rfl rfl rfl ?_
  refine x_get (q := 9) dX5_scattered_6 rfl f_X5_15 (cl_2 hS) rfl (by decide) ?_
  refine x_iload_n (q := 10) dX5_scattered_9 rfl rfl rfl ?_
  refine y_cvJ (q := 13) dX5_scattered_10 rfl l_X5_31 (c_X5_weighted4 hS hm d hd z hz hz8) rfl rfl (cl_2 hS) (by decide) rfl rfl rfl rfl ?_
  exact x_lret dX5_scattered_13 rfl rfl (Nat.le_refl _) rfl ⟨rfl, rfl⟩

def shof (f A B : Nat → Int32) (d z : Nat) : Int32 := shd (wsum f A d z) (wsum f B d z)
set_option maxHeartbeats 4000000 in
set_option maxRecDepth 100000 in
theorem c_X5_shadeOf {h : HF} (hS : Sh h) {a : Nat} (hm : isM a) (d : Nat) (hd : d < 3) (z : Nat) (hz : fI h 2 2 = nI z) (hz8 : z ≤ 8) : Mc mX5_shadeOf [.ref 2, .ref a, .int (nI d)] 170 h (RI (shof (gi h (a + 1)) (gi h 3) (gi h 4) d z) h) := by
  refine Mc.of (by decide) rfl (Nat.le_of_ble_eq_true rfl) ?_
  refine x_aload_n (q := 1) dX5_shadeOf_0 rfl rfl rfl ?_
  refine x_aload_n (q := 2) dX5_shadeOf_1 rfl rfl rfl ?_
  refine x_iload_n (q := 3) dX5_shadeOf_2 rfl rfl rfl ?_
  refine y_cvJ (q := 6) dX5_shadeOf_3 rfl l_X5_35 (c_X5_absorbed hS hm d hd z hz hz8) rfl rfl (cl_2 hS) (by decide) rfl rfl rfl rfl ?_
  refine x_aload_n (q := 7) dX5_shadeOf_6 rfl rfl rfl ?_
  refine x_aload_n (q := 8) dX5_shadeOf_7 rfl rfl rfl ?_
  refine x_iload_n (q := 9) dX5_shadeOf_8 rfl rfl rfl ?_
  refine y_cvJ (q := 12) dX5_shadeOf_9 rfl l_X5_39 (c_X5_scattered hS hm d hd z hz hz8) rfl rfl (cl_2 hS) (by decide) rfl rfl rfl rfl ?_
  refine y_csI (q := 15) dX5_shadeOf_12 rfl l_X5_42 (c_X9_shadeOfSums hS _ _) rfl rfl rfl rfl rfl rfl ?_
  exact x_iret dX5_shadeOf_15 ⟨_, rfl, by first | rfl | (split <;> rfl)⟩ rfl (Nat.le_refl _) rfl ⟨rfl, rfl⟩

set_option maxHeartbeats 4000000 in
set_option maxRecDepth 100000 in
theorem c_X5_add_full {h : HF} (hS : Sh h) (x y : Int32) (hz : fI h 2 2 = nI 8) : Mc mX5_add [.ref 2, .int x, .int y] 170 h (RI (-6) h) := by
  refine Mc.of (by decide) rfl (Nat.le_of_ble_eq_true rfl) ?_
  refine x_aload_n (q := 1) dX5_add_0 rfl rfl rfl ?_
  refine x_get (q := 4) dX5_add_1 rfl f_X5_18 (cl_2 hS) rfl (by decide) ?_
  rw [hz]
  refine x_bipush (q := 6) (v := 8) dX5_add_4 rfl (by decide) ?_
  refine x_ic_lt (q := 9) (t := 12) dX5_add_6 rfl (by decide) (fun c_ => absurd c_ (by decide)) (fun _ => ?_)
  refine x_bipush (q := 11) (v := -6) dX5_add_9 rfl (by decide) ?_
  exact x_iret dX5_add_11 ⟨_, rfl, by first | rfl | (split <;> rfl)⟩ rfl (Nat.le_refl _) rfl ⟨rfl, rfl⟩

set_option maxHeartbeats 4000000 in
set_option maxRecDepth 100000 in
theorem c_X5_add {h : HF} (hS : Sh h) (x y : Int32) (z : Nat) (hz : fI h 2 2 = nI z) (hlt : z < 8) : Mc mX5_add [.ref 2, .int x, .int y] 170 h (RI (nI z) (sI (tellF (tellF (tellF h (z * 3 + 0) x y) (z * 3 + 1) x y) (z * 3 + 2) x y) 2 2 (nI (z + 1)))) := by
  refine Mc.of (by decide) rfl (Nat.le_of_ble_eq_true rfl) ?_
  refine x_aload_n (q := 1) dX5_add_0 rfl rfl rfl ?_
  refine x_get (q := 4) dX5_add_1 rfl f_X5_18 (cl_2 hS) rfl (by decide) ?_
  rw [hz]
  refine x_bipush (q := 6) (v := 8) dX5_add_4 rfl (by decide) ?_
  refine x_ic_lt (q := 9) (t := 12) dX5_add_6 rfl (by decide) (fun _ => ?_) (fun c_ => absurd (show nI z < nI 8 from nI_lt hlt (by decide)) c_)
  refine x_iconst (q := 13) (v := 0) dX5_add_12 rfl (by decide) ?_
  refine x_istore_n (q := 14) dX5_add_13 rfl rfl (by decide) ?_
  refine x_iload_n (q := 15) dX5_add_14 rfl rfl rfl ?_
  refine x_iconst (q := 16) (v := 3) dX5_add_15 rfl (by decide) ?_
  refine x_ic_ge (q := 19) (t := 36) dX5_add_16 rfl (by decide) (fun c_ => absurd c_ (by decide)) (fun _ => ?_)
  refine x_aload_n (q := 20) dX5_add_19 rfl rfl rfl ?_
  refine x_aload_n (q := 21) dX5_add_20 rfl rfl rfl ?_
  refine x_get (q := 24) dX5_add_21 rfl f_X5_18 (cl_2 hS) rfl (by decide) ?_
  rw [hz]
  refine x_iload_n (q := 25) dX5_add_24 rfl rfl rfl ?_
  refine x_iload_n (q := 26) dX5_add_25 rfl rfl rfl ?_
  refine x_iload_n (q := 27) dX5_add_26 rfl rfl rfl ?_
  refine y_cvV (q := 30) dX5_add_27 rfl l_X5_22 (c_X5_tell hS z 0 _ _ hlt (by decide)) rfl rfl (cl_2 hS) (by decide) rfl rfl rfl rfl ?_
  refine Vg.nm (fun h1 eh1 => ?_)
  have hS1 : Sh h1 := by rw [eh1]; exact hS.tell _ _ _
  have hc1_2_2 : fI h1 2 2 = nI (z) := by rw [eh1]; first | (simp only [tellF, fI_si, fI_sl, fI_sJ]; exact hz) | (rw [fI_sI_ne (by omega)]; exact hz) | (rw [fI_sI_k (by decide)]; exact hz) | (simp (disch := omega) only [mixAdd, fI_si, fI_sl, fI_sJ, fI_sI_ne, fI_sI_k]; exact hz)
  refine x_iinc (q := 33) (v := 1) dX5_add_30 rfl rfl (by decide) (by decide) ?_
  refine x_goto (q := 14) dX5_add_33 (by decide) ?_
  refine x_iload_n (q := 15) dX5_add_14 rfl rfl rfl ?_
  refine x_iconst (q := 16) (v := 3) dX5_add_15 rfl (by decide) ?_
  refine x_ic_ge (q := 19) (t := 36) dX5_add_16 rfl (by decide) (fun c_ => absurd c_ (by decide)) (fun _ => ?_)
  refine x_aload_n (q := 20) dX5_add_19 rfl rfl rfl ?_
  refine x_aload_n (q := 21) dX5_add_20 rfl rfl rfl ?_
  refine x_get (q := 24) dX5_add_21 rfl f_X5_18 (cl_2 hS1) rfl (by decide) ?_
  rw [hc1_2_2]
  refine x_iload_n (q := 25) dX5_add_24 rfl rfl rfl ?_
  refine x_iload_n (q := 26) dX5_add_25 rfl rfl rfl ?_
  refine x_iload_n (q := 27) dX5_add_26 rfl rfl rfl ?_
  refine y_cvV (q := 30) dX5_add_27 rfl l_X5_22 (c_X5_tell hS1 z 1 _ _ hlt (by decide)) rfl rfl (cl_2 hS1) (by decide) rfl rfl rfl rfl ?_
  refine Vg.nm (fun h2 eh2 => ?_)
  have hS2 : Sh h2 := by rw [eh2]; exact hS1.tell _ _ _
  have hc2_2_2 : fI h2 2 2 = nI (z) := by rw [eh2]; first | (simp only [tellF, fI_si, fI_sl, fI_sJ]; exact hc1_2_2) | (rw [fI_sI_ne (by omega)]; exact hc1_2_2) | (rw [fI_sI_k (by decide)]; exact hc1_2_2) | (simp (disch := omega) only [mixAdd, fI_si, fI_sl, fI_sJ, fI_sI_ne, fI_sI_k]; exact hc1_2_2)
  refine x_iinc (q := 33) (v := 2) dX5_add_30 rfl rfl (by decide) (by decide) ?_
  refine x_goto (q := 14) dX5_add_33 (by decide) ?_
  refine x_iload_n (q := 15) dX5_add_14 rfl rfl rfl ?_
  refine x_iconst (q := 16) (v := 3) dX5_add_15 rfl (by decide) ?_
  refine x_ic_ge (q := 19) (t := 36) dX5_add_16 rfl (by decide) (fun c_ => absurd c_ (by decide)) (fun _ => ?_)
  refine x_aload_n (q := 20) dX5_add_19 rfl rfl rfl ?_
  refine x_aload_n (q := 21) dX5_add_20 rfl rfl rfl ?_
  refine x_get (q := 24) dX5_add_21 rfl f_X5_18 (cl_2 hS2) rfl (by decide) ?_
  rw [hc2_2_2]
  refine x_iload_n (q := 25) dX5_add_24 rfl rfl rfl ?_
  refine x_iload_n (q := 26) dX5_add_25 rfl rfl rfl ?_
  refine x_iload_n (q := 27) dX5_add_26 rfl rfl rfl ?_
  refine y_cvV (q := 30) dX5_add_27 rfl l_X5_22 (c_X5_tell hS2 z 2 _ _ hlt (by decide)) rfl rfl (cl_2 hS2) (by decide) rfl rfl rfl rfl ?_
  refine Vg.nm (fun h3 eh3 => ?_)
  have hS3 : Sh h3 := by rw [eh3]; exact hS2.tell _ _ _
  have hc3_2_2 : fI h3 2 2 = nI (z) := by rw [eh3]; first | (simp only [tellF, fI_si, fI_sl, fI_sJ]; exact hc2_2_2) | (rw [fI_sI_ne (by omega)]; exact hc2_2_2) | (rw [fI_sI_k (by decide)]; exact hc2_2_2) | (simp (disch := omega) only [mixAdd, fI_si, fI_sl, fI_sJ, fI_sI_ne, fI_sI_k]; exact hc2_2_2)
  refine x_iinc (q := 33) (v := 3) dX5_add_30 rfl rfl (by decide) (by decide) ?_
  refine x_goto (q := 14) dX5_add_33 (by decide) ?_
  refine x_iload_n (q := 15) dX5_add_14 rfl rfl rfl ?_
  refine x_iconst (q := 16) (v := 3) dX5_add_15 rfl (by decide) ?_
  refine x_ic_ge (q := 19) (t := 36) dX5_add_16 rfl (by decide) (fun _ => ?_) (fun c_ => absurd (by decide) c_)
  refine x_aload_n (q := 37) dX5_add_36 rfl rfl rfl ?_
  refine x_dup (q := 38) dX5_add_37 rfl rfl ?_
  refine x_get (q := 41) dX5_add_38 rfl f_X5_18 (cl_2 hS3) rfl (by decide) ?_
  rw [hc3_2_2]
  refine x_iconst (q := 42) (v := 1) dX5_add_41 rfl (by decide) ?_
  refine x_iadd (q := 43) dX5_add_42 rfl ?_
  rw [nI_1 (z)]
  refine y_put (q := 46) dX5_add_43 rfl f_X5_18 (cl_2 hS3) rfl (by first | rfl | decide) (by first | rfl | decide) (by decide) ?_
  refine Vg.nm (fun h4 eh4 => ?_)
  have hS4 : Sh h4 := by rw [eh4]; exact hS3.sI _ _ _
  have hc4_2_2 : fI h4 2 2 = nI (z + 1) := by rw [eh4]; exact fI_sI_eq hS3 (by decide) (by decide) rfl _
  refine x_aload_n (q := 47) dX5_add_46 rfl rfl rfl ?_
  refine x_get (q := 50) dX5_add_47 rfl f_X5_18 (cl_2 hS4) rfl (by decide) ?_
  rw [hc4_2_2]
  refine x_iconst (q := 51) (v := 1) dX5_add_50 rfl (by decide) ?_
  refine x_isub (q := 52) dX5_add_51 rfl ?_
  rw [nI_pred (z)]
  exact x_iret dX5_add_52 ⟨_, rfl, by first | rfl | (split <;> rfl)⟩ rfl (Nat.le_refl _) rfl ⟨rfl, by subst_vars; first | rfl | (simp (disch := decide) only [gi_si_ne, gi_sI, gi_sJ, gi_sl, gl_sl_ne, gl_si, gl_sI, gl_sJ, fI_si, fI_sl, fI_sJ, fI_sI_ne, fI_sI_k, fJ_si, fJ_sl, fJ_sI, fJ_sJ_ne]; done) | (simp (disch := decide) only [gi_si_ne, gi_sI, gi_sJ, gi_sl, gl_sl_ne, gl_si, gl_sI, gl_sJ, fI_si, fI_sl, fI_sJ, fI_sI_ne, fI_sI_k, fJ_si, fJ_sl, fJ_sI, fJ_sJ_ne]; rfl)⟩

set_option maxHeartbeats 4000000 in
set_option maxRecDepth 100000 in
theorem c_X7_add_full {h : HF} (hS : Sh h) (b u l : Int32) (hz : fI h 5 3 = nI 40) : Mc mX7_add [.ref 5, .int b, .int u, .int l] 170 h (RI (-6) h) := by
  refine Mc.of (by decide) rfl (Nat.le_of_ble_eq_true rfl) ?_
  refine x_aload_n (q := 1) dX7_add_0 rfl rfl rfl ?_
  refine x_get (q := 4) dX7_add_1 rfl f_X7_21 (cl_5 hS) rfl (by decide) ?_
  rw [hz]
  refine x_bipush (q := 6) (v := 40) dX7_add_4 rfl (by decide) ?_
  refine x_ic_lt (q := 9) (t := 12) dX7_add_6 rfl (by decide) (fun c_ => absurd c_ (by decide)) (fun _ => ?_)
  refine x_bipush (q := 11) (v := -6) dX7_add_9 rfl (by decide) ?_
  exact x_iret dX7_add_11 ⟨_, rfl, by first | rfl | (split <;> rfl)⟩ rfl (Nat.le_refl _) rfl ⟨rfl, rfl⟩

set_option maxHeartbeats 4000000 in
set_option maxRecDepth 100000 in
theorem c_X7_add {h : HF} (hS : Sh h) (b u l : Int32) (z : Nat) (hz : fI h 5 3 = nI z) (hlt : z < 40) : Mc mX7_add [.ref 5, .int b, .int u, .int l] 170 h (RI (nI z) (sI (si (si (si h 6 (upd (gi h 6) z b)) 7 (upd (gi h 7) z u)) 8 (upd (gi h 8) z l)) 5 3 (nI (z + 1)))) := by
  refine Mc.of (by decide) rfl (Nat.le_of_ble_eq_true rfl) ?_
  refine x_aload_n (q := 1) dX7_add_0 rfl rfl rfl ?_
  refine x_get (q := 4) dX7_add_1 rfl f_X7_21 (cl_5 hS) rfl (by decide) ?_
  rw [hz]
  refine x_bipush (q := 6) (v := 40) dX7_add_4 rfl (by decide) ?_
  refine x_ic_lt (q := 9) (t := 12) dX7_add_6 rfl (by decide) (fun _ => ?_) (fun c_ => absurd (show nI z < nI 40 from nI_lt hlt (by decide)) c_)
  refine x_aload_n (q := 13) dX7_add_12 rfl rfl rfl ?_
  refine x_get (q := 16) dX7_add_13 rfl f_X7_9 (cl_5 hS) rfl (by decide) ?_
  refine x_aload_n (q := 17) dX7_add_16 rfl rfl rfl ?_
  refine x_get (q := 20) dX7_add_17 rfl f_X7_21 (cl_5 hS) rfl (by decide) ?_
  rw [hz]
  refine x_iload_n (q := 21) dX7_add_20 rfl rfl rfl ?_
  refine z_iast (q := 22) (j := z) dX7_add_21 rfl (cl_6 hS) (by omega) (by decide) (by decide) ?_
  refine Vg.nm (fun h1 eh1 => ?_)
  have hS1 : Sh h1 := by rw [eh1]; exact hS.si _ _
  have hc1_5_3 : fI h1 5 3 = nI (z) := by rw [eh1]; first | (simp only [fI_si, fI_sl, fI_sJ]; exact hz) | (rw [fI_sI_ne (by omega)]; exact hz) | (rw [fI_sI_k (by decide)]; exact hz) | (simp (disch := omega) only [mixAdd, fI_si, fI_sl, fI_sJ, fI_sI_ne, fI_sI_k]; exact hz)
  refine x_aload_n (q := 23) dX7_add_22 rfl rfl rfl ?_
  refine x_get (q := 26) dX7_add_23 rfl f_X7_15 (cl_5 hS1) rfl (by decide) ?_
  refine x_aload_n (q := 27) dX7_add_26 rfl rfl rfl ?_
  refine x_get (q := 30) dX7_add_27 rfl f_X7_21 (cl_5 hS1) rfl (by decide) ?_
  rw [hc1_5_3]
  refine x_iload_n (q := 31) dX7_add_30 rfl rfl rfl ?_
  refine z_iast (q := 32) (j := z) dX7_add_31 rfl (cl_7 hS1) (by omega) (by decide) (by decide) ?_
  refine Vg.nm (fun h2 eh2 => ?_)
  have hS2 : Sh h2 := by rw [eh2]; exact hS1.si _ _
  have hc2_5_3 : fI h2 5 3 = nI (z) := by rw [eh2]; first | (simp only [fI_si, fI_sl, fI_sJ]; exact hc1_5_3) | (rw [fI_sI_ne (by omega)]; exact hc1_5_3) | (rw [fI_sI_k (by decide)]; exact hc1_5_3) | (simp (disch := omega) only [mixAdd, fI_si, fI_sl, fI_sJ, fI_sI_ne, fI_sI_k]; exact hc1_5_3)
  refine x_aload_n (q := 33) dX7_add_32 rfl rfl rfl ?_
  refine x_get (q := 36) dX7_add_33 rfl f_X7_18 (cl_5 hS2) rfl (by decide) ?_
  refine x_aload_n (q := 37) dX7_add_36 rfl rfl rfl ?_
  refine x_get (q := 40) dX7_add_37 rfl f_X7_21 (cl_5 hS2) rfl (by decide) ?_
  rw [hc2_5_3]
  refine x_iload_n (q := 41) dX7_add_40 rfl rfl rfl ?_
  refine z_iast (q := 42) (j := z) dX7_add_41 rfl (cl_8 hS2) (by omega) (by decide) (by decide) ?_
  refine Vg.nm (fun h3 eh3 => ?_)
  have hS3 : Sh h3 := by rw [eh3]; exact hS2.si _ _
  have hc3_5_3 : fI h3 5 3 = nI (z) := by rw [eh3]; first | (simp only [fI_si, fI_sl, fI_sJ]; exact hc2_5_3) | (rw [fI_sI_ne (by omega)]; exact hc2_5_3) | (rw [fI_sI_k (by decide)]; exact hc2_5_3) | (simp (disch := omega) only [mixAdd, fI_si, fI_sl, fI_sJ, fI_sI_ne, fI_sI_k]; exact hc2_5_3)
  refine x_aload_n (q := 43) dX7_add_42 rfl rfl rfl ?_
  refine x_dup (q := 44) dX7_add_43 rfl rfl ?_
  refine x_get (q := 47) dX7_add_44 rfl f_X7_21 (cl_5 hS3) rfl (by decide) ?_
  rw [hc3_5_3]
  refine x_iconst (q := 48) (v := 1) dX7_add_47 rfl (by decide) ?_
  refine x_iadd (q := 49) dX7_add_48 rfl ?_
  rw [nI_1 (z)]
  refine y_put (q := 52) dX7_add_49 rfl f_X7_21 (cl_5 hS3) rfl (by first | rfl | decide) (by first | rfl | decide) (by decide) ?_
  refine Vg.nm (fun h4 eh4 => ?_)
  have hS4 : Sh h4 := by rw [eh4]; exact hS3.sI _ _ _
  have hc4_5_3 : fI h4 5 3 = nI (z + 1) := by rw [eh4]; exact fI_sI_eq hS3 (by decide) (by decide) rfl _
  refine x_aload_n (q := 53) dX7_add_52 rfl rfl rfl ?_
  refine x_get (q := 56) dX7_add_53 rfl f_X7_21 (cl_5 hS4) rfl (by decide) ?_
  rw [hc4_5_3]
  refine x_iconst (q := 57) (v := 1) dX7_add_56 rfl (by decide) ?_
  refine x_isub (q := 58) dX7_add_57 rfl ?_
  rw [nI_pred (z)]
  exact x_iret dX7_add_58 ⟨_, rfl, by first | rfl | (split <;> rfl)⟩ rfl (Nat.le_refl _) rfl ⟨rfl, by subst_vars; first | rfl | (simp (disch := decide) only [gi_si_ne, gi_sI, gi_sJ, gi_sl, gl_sl_ne, gl_si, gl_sI, gl_sJ, fI_si, fI_sl, fI_sJ, fI_sI_ne, fI_sI_k, fJ_si, fJ_sl, fJ_sI, fJ_sJ_ne]; done) | (simp (disch := decide) only [gi_si_ne, gi_sI, gi_sJ, gi_sl, gl_sl_ne, gl_si, gl_sI, gl_sJ, fI_si, fI_sl, fI_sJ, fI_sI_ne, fI_sI_k, fJ_si, fJ_sl, fJ_sI, fJ_sJ_ne]; rfl)⟩

set_option maxHeartbeats 4000000 in
set_option maxRecDepth 100000 in
theorem c_X1_add_full {h : HF} (hS : Sh h)  (hz : fI h 9 6 = nI 12) : Mc mX1_add [.ref 9] 170 h (RI (-6) h) := by
  refine Mc.of (by decide) rfl (Nat.le_of_ble_eq_true rfl) ?_
  refine x_aload_n (q := 1) dX1_add_0 rfl rfl rfl ?_
  refine x_get (q := 4) dX1_add_1 rfl f_X1_31 (cl_9 hS) rfl (by decide) ?_
  rw [hz]
  refine x_bipush (q := 6) (v := 12) dX1_add_4 rfl (by decide) ?_
  refine x_ic_lt (q := 9) (t := 12) dX1_add_6 rfl (by decide) (fun c_ => absurd c_ (by decide)) (fun _ => ?_)
  refine x_bipush (q := 11) (v := -6) dX1_add_9 rfl (by decide) ?_
  exact x_iret dX1_add_11 ⟨_, rfl, by first | rfl | (split <;> rfl)⟩ rfl (Nat.le_refl _) rfl ⟨rfl, rfl⟩

set_option maxHeartbeats 4000000 in
set_option maxRecDepth 100000 in
theorem c_X1_add {h : HF} (hS : Sh h)  (z : Nat) (hz : fI h 9 6 = nI z) (hlt : z < 12) : Mc mX1_add [.ref 9] 170 h (RI (nI z) (sI h 9 6 (nI (z + 1)))) := by
  refine Mc.of (by decide) rfl (Nat.le_of_ble_eq_true rfl) ?_
  refine x_aload_n (q := 1) dX1_add_0 rfl rfl rfl ?_
  refine x_get (q := 4) dX1_add_1 rfl f_X1_31 (cl_9 hS) rfl (by decide) ?_
  rw [hz]
  refine x_bipush (q := 6) (v := 12) dX1_add_4 rfl (by decide) ?_
  refine x_ic_lt (q := 9) (t := 12) dX1_add_6 rfl (by decide) (fun _ => ?_) (fun c_ => absurd (show nI z < nI 12 from nI_lt hlt (by decide)) c_)
  refine x_aload_n (q := 13) dX1_add_12 rfl rfl rfl ?_
  refine x_dup (q := 14) dX1_add_13 rfl rfl ?_
  refine x_get (q := 17) dX1_add_14 rfl f_X1_31 (cl_9 hS) rfl (by decide) ?_
  rw [hz]
  refine x_iconst (q := 18) (v := 1) dX1_add_17 rfl (by decide) ?_
  refine x_iadd (q := 19) dX1_add_18 rfl ?_
  rw [nI_1 (z)]
  refine y_put (q := 22) dX1_add_19 rfl f_X1_31 (cl_9 hS) rfl (by first | rfl | decide) (by first | rfl | decide) (by decide) ?_
  refine Vg.nm (fun h1 eh1 => ?_)
  have hS1 : Sh h1 := by rw [eh1]; exact hS.sI _ _ _
  have hc1_9_6 : fI h1 9 6 = nI (z + 1) := by rw [eh1]; exact fI_sI_eq hS (by decide) (by decide) rfl _
  refine x_aload_n (q := 23) dX1_add_22 rfl rfl rfl ?_
  refine x_get (q := 26) dX1_add_23 rfl f_X1_31 (cl_9 hS1) rfl (by decide) ?_
  rw [hc1_9_6]
  refine x_iconst (q := 27) (v := 1) dX1_add_26 rfl (by decide) ?_
  refine x_isub (q := 28) dX1_add_27 rfl ?_
  rw [nI_pred (z)]
  exact x_iret dX1_add_28 ⟨_, rfl, by first | rfl | (split <;> rfl)⟩ rfl (Nat.le_refl _) rfl ⟨rfl, by subst_vars; first | rfl | (simp (disch := decide) only [gi_si_ne, gi_sI, gi_sJ, gi_sl, gl_sl_ne, gl_si, gl_sI, gl_sJ, fI_si, fI_sl, fI_sJ, fI_sI_ne, fI_sI_k, fJ_si, fJ_sl, fJ_sI, fJ_sJ_ne]; done) | (simp (disch := decide) only [gi_si_ne, gi_sI, gi_sJ, gi_sl, gl_sl_ne, gl_si, gl_sI, gl_sJ, fI_si, fI_sl, fI_sJ, fI_sI_ne, fI_sI_k, fJ_si, fJ_sl, fJ_sI, fJ_sJ_ne]; rfl)⟩

abbrev us (B L S : Nat → Int32) (day b : Int32) (l : Nat) : Prop := B l = b ∧ day ≤ L l ∧ 0 < S l
def sU (B L S : Nat → Int32) (day b : Int32) : Nat → Int32
  | 0 => 0
  | n + 1 => if us B L S day b n then sU B L S day b n + S n else sU B L S day b n
theorem sU_t {B L S : Nat → Int32} {day b : Int32} {n : Nat} (e : us B L S day b n) : sU B L S day b (n + 1) = sU B L S day b n + S n := if_pos e
theorem sU_f {B L S : Nat → Int32} {day b : Int32} {n : Nat} (e : ¬ us B L S day b n) : sU B L S day b (n + 1) = sU B L S day b n := if_neg e
def oI (o : Option Nat) : Int32 := match o with
  | none => -1
  | some m => nI m
def nxo (B L S : Nat → Int32) (day b : Int32) : Nat → Option Nat
  | 0 => none
  | n + 1 => match nxo B L S day b n with
    | none => if us B L S day b n then some n else none
    | some m => if us B L S day b n ∧ L n < L m then some n else some m
theorem nxo_lt {B L S : Nat → Int32} {day b : Int32} : ∀ {n m : Nat}, nxo B L S day b n = some m → m < n ∧ us B L S day b m
  | 0, m, e => by cases e
  | n + 1, m, e => by
    simp only [nxo] at e
    cases hn : nxo B L S day b n with
    | none =>
      rw [hn] at e
      by_cases hu : us B L S day b n
      · simp only [if_pos hu] at e; cases e; exact ⟨Nat.lt_succ_self _, hu⟩
      · simp only [if_neg hu] at e; cases e
    | some k =>
      rw [hn] at e
      have ih := nxo_lt hn
      by_cases hu : us B L S day b n ∧ L n < L k
      · simp only [if_pos hu] at e; cases e; exact ⟨Nat.lt_succ_self _, hu.1⟩
      · simp only [if_neg hu] at e; cases e; exact ⟨by omega, ih.2⟩
theorem nxo_sf {B L S : Nat → Int32} {day b : Int32} {n m : Nat} (hn : nxo B L S day b n = some m) (e : ¬ (us B L S day b n ∧ L n < L m)) : nxo B L S day b (n + 1) = some m := by simp only [nxo, hn, if_neg e]
theorem nxo_st {B L S : Nat → Int32} {day b : Int32} {n m : Nat} (hn : nxo B L S day b n = some m) (e : us B L S day b n ∧ L n < L m) : nxo B L S day b (n + 1) = some n := by simp only [nxo, hn, if_pos e]
theorem nI_m1 {m : Nat} (hm : m < 2147483648) : ¬ nI m = -1 := by
  intro e
  have := congrArg Int32.toInt e
  rw [nI_toInt hm] at this
  have h2 : (-1 : Int32).toInt = -1 := rfl
  omega
set_option maxHeartbeats 4000000 in
set_option maxRecDepth 100000 in
theorem c_X7_isUsable {h : HF} (hS : Sh h) (l : Nat) (b : Int32) (hl : l < 40) : Mc mX7_isUsable [.ref 5, .int (nI l), .int b] 170 h (RI (if us (gi h 6) (gi h 8) (gi h 7) (fI h 5 4) b l then 1 else 0) h) := by
  refine Mc.of (by decide) rfl (Nat.le_of_ble_eq_true rfl) ?_
  refine x_aload_n (q := 1) dX7_isUsable_0 rfl rfl rfl ?_
  refine x_get (q := 4) dX7_isUsable_1 rfl f_X7_9 (cl_5 hS) rfl (by decide) ?_
  refine x_iload_n (q := 5) dX7_isUsable_4 rfl rfl rfl ?_
  refine z_iald (q := 6) (j := l) dX7_isUsable_5 rfl (cl_6 hS) (by omega) (by decide) (by decide) ?_
  refine x_iload_n (q := 7) dX7_isUsable_6 rfl rfl rfl ?_
  refine x_ic_ne (q := 10) (t := 36) dX7_isUsable_7 rfl (by decide) (fun c_7 => ?_) (fun c_7 => ?_)
  · refine x_iconst (q := 37) (v := 0) dX7_isUsable_36 rfl (by decide) ?_
    exact x_iret dX7_isUsable_37 ⟨_, rfl, by first | rfl | (split <;> rfl)⟩ rfl (Nat.le_refl _) rfl ⟨by first | (rw [if_pos ⟨c_7, Int32.not_lt.mp c_20, Int32.not_le.mp c_29⟩]; done) | (rw [if_neg (fun z => c_7 z.1)]; done) | (rw [if_neg (fun z => Int32.not_lt.mpr z.2.1 c_20)]; done) | (rw [if_neg (fun z => Int32.not_le.mpr z.2.2 c_29)]; done), rfl⟩
  · refine x_aload_n (q := 11) dX7_isUsable_10 rfl rfl rfl ?_
    refine x_get (q := 14) dX7_isUsable_11 rfl f_X7_18 (cl_5 hS) rfl (by decide) ?_
    refine x_iload_n (q := 15) dX7_isUsable_14 rfl rfl rfl ?_
    refine z_iald (q := 16) (j := l) dX7_isUsable_15 rfl (cl_8 hS) (by omega) (by decide) (by decide) ?_
    refine x_aload_n (q := 17) dX7_isUsable_16 rfl rfl rfl ?_
    refine x_get (q := 20) dX7_isUsable_17 rfl f_X7_25 (cl_5 hS) rfl (by decide) ?_
    refine x_ic_lt (q := 23) (t := 36) dX7_isUsable_20 rfl (by decide) (fun c_20 => ?_) (fun c_20 => ?_)
    · refine x_iconst (q := 37) (v := 0) dX7_isUsable_36 rfl (by decide) ?_
      exact x_iret dX7_isUsable_37 ⟨_, rfl, by first | rfl | (split <;> rfl)⟩ rfl (Nat.le_refl _) rfl ⟨by first | (rw [if_pos ⟨c_7, Int32.not_lt.mp c_20, Int32.not_le.mp c_29⟩]; done) | (rw [if_neg (fun z => c_7 z.1)]; done) | (rw [if_neg (fun z => Int32.not_lt.mpr z.2.1 c_20)]; done) | (rw [if_neg (fun z => Int32.not_le.mpr z.2.2 c_29)]; done), rfl⟩
    · refine x_aload_n (q := 24) dX7_isUsable_23 rfl rfl rfl ?_
      refine x_get (q := 27) dX7_isUsable_24 rfl f_X7_15 (cl_5 hS) rfl (by decide) ?_
      refine x_iload_n (q := 28) dX7_isUsable_27 rfl rfl rfl ?_
      refine z_iald (q := 29) (j := l) dX7_isUsable_28 rfl (cl_7 hS) (by omega) (by decide) (by decide) ?_
      refine x_if_le (q := 32) (t := 36) dX7_isUsable_29 rfl (by decide) (fun c_29 => ?_) (fun c_29 => ?_)
      · refine x_iconst (q := 37) (v := 0) dX7_isUsable_36 rfl (by decide) ?_
        exact x_iret dX7_isUsable_37 ⟨_, rfl, by first | rfl | (split <;> rfl)⟩ rfl (Nat.le_refl _) rfl ⟨by first | (rw [if_pos ⟨c_7, Int32.not_lt.mp c_20, Int32.not_le.mp c_29⟩]; done) | (rw [if_neg (fun z => c_7 z.1)]; done) | (rw [if_neg (fun z => Int32.not_lt.mpr z.2.1 c_20)]; done) | (rw [if_neg (fun z => Int32.not_le.mpr z.2.2 c_29)]; done), rfl⟩
      · refine x_iconst (q := 33) (v := 1) dX7_isUsable_32 rfl (by decide) ?_
        refine x_goto (q := 37) dX7_isUsable_33 (by decide) ?_
        exact x_iret dX7_isUsable_37 ⟨_, rfl, by first | rfl | (split <;> rfl)⟩ rfl (Nat.le_refl _) rfl ⟨by first | (rw [if_pos ⟨c_7, Int32.not_lt.mp c_20, Int32.not_le.mp c_29⟩]; done) | (rw [if_neg (fun z => c_7 z.1)]; done) | (rw [if_neg (fun z => Int32.not_lt.mpr z.2.1 c_20)]; done) | (rw [if_neg (fun z => Int32.not_le.mpr z.2.2 c_29)]; done), rfl⟩

set_option maxHeartbeats 4000000 in
set_option maxRecDepth 100000 in
theorem lp_X7_usableOf {h : HF} (hS : Sh h) (b : Int32) (z : Nat) (hz : fI h 5 3 = nI z) (hz40 : z ≤ 40) : ∀ (k i : Nat), i + k = z → Vg mX7_usableOf none (QM mX7_usableOf 170 (RI (sU (gi h 6) (gi h 8) (gi h 7) (fI h 5 4) b z) h)) 4 [some (.ref 5), some (.int b), some (.int (sU (gi h 6) (gi h 8) (gi h 7) (fI h 5 4) b i)), some (.int (nI i))] [] 170 h 0 0 := by
  intro k
  induction k with
  | zero =>
    intro i hi
    obtain rfl : i = z := by omega
    refine x_iload_n (q := 5) dX7_usableOf_4 rfl rfl rfl ?_
    refine x_aload_n (q := 6) dX7_usableOf_5 rfl rfl rfl ?_
    refine x_get (q := 9) dX7_usableOf_6 rfl f_X7_21 (cl_5 hS) rfl (by decide) ?_
    rw [hz]
    refine x_ic_ge (q := 12) (t := 36) dX7_usableOf_9 rfl (by decide) (fun _ => ?_) (fun c_ => absurd (nI_le (Nat.le_refl _) (by omega)) c_)
    refine x_iload_n (q := 37) dX7_usableOf_36 rfl rfl rfl ?_
    exact x_iret dX7_usableOf_37 ⟨_, rfl, by first | rfl | (split <;> rfl)⟩ rfl (Nat.le_refl _) rfl ⟨rfl, rfl⟩
  | succ k ih =>
    intro i hi
    refine x_iload_n (q := 5) dX7_usableOf_4 rfl rfl rfl ?_
    refine x_aload_n (q := 6) dX7_usableOf_5 rfl rfl rfl ?_
    refine x_get (q := 9) dX7_usableOf_6 rfl f_X7_21 (cl_5 hS) rfl (by decide) ?_
    rw [hz]
    refine x_ic_ge (q := 12) (t := 36) dX7_usableOf_9 rfl (by decide) (fun c_ => absurd c_ (nI_ge (by omega) (by omega))) (fun _ => ?_)
    refine x_aload_n (q := 13) dX7_usableOf_12 rfl rfl rfl ?_
    refine x_iload_n (q := 14) dX7_usableOf_13 rfl rfl rfl ?_
    refine x_iload_n (q := 15) dX7_usableOf_14 rfl rfl rfl ?_
    refine y_cvI (q := 18) dX7_usableOf_15 rfl l_X7_28 (c_X7_isUsable hS i _ (by omega)) rfl rfl (cl_5 hS) (by decide) rfl rfl rfl rfl ?_
    refine x_if_eq (q := 21) (t := 30) dX7_usableOf_18 rfl (by decide) (fun c_18 => ?_) (fun c_18 => ?_)
    · refine x_iinc (q := 33) (v := nI (i + 1)) dX7_usableOf_30 rfl rfl (nI_inc _) (by decide) ?_
      refine x_goto (q := 4) dX7_usableOf_33 (by decide) ?_
      have t9 := ih (i + 1) (by omega)
      first | (rw [sU_f (ifn c_18)] at t9; exact t9) | (rw [sU_t (ify c_18)] at t9; exact t9)
    · refine x_iload_n (q := 22) dX7_usableOf_21 rfl rfl rfl ?_
      refine x_aload_n (q := 23) dX7_usableOf_22 rfl rfl rfl ?_
      refine x_get (q := 26) dX7_usableOf_23 rfl f_X7_15 (cl_5 hS) rfl (by decide) ?_
      refine x_iload_n (q := 27) dX7_usableOf_26 rfl rfl rfl ?_
      refine z_iald (q := 28) (j := i) dX7_usableOf_27 rfl (cl_7 hS) (by omega) (by decide) (by decide) ?_
      refine x_iadd (q := 29) dX7_usableOf_28 rfl ?_
      refine x_istore_n (q := 30) dX7_usableOf_29 rfl rfl (by decide) ?_
      refine x_iinc (q := 33) (v := nI (i + 1)) dX7_usableOf_30 rfl rfl (nI_inc _) (by decide) ?_
      refine x_goto (q := 4) dX7_usableOf_33 (by decide) ?_
      have t9 := ih (i + 1) (by omega)
      first | (rw [sU_f (ifn c_18)] at t9; exact t9) | (rw [sU_t (ify c_18)] at t9; exact t9)

set_option maxHeartbeats 4000000 in
set_option maxRecDepth 100000 in
theorem c_X7_usableOf {h : HF} (hS : Sh h) (b : Int32) (z : Nat) (hz : fI h 5 3 = nI z) (hz40 : z ≤ 40) : Mc mX7_usableOf [.ref 5, .int b] 170 h (RI (sU (gi h 6) (gi h 8) (gi h 7) (fI h 5 4) b z) h) := by
  refine Mc.of (by decide) rfl (Nat.le_of_ble_eq_true rfl) ?_
  refine x_iconst (q := 1) (v := 0) dX7_usableOf_0 rfl (by decide) ?_
  refine x_istore_n (q := 2) dX7_usableOf_1 rfl rfl (by decide) ?_
  refine x_iconst (q := 3) (v := 0) dX7_usableOf_2 rfl (by decide) ?_
  refine x_istore_n (q := 4) dX7_usableOf_3 rfl rfl (by decide) ?_
  exact lp_X7_usableOf hS b z hz hz40 z 0 (by omega)

set_option maxHeartbeats 4000000 in
set_option maxRecDepth 100000 in
theorem lp_X7_nextToEnd {h : HF} (hS : Sh h) (b : Int32) (z : Nat) (hz : fI h 5 3 = nI z) (hz40 : z ≤ 40) : ∀ (k i : Nat), i + k = z → Vg mX7_nextToEnd none (QM mX7_nextToEnd 170 (RI (oI (nxo (gi h 6) (gi h 8) (gi h 7) (fI h 5 4) b z)) h)) 4 [some (.ref 5), some (.int b), some (.int (oI (nxo (gi h 6) (gi h 8) (gi h 7) (fI h 5 4) b i))), some (.int (nI i))] [] 170 h 0 0 := by
  intro k
  induction k with
  | zero =>
    intro i hi
    obtain rfl : i = z := by omega
    refine x_iload_n (q := 5) dX7_nextToEnd_4 rfl rfl rfl ?_
    refine x_aload_n (q := 6) dX7_nextToEnd_5 rfl rfl rfl ?_
    refine x_get (q := 9) dX7_nextToEnd_6 rfl f_X7_21 (cl_5 hS) rfl (by decide) ?_
    rw [hz]
    refine x_ic_ge (q := 12) (t := 49) dX7_nextToEnd_9 rfl (by decide) (fun _ => ?_) (fun c_ => absurd (nI_le (Nat.le_refl _) (by omega)) c_)
    refine x_iload_n (q := 50) dX7_nextToEnd_49 rfl rfl rfl ?_
    exact x_iret dX7_nextToEnd_50 ⟨_, rfl, by first | rfl | (split <;> rfl)⟩ rfl (Nat.le_refl _) rfl ⟨rfl, rfl⟩
  | succ k ih =>
    intro i hi
    cases hn : nxo (gi h 6) (gi h 8) (gi h 7) (fI h 5 4) b i with
    | none =>
      refine x_iload_n (q := 5) dX7_nextToEnd_4 rfl rfl rfl ?_
      refine x_aload_n (q := 6) dX7_nextToEnd_5 rfl rfl rfl ?_
      refine x_get (q := 9) dX7_nextToEnd_6 rfl f_X7_21 (cl_5 hS) rfl (by decide) ?_
      rw [hz]
      refine x_ic_ge (q := 12) (t := 49) dX7_nextToEnd_9 rfl (by decide) (fun c_ => absurd c_ (nI_ge (by omega) (by omega))) (fun _ => ?_)
      refine x_aload_n (q := 13) dX7_nextToEnd_12 rfl rfl rfl ?_
      refine x_iload_n (q := 14) dX7_nextToEnd_13 rfl rfl rfl ?_
      refine x_iload_n (q := 15) dX7_nextToEnd_14 rfl rfl rfl ?_
      refine y_cvI (q := 18) dX7_nextToEnd_15 rfl l_X7_28 (c_X7_isUsable hS i _ (by omega)) rfl rfl (cl_5 hS) (by decide) rfl rfl rfl rfl ?_
      refine x_if_eq (q := 21) (t := 43) dX7_nextToEnd_18 rfl (by decide) (fun c_18 => ?_) (fun c_18 => ?_)
      · refine x_iinc (q := 46) (v := nI (i + 1)) dX7_nextToEnd_43 rfl rfl (nI_inc _) (by decide) ?_
        refine x_goto (q := 4) dX7_nextToEnd_46 (by decide) ?_
        have t9 := ih (i + 1) (by omega)
        simp only [nxo, hn] at t9
        first | (simp only [if_neg (ifn c_18)] at t9; exact t9) | (simp only [if_pos (ify c_18)] at t9; exact t9)
      · refine x_iload_n (q := 22) dX7_nextToEnd_21 rfl rfl rfl ?_
        refine x_iconst (q := 23) (v := -1) dX7_nextToEnd_22 rfl (by decide) ?_
        refine x_ic_eq (q := 26) (t := 41) dX7_nextToEnd_23 rfl (by decide) (fun _ => ?_) (fun c_ => absurd (by decide) c_)
        refine x_iload_n (q := 42) dX7_nextToEnd_41 rfl rfl rfl ?_
        refine x_istore_n (q := 43) dX7_nextToEnd_42 rfl rfl (by decide) ?_
        refine x_iinc (q := 46) (v := nI (i + 1)) dX7_nextToEnd_43 rfl rfl (nI_inc _) (by decide) ?_
        refine x_goto (q := 4) dX7_nextToEnd_46 (by decide) ?_
        have t9 := ih (i + 1) (by omega)
        simp only [nxo, hn] at t9
        first | (simp only [if_neg (ifn c_18)] at t9; exact t9) | (simp only [if_pos (ify c_18)] at t9; exact t9)
    | some m =>
      have hmi := (nxo_lt hn).1
      refine x_iload_n (q := 5) dX7_nextToEnd_4 rfl rfl rfl ?_
      refine x_aload_n (q := 6) dX7_nextToEnd_5 rfl rfl rfl ?_
      refine x_get (q := 9) dX7_nextToEnd_6 rfl f_X7_21 (cl_5 hS) rfl (by decide) ?_
      rw [hz]
      refine x_ic_ge (q := 12) (t := 49) dX7_nextToEnd_9 rfl (by decide) (fun c_ => absurd c_ (nI_ge (by omega) (by omega))) (fun _ => ?_)
      refine x_aload_n (q := 13) dX7_nextToEnd_12 rfl rfl rfl ?_
      refine x_iload_n (q := 14) dX7_nextToEnd_13 rfl rfl rfl ?_
      refine x_iload_n (q := 15) dX7_nextToEnd_14 rfl rfl rfl ?_
      refine y_cvI (q := 18) dX7_nextToEnd_15 rfl l_X7_28 (c_X7_isUsable hS i _ (by omega)) rfl rfl (cl_5 hS) (by decide) rfl rfl rfl rfl ?_
      refine x_if_eq (q := 21) (t := 43) dX7_nextToEnd_18 rfl (by decide) (fun c_18 => ?_) (fun c_18 => ?_)
      · refine x_iinc (q := 46) (v := nI (i + 1)) dX7_nextToEnd_43 rfl rfl (nI_inc _) (by decide) ?_
        refine x_goto (q := 4) dX7_nextToEnd_46 (by decide) ?_
        have t9 := ih (i + 1) (by omega)
        first | (rw [nxo_sf hn (fun z => ifn c_18 z.1)] at t9; exact t9) | (rw [nxo_sf hn (fun z => Int32.not_le.mpr z.2 c_38)] at t9; exact t9) | (rw [nxo_st hn (And.intro (ify c_18) (Int32.not_le.mp c_38))] at t9; exact t9)
      · refine x_iload_n (q := 22) dX7_nextToEnd_21 rfl rfl rfl ?_
        refine x_iconst (q := 23) (v := -1) dX7_nextToEnd_22 rfl (by decide) ?_
        refine x_ic_eq (q := 26) (t := 41) dX7_nextToEnd_23 rfl (by decide) (fun c_ => absurd c_ (nI_m1 (by omega))) (fun _ => ?_)
        refine x_aload_n (q := 27) dX7_nextToEnd_26 rfl rfl rfl ?_
        refine x_get (q := 30) dX7_nextToEnd_27 rfl f_X7_18 (cl_5 hS) rfl (by decide) ?_
        refine x_iload_n (q := 31) dX7_nextToEnd_30 rfl rfl rfl ?_
        refine z_iald (q := 32) (j := i) dX7_nextToEnd_31 rfl (cl_8 hS) (by omega) (by decide) (by decide) ?_
        refine x_aload_n (q := 33) dX7_nextToEnd_32 rfl rfl rfl ?_
        refine x_get (q := 36) dX7_nextToEnd_33 rfl f_X7_18 (cl_5 hS) rfl (by decide) ?_
        refine x_iload_n (q := 37) dX7_nextToEnd_36 rfl rfl rfl ?_
        refine z_iald (q := 38) (j := m) dX7_nextToEnd_37 rfl (cl_8 hS) (by omega) (by decide) (by decide) ?_
        refine x_ic_ge (q := 41) (t := 43) dX7_nextToEnd_38 rfl (by decide) (fun c_38 => ?_) (fun c_38 => ?_)
        · refine x_iinc (q := 46) (v := nI (i + 1)) dX7_nextToEnd_43 rfl rfl (nI_inc _) (by decide) ?_
          refine x_goto (q := 4) dX7_nextToEnd_46 (by decide) ?_
          have t9 := ih (i + 1) (by omega)
          first | (rw [nxo_sf hn (fun z => ifn c_18 z.1)] at t9; exact t9) | (rw [nxo_sf hn (fun z => Int32.not_le.mpr z.2 c_38)] at t9; exact t9) | (rw [nxo_st hn (And.intro (ify c_18) (Int32.not_le.mp c_38))] at t9; exact t9)
        · refine x_iload_n (q := 42) dX7_nextToEnd_41 rfl rfl rfl ?_
          refine x_istore_n (q := 43) dX7_nextToEnd_42 rfl rfl (by decide) ?_
          refine x_iinc (q := 46) (v := nI (i + 1)) dX7_nextToEnd_43 rfl rfl (nI_inc _) (by decide) ?_
          refine x_goto (q := 4) dX7_nextToEnd_46 (by decide) ?_
          have t9 := ih (i + 1) (by omega)
          first | (rw [nxo_sf hn (fun z => ifn c_18 z.1)] at t9; exact t9) | (rw [nxo_sf hn (fun z => Int32.not_le.mpr z.2 c_38)] at t9; exact t9) | (rw [nxo_st hn (And.intro (ify c_18) (Int32.not_le.mp c_38))] at t9; exact t9)

set_option maxHeartbeats 4000000 in
set_option maxRecDepth 100000 in
theorem c_X7_nextToEnd {h : HF} (hS : Sh h) (b : Int32) (z : Nat) (hz : fI h 5 3 = nI z) (hz40 : z ≤ 40) : Mc mX7_nextToEnd [.ref 5, .int b] 170 h (RI (oI (nxo (gi h 6) (gi h 8) (gi h 7) (fI h 5 4) b z)) h) := by
  refine Mc.of (by decide) rfl (Nat.le_of_ble_eq_true rfl) ?_
  refine x_iconst (q := 1) (v := -1) dX7_nextToEnd_0 rfl (by decide) ?_
  refine x_istore_n (q := 2) dX7_nextToEnd_1 rfl rfl (by decide) ?_
  refine x_iconst (q := 3) (v := 0) dX7_nextToEnd_2 rfl (by decide) ?_
  refine x_istore_n (q := 4) dX7_nextToEnd_3 rfl rfl (by decide) ?_
  exact lp_X7_nextToEnd hS b z hz hz40 z 0 (by omega)

def lkB (w f : Nat → Int32) : Nat → Bool
  | 0 => false
  | n + 1 => lkB w f n || (decide (0 < w n) && decide (f n < w n))
theorem lkB_mono {w f : Nat → Int32} : ∀ {i n : Nat}, i ≤ n → lkB w f i = true → lkB w f n = true
  | i, 0, h, e => by obtain rfl : i = 0 := by omega
                     exact e
  | i, n + 1, h, e => by
    by_cases hi : i = n + 1
    · subst hi; exact e
    · simp only [lkB, Bool.or_eq_true]; exact Or.inl (lkB_mono (by omega) e)
set_option maxHeartbeats 4000000 in
set_option maxRecDepth 100000 in
theorem lp_X7_lacks {h : HF} (hS : Sh h) (z : Nat) (hz : fI h 5 3 = nI z) (hz40 : z ≤ 40) : ∀ (k i : Nat), i + k = 8 → lkB (gi h 39) (fun b => sU (gi h 6) (gi h 8) (gi h 7) (fI h 5 4) (nI b) z) i = false → Vg mX7_lacks none (QM mX7_lacks 170 (RI (if lkB (gi h 39) (fun b => sU (gi h 6) (gi h 8) (gi h 7) (fI h 5 4) (nI b) z) 8 = true then 1 else 0) h)) 2 [some (.ref 5), some (.ref 39), some (.int (nI i))] [] 170 h 0 0 := by
  intro k
  induction k with
  | zero =>
    intro i hi hf
    obtain rfl : i = 8 := by omega
    refine x_iload_n (q := 3) dX7_lacks_2 rfl rfl rfl ?_
    refine x_bipush (q := 5) (v := 8) dX7_lacks_3 rfl (by decide) ?_
    refine x_ic_ge (q := 8) (t := 33) dX7_lacks_5 rfl (by decide) (fun _ => ?_) (fun c_ => absurd (by decide) c_)
    refine x_iconst (q := 34) (v := 0) dX7_lacks_33 rfl (by decide) ?_
    exact x_iret dX7_lacks_34 ⟨_, rfl, by first | rfl | (split <;> rfl)⟩ rfl (Nat.le_refl _) rfl ⟨by rw [if_neg (by rw [hf]; decide)], rfl⟩
  | succ k ih =>
    intro i hi hf
    refine x_iload_n (q := 3) dX7_lacks_2 rfl rfl rfl ?_
    refine x_bipush (q := 5) (v := 8) dX7_lacks_3 rfl (by decide) ?_
    refine x_ic_ge (q := 8) (t := 33) dX7_lacks_5 rfl (by decide) (fun c_ => absurd c_ (nI_ge (b := 8) (by omega) (by decide))) (fun _ => ?_)
    refine x_aload_n (q := 9) dX7_lacks_8 rfl rfl rfl ?_
    refine x_iload_n (q := 10) dX7_lacks_9 rfl rfl rfl ?_
    refine z_iald (q := 11) (j := i) dX7_lacks_10 rfl (cl_39 hS) (by omega) (by decide) (by decide) ?_
    refine x_if_le (q := 14) (t := 27) dX7_lacks_11 rfl (by decide) (fun c_11 => ?_) (fun c_11 => ?_)
    · refine x_iinc (q := 30) (v := nI (i + 1)) dX7_lacks_27 rfl rfl (nI_inc _) (by decide) ?_
      refine x_goto (q := 2) dX7_lacks_30 (by decide) ?_
      refine ih (i + 1) (by omega) ?_
      simp only [lkB, hf, Bool.false_or, Bool.and_eq_false_iff, decide_eq_false_iff_not]
      first | exact Or.inl (Int32.not_lt.mpr c_11) | exact Or.inr (Int32.not_lt.mpr c_22)
    · refine x_aload_n (q := 15) dX7_lacks_14 rfl rfl rfl ?_
      refine x_iload_n (q := 16) dX7_lacks_15 rfl rfl rfl ?_
      refine y_cvI (q := 19) dX7_lacks_16 rfl l_X7_32 (c_X7_usableOf hS (nI i) z hz hz40) rfl rfl (cl_5 hS) (by decide) rfl rfl rfl rfl ?_
      refine x_aload_n (q := 20) dX7_lacks_19 rfl rfl rfl ?_
      refine x_iload_n (q := 21) dX7_lacks_20 rfl rfl rfl ?_
      refine z_iald (q := 22) (j := i) dX7_lacks_21 rfl (cl_39 hS) (by omega) (by decide) (by decide) ?_
      refine x_ic_ge (q := 25) (t := 27) dX7_lacks_22 rfl (by decide) (fun c_22 => ?_) (fun c_22 => ?_)
      · refine x_iinc (q := 30) (v := nI (i + 1)) dX7_lacks_27 rfl rfl (nI_inc _) (by decide) ?_
        refine x_goto (q := 2) dX7_lacks_30 (by decide) ?_
        refine ih (i + 1) (by omega) ?_
        simp only [lkB, hf, Bool.false_or, Bool.and_eq_false_iff, decide_eq_false_iff_not]
        first | exact Or.inl (Int32.not_lt.mpr c_11) | exact Or.inr (Int32.not_lt.mpr c_22)
      · refine x_iconst (q := 26) (v := 1) dX7_lacks_25 rfl (by decide) ?_
        exact x_iret dX7_lacks_26 ⟨_, rfl, by first | rfl | (split <;> rfl)⟩ rfl (Nat.le_refl _) rfl ⟨by rw [if_pos (lkB_mono (i := i + 1) (by omega) (by simp only [lkB, Bool.or_eq_true, Bool.and_eq_true, decide_eq_true_eq]; exact Or.inr ⟨Int32.not_le.mp c_11, Int32.not_le.mp c_22⟩))], rfl⟩

set_option maxHeartbeats 4000000 in
set_option maxRecDepth 100000 in
theorem c_X7_lacks {h : HF} (hS : Sh h) (z : Nat) (hz : fI h 5 3 = nI z) (hz40 : z ≤ 40) : Mc mX7_lacks [.ref 5, .ref 39] 170 h (RI (if lkB (gi h 39) (fun b => sU (gi h 6) (gi h 8) (gi h 7) (fI h 5 4) (nI b) z) 8 = true then 1 else 0) h) := by
  refine Mc.of (by decide) rfl (Nat.le_of_ble_eq_true rfl) ?_
  refine x_iconst (q := 1) (v := 0) dX7_lacks_0 rfl (by decide) ?_
  refine x_istore_n (q := 2) dX7_lacks_1 rfl rfl (by decide) ?_
  exact lp_X7_lacks hS z hz hz40 8 0 (by omega) rfl

