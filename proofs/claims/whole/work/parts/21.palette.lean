set_option maxHeartbeats 4000000 in
set_option maxRecDepth 100000 in
theorem c_X5_has {h : HF} (hS : Sh h) (v : Int32) : Mc mX5_has [.ref 2, .int v] 170 h (RI (if 0 ≤ v ∧ v < fI h 2 2 then 1 else 0) h) := by
  refine Mc.of (by decide) rfl (Nat.le_of_ble_eq_true rfl) ?_
  refine x_iload_n (q := 1) dX5_has_0 rfl rfl rfl ?_
  refine x_if_lt (q := 4) (t := 16) dX5_has_1 rfl (by decide) (fun c_1 => ?_) (fun c_1 => ?_)
  · refine x_iconst (q := 17) (v := 0) dX5_has_16 rfl (by decide) ?_
    exact x_iret dX5_has_17 ⟨_, rfl, by first | rfl | (split <;> rfl)⟩ rfl (Nat.le_refl _) rfl ⟨by first | rfl | (split <;> first | rfl | (exfalso; simp only [Int32.le_iff_toInt_le, Int32.lt_iff_toInt_lt, Int32.reduceToInt] at *; omega)), rfl⟩
  · refine x_iload_n (q := 5) dX5_has_4 rfl rfl rfl ?_
    refine x_aload_n (q := 6) dX5_has_5 rfl rfl rfl ?_
    refine x_get (q := 9) dX5_has_6 rfl f_X5_18 (cl_2 hS) rfl (by decide) ?_
    refine x_ic_ge (q := 12) (t := 16) dX5_has_9 rfl (by decide) (fun c_9 => ?_) (fun c_9 => ?_)
    · refine x_iconst (q := 17) (v := 0) dX5_has_16 rfl (by decide) ?_
      exact x_iret dX5_has_17 ⟨_, rfl, by first | rfl | (split <;> rfl)⟩ rfl (Nat.le_refl _) rfl ⟨by first | rfl | (split <;> first | rfl | (exfalso; simp only [Int32.le_iff_toInt_le, Int32.lt_iff_toInt_lt, Int32.reduceToInt] at *; omega)), rfl⟩
    · refine x_iconst (q := 13) (v := 1) dX5_has_12 rfl (by decide) ?_
      refine x_goto (q := 17) dX5_has_13 (by decide) ?_
      exact x_iret dX5_has_17 ⟨_, rfl, by first | rfl | (split <;> rfl)⟩ rfl (Nat.le_refl _) rfl ⟨by first | rfl | (split <;> first | rfl | (exfalso; simp only [Int32.le_iff_toInt_le, Int32.lt_iff_toInt_lt, Int32.reduceToInt] at *; omega)), rfl⟩

set_option maxHeartbeats 4000000 in
set_option maxRecDepth 100000 in
theorem c_X7_has {h : HF} (hS : Sh h) (v : Int32) : Mc mX7_has [.ref 5, .int v] 170 h (RI (if 0 ≤ v ∧ v < fI h 5 3 then 1 else 0) h) := by
  refine Mc.of (by decide) rfl (Nat.le_of_ble_eq_true rfl) ?_
  refine x_iload_n (q := 1) dX7_has_0 rfl rfl rfl ?_
  refine x_if_lt (q := 4) (t := 16) dX7_has_1 rfl (by decide) (fun c_1 => ?_) (fun c_1 => ?_)
  · refine x_iconst (q := 17) (v := 0) dX7_has_16 rfl (by decide) ?_
    exact x_iret dX7_has_17 ⟨_, rfl, by first | rfl | (split <;> rfl)⟩ rfl (Nat.le_refl _) rfl ⟨by first | rfl | (split <;> first | rfl | (exfalso; simp only [Int32.le_iff_toInt_le, Int32.lt_iff_toInt_lt, Int32.reduceToInt] at *; omega)), rfl⟩
  · refine x_iload_n (q := 5) dX7_has_4 rfl rfl rfl ?_
    refine x_aload_n (q := 6) dX7_has_5 rfl rfl rfl ?_
    refine x_get (q := 9) dX7_has_6 rfl f_X7_21 (cl_5 hS) rfl (by decide) ?_
    refine x_ic_ge (q := 12) (t := 16) dX7_has_9 rfl (by decide) (fun c_9 => ?_) (fun c_9 => ?_)
    · refine x_iconst (q := 17) (v := 0) dX7_has_16 rfl (by decide) ?_
      exact x_iret dX7_has_17 ⟨_, rfl, by first | rfl | (split <;> rfl)⟩ rfl (Nat.le_refl _) rfl ⟨by first | rfl | (split <;> first | rfl | (exfalso; simp only [Int32.le_iff_toInt_le, Int32.lt_iff_toInt_lt, Int32.reduceToInt] at *; omega)), rfl⟩
    · refine x_iconst (q := 13) (v := 1) dX7_has_12 rfl (by decide) ?_
      refine x_goto (q := 17) dX7_has_13 (by decide) ?_
      exact x_iret dX7_has_17 ⟨_, rfl, by first | rfl | (split <;> rfl)⟩ rfl (Nat.le_refl _) rfl ⟨by first | rfl | (split <;> first | rfl | (exfalso; simp only [Int32.le_iff_toInt_le, Int32.lt_iff_toInt_lt, Int32.reduceToInt] at *; omega)), rfl⟩

set_option maxHeartbeats 4000000 in
set_option maxRecDepth 100000 in
theorem c_X1_has {h : HF} (hS : Sh h) (v : Int32) : Mc mX1_has [.ref 9, .int v] 170 h (RI (if 0 ≤ v ∧ v < fI h 9 6 then 1 else 0) h) := by
  refine Mc.of (by decide) rfl (Nat.le_of_ble_eq_true rfl) ?_
  refine x_iload_n (q := 1) dX1_has_0 rfl rfl rfl ?_
  refine x_if_lt (q := 4) (t := 16) dX1_has_1 rfl (by decide) (fun c_1 => ?_) (fun c_1 => ?_)
  · refine x_iconst (q := 17) (v := 0) dX1_has_16 rfl (by decide) ?_
    exact x_iret dX1_has_17 ⟨_, rfl, by first | rfl | (split <;> rfl)⟩ rfl (Nat.le_refl _) rfl ⟨by first | rfl | (split <;> first | rfl | (exfalso; simp only [Int32.le_iff_toInt_le, Int32.lt_iff_toInt_lt, Int32.reduceToInt] at *; omega)), rfl⟩
  · refine x_iload_n (q := 5) dX1_has_4 rfl rfl rfl ?_
    refine x_aload_n (q := 6) dX1_has_5 rfl rfl rfl ?_
    refine x_get (q := 9) dX1_has_6 rfl f_X1_31 (cl_9 hS) rfl (by decide) ?_
    refine x_ic_ge (q := 12) (t := 16) dX1_has_9 rfl (by decide) (fun c_9 => ?_) (fun c_9 => ?_)
    · refine x_iconst (q := 17) (v := 0) dX1_has_16 rfl (by decide) ?_
      exact x_iret dX1_has_17 ⟨_, rfl, by first | rfl | (split <;> rfl)⟩ rfl (Nat.le_refl _) rfl ⟨by first | rfl | (split <;> first | rfl | (exfalso; simp only [Int32.le_iff_toInt_le, Int32.lt_iff_toInt_lt, Int32.reduceToInt] at *; omega)), rfl⟩
    · refine x_iconst (q := 13) (v := 1) dX1_has_12 rfl (by decide) ?_
      refine x_goto (q := 17) dX1_has_13 (by decide) ?_
      exact x_iret dX1_has_17 ⟨_, rfl, by first | rfl | (split <;> rfl)⟩ rfl (Nat.le_refl _) rfl ⟨by first | rfl | (split <;> first | rfl | (exfalso; simp only [Int32.le_iff_toInt_le, Int32.lt_iff_toInt_lt, Int32.reduceToInt] at *; omega)), rfl⟩

set_option maxHeartbeats 4000000 in
set_option maxRecDepth 100000 in
theorem c_X3_has {h : HF} (hS : Sh h) (v : Int32) : Mc mX3_has [.ref 25, .int v] 170 h (RI (if 0 ≤ v ∧ v < fI h 25 5 then 1 else 0) h) := by
  refine Mc.of (by decide) rfl (Nat.le_of_ble_eq_true rfl) ?_
  refine x_iload_n (q := 1) dX3_has_0 rfl rfl rfl ?_
  refine x_if_lt (q := 4) (t := 16) dX3_has_1 rfl (by decide) (fun c_1 => ?_) (fun c_1 => ?_)
  · refine x_iconst (q := 17) (v := 0) dX3_has_16 rfl (by decide) ?_
    exact x_iret dX3_has_17 ⟨_, rfl, by first | rfl | (split <;> rfl)⟩ rfl (Nat.le_refl _) rfl ⟨by first | rfl | (split <;> first | rfl | (exfalso; simp only [Int32.le_iff_toInt_le, Int32.lt_iff_toInt_lt, Int32.reduceToInt] at *; omega)), rfl⟩
  · refine x_iload_n (q := 5) dX3_has_4 rfl rfl rfl ?_
    refine x_aload_n (q := 6) dX3_has_5 rfl rfl rfl ?_
    refine x_get (q := 9) dX3_has_6 rfl f_X3_28 (cl_25 hS) rfl (by decide) ?_
    refine x_ic_ge (q := 12) (t := 16) dX3_has_9 rfl (by decide) (fun c_9 => ?_) (fun c_9 => ?_)
    · refine x_iconst (q := 17) (v := 0) dX3_has_16 rfl (by decide) ?_
      exact x_iret dX3_has_17 ⟨_, rfl, by first | rfl | (split <;> rfl)⟩ rfl (Nat.le_refl _) rfl ⟨by first | rfl | (split <;> first | rfl | (exfalso; simp only [Int32.le_iff_toInt_le, Int32.lt_iff_toInt_lt, Int32.reduceToInt] at *; omega)), rfl⟩
    · refine x_iconst (q := 13) (v := 1) dX3_has_12 rfl (by decide) ?_
      refine x_goto (q := 17) dX3_has_13 (by decide) ?_
      exact x_iret dX3_has_17 ⟨_, rfl, by first | rfl | (split <;> rfl)⟩ rfl (Nat.le_refl _) rfl ⟨by first | rfl | (split <;> first | rfl | (exfalso; simp only [Int32.le_iff_toInt_le, Int32.lt_iff_toInt_lt, Int32.reduceToInt] at *; omega)), rfl⟩

set_option maxHeartbeats 4000000 in
set_option maxRecDepth 100000 in
theorem c_X9_hasBatch {h : HF} (hS : Sh h) (v : Int32) : Mc mX9_hasBatch [.ref 1, .int v] 170 h (RI (if 0 ≤ v ∧ v < fI h 1 4 then 1 else 0) h) := by
  refine Mc.of (by decide) rfl (Nat.le_of_ble_eq_true rfl) ?_
  refine x_iload_n (q := 1) dX9_hasBatch_0 rfl rfl rfl ?_
  refine x_if_lt (q := 4) (t := 16) dX9_hasBatch_1 rfl (by decide) (fun c_1 => ?_) (fun c_1 => ?_)
  · refine x_iconst (q := 17) (v := 0) dX9_hasBatch_16 rfl (by decide) ?_
    exact x_iret dX9_hasBatch_17 ⟨_, rfl, by first | rfl | (split <;> rfl)⟩ rfl (Nat.le_refl _) rfl ⟨by first | rfl | (split <;> first | rfl | (exfalso; simp only [Int32.le_iff_toInt_le, Int32.lt_iff_toInt_lt, Int32.reduceToInt] at *; omega)), rfl⟩
  · refine x_iload_n (q := 5) dX9_hasBatch_4 rfl rfl rfl ?_
    refine x_aload_n (q := 6) dX9_hasBatch_5 rfl rfl rfl ?_
    refine x_get (q := 9) dX9_hasBatch_6 rfl f_X9_36 (cl_1 hS) rfl (by decide) ?_
    refine x_ic_ge (q := 12) (t := 16) dX9_hasBatch_9 rfl (by decide) (fun c_9 => ?_) (fun c_9 => ?_)
    · refine x_iconst (q := 17) (v := 0) dX9_hasBatch_16 rfl (by decide) ?_
      exact x_iret dX9_hasBatch_17 ⟨_, rfl, by first | rfl | (split <;> rfl)⟩ rfl (Nat.le_refl _) rfl ⟨by first | rfl | (split <;> first | rfl | (exfalso; simp only [Int32.le_iff_toInt_le, Int32.lt_iff_toInt_lt, Int32.reduceToInt] at *; omega)), rfl⟩
    · refine x_iconst (q := 13) (v := 1) dX9_hasBatch_12 rfl (by decide) ?_
      refine x_goto (q := 17) dX9_hasBatch_13 (by decide) ?_
      exact x_iret dX9_hasBatch_17 ⟨_, rfl, by first | rfl | (split <;> rfl)⟩ rfl (Nat.le_refl _) rfl ⟨by first | rfl | (split <;> first | rfl | (exfalso; simp only [Int32.le_iff_toInt_le, Int32.lt_iff_toInt_lt, Int32.reduceToInt] at *; omega)), rfl⟩

theorem ix3 (i d : Nat) : nI i * 3 + nI d = nI (i * 3 + d) := by
  rw [show (3 : Int32) = nI 3 from rfl, pk_mul, nI_add]
theorem ix6 (i d : Nat) : nI i * 6 + nI d = nI (i * 6 + d) := by
  rw [show (6 : Int32) = nI 6 from rfl, pk_mul, nI_add]
theorem ix8 (i d : Nat) : nI i * 8 + nI d = nI (i * 8 + d) := by
  rw [show (8 : Int32) = nI 8 from rfl, pk_mul, nI_add]
theorem ux8 (i d : Nat) : 8 * nI i + nI d = nI (8 * i + d) := by
  rw [show (8 : Int32) = nI 8 from rfl, pk_mul, nI_add]
theorem ux6 (i d : Nat) : 6 * nI i + nI d = nI (6 * i + d) := by
  rw [show (6 : Int32) = nI 6 from rfl, pk_mul, nI_add]
theorem ux3 (i d : Nat) : 3 * nI i + nI d = nI (3 * i + d) := by
  rw [show (3 : Int32) = nI 3 from rfl, pk_mul, nI_add]
theorem ux9 (i d : Nat) : 9 * nI i + nI d = nI (9 * i + d) := by
  rw [show (9 : Int32) = nI 9 from rfl, pk_mul, nI_add]
set_option maxHeartbeats 4000000 in
set_option maxRecDepth 100000 in
theorem c_X5_tell {h : HF} (hS : Sh h) (b d : Nat) (x y : Int32) (hb : b < 8) (hd : d < 3) : Mc mX5_tell [.ref 2, .int (nI b), .int (nI d), .int x, .int y] 170 h (RV (si (si h 3 (upd (gi h 3) (b * 3 + d) x)) 4 (upd (gi h 4) (b * 3 + d) y))) := by
  refine Mc.of (by decide) rfl (Nat.le_of_ble_eq_true rfl) ?_
  refine x_aload_n (q := 1) dX5_tell_0 rfl rfl rfl ?_
  refine x_get (q := 4) dX5_tell_1 rfl f_X5_9 (cl_2 hS) rfl (by decide) ?_
  refine x_iload_n (q := 5) dX5_tell_4 rfl rfl rfl ?_
  refine x_iconst (q := 6) (v := 3) dX5_tell_5 rfl (by decide) ?_
  refine x_imul (q := 7) dX5_tell_6 rfl ?_
  refine x_iload_n (q := 8) dX5_tell_7 rfl rfl rfl ?_
  refine x_iadd (q := 9) dX5_tell_8 rfl ?_
  rw [ix3]
  refine x_iload_n (q := 10) dX5_tell_9 rfl rfl rfl ?_
  refine z_iast (q := 11) (j := b * 3 + d) dX5_tell_10 rfl (cl_3 hS) (by omega) (by decide) (by decide) ?_
  refine Vg.nm (fun h1 eh1 => ?_)
  have hS1 : Sh h1 := by rw [eh1]; exact hS.si _ _
  refine x_aload_n (q := 12) dX5_tell_11 rfl rfl rfl ?_
  refine x_get (q := 15) dX5_tell_12 rfl f_X5_15 (cl_2 hS1) rfl (by decide) ?_
  refine x_iload_n (q := 16) dX5_tell_15 rfl rfl rfl ?_
  refine x_iconst (q := 17) (v := 3) dX5_tell_16 rfl (by decide) ?_
  refine x_imul (q := 18) dX5_tell_17 rfl ?_
  refine x_iload_n (q := 19) dX5_tell_18 rfl rfl rfl ?_
  refine x_iadd (q := 20) dX5_tell_19 rfl ?_
  rw [ix3]
  refine x_iload (q := 22) dX5_tell_20 rfl rfl ?_
  refine z_iast (q := 23) (j := b * 3 + d) dX5_tell_22 rfl (cl_4 hS1) (by omega) (by decide) (by decide) ?_
  refine Vg.nm (fun h2 eh2 => ?_)
  have hS2 : Sh h2 := by rw [eh2]; exact hS1.si _ _
  exact x_vret dX5_tell_23 rfl rfl (Nat.le_refl _) rfl ⟨rfl, by subst_vars; simp only [gi_si_ne (show (4 : Nat) ≠ 3 by decide)]⟩

def wsum (f g : Nat → Int32) (d : Nat) : Nat → Int64
  | 0 => 0
  | n + 1 => wsum f g d n + (f n).toInt64 * (g (n * 3 + d)).toInt64
set_option maxHeartbeats 4000000 in
set_option maxRecDepth 100000 in
theorem lp_X5_weighted3 {h : HF} (hS : Sh h) {a : Nat} (hm : isM a) (d : Nat) (hd : d < 3) (z : Nat) (hz : fI h 2 2 = nI z) (hz8 : z ≤ 8) : ∀ (k i : Nat), i + k = z → Vg mX5_weighted none (QM mX5_weighted 170 (RJ (wsum (gi h (a + 1)) (gi h 3) d z) h)) 6 [some (.ref 2), some (.ref (a + 1)), some (.ref 3), some (.int (nI d)), some (.long (wsum (gi h (a + 1)) (gi h 3) d i)), none, some (.int (nI i))] [] 170 h 0 0 := by
  intro k
  induction k with
  | zero =>
    intro i hi
    obtain rfl : i = z := by omega
    refine x_iload (q := 8) dX5_weighted_6 rfl rfl ?_
    refine x_aload_n (q := 9) dX5_weighted_8 rfl rfl rfl ?_
    refine x_get (q := 12) dX5_weighted_9 rfl f_X5_18 (cl_2 hS) rfl (by decide) ?_
    rw [hz]
    refine x_ic_ge (q := 15) (t := 41) dX5_weighted_12 rfl (by decide) (fun _ => ?_) (fun c_ => absurd (nI_le (Nat.le_refl _) (by omega)) c_)
    refine x_lload (q := 43) dX5_weighted_41 rfl rfl ?_
    exact x_lret dX5_weighted_43 rfl rfl (Nat.le_refl _) rfl ⟨rfl, rfl⟩
  | succ k ih =>
    intro i hi
    refine x_iload (q := 8) dX5_weighted_6 rfl rfl ?_
    refine x_aload_n (q := 9) dX5_weighted_8 rfl rfl rfl ?_
    refine x_get (q := 12) dX5_weighted_9 rfl f_X5_18 (cl_2 hS) rfl (by decide) ?_
    rw [hz]
    refine x_ic_ge (q := 15) (t := 41) dX5_weighted_12 rfl (by decide) (fun c_ => absurd c_ (nI_ge (by omega) (by omega))) (fun _ => ?_)
    refine x_lload (q := 17) dX5_weighted_15 rfl rfl ?_
    refine x_aload_n (q := 18) dX5_weighted_17 rfl rfl rfl ?_
    refine x_iload (q := 20) dX5_weighted_18 rfl rfl ?_
    refine z_iald (q := 21) (j := i) dX5_weighted_20 rfl (((mxo hm) hS).2.1) (by omega) (by decide) (((mxo hm) hS).2.2.2) ?_
    refine x_i2l (q := 22) dX5_weighted_21 rfl ?_
    refine x_aload_n (q := 23) dX5_weighted_22 rfl rfl rfl ?_
    refine x_iload (q := 25) dX5_weighted_23 rfl rfl ?_
    refine x_iconst (q := 26) (v := 3) dX5_weighted_25 rfl (by decide) ?_
    refine x_imul (q := 27) dX5_weighted_26 rfl ?_
    refine x_iload_n (q := 28) dX5_weighted_27 rfl rfl rfl ?_
    refine x_iadd (q := 29) dX5_weighted_28 rfl ?_
    rw [ix3]
    refine z_iald (q := 30) (j := i * 3 + d) dX5_weighted_29 rfl (cl_3 hS) (by omega) (by decide) (by decide) ?_
    refine x_i2l (q := 31) dX5_weighted_30 rfl ?_
    refine x_lmul (q := 32) dX5_weighted_31 rfl ?_
    refine x_ladd (q := 33) dX5_weighted_32 rfl ?_
    refine x_lstore (q := 35) dX5_weighted_33 rfl (by decide) ?_
    refine x_iinc (q := 38) (v := nI (i + 1)) dX5_weighted_35 rfl rfl (nI_inc _) (by decide) ?_
    refine x_goto (q := 6) dX5_weighted_38 (by decide) ?_
    exact ih (i + 1) (by omega)

set_option maxHeartbeats 4000000 in
set_option maxRecDepth 100000 in
theorem c_X5_weighted3 {h : HF} (hS : Sh h) {a : Nat} (hm : isM a) (d : Nat) (hd : d < 3) (z : Nat) (hz : fI h 2 2 = nI z) (hz8 : z ≤ 8) : Mc mX5_weighted [.ref 2, .ref (a + 1), .ref 3, .int (nI d)] 170 h (RJ (wsum (gi h (a + 1)) (gi h 3) d z) h) := by
  refine Mc.of (by decide) rfl (Nat.le_of_ble_eq_true rfl) ?_
  refine x_lconst (q := 1) (v := 0) dX5_weighted_0 rfl (by decide) ?_
  refine x_lstore (q := 3) dX5_weighted_1 rfl (by decide) ?_
  refine x_iconst (q := 4) (v := 0) dX5_weighted_3 rfl (by decide) ?_
  refine x_istore (q := 6) dX5_weighted_4 rfl (by decide) ?_
  exact lp_X5_weighted3 hS hm d hd z hz hz8 z 0 (by omega)

set_option maxHeartbeats 4000000 in
set_option maxRecDepth 100000 in
theorem lp_X5_weighted4 {h : HF} (hS : Sh h) {a : Nat} (hm : isM a) (d : Nat) (hd : d < 3) (z : Nat) (hz : fI h 2 2 = nI z) (hz8 : z ≤ 8) : ∀ (k i : Nat), i + k = z → Vg mX5_weighted none (QM mX5_weighted 170 (RJ (wsum (gi h (a + 1)) (gi h 4) d z) h)) 6 [some (.ref 2), some (.ref (a + 1)), some (.ref 4), some (.int (nI d)), some (.long (wsum (gi h (a + 1)) (gi h 4) d i)), none, some (.int (nI i))] [] 170 h 0 0 := by
  intro k
  induction k with
  | zero =>
    intro i hi
    obtain rfl : i = z := by omega
    refine x_iload (q := 8) dX5_weighted_6 rfl rfl ?_
    refine x_aload_n (q := 9) dX5_weighted_8 rfl rfl rfl ?_
    refine x_get (q := 12) dX5_weighted_9 rfl f_X5_18 (cl_2 hS) rfl (by decide) ?_
    rw [hz]
    refine x_ic_ge (q := 15) (t := 41) dX5_weighted_12 rfl (by decide) (fun _ => ?_) (fun c_ => absurd (nI_le (Nat.le_refl _) (by omega)) c_)
    refine x_lload (q := 43) dX5_weighted_41 rfl rfl ?_
    exact x_lret dX5_weighted_43 rfl rfl (Nat.le_refl _) rfl ⟨rfl, rfl⟩
  | succ k ih =>
    intro i hi
    refine x_iload (q := 8) dX5_weighted_6 rfl rfl ?_
    refine x_aload_n (q := 9) dX5_weighted_8 rfl rfl rfl ?_
    refine x_get (q := 12) dX5_weighted_9 rfl f_X5_18 (cl_2 hS) rfl (by decide) ?_
    rw [hz]
    refine x_ic_ge (q := 15) (t := 41) dX5_weighted_12 rfl (by decide) (fun c_ => absurd c_ (nI_ge (by omega) (by omega))) (fun _ => ?_)
    refine x_lload (q := 17) dX5_weighted_15 rfl rfl ?_
    refine x_aload_n (q := 18) dX5_weighted_17 rfl rfl rfl ?_
    refine x_iload (q := 20) dX5_weighted_18 rfl rfl ?_
    refine z_iald (q := 21) (j := i) dX5_weighted_20 rfl (((mxo hm) hS).2.1) (by omega) (by decide) (((mxo hm) hS).2.2.2) ?_
    refine x_i2l (q := 22) dX5_weighted_21 rfl ?_
    refine x_aload_n (q := 23) dX5_weighted_22 rfl rfl rfl ?_
    refine x_iload (q := 25) dX5_weighted_23 rfl rfl ?_
    refine x_iconst (q := 26) (v := 3) dX5_weighted_25 rfl (by decide) ?_
    refine x_imul (q := 27) dX5_weighted_26 rfl ?_
    refine x_iload_n (q := 28) dX5_weighted_27 rfl rfl rfl ?_
    refine x_iadd (q := 29) dX5_weighted_28 rfl ?_
    rw [ix3]
    refine z_iald (q := 30) (j := i * 3 + d) dX5_weighted_29 rfl (cl_4 hS) (by omega) (by decide) (by decide) ?_
    refine x_i2l (q := 31) dX5_weighted_30 rfl ?_
    refine x_lmul (q := 32) dX5_weighted_31 rfl ?_
    refine x_ladd (q := 33) dX5_weighted_32 rfl ?_
    refine x_lstore (q := 35) dX5_weighted_33 rfl (by decide) ?_
    refine x_iinc (q := 38) (v := nI (i + 1)) dX5_weighted_35 rfl rfl (nI_inc _) (by decide) ?_
    refine x_goto (q := 6) dX5_weighted_38 (by decide) ?_
    exact ih (i + 1) (by omega)

set_option maxHeartbeats 4000000 in
set_option maxRecDepth 100000 in
theorem c_X5_weighted4 {h : HF} (hS : Sh h) {a : Nat} (hm : isM a) (d : Nat) (hd : d < 3) (z : Nat) (hz : fI h 2 2 = nI z) (hz8 : z ≤ 8) : Mc mX5_weighted [.ref 2, .ref (a + 1), .ref 4, .int (nI d)] 170 h (RJ (wsum (gi h (a + 1)) (gi h 4) d z) h) := by
  refine Mc.of (by decide) rfl (Nat.le_of_ble_eq_true rfl) ?_
  refine x_lconst (q := 1) (v := 0) dX5_weighted_0 rfl (by decide) ?_
  refine x_lstore (q := 3) dX5_weighted_1 rfl (by decide) ?_
  refine x_iconst (q := 4) (v := 0) dX5_weighted_3 rfl (by decide) ?_
  refine x_istore (q := 6) dX5_weighted_4 rfl (by decide) ?_
  exact lp_X5_weighted4 hS hm d hd z hz hz8 z 0 (by omega)

set_option maxHeartbeats 4000000 in
set_option maxRecDepth 100000 in
theorem c_X5_absorbed {h : HF} (hS : Sh h) {a : Nat} (hm : isM a) (d : Nat) (hd : d < 3) (z : Nat) (hz : fI h 2 2 = nI z) (hz8 : z ≤ 8) : Mc mX5_absorbed [.ref 2, .ref a, .int (nI d)] 170 h (RJ (wsum (gi h (a + 1)) (gi h 3) d z) h) := by
  refine Mc.of (by decide) rfl (Nat.le_of_ble_eq_true rfl) ?_
  refine x_aload_n (q := 1) dX5_absorbed_0 rfl rfl rfl ?_
  refine x_aload_n (q := 2) dX5_absorbed_1 rfl rfl rfl ?_
  refine x_get (q := 5) dX5_absorbed_2 rfl f_X5_26 (((mxo hm) hS).1) rfl (((mxo hm) hS).2.2.1) ?_
  refine x_aload_n (q := 6) dX5_absorbed_5 rfl rfl rfl ?_
  refine x_get (q := 9) dX5_absorbed_6 rfl f_X5_9 (cl_2 hS) rfl (by decide) ?_
  refine x_iload_n (q := 10) dX5_absorbed_9 rfl rfl rfl ?_
  refine y_cvJ (q := 13) dX5_absorbed_10 rfl l_X5_31 (c_X5_weighted3 hS hm d hd z hz hz8) rfl rfl (cl_2 hS) (by decide) rfl rfl rfl rfl ?_
  exact x_lret dX5_absorbed_13 rfl rfl (Nat.le_refl _) rfl ⟨rfl, rfl⟩

set_option maxHeartbeats 4000000 in
set_option maxRecDepth 100000 in
theorem c_X5_scattered {h : HF} (hS : Sh h) {a : Nat} (hm : isM a) (d : Nat) (hd : d < 3) (z : Nat) (hz : fI h 2 2 = nI z) (hz8 : z ≤ 8) : Mc mX5_scattered [.ref 2, .ref a, .int (nI d)] 170 h (RJ (wsum (gi h (a + 1)) (gi h 4) d z) h) := by
  refine Mc.of (by decide) rfl (Nat.le_of_ble_eq_true rfl) ?_
  refine x_aload_n (q := 1) dX5_scattered_0 rfl rfl rfl ?_
  refine x_aload_n (q := 2) dX5_scattered_1 rfl rfl rfl ?_
  refine x_get (q := 5) dX5_scattered_2 rfl f_X5_26 (((mxo hm) hS).1) rfl (((mxo hm) hS).2.2.1) ?_
  refine x_aload_n (q := 6) dX5_scattered_5 rfl rfl rfl ?_
  refine x_get (q := 9) dX5_scattered_6 rfl f_X5_15 (cl_2 hS) rfl (by decide) ?_
  refine x_iload_n (q := 10) dX5_scattered_9 rfl rfl rfl ?_
  refine y_cvJ (q := 13) dX5_scattered_10 rfl l_X5_31 (c_X5_weighted4 hS hm d hd z hz hz8) rfl rfl (cl_2 hS) (by decide) rfl rfl rfl rfl ?_
  exact x_lret dX5_scattered_13 rfl rfl (Nat.le_refl _) rfl ⟨rfl, rfl⟩

def shof (f A B : Nat → Int32) (d z : Nat) : Int32 := shd (wsum f A d z) (wsum f B d z)
set_option maxHeartbeats 4000000 in
set_option maxRecDepth 100000 in
theorem c_X5_shadeOf {h : HF} (hS : Sh h) {a : Nat} (hm : isM a) (d : Nat) (hd : d < 3) (z : Nat) (hz : fI h 2 2 = nI z) (hz8 : z ≤ 8) : Mc mX5_shadeOf [.ref 2, .ref a, .int (nI d)] 170 h (RI (shof (gi h (a + 1)) (gi h 3) (gi h 4) d z) h) := by
  refine Mc.of (by decide) rfl (Nat.le_of_ble_eq_true rfl) ?_
  refine x_aload_n (q := 1) dX5_shadeOf_0 rfl rfl rfl ?_
  refine x_aload_n (q := 2) dX5_shadeOf_1 rfl rfl rfl ?_
  refine x_iload_n (q := 3) dX5_shadeOf_2 rfl rfl rfl ?_
  refine y_cvJ (q := 6) dX5_shadeOf_3 rfl l_X5_35 (c_X5_absorbed hS hm d hd z hz hz8) rfl rfl (cl_2 hS) (by decide) rfl rfl rfl rfl ?_
  refine x_aload_n (q := 7) dX5_shadeOf_6 rfl rfl rfl ?_
  refine x_aload_n (q := 8) dX5_shadeOf_7 rfl rfl rfl ?_
  refine x_iload_n (q := 9) dX5_shadeOf_8 rfl rfl rfl ?_
  refine y_cvJ (q := 12) dX5_shadeOf_9 rfl l_X5_39 (c_X5_scattered hS hm d hd z hz hz8) rfl rfl (cl_2 hS) (by decide) rfl rfl rfl rfl ?_
  refine y_csI (q := 15) dX5_shadeOf_12 rfl l_X5_42 (c_X9_shadeOfSums hS _ _) rfl rfl rfl rfl rfl rfl ?_
  exact x_iret dX5_shadeOf_15 ⟨_, rfl, by first | rfl | (split <;> rfl)⟩ rfl (Nat.le_refl _) rfl ⟨rfl, rfl⟩

def padd (h : HF) (z : Nat) (x y : Int32) : HF := si (si (si (si (si (si h 3 (upd (gi h 3) (z * 3) x)) 4 (upd (gi h 4) (z * 3) y)) 3 (upd (upd (gi h 3) (z * 3) x) (z * 3 + 1) x)) 4 (upd (upd (gi h 4) (z * 3) y) (z * 3 + 1) y)) 3 (upd (upd (upd (gi h 3) (z * 3) x) (z * 3 + 1) x) (z * 3 + 2) x)) 4 (upd (upd (upd (gi h 4) (z * 3) y) (z * 3 + 1) y) (z * 3 + 2) y)
set_option maxHeartbeats 4000000 in
set_option maxRecDepth 100000 in
theorem c_X5_add {h : HF} (hS : Sh h) (x y : Int32) (z : Nat) (hz : fI h 2 2 = nI z) (hz8 : z ≤ 8) : Mc mX5_add [.ref 2, .int x, .int y] 170 h (if z < 8 then RI (nI z) (sI (padd h z x y) 2 2 (nI (z + 1))) else RI (-6) h) := by
  by_cases hlt : z < 8
  case' neg =>
    rw [if_neg hlt]
    sorry
  rw [if_pos hlt]
  refine Mc.of (by decide) rfl (Nat.le_of_ble_eq_true rfl) ?_
  refine x_aload_n (q := 1) dX5_add_0 rfl rfl rfl ?_
  refine x_get (q := 4) dX5_add_1 rfl f_X5_18 (cl_2 hS) rfl (by decide) ?_
  rw [hz]
  refine x_bipush (q := 6) (v := 8) dX5_add_4 rfl (by decide) ?_
  refine x_ic_lt (q := 9) (t := 12) dX5_add_6 rfl (by decide) (fun _ => ?_) (fun c_ => absurd (show nI z < nI 8 from nI_lt hlt (by decide)) c_)
  refine x_iconst (q := 13) (v := 0) dX5_add_12 rfl (by decide) ?_
  refine x_istore_n (q := 14) dX5_add_13 rfl rfl (by decide) ?_
  refine x_iload_n (q := 15) dX5_add_14 rfl rfl rfl ?_
  refine x_iconst (q := 16) (v := 3) dX5_add_15 rfl (by decide) ?_
  refine x_ic_ge (q := 19) (t := 36) dX5_add_16 rfl (by decide) (fun c_ => absurd c_ (by decide)) (fun _ => ?_)
  refine x_aload_n (q := 20) dX5_add_19 rfl rfl rfl ?_
  refine x_aload_n (q := 21) dX5_add_20 rfl rfl rfl ?_
  refine x_get (q := 24) dX5_add_21 rfl f_X5_18 (cl_2 hS) rfl (by decide) ?_
  rw [hz]
  refine x_iload_n (q := 25) dX5_add_24 rfl rfl rfl ?_
  refine x_iload_n (q := 26) dX5_add_25 rfl rfl rfl ?_
  refine x_iload_n (q := 27) dX5_add_26 rfl rfl rfl ?_
  refine y_cvV (q := 30) dX5_add_27 rfl l_X5_22 (c_X5_tell hS z 0 _ _ hlt (by decide)) rfl rfl (cl_2 hS) (by decide) rfl rfl rfl rfl ?_
  refine Vg.nm (fun h1 eh1 => ?_)
  have hS1 : Sh h1 := by rw [eh1]; exact (hS.si _ _).si _ _
  have hc1_2_2 : fI h1 2 2 = nI (z) := by rw [eh1]; first | (simp only [fI_si, fI_sl, fI_sJ]; exact hz) | (rw [fI_sI_ne (by omega)]; exact hz) | (rw [fI_sI_k (by decide)]; exact hz)
  refine x_iinc (q := 33) (v := 1) dX5_add_30 rfl rfl (by decide) (by decide) ?_
  refine x_goto (q := 14) dX5_add_33 (by decide) ?_
  refine x_iload_n (q := 15) dX5_add_14 rfl rfl rfl ?_
  refine x_iconst (q := 16) (v := 3) dX5_add_15 rfl (by decide) ?_
  refine x_ic_ge (q := 19) (t := 36) dX5_add_16 rfl (by decide) (fun c_ => absurd c_ (by decide)) (fun _ => ?_)
  refine x_aload_n (q := 20) dX5_add_19 rfl rfl rfl ?_
  refine x_aload_n (q := 21) dX5_add_20 rfl rfl rfl ?_
  refine x_get (q := 24) dX5_add_21 rfl f_X5_18 (cl_2 hS1) rfl (by decide) ?_
  rw [hc1_2_2]
  refine x_iload_n (q := 25) dX5_add_24 rfl rfl rfl ?_
  refine x_iload_n (q := 26) dX5_add_25 rfl rfl rfl ?_
  refine x_iload_n (q := 27) dX5_add_26 rfl rfl rfl ?_
  refine y_cvV (q := 30) dX5_add_27 rfl l_X5_22 (c_X5_tell hS1 z 1 _ _ hlt (by decide)) rfl rfl (cl_2 hS1) (by decide) rfl rfl rfl rfl ?_
  refine Vg.nm (fun h2 eh2 => ?_)
  have hS2 : Sh h2 := by rw [eh2]; exact (hS1.si _ _).si _ _
  have hc2_2_2 : fI h2 2 2 = nI (z) := by rw [eh2]; first | (simp only [fI_si, fI_sl, fI_sJ]; exact hc1_2_2) | (rw [fI_sI_ne (by omega)]; exact hc1_2_2) | (rw [fI_sI_k (by decide)]; exact hc1_2_2)
  refine x_iinc (q := 33) (v := 2) dX5_add_30 rfl rfl (by decide) (by decide) ?_
  refine x_goto (q := 14) dX5_add_33 (by decide) ?_
  refine x_iload_n (q := 15) dX5_add_14 rfl rfl rfl ?_
  refine x_iconst (q := 16) (v := 3) dX5_add_15 rfl (by decide) ?_
  refine x_ic_ge (q := 19) (t := 36) dX5_add_16 rfl (by decide) (fun c_ => absurd c_ (by decide)) (fun _ => ?_)
  refine x_aload_n (q := 20) dX5_add_19 rfl rfl rfl ?_
  refine x_aload_n (q := 21) dX5_add_20 rfl rfl rfl ?_
  refine x_get (q := 24) dX5_add_21 rfl f_X5_18 (cl_2 hS2) rfl (by decide) ?_
  rw [hc2_2_2]
  refine x_iload_n (q := 25) dX5_add_24 rfl rfl rfl ?_
  refine x_iload_n (q := 26) dX5_add_25 rfl rfl rfl ?_
  refine x_iload_n (q := 27) dX5_add_26 rfl rfl rfl ?_
  refine y_cvV (q := 30) dX5_add_27 rfl l_X5_22 (c_X5_tell hS2 z 2 _ _ hlt (by decide)) rfl rfl (cl_2 hS2) (by decide) rfl rfl rfl rfl ?_
  refine Vg.nm (fun h3 eh3 => ?_)
  have hS3 : Sh h3 := by rw [eh3]; exact (hS2.si _ _).si _ _
  have hc3_2_2 : fI h3 2 2 = nI (z) := by rw [eh3]; first | (simp only [fI_si, fI_sl, fI_sJ]; exact hc2_2_2) | (rw [fI_sI_ne (by omega)]; exact hc2_2_2) | (rw [fI_sI_k (by decide)]; exact hc2_2_2)
  refine x_iinc (q := 33) (v := 3) dX5_add_30 rfl rfl (by decide) (by decide) ?_
  refine x_goto (q := 14) dX5_add_33 (by decide) ?_
  refine x_iload_n (q := 15) dX5_add_14 rfl rfl rfl ?_
  refine x_iconst (q := 16) (v := 3) dX5_add_15 rfl (by decide) ?_
  refine x_ic_ge (q := 19) (t := 36) dX5_add_16 rfl (by decide) (fun _ => ?_) (fun c_ => absurd (by decide) c_)
  refine x_aload_n (q := 37) dX5_add_36 rfl rfl rfl ?_
  refine x_dup (q := 38) dX5_add_37 rfl rfl ?_
  refine x_get (q := 41) dX5_add_38 rfl f_X5_18 (cl_2 hS3) rfl (by decide) ?_
  rw [hc3_2_2]
  refine x_iconst (q := 42) (v := 1) dX5_add_41 rfl (by decide) ?_
  refine x_iadd (q := 43) dX5_add_42 rfl ?_
  refine y_put (q := 46) dX5_add_43 rfl f_X5_18 (cl_2 hS3) rfl (by first | rfl | decide) (by first | rfl | decide) (by decide) ?_
  refine Vg.nm (fun h4 eh4 => ?_)
  have hS4 : Sh h4 := by rw [eh4]; exact hS3.sI _ _ _
  refine x_aload_n (q := 47) dX5_add_46 rfl rfl rfl ?_
  refine x_get (q := 50) dX5_add_47 rfl f_X5_18 (cl_2 hS4) rfl (by decide) ?_
  refine x_iconst (q := 51) (v := 1) dX5_add_50 rfl (by decide) ?_
  refine x_isub (q := 52) dX5_add_51 rfl ?_
  exact x_iret dX5_add_52 ⟨_, rfl, by first | rfl | (split <;> rfl)⟩ rfl (Nat.le_refl _) rfl sorry

