theorem b01 {c : Prop} (hc : Decidable c) : (if c then (1 : Int32) else 0) = 1 ↔ c := by by_cases h : c <;> simp [h]
set_option maxHeartbeats 4000000 in
set_option maxRecDepth 100000 in
theorem c_X9_within {h : HF} (hS : Sh h) (v a b : Int32) : Mc mX9_within [.int v, .int a, .int b] 170 h (RI (if a ≤ v ∧ v ≤ b then 1 else 0) h) := by
  refine Mc.of (by decide) rfl (Nat.le_of_ble_eq_true rfl) ?_
  refine x_iload_n (q := 1) dX9_within_0 rfl rfl rfl ?_
  refine x_iload_n (q := 2) dX9_within_1 rfl rfl rfl ?_
  refine x_ic_lt (q := 5) (t := 14) dX9_within_2 rfl (by decide) (fun c_2 => ?_) (fun c_2 => ?_)
  · refine x_iconst (q := 15) (v := 0) dX9_within_14 rfl (by decide) ?_
    exact x_iret dX9_within_15 ⟨_, rfl, by first | rfl | (split <;> rfl)⟩ rfl (Nat.le_refl _) rfl ⟨by first | rfl | (split <;> first | rfl | (exfalso; simp only [Int32.le_iff_toInt_le, Int32.lt_iff_toInt_lt, Int32.reduceToInt] at *; omega)), rfl⟩
  · refine x_iload_n (q := 6) dX9_within_5 rfl rfl rfl ?_
    refine x_iload_n (q := 7) dX9_within_6 rfl rfl rfl ?_
    refine x_ic_gt (q := 10) (t := 14) dX9_within_7 rfl (by decide) (fun c_7 => ?_) (fun c_7 => ?_)
    · refine x_iconst (q := 15) (v := 0) dX9_within_14 rfl (by decide) ?_
      exact x_iret dX9_within_15 ⟨_, rfl, by first | rfl | (split <;> rfl)⟩ rfl (Nat.le_refl _) rfl ⟨by first | rfl | (split <;> first | rfl | (exfalso; simp only [Int32.le_iff_toInt_le, Int32.lt_iff_toInt_lt, Int32.reduceToInt] at *; omega)), rfl⟩
    · refine x_iconst (q := 11) (v := 1) dX9_within_10 rfl (by decide) ?_
      refine x_goto (q := 15) dX9_within_11 (by decide) ?_
      exact x_iret dX9_within_15 ⟨_, rfl, by first | rfl | (split <;> rfl)⟩ rfl (Nat.le_refl _) rfl ⟨by first | rfl | (split <;> first | rfl | (exfalso; simp only [Int32.le_iff_toInt_le, Int32.lt_iff_toInt_lt, Int32.reduceToInt] at *; omega)), rfl⟩

set_option maxHeartbeats 4000000 in
set_option maxRecDepth 100000 in
theorem c_X5_has {h : HF} (hS : Sh h) (v : Int32) : Mc mX5_has [.ref 2, .int v] 170 h (RI (if 0 ≤ v ∧ v < fI h 2 2 then 1 else 0) h) := by
  refine Mc.of (by decide) rfl (Nat.le_of_ble_eq_true rfl) ?_
  refine x_iload_n (q := 1) dX5_has_0 rfl rfl rfl ?_
  refine x_if_lt (q := 4) (t := 16) dX5_has_1 rfl (by decide) (fun c_1 => ?_) (fun c_1 => ?_)
  · refine x_iconst (q := 17) (v := 0) dX5_has_16 rfl (by decide) ?_
    exact x_iret dX5_has_17 ⟨_, rfl, by first | rfl | (split <;> rfl)⟩ rfl (Nat.le_refl _) rfl ⟨by first | rfl | (split <;> first | rfl | (exfalso; simp only [Int32.le_iff_toInt_le, Int32.lt_iff_toInt_lt, Int32.reduceToInt] at *; omega)), rfl⟩
  · refine x_iload_n (q := 5) dX5_has_4 rfl rfl rfl ?_
    refine x_aload_n (q := 6) dX5_has_5 rfl rfl rfl ?_
    refine x_get (q := 9) dX5_has_6 rfl f_X5_18 (cl_2 hS) rfl (by decide) ?_
    refine x_ic_ge (q := 12) (t := 16) dX5_has_9 rfl (by decide) (fun c_9 => ?_) (fun c_9 => ?_)
    · refine x_iconst (q := 17) (v := 0) dX5_has_16 rfl (by decide) ?_
      exact x_iret dX5_has_17 ⟨_, rfl, by first | rfl | (split <;> rfl)⟩ rfl (Nat.le_refl _) rfl ⟨by first | rfl | (split <;> first | rfl | (exfalso; simp only [Int32.le_iff_toInt_le, Int32.lt_iff_toInt_lt, Int32.reduceToInt] at *; omega)), rfl⟩
    · refine x_iconst (q := 13) (v := 1) dX5_has_12 rfl (by decide) ?_
      refine x_goto (q := 17) dX5_has_13 (by decide) ?_
      exact x_iret dX5_has_17 ⟨_, rfl, by first | rfl | (split <;> rfl)⟩ rfl (Nat.le_refl _) rfl ⟨by first | rfl | (split <;> first | rfl | (exfalso; simp only [Int32.le_iff_toInt_le, Int32.lt_iff_toInt_lt, Int32.reduceToInt] at *; omega)), rfl⟩

set_option maxHeartbeats 4000000 in
set_option maxRecDepth 100000 in
theorem c_X9_isStrength {h : HF} (hS : Sh h) (v : Int32) : Mc mX9_isStrength [.int v] 170 h (RI (if 0 ≤ v ∧ v ≤ 1000 then 1 else 0) h) := by
  refine Mc.of (by decide) rfl (Nat.le_of_ble_eq_true rfl) ?_
  refine x_iload_n (q := 1) dX9_isStrength_0 rfl rfl rfl ?_
  refine x_iconst (q := 2) (v := 0) dX9_isStrength_1 rfl (by decide) ?_
  refine x_sipush (q := 5) (v := 1000) dX9_isStrength_2 rfl (by decide) ?_
  refine y_csI (q := 8) dX9_isStrength_5 rfl l_X9_97 (c_X9_within hS _ _ _) rfl rfl rfl rfl rfl rfl ?_
  exact x_iret dX9_isStrength_8 ⟨_, rfl, by first | rfl | (split <;> rfl)⟩ rfl (Nat.le_refl _) rfl ⟨by first | rfl | (split <;> first | rfl | (exfalso; simp only [Int32.le_iff_toInt_le, Int32.lt_iff_toInt_lt, Int32.reduceToInt] at *; omega)), rfl⟩

set_option maxHeartbeats 4000000 in
set_option maxRecDepth 100000 in
theorem c_X5_tell {h : HF} (hS : Sh h) (b d x y : Int32) (hi : vp_in (b * 3 + d) 24) : Mc mX5_tell [.ref 2, .int b, .int d, .int x, .int y] 170 h (RV (si (si h 3 (upd (gi h 3) (b * 3 + d).toNatClampNeg x)) 4 (upd (gi h 4) (b * 3 + d).toNatClampNeg y))) := by
  refine Mc.of (by decide) rfl (Nat.le_of_ble_eq_true rfl) ?_
  refine x_aload_n (q := 1) dX5_tell_0 rfl rfl rfl ?_
  refine x_get (q := 4) dX5_tell_1 rfl f_X5_9 (cl_2 hS) rfl (by decide) ?_
  refine x_iload_n (q := 5) dX5_tell_4 rfl rfl rfl ?_
  refine x_iconst (q := 6) (v := 3) dX5_tell_5 rfl (by decide) ?_
  refine x_imul (q := 7) dX5_tell_6 rfl ?_
  refine x_iload_n (q := 8) dX5_tell_7 rfl rfl rfl ?_
  refine x_iadd (q := 9) dX5_tell_8 rfl ?_
  refine x_iload_n (q := 10) dX5_tell_9 rfl rfl rfl ?_
  refine y_iast (q := 11) dX5_tell_10 rfl (cl_3 hS) (by assumption) (by decide) ?_
  refine Vg.nm (fun h1 eh1 => ?_)
  have hS1 : Sh h1 := by rw [eh1]; exact hS.si _ _
  refine x_aload_n (q := 12) dX5_tell_11 rfl rfl rfl ?_
  refine x_get (q := 15) dX5_tell_12 rfl f_X5_15 (cl_2 hS1) rfl (by decide) ?_
  refine x_iload_n (q := 16) dX5_tell_15 rfl rfl rfl ?_
  refine x_iconst (q := 17) (v := 3) dX5_tell_16 rfl (by decide) ?_
  refine x_imul (q := 18) dX5_tell_17 rfl ?_
  refine x_iload_n (q := 19) dX5_tell_18 rfl rfl rfl ?_
  refine x_iadd (q := 20) dX5_tell_19 rfl ?_
  refine x_iload (q := 22) dX5_tell_20 rfl rfl ?_
  refine y_iast (q := 23) dX5_tell_22 rfl (cl_4 hS1) (by assumption) (by decide) ?_
  refine Vg.nm (fun h2 eh2 => ?_)
  have hS2 : Sh h2 := by rw [eh2]; exact hS1.si _ _
  exact x_vret dX5_tell_23 rfl rfl (Nat.le_refl _) rfl ⟨rfl, by subst_vars; simp only [gi_si_ne (show (4 : Nat) ≠ 3 by decide)]⟩

