theorem inB_lt {v : Int32} {n : Nat} (hn : n < 2147483648) : inB v 0 (nI n - 1) = ltB v (nI n) := by
  cases n with
  | zero =>
    have e1 : inB v 0 (nI 0 - 1) = false := by
      simp only [inB, Bool.and_eq_false_iff, decide_eq_false_iff_not]
      by_cases h0 : 0 ≤ v
      · refine Or.inr (fun h1 => ?_)
        have := Int32.le_trans h0 h1
        exact absurd this (by decide)
      · exact Or.inl h0
    have e2 : ltB v (nI 0) = false := by
      simp only [ltB, Bool.and_eq_false_iff, decide_eq_false_iff_not]
      by_cases h0 : 0 ≤ v
      · exact Or.inr (Int32.not_lt.mpr h0)
      · exact Or.inl h0
    rw [e1, e2]
  | succ k =>
    rw [nI_pred]
    by_cases h0 : 0 ≤ v
    · obtain ⟨j, hj, e⟩ := nI_of (x := v) (Int32.not_lt.mpr h0)
      subst e
      have : (nI j ≤ nI k) ↔ (nI j < nI (k + 1)) := by rw [nI_leI hj (by omega), nI_ltI hj hn]; omega
      simp only [inB, ltB, this]
    · simp only [inB, ltB, h0, decide_false, Bool.false_and]
set_option maxHeartbeats 4000000 in
set_option maxRecDepth 100000 in
theorem c_X10_in {h : HF} (hS : Sh h) (v a b : Int32) : Mc mX10_in [.int v, .int a, .int b] 170 h (RI (b2 (inB v a b)) h) := by
  rw [← inB_if]
  refine Mc.of (by decide) rfl (Nat.le_of_ble_eq_true rfl) ?_
  refine x_iload_n (q := 1) dX10_in_0 rfl rfl rfl ?_
  refine x_iload_n (q := 2) dX10_in_1 rfl rfl rfl ?_
  refine x_ic_lt (q := 5) (t := 14) dX10_in_2 rfl (by decide) (fun c_2 => ?_) (fun c_2 => ?_)
  · refine x_iconst (q := 15) (v := 0) dX10_in_14 rfl (by decide) ?_
    exact x_iret dX10_in_15 ⟨_, rfl, by first | rfl | (split <;> rfl)⟩ rfl (Nat.le_refl _) rfl ⟨by first | rfl | (split <;> first | rfl | (exfalso; simp only [Int32.le_iff_toInt_le, Int32.lt_iff_toInt_lt, Int32.reduceToInt] at *; omega)), rfl⟩
  · refine x_iload_n (q := 6) dX10_in_5 rfl rfl rfl ?_
    refine x_iload_n (q := 7) dX10_in_6 rfl rfl rfl ?_
    refine x_ic_gt (q := 10) (t := 14) dX10_in_7 rfl (by decide) (fun c_7 => ?_) (fun c_7 => ?_)
    · refine x_iconst (q := 15) (v := 0) dX10_in_14 rfl (by decide) ?_
      exact x_iret dX10_in_15 ⟨_, rfl, by first | rfl | (split <;> rfl)⟩ rfl (Nat.le_refl _) rfl ⟨by first | rfl | (split <;> first | rfl | (exfalso; simp only [Int32.le_iff_toInt_le, Int32.lt_iff_toInt_lt, Int32.reduceToInt] at *; omega)), rfl⟩
    · refine x_iconst (q := 11) (v := 1) dX10_in_10 rfl (by decide) ?_
      refine x_goto (q := 15) dX10_in_11 (by decide) ?_
      exact x_iret dX10_in_15 ⟨_, rfl, by first | rfl | (split <;> rfl)⟩ rfl (Nat.le_refl _) rfl ⟨by first | rfl | (split <;> first | rfl | (exfalso; simp only [Int32.le_iff_toInt_le, Int32.lt_iff_toInt_lt, Int32.reduceToInt] at *; omega)), rfl⟩

theorem c_X10_inL {h : HF} (hS : Sh h) (v : Int32) (n : Nat) (hn : n < 2147483648) : Mc mX10_in [.int v, .int 0, .int (nI n - 1)] 170 h (RI (b2 (ltB v (nI n))) h) := by
  have t := c_X10_in hS v 0 (nI n - 1)
  rw [inB_lt hn] at t
  exact t
theorem nb2 (b : Bool) : narrow .boolean (.int (b2 b)) = .int (b2 b) := by cases b <;> rfl
set_option maxHeartbeats 4000000 in
set_option maxRecDepth 100000 in
theorem c_X10_isBase {h : HF} (hS : Sh h) (v : Int32) (nb : Nat) (hnb : fI h 132 1 = nI nb) (hnb8 : nb ≤ 8) : Mc mX10_isBase [.ref 132, .int v] 170 h (RI (b2 (ltB v (nI nb))) h) := by
  refine Mc.of (by decide) rfl (Nat.le_of_ble_eq_true rfl) ?_
  refine x_iload_n (q := 1) dX10_isBase_0 rfl rfl rfl ?_
  refine x_iconst (q := 2) (v := 0) dX10_isBase_1 rfl (by decide) ?_
  refine x_aload_n (q := 3) dX10_isBase_2 rfl rfl rfl ?_
  refine x_get (q := 6) dX10_isBase_3 rfl f_X10_130 (cl_132 hS) rfl (by decide) ?_
  rw [hnb]
  refine x_iconst (q := 7) (v := 1) dX10_isBase_6 rfl (by decide) ?_
  refine x_isub (q := 8) dX10_isBase_7 rfl ?_
  refine y_csI (q := 11) dX10_isBase_8 rfl l_X10_133 (c_X10_inL hS _ nb (by omega)) rfl rfl rfl rfl rfl rfl ?_
  exact x_iret dX10_isBase_11 ⟨_, rfl, nb2 _⟩ rfl (Nat.le_refl _) rfl ⟨rfl, rfl⟩

set_option maxHeartbeats 4000000 in
set_option maxRecDepth 100000 in
theorem c_X10_isBatch {h : HF} (hS : Sh h) (v : Int32) (nt : Nat) (hnt : fI h 132 15 = nI nt) (hnt24 : nt ≤ 24) : Mc mX10_isBatch [.ref 132, .int v] 170 h (RI (b2 (ltB v (nI nt))) h) := by
  refine Mc.of (by decide) rfl (Nat.le_of_ble_eq_true rfl) ?_
  refine x_iload_n (q := 1) dX10_isBatch_0 rfl rfl rfl ?_
  refine x_iconst (q := 2) (v := 0) dX10_isBatch_1 rfl (by decide) ?_
  refine x_aload_n (q := 3) dX10_isBatch_2 rfl rfl rfl ?_
  refine x_get (q := 6) dX10_isBatch_3 rfl f_X10_137 (cl_132 hS) rfl (by decide) ?_
  rw [hnt]
  refine x_iconst (q := 7) (v := 1) dX10_isBatch_6 rfl (by decide) ?_
  refine x_isub (q := 8) dX10_isBatch_7 rfl ?_
  refine y_csI (q := 11) dX10_isBatch_8 rfl l_X10_133 (c_X10_inL hS _ nt (by omega)) rfl rfl rfl rfl rfl rfl ?_
  exact x_iret dX10_isBatch_11 ⟨_, rfl, nb2 _⟩ rfl (Nat.le_refl _) rfl ⟨rfl, rfl⟩

set_option maxHeartbeats 4000000 in
set_option maxRecDepth 100000 in
theorem c_X10_isTank {h : HF} (hS : Sh h) (v : Int32) : Mc mX10_isTank [.int v] 170 h (RI (b2 (inB v 0 4)) h) := by
  refine Mc.of (by decide) rfl (Nat.le_of_ble_eq_true rfl) ?_
  refine x_iload_n (q := 1) dX10_isTank_0 rfl rfl rfl ?_
  refine x_iconst (q := 2) (v := 0) dX10_isTank_1 rfl (by decide) ?_
  refine x_iconst (q := 3) (v := 4) dX10_isTank_2 rfl (by decide) ?_
  refine y_csI (q := 6) dX10_isTank_3 rfl l_X10_133 (c_X10_in hS _ _ _) rfl rfl rfl rfl rfl rfl ?_
  exact x_iret dX10_isTank_6 ⟨_, rfl, nb2 _⟩ rfl (Nat.le_refl _) rfl ⟨rfl, rfl⟩

set_option maxHeartbeats 4000000 in
set_option maxRecDepth 100000 in
theorem c_X10_isHue {h : HF} (hS : Sh h) (v : Int32) : Mc mX10_isHue [.int v] 170 h (RI (b2 (inB v 0 5)) h) := by
  refine Mc.of (by decide) rfl (Nat.le_of_ble_eq_true rfl) ?_
  refine x_iload_n (q := 1) dX10_isHue_0 rfl rfl rfl ?_
  refine x_iconst (q := 2) (v := 0) dX10_isHue_1 rfl (by decide) ?_
  refine x_iconst (q := 3) (v := 5) dX10_isHue_2 rfl (by decide) ?_
  refine y_csI (q := 6) dX10_isHue_3 rfl l_X10_133 (c_X10_in hS _ _ _) rfl rfl rfl rfl rfl rfl ?_
  exact x_iret dX10_isHue_6 ⟨_, rfl, nb2 _⟩ rfl (Nat.le_refl _) rfl ⟨rfl, rfl⟩

theorem aimB_eq (x y z : Int32) : aimB x y z = (inB x 0 1000000 && (inB y 0 1000000 && inB z 0 1000000)) := by simp only [aimB, inB, Bool.decide_and]
set_option maxHeartbeats 4000000 in
set_option maxRecDepth 100000 in
theorem c_X10_isAim {h : HF} (hS : Sh h) (x y z : Int32) : Mc mX10_isAim [.int x, .int y, .int z] 170 h (RI (b2 (aimB x y z)) h) := by
  refine Mc.of (by decide) rfl (Nat.le_of_ble_eq_true rfl) ?_
  refine x_iload_n (q := 1) dX10_isAim_0 rfl rfl rfl ?_
  refine x_iconst (q := 2) (v := 0) dX10_isAim_1 rfl (by decide) ?_
  refine x_ldc (q := 4) dX10_isAim_2 rfl v_X10_175 ?_
  refine y_csI (q := 7) dX10_isAim_4 rfl l_X10_133 (c_X10_in hS _ _ _) rfl rfl rfl rfl rfl rfl ?_
  refine x_if_eq (q := 10) (t := 34) dX10_isAim_7 rfl (by decide) (fun c_7 => ?_) (fun c_7 => ?_)
  · replace c_7 := b2n c_7
    refine x_iconst (q := 35) (v := 0) dX10_isAim_34 rfl (by decide) ?_
    exact x_iret dX10_isAim_35 ⟨_, rfl, by first | rfl | (split <;> rfl)⟩ rfl (Nat.le_refl _) rfl ⟨by rw [aimB_eq]; simp [b2, c_7], rfl⟩
  · replace c_7 := b2y c_7
    refine x_iload_n (q := 11) dX10_isAim_10 rfl rfl rfl ?_
    refine x_iconst (q := 12) (v := 0) dX10_isAim_11 rfl (by decide) ?_
    refine x_ldc (q := 14) dX10_isAim_12 rfl v_X10_175 ?_
    refine y_csI (q := 17) dX10_isAim_14 rfl l_X10_133 (c_X10_in hS _ _ _) rfl rfl rfl rfl rfl rfl ?_
    refine x_if_eq (q := 20) (t := 34) dX10_isAim_17 rfl (by decide) (fun c_17 => ?_) (fun c_17 => ?_)
    · replace c_17 := b2n c_17
      refine x_iconst (q := 35) (v := 0) dX10_isAim_34 rfl (by decide) ?_
      exact x_iret dX10_isAim_35 ⟨_, rfl, by first | rfl | (split <;> rfl)⟩ rfl (Nat.le_refl _) rfl ⟨by rw [aimB_eq]; simp [b2, c_7, c_17], rfl⟩
    · replace c_17 := b2y c_17
      refine x_iload_n (q := 21) dX10_isAim_20 rfl rfl rfl ?_
      refine x_iconst (q := 22) (v := 0) dX10_isAim_21 rfl (by decide) ?_
      refine x_ldc (q := 24) dX10_isAim_22 rfl v_X10_175 ?_
      refine y_csI (q := 27) dX10_isAim_24 rfl l_X10_133 (c_X10_in hS _ _ _) rfl rfl rfl rfl rfl rfl ?_
      refine x_if_eq (q := 30) (t := 34) dX10_isAim_27 rfl (by decide) (fun c_27 => ?_) (fun c_27 => ?_)
      · replace c_27 := b2n c_27
        refine x_iconst (q := 35) (v := 0) dX10_isAim_34 rfl (by decide) ?_
        exact x_iret dX10_isAim_35 ⟨_, rfl, by first | rfl | (split <;> rfl)⟩ rfl (Nat.le_refl _) rfl ⟨by rw [aimB_eq]; simp [b2, c_7, c_17, c_27], rfl⟩
      · replace c_27 := b2y c_27
        refine x_iconst (q := 31) (v := 1) dX10_isAim_30 rfl (by decide) ?_
        refine x_goto (q := 35) dX10_isAim_31 (by decide) ?_
        exact x_iret dX10_isAim_35 ⟨_, rfl, by first | rfl | (split <;> rfl)⟩ rfl (Nat.le_refl _) rfl ⟨by rw [aimB_eq]; simp [b2, c_7, c_17, c_27], rfl⟩

def mtF (h : HF) (d nb : Nat) (x y : Int32) : HF := si (si h 133 (upd (gi h 133) (8 * d + nb) x)) 134 (upd (gi h 134) (8 * d + nb) y)
def mBase (h : HF) (a b : Int32) (nb : Nat) : HF := if inB a 0 1000 = true then if inB b 0 1000 = true then if nb < 8 then sI (mtF (mtF (mtF h 0 nb a b) 1 nb a b) 2 nb a b) 132 1 (nI (nb + 1)) else h else h else h
theorem Sh.mt {h : HF} (hS : Sh h) (d nb : Nat) (x y : Int32) : Sh (mtF h d nb x y) := (hS.si _ _).si _ _
set_option maxHeartbeats 4000000 in
set_option maxRecDepth 100000 in
theorem c_X10_base_full {h : HF} (hS : Sh h) (a b : Int32) (hnb : fI h 132 1 = nI 8) : Mc mX10_base [.ref 132, .int a, .int b] 170 h (RI (vBase a b 8) (mBase h a b 8)) := by
  refine Mc.of (by decide) rfl (Nat.le_of_ble_eq_true rfl) ?_
  refine x_iload_n (q := 1) dX10_base_0 rfl rfl rfl ?_
  refine x_iconst (q := 2) (v := 0) dX10_base_1 rfl (by decide) ?_
  refine x_sipush (q := 5) (v := 1000) dX10_base_2 rfl (by decide) ?_
  refine y_csI (q := 8) dX10_base_5 rfl l_X10_133 (c_X10_in hS _ _ _) rfl rfl rfl rfl rfl rfl ?_
  refine x_if_eq (q := 11) (t := 22) dX10_base_8 rfl (by decide) (fun c_8 => ?_) (fun c_8 => ?_)
  · replace c_8 := b2n c_8
    refine x_bipush (q := 24) (v := -3) dX10_base_22 rfl (by decide) ?_
    exact x_iret dX10_base_24 ⟨_, rfl, by first | rfl | (split <;> rfl)⟩ rfl (Nat.le_refl _) rfl ⟨by simp [vBase, cap8, c_8], by simp [mBase, c_8]⟩
  · replace c_8 := b2y c_8
    refine x_iload_n (q := 12) dX10_base_11 rfl rfl rfl ?_
    refine x_iconst (q := 13) (v := 0) dX10_base_12 rfl (by decide) ?_
    refine x_sipush (q := 16) (v := 1000) dX10_base_13 rfl (by decide) ?_
    refine y_csI (q := 19) dX10_base_16 rfl l_X10_133 (c_X10_in hS _ _ _) rfl rfl rfl rfl rfl rfl ?_
    refine x_if_ne (q := 22) (t := 25) dX10_base_19 rfl (by decide) (fun c_19 => ?_) (fun c_19 => ?_)
    · replace c_19 := b2y c_19
      refine x_aload_n (q := 26) dX10_base_25 rfl rfl rfl ?_
      refine x_get (q := 29) dX10_base_26 rfl f_X10_130 (cl_132 hS) rfl (by decide) ?_
      rw [hnb]
      refine x_bipush (q := 31) (v := 8) dX10_base_29 rfl (by decide) ?_
      refine x_ic_ne (q := 34) (t := 37) dX10_base_31 rfl (by decide) (fun c_ => absurd c_ (fun z => z rfl)) (fun _ => ?_)
      refine x_bipush (q := 36) (v := -6) dX10_base_34 rfl (by decide) ?_
      exact x_iret dX10_base_36 ⟨_, rfl, by first | rfl | (split <;> rfl)⟩ rfl (Nat.le_refl _) rfl ⟨by simp [vBase, cap8, c_8, c_19], by simp [mBase, c_8, c_19]⟩
    · replace c_19 := b2n c_19
      refine x_bipush (q := 24) (v := -3) dX10_base_22 rfl (by decide) ?_
      exact x_iret dX10_base_24 ⟨_, rfl, by first | rfl | (split <;> rfl)⟩ rfl (Nat.le_refl _) rfl ⟨by simp [vBase, cap8, c_8, c_19], by simp [mBase, c_8, c_19]⟩

set_option maxHeartbeats 4000000 in
set_option maxRecDepth 100000 in
theorem c_X10_base {h : HF} (hS : Sh h) (a b : Int32) (nb : Nat) (hnb : fI h 132 1 = nI nb) (hlt : nb < 8) : Mc mX10_base [.ref 132, .int a, .int b] 170 h (RI (vBase a b nb) (mBase h a b nb)) := by
  refine Mc.of (by decide) rfl (Nat.le_of_ble_eq_true rfl) ?_
  refine x_iload_n (q := 1) dX10_base_0 rfl rfl rfl ?_
  refine x_iconst (q := 2) (v := 0) dX10_base_1 rfl (by decide) ?_
  refine x_sipush (q := 5) (v := 1000) dX10_base_2 rfl (by decide) ?_
  refine y_csI (q := 8) dX10_base_5 rfl l_X10_133 (c_X10_in hS _ _ _) rfl rfl rfl rfl rfl rfl ?_
  refine x_if_eq (q := 11) (t := 22) dX10_base_8 rfl (by decide) (fun c_8 => ?_) (fun c_8 => ?_)
  · replace c_8 := b2n c_8
    refine x_bipush (q := 24) (v := -3) dX10_base_22 rfl (by decide) ?_
    exact x_iret dX10_base_24 ⟨_, rfl, by first | rfl | (split <;> rfl)⟩ rfl (Nat.le_refl _) rfl ⟨by simp [vBase, cap8, hlt, c_8], by simp [mBase, hlt, c_8]⟩
  · replace c_8 := b2y c_8
    refine x_iload_n (q := 12) dX10_base_11 rfl rfl rfl ?_
    refine x_iconst (q := 13) (v := 0) dX10_base_12 rfl (by decide) ?_
    refine x_sipush (q := 16) (v := 1000) dX10_base_13 rfl (by decide) ?_
    refine y_csI (q := 19) dX10_base_16 rfl l_X10_133 (c_X10_in hS _ _ _) rfl rfl rfl rfl rfl rfl ?_
    refine x_if_ne (q := 22) (t := 25) dX10_base_19 rfl (by decide) (fun c_19 => ?_) (fun c_19 => ?_)
    · replace c_19 := b2y c_19
      refine x_aload_n (q := 26) dX10_base_25 rfl rfl rfl ?_
      refine x_get (q := 29) dX10_base_26 rfl f_X10_130 (cl_132 hS) rfl (by decide) ?_
      rw [hnb]
      refine x_bipush (q := 31) (v := 8) dX10_base_29 rfl (by decide) ?_
      refine x_ic_ne (q := 34) (t := 37) dX10_base_31 rfl (by decide) (fun _ => ?_) (fun c_ => absurd c_ (fun e => absurd ((nI_eq (by omega) (by omega)).mp (show nI nb = nI 8 from e)) (by omega)))
      refine x_iconst (q := 38) (v := 0) dX10_base_37 rfl (by decide) ?_
      refine x_istore_n (q := 39) dX10_base_38 rfl rfl (by decide) ?_
      refine x_iload_n (q := 40) dX10_base_39 rfl rfl rfl ?_
      refine x_iconst (q := 41) (v := 3) dX10_base_40 rfl (by decide) ?_
      refine x_ic_ge (q := 44) (t := 80) dX10_base_41 rfl (by decide) (fun c_ => absurd c_ (by decide)) (fun _ => ?_)
      refine x_aload_n (q := 45) dX10_base_44 rfl rfl rfl ?_
      refine x_get (q := 48) dX10_base_45 rfl f_X10_7 (cl_132 hS) rfl (by decide) ?_
      refine x_bipush (q := 50) (v := 8) dX10_base_48 rfl (by decide) ?_
      refine x_iload_n (q := 51) dX10_base_50 rfl rfl rfl ?_
      refine x_imul (q := 52) dX10_base_51 rfl ?_
      refine x_aload_n (q := 53) dX10_base_52 rfl rfl rfl ?_
      refine x_get (q := 56) dX10_base_53 rfl f_X10_130 (cl_132 hS) rfl (by decide) ?_
      rw [hnb]
      refine x_iadd (q := 57) dX10_base_56 rfl ?_
      rw [show (8 : Int32) * 0 + nI nb = nI (8 * 0 + nb) from ux8 0 nb]
      refine x_iload_n (q := 58) dX10_base_57 rfl rfl rfl ?_
      refine z_iast (q := 59) (j := 8 * 0 + nb) dX10_base_58 rfl (cl_133 hS) (by omega) (by decide) (by decide) ?_
      refine Vg.nm (fun h1 eh1 => ?_)
      have hS1 : Sh h1 := by rw [eh1]; exact hS.si _ _
      have hc1_132_1 : fI h1 132 1 = nI (nb) := by rw [eh1]; first | (simp only [fI_si, fI_sl, fI_sJ]; exact hnb) | (rw [fI_sI_ne (by omega)]; exact hnb) | (rw [fI_sI_k (by decide)]; exact hnb) | (simp (disch := omega) only [mixAdd, fI_si, fI_sl, fI_sJ, fI_sI_ne, fI_sI_k]; exact hnb)
      refine x_aload_n (q := 60) dX10_base_59 rfl rfl rfl ?_
      refine x_get (q := 63) dX10_base_60 rfl f_X10_13 (cl_132 hS1) rfl (by decide) ?_
      refine x_bipush (q := 65) (v := 8) dX10_base_63 rfl (by decide) ?_
      refine x_iload_n (q := 66) dX10_base_65 rfl rfl rfl ?_
      refine x_imul (q := 67) dX10_base_66 rfl ?_
      refine x_aload_n (q := 68) dX10_base_67 rfl rfl rfl ?_
      refine x_get (q := 71) dX10_base_68 rfl f_X10_130 (cl_132 hS1) rfl (by decide) ?_
      rw [hc1_132_1]
      refine x_iadd (q := 72) dX10_base_71 rfl ?_
      rw [show (8 : Int32) * 0 + nI nb = nI (8 * 0 + nb) from ux8 0 nb]
      refine x_iload_n (q := 73) dX10_base_72 rfl rfl rfl ?_
      refine z_iast (q := 74) (j := 8 * 0 + nb) dX10_base_73 rfl (cl_134 hS1) (by omega) (by decide) (by decide) ?_
      refine Vg.nm (fun h2 eh2 => ?_)
      have hS2 : Sh h2 := by rw [eh2]; exact hS1.si _ _
      have hc2_132_1 : fI h2 132 1 = nI (nb) := by rw [eh2]; first | (simp only [fI_si, fI_sl, fI_sJ]; exact hc1_132_1) | (rw [fI_sI_ne (by omega)]; exact hc1_132_1) | (rw [fI_sI_k (by decide)]; exact hc1_132_1) | (simp (disch := omega) only [mixAdd, fI_si, fI_sl, fI_sJ, fI_sI_ne, fI_sI_k]; exact hc1_132_1)
      refine x_iinc (q := 77) (v := 1) dX10_base_74 rfl rfl (by decide) (by decide) ?_
      refine x_goto (q := 39) dX10_base_77 (by decide) ?_
      refine x_iload_n (q := 40) dX10_base_39 rfl rfl rfl ?_
      refine x_iconst (q := 41) (v := 3) dX10_base_40 rfl (by decide) ?_
      refine x_ic_ge (q := 44) (t := 80) dX10_base_41 rfl (by decide) (fun c_ => absurd c_ (by decide)) (fun _ => ?_)
      refine x_aload_n (q := 45) dX10_base_44 rfl rfl rfl ?_
      refine x_get (q := 48) dX10_base_45 rfl f_X10_7 (cl_132 hS2) rfl (by decide) ?_
      refine x_bipush (q := 50) (v := 8) dX10_base_48 rfl (by decide) ?_
      refine x_iload_n (q := 51) dX10_base_50 rfl rfl rfl ?_
      refine x_imul (q := 52) dX10_base_51 rfl ?_
      refine x_aload_n (q := 53) dX10_base_52 rfl rfl rfl ?_
      refine x_get (q := 56) dX10_base_53 rfl f_X10_130 (cl_132 hS2) rfl (by decide) ?_
      rw [hc2_132_1]
      refine x_iadd (q := 57) dX10_base_56 rfl ?_
      rw [show (8 : Int32) * 1 + nI nb = nI (8 * 1 + nb) from ux8 1 nb]
      refine x_iload_n (q := 58) dX10_base_57 rfl rfl rfl ?_
      refine z_iast (q := 59) (j := 8 * 1 + nb) dX10_base_58 rfl (cl_133 hS2) (by omega) (by decide) (by decide) ?_
      refine Vg.nm (fun h3 eh3 => ?_)
      have hS3 : Sh h3 := by rw [eh3]; exact hS2.si _ _
      have hc3_132_1 : fI h3 132 1 = nI (nb) := by rw [eh3]; first | (simp only [fI_si, fI_sl, fI_sJ]; exact hc2_132_1) | (rw [fI_sI_ne (by omega)]; exact hc2_132_1) | (rw [fI_sI_k (by decide)]; exact hc2_132_1) | (simp (disch := omega) only [mixAdd, fI_si, fI_sl, fI_sJ, fI_sI_ne, fI_sI_k]; exact hc2_132_1)
      refine x_aload_n (q := 60) dX10_base_59 rfl rfl rfl ?_
      refine x_get (q := 63) dX10_base_60 rfl f_X10_13 (cl_132 hS3) rfl (by decide) ?_
      refine x_bipush (q := 65) (v := 8) dX10_base_63 rfl (by decide) ?_
      refine x_iload_n (q := 66) dX10_base_65 rfl rfl rfl ?_
      refine x_imul (q := 67) dX10_base_66 rfl ?_
      refine x_aload_n (q := 68) dX10_base_67 rfl rfl rfl ?_
      refine x_get (q := 71) dX10_base_68 rfl f_X10_130 (cl_132 hS3) rfl (by decide) ?_
      rw [hc3_132_1]
      refine x_iadd (q := 72) dX10_base_71 rfl ?_
      rw [show (8 : Int32) * 1 + nI nb = nI (8 * 1 + nb) from ux8 1 nb]
      refine x_iload_n (q := 73) dX10_base_72 rfl rfl rfl ?_
      refine z_iast (q := 74) (j := 8 * 1 + nb) dX10_base_73 rfl (cl_134 hS3) (by omega) (by decide) (by decide) ?_
      refine Vg.nm (fun h4 eh4 => ?_)
      have hS4 : Sh h4 := by rw [eh4]; exact hS3.si _ _
      have hc4_132_1 : fI h4 132 1 = nI (nb) := by rw [eh4]; first | (simp only [fI_si, fI_sl, fI_sJ]; exact hc3_132_1) | (rw [fI_sI_ne (by omega)]; exact hc3_132_1) | (rw [fI_sI_k (by decide)]; exact hc3_132_1) | (simp (disch := omega) only [mixAdd, fI_si, fI_sl, fI_sJ, fI_sI_ne, fI_sI_k]; exact hc3_132_1)
      refine x_iinc (q := 77) (v := 2) dX10_base_74 rfl rfl (by decide) (by decide) ?_
      refine x_goto (q := 39) dX10_base_77 (by decide) ?_
      refine x_iload_n (q := 40) dX10_base_39 rfl rfl rfl ?_
      refine x_iconst (q := 41) (v := 3) dX10_base_40 rfl (by decide) ?_
      refine x_ic_ge (q := 44) (t := 80) dX10_base_41 rfl (by decide) (fun c_ => absurd c_ (by decide)) (fun _ => ?_)
      refine x_aload_n (q := 45) dX10_base_44 rfl rfl rfl ?_
      refine x_get (q := 48) dX10_base_45 rfl f_X10_7 (cl_132 hS4) rfl (by decide) ?_
      refine x_bipush (q := 50) (v := 8) dX10_base_48 rfl (by decide) ?_
      refine x_iload_n (q := 51) dX10_base_50 rfl rfl rfl ?_
      refine x_imul (q := 52) dX10_base_51 rfl ?_
      refine x_aload_n (q := 53) dX10_base_52 rfl rfl rfl ?_
      refine x_get (q := 56) dX10_base_53 rfl f_X10_130 (cl_132 hS4) rfl (by decide) ?_
      rw [hc4_132_1]
      refine x_iadd (q := 57) dX10_base_56 rfl ?_
      rw [show (8 : Int32) * 2 + nI nb = nI (8 * 2 + nb) from ux8 2 nb]
      refine x_iload_n (q := 58) dX10_base_57 rfl rfl rfl ?_
      refine z_iast (q := 59) (j := 8 * 2 + nb) dX10_base_58 rfl (cl_133 hS4) (by omega) (by decide) (by decide) ?_
      refine Vg.nm (fun h5 eh5 => ?_)
      have hS5 : Sh h5 := by rw [eh5]; exact hS4.si _ _
      have hc5_132_1 : fI h5 132 1 = nI (nb) := by rw [eh5]; first | (simp only [fI_si, fI_sl, fI_sJ]; exact hc4_132_1) | (rw [fI_sI_ne (by omega)]; exact hc4_132_1) | (rw [fI_sI_k (by decide)]; exact hc4_132_1) | (simp (disch := omega) only [mixAdd, fI_si, fI_sl, fI_sJ, fI_sI_ne, fI_sI_k]; exact hc4_132_1)
      refine x_aload_n (q := 60) dX10_base_59 rfl rfl rfl ?_
      refine x_get (q := 63) dX10_base_60 rfl f_X10_13 (cl_132 hS5) rfl (by decide) ?_
      refine x_bipush (q := 65) (v := 8) dX10_base_63 rfl (by decide) ?_
      refine x_iload_n (q := 66) dX10_base_65 rfl rfl rfl ?_
      refine x_imul (q := 67) dX10_base_66 rfl ?_
      refine x_aload_n (q := 68) dX10_base_67 rfl rfl rfl ?_
      refine x_get (q := 71) dX10_base_68 rfl f_X10_130 (cl_132 hS5) rfl (by decide) ?_
      rw [hc5_132_1]
      refine x_iadd (q := 72) dX10_base_71 rfl ?_
      rw [show (8 : Int32) * 2 + nI nb = nI (8 * 2 + nb) from ux8 2 nb]
      refine x_iload_n (q := 73) dX10_base_72 rfl rfl rfl ?_
      refine z_iast (q := 74) (j := 8 * 2 + nb) dX10_base_73 rfl (cl_134 hS5) (by omega) (by decide) (by decide) ?_
      refine Vg.nm (fun h6 eh6 => ?_)
      have hS6 : Sh h6 := by rw [eh6]; exact hS5.si _ _
      have hc6_132_1 : fI h6 132 1 = nI (nb) := by rw [eh6]; first | (simp only [fI_si, fI_sl, fI_sJ]; exact hc5_132_1) | (rw [fI_sI_ne (by omega)]; exact hc5_132_1) | (rw [fI_sI_k (by decide)]; exact hc5_132_1) | (simp (disch := omega) only [mixAdd, fI_si, fI_sl, fI_sJ, fI_sI_ne, fI_sI_k]; exact hc5_132_1)
      refine x_iinc (q := 77) (v := 3) dX10_base_74 rfl rfl (by decide) (by decide) ?_
      refine x_goto (q := 39) dX10_base_77 (by decide) ?_
      refine x_iload_n (q := 40) dX10_base_39 rfl rfl rfl ?_
      refine x_iconst (q := 41) (v := 3) dX10_base_40 rfl (by decide) ?_
      refine x_ic_ge (q := 44) (t := 80) dX10_base_41 rfl (by decide) (fun _ => ?_) (fun c_ => absurd (by decide) c_)
      refine x_aload_n (q := 81) dX10_base_80 rfl rfl rfl ?_
      refine x_dup (q := 82) dX10_base_81 rfl rfl ?_
      refine x_get (q := 85) dX10_base_82 rfl f_X10_130 (cl_132 hS6) rfl (by decide) ?_
      rw [hc6_132_1]
      refine x_iconst (q := 86) (v := 1) dX10_base_85 rfl (by decide) ?_
      refine x_iadd (q := 87) dX10_base_86 rfl ?_
      rw [nI_1 (nb)]
      refine y_put (q := 90) dX10_base_87 rfl f_X10_130 (cl_132 hS6) rfl (by first | rfl | decide) (by first | rfl | decide) (by decide) ?_
      refine Vg.nm (fun h7 eh7 => ?_)
      have hS7 : Sh h7 := by rw [eh7]; exact hS6.sI _ _ _
      have hc7_132_1 : fI h7 132 1 = nI (nb + 1) := by rw [eh7]; exact fI_sI_eq hS6 (by decide) (by decide) rfl _
      refine x_aload_n (q := 91) dX10_base_90 rfl rfl rfl ?_
      refine x_get (q := 94) dX10_base_91 rfl f_X10_130 (cl_132 hS7) rfl (by decide) ?_
      rw [hc7_132_1]
      refine x_iconst (q := 95) (v := 1) dX10_base_94 rfl (by decide) ?_
      refine x_isub (q := 96) dX10_base_95 rfl ?_
      rw [nI_pred (nb)]
      exact x_iret dX10_base_96 ⟨_, rfl, by first | rfl | (split <;> rfl)⟩ rfl (Nat.le_refl _) rfl ⟨by simp [vBase, cap8, hlt, c_8, c_19], by simp only [mBase, c_8, c_19, if_true, hlt]; subst_vars; simp (disch := decide) only [mtF, gi_si_ne]⟩
    · replace c_19 := b2n c_19
      refine x_bipush (q := 24) (v := -3) dX10_base_22 rfl (by decide) ?_
      exact x_iret dX10_base_24 ⟨_, rfl, by first | rfl | (split <;> rfl)⟩ rfl (Nat.le_refl _) rfl ⟨by simp [vBase, cap8, hlt, c_8, c_19], by simp [mBase, hlt, c_8, c_19]⟩

def mBand (h : HF) (b d x y : Int32) (nb : Nat) : HF := if ltB b (nI nb) = true then if inB d 0 2 = true then if inB x 0 1000 = true then if inB y 0 1000 = true then mtF h d.toNatClampNeg b.toNatClampNeg x y else h else h else h else h
set_option maxHeartbeats 4000000 in
set_option maxRecDepth 100000 in
theorem c_X10_band {h : HF} (hS : Sh h) (b d x y : Int32) (nb : Nat) (hnb : fI h 132 1 = nI nb) (hnb8 : nb ≤ 8) : Mc mX10_band [.ref 132, .int b, .int d, .int x, .int y] 170 h (RI (vBand b d x y nb) (mBand h b d x y nb)) := by
  refine Mc.of (by decide) rfl (Nat.le_of_ble_eq_true rfl) ?_
  refine x_aload_n (q := 1) dX10_band_0 rfl rfl rfl ?_
  refine x_iload_n (q := 2) dX10_band_1 rfl rfl rfl ?_
  refine y_cvI (q := 5) dX10_band_2 rfl l_X10_140 (c_X10_isBase hS _ nb hnb hnb8) rfl rfl (cl_132 hS) (by decide) rfl rfl rfl rfl ?_
  refine x_if_eq (q := 8) (t := 17) dX10_band_5 rfl (by decide) (fun c_5 => ?_) (fun c_5 => ?_)
  · replace c_5 := b2n c_5
    refine x_bipush (q := 19) (v := -2) dX10_band_17 rfl (by decide) ?_
    exact x_iret dX10_band_19 ⟨_, rfl, by first | rfl | (split <;> rfl)⟩ rfl (Nat.le_refl _) rfl ⟨by simp [vBand, c_5], by simp [mBand, c_5]⟩
  · replace c_5 := b2y c_5
    refine x_iload_n (q := 9) dX10_band_8 rfl rfl rfl ?_
    refine x_iconst (q := 10) (v := 0) dX10_band_9 rfl (by decide) ?_
    refine x_iconst (q := 11) (v := 2) dX10_band_10 rfl (by decide) ?_
    refine y_csI (q := 14) dX10_band_11 rfl l_X10_133 (c_X10_in hS _ _ _) rfl rfl rfl rfl rfl rfl ?_
    refine x_if_ne (q := 17) (t := 20) dX10_band_14 rfl (by decide) (fun c_14 => ?_) (fun c_14 => ?_)
    · replace c_14 := b2y c_14
      refine x_iload_n (q := 21) dX10_band_20 rfl rfl rfl ?_
      refine x_iconst (q := 22) (v := 0) dX10_band_21 rfl (by decide) ?_
      refine x_sipush (q := 25) (v := 1000) dX10_band_22 rfl (by decide) ?_
      refine y_csI (q := 28) dX10_band_25 rfl l_X10_133 (c_X10_in hS _ _ _) rfl rfl rfl rfl rfl rfl ?_
      refine x_if_eq (q := 31) (t := 43) dX10_band_28 rfl (by decide) (fun c_28 => ?_) (fun c_28 => ?_)
      · replace c_28 := b2n c_28
        refine x_bipush (q := 45) (v := -3) dX10_band_43 rfl (by decide) ?_
        exact x_iret dX10_band_45 ⟨_, rfl, by first | rfl | (split <;> rfl)⟩ rfl (Nat.le_refl _) rfl ⟨by simp [vBand, c_5, c_14, c_28], by simp [mBand, c_5, c_14, c_28]⟩
      · replace c_28 := b2y c_28
        refine x_iload (q := 33) dX10_band_31 rfl rfl ?_
        refine x_iconst (q := 34) (v := 0) dX10_band_33 rfl (by decide) ?_
        refine x_sipush (q := 37) (v := 1000) dX10_band_34 rfl (by decide) ?_
        refine y_csI (q := 40) dX10_band_37 rfl l_X10_133 (c_X10_in hS _ _ _) rfl rfl rfl rfl rfl rfl ?_
        refine x_if_ne (q := 43) (t := 46) dX10_band_40 rfl (by decide) (fun c_40 => ?_) (fun c_40 => ?_)
        · replace c_40 := b2y c_40
          obtain ⟨j, hj, rfl⟩ := ltB_of (by omega) c_5
          obtain ⟨k, hk, rfl⟩ := inB_of (n := 2) (by decide) c_14
          refine x_aload_n (q := 47) dX10_band_46 rfl rfl rfl ?_
          refine x_get (q := 50) dX10_band_47 rfl f_X10_7 (cl_132 hS) rfl (by decide) ?_
          refine x_bipush (q := 52) (v := 8) dX10_band_50 rfl (by decide) ?_
          refine x_iload_n (q := 53) dX10_band_52 rfl rfl rfl ?_
          refine x_imul (q := 54) dX10_band_53 rfl ?_
          refine x_iload_n (q := 55) dX10_band_54 rfl rfl rfl ?_
          refine x_iadd (q := 56) dX10_band_55 rfl ?_
          rw [ux8]
          refine x_iload_n (q := 57) dX10_band_56 rfl rfl rfl ?_
          refine z_iast (q := 58) (j := 8 * k + j) dX10_band_57 rfl (cl_133 hS) (by omega) (by decide) (by decide) ?_
          refine Vg.nm (fun h1 eh1 => ?_)
          have hS1 : Sh h1 := by rw [eh1]; exact hS.si _ _
          refine x_aload_n (q := 59) dX10_band_58 rfl rfl rfl ?_
          refine x_get (q := 62) dX10_band_59 rfl f_X10_13 (cl_132 hS1) rfl (by decide) ?_
          refine x_bipush (q := 64) (v := 8) dX10_band_62 rfl (by decide) ?_
          refine x_iload_n (q := 65) dX10_band_64 rfl rfl rfl ?_
          refine x_imul (q := 66) dX10_band_65 rfl ?_
          refine x_iload_n (q := 67) dX10_band_66 rfl rfl rfl ?_
          refine x_iadd (q := 68) dX10_band_67 rfl ?_
          rw [ux8]
          refine x_iload (q := 70) dX10_band_68 rfl rfl ?_
          refine z_iast (q := 71) (j := 8 * k + j) dX10_band_70 rfl (cl_134 hS1) (by omega) (by decide) (by decide) ?_
          refine Vg.nm (fun h2 eh2 => ?_)
          have hS2 : Sh h2 := by rw [eh2]; exact hS1.si _ _
          refine x_iconst (q := 72) (v := 1) dX10_band_71 rfl (by decide) ?_
          exact x_iret dX10_band_72 ⟨_, rfl, by first | rfl | (split <;> rfl)⟩ rfl (Nat.le_refl _) rfl ⟨by simp [vBand, c_5, c_14, c_28, c_40], by simp only [mBand, c_5, c_14, c_28, c_40, if_true, nI_clamp (show j < 2 ^ 31 by omega), nI_clamp (show k < 2 ^ 31 by omega)]; subst_vars; simp (disch := decide) only [mtF, gi_si_ne]⟩
        · replace c_40 := b2n c_40
          refine x_bipush (q := 45) (v := -3) dX10_band_43 rfl (by decide) ?_
          exact x_iret dX10_band_45 ⟨_, rfl, by first | rfl | (split <;> rfl)⟩ rfl (Nat.le_refl _) rfl ⟨by simp [vBand, c_5, c_14, c_28, c_40], by simp [mBand, c_5, c_14, c_28, c_40]⟩
    · replace c_14 := b2n c_14
      refine x_bipush (q := 19) (v := -2) dX10_band_17 rfl (by decide) ?_
      exact x_iret dX10_band_19 ⟨_, rfl, by first | rfl | (split <;> rfl)⟩ rfl (Nat.le_refl _) rfl ⟨by simp [vBand, c_5, c_14], by simp [mBand, c_5, c_14]⟩

def mLotF (h : HF) (nl : Nat) (b u l : Int32) : HF := sI (si (si (si h 135 (upd (gi h 135) nl b)) 136 (upd (gi h 136) nl u)) 137 (upd (gi h 137) nl l)) 132 4 (nI (nl + 1))
def mLot (h : HF) (b u l : Int32) (nb nl : Nat) : HF := if ltB b (nI nb) = true then if inB u 1 20000 = true then if inB l 0 10000 = true then if nl < 40 then mLotF h nl b u l else h else h else h else h
set_option maxHeartbeats 4000000 in
set_option maxRecDepth 100000 in
theorem c_X10_lot_full {h : HF} (hS : Sh h) (b u l : Int32) (nb : Nat) (hnb : fI h 132 1 = nI nb) (hnb8 : nb ≤ 8) (hnl : fI h 132 4 = nI 40) : Mc mX10_lot [.ref 132, .int b, .int u, .int l] 170 h (RI (vLot b u l nb 40) (mLot h b u l nb 40)) := by
  refine Mc.of (by decide) rfl (Nat.le_of_ble_eq_true rfl) ?_
  refine x_aload_n (q := 1) dX10_lot_0 rfl rfl rfl ?_
  refine x_iload_n (q := 2) dX10_lot_1 rfl rfl rfl ?_
  refine y_cvI (q := 5) dX10_lot_2 rfl l_X10_140 (c_X10_isBase hS _ nb hnb hnb8) rfl rfl (cl_132 hS) (by decide) rfl rfl rfl rfl ?_
  refine x_if_ne (q := 8) (t := 11) dX10_lot_5 rfl (by decide) (fun c_5 => ?_) (fun c_5 => ?_)
  · replace c_5 := b2y c_5
    refine x_iload_n (q := 12) dX10_lot_11 rfl rfl rfl ?_
    refine x_iconst (q := 13) (v := 1) dX10_lot_12 rfl (by decide) ?_
    refine x_sipush (q := 16) (v := 20000) dX10_lot_13 rfl (by decide) ?_
    refine y_csI (q := 19) dX10_lot_16 rfl l_X10_133 (c_X10_in hS _ _ _) rfl rfl rfl rfl rfl rfl ?_
    refine x_if_eq (q := 22) (t := 33) dX10_lot_19 rfl (by decide) (fun c_19 => ?_) (fun c_19 => ?_)
    · replace c_19 := b2n c_19
      refine x_bipush (q := 35) (v := -3) dX10_lot_33 rfl (by decide) ?_
      exact x_iret dX10_lot_35 ⟨_, rfl, by first | rfl | (split <;> rfl)⟩ rfl (Nat.le_refl _) rfl ⟨by simp [vLot, cap40, c_5, c_19], by simp [mLot, c_5, c_19]⟩
    · replace c_19 := b2y c_19
      refine x_iload_n (q := 23) dX10_lot_22 rfl rfl rfl ?_
      refine x_iconst (q := 24) (v := 0) dX10_lot_23 rfl (by decide) ?_
      refine x_sipush (q := 27) (v := 10000) dX10_lot_24 rfl (by decide) ?_
      refine y_csI (q := 30) dX10_lot_27 rfl l_X10_133 (c_X10_in hS _ _ _) rfl rfl rfl rfl rfl rfl ?_
      refine x_if_ne (q := 33) (t := 36) dX10_lot_30 rfl (by decide) (fun c_30 => ?_) (fun c_30 => ?_)
      · replace c_30 := b2y c_30
        refine x_aload_n (q := 37) dX10_lot_36 rfl rfl rfl ?_
        refine x_get (q := 40) dX10_lot_37 rfl f_X10_144 (cl_132 hS) rfl (by decide) ?_
        rw [hnl]
        refine x_bipush (q := 42) (v := 40) dX10_lot_40 rfl (by decide) ?_
        refine x_ic_ne (q := 45) (t := 48) dX10_lot_42 rfl (by decide) (fun c_ => absurd c_ (fun z => z rfl)) (fun _ => ?_)
        refine x_bipush (q := 47) (v := -6) dX10_lot_45 rfl (by decide) ?_
        exact x_iret dX10_lot_47 ⟨_, rfl, by first | rfl | (split <;> rfl)⟩ rfl (Nat.le_refl _) rfl ⟨by simp [vLot, cap40, c_5, c_19, c_30], by simp [mLot, c_5, c_19, c_30]⟩
      · replace c_30 := b2n c_30
        refine x_bipush (q := 35) (v := -3) dX10_lot_33 rfl (by decide) ?_
        exact x_iret dX10_lot_35 ⟨_, rfl, by first | rfl | (split <;> rfl)⟩ rfl (Nat.le_refl _) rfl ⟨by simp [vLot, cap40, c_5, c_19, c_30], by simp [mLot, c_5, c_19, c_30]⟩
  · replace c_5 := b2n c_5
    refine x_bipush (q := 10) (v := -2) dX10_lot_8 rfl (by decide) ?_
    exact x_iret dX10_lot_10 ⟨_, rfl, by first | rfl | (split <;> rfl)⟩ rfl (Nat.le_refl _) rfl ⟨by simp [vLot, cap40, c_5], by simp [mLot, c_5]⟩

set_option maxHeartbeats 4000000 in
set_option maxRecDepth 100000 in
theorem c_X10_lot {h : HF} (hS : Sh h) (b u l : Int32) (nb : Nat) (hnb : fI h 132 1 = nI nb) (hnb8 : nb ≤ 8) (nl : Nat) (hnl : fI h 132 4 = nI nl) (hlt : nl < 40) : Mc mX10_lot [.ref 132, .int b, .int u, .int l] 170 h (RI (vLot b u l nb nl) (mLot h b u l nb nl)) := by
  refine Mc.of (by decide) rfl (Nat.le_of_ble_eq_true rfl) ?_
  refine x_aload_n (q := 1) dX10_lot_0 rfl rfl rfl ?_
  refine x_iload_n (q := 2) dX10_lot_1 rfl rfl rfl ?_
  refine y_cvI (q := 5) dX10_lot_2 rfl l_X10_140 (c_X10_isBase hS _ nb hnb hnb8) rfl rfl (cl_132 hS) (by decide) rfl rfl rfl rfl ?_
  refine x_if_ne (q := 8) (t := 11) dX10_lot_5 rfl (by decide) (fun c_5 => ?_) (fun c_5 => ?_)
  · replace c_5 := b2y c_5
    refine x_iload_n (q := 12) dX10_lot_11 rfl rfl rfl ?_
    refine x_iconst (q := 13) (v := 1) dX10_lot_12 rfl (by decide) ?_
    refine x_sipush (q := 16) (v := 20000) dX10_lot_13 rfl (by decide) ?_
    refine y_csI (q := 19) dX10_lot_16 rfl l_X10_133 (c_X10_in hS _ _ _) rfl rfl rfl rfl rfl rfl ?_
    refine x_if_eq (q := 22) (t := 33) dX10_lot_19 rfl (by decide) (fun c_19 => ?_) (fun c_19 => ?_)
    · replace c_19 := b2n c_19
      refine x_bipush (q := 35) (v := -3) dX10_lot_33 rfl (by decide) ?_
      exact x_iret dX10_lot_35 ⟨_, rfl, by first | rfl | (split <;> rfl)⟩ rfl (Nat.le_refl _) rfl ⟨by simp [vLot, cap40, hlt, c_5, c_19], by simp [mLot, hlt, c_5, c_19]⟩
    · replace c_19 := b2y c_19
      refine x_iload_n (q := 23) dX10_lot_22 rfl rfl rfl ?_
      refine x_iconst (q := 24) (v := 0) dX10_lot_23 rfl (by decide) ?_
      refine x_sipush (q := 27) (v := 10000) dX10_lot_24 rfl (by decide) ?_
      refine y_csI (q := 30) dX10_lot_27 rfl l_X10_133 (c_X10_in hS _ _ _) rfl rfl rfl rfl rfl rfl ?_
      refine x_if_ne (q := 33) (t := 36) dX10_lot_30 rfl (by decide) (fun c_30 => ?_) (fun c_30 => ?_)
      · replace c_30 := b2y c_30
        refine x_aload_n (q := 37) dX10_lot_36 rfl rfl rfl ?_
        refine x_get (q := 40) dX10_lot_37 rfl f_X10_144 (cl_132 hS) rfl (by decide) ?_
        rw [hnl]
        refine x_bipush (q := 42) (v := 40) dX10_lot_40 rfl (by decide) ?_
        refine x_ic_ne (q := 45) (t := 48) dX10_lot_42 rfl (by decide) (fun _ => ?_) (fun c_ => absurd c_ (fun e => absurd ((nI_eq (by omega) (by omega)).mp (show nI nl = nI 40 from e)) (by omega)))
        refine x_aload_n (q := 49) dX10_lot_48 rfl rfl rfl ?_
        refine x_get (q := 52) dX10_lot_49 rfl f_X10_16 (cl_132 hS) rfl (by decide) ?_
        refine x_aload_n (q := 53) dX10_lot_52 rfl rfl rfl ?_
        refine x_get (q := 56) dX10_lot_53 rfl f_X10_144 (cl_132 hS) rfl (by decide) ?_
        rw [hnl]
        refine x_iload_n (q := 57) dX10_lot_56 rfl rfl rfl ?_
        refine z_iast (q := 58) (j := nl) dX10_lot_57 rfl (cl_135 hS) (by omega) (by decide) (by decide) ?_
        refine Vg.nm (fun h1 eh1 => ?_)
        have hS1 : Sh h1 := by rw [eh1]; exact hS.si _ _
        have hc1_132_4 : fI h1 132 4 = nI (nl) := by rw [eh1]; first | (simp only [fI_si, fI_sl, fI_sJ]; exact hnl) | (rw [fI_sI_ne (by omega)]; exact hnl) | (rw [fI_sI_k (by decide)]; exact hnl) | (simp (disch := omega) only [mixAdd, fI_si, fI_sl, fI_sJ, fI_sI_ne, fI_sI_k]; exact hnl)
        have hc1_132_1 : fI h1 132 1 = nI (nb) := by rw [eh1]; first | (simp only [fI_si, fI_sl, fI_sJ]; exact hnb) | (rw [fI_sI_ne (by omega)]; exact hnb) | (rw [fI_sI_k (by decide)]; exact hnb) | (simp (disch := omega) only [mixAdd, fI_si, fI_sl, fI_sJ, fI_sI_ne, fI_sI_k]; exact hnb)
        refine x_aload_n (q := 59) dX10_lot_58 rfl rfl rfl ?_
        refine x_get (q := 62) dX10_lot_59 rfl f_X10_19 (cl_132 hS1) rfl (by decide) ?_
        refine x_aload_n (q := 63) dX10_lot_62 rfl rfl rfl ?_
        refine x_get (q := 66) dX10_lot_63 rfl f_X10_144 (cl_132 hS1) rfl (by decide) ?_
        rw [hc1_132_4]
        refine x_iload_n (q := 67) dX10_lot_66 rfl rfl rfl ?_
        refine z_iast (q := 68) (j := nl) dX10_lot_67 rfl (cl_136 hS1) (by omega) (by decide) (by decide) ?_
        refine Vg.nm (fun h2 eh2 => ?_)
        have hS2 : Sh h2 := by rw [eh2]; exact hS1.si _ _
        have hc2_132_4 : fI h2 132 4 = nI (nl) := by rw [eh2]; first | (simp only [fI_si, fI_sl, fI_sJ]; exact hc1_132_4) | (rw [fI_sI_ne (by omega)]; exact hc1_132_4) | (rw [fI_sI_k (by decide)]; exact hc1_132_4) | (simp (disch := omega) only [mixAdd, fI_si, fI_sl, fI_sJ, fI_sI_ne, fI_sI_k]; exact hc1_132_4)
        have hc2_132_1 : fI h2 132 1 = nI (nb) := by rw [eh2]; first | (simp only [fI_si, fI_sl, fI_sJ]; exact hc1_132_1) | (rw [fI_sI_ne (by omega)]; exact hc1_132_1) | (rw [fI_sI_k (by decide)]; exact hc1_132_1) | (simp (disch := omega) only [mixAdd, fI_si, fI_sl, fI_sJ, fI_sI_ne, fI_sI_k]; exact hc1_132_1)
        refine x_aload_n (q := 69) dX10_lot_68 rfl rfl rfl ?_
        refine x_get (q := 72) dX10_lot_69 rfl f_X10_22 (cl_132 hS2) rfl (by decide) ?_
        refine x_aload_n (q := 73) dX10_lot_72 rfl rfl rfl ?_
        refine x_get (q := 76) dX10_lot_73 rfl f_X10_144 (cl_132 hS2) rfl (by decide) ?_
        rw [hc2_132_4]
        refine x_iload_n (q := 77) dX10_lot_76 rfl rfl rfl ?_
        refine z_iast (q := 78) (j := nl) dX10_lot_77 rfl (cl_137 hS2) (by omega) (by decide) (by decide) ?_
        refine Vg.nm (fun h3 eh3 => ?_)
        have hS3 : Sh h3 := by rw [eh3]; exact hS2.si _ _
        have hc3_132_4 : fI h3 132 4 = nI (nl) := by rw [eh3]; first | (simp only [fI_si, fI_sl, fI_sJ]; exact hc2_132_4) | (rw [fI_sI_ne (by omega)]; exact hc2_132_4) | (rw [fI_sI_k (by decide)]; exact hc2_132_4) | (simp (disch := omega) only [mixAdd, fI_si, fI_sl, fI_sJ, fI_sI_ne, fI_sI_k]; exact hc2_132_4)
        have hc3_132_1 : fI h3 132 1 = nI (nb) := by rw [eh3]; first | (simp only [fI_si, fI_sl, fI_sJ]; exact hc2_132_1) | (rw [fI_sI_ne (by omega)]; exact hc2_132_1) | (rw [fI_sI_k (by decide)]; exact hc2_132_1) | (simp (disch := omega) only [mixAdd, fI_si, fI_sl, fI_sJ, fI_sI_ne, fI_sI_k]; exact hc2_132_1)
        refine x_aload_n (q := 79) dX10_lot_78 rfl rfl rfl ?_
        refine x_dup (q := 80) dX10_lot_79 rfl rfl ?_
        refine x_get (q := 83) dX10_lot_80 rfl f_X10_144 (cl_132 hS3) rfl (by decide) ?_
        rw [hc3_132_4]
        refine x_iconst (q := 84) (v := 1) dX10_lot_83 rfl (by decide) ?_
        refine x_iadd (q := 85) dX10_lot_84 rfl ?_
        rw [nI_1 (nl)]
        refine y_put (q := 88) dX10_lot_85 rfl f_X10_144 (cl_132 hS3) rfl (by first | rfl | decide) (by first | rfl | decide) (by decide) ?_
        refine Vg.nm (fun h4 eh4 => ?_)
        have hS4 : Sh h4 := by rw [eh4]; exact hS3.sI _ _ _
        have hc4_132_1 : fI h4 132 1 = nI (nb) := by rw [eh4]; first | (simp only [fI_si, fI_sl, fI_sJ]; exact hc3_132_1) | (rw [fI_sI_ne (by omega)]; exact hc3_132_1) | (rw [fI_sI_k (by decide)]; exact hc3_132_1) | (simp (disch := omega) only [mixAdd, fI_si, fI_sl, fI_sJ, fI_sI_ne, fI_sI_k]; exact hc3_132_1)
        have hc4_132_4 : fI h4 132 4 = nI (nl + 1) := by rw [eh4]; exact fI_sI_eq hS3 (by decide) (by decide) rfl _
        refine x_aload_n (q := 89) dX10_lot_88 rfl rfl rfl ?_
        refine x_get (q := 92) dX10_lot_89 rfl f_X10_144 (cl_132 hS4) rfl (by decide) ?_
        rw [hc4_132_4]
        refine x_iconst (q := 93) (v := 1) dX10_lot_92 rfl (by decide) ?_
        refine x_isub (q := 94) dX10_lot_93 rfl ?_
        rw [nI_pred (nl)]
        exact x_iret dX10_lot_94 ⟨_, rfl, by first | rfl | (split <;> rfl)⟩ rfl (Nat.le_refl _) rfl ⟨by simp [vLot, cap40, hlt, c_5, c_19, c_30], by simp only [mLot, c_5, c_19, c_30, if_true, hlt]; subst_vars; simp (disch := decide) only [mLotF, gi_si_ne]⟩
      · replace c_30 := b2n c_30
        refine x_bipush (q := 35) (v := -3) dX10_lot_33 rfl (by decide) ?_
        exact x_iret dX10_lot_35 ⟨_, rfl, by first | rfl | (split <;> rfl)⟩ rfl (Nat.le_refl _) rfl ⟨by simp [vLot, cap40, hlt, c_5, c_19, c_30], by simp [mLot, hlt, c_5, c_19, c_30]⟩
  · replace c_5 := b2n c_5
    refine x_bipush (q := 10) (v := -2) dX10_lot_8 rfl (by decide) ?_
    exact x_iret dX10_lot_10 ⟨_, rfl, by first | rfl | (split <;> rfl)⟩ rfl (Nat.le_refl _) rfl ⟨by simp [vLot, cap40, hlt, c_5], by simp [mLot, hlt, c_5]⟩

set_option maxHeartbeats 4000000 in
set_option maxRecDepth 100000 in
theorem c_X10_left {h : HF} (hS : Sh h) (l : Int32) (nl : Nat) (hnl : fI h 132 4 = nI nl) (hnl40 : nl ≤ 40) : Mc mX10_left [.ref 132, .int l] 170 h (RI (vLeft (gi h 136) l nl) (h)) := by
  refine Mc.of (by decide) rfl (Nat.le_of_ble_eq_true rfl) ?_
  refine x_iload_n (q := 1) dX10_left_0 rfl rfl rfl ?_
  refine x_iconst (q := 2) (v := 0) dX10_left_1 rfl (by decide) ?_
  refine x_aload_n (q := 3) dX10_left_2 rfl rfl rfl ?_
  refine x_get (q := 6) dX10_left_3 rfl f_X10_144 (cl_132 hS) rfl (by decide) ?_
  rw [hnl]
  refine x_iconst (q := 7) (v := 1) dX10_left_6 rfl (by decide) ?_
  refine x_isub (q := 8) dX10_left_7 rfl ?_
  refine y_csI (q := 11) dX10_left_8 rfl l_X10_133 (c_X10_inL hS _ nl (by omega)) rfl rfl rfl rfl rfl rfl ?_
  refine x_if_eq (q := 14) (t := 23) dX10_left_11 rfl (by decide) (fun c_11 => ?_) (fun c_11 => ?_)
  · replace c_11 := b2n c_11
    refine x_bipush (q := 25) (v := -2) dX10_left_23 rfl (by decide) ?_
    exact x_iret dX10_left_25 ⟨_, rfl, by first | rfl | (split <;> rfl)⟩ rfl (Nat.le_refl _) rfl ⟨by first | (simp [vLeft, c_11]; done) | (simp [vLeft, c_11, nI_clamp (show j < 2 ^ 31 by omega)]; done), rfl⟩
  · replace c_11 := b2y c_11
    obtain ⟨j, hj, rfl⟩ := ltB_of (by omega) c_11
    refine x_aload_n (q := 15) dX10_left_14 rfl rfl rfl ?_
    refine x_get (q := 18) dX10_left_15 rfl f_X10_19 (cl_132 hS) rfl (by decide) ?_
    refine x_iload_n (q := 19) dX10_left_18 rfl rfl rfl ?_
    refine z_iald (q := 20) (j := j) dX10_left_19 rfl (cl_136 hS) (by omega) (by decide) (by decide) ?_
    refine x_goto (q := 25) dX10_left_20 (by decide) ?_
    exact x_iret dX10_left_25 ⟨_, rfl, by first | rfl | (split <;> rfl)⟩ rfl (Nat.le_refl _) rfl ⟨by first | (simp [vLeft, c_11]; done) | (simp [vLeft, c_11, nI_clamp (show j < 2 ^ 31 by omega)]; done), rfl⟩

set_option maxHeartbeats 4000000 in
set_option maxRecDepth 100000 in
theorem c_X10_mayTake {h : HF} (hS : Sh h) (l : Nat) (b : Int32) (hl : l < 40) : Mc mX10_mayTake [.ref 132, .int (nI l), .int b] 170 h (RI (if us (gi h 135) (gi h 137) (gi h 136) (fI h 132 0) b l then 1 else 0) h) := by
  refine Mc.of (by decide) rfl (Nat.le_of_ble_eq_true rfl) ?_
  refine x_aload_n (q := 1) dX10_mayTake_0 rfl rfl rfl ?_
  refine x_get (q := 4) dX10_mayTake_1 rfl f_X10_16 (cl_132 hS) rfl (by decide) ?_
  refine x_iload_n (q := 5) dX10_mayTake_4 rfl rfl rfl ?_
  refine z_iald (q := 6) (j := l) dX10_mayTake_5 rfl (cl_135 hS) (by omega) (by decide) (by decide) ?_
  refine x_iload_n (q := 7) dX10_mayTake_6 rfl rfl rfl ?_
  refine x_ic_ne (q := 10) (t := 36) dX10_mayTake_7 rfl (by decide) (fun c_7 => ?_) (fun c_7 => ?_)
  · refine x_iconst (q := 37) (v := 0) dX10_mayTake_36 rfl (by decide) ?_
    exact x_iret dX10_mayTake_37 ⟨_, rfl, by first | rfl | (split <;> rfl)⟩ rfl (Nat.le_refl _) rfl ⟨by first | (rw [if_pos ⟨c_7, Int32.not_lt.mp c_29, Int32.not_le.mp c_16⟩]; done) | (rw [if_neg (fun z => c_7 z.1)]; done) | (rw [if_neg (fun z => Int32.not_lt.mpr z.2.1 c_29)]; done) | (rw [if_neg (fun z => Int32.not_le.mpr z.2.2 c_16)]; done), rfl⟩
  · refine x_aload_n (q := 11) dX10_mayTake_10 rfl rfl rfl ?_
    refine x_get (q := 14) dX10_mayTake_11 rfl f_X10_19 (cl_132 hS) rfl (by decide) ?_
    refine x_iload_n (q := 15) dX10_mayTake_14 rfl rfl rfl ?_
    refine z_iald (q := 16) (j := l) dX10_mayTake_15 rfl (cl_136 hS) (by omega) (by decide) (by decide) ?_
    refine x_if_le (q := 19) (t := 36) dX10_mayTake_16 rfl (by decide) (fun c_16 => ?_) (fun c_16 => ?_)
    · refine x_iconst (q := 37) (v := 0) dX10_mayTake_36 rfl (by decide) ?_
      exact x_iret dX10_mayTake_37 ⟨_, rfl, by first | rfl | (split <;> rfl)⟩ rfl (Nat.le_refl _) rfl ⟨by first | (rw [if_pos ⟨c_7, Int32.not_lt.mp c_29, Int32.not_le.mp c_16⟩]; done) | (rw [if_neg (fun z => c_7 z.1)]; done) | (rw [if_neg (fun z => Int32.not_lt.mpr z.2.1 c_29)]; done) | (rw [if_neg (fun z => Int32.not_le.mpr z.2.2 c_16)]; done), rfl⟩
    · refine x_aload_n (q := 20) dX10_mayTake_19 rfl rfl rfl ?_
      refine x_get (q := 23) dX10_mayTake_20 rfl f_X10_22 (cl_132 hS) rfl (by decide) ?_
      refine x_iload_n (q := 24) dX10_mayTake_23 rfl rfl rfl ?_
      refine z_iald (q := 25) (j := l) dX10_mayTake_24 rfl (cl_137 hS) (by omega) (by decide) (by decide) ?_
      refine x_aload_n (q := 26) dX10_mayTake_25 rfl rfl rfl ?_
      refine x_get (q := 29) dX10_mayTake_26 rfl f_X10_147 (cl_132 hS) rfl (by decide) ?_
      refine x_ic_lt (q := 32) (t := 36) dX10_mayTake_29 rfl (by decide) (fun c_29 => ?_) (fun c_29 => ?_)
      · refine x_iconst (q := 37) (v := 0) dX10_mayTake_36 rfl (by decide) ?_
        exact x_iret dX10_mayTake_37 ⟨_, rfl, by first | rfl | (split <;> rfl)⟩ rfl (Nat.le_refl _) rfl ⟨by first | (rw [if_pos ⟨c_7, Int32.not_lt.mp c_29, Int32.not_le.mp c_16⟩]; done) | (rw [if_neg (fun z => c_7 z.1)]; done) | (rw [if_neg (fun z => Int32.not_lt.mpr z.2.1 c_29)]; done) | (rw [if_neg (fun z => Int32.not_le.mpr z.2.2 c_16)]; done), rfl⟩
      · refine x_iconst (q := 33) (v := 1) dX10_mayTake_32 rfl (by decide) ?_
        refine x_goto (q := 37) dX10_mayTake_33 (by decide) ?_
        exact x_iret dX10_mayTake_37 ⟨_, rfl, by first | rfl | (split <;> rfl)⟩ rfl (Nat.le_refl _) rfl ⟨by first | (rw [if_pos ⟨c_7, Int32.not_lt.mp c_29, Int32.not_le.mp c_16⟩]; done) | (rw [if_neg (fun z => c_7 z.1)]; done) | (rw [if_neg (fun z => Int32.not_lt.mpr z.2.1 c_29)]; done) | (rw [if_neg (fun z => Int32.not_le.mpr z.2.2 c_16)]; done), rfl⟩

theorem addz (x : Int32) : x + 0 = x := Int32.add_zero x
set_option maxHeartbeats 4000000 in
set_option maxRecDepth 100000 in
theorem lp_mayOf {h : HF} (hS : Sh h) (b : Int32) (nl : Nat) (hnl : fI h 132 4 = nI nl) (hnl40 : nl ≤ 40) : ∀ (k i : Nat), i + k = nl → Vg mX10_mayOf none (QM mX10_mayOf 170 (RI (sU (gi h 135) (gi h 137) (gi h 136) (fI h 132 0) b nl) h)) 4 [some (.ref 132), some (.int b), some (.int (sU (gi h 135) (gi h 137) (gi h 136) (fI h 132 0) b i)), some (.int (nI i))] [] 170 h 0 0 := by
  intro k
  induction k with
  | zero =>
    intro i hi
    obtain rfl : i = nl := by omega
    refine x_iload_n (q := 5) dX10_mayOf_4 rfl rfl rfl ?_
    refine x_aload_n (q := 6) dX10_mayOf_5 rfl rfl rfl ?_
    refine x_get (q := 9) dX10_mayOf_6 rfl f_X10_144 (cl_132 hS) rfl (by decide) ?_
    rw [hnl]
    refine x_ic_ge (q := 12) (t := 40) dX10_mayOf_9 rfl (by decide) (fun _ => ?_) (fun c_ => absurd (nI_le (Nat.le_refl _) (by omega)) c_)
    refine x_iload_n (q := 41) dX10_mayOf_40 rfl rfl rfl ?_
    exact x_iret dX10_mayOf_41 ⟨_, rfl, by first | rfl | (split <;> rfl)⟩ rfl (Nat.le_refl _) rfl ⟨rfl, rfl⟩
  | succ k ih =>
    intro i hi
    refine x_iload_n (q := 5) dX10_mayOf_4 rfl rfl rfl ?_
    refine x_aload_n (q := 6) dX10_mayOf_5 rfl rfl rfl ?_
    refine x_get (q := 9) dX10_mayOf_6 rfl f_X10_144 (cl_132 hS) rfl (by decide) ?_
    rw [hnl]
    refine x_ic_ge (q := 12) (t := 40) dX10_mayOf_9 rfl (by decide) (fun c_ => absurd c_ (nI_ge (by omega) (by omega))) (fun _ => ?_)
    refine x_iload_n (q := 13) dX10_mayOf_12 rfl rfl rfl ?_
    refine x_aload_n (q := 14) dX10_mayOf_13 rfl rfl rfl ?_
    refine x_iload_n (q := 15) dX10_mayOf_14 rfl rfl rfl ?_
    refine x_iload_n (q := 16) dX10_mayOf_15 rfl rfl rfl ?_
    refine y_cvI (q := 19) dX10_mayOf_16 rfl l_X10_150 (c_X10_mayTake hS i _ (by omega)) rfl rfl (cl_132 hS) (by decide) rfl rfl rfl rfl ?_
    refine x_if_eq (q := 22) (t := 31) dX10_mayOf_19 rfl (by decide) (fun c_19 => ?_) (fun c_19 => ?_)
    · refine x_iconst (q := 32) (v := 0) dX10_mayOf_31 rfl (by decide) ?_
      refine x_iadd (q := 33) dX10_mayOf_32 rfl ?_
      refine x_istore_n (q := 34) dX10_mayOf_33 rfl rfl (by decide) ?_
      refine x_iinc (q := 37) (v := nI (i + 1)) dX10_mayOf_34 rfl rfl (nI_inc _) (by decide) ?_
      refine x_goto (q := 4) dX10_mayOf_37 (by decide) ?_
      have t9 := ih (i + 1) (by omega)
      first | (rw [sU_f (ifn c_19)] at t9; rw [addz]; exact t9) | (rw [sU_t (ify c_19)] at t9; exact t9)
    · refine x_aload_n (q := 23) dX10_mayOf_22 rfl rfl rfl ?_
      refine x_get (q := 26) dX10_mayOf_23 rfl f_X10_19 (cl_132 hS) rfl (by decide) ?_
      refine x_iload_n (q := 27) dX10_mayOf_26 rfl rfl rfl ?_
      refine z_iald (q := 28) (j := i) dX10_mayOf_27 rfl (cl_136 hS) (by omega) (by decide) (by decide) ?_
      refine x_goto (q := 32) dX10_mayOf_28 (by decide) ?_
      refine x_iadd (q := 33) dX10_mayOf_32 rfl ?_
      refine x_istore_n (q := 34) dX10_mayOf_33 rfl rfl (by decide) ?_
      refine x_iinc (q := 37) (v := nI (i + 1)) dX10_mayOf_34 rfl rfl (nI_inc _) (by decide) ?_
      refine x_goto (q := 4) dX10_mayOf_37 (by decide) ?_
      have t9 := ih (i + 1) (by omega)
      first | (rw [sU_f (ifn c_19)] at t9; rw [addz]; exact t9) | (rw [sU_t (ify c_19)] at t9; exact t9)

set_option maxHeartbeats 4000000 in
set_option maxRecDepth 100000 in
theorem c_X10_mayOf {h : HF} (hS : Sh h) (b : Int32) (nl : Nat) (hnl : fI h 132 4 = nI nl) (hnl40 : nl ≤ 40) : Mc mX10_mayOf [.ref 132, .int b] 170 h (RI (sU (gi h 135) (gi h 137) (gi h 136) (fI h 132 0) b nl) h) := by
  refine Mc.of (by decide) rfl (Nat.le_of_ble_eq_true rfl) ?_
  refine x_iconst (q := 1) (v := 0) dX10_mayOf_0 rfl (by decide) ?_
  refine x_istore_n (q := 2) dX10_mayOf_1 rfl rfl (by decide) ?_
  refine x_iconst (q := 3) (v := 0) dX10_mayOf_2 rfl (by decide) ?_
  refine x_istore_n (q := 4) dX10_mayOf_3 rfl rfl (by decide) ?_
  exact lp_mayOf hS b nl hnl hnl40 nl 0 (by omega)

set_option maxHeartbeats 4000000 in
set_option maxRecDepth 100000 in
theorem c_X10_may {h : HF} (hS : Sh h) (b : Int32) (nb : Nat) (hnb : fI h 132 1 = nI nb) (hnb8 : nb ≤ 8) (nl : Nat) (hnl : fI h 132 4 = nI nl) (hnl40 : nl ≤ 40) : Mc mX10_may [.ref 132, .int b] 170 h (RI (vMay (gi h 135) (gi h 137) (gi h 136) (fI h 132 0) b nb nl) (h)) := by
  refine Mc.of (by decide) rfl (Nat.le_of_ble_eq_true rfl) ?_
  refine x_aload_n (q := 1) dX10_may_0 rfl rfl rfl ?_
  refine x_iload_n (q := 2) dX10_may_1 rfl rfl rfl ?_
  refine y_cvI (q := 5) dX10_may_2 rfl l_X10_140 (c_X10_isBase hS _ nb hnb hnb8) rfl rfl (cl_132 hS) (by decide) rfl rfl rfl rfl ?_
  refine x_if_eq (q := 8) (t := 16) dX10_may_5 rfl (by decide) (fun c_5 => ?_) (fun c_5 => ?_)
  · replace c_5 := b2n c_5
    refine x_bipush (q := 18) (v := -2) dX10_may_16 rfl (by decide) ?_
    exact x_iret dX10_may_18 ⟨_, rfl, by first | rfl | (split <;> rfl)⟩ rfl (Nat.le_refl _) rfl ⟨by simp [vMay, c_5], rfl⟩
  · replace c_5 := b2y c_5
    refine x_aload_n (q := 9) dX10_may_8 rfl rfl rfl ?_
    refine x_iload_n (q := 10) dX10_may_9 rfl rfl rfl ?_
    refine y_cvI (q := 13) dX10_may_10 rfl l_X10_154 (c_X10_mayOf hS _ nl hnl hnl40) rfl rfl (cl_132 hS) (by decide) rfl rfl rfl rfl ?_
    refine x_goto (q := 18) dX10_may_13 (by decide) ?_
    exact x_iret dX10_may_18 ⟨_, rfl, by first | rfl | (split <;> rfl)⟩ rfl (Nat.le_refl _) rfl ⟨by simp [vMay, c_5], rfl⟩

def mDay (h : HF) (t n : Int32) : HF := if inB n 0 1000 = true then if t + n ≤ 10000 then sI h 132 0 (t + n) else h else h
set_option maxHeartbeats 4000000 in
set_option maxRecDepth 100000 in
theorem c_X10_day {h : HF} (hS : Sh h) (n : Int32) : Mc mX10_day [.ref 132, .int n] 170 h (RI (vDay (fI h 132 0) n) (mDay h (fI h 132 0) n)) := by
  refine Mc.of (by decide) rfl (Nat.le_of_ble_eq_true rfl) ?_
  refine x_iload_n (q := 1) dX10_day_0 rfl rfl rfl ?_
  refine x_iconst (q := 2) (v := 0) dX10_day_1 rfl (by decide) ?_
  refine x_sipush (q := 5) (v := 1000) dX10_day_2 rfl (by decide) ?_
  refine y_csI (q := 8) dX10_day_5 rfl l_X10_133 (c_X10_in hS _ _ _) rfl rfl rfl rfl rfl rfl ?_
  refine x_if_eq (q := 11) (t := 23) dX10_day_8 rfl (by decide) (fun c_8 => ?_) (fun c_8 => ?_)
  · replace c_8 := b2n c_8
    refine x_bipush (q := 25) (v := -3) dX10_day_23 rfl (by decide) ?_
    exact x_iret dX10_day_25 ⟨_, rfl, by first | rfl | (split <;> rfl)⟩ rfl (Nat.le_refl _) rfl ⟨by simp [vDay, c_8], by simp [mDay, c_8]⟩
  · replace c_8 := b2y c_8
    refine x_aload_n (q := 12) dX10_day_11 rfl rfl rfl ?_
    refine x_get (q := 15) dX10_day_12 rfl f_X10_147 (cl_132 hS) rfl (by decide) ?_
    refine x_iload_n (q := 16) dX10_day_15 rfl rfl rfl ?_
    refine x_iadd (q := 17) dX10_day_16 rfl ?_
    refine x_sipush (q := 20) (v := 10000) dX10_day_17 rfl (by decide) ?_
    refine x_ic_le (q := 23) (t := 26) dX10_day_20 rfl (by decide) (fun c_20 => ?_) (fun c_20 => ?_)
    · refine x_aload_n (q := 27) dX10_day_26 rfl rfl rfl ?_
      refine x_dup (q := 28) dX10_day_27 rfl rfl ?_
      refine x_get (q := 31) dX10_day_28 rfl f_X10_147 (cl_132 hS) rfl (by decide) ?_
      refine x_iload_n (q := 32) dX10_day_31 rfl rfl rfl ?_
      refine x_iadd (q := 33) dX10_day_32 rfl ?_
      refine y_put (q := 36) dX10_day_33 rfl f_X10_147 (cl_132 hS) rfl (by first | rfl | decide) (by first | rfl | decide) (by decide) ?_
      refine Vg.nm (fun h1 eh1 => ?_)
      have hS1 : Sh h1 := by rw [eh1]; exact hS.sI _ _ _
      refine x_aload_n (q := 37) dX10_day_36 rfl rfl rfl ?_
      refine x_get (q := 40) dX10_day_37 rfl f_X10_147 (cl_132 hS1) rfl (by decide) ?_
      exact x_iret dX10_day_40 ⟨_, rfl, by first | rfl | (split <;> rfl)⟩ rfl (Nat.le_refl _) rfl ⟨by rw [eh1, fI_sI_eq hS (by decide) (by decide) rfl]; simp [vDay, c_8, c_20], by rw [eh1]; simp [mDay, c_8, c_20]⟩
    · refine x_bipush (q := 25) (v := -3) dX10_day_23 rfl (by decide) ?_
      exact x_iret dX10_day_25 ⟨_, rfl, by first | rfl | (split <;> rfl)⟩ rfl (Nat.le_refl _) rfl ⟨by simp [vDay, c_8, c_20], by simp [mDay, c_8, c_20]⟩

set_option maxHeartbeats 4000000 in
set_option maxRecDepth 100000 in
theorem c_X10_recipe_full {h : HF} (hS : Sh h) (hz : fI h 132 8 = nI 12) : Mc mX10_recipe [.ref 132] 170 h (RI (-6) h) := by
  refine Mc.of (by decide) rfl (Nat.le_of_ble_eq_true rfl) ?_
  refine x_aload_n (q := 1) dX10_recipe_0 rfl rfl rfl ?_
  refine x_get (q := 4) dX10_recipe_1 rfl f_X10_158 (cl_132 hS) rfl (by decide) ?_
  rw [hz]
  refine x_bipush (q := 6) (v := 12) dX10_recipe_4 rfl (by decide) ?_
  refine x_ic_ne (q := 9) (t := 12) dX10_recipe_6 rfl (by decide) (fun c_ => absurd c_ (fun z => z rfl)) (fun _ => ?_)
  refine x_bipush (q := 11) (v := -6) dX10_recipe_9 rfl (by decide) ?_
  exact x_iret dX10_recipe_11 ⟨_, rfl, by first | rfl | (split <;> rfl)⟩ rfl (Nat.le_refl _) rfl ⟨rfl, rfl⟩

set_option maxHeartbeats 4000000 in
set_option maxRecDepth 100000 in
theorem c_X10_recipe {h : HF} (hS : Sh h) (z : Nat) (hz : fI h 132 8 = nI z) (hlt : z < 12) : Mc mX10_recipe [.ref 132] 170 h (RI (nI z) (sI h 132 8 (nI (z + 1)))) := by
  refine Mc.of (by decide) rfl (Nat.le_of_ble_eq_true rfl) ?_
  refine x_aload_n (q := 1) dX10_recipe_0 rfl rfl rfl ?_
  refine x_get (q := 4) dX10_recipe_1 rfl f_X10_158 (cl_132 hS) rfl (by decide) ?_
  rw [hz]
  refine x_bipush (q := 6) (v := 12) dX10_recipe_4 rfl (by decide) ?_
  refine x_ic_ne (q := 9) (t := 12) dX10_recipe_6 rfl (by decide) (fun _ => ?_) (fun c_ => absurd c_ (fun e => absurd ((nI_eq (by omega) (by omega)).mp (show nI z = nI 12 from e)) (by omega)))
  refine x_aload_n (q := 13) dX10_recipe_12 rfl rfl rfl ?_
  refine x_dup (q := 14) dX10_recipe_13 rfl rfl ?_
  refine x_get (q := 17) dX10_recipe_14 rfl f_X10_158 (cl_132 hS) rfl (by decide) ?_
  rw [hz]
  refine x_iconst (q := 18) (v := 1) dX10_recipe_17 rfl (by decide) ?_
  refine x_iadd (q := 19) dX10_recipe_18 rfl ?_
  rw [nI_1 (z)]
  refine y_put (q := 22) dX10_recipe_19 rfl f_X10_158 (cl_132 hS) rfl (by first | rfl | decide) (by first | rfl | decide) (by decide) ?_
  refine Vg.nm (fun h1 eh1 => ?_)
  have hS1 : Sh h1 := by rw [eh1]; exact hS.sI _ _ _
  have hc1_132_8 : fI h1 132 8 = nI (z + 1) := by rw [eh1]; exact fI_sI_eq hS (by decide) (by decide) rfl _
  refine x_aload_n (q := 23) dX10_recipe_22 rfl rfl rfl ?_
  refine x_get (q := 26) dX10_recipe_23 rfl f_X10_158 (cl_132 hS1) rfl (by decide) ?_
  rw [hc1_132_8]
  refine x_iconst (q := 27) (v := 1) dX10_recipe_26 rfl (by decide) ?_
  refine x_isub (q := 28) dX10_recipe_27 rfl ?_
  rw [nI_pred (z)]
  exact x_iret dX10_recipe_28 ⟨_, rfl, by first | rfl | (split <;> rfl)⟩ rfl (Nat.le_refl _) rfl ⟨rfl, by subst_vars; rfl⟩

set_option maxHeartbeats 4000000 in
set_option maxRecDepth 100000 in
theorem c_X10_batch_full {h : HF} (hS : Sh h) (hz : fI h 132 15 = nI 24) : Mc mX10_batch [.ref 132] 170 h (RI (-6) h) := by
  refine Mc.of (by decide) rfl (Nat.le_of_ble_eq_true rfl) ?_
  refine x_aload_n (q := 1) dX10_batch_0 rfl rfl rfl ?_
  refine x_get (q := 4) dX10_batch_1 rfl f_X10_137 (cl_132 hS) rfl (by decide) ?_
  rw [hz]
  refine x_bipush (q := 6) (v := 24) dX10_batch_4 rfl (by decide) ?_
  refine x_ic_ne (q := 9) (t := 12) dX10_batch_6 rfl (by decide) (fun c_ => absurd c_ (fun z => z rfl)) (fun _ => ?_)
  refine x_bipush (q := 11) (v := -6) dX10_batch_9 rfl (by decide) ?_
  exact x_iret dX10_batch_11 ⟨_, rfl, by first | rfl | (split <;> rfl)⟩ rfl (Nat.le_refl _) rfl ⟨rfl, rfl⟩

set_option maxHeartbeats 4000000 in
set_option maxRecDepth 100000 in
theorem c_X10_batch {h : HF} (hS : Sh h) (z : Nat) (hz : fI h 132 15 = nI z) (hlt : z < 24) : Mc mX10_batch [.ref 132] 170 h (RI (nI z) (sI h 132 15 (nI (z + 1)))) := by
  refine Mc.of (by decide) rfl (Nat.le_of_ble_eq_true rfl) ?_
  refine x_aload_n (q := 1) dX10_batch_0 rfl rfl rfl ?_
  refine x_get (q := 4) dX10_batch_1 rfl f_X10_137 (cl_132 hS) rfl (by decide) ?_
  rw [hz]
  refine x_bipush (q := 6) (v := 24) dX10_batch_4 rfl (by decide) ?_
  refine x_ic_ne (q := 9) (t := 12) dX10_batch_6 rfl (by decide) (fun _ => ?_) (fun c_ => absurd c_ (fun e => absurd ((nI_eq (by omega) (by omega)).mp (show nI z = nI 24 from e)) (by omega)))
  refine x_aload_n (q := 13) dX10_batch_12 rfl rfl rfl ?_
  refine x_dup (q := 14) dX10_batch_13 rfl rfl ?_
  refine x_get (q := 17) dX10_batch_14 rfl f_X10_137 (cl_132 hS) rfl (by decide) ?_
  rw [hz]
  refine x_iconst (q := 18) (v := 1) dX10_batch_17 rfl (by decide) ?_
  refine x_iadd (q := 19) dX10_batch_18 rfl ?_
  rw [nI_1 (z)]
  refine y_put (q := 22) dX10_batch_19 rfl f_X10_137 (cl_132 hS) rfl (by first | rfl | decide) (by first | rfl | decide) (by decide) ?_
  refine Vg.nm (fun h1 eh1 => ?_)
  have hS1 : Sh h1 := by rw [eh1]; exact hS.sI _ _ _
  have hc1_132_15 : fI h1 132 15 = nI (z + 1) := by rw [eh1]; exact fI_sI_eq hS (by decide) (by decide) rfl _
  refine x_aload_n (q := 23) dX10_batch_22 rfl rfl rfl ?_
  refine x_get (q := 26) dX10_batch_23 rfl f_X10_137 (cl_132 hS1) rfl (by decide) ?_
  rw [hc1_132_15]
  refine x_iconst (q := 27) (v := 1) dX10_batch_26 rfl (by decide) ?_
  refine x_isub (q := 28) dX10_batch_27 rfl ?_
  rw [nI_pred (z)]
  exact x_iret dX10_batch_28 ⟨_, rfl, by first | rfl | (split <;> rfl)⟩ rfl (Nat.le_refl _) rfl ⟨rfl, by subst_vars; rfl⟩

set_option maxHeartbeats 4000000 in
set_option maxRecDepth 100000 in
theorem c_X10_resolved {h : HF} (hS : Sh h) (r b : Int32) (nb : Nat) (hnb : fI h 132 1 = nI nb) (hnb8 : nb ≤ 8) (nr : Nat) (hnr : fI h 132 8 = nI nr) (hnr12 : nr ≤ 12) : Mc mX10_resolved [.ref 132, .int r, .int b] 170 h (RI (vRes (fun i => gi h 142 i) r b nr nb) (h)) := by
  refine Mc.of (by decide) rfl (Nat.le_of_ble_eq_true rfl) ?_
  refine x_iload_n (q := 1) dX10_resolved_0 rfl rfl rfl ?_
  refine x_iconst (q := 2) (v := 0) dX10_resolved_1 rfl (by decide) ?_
  refine x_aload_n (q := 3) dX10_resolved_2 rfl rfl rfl ?_
  refine x_get (q := 6) dX10_resolved_3 rfl f_X10_158 (cl_132 hS) rfl (by decide) ?_
  rw [hnr]
  refine x_iconst (q := 7) (v := 1) dX10_resolved_6 rfl (by decide) ?_
  refine x_isub (q := 8) dX10_resolved_7 rfl ?_
  refine y_csI (q := 11) dX10_resolved_8 rfl l_X10_133 (c_X10_inL hS _ nr (by omega)) rfl rfl rfl rfl rfl rfl ?_
  refine x_if_eq (q := 14) (t := 36) dX10_resolved_11 rfl (by decide) (fun c_11 => ?_) (fun c_11 => ?_)
  · replace c_11 := b2n c_11
    refine x_bipush (q := 38) (v := -2) dX10_resolved_36 rfl (by decide) ?_
    exact x_iret dX10_resolved_38 ⟨_, rfl, by first | rfl | (split <;> rfl)⟩ rfl (Nat.le_refl _) rfl ⟨by first | (simp [vRes, c_11]; done) | (simp [vRes, c_11, nI_clamp (show j < 2 ^ 31 by omega), nI_clamp (show k < 2 ^ 31 by omega), Nat.mul_comm]; done), rfl⟩
  · replace c_11 := b2y c_11
    refine x_aload_n (q := 15) dX10_resolved_14 rfl rfl rfl ?_
    refine x_iload_n (q := 16) dX10_resolved_15 rfl rfl rfl ?_
    refine y_cvI (q := 19) dX10_resolved_16 rfl l_X10_140 (c_X10_isBase hS _ nb hnb hnb8) rfl rfl (cl_132 hS) (by decide) rfl rfl rfl rfl ?_
    refine x_if_eq (q := 22) (t := 36) dX10_resolved_19 rfl (by decide) (fun c_19 => ?_) (fun c_19 => ?_)
    · replace c_19 := b2n c_19
      refine x_bipush (q := 38) (v := -2) dX10_resolved_36 rfl (by decide) ?_
      exact x_iret dX10_resolved_38 ⟨_, rfl, by first | rfl | (split <;> rfl)⟩ rfl (Nat.le_refl _) rfl ⟨by first | (simp [vRes, c_11, c_19]; done) | (simp [vRes, c_11, c_19, nI_clamp (show j < 2 ^ 31 by omega), nI_clamp (show k < 2 ^ 31 by omega), Nat.mul_comm]; done), rfl⟩
    · replace c_19 := b2y c_19
      obtain ⟨j, hj, rfl⟩ := ltB_of (by omega) c_11
      obtain ⟨k, hk, rfl⟩ := ltB_of (by omega) c_19
      refine x_aload_n (q := 23) dX10_resolved_22 rfl rfl rfl ?_
      refine x_get (q := 26) dX10_resolved_23 rfl f_X10_38 (cl_132 hS) rfl (by decide) ?_
      refine x_bipush (q := 28) (v := 8) dX10_resolved_26 rfl (by decide) ?_
      refine x_iload_n (q := 29) dX10_resolved_28 rfl rfl rfl ?_
      refine x_imul (q := 30) dX10_resolved_29 rfl ?_
      refine x_iload_n (q := 31) dX10_resolved_30 rfl rfl rfl ?_
      refine x_iadd (q := 32) dX10_resolved_31 rfl ?_
      rw [ux8]
      refine z_iald (q := 33) (j := 8 * j + k) dX10_resolved_32 rfl (cl_142 hS) (by omega) (by decide) (by decide) ?_
      refine x_goto (q := 38) dX10_resolved_33 (by decide) ?_
      exact x_iret dX10_resolved_38 ⟨_, rfl, by first | rfl | (split <;> rfl)⟩ rfl (Nat.le_refl _) rfl ⟨by first | (simp [vRes, c_11, c_19]; done) | (simp [vRes, c_11, c_19, nI_clamp (show j < 2 ^ 31 by omega), nI_clamp (show k < 2 ^ 31 by omega), Nat.mul_comm]; done), rfl⟩

def usum (f : Nat → Int32) (t : Nat) : Nat → Int32
  | 0 => 0
  | n + 1 => usum f t n + f (8 * t + n)
set_option maxHeartbeats 4000000 in
set_option maxRecDepth 100000 in
theorem lp_uof {h : HF} (hS : Sh h) (t : Nat) (ht : t < 24) : ∀ (k i : Nat), i + k = 8 → Vg mX10_unitsOf none (QM mX10_unitsOf 170 (RI (usum (gi h 144) t 8) h)) 4 [some (.ref 132), some (.int (nI t)), some (.int (usum (gi h 144) t i)), some (.int (nI i))] [] 170 h 0 0 := by
  intro k
  induction k with
  | zero =>
    intro i hi
    obtain rfl : i = 8 := by omega
    refine x_iload_n (q := 5) dX10_unitsOf_4 rfl rfl rfl ?_
    refine x_bipush (q := 7) (v := 8) dX10_unitsOf_5 rfl (by decide) ?_
    refine x_ic_ge (q := 10) (t := 30) dX10_unitsOf_7 rfl (by decide) (fun _ => ?_) (fun c_ => absurd (by decide) c_)
    refine x_iload_n (q := 31) dX10_unitsOf_30 rfl rfl rfl ?_
    exact x_iret dX10_unitsOf_31 ⟨_, rfl, by first | rfl | (split <;> rfl)⟩ rfl (Nat.le_refl _) rfl ⟨rfl, rfl⟩
  | succ k ih =>
    intro i hi
    refine x_iload_n (q := 5) dX10_unitsOf_4 rfl rfl rfl ?_
    refine x_bipush (q := 7) (v := 8) dX10_unitsOf_5 rfl (by decide) ?_
    refine x_ic_ge (q := 10) (t := 30) dX10_unitsOf_7 rfl (by decide) (fun c_ => absurd c_ (nI_ge (b := 8) (by omega) (by decide))) (fun _ => ?_)
    refine x_iload_n (q := 11) dX10_unitsOf_10 rfl rfl rfl ?_
    refine x_aload_n (q := 12) dX10_unitsOf_11 rfl rfl rfl ?_
    refine x_get (q := 15) dX10_unitsOf_12 rfl f_X10_44 (cl_132 hS) rfl (by decide) ?_
    refine x_bipush (q := 17) (v := 8) dX10_unitsOf_15 rfl (by decide) ?_
    refine x_iload_n (q := 18) dX10_unitsOf_17 rfl rfl rfl ?_
    refine x_imul (q := 19) dX10_unitsOf_18 rfl ?_
    refine x_iload_n (q := 20) dX10_unitsOf_19 rfl rfl rfl ?_
    refine x_iadd (q := 21) dX10_unitsOf_20 rfl ?_
    rw [ux8]
    refine z_iald (q := 22) (j := 8 * t + i) dX10_unitsOf_21 rfl (cl_144 hS) (by omega) (by decide) (by decide) ?_
    refine x_iadd (q := 23) dX10_unitsOf_22 rfl ?_
    refine x_istore_n (q := 24) dX10_unitsOf_23 rfl rfl (by decide) ?_
    refine x_iinc (q := 27) (v := nI (i + 1)) dX10_unitsOf_24 rfl rfl (nI_inc _) (by decide) ?_
    refine x_goto (q := 4) dX10_unitsOf_27 (by decide) ?_
    exact ih (i + 1) (by omega)

set_option maxHeartbeats 4000000 in
set_option maxRecDepth 100000 in
theorem c_X10_unitsOf {h : HF} (hS : Sh h) (t : Nat) (ht : t < 24) : Mc mX10_unitsOf [.ref 132, .int (nI t)] 170 h (RI (usum (gi h 144) t 8) h) := by
  refine Mc.of (by decide) rfl (Nat.le_of_ble_eq_true rfl) ?_
  refine x_iconst (q := 1) (v := 0) dX10_unitsOf_0 rfl (by decide) ?_
  refine x_istore_n (q := 2) dX10_unitsOf_1 rfl rfl (by decide) ?_
  refine x_iconst (q := 3) (v := 0) dX10_unitsOf_2 rfl (by decide) ?_
  refine x_istore_n (q := 4) dX10_unitsOf_3 rfl rfl (by decide) ?_
  exact lp_uof hS t ht 8 0 (by omega)

