def mHolds (h : HF) (t u : Int32) : HF := if inB t 0 4 = true then if inB u 1 60000 = true then if gi h 150 t.toNatClampNeg ≤ u then si h 149 (upd (gi h 149) t.toNatClampNeg u) else h else h else h
def mLim (h : HF) (v : Int32) : HF := if inB v 0 1000000 = true then sI h 132 30 v else h
def mClean (h : HF) (t : Int32) : HF := if inB t 0 4 = true then if gi h 150 t.toNatClampNeg ≤ 0 then si (sI h 132 37 (fI h 132 37 + (if gi h 151 t.toNatClampNeg = 0 then 0 else 1))) 151 (upd (gi h 151) t.toNatClampNeg 0) else h else h
set_option maxHeartbeats 4000000 in
set_option maxRecDepth 100000 in
theorem c_X10_holds {h : HF} (hS : Sh h) (t u : Int32) : Mc mX10_holds [.ref 132, .int t, .int u] 170 h (RI (vHolds (gi h 150) (gi h 149) t u) (mHolds h t u)) := by
  refine Mc.of (by decide) rfl (Nat.le_of_ble_eq_true rfl) ?_
  refine x_iload_n (q := 1) dX10_holds_0 rfl rfl rfl ?_
  refine y_csI (q := 4) dX10_holds_1 rfl l_X10_199 (c_X10_isTank hS _) rfl rfl rfl rfl rfl rfl ?_
  refine x_if_ne (q := 7) (t := 10) dX10_holds_4 rfl (by decide) (fun c_4 => ?_) (fun c_4 => ?_)
  · replace c_4 := b2y c_4
    refine x_iload_n (q := 11) dX10_holds_10 rfl rfl rfl ?_
    refine x_iconst (q := 12) (v := 1) dX10_holds_11 rfl (by decide) ?_
    refine x_ldc (q := 14) dX10_holds_12 rfl v_X10_202 ?_
    refine y_csI (q := 17) dX10_holds_14 rfl l_X10_133 (c_X10_in hS _ _ _) rfl rfl rfl rfl rfl rfl ?_
    refine x_if_ne (q := 20) (t := 23) dX10_holds_17 rfl (by decide) (fun c_17 => ?_) (fun c_17 => ?_)
    · replace c_17 := b2y c_17
      obtain ⟨t, ht, rfl⟩ := inB_of (n := 4) (by decide) c_4
      refine x_aload_n (q := 24) dX10_holds_23 rfl rfl rfl ?_
      refine x_get (q := 27) dX10_holds_24 rfl f_X10_63 (cl_132 hS) rfl (by decide) ?_
      refine x_iload_n (q := 28) dX10_holds_27 rfl rfl rfl ?_
      refine z_iald (q := 29) (j := t) dX10_holds_28 rfl (cl_150 hS) (by omega) (by decide) (by decide) ?_
      refine x_iload_n (q := 30) dX10_holds_29 rfl rfl rfl ?_
      refine x_ic_le (q := 33) (t := 36) dX10_holds_30 rfl (by decide) (fun c_30 => ?_) (fun c_30 => ?_)
      · refine x_aload_n (q := 37) dX10_holds_36 rfl rfl rfl ?_
        refine x_get (q := 40) dX10_holds_37 rfl f_X10_60 (cl_132 hS) rfl (by decide) ?_
        refine x_iload_n (q := 41) dX10_holds_40 rfl rfl rfl ?_
        refine z_iald (q := 42) (j := t) dX10_holds_41 rfl (cl_149 hS) (by omega) (by decide) (by decide) ?_
        refine x_istore_n (q := 43) dX10_holds_42 rfl rfl (by decide) ?_
        refine x_aload_n (q := 44) dX10_holds_43 rfl rfl rfl ?_
        refine x_get (q := 47) dX10_holds_44 rfl f_X10_60 (cl_132 hS) rfl (by decide) ?_
        refine x_iload_n (q := 48) dX10_holds_47 rfl rfl rfl ?_
        refine x_iload_n (q := 49) dX10_holds_48 rfl rfl rfl ?_
        refine z_iast (q := 50) (j := t) dX10_holds_49 rfl (cl_149 hS) (by omega) (by decide) (by decide) ?_
        refine Vg.nm (fun h1 eh1 => ?_)
        have hS1 : Sh h1 := by rw [eh1]; exact hS.si _ _
        refine x_iload_n (q := 51) dX10_holds_50 rfl rfl rfl ?_
        exact x_iret dX10_holds_51 ⟨_, rfl, by first | rfl | (split <;> rfl)⟩ rfl (Nat.le_refl _) rfl ⟨by simp [vHolds, c_4, c_17, c_30, nI_clamp (show t < 2 ^ 31 by omega)], by rw [eh1]; simp [mHolds, c_4, c_17, c_30, nI_clamp (show t < 2 ^ 31 by omega)]⟩
      · refine x_bipush (q := 35) (v := -4) dX10_holds_33 rfl (by decide) ?_
        exact x_iret dX10_holds_35 ⟨_, rfl, by first | rfl | (split <;> rfl)⟩ rfl (Nat.le_refl _) rfl ⟨by simp [vHolds, c_4, c_17, c_30, nI_clamp (show t < 2 ^ 31 by omega)], by simp [mHolds, c_4, c_17, c_30, nI_clamp (show t < 2 ^ 31 by omega)]⟩
    · replace c_17 := b2n c_17
      refine x_bipush (q := 22) (v := -3) dX10_holds_20 rfl (by decide) ?_
      exact x_iret dX10_holds_22 ⟨_, rfl, by first | rfl | (split <;> rfl)⟩ rfl (Nat.le_refl _) rfl ⟨by simp [vHolds, c_4, c_17], by simp [mHolds, c_4, c_17]⟩
  · replace c_4 := b2n c_4
    refine x_bipush (q := 9) (v := -2) dX10_holds_7 rfl (by decide) ?_
    exact x_iret dX10_holds_9 ⟨_, rfl, by first | rfl | (split <;> rfl)⟩ rfl (Nat.le_refl _) rfl ⟨by simp [vHolds, c_4], by simp [mHolds, c_4]⟩

set_option maxHeartbeats 4000000 in
set_option maxRecDepth 100000 in
theorem c_X10_limit {h : HF} (hS : Sh h) (v : Int32) : Mc mX10_limit [.ref 132, .int v] 170 h (RI (vLim (fI h 132 30) v) (mLim h v)) := by
  refine Mc.of (by decide) rfl (Nat.le_of_ble_eq_true rfl) ?_
  refine x_iload_n (q := 1) dX10_limit_0 rfl rfl rfl ?_
  refine x_iconst (q := 2) (v := 0) dX10_limit_1 rfl (by decide) ?_
  refine x_ldc (q := 4) dX10_limit_2 rfl v_X10_175 ?_
  refine y_csI (q := 7) dX10_limit_4 rfl l_X10_133 (c_X10_in hS _ _ _) rfl rfl rfl rfl rfl rfl ?_
  refine x_if_ne (q := 10) (t := 13) dX10_limit_7 rfl (by decide) (fun c_7 => ?_) (fun c_7 => ?_)
  · replace c_7 := b2y c_7
    refine x_aload_n (q := 14) dX10_limit_13 rfl rfl rfl ?_
    refine x_get (q := 17) dX10_limit_14 rfl f_X10_84 (cl_132 hS) rfl (by decide) ?_
    refine x_istore_n (q := 18) dX10_limit_17 rfl rfl (by decide) ?_
    refine x_aload_n (q := 19) dX10_limit_18 rfl rfl rfl ?_
    refine x_iload_n (q := 20) dX10_limit_19 rfl rfl rfl ?_
    refine y_put (q := 23) dX10_limit_20 rfl f_X10_84 (cl_132 hS) rfl (by first | rfl | decide) (by first | rfl | decide) (by decide) ?_
    refine Vg.nm (fun h1 eh1 => ?_)
    have hS1 : Sh h1 := by rw [eh1]; exact hS.sI _ _ _
    refine x_iload_n (q := 24) dX10_limit_23 rfl rfl rfl ?_
    exact x_iret dX10_limit_24 ⟨_, rfl, by first | rfl | (split <;> rfl)⟩ rfl (Nat.le_refl _) rfl ⟨by simp [vLim, c_7], by rw [eh1]; simp [mLim, c_7]⟩
  · replace c_7 := b2n c_7
    refine x_bipush (q := 12) (v := -3) dX10_limit_10 rfl (by decide) ?_
    exact x_iret dX10_limit_12 ⟨_, rfl, by first | rfl | (split <;> rfl)⟩ rfl (Nat.le_refl _) rfl ⟨by simp [vLim, c_7], by simp [mLim, c_7]⟩

set_option maxHeartbeats 4000000 in
set_option maxRecDepth 100000 in
theorem c_X10_clean {h : HF} (hS : Sh h) (t : Int32) : Mc mX10_clean [.ref 132, .int t] 170 h (RI (vClean (gi h 150) (gi h 151) t) (mClean h t)) := by
  refine Mc.of (by decide) rfl (Nat.le_of_ble_eq_true rfl) ?_
  refine x_iload_n (q := 1) dX10_clean_0 rfl rfl rfl ?_
  refine y_csI (q := 4) dX10_clean_1 rfl l_X10_199 (c_X10_isTank hS _) rfl rfl rfl rfl rfl rfl ?_
  refine x_if_ne (q := 7) (t := 10) dX10_clean_4 rfl (by decide) (fun c_4 => ?_) (fun c_4 => ?_)
  · replace c_4 := b2y c_4
    obtain ⟨t, ht, rfl⟩ := inB_of (n := 4) (by decide) c_4
    refine x_aload_n (q := 11) dX10_clean_10 rfl rfl rfl ?_
    refine x_get (q := 14) dX10_clean_11 rfl f_X10_63 (cl_132 hS) rfl (by decide) ?_
    refine x_iload_n (q := 15) dX10_clean_14 rfl rfl rfl ?_
    refine z_iald (q := 16) (j := t) dX10_clean_15 rfl (cl_150 hS) (by omega) (by decide) (by decide) ?_
    refine x_if_le (q := 19) (t := 22) dX10_clean_16 rfl (by decide) (fun c_16 => ?_) (fun c_16 => ?_)
    · refine x_aload_n (q := 23) dX10_clean_22 rfl rfl rfl ?_
      refine x_get (q := 26) dX10_clean_23 rfl f_X10_66 (cl_132 hS) rfl (by decide) ?_
      refine x_iload_n (q := 27) dX10_clean_26 rfl rfl rfl ?_
      refine z_zald (q := 28) (j := t) dX10_clean_27 rfl (cl_151 hS) (by omega) (by decide) (by decide) ?_
      refine x_if_eq (q := 31) (t := 35) dX10_clean_28 rfl (by decide) (fun c_28 => ?_) (fun c_28 => ?_)
      · refine x_iconst (q := 36) (v := 0) dX10_clean_35 rfl (by decide) ?_
        refine x_istore_n (q := 37) dX10_clean_36 rfl rfl (by decide) ?_
        refine x_aload_n (q := 38) dX10_clean_37 rfl rfl rfl ?_
        refine x_dup (q := 39) dX10_clean_38 rfl rfl ?_
        refine x_get (q := 42) dX10_clean_39 rfl f_X10_206 (cl_132 hS) rfl (by decide) ?_
        refine x_iload_n (q := 43) dX10_clean_42 rfl rfl rfl ?_
        refine x_iadd (q := 44) dX10_clean_43 rfl ?_
        refine y_put (q := 47) dX10_clean_44 rfl f_X10_206 (cl_132 hS) rfl (by first | rfl | decide) (by first | rfl | decide) (by decide) ?_
        refine Vg.nm (fun h1 eh1 => ?_)
        have hS1 : Sh h1 := by rw [eh1]; exact hS.sI _ _ _
        refine x_aload_n (q := 48) dX10_clean_47 rfl rfl rfl ?_
        refine x_get (q := 51) dX10_clean_48 rfl f_X10_66 (cl_132 hS1) rfl (by decide) ?_
        refine x_iload_n (q := 52) dX10_clean_51 rfl rfl rfl ?_
        refine x_iconst (q := 53) (v := 0) dX10_clean_52 rfl (by decide) ?_
        refine z_zast (q := 54) (j := t) dX10_clean_53 rfl (cl_151 hS1) (by omega) (by decide) (by first | assumption | decide) (by decide) ?_
        refine Vg.nm (fun h2 eh2 => ?_)
        have hS2 : Sh h2 := by rw [eh2]; exact hS1.si _ _
        refine x_iload_n (q := 55) dX10_clean_54 rfl rfl rfl ?_
        exact x_iret dX10_clean_55 ⟨_, rfl, by first | rfl | (split <;> rfl)⟩ rfl (Nat.le_refl _) rfl ⟨by simp [vClean, c_4, c_16, c_28, nI_clamp (show t < 2 ^ 31 by omega)], by simp only [mClean, c_4, c_16, c_28, nI_clamp (show t < 2 ^ 31 by omega), if_true, if_false]; subst_vars; simp (disch := decide) only [gi_sI]⟩
      · refine x_iconst (q := 32) (v := 1) dX10_clean_31 rfl (by decide) ?_
        refine x_goto (q := 36) dX10_clean_32 (by decide) ?_
        refine x_istore_n (q := 37) dX10_clean_36 rfl rfl (by decide) ?_
        refine x_aload_n (q := 38) dX10_clean_37 rfl rfl rfl ?_
        refine x_dup (q := 39) dX10_clean_38 rfl rfl ?_
        refine x_get (q := 42) dX10_clean_39 rfl f_X10_206 (cl_132 hS) rfl (by decide) ?_
        refine x_iload_n (q := 43) dX10_clean_42 rfl rfl rfl ?_
        refine x_iadd (q := 44) dX10_clean_43 rfl ?_
        refine y_put (q := 47) dX10_clean_44 rfl f_X10_206 (cl_132 hS) rfl (by first | rfl | decide) (by first | rfl | decide) (by decide) ?_
        refine Vg.nm (fun h3 eh3 => ?_)
        have hS3 : Sh h3 := by rw [eh3]; exact hS.sI _ _ _
        refine x_aload_n (q := 48) dX10_clean_47 rfl rfl rfl ?_
        refine x_get (q := 51) dX10_clean_48 rfl f_X10_66 (cl_132 hS3) rfl (by decide) ?_
        refine x_iload_n (q := 52) dX10_clean_51 rfl rfl rfl ?_
        refine x_iconst (q := 53) (v := 0) dX10_clean_52 rfl (by decide) ?_
        refine z_zast (q := 54) (j := t) dX10_clean_53 rfl (cl_151 hS3) (by omega) (by decide) (by first | assumption | decide) (by decide) ?_
        refine Vg.nm (fun h4 eh4 => ?_)
        have hS4 : Sh h4 := by rw [eh4]; exact hS3.si _ _
        refine x_iload_n (q := 55) dX10_clean_54 rfl rfl rfl ?_
        exact x_iret dX10_clean_55 ⟨_, rfl, by first | rfl | (split <;> rfl)⟩ rfl (Nat.le_refl _) rfl ⟨by simp [vClean, c_4, c_16, c_28, nI_clamp (show t < 2 ^ 31 by omega)], by simp only [mClean, c_4, c_16, c_28, nI_clamp (show t < 2 ^ 31 by omega), if_true, if_false]; subst_vars; simp (disch := decide) only [gi_sI]⟩
    · refine x_bipush (q := 21) (v := -4) dX10_clean_19 rfl (by decide) ?_
      exact x_iret dX10_clean_21 ⟨_, rfl, by first | rfl | (split <;> rfl)⟩ rfl (Nat.le_refl _) rfl ⟨by simp [vClean, c_4, c_16, nI_clamp (show t < 2 ^ 31 by omega)], by simp [mClean, c_4, c_16, nI_clamp (show t < 2 ^ 31 by omega)]⟩
  · replace c_4 := b2n c_4
    refine x_bipush (q := 9) (v := -2) dX10_clean_7 rfl (by decide) ?_
    exact x_iret dX10_clean_9 ⟨_, rfl, by first | rfl | (split <;> rfl)⟩ rfl (Nat.le_refl _) rfl ⟨by simp [vClean, c_4], by simp [mClean, c_4]⟩

set_option maxHeartbeats 4000000 in
set_option maxRecDepth 100000 in
theorem c_X10_tank {h : HF} (hS : Sh h) (t w : Int32) : Mc mX10_tank [.ref 132, .int t, .int w] 170 h (RI (vTank (gi h 150) (gi h 151) (gi h 149) t w) (h)) := by
  refine Mc.of (by decide) rfl (Nat.le_of_ble_eq_true rfl) ?_
  refine x_iload_n (q := 1) dX10_tank_0 rfl rfl rfl ?_
  refine y_csI (q := 4) dX10_tank_1 rfl l_X10_199 (c_X10_isTank hS _) rfl rfl rfl rfl rfl rfl ?_
  refine x_if_ne (q := 7) (t := 10) dX10_tank_4 rfl (by decide) (fun c_4 => ?_) (fun c_4 => ?_)
  · replace c_4 := b2y c_4
    obtain ⟨t, ht, rfl⟩ := inB_of (n := 4) (by decide) c_4
    refine x_iload_n (q := 11) dX10_tank_10 rfl rfl rfl ?_
    rcases tsw4 w with rfl | rfl | rfl | rfl | hw
    · refine x_tswI (q := 40) (off := 29) dX10_tank_11 (by decide) (by decide) (by decide) (by decide) ?_
      refine x_aload_n (q := 41) dX10_tank_40 rfl rfl rfl ?_
      refine x_get (q := 44) dX10_tank_41 rfl f_X10_63 (cl_132 hS) rfl (by decide) ?_
      refine x_iload_n (q := 45) dX10_tank_44 rfl rfl rfl ?_
      refine z_iald (q := 46) (j := t) dX10_tank_45 rfl (cl_150 hS) (by omega) (by decide) (by decide) ?_
      exact x_iret dX10_tank_46 ⟨_, rfl, by first | rfl | (split <;> rfl)⟩ rfl (Nat.le_refl _) rfl ⟨by simp_all [vTank, nI_clamp (show t < 2 ^ 31 by omega)], rfl⟩
    · refine x_tswI (q := 47) (off := 36) dX10_tank_11 (by decide) (by decide) (by decide) (by decide) ?_
      refine x_aload_n (q := 48) dX10_tank_47 rfl rfl rfl ?_
      refine x_get (q := 51) dX10_tank_48 rfl f_X10_63 (cl_132 hS) rfl (by decide) ?_
      refine x_iload_n (q := 52) dX10_tank_51 rfl rfl rfl ?_
      refine z_iald (q := 53) (j := t) dX10_tank_52 rfl (cl_150 hS) (by omega) (by decide) (by decide) ?_
      refine x_if_ne (q := 56) (t := 69) dX10_tank_53 rfl (by decide) (fun c_53 => ?_) (fun c_53 => ?_)
      · refine x_iconst (q := 70) (v := 0) dX10_tank_69 rfl (by decide) ?_
        exact x_iret dX10_tank_70 ⟨_, rfl, by first | rfl | (split <;> rfl)⟩ rfl (Nat.le_refl _) rfl ⟨by simp_all [vTank, nI_clamp (show t < 2 ^ 31 by omega)], rfl⟩
      · refine x_aload_n (q := 57) dX10_tank_56 rfl rfl rfl ?_
        refine x_get (q := 60) dX10_tank_57 rfl f_X10_66 (cl_132 hS) rfl (by decide) ?_
        refine x_iload_n (q := 61) dX10_tank_60 rfl rfl rfl ?_
        refine z_zald (q := 62) (j := t) dX10_tank_61 rfl (cl_151 hS) (by omega) (by decide) (by decide) ?_
        refine x_if_ne (q := 65) (t := 69) dX10_tank_62 rfl (by decide) (fun c_62 => ?_) (fun c_62 => ?_)
        · refine x_iconst (q := 70) (v := 0) dX10_tank_69 rfl (by decide) ?_
          exact x_iret dX10_tank_70 ⟨_, rfl, by first | rfl | (split <;> rfl)⟩ rfl (Nat.le_refl _) rfl ⟨by simp_all [vTank, nI_clamp (show t < 2 ^ 31 by omega)], rfl⟩
        · refine x_iconst (q := 66) (v := 1) dX10_tank_65 rfl (by decide) ?_
          refine x_goto (q := 70) dX10_tank_66 (by decide) ?_
          exact x_iret dX10_tank_70 ⟨_, rfl, by first | rfl | (split <;> rfl)⟩ rfl (Nat.le_refl _) rfl ⟨by simp_all [vTank, nI_clamp (show t < 2 ^ 31 by omega)], rfl⟩
    · refine x_tswI (q := 71) (off := 60) dX10_tank_11 (by decide) (by decide) (by decide) (by decide) ?_
      refine x_aload_n (q := 72) dX10_tank_71 rfl rfl rfl ?_
      refine x_get (q := 75) dX10_tank_72 rfl f_X10_66 (cl_132 hS) rfl (by decide) ?_
      refine x_iload_n (q := 76) dX10_tank_75 rfl rfl rfl ?_
      refine z_zald (q := 77) (j := t) dX10_tank_76 rfl (cl_151 hS) (by omega) (by decide) (by decide) ?_
      refine x_if_eq (q := 80) (t := 84) dX10_tank_77 rfl (by decide) (fun c_77 => ?_) (fun c_77 => ?_)
      · refine x_iconst (q := 85) (v := 0) dX10_tank_84 rfl (by decide) ?_
        exact x_iret dX10_tank_85 ⟨_, rfl, by first | rfl | (split <;> rfl)⟩ rfl (Nat.le_refl _) rfl ⟨by simp_all [vTank, nI_clamp (show t < 2 ^ 31 by omega)], rfl⟩
      · refine x_iconst (q := 81) (v := 1) dX10_tank_80 rfl (by decide) ?_
        refine x_goto (q := 85) dX10_tank_81 (by decide) ?_
        exact x_iret dX10_tank_85 ⟨_, rfl, by first | rfl | (split <;> rfl)⟩ rfl (Nat.le_refl _) rfl ⟨by simp_all [vTank, nI_clamp (show t < 2 ^ 31 by omega)], rfl⟩
    · refine x_tswI (q := 86) (off := 75) dX10_tank_11 (by decide) (by decide) (by decide) (by decide) ?_
      refine x_aload_n (q := 87) dX10_tank_86 rfl rfl rfl ?_
      refine x_get (q := 90) dX10_tank_87 rfl f_X10_60 (cl_132 hS) rfl (by decide) ?_
      refine x_iload_n (q := 91) dX10_tank_90 rfl rfl rfl ?_
      refine z_iald (q := 92) (j := t) dX10_tank_91 rfl (cl_149 hS) (by omega) (by decide) (by decide) ?_
      exact x_iret dX10_tank_92 ⟨_, rfl, by first | rfl | (split <;> rfl)⟩ rfl (Nat.le_refl _) rfl ⟨by simp_all [vTank, nI_clamp (show t < 2 ^ 31 by omega)], rfl⟩
    · refine x_tswO (q := 93) dX10_tank_11 hw.1 (by decide) ?_
      refine x_bipush (q := 95) (v := -3) dX10_tank_93 rfl (by decide) ?_
      exact x_iret dX10_tank_95 ⟨_, rfl, by first | rfl | (split <;> rfl)⟩ rfl (Nat.le_refl _) rfl ⟨by simp_all [vTank, nI_clamp (show t < 2 ^ 31 by omega)], rfl⟩
  · replace c_4 := b2n c_4
    refine x_bipush (q := 9) (v := -2) dX10_tank_7 rfl (by decide) ?_
    exact x_iret dX10_tank_9 ⟨_, rfl, by first | rfl | (split <;> rfl)⟩ rfl (Nat.le_refl _) rfl ⟨by simp [vTank, c_4], rfl⟩

def mTS (ins stn : Nat → Int32) (S : Nat → Nat → Int32) (s : Nat → Nat → Int32) (t d : Int32) : Int32 := if inB t 0 4 = true then if inB d 0 2 = true then if ins t.toNatClampNeg ≤ 0 then if stn t.toNatClampNeg = 0 then -4 else S t.toNatClampNeg d.toNatClampNeg else s t.toNatClampNeg d.toNatClampNeg else -2 else -2
set_option maxHeartbeats 4000000 in
set_option maxRecDepth 100000 in
theorem c_X10_tankShade {h : HF} (hS : Sh h) (t d : Int32) : Mc mX10_tankShade [.ref 132, .int t, .int d] 170 h (RI (mTS (gi h 150) (gi h 151) (fun t d => gi h 156 (3 * t + d)) (fun t d => ysh (gi h 153) (gi h 169) (gi h 133) (gi h 134) (8 * t) d) t d) (h)) := by
  refine Mc.of (by decide) rfl (Nat.le_of_ble_eq_true rfl) ?_
  refine x_iload_n (q := 1) dX10_tankShade_0 rfl rfl rfl ?_
  refine y_csI (q := 4) dX10_tankShade_1 rfl l_X10_199 (c_X10_isTank hS _) rfl rfl rfl rfl rfl rfl ?_
  refine x_if_eq (q := 7) (t := 16) dX10_tankShade_4 rfl (by decide) (fun c_4 => ?_) (fun c_4 => ?_)
  · replace c_4 := b2n c_4
    refine x_bipush (q := 18) (v := -2) dX10_tankShade_16 rfl (by decide) ?_
    exact x_iret dX10_tankShade_18 ⟨_, rfl, by first | rfl | (split <;> rfl)⟩ rfl (Nat.le_refl _) rfl ⟨by simp [mTS, c_4], rfl⟩
  · replace c_4 := b2y c_4
    refine x_iload_n (q := 8) dX10_tankShade_7 rfl rfl rfl ?_
    refine x_iconst (q := 9) (v := 0) dX10_tankShade_8 rfl (by decide) ?_
    refine x_iconst (q := 10) (v := 2) dX10_tankShade_9 rfl (by decide) ?_
    refine y_csI (q := 13) dX10_tankShade_10 rfl l_X10_133 (c_X10_in hS _ _ _) rfl rfl rfl rfl rfl rfl ?_
    refine x_if_ne (q := 16) (t := 19) dX10_tankShade_13 rfl (by decide) (fun c_13 => ?_) (fun c_13 => ?_)
    · replace c_13 := b2y c_13
      obtain ⟨t, ht, rfl⟩ := inB_of (n := 4) (by decide) c_4
      obtain ⟨j, hj, rfl⟩ := inB_of (n := 2) (by decide) c_13
      refine x_aload_n (q := 20) dX10_tankShade_19 rfl rfl rfl ?_
      refine x_get (q := 23) dX10_tankShade_20 rfl f_X10_63 (cl_132 hS) rfl (by decide) ?_
      refine x_iload_n (q := 24) dX10_tankShade_23 rfl rfl rfl ?_
      refine z_iald (q := 25) (j := t) dX10_tankShade_24 rfl (cl_150 hS) (by omega) (by decide) (by decide) ?_
      refine x_if_le (q := 28) (t := 46) dX10_tankShade_25 rfl (by decide) (fun c_25 => ?_) (fun c_25 => ?_)
      · refine x_aload_n (q := 47) dX10_tankShade_46 rfl rfl rfl ?_
        refine x_get (q := 50) dX10_tankShade_47 rfl f_X10_66 (cl_132 hS) rfl (by decide) ?_
        refine x_iload_n (q := 51) dX10_tankShade_50 rfl rfl rfl ?_
        refine z_zald (q := 52) (j := t) dX10_tankShade_51 rfl (cl_151 hS) (by omega) (by decide) (by decide) ?_
        refine x_if_eq (q := 55) (t := 68) dX10_tankShade_52 rfl (by decide) (fun c_52 => ?_) (fun c_52 => ?_)
        · refine x_bipush (q := 70) (v := -4) dX10_tankShade_68 rfl (by decide) ?_
          exact x_iret dX10_tankShade_70 ⟨_, rfl, by first | rfl | (split <;> rfl)⟩ rfl (Nat.le_refl _) rfl ⟨by simp [mTS, c_4, c_13, c_25, c_52, nI_clamp (show t < 2 ^ 31 by omega), nI_clamp (show j < 2 ^ 31 by omega)], rfl⟩
        · refine x_aload_n (q := 56) dX10_tankShade_55 rfl rfl rfl ?_
          refine x_get (q := 59) dX10_tankShade_56 rfl f_X10_81 (cl_132 hS) rfl (by decide) ?_
          refine x_iconst (q := 60) (v := 3) dX10_tankShade_59 rfl (by decide) ?_
          refine x_iload_n (q := 61) dX10_tankShade_60 rfl rfl rfl ?_
          refine x_imul (q := 62) dX10_tankShade_61 rfl ?_
          refine x_iload_n (q := 63) dX10_tankShade_62 rfl rfl rfl ?_
          refine x_iadd (q := 64) dX10_tankShade_63 rfl ?_
          rw [ux3]
          refine z_iald (q := 65) (j := 3 * t + j) dX10_tankShade_64 rfl (cl_156 hS) (by omega) (by decide) (by decide) ?_
          refine x_goto (q := 70) dX10_tankShade_65 (by decide) ?_
          exact x_iret dX10_tankShade_70 ⟨_, rfl, by first | rfl | (split <;> rfl)⟩ rfl (Nat.le_refl _) rfl ⟨by simp [mTS, c_4, c_13, c_25, c_52, nI_clamp (show t < 2 ^ 31 by omega), nI_clamp (show j < 2 ^ 31 by omega)], rfl⟩
      · refine x_aload_n (q := 29) dX10_tankShade_28 rfl rfl rfl ?_
        refine x_aload_n (q := 30) dX10_tankShade_29 rfl rfl rfl ?_
        refine x_get (q := 33) dX10_tankShade_30 rfl f_X10_72 (cl_132 hS) rfl (by decide) ?_
        refine x_bipush (q := 35) (v := 8) dX10_tankShade_33 rfl (by decide) ?_
        refine x_iload_n (q := 36) dX10_tankShade_35 rfl rfl rfl ?_
        refine x_imul (q := 37) dX10_tankShade_36 rfl ?_
        refine x_aload_n (q := 38) dX10_tankShade_37 rfl rfl rfl ?_
        refine x_get (q := 41) dX10_tankShade_38 rfl f_X10_124 (cl_132 hS) rfl (by decide) ?_
        refine x_iload_n (q := 42) dX10_tankShade_41 rfl rfl rfl ?_
        refine y_cvI (q := 45) dX10_tankShade_42 rfl l_X10_180 (c_shT hS t j (by omega) (by omega)) rfl rfl (cl_132 hS) (by decide) rfl rfl rfl rfl ?_
        exact x_iret dX10_tankShade_45 ⟨_, rfl, by first | rfl | (split <;> rfl)⟩ rfl (Nat.le_refl _) rfl ⟨by simp [mTS, c_4, c_13, c_25, nI_clamp (show t < 2 ^ 31 by omega), nI_clamp (show j < 2 ^ 31 by omega)], rfl⟩
    · replace c_13 := b2n c_13
      refine x_bipush (q := 18) (v := -2) dX10_tankShade_16 rfl (by decide) ?_
      exact x_iret dX10_tankShade_18 ⟨_, rfl, by first | rfl | (split <;> rfl)⟩ rfl (Nat.le_refl _) rfl ⟨by simp [mTS, c_4, c_13], rfl⟩

def mnB (s : Int64) : Nat → Int32
  | 0 => 0
  | n + 1 => if (s >>> ((nI n).toInt64 &&& 63)) &&& 1 = 1 then mnB s n + 1 else mnB s n
theorem mnB_t {s : Int64} {n : Nat} (e : (s >>> ((nI n).toInt64 &&& 63)) &&& 1 = 1) : mnB s (n + 1) = mnB s n + 1 := if_pos e
theorem mnB_f {s : Int64} {n : Nat} (e : ¬ (s >>> ((nI n).toInt64 &&& 63)) &&& 1 = 1) : mnB s (n + 1) = mnB s n := if_neg e
set_option maxHeartbeats 4000000 in
set_option maxRecDepth 100000 in
theorem lp_many {h : HF} (hS : Sh h) (s : Int64) : ∀ (k i : Nat), i + k = 40 → Vg mX10_many none (QM mX10_many 170 (RI (mnB s 40) h)) 4 [some (.long s), none, some (.int (mnB s i)), some (.int (nI i))] [] 170 h 0 0 := by
  intro k
  induction k with
  | zero =>
    intro i hi
    obtain rfl : i = 40 := by omega
    refine x_iload_n (q := 5) dX10_many_4 rfl rfl rfl ?_
    refine x_bipush (q := 7) (v := 40) dX10_many_5 rfl (by decide) ?_
    refine x_ic_ge (q := 10) (t := 34) dX10_many_7 rfl (by decide) (fun _ => ?_) (fun c_ => absurd (by decide) c_)
    refine x_iload_n (q := 35) dX10_many_34 rfl rfl rfl ?_
    exact x_iret dX10_many_35 ⟨_, rfl, by first | rfl | (split <;> rfl)⟩ rfl (Nat.le_refl _) rfl ⟨rfl, rfl⟩
  | succ k ih =>
    intro i hi
    refine x_iload_n (q := 5) dX10_many_4 rfl rfl rfl ?_
    refine x_bipush (q := 7) (v := 40) dX10_many_5 rfl (by decide) ?_
    refine x_ic_ge (q := 10) (t := 34) dX10_many_7 rfl (by decide) (fun c_ => absurd c_ (nI_ge (b := 40) (by omega) (by decide))) (fun _ => ?_)
    refine x_iload_n (q := 11) dX10_many_10 rfl rfl rfl ?_
    refine x_lload_n (q := 12) dX10_many_11 rfl rfl rfl ?_
    refine x_iload_n (q := 13) dX10_many_12 rfl rfl rfl ?_
    refine x_lshr (q := 14) dX10_many_13 rfl ?_
    refine x_lconst (q := 15) (v := 1) dX10_many_14 rfl (by decide) ?_
    refine x_land (q := 16) dX10_many_15 rfl ?_
    refine x_lconst (q := 17) (v := 1) dX10_many_16 rfl (by decide) ?_
    refine x_lcmp (q := 18) dX10_many_17 rfl ?_
    refine x_if_ne (q := 21) (t := 25) dX10_many_18 rfl (by decide) (fun c_18 => ?_) (fun c_18 => ?_)
    · refine x_iconst (q := 26) (v := 0) dX10_many_25 rfl (by decide) ?_
      refine x_iadd (q := 27) dX10_many_26 rfl ?_
      refine x_istore_n (q := 28) dX10_many_27 rfl rfl (by decide) ?_
      refine x_iinc (q := 31) (v := nI (i + 1)) dX10_many_28 rfl rfl (nI_inc _) (by decide) ?_
      refine x_goto (q := 4) dX10_many_31 (by decide) ?_
      have t9 := ih (i + 1) (by omega)
      first | (rw [mnB_f (fun z => c_18 (lgc0.mpr z))] at t9; rw [addz]; exact t9) | (rw [mnB_t (lgc0.mp c_18)] at t9; exact t9)
    · refine x_iconst (q := 22) (v := 1) dX10_many_21 rfl (by decide) ?_
      refine x_goto (q := 26) dX10_many_22 (by decide) ?_
      refine x_iadd (q := 27) dX10_many_26 rfl ?_
      refine x_istore_n (q := 28) dX10_many_27 rfl rfl (by decide) ?_
      refine x_iinc (q := 31) (v := nI (i + 1)) dX10_many_28 rfl rfl (nI_inc _) (by decide) ?_
      refine x_goto (q := 4) dX10_many_31 (by decide) ?_
      have t9 := ih (i + 1) (by omega)
      first | (rw [mnB_f (fun z => c_18 (lgc0.mpr z))] at t9; rw [addz]; exact t9) | (rw [mnB_t (lgc0.mp c_18)] at t9; exact t9)

set_option maxHeartbeats 4000000 in
set_option maxRecDepth 100000 in
theorem c_X10_many {h : HF} (hS : Sh h) (s : Int64) : Mc mX10_many [.long s] 170 h (RI (mnB s 40) h) := by
  refine Mc.of (by decide) rfl (Nat.le_of_ble_eq_true rfl) ?_
  refine x_iconst (q := 1) (v := 0) dX10_many_0 rfl (by decide) ?_
  refine x_istore_n (q := 2) dX10_many_1 rfl rfl (by decide) ?_
  refine x_iconst (q := 3) (v := 0) dX10_many_2 rfl (by decide) ?_
  refine x_istore_n (q := 4) dX10_many_3 rfl rfl (by decide) ?_
  exact lp_many hS s 40 0 (by omega)

set_option maxHeartbeats 4000000 in
set_option maxRecDepth 100000 in
theorem c_X10_drum {h : HF} (hS : Sh h) (x w : Int32) (nd : Nat) (hnd : fI h 132 31 = nI nd) (hnd100 : nd ≤ 100) : Mc mX10_drum [.ref 132, .int x, .int w] 170 h (RI (vDrum (gi h 157) (gi h 158) (gi h 159) (fun j => mnB (gi h 161 j).toInt64 40) (fun j => mnB (gl h 160 j) 40) x w nd) (h)) := by
  refine Mc.of (by decide) rfl (Nat.le_of_ble_eq_true rfl) ?_
  refine x_iload_n (q := 1) dX10_drum_0 rfl rfl rfl ?_
  refine x_iconst (q := 2) (v := 0) dX10_drum_1 rfl (by decide) ?_
  refine x_aload_n (q := 3) dX10_drum_2 rfl rfl rfl ?_
  refine x_get (q := 6) dX10_drum_3 rfl f_X10_209 (cl_132 hS) rfl (by decide) ?_
  rw [hnd]
  refine x_iconst (q := 7) (v := 1) dX10_drum_6 rfl (by decide) ?_
  refine x_isub (q := 8) dX10_drum_7 rfl ?_
  refine y_csI (q := 11) dX10_drum_8 rfl l_X10_133 (c_X10_inL hS _ nd (by omega)) rfl rfl rfl rfl rfl rfl ?_
  refine x_if_ne (q := 14) (t := 17) dX10_drum_11 rfl (by decide) (fun c_11 => ?_) (fun c_11 => ?_)
  · replace c_11 := b2y c_11
    obtain ⟨j, hj, rfl⟩ := ltB_of (by omega) c_11
    refine x_iload_n (q := 18) dX10_drum_17 rfl rfl rfl ?_
    rcases tsw5 w with rfl | rfl | rfl | rfl | rfl | hw
    · refine x_tswI (q := 52) (off := 34) dX10_drum_18 (by decide) (by decide) (by decide) (by decide) ?_
      refine x_aload_n (q := 53) dX10_drum_52 rfl rfl rfl ?_
      refine x_get (q := 56) dX10_drum_53 rfl f_X10_88 (cl_132 hS) rfl (by decide) ?_
      refine x_iload_n (q := 57) dX10_drum_56 rfl rfl rfl ?_
      refine z_iald (q := 58) (j := j) dX10_drum_57 rfl (cl_157 hS) (by omega) (by decide) (by decide) ?_
      exact x_iret dX10_drum_58 ⟨_, rfl, by first | rfl | (split <;> rfl)⟩ rfl (Nat.le_refl _) rfl ⟨by simp_all [vDrum, nI_clamp (show j < 2 ^ 31 by omega)], rfl⟩
    · refine x_tswI (q := 59) (off := 41) dX10_drum_18 (by decide) (by decide) (by decide) (by decide) ?_
      refine x_aload_n (q := 60) dX10_drum_59 rfl rfl rfl ?_
      refine x_get (q := 63) dX10_drum_60 rfl f_X10_91 (cl_132 hS) rfl (by decide) ?_
      refine x_iload_n (q := 64) dX10_drum_63 rfl rfl rfl ?_
      refine z_iald (q := 65) (j := j) dX10_drum_64 rfl (cl_158 hS) (by omega) (by decide) (by decide) ?_
      exact x_iret dX10_drum_65 ⟨_, rfl, by first | rfl | (split <;> rfl)⟩ rfl (Nat.le_refl _) rfl ⟨by simp_all [vDrum, nI_clamp (show j < 2 ^ 31 by omega)], rfl⟩
    · refine x_tswI (q := 66) (off := 48) dX10_drum_18 (by decide) (by decide) (by decide) (by decide) ?_
      refine x_aload_n (q := 67) dX10_drum_66 rfl rfl rfl ?_
      refine x_get (q := 70) dX10_drum_67 rfl f_X10_94 (cl_132 hS) rfl (by decide) ?_
      refine x_iload_n (q := 71) dX10_drum_70 rfl rfl rfl ?_
      refine z_iald (q := 72) (j := j) dX10_drum_71 rfl (cl_159 hS) (by omega) (by decide) (by decide) ?_
      exact x_iret dX10_drum_72 ⟨_, rfl, by first | rfl | (split <;> rfl)⟩ rfl (Nat.le_refl _) rfl ⟨by simp_all [vDrum, nI_clamp (show j < 2 ^ 31 by omega)], rfl⟩
    · refine x_tswI (q := 73) (off := 55) dX10_drum_18 (by decide) (by decide) (by decide) (by decide) ?_
      refine x_aload_n (q := 74) dX10_drum_73 rfl rfl rfl ?_
      refine x_get (q := 77) dX10_drum_74 rfl f_X10_100 (cl_132 hS) rfl (by decide) ?_
      refine x_iload_n (q := 78) dX10_drum_77 rfl rfl rfl ?_
      refine z_iald (q := 79) (j := j) dX10_drum_78 rfl (cl_161 hS) (by omega) (by decide) (by decide) ?_
      refine x_i2l (q := 80) dX10_drum_79 rfl ?_
      refine y_csI (q := 83) dX10_drum_80 rfl l_X10_212 (c_X10_many hS _) rfl rfl rfl rfl rfl rfl ?_
      exact x_iret dX10_drum_83 ⟨_, rfl, by first | rfl | (split <;> rfl)⟩ rfl (Nat.le_refl _) rfl ⟨by simp_all [vDrum, nI_clamp (show j < 2 ^ 31 by omega)], rfl⟩
    · refine x_tswI (q := 84) (off := 66) dX10_drum_18 (by decide) (by decide) (by decide) (by decide) ?_
      refine x_aload_n (q := 85) dX10_drum_84 rfl rfl rfl ?_
      refine x_get (q := 88) dX10_drum_85 rfl f_X10_97 (cl_132 hS) rfl (by decide) ?_
      refine x_iload_n (q := 89) dX10_drum_88 rfl rfl rfl ?_
      refine z_lald (q := 90) (j := j) dX10_drum_89 rfl (cl_160 hS) (by omega) (by decide) (by decide) ?_
      refine y_csI (q := 93) dX10_drum_90 rfl l_X10_212 (c_X10_many hS _) rfl rfl rfl rfl rfl rfl ?_
      exact x_iret dX10_drum_93 ⟨_, rfl, by first | rfl | (split <;> rfl)⟩ rfl (Nat.le_refl _) rfl ⟨by simp_all [vDrum, nI_clamp (show j < 2 ^ 31 by omega)], rfl⟩
    · refine x_tswO (q := 94) dX10_drum_18 hw.1 (by decide) ?_
      refine x_bipush (q := 96) (v := -3) dX10_drum_94 rfl (by decide) ?_
      exact x_iret dX10_drum_96 ⟨_, rfl, by first | rfl | (split <;> rfl)⟩ rfl (Nat.le_refl _) rfl ⟨by simp_all [vDrum, nI_clamp (show j < 2 ^ 31 by omega)], rfl⟩
  · replace c_11 := b2n c_11
    refine x_bipush (q := 16) (v := -2) dX10_drum_14 rfl (by decide) ?_
    exact x_iret dX10_drum_16 ⟨_, rfl, by first | rfl | (split <;> rfl)⟩ rfl (Nat.le_refl _) rfl ⟨by simp [vDrum, c_11], rfl⟩

def mInD (B : Nat → Int32) (L : Nat → Int64) (x e w : Int32) (nd nl nt : Nat) : Int32 := if ltB x (nI nd) = true then if e = 0 then (if ltB w (nI nt) = true then (B x.toNatClampNeg >>> (w &&& 31)) &&& 1 else -2) else (if ltB w (nI nl) = true then ((L x.toNatClampNeg >>> (w.toInt64 &&& 63)) &&& 1).toInt32 else -2) else -2
set_option maxHeartbeats 4000000 in
set_option maxRecDepth 100000 in
theorem c_X10_inDrum {h : HF} (hS : Sh h) (x e w : Int32) (nd : Nat) (hnd : fI h 132 31 = nI nd) (hnd100 : nd ≤ 100) (nl : Nat) (hnl : fI h 132 4 = nI nl) (hnl40 : nl ≤ 40) (nt : Nat) (hnt : fI h 132 15 = nI nt) (hnt24 : nt ≤ 24) : Mc mX10_inDrum [.ref 132, .int x, .int e, .int w] 170 h (RI (mInD (gi h 161) (gl h 160) x e w nd nl nt) (h)) := by
  refine Mc.of (by decide) rfl (Nat.le_of_ble_eq_true rfl) ?_
  refine x_iload_n (q := 1) dX10_inDrum_0 rfl rfl rfl ?_
  refine x_iconst (q := 2) (v := 0) dX10_inDrum_1 rfl (by decide) ?_
  refine x_aload_n (q := 3) dX10_inDrum_2 rfl rfl rfl ?_
  refine x_get (q := 6) dX10_inDrum_3 rfl f_X10_209 (cl_132 hS) rfl (by decide) ?_
  rw [hnd]
  refine x_iconst (q := 7) (v := 1) dX10_inDrum_6 rfl (by decide) ?_
  refine x_isub (q := 8) dX10_inDrum_7 rfl ?_
  refine y_csI (q := 11) dX10_inDrum_8 rfl l_X10_133 (c_X10_inL hS _ nd (by omega)) rfl rfl rfl rfl rfl rfl ?_
  refine x_if_eq (q := 14) (t := 43) dX10_inDrum_11 rfl (by decide) (fun c_11 => ?_) (fun c_11 => ?_)
  · replace c_11 := b2n c_11
    refine x_bipush (q := 45) (v := -2) dX10_inDrum_43 rfl (by decide) ?_
    exact x_iret dX10_inDrum_45 ⟨_, rfl, by first | rfl | (split <;> rfl)⟩ rfl (Nat.le_refl _) rfl ⟨by simp [mInD, c_11], rfl⟩
  · replace c_11 := b2y c_11
    refine x_iload_n (q := 15) dX10_inDrum_14 rfl rfl rfl ?_
    refine x_if_eq (q := 18) (t := 35) dX10_inDrum_15 rfl (by decide) (fun c_15 => ?_) (fun c_15 => ?_)
    · refine x_aload_n (q := 36) dX10_inDrum_35 rfl rfl rfl ?_
      refine x_iload_n (q := 37) dX10_inDrum_36 rfl rfl rfl ?_
      refine y_cvI (q := 40) dX10_inDrum_37 rfl l_X10_165 (c_X10_isBatch hS _ nt hnt hnt24) rfl rfl (cl_132 hS) (by decide) rfl rfl rfl rfl ?_
      refine x_if_ne (q := 43) (t := 46) dX10_inDrum_40 rfl (by decide) (fun c_40 => ?_) (fun c_40 => ?_)
      · replace c_40 := b2y c_40
        obtain ⟨j, hj, rfl⟩ := ltB_of (by omega) c_11
        refine x_iload_n (q := 47) dX10_inDrum_46 rfl rfl rfl ?_
        refine x_if_eq (q := 50) (t := 64) dX10_inDrum_47 rfl (by decide) (fun _ => ?_) (fun c_ => absurd c_15 c_)
        refine x_aload_n (q := 65) dX10_inDrum_64 rfl rfl rfl ?_
        refine x_get (q := 68) dX10_inDrum_65 rfl f_X10_100 (cl_132 hS) rfl (by decide) ?_
        refine x_iload_n (q := 69) dX10_inDrum_68 rfl rfl rfl ?_
        refine z_iald (q := 70) (j := j) dX10_inDrum_69 rfl (cl_161 hS) (by omega) (by decide) (by decide) ?_
        refine x_iload_n (q := 71) dX10_inDrum_70 rfl rfl rfl ?_
        refine x_ishr (q := 72) dX10_inDrum_71 rfl ?_
        refine x_iconst (q := 73) (v := 1) dX10_inDrum_72 rfl (by decide) ?_
        refine x_iand (q := 74) dX10_inDrum_73 rfl ?_
        exact x_iret dX10_inDrum_74 ⟨_, rfl, by first | rfl | (split <;> rfl)⟩ rfl (Nat.le_refl _) rfl ⟨by simp [mInD, c_11, c_15, c_40, nI_clamp (show j < 2 ^ 31 by omega)], rfl⟩
      · replace c_40 := b2n c_40
        refine x_bipush (q := 45) (v := -2) dX10_inDrum_43 rfl (by decide) ?_
        exact x_iret dX10_inDrum_45 ⟨_, rfl, by first | rfl | (split <;> rfl)⟩ rfl (Nat.le_refl _) rfl ⟨by simp [mInD, c_11, c_15, c_40], rfl⟩
    · refine x_iload_n (q := 19) dX10_inDrum_18 rfl rfl rfl ?_
      refine x_iconst (q := 20) (v := 0) dX10_inDrum_19 rfl (by decide) ?_
      refine x_aload_n (q := 21) dX10_inDrum_20 rfl rfl rfl ?_
      refine x_get (q := 24) dX10_inDrum_21 rfl f_X10_144 (cl_132 hS) rfl (by decide) ?_
      rw [hnl]
      refine x_iconst (q := 25) (v := 1) dX10_inDrum_24 rfl (by decide) ?_
      refine x_isub (q := 26) dX10_inDrum_25 rfl ?_
      refine y_csI (q := 29) dX10_inDrum_26 rfl l_X10_133 (c_X10_inL hS _ nl (by omega)) rfl rfl rfl rfl rfl rfl ?_
      refine x_if_ne (q := 32) (t := 46) dX10_inDrum_29 rfl (by decide) (fun c_29 => ?_) (fun c_29 => ?_)
      · replace c_29 := b2y c_29
        obtain ⟨j, hj, rfl⟩ := ltB_of (by omega) c_11
        refine x_iload_n (q := 47) dX10_inDrum_46 rfl rfl rfl ?_
        refine x_if_eq (q := 50) (t := 64) dX10_inDrum_47 rfl (by decide) (fun c_ => absurd c_ c_15) (fun _ => ?_)
        refine x_aload_n (q := 51) dX10_inDrum_50 rfl rfl rfl ?_
        refine x_get (q := 54) dX10_inDrum_51 rfl f_X10_97 (cl_132 hS) rfl (by decide) ?_
        refine x_iload_n (q := 55) dX10_inDrum_54 rfl rfl rfl ?_
        refine z_lald (q := 56) (j := j) dX10_inDrum_55 rfl (cl_160 hS) (by omega) (by decide) (by decide) ?_
        refine x_iload_n (q := 57) dX10_inDrum_56 rfl rfl rfl ?_
        refine x_lshr (q := 58) dX10_inDrum_57 rfl ?_
        refine x_lconst (q := 59) (v := 1) dX10_inDrum_58 rfl (by decide) ?_
        refine x_land (q := 60) dX10_inDrum_59 rfl ?_
        refine x_l2i (q := 61) dX10_inDrum_60 rfl ?_
        refine x_goto (q := 74) dX10_inDrum_61 (by decide) ?_
        exact x_iret dX10_inDrum_74 ⟨_, rfl, by first | rfl | (split <;> rfl)⟩ rfl (Nat.le_refl _) rfl ⟨by simp [mInD, c_11, c_15, c_29, nI_clamp (show j < 2 ^ 31 by omega)], rfl⟩
      · replace c_29 := b2n c_29
        refine x_goto (q := 43) dX10_inDrum_32 (by decide) ?_
        refine x_bipush (q := 45) (v := -2) dX10_inDrum_43 rfl (by decide) ?_
        exact x_iret dX10_inDrum_45 ⟨_, rfl, by first | rfl | (split <;> rfl)⟩ rfl (Nat.le_refl _) rfl ⟨by simp [mInD, c_11, c_15, c_29], rfl⟩

def mJobF (h : HF) (nj : Nat) (u a b c : Int32) : HF := sI (si (si (si (si h 162 (upd (gi h 162) nj u)) 163 (upd (gi h 163) nj a)) 164 (upd (gi h 164) nj b)) 165 (upd (gi h 165) nj c)) 132 38 (nI (nj + 1))
def mJob (h : HF) (u a b c : Int32) (nj : Nat) : HF := if inB u 0 5 = true then if inB a 1 100 = true then if inB b 0 1000 = true then if inB c 0 100 = true then if nj < 8 then mJobF h nj u a b c else h else h else h else h else h
def mCng (h : HF) (a b v : Int32) : HF := if inB a 0 5 = true then if inB b 0 5 = true then if inB v 0 1000 = true then si h 166 (upd (gi h 166) (6 * a.toNatClampNeg + b.toNatClampNeg) v) else h else h else h
set_option maxHeartbeats 4000000 in
set_option maxRecDepth 100000 in
theorem c_X10_job_full {h : HF} (hS : Sh h) (u a b c : Int32) (hnj : fI h 132 38 = nI 8) : Mc mX10_job [.ref 132, .int u, .int a, .int b, .int c] 170 h (RI (vJob u a b c 8) (mJob h u a b c 8)) := by
  refine Mc.of (by decide) rfl (Nat.le_of_ble_eq_true rfl) ?_
  refine x_iload_n (q := 1) dX10_job_0 rfl rfl rfl ?_
  refine y_csI (q := 4) dX10_job_1 rfl l_X10_216 (c_X10_isHue hS _) rfl rfl rfl rfl rfl rfl ?_
  refine x_if_ne (q := 7) (t := 10) dX10_job_4 rfl (by decide) (fun c_4 => ?_) (fun c_4 => ?_)
  · replace c_4 := b2y c_4
    refine x_iload_n (q := 11) dX10_job_10 rfl rfl rfl ?_
    refine x_iconst (q := 12) (v := 1) dX10_job_11 rfl (by decide) ?_
    refine x_bipush (q := 14) (v := 100) dX10_job_12 rfl (by decide) ?_
    refine y_csI (q := 17) dX10_job_14 rfl l_X10_133 (c_X10_in hS _ _ _) rfl rfl rfl rfl rfl rfl ?_
    refine x_if_eq (q := 20) (t := 42) dX10_job_17 rfl (by decide) (fun c_17 => ?_) (fun c_17 => ?_)
    · replace c_17 := b2n c_17
      refine x_bipush (q := 44) (v := -3) dX10_job_42 rfl (by decide) ?_
      exact x_iret dX10_job_44 ⟨_, rfl, by first | rfl | (split <;> rfl)⟩ rfl (Nat.le_refl _) rfl ⟨by simp [vJob, cap8, c_4, c_17], by simp [mJob, c_4, c_17]⟩
    · replace c_17 := b2y c_17
      refine x_iload_n (q := 21) dX10_job_20 rfl rfl rfl ?_
      refine x_iconst (q := 22) (v := 0) dX10_job_21 rfl (by decide) ?_
      refine x_sipush (q := 25) (v := 1000) dX10_job_22 rfl (by decide) ?_
      refine y_csI (q := 28) dX10_job_25 rfl l_X10_133 (c_X10_in hS _ _ _) rfl rfl rfl rfl rfl rfl ?_
      refine x_if_eq (q := 31) (t := 42) dX10_job_28 rfl (by decide) (fun c_28 => ?_) (fun c_28 => ?_)
      · replace c_28 := b2n c_28
        refine x_bipush (q := 44) (v := -3) dX10_job_42 rfl (by decide) ?_
        exact x_iret dX10_job_44 ⟨_, rfl, by first | rfl | (split <;> rfl)⟩ rfl (Nat.le_refl _) rfl ⟨by simp [vJob, cap8, c_4, c_17, c_28], by simp [mJob, c_4, c_17, c_28]⟩
      · replace c_28 := b2y c_28
        refine x_iload (q := 33) dX10_job_31 rfl rfl ?_
        refine x_iconst (q := 34) (v := 0) dX10_job_33 rfl (by decide) ?_
        refine x_bipush (q := 36) (v := 100) dX10_job_34 rfl (by decide) ?_
        refine y_csI (q := 39) dX10_job_36 rfl l_X10_133 (c_X10_in hS _ _ _) rfl rfl rfl rfl rfl rfl ?_
        refine x_if_ne (q := 42) (t := 45) dX10_job_39 rfl (by decide) (fun c_39 => ?_) (fun c_39 => ?_)
        · replace c_39 := b2y c_39
          refine x_aload_n (q := 46) dX10_job_45 rfl rfl rfl ?_
          refine x_get (q := 49) dX10_job_46 rfl f_X10_219 (cl_132 hS) rfl (by decide) ?_
          rw [hnj]
          refine x_bipush (q := 51) (v := 8) dX10_job_49 rfl (by decide) ?_
          refine x_ic_ne (q := 54) (t := 57) dX10_job_51 rfl (by decide) (fun c_ => absurd c_ (fun z => z rfl)) (fun _ => ?_)
          refine x_bipush (q := 56) (v := -6) dX10_job_54 rfl (by decide) ?_
          exact x_iret dX10_job_56 ⟨_, rfl, by first | rfl | (split <;> rfl)⟩ rfl (Nat.le_refl _) rfl ⟨by simp [vJob, cap8, c_4, c_17, c_28, c_39], by simp [mJob, c_4, c_17, c_28, c_39]⟩
        · replace c_39 := b2n c_39
          refine x_bipush (q := 44) (v := -3) dX10_job_42 rfl (by decide) ?_
          exact x_iret dX10_job_44 ⟨_, rfl, by first | rfl | (split <;> rfl)⟩ rfl (Nat.le_refl _) rfl ⟨by simp [vJob, cap8, c_4, c_17, c_28, c_39], by simp [mJob, c_4, c_17, c_28, c_39]⟩
  · replace c_4 := b2n c_4
    refine x_bipush (q := 9) (v := -2) dX10_job_7 rfl (by decide) ?_
    exact x_iret dX10_job_9 ⟨_, rfl, by first | rfl | (split <;> rfl)⟩ rfl (Nat.le_refl _) rfl ⟨by simp [vJob, cap8, c_4], by simp [mJob, c_4]⟩

set_option maxHeartbeats 4000000 in
set_option maxRecDepth 100000 in
theorem c_X10_job {h : HF} (hS : Sh h) (u a b c : Int32) (nj : Nat) (hnj : fI h 132 38 = nI nj) (hlt : nj < 8) : Mc mX10_job [.ref 132, .int u, .int a, .int b, .int c] 170 h (RI (vJob u a b c nj) (mJob h u a b c nj)) := by
  refine Mc.of (by decide) rfl (Nat.le_of_ble_eq_true rfl) ?_
  refine x_iload_n (q := 1) dX10_job_0 rfl rfl rfl ?_
  refine y_csI (q := 4) dX10_job_1 rfl l_X10_216 (c_X10_isHue hS _) rfl rfl rfl rfl rfl rfl ?_
  refine x_if_ne (q := 7) (t := 10) dX10_job_4 rfl (by decide) (fun c_4 => ?_) (fun c_4 => ?_)
  · replace c_4 := b2y c_4
    refine x_iload_n (q := 11) dX10_job_10 rfl rfl rfl ?_
    refine x_iconst (q := 12) (v := 1) dX10_job_11 rfl (by decide) ?_
    refine x_bipush (q := 14) (v := 100) dX10_job_12 rfl (by decide) ?_
    refine y_csI (q := 17) dX10_job_14 rfl l_X10_133 (c_X10_in hS _ _ _) rfl rfl rfl rfl rfl rfl ?_
    refine x_if_eq (q := 20) (t := 42) dX10_job_17 rfl (by decide) (fun c_17 => ?_) (fun c_17 => ?_)
    · replace c_17 := b2n c_17
      refine x_bipush (q := 44) (v := -3) dX10_job_42 rfl (by decide) ?_
      exact x_iret dX10_job_44 ⟨_, rfl, by first | rfl | (split <;> rfl)⟩ rfl (Nat.le_refl _) rfl ⟨by simp [vJob, cap8, hlt, c_4, c_17], by simp [mJob, hlt, c_4, c_17]⟩
    · replace c_17 := b2y c_17
      refine x_iload_n (q := 21) dX10_job_20 rfl rfl rfl ?_
      refine x_iconst (q := 22) (v := 0) dX10_job_21 rfl (by decide) ?_
      refine x_sipush (q := 25) (v := 1000) dX10_job_22 rfl (by decide) ?_
      refine y_csI (q := 28) dX10_job_25 rfl l_X10_133 (c_X10_in hS _ _ _) rfl rfl rfl rfl rfl rfl ?_
      refine x_if_eq (q := 31) (t := 42) dX10_job_28 rfl (by decide) (fun c_28 => ?_) (fun c_28 => ?_)
      · replace c_28 := b2n c_28
        refine x_bipush (q := 44) (v := -3) dX10_job_42 rfl (by decide) ?_
        exact x_iret dX10_job_44 ⟨_, rfl, by first | rfl | (split <;> rfl)⟩ rfl (Nat.le_refl _) rfl ⟨by simp [vJob, cap8, hlt, c_4, c_17, c_28], by simp [mJob, hlt, c_4, c_17, c_28]⟩
      · replace c_28 := b2y c_28
        refine x_iload (q := 33) dX10_job_31 rfl rfl ?_
        refine x_iconst (q := 34) (v := 0) dX10_job_33 rfl (by decide) ?_
        refine x_bipush (q := 36) (v := 100) dX10_job_34 rfl (by decide) ?_
        refine y_csI (q := 39) dX10_job_36 rfl l_X10_133 (c_X10_in hS _ _ _) rfl rfl rfl rfl rfl rfl ?_
        refine x_if_ne (q := 42) (t := 45) dX10_job_39 rfl (by decide) (fun c_39 => ?_) (fun c_39 => ?_)
        · replace c_39 := b2y c_39
          refine x_aload_n (q := 46) dX10_job_45 rfl rfl rfl ?_
          refine x_get (q := 49) dX10_job_46 rfl f_X10_219 (cl_132 hS) rfl (by decide) ?_
          rw [hnj]
          refine x_bipush (q := 51) (v := 8) dX10_job_49 rfl (by decide) ?_
          refine x_ic_ne (q := 54) (t := 57) dX10_job_51 rfl (by decide) (fun _ => ?_) (fun c_ => absurd c_ (fun e => absurd ((nI_eq (by omega) (by omega)).mp (show nI nj = nI 8 from e)) (by omega)))
          refine x_aload_n (q := 58) dX10_job_57 rfl rfl rfl ?_
          refine x_get (q := 61) dX10_job_58 rfl f_X10_103 (cl_132 hS) rfl (by decide) ?_
          refine x_aload_n (q := 62) dX10_job_61 rfl rfl rfl ?_
          refine x_get (q := 65) dX10_job_62 rfl f_X10_219 (cl_132 hS) rfl (by decide) ?_
          rw [hnj]
          refine x_iload_n (q := 66) dX10_job_65 rfl rfl rfl ?_
          refine z_iast (q := 67) (j := nj) dX10_job_66 rfl (cl_162 hS) (by omega) (by decide) (by decide) ?_
          refine Vg.nm (fun h1 eh1 => ?_)
          have hS1 : Sh h1 := by rw [eh1]; exact hS.si _ _
          have hc1_132_38 : fI h1 132 38 = nI (nj) := by rw [eh1]; first | (simp only [fI_si, fI_sl, fI_sJ]; exact hnj) | (rw [fI_sI_ne (by omega)]; exact hnj) | (rw [fI_sI_k (by decide)]; exact hnj) | (simp (disch := omega) only [mixAdd, fI_si, fI_sl, fI_sJ, fI_sI_ne, fI_sI_k]; exact hnj)
          refine x_aload_n (q := 68) dX10_job_67 rfl rfl rfl ?_
          refine x_get (q := 71) dX10_job_68 rfl f_X10_106 (cl_132 hS1) rfl (by decide) ?_
          refine x_aload_n (q := 72) dX10_job_71 rfl rfl rfl ?_
          refine x_get (q := 75) dX10_job_72 rfl f_X10_219 (cl_132 hS1) rfl (by decide) ?_
          rw [hc1_132_38]
          refine x_iload_n (q := 76) dX10_job_75 rfl rfl rfl ?_
          refine z_iast (q := 77) (j := nj) dX10_job_76 rfl (cl_163 hS1) (by omega) (by decide) (by decide) ?_
          refine Vg.nm (fun h2 eh2 => ?_)
          have hS2 : Sh h2 := by rw [eh2]; exact hS1.si _ _
          have hc2_132_38 : fI h2 132 38 = nI (nj) := by rw [eh2]; first | (simp only [fI_si, fI_sl, fI_sJ]; exact hc1_132_38) | (rw [fI_sI_ne (by omega)]; exact hc1_132_38) | (rw [fI_sI_k (by decide)]; exact hc1_132_38) | (simp (disch := omega) only [mixAdd, fI_si, fI_sl, fI_sJ, fI_sI_ne, fI_sI_k]; exact hc1_132_38)
          refine x_aload_n (q := 78) dX10_job_77 rfl rfl rfl ?_
          refine x_get (q := 81) dX10_job_78 rfl f_X10_109 (cl_132 hS2) rfl (by decide) ?_
          refine x_aload_n (q := 82) dX10_job_81 rfl rfl rfl ?_
          refine x_get (q := 85) dX10_job_82 rfl f_X10_219 (cl_132 hS2) rfl (by decide) ?_
          rw [hc2_132_38]
          refine x_iload_n (q := 86) dX10_job_85 rfl rfl rfl ?_
          refine z_iast (q := 87) (j := nj) dX10_job_86 rfl (cl_164 hS2) (by omega) (by decide) (by decide) ?_
          refine Vg.nm (fun h3 eh3 => ?_)
          have hS3 : Sh h3 := by rw [eh3]; exact hS2.si _ _
          have hc3_132_38 : fI h3 132 38 = nI (nj) := by rw [eh3]; first | (simp only [fI_si, fI_sl, fI_sJ]; exact hc2_132_38) | (rw [fI_sI_ne (by omega)]; exact hc2_132_38) | (rw [fI_sI_k (by decide)]; exact hc2_132_38) | (simp (disch := omega) only [mixAdd, fI_si, fI_sl, fI_sJ, fI_sI_ne, fI_sI_k]; exact hc2_132_38)
          refine x_aload_n (q := 88) dX10_job_87 rfl rfl rfl ?_
          refine x_get (q := 91) dX10_job_88 rfl f_X10_112 (cl_132 hS3) rfl (by decide) ?_
          refine x_aload_n (q := 92) dX10_job_91 rfl rfl rfl ?_
          refine x_get (q := 95) dX10_job_92 rfl f_X10_219 (cl_132 hS3) rfl (by decide) ?_
          rw [hc3_132_38]
          refine x_iload (q := 97) dX10_job_95 rfl rfl ?_
          refine z_iast (q := 98) (j := nj) dX10_job_97 rfl (cl_165 hS3) (by omega) (by decide) (by decide) ?_
          refine Vg.nm (fun h4 eh4 => ?_)
          have hS4 : Sh h4 := by rw [eh4]; exact hS3.si _ _
          have hc4_132_38 : fI h4 132 38 = nI (nj) := by rw [eh4]; first | (simp only [fI_si, fI_sl, fI_sJ]; exact hc3_132_38) | (rw [fI_sI_ne (by omega)]; exact hc3_132_38) | (rw [fI_sI_k (by decide)]; exact hc3_132_38) | (simp (disch := omega) only [mixAdd, fI_si, fI_sl, fI_sJ, fI_sI_ne, fI_sI_k]; exact hc3_132_38)
          refine x_aload_n (q := 99) dX10_job_98 rfl rfl rfl ?_
          refine x_dup (q := 100) dX10_job_99 rfl rfl ?_
          refine x_get (q := 103) dX10_job_100 rfl f_X10_219 (cl_132 hS4) rfl (by decide) ?_
          rw [hc4_132_38]
          refine x_iconst (q := 104) (v := 1) dX10_job_103 rfl (by decide) ?_
          refine x_iadd (q := 105) dX10_job_104 rfl ?_
          rw [nI_1 (nj)]
          refine y_put (q := 108) dX10_job_105 rfl f_X10_219 (cl_132 hS4) rfl (by first | rfl | decide) (by first | rfl | decide) (by decide) ?_
          refine Vg.nm (fun h5 eh5 => ?_)
          have hS5 : Sh h5 := by rw [eh5]; exact hS4.sI _ _ _
          have hc5_132_38 : fI h5 132 38 = nI (nj + 1) := by rw [eh5]; exact fI_sI_eq hS4 (by decide) (by decide) rfl _
          refine x_aload_n (q := 109) dX10_job_108 rfl rfl rfl ?_
          refine x_get (q := 112) dX10_job_109 rfl f_X10_219 (cl_132 hS5) rfl (by decide) ?_
          rw [hc5_132_38]
          refine x_iconst (q := 113) (v := 1) dX10_job_112 rfl (by decide) ?_
          refine x_isub (q := 114) dX10_job_113 rfl ?_
          rw [nI_pred (nj)]
          exact x_iret dX10_job_114 ⟨_, rfl, by first | rfl | (split <;> rfl)⟩ rfl (Nat.le_refl _) rfl ⟨by simp [vJob, cap8, hlt, c_4, c_17, c_28, c_39], by simp only [mJob, c_4, c_17, c_28, c_39, if_true, hlt]; subst_vars; simp (disch := decide) only [mJobF, gi_si_ne]⟩
        · replace c_39 := b2n c_39
          refine x_bipush (q := 44) (v := -3) dX10_job_42 rfl (by decide) ?_
          exact x_iret dX10_job_44 ⟨_, rfl, by first | rfl | (split <;> rfl)⟩ rfl (Nat.le_refl _) rfl ⟨by simp [vJob, cap8, hlt, c_4, c_17, c_28, c_39], by simp [mJob, hlt, c_4, c_17, c_28, c_39]⟩
  · replace c_4 := b2n c_4
    refine x_bipush (q := 9) (v := -2) dX10_job_7 rfl (by decide) ?_
    exact x_iret dX10_job_9 ⟨_, rfl, by first | rfl | (split <;> rfl)⟩ rfl (Nat.le_refl _) rfl ⟨by simp [vJob, cap8, hlt, c_4], by simp [mJob, hlt, c_4]⟩

set_option maxHeartbeats 4000000 in
set_option maxRecDepth 100000 in
theorem c_X10_cleaning {h : HF} (hS : Sh h) (a b v : Int32) : Mc mX10_cleaning [.ref 132, .int a, .int b, .int v] 170 h (RI (vCng (gi h 166) a b v) (mCng h a b v)) := by
  refine Mc.of (by decide) rfl (Nat.le_of_ble_eq_true rfl) ?_
  refine x_iload_n (q := 1) dX10_cleaning_0 rfl rfl rfl ?_
  refine y_csI (q := 4) dX10_cleaning_1 rfl l_X10_216 (c_X10_isHue hS _) rfl rfl rfl rfl rfl rfl ?_
  refine x_if_eq (q := 7) (t := 14) dX10_cleaning_4 rfl (by decide) (fun c_4 => ?_) (fun c_4 => ?_)
  · replace c_4 := b2n c_4
    refine x_bipush (q := 16) (v := -2) dX10_cleaning_14 rfl (by decide) ?_
    exact x_iret dX10_cleaning_16 ⟨_, rfl, by first | rfl | (split <;> rfl)⟩ rfl (Nat.le_refl _) rfl ⟨by simp [vCng, c_4], by simp [mCng, c_4]⟩
  · replace c_4 := b2y c_4
    refine x_iload_n (q := 8) dX10_cleaning_7 rfl rfl rfl ?_
    refine y_csI (q := 11) dX10_cleaning_8 rfl l_X10_216 (c_X10_isHue hS _) rfl rfl rfl rfl rfl rfl ?_
    refine x_if_ne (q := 14) (t := 17) dX10_cleaning_11 rfl (by decide) (fun c_11 => ?_) (fun c_11 => ?_)
    · replace c_11 := b2y c_11
      refine x_iload_n (q := 18) dX10_cleaning_17 rfl rfl rfl ?_
      refine x_iconst (q := 19) (v := 0) dX10_cleaning_18 rfl (by decide) ?_
      refine x_sipush (q := 22) (v := 1000) dX10_cleaning_19 rfl (by decide) ?_
      refine y_csI (q := 25) dX10_cleaning_22 rfl l_X10_133 (c_X10_in hS _ _ _) rfl rfl rfl rfl rfl rfl ?_
      refine x_if_ne (q := 28) (t := 31) dX10_cleaning_25 rfl (by decide) (fun c_25 => ?_) (fun c_25 => ?_)
      · replace c_25 := b2y c_25
        obtain ⟨j, hj, rfl⟩ := inB_of (n := 5) (by decide) c_4
        obtain ⟨k, hk, rfl⟩ := inB_of (n := 5) (by decide) c_11
        refine x_aload_n (q := 32) dX10_cleaning_31 rfl rfl rfl ?_
        refine x_get (q := 35) dX10_cleaning_32 rfl f_X10_115 (cl_132 hS) rfl (by decide) ?_
        refine x_bipush (q := 37) (v := 6) dX10_cleaning_35 rfl (by decide) ?_
        refine x_iload_n (q := 38) dX10_cleaning_37 rfl rfl rfl ?_
        refine x_imul (q := 39) dX10_cleaning_38 rfl ?_
        refine x_iload_n (q := 40) dX10_cleaning_39 rfl rfl rfl ?_
        refine x_iadd (q := 41) dX10_cleaning_40 rfl ?_
        rw [ux6]
        refine z_iald (q := 42) (j := 6 * j + k) dX10_cleaning_41 rfl (cl_166 hS) (by omega) (by decide) (by decide) ?_
        refine x_istore (q := 44) dX10_cleaning_42 rfl (by decide) ?_
        refine x_aload_n (q := 45) dX10_cleaning_44 rfl rfl rfl ?_
        refine x_get (q := 48) dX10_cleaning_45 rfl f_X10_115 (cl_132 hS) rfl (by decide) ?_
        refine x_bipush (q := 50) (v := 6) dX10_cleaning_48 rfl (by decide) ?_
        refine x_iload_n (q := 51) dX10_cleaning_50 rfl rfl rfl ?_
        refine x_imul (q := 52) dX10_cleaning_51 rfl ?_
        refine x_iload_n (q := 53) dX10_cleaning_52 rfl rfl rfl ?_
        refine x_iadd (q := 54) dX10_cleaning_53 rfl ?_
        rw [ux6]
        refine x_iload_n (q := 55) dX10_cleaning_54 rfl rfl rfl ?_
        refine z_iast (q := 56) (j := 6 * j + k) dX10_cleaning_55 rfl (cl_166 hS) (by omega) (by decide) (by decide) ?_
        refine Vg.nm (fun h1 eh1 => ?_)
        have hS1 : Sh h1 := by rw [eh1]; exact hS.si _ _
        refine x_iload (q := 58) dX10_cleaning_56 rfl rfl ?_
        exact x_iret dX10_cleaning_58 ⟨_, rfl, by first | rfl | (split <;> rfl)⟩ rfl (Nat.le_refl _) rfl ⟨by simp [vCng, c_4, c_11, c_25, nI_clamp (show j < 2 ^ 31 by omega), nI_clamp (show k < 2 ^ 31 by omega), Nat.mul_comm], by rw [eh1]; simp [mCng, c_4, c_11, c_25, nI_clamp (show j < 2 ^ 31 by omega), nI_clamp (show k < 2 ^ 31 by omega)]⟩
      · replace c_25 := b2n c_25
        refine x_bipush (q := 30) (v := -3) dX10_cleaning_28 rfl (by decide) ?_
        exact x_iret dX10_cleaning_30 ⟨_, rfl, by first | rfl | (split <;> rfl)⟩ rfl (Nat.le_refl _) rfl ⟨by simp [vCng, c_4, c_11, c_25], by simp [mCng, c_4, c_11, c_25]⟩
    · replace c_11 := b2n c_11
      refine x_bipush (q := 16) (v := -2) dX10_cleaning_14 rfl (by decide) ?_
      exact x_iret dX10_cleaning_16 ⟨_, rfl, by first | rfl | (split <;> rfl)⟩ rfl (Nat.le_refl _) rfl ⟨by simp [vCng, c_4, c_11], by simp [mCng, c_4, c_11]⟩

theorem pld_lt {f : Nat → Int32} {n : Nat} {i : Int32} (hn : n < 2147483648) : vPld f (nI n) i = if ltB i (nI n) = true then f i.toNatClampNeg else -2 := by
  by_cases h0 : i < 0
  · rw [vPld, if_pos h0, if_neg (by simp only [ltB, Bool.and_eq_true, decide_eq_true_eq]; exact fun z => Int32.not_lt.mpr z.1 h0)]
  · rw [vPld, if_neg h0]
    by_cases h1 : nI n ≤ i
    · rw [if_pos h1, if_neg (by simp only [ltB, Bool.and_eq_true, decide_eq_true_eq]; exact fun z => Int32.not_lt.mpr h1 z.2)]
    · rw [if_neg h1, if_pos (by simp only [ltB, Bool.and_eq_true, decide_eq_true_eq]; exact ⟨Int32.not_lt.mp h0, Int32.not_le.mp h1⟩)]
set_option maxHeartbeats 4000000 in
set_option maxRecDepth 100000 in
theorem c_X10_planned {h : HF} (hS : Sh h) (i : Int32) (np : Nat) (hnp : fI h 132 44 = nI np) (hnp8 : np ≤ 8) : Mc mX10_planned [.ref 132, .int i] 170 h (RI (vPld (gi h 167) (nI np) i) (h)) := by
  rw [pld_lt (by omega)]
  refine Mc.of (by decide) rfl (Nat.le_of_ble_eq_true rfl) ?_
  refine x_iload_n (q := 1) dX10_planned_0 rfl rfl rfl ?_
  refine x_iconst (q := 2) (v := 0) dX10_planned_1 rfl (by decide) ?_
  refine x_aload_n (q := 3) dX10_planned_2 rfl rfl rfl ?_
  refine x_get (q := 6) dX10_planned_3 rfl f_X10_230 (cl_132 hS) rfl (by decide) ?_
  rw [hnp]
  refine x_iconst (q := 7) (v := 1) dX10_planned_6 rfl (by decide) ?_
  refine x_isub (q := 8) dX10_planned_7 rfl ?_
  refine y_csI (q := 11) dX10_planned_8 rfl l_X10_133 (c_X10_inL hS _ np (by omega)) rfl rfl rfl rfl rfl rfl ?_
  refine x_if_eq (q := 14) (t := 23) dX10_planned_11 rfl (by decide) (fun c_11 => ?_) (fun c_11 => ?_)
  · replace c_11 := b2n c_11
    refine x_bipush (q := 25) (v := -2) dX10_planned_23 rfl (by decide) ?_
    exact x_iret dX10_planned_25 ⟨_, rfl, by first | rfl | (split <;> rfl)⟩ rfl (Nat.le_refl _) rfl ⟨by first | (simp only [c_11, if_true, nI_clamp (show j < 2 ^ 31 by omega)]; done) | (simp only [c_11, if_false, Bool.false_eq_true]; done), rfl⟩
  · replace c_11 := b2y c_11
    obtain ⟨j, hj, rfl⟩ := ltB_of (by omega) c_11
    refine x_aload_n (q := 15) dX10_planned_14 rfl rfl rfl ?_
    refine x_get (q := 18) dX10_planned_15 rfl f_X10_118 (cl_132 hS) rfl (by decide) ?_
    refine x_iload_n (q := 19) dX10_planned_18 rfl rfl rfl ?_
    refine z_iald (q := 20) (j := j) dX10_planned_19 rfl (cl_167 hS) (by omega) (by decide) (by decide) ?_
    refine x_goto (q := 25) dX10_planned_20 (by decide) ?_
    exact x_iret dX10_planned_25 ⟨_, rfl, by first | rfl | (split <;> rfl)⟩ rfl (Nat.le_refl _) rfl ⟨by first | (simp only [c_11, if_true, nI_clamp (show j < 2 ^ 31 by omega)]; done) | (simp only [c_11, if_false, Bool.false_eq_true]; done), rfl⟩

set_option maxHeartbeats 4000000 in
set_option maxRecDepth 100000 in
theorem c_X10_idle {h : HF} (hS : Sh h)  : Mc mX10_idle [.ref 132] 170 h (RI (fI h 132 38) (sI h 132 38 0)) := by
  refine Mc.of (by decide) rfl (Nat.le_of_ble_eq_true rfl) ?_
  refine x_aload_n (q := 1) dX10_idle_0 rfl rfl rfl ?_
  refine x_get (q := 4) dX10_idle_1 rfl f_X10_219 (cl_132 hS) rfl (by decide) ?_
  refine x_istore_n (q := 5) dX10_idle_4 rfl rfl (by decide) ?_
  refine x_aload_n (q := 6) dX10_idle_5 rfl rfl rfl ?_
  refine x_iconst (q := 7) (v := 0) dX10_idle_6 rfl (by decide) ?_
  refine y_put (q := 10) dX10_idle_7 rfl f_X10_219 (cl_132 hS) rfl (by first | rfl | decide) (by first | rfl | decide) (by decide) ?_
  refine Vg.nm (fun h1 eh1 => ?_)
  have hS1 : Sh h1 := by rw [eh1]; exact hS.sI _ _ _
  have hc1_132_38 : fI h1 132 38 = nI (0) := by rw [eh1]; exact fI_sI_eq hS (by decide) (by decide) rfl _
  refine x_iload_n (q := 11) dX10_idle_10 rfl rfl rfl ?_
  exact x_iret dX10_idle_11 ⟨_, rfl, by first | rfl | (split <;> rfl)⟩ rfl (Nat.le_refl _) rfl ⟨rfl, eh1⟩

set_option maxHeartbeats 4000000 in
set_option maxRecDepth 100000 in
theorem c_X10_count {h : HF} (hS : Sh h) (w : Int32) : Mc mX10_count [.ref 132, .int w] 170 h (RI (vCount (fI h 132 1) (fI h 132 4) (fI h 132 8) (fI h 132 15) (fI h 132 31) (fI h 132 38) (fI h 132 0) (fI h 132 37) w) (h)) := by
  refine Mc.of (by decide) rfl (Nat.le_of_ble_eq_true rfl) ?_
  refine x_iload_n (q := 1) dX10_count_0 rfl rfl rfl ?_
  rcases tsw8 w with rfl | rfl | rfl | rfl | rfl | rfl | rfl | rfl | hw
  · refine x_tswI (q := 48) (off := 47) dX10_count_1 (by decide) (by decide) (by decide) (by decide) ?_
    refine x_aload_n (q := 49) dX10_count_48 rfl rfl rfl ?_
    refine x_get (q := 52) dX10_count_49 rfl f_X10_130 (cl_132 hS) rfl (by decide) ?_
    exact x_iret dX10_count_52 ⟨_, rfl, by first | rfl | (split <;> rfl)⟩ rfl (Nat.le_refl _) rfl ⟨by simp_all [vCount], rfl⟩
  · refine x_tswI (q := 53) (off := 52) dX10_count_1 (by decide) (by decide) (by decide) (by decide) ?_
    refine x_aload_n (q := 54) dX10_count_53 rfl rfl rfl ?_
    refine x_get (q := 57) dX10_count_54 rfl f_X10_144 (cl_132 hS) rfl (by decide) ?_
    exact x_iret dX10_count_57 ⟨_, rfl, by first | rfl | (split <;> rfl)⟩ rfl (Nat.le_refl _) rfl ⟨by simp_all [vCount], rfl⟩
  · refine x_tswI (q := 58) (off := 57) dX10_count_1 (by decide) (by decide) (by decide) (by decide) ?_
    refine x_aload_n (q := 59) dX10_count_58 rfl rfl rfl ?_
    refine x_get (q := 62) dX10_count_59 rfl f_X10_158 (cl_132 hS) rfl (by decide) ?_
    exact x_iret dX10_count_62 ⟨_, rfl, by first | rfl | (split <;> rfl)⟩ rfl (Nat.le_refl _) rfl ⟨by simp_all [vCount], rfl⟩
  · refine x_tswI (q := 63) (off := 62) dX10_count_1 (by decide) (by decide) (by decide) (by decide) ?_
    refine x_aload_n (q := 64) dX10_count_63 rfl rfl rfl ?_
    refine x_get (q := 67) dX10_count_64 rfl f_X10_137 (cl_132 hS) rfl (by decide) ?_
    exact x_iret dX10_count_67 ⟨_, rfl, by first | rfl | (split <;> rfl)⟩ rfl (Nat.le_refl _) rfl ⟨by simp_all [vCount], rfl⟩
  · refine x_tswI (q := 68) (off := 67) dX10_count_1 (by decide) (by decide) (by decide) (by decide) ?_
    refine x_aload_n (q := 69) dX10_count_68 rfl rfl rfl ?_
    refine x_get (q := 72) dX10_count_69 rfl f_X10_209 (cl_132 hS) rfl (by decide) ?_
    exact x_iret dX10_count_72 ⟨_, rfl, by first | rfl | (split <;> rfl)⟩ rfl (Nat.le_refl _) rfl ⟨by simp_all [vCount], rfl⟩
  · refine x_tswI (q := 73) (off := 72) dX10_count_1 (by decide) (by decide) (by decide) (by decide) ?_
    refine x_aload_n (q := 74) dX10_count_73 rfl rfl rfl ?_
    refine x_get (q := 77) dX10_count_74 rfl f_X10_219 (cl_132 hS) rfl (by decide) ?_
    exact x_iret dX10_count_77 ⟨_, rfl, by first | rfl | (split <;> rfl)⟩ rfl (Nat.le_refl _) rfl ⟨by simp_all [vCount], rfl⟩
  · refine x_tswI (q := 78) (off := 77) dX10_count_1 (by decide) (by decide) (by decide) (by decide) ?_
    refine x_aload_n (q := 79) dX10_count_78 rfl rfl rfl ?_
    refine x_get (q := 82) dX10_count_79 rfl f_X10_147 (cl_132 hS) rfl (by decide) ?_
    exact x_iret dX10_count_82 ⟨_, rfl, by first | rfl | (split <;> rfl)⟩ rfl (Nat.le_refl _) rfl ⟨by simp_all [vCount], rfl⟩
  · refine x_tswI (q := 83) (off := 82) dX10_count_1 (by decide) (by decide) (by decide) (by decide) ?_
    refine x_aload_n (q := 84) dX10_count_83 rfl rfl rfl ?_
    refine x_get (q := 87) dX10_count_84 rfl f_X10_206 (cl_132 hS) rfl (by decide) ?_
    exact x_iret dX10_count_87 ⟨_, rfl, by first | rfl | (split <;> rfl)⟩ rfl (Nat.le_refl _) rfl ⟨by simp_all [vCount], rfl⟩
  · refine x_tswO (q := 88) dX10_count_1 hw.1 (by decide) ?_
    refine x_bipush (q := 90) (v := -3) dX10_count_88 rfl (by decide) ?_
    exact x_iret dX10_count_90 ⟨_, rfl, by first | rfl | (split <;> rfl)⟩ rfl (Nat.le_refl _) rfl ⟨by simp_all [vCount], rfl⟩

