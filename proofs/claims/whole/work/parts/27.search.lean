def aS (h : HF) (d : Nat) (v : Int32) : HF := si h 19 (upd (gi h 19) d v)
def aimF (h : HF) (x y z : Int32) : HF := aS (aS (aS h 0 x) 1 y) 2 z
theorem Sh.aim {h : HF} (hS : Sh h) (x y z : Int32) : Sh (aimF h x y z) := ((hS.si _ _).si _ _).si _ _
set_option maxHeartbeats 4000000 in
set_option maxRecDepth 100000 in
theorem c_X2_aimAt {h : HF} (hS : Sh h) (x y z : Int32) : Mc mX2_aimAt [.ref 17, .int x, .int y, .int z] 170 h (RV (aimF h x y z)) := by
  refine Mc.of (by decide) rfl (Nat.le_of_ble_eq_true rfl) ?_
  refine x_aload_n (q := 1) dX2_aimAt_0 rfl rfl rfl ?_
  refine x_get (q := 4) dX2_aimAt_1 rfl f_X2_26 (cl_17 hS) rfl (by decide) ?_
  refine x_iconst (q := 5) (v := 0) dX2_aimAt_4 rfl (by decide) ?_
  refine x_iload_n (q := 6) dX2_aimAt_5 rfl rfl rfl ?_
  refine z_iast (q := 7) (j := 0) dX2_aimAt_6 rfl (cl_19 hS) (by decide) (by decide) (by decide) ?_
  refine Vg.nm (fun h1 eh1 => ?_)
  have hS1 : Sh h1 := by rw [eh1]; exact hS.si _ _
  refine x_aload_n (q := 8) dX2_aimAt_7 rfl rfl rfl ?_
  refine x_get (q := 11) dX2_aimAt_8 rfl f_X2_26 (cl_17 hS1) rfl (by decide) ?_
  refine x_iconst (q := 12) (v := 1) dX2_aimAt_11 rfl (by decide) ?_
  refine x_iload_n (q := 13) dX2_aimAt_12 rfl rfl rfl ?_
  refine z_iast (q := 14) (j := 1) dX2_aimAt_13 rfl (cl_19 hS1) (by decide) (by decide) (by decide) ?_
  refine Vg.nm (fun h2 eh2 => ?_)
  have hS2 : Sh h2 := by rw [eh2]; exact hS1.si _ _
  refine x_aload_n (q := 15) dX2_aimAt_14 rfl rfl rfl ?_
  refine x_get (q := 18) dX2_aimAt_15 rfl f_X2_26 (cl_17 hS2) rfl (by decide) ?_
  refine x_iconst (q := 19) (v := 2) dX2_aimAt_18 rfl (by decide) ?_
  refine x_iload_n (q := 20) dX2_aimAt_19 rfl rfl rfl ?_
  refine z_iast (q := 21) (j := 2) dX2_aimAt_20 rfl (cl_19 hS2) (by decide) (by decide) (by decide) ?_
  refine Vg.nm (fun h3 eh3 => ?_)
  have hS3 : Sh h3 := by rw [eh3]; exact hS2.si _ _
  exact x_vret dX2_aimAt_21 rfl rfl (Nat.le_refl _) rfl ⟨rfl, by subst_vars; rfl⟩

def chS (h : HF) (b : Nat) (n : Int32) (d : Nat) : HF := sl (sl h 22 (vp_updL (gl h 22) d (gl h 22 d + (n * gi h 3 (b * 3 + d)).toInt64))) 23 (vp_updL (gl h 23) d (gl h 23 d + (n * gi h 4 (b * 3 + d)).toInt64))
def ch0 (h : HF) (b : Nat) (n : Int32) : HF := sI (si h 21 (upd (gi h 21) b (gi h 21 b + n))) 17 7 (fI h 17 7 + n)
def chF (h : HF) (b : Nat) (n : Int32) : HF := chS (chS (chS (ch0 h b n) b n 0) b n 1) b n 2
theorem Sh.ch {h : HF} (hS : Sh h) (b : Nat) (n : Int32) : Sh (chF h b n) := (((((((hS.si _ _).sI _ _ _).sl _ _).sl _ _).sl _ _).sl _ _).sl _ _).sl _ _
set_option maxHeartbeats 4000000 in
set_option maxRecDepth 100000 in
theorem c_X2_change {h : HF} (hS : Sh h) (b : Nat) (n : Int32) (hb : b < 8) : Mc mX2_change [.ref 17, .int (nI b), .int n, .ref 2] 170 h (RV (chF h b n)) := by
  refine Mc.of (by decide) rfl (Nat.le_of_ble_eq_true rfl) ?_
  refine x_aload_n (q := 1) dX2_change_0 rfl rfl rfl ?_
  refine x_get (q := 4) dX2_change_1 rfl f_X2_32 (cl_17 hS) rfl (by decide) ?_
  refine x_iload_n (q := 5) dX2_change_4 rfl rfl rfl ?_
  refine x_dup2 (q := 6) dX2_change_5 rfl rfl rfl ?_
  refine z_iald (q := 7) (j := b) dX2_change_6 rfl (cl_21 hS) (by omega) (by decide) (by decide) ?_
  refine x_iload_n (q := 8) dX2_change_7 rfl rfl rfl ?_
  refine x_iadd (q := 9) dX2_change_8 rfl ?_
  refine z_iast (q := 10) (j := b) dX2_change_9 rfl (cl_21 hS) (by omega) (by decide) (by decide) ?_
  refine Vg.nm (fun h1 eh1 => ?_)
  have hS1 : Sh h1 := by rw [eh1]; exact hS.si _ _
  refine x_aload_n (q := 11) dX2_change_10 rfl rfl rfl ?_
  refine x_dup (q := 12) dX2_change_11 rfl rfl ?_
  refine x_get (q := 15) dX2_change_12 rfl f_X2_35 (cl_17 hS1) rfl (by decide) ?_
  refine x_iload_n (q := 16) dX2_change_15 rfl rfl rfl ?_
  refine x_iadd (q := 17) dX2_change_16 rfl ?_
  refine y_put (q := 20) dX2_change_17 rfl f_X2_35 (cl_17 hS1) rfl (by first | rfl | decide) (by first | rfl | decide) (by decide) ?_
  refine Vg.nm (fun h2 eh2 => ?_)
  have hS2 : Sh h2 := by rw [eh2]; exact hS1.sI _ _ _
  refine x_iconst (q := 21) (v := 0) dX2_change_20 rfl (by decide) ?_
  refine x_istore (q := 23) dX2_change_21 rfl (by decide) ?_
  refine x_iload (q := 25) dX2_change_23 rfl rfl ?_
  refine x_iconst (q := 26) (v := 3) dX2_change_25 rfl (by decide) ?_
  refine x_ic_ge (q := 29) (t := 83) dX2_change_26 rfl (by decide) (fun c_ => absurd c_ (by decide)) (fun _ => ?_)
  refine x_aload_n (q := 30) dX2_change_29 rfl rfl rfl ?_
  refine x_get (q := 33) dX2_change_30 rfl f_X2_41 (cl_17 hS2) rfl (by decide) ?_
  refine x_iload (q := 35) dX2_change_33 rfl rfl ?_
  refine x_dup2 (q := 36) dX2_change_35 rfl rfl rfl ?_
  refine z_lald (q := 37) (j := 0) dX2_change_36 rfl (cl_22 hS2) (by decide) (by decide) (by decide) ?_
  refine x_iload_n (q := 38) dX2_change_37 rfl rfl rfl ?_
  refine x_aload_n (q := 39) dX2_change_38 rfl rfl rfl ?_
  refine x_get (q := 42) dX2_change_39 rfl f_X2_107 (cl_2 hS2) rfl (by decide) ?_
  refine x_iload_n (q := 43) dX2_change_42 rfl rfl rfl ?_
  refine x_iconst (q := 44) (v := 3) dX2_change_43 rfl (by decide) ?_
  refine x_imul (q := 45) dX2_change_44 rfl ?_
  refine x_iload (q := 47) dX2_change_45 rfl rfl ?_
  refine x_iadd (q := 48) dX2_change_47 rfl ?_
  rw [show nI b * 3 + 0 = nI (b * 3 + 0) from ix3 b 0]
  refine z_iald (q := 49) (j := b * 3 + 0) dX2_change_48 rfl (cl_3 hS2) (by omega) (by decide) (by decide) ?_
  refine x_imul (q := 50) dX2_change_49 rfl ?_
  refine x_i2l (q := 51) dX2_change_50 rfl ?_
  refine x_ladd (q := 52) dX2_change_51 rfl ?_
  refine z_last (q := 53) (j := 0) dX2_change_52 rfl (cl_22 hS2) (by decide) (by decide) (by decide) ?_
  refine Vg.nm (fun h3 eh3 => ?_)
  have hS3 : Sh h3 := by rw [eh3]; exact hS2.sl _ _
  refine x_aload_n (q := 54) dX2_change_53 rfl rfl rfl ?_
  refine x_get (q := 57) dX2_change_54 rfl f_X2_45 (cl_17 hS3) rfl (by decide) ?_
  refine x_iload (q := 59) dX2_change_57 rfl rfl ?_
  refine x_dup2 (q := 60) dX2_change_59 rfl rfl rfl ?_
  refine z_lald (q := 61) (j := 0) dX2_change_60 rfl (cl_23 hS3) (by decide) (by decide) (by decide) ?_
  refine x_iload_n (q := 62) dX2_change_61 rfl rfl rfl ?_
  refine x_aload_n (q := 63) dX2_change_62 rfl rfl rfl ?_
  refine x_get (q := 66) dX2_change_63 rfl f_X2_110 (cl_2 hS3) rfl (by decide) ?_
  refine x_iload_n (q := 67) dX2_change_66 rfl rfl rfl ?_
  refine x_iconst (q := 68) (v := 3) dX2_change_67 rfl (by decide) ?_
  refine x_imul (q := 69) dX2_change_68 rfl ?_
  refine x_iload (q := 71) dX2_change_69 rfl rfl ?_
  refine x_iadd (q := 72) dX2_change_71 rfl ?_
  rw [show nI b * 3 + 0 = nI (b * 3 + 0) from ix3 b 0]
  refine z_iald (q := 73) (j := b * 3 + 0) dX2_change_72 rfl (cl_4 hS3) (by omega) (by decide) (by decide) ?_
  refine x_imul (q := 74) dX2_change_73 rfl ?_
  refine x_i2l (q := 75) dX2_change_74 rfl ?_
  refine x_ladd (q := 76) dX2_change_75 rfl ?_
  refine z_last (q := 77) (j := 0) dX2_change_76 rfl (cl_23 hS3) (by decide) (by decide) (by decide) ?_
  refine Vg.nm (fun h4 eh4 => ?_)
  have hS4 : Sh h4 := by rw [eh4]; exact hS3.sl _ _
  refine x_iinc (q := 80) (v := 1) dX2_change_77 rfl rfl (by decide) (by decide) ?_
  refine x_goto (q := 23) dX2_change_80 (by decide) ?_
  refine x_iload (q := 25) dX2_change_23 rfl rfl ?_
  refine x_iconst (q := 26) (v := 3) dX2_change_25 rfl (by decide) ?_
  refine x_ic_ge (q := 29) (t := 83) dX2_change_26 rfl (by decide) (fun c_ => absurd c_ (by decide)) (fun _ => ?_)
  refine x_aload_n (q := 30) dX2_change_29 rfl rfl rfl ?_
  refine x_get (q := 33) dX2_change_30 rfl f_X2_41 (cl_17 hS4) rfl (by decide) ?_
  refine x_iload (q := 35) dX2_change_33 rfl rfl ?_
  refine x_dup2 (q := 36) dX2_change_35 rfl rfl rfl ?_
  refine z_lald (q := 37) (j := 1) dX2_change_36 rfl (cl_22 hS4) (by decide) (by decide) (by decide) ?_
  refine x_iload_n (q := 38) dX2_change_37 rfl rfl rfl ?_
  refine x_aload_n (q := 39) dX2_change_38 rfl rfl rfl ?_
  refine x_get (q := 42) dX2_change_39 rfl f_X2_107 (cl_2 hS4) rfl (by decide) ?_
  refine x_iload_n (q := 43) dX2_change_42 rfl rfl rfl ?_
  refine x_iconst (q := 44) (v := 3) dX2_change_43 rfl (by decide) ?_
  refine x_imul (q := 45) dX2_change_44 rfl ?_
  refine x_iload (q := 47) dX2_change_45 rfl rfl ?_
  refine x_iadd (q := 48) dX2_change_47 rfl ?_
  rw [show nI b * 3 + 1 = nI (b * 3 + 1) from ix3 b 1]
  refine z_iald (q := 49) (j := b * 3 + 1) dX2_change_48 rfl (cl_3 hS4) (by omega) (by decide) (by decide) ?_
  refine x_imul (q := 50) dX2_change_49 rfl ?_
  refine x_i2l (q := 51) dX2_change_50 rfl ?_
  refine x_ladd (q := 52) dX2_change_51 rfl ?_
  refine z_last (q := 53) (j := 1) dX2_change_52 rfl (cl_22 hS4) (by decide) (by decide) (by decide) ?_
  refine Vg.nm (fun h5 eh5 => ?_)
  have hS5 : Sh h5 := by rw [eh5]; exact hS4.sl _ _
  refine x_aload_n (q := 54) dX2_change_53 rfl rfl rfl ?_
  refine x_get (q := 57) dX2_change_54 rfl f_X2_45 (cl_17 hS5) rfl (by decide) ?_
  refine x_iload (q := 59) dX2_change_57 rfl rfl ?_
  refine x_dup2 (q := 60) dX2_change_59 rfl rfl rfl ?_
  refine z_lald (q := 61) (j := 1) dX2_change_60 rfl (cl_23 hS5) (by decide) (by decide) (by decide) ?_
  refine x_iload_n (q := 62) dX2_change_61 rfl rfl rfl ?_
  refine x_aload_n (q := 63) dX2_change_62 rfl rfl rfl ?_
  refine x_get (q := 66) dX2_change_63 rfl f_X2_110 (cl_2 hS5) rfl (by decide) ?_
  refine x_iload_n (q := 67) dX2_change_66 rfl rfl rfl ?_
  refine x_iconst (q := 68) (v := 3) dX2_change_67 rfl (by decide) ?_
  refine x_imul (q := 69) dX2_change_68 rfl ?_
  refine x_iload (q := 71) dX2_change_69 rfl rfl ?_
  refine x_iadd (q := 72) dX2_change_71 rfl ?_
  rw [show nI b * 3 + 1 = nI (b * 3 + 1) from ix3 b 1]
  refine z_iald (q := 73) (j := b * 3 + 1) dX2_change_72 rfl (cl_4 hS5) (by omega) (by decide) (by decide) ?_
  refine x_imul (q := 74) dX2_change_73 rfl ?_
  refine x_i2l (q := 75) dX2_change_74 rfl ?_
  refine x_ladd (q := 76) dX2_change_75 rfl ?_
  refine z_last (q := 77) (j := 1) dX2_change_76 rfl (cl_23 hS5) (by decide) (by decide) (by decide) ?_
  refine Vg.nm (fun h6 eh6 => ?_)
  have hS6 : Sh h6 := by rw [eh6]; exact hS5.sl _ _
  refine x_iinc (q := 80) (v := 2) dX2_change_77 rfl rfl (by decide) (by decide) ?_
  refine x_goto (q := 23) dX2_change_80 (by decide) ?_
  refine x_iload (q := 25) dX2_change_23 rfl rfl ?_
  refine x_iconst (q := 26) (v := 3) dX2_change_25 rfl (by decide) ?_
  refine x_ic_ge (q := 29) (t := 83) dX2_change_26 rfl (by decide) (fun c_ => absurd c_ (by decide)) (fun _ => ?_)
  refine x_aload_n (q := 30) dX2_change_29 rfl rfl rfl ?_
  refine x_get (q := 33) dX2_change_30 rfl f_X2_41 (cl_17 hS6) rfl (by decide) ?_
  refine x_iload (q := 35) dX2_change_33 rfl rfl ?_
  refine x_dup2 (q := 36) dX2_change_35 rfl rfl rfl ?_
  refine z_lald (q := 37) (j := 2) dX2_change_36 rfl (cl_22 hS6) (by decide) (by decide) (by decide) ?_
  refine x_iload_n (q := 38) dX2_change_37 rfl rfl rfl ?_
  refine x_aload_n (q := 39) dX2_change_38 rfl rfl rfl ?_
  refine x_get (q := 42) dX2_change_39 rfl f_X2_107 (cl_2 hS6) rfl (by decide) ?_
  refine x_iload_n (q := 43) dX2_change_42 rfl rfl rfl ?_
  refine x_iconst (q := 44) (v := 3) dX2_change_43 rfl (by decide) ?_
  refine x_imul (q := 45) dX2_change_44 rfl ?_
  refine x_iload (q := 47) dX2_change_45 rfl rfl ?_
  refine x_iadd (q := 48) dX2_change_47 rfl ?_
  rw [show nI b * 3 + 2 = nI (b * 3 + 2) from ix3 b 2]
  refine z_iald (q := 49) (j := b * 3 + 2) dX2_change_48 rfl (cl_3 hS6) (by omega) (by decide) (by decide) ?_
  refine x_imul (q := 50) dX2_change_49 rfl ?_
  refine x_i2l (q := 51) dX2_change_50 rfl ?_
  refine x_ladd (q := 52) dX2_change_51 rfl ?_
  refine z_last (q := 53) (j := 2) dX2_change_52 rfl (cl_22 hS6) (by decide) (by decide) (by decide) ?_
  refine Vg.nm (fun h7 eh7 => ?_)
  have hS7 : Sh h7 := by rw [eh7]; exact hS6.sl _ _
  refine x_aload_n (q := 54) dX2_change_53 rfl rfl rfl ?_
  refine x_get (q := 57) dX2_change_54 rfl f_X2_45 (cl_17 hS7) rfl (by decide) ?_
  refine x_iload (q := 59) dX2_change_57 rfl rfl ?_
  refine x_dup2 (q := 60) dX2_change_59 rfl rfl rfl ?_
  refine z_lald (q := 61) (j := 2) dX2_change_60 rfl (cl_23 hS7) (by decide) (by decide) (by decide) ?_
  refine x_iload_n (q := 62) dX2_change_61 rfl rfl rfl ?_
  refine x_aload_n (q := 63) dX2_change_62 rfl rfl rfl ?_
  refine x_get (q := 66) dX2_change_63 rfl f_X2_110 (cl_2 hS7) rfl (by decide) ?_
  refine x_iload_n (q := 67) dX2_change_66 rfl rfl rfl ?_
  refine x_iconst (q := 68) (v := 3) dX2_change_67 rfl (by decide) ?_
  refine x_imul (q := 69) dX2_change_68 rfl ?_
  refine x_iload (q := 71) dX2_change_69 rfl rfl ?_
  refine x_iadd (q := 72) dX2_change_71 rfl ?_
  rw [show nI b * 3 + 2 = nI (b * 3 + 2) from ix3 b 2]
  refine z_iald (q := 73) (j := b * 3 + 2) dX2_change_72 rfl (cl_4 hS7) (by omega) (by decide) (by decide) ?_
  refine x_imul (q := 74) dX2_change_73 rfl ?_
  refine x_i2l (q := 75) dX2_change_74 rfl ?_
  refine x_ladd (q := 76) dX2_change_75 rfl ?_
  refine z_last (q := 77) (j := 2) dX2_change_76 rfl (cl_23 hS7) (by decide) (by decide) (by decide) ?_
  refine Vg.nm (fun h8 eh8 => ?_)
  have hS8 : Sh h8 := by rw [eh8]; exact hS7.sl _ _
  refine x_iinc (q := 80) (v := 3) dX2_change_77 rfl rfl (by decide) (by decide) ?_
  refine x_goto (q := 23) dX2_change_80 (by decide) ?_
  refine x_iload (q := 25) dX2_change_23 rfl rfl ?_
  refine x_iconst (q := 26) (v := 3) dX2_change_25 rfl (by decide) ?_
  refine x_ic_ge (q := 29) (t := 83) dX2_change_26 rfl (by decide) (fun _ => ?_) (fun c_ => absurd (by decide) c_)
  exact x_vret dX2_change_83 rfl rfl (Nat.le_refl _) rfl ⟨rfl, by subst_vars; simp (disch := decide) only [chF, chS, ch0, gi_sI, gi_sl, gi_si_ne, gl_sI, gl_si, fI_si, gl_sl_ne]⟩

def mS (h : HF) (d : Nat) : Int32 := absI (shd (gl h 22 d) (gl h 23 d) - gi h 19 d)
def mtR (bm : Int32) (s : Nat → Int32) : Nat → Nat → Int32 → Int32
  | 0, _, w => w
  | k + 1, i, w => if bm < w then w else mtR bm s k (i + 1) (maxI w (s i))
def missF (h : HF) : Int32 := mtR (fI h 17 2) (mS h) 3 0 0
theorem miss_0 {h : HF} (c : fI h 17 2 < 0) : missF h = 0 := by simp only [missF, mtR, if_pos c]
theorem miss_1 {h : HF} (c0 : ¬ fI h 17 2 < 0) (c1 : fI h 17 2 < maxI 0 (mS h 0)) : missF h = maxI 0 (mS h 0) := by simp only [missF, mtR, if_neg c0, if_pos c1]
theorem miss_2 {h : HF} (c0 : ¬ fI h 17 2 < 0) (c1 : ¬ fI h 17 2 < maxI 0 (mS h 0)) (c2 : fI h 17 2 < maxI (maxI 0 (mS h 0)) (mS h 1)) : missF h = maxI (maxI 0 (mS h 0)) (mS h 1) := by
  simp only [missF, mtR, if_neg c0, if_neg c1, Nat.zero_add, if_pos c2]
theorem miss_3 {h : HF} (c0 : ¬ fI h 17 2 < 0) (c1 : ¬ fI h 17 2 < maxI 0 (mS h 0)) (c2 : ¬ fI h 17 2 < maxI (maxI 0 (mS h 0)) (mS h 1)) : missF h = maxI (maxI (maxI 0 (mS h 0)) (mS h 1)) (mS h 2) := by
  simp only [missF, mtR, if_neg c0, if_neg c1, Nat.zero_add, if_neg c2]
set_option maxHeartbeats 4000000 in
set_option maxRecDepth 100000 in
theorem c_X2_missOfTrial {h : HF} (hS : Sh h) : Mc mX2_missOfTrial [.ref 17] 170 h (RI (missF h) h) := by
  refine Mc.of (by decide) rfl (Nat.le_of_ble_eq_true rfl) ?_
  refine x_iconst (q := 1) (v := 0) dX2_missOfTrial_0 rfl (by decide) ?_
  refine x_istore_n (q := 2) dX2_missOfTrial_1 rfl rfl (by decide) ?_
  refine x_iconst (q := 3) (v := 0) dX2_missOfTrial_2 rfl (by decide) ?_
  refine x_istore_n (q := 4) dX2_missOfTrial_3 rfl rfl (by decide) ?_
  refine x_iload_n (q := 5) dX2_missOfTrial_4 rfl rfl rfl ?_
  refine x_iconst (q := 6) (v := 3) dX2_missOfTrial_5 rfl (by decide) ?_
  refine x_ic_ge (q := 9) (t := 55) dX2_missOfTrial_6 rfl (by decide) (fun c_ => absurd c_ (by decide)) (fun _ => ?_)
  refine x_iload_n (q := 10) dX2_missOfTrial_9 rfl rfl rfl ?_
  refine x_aload_n (q := 11) dX2_missOfTrial_10 rfl rfl rfl ?_
  refine x_get (q := 14) dX2_missOfTrial_11 rfl f_X2_19 (cl_17 hS) rfl (by decide) ?_
  refine x_ic_gt (q := 17) (t := 55) dX2_missOfTrial_14 rfl (by decide) (fun c_14 => ?_) (fun c_14 => ?_)
  · refine x_iload_n (q := 56) dX2_missOfTrial_55 rfl rfl rfl ?_
    exact x_iret dX2_missOfTrial_56 ⟨_, rfl, by first | rfl | (split <;> rfl)⟩ rfl (Nat.le_refl _) rfl ⟨by first | (rw [miss_3 c_14 c_14_1 c_14_2]; rfl) | (rw [miss_2 c_14 c_14_1 c_14_2]; rfl) | (rw [miss_1 c_14 c_14_1]; rfl) | (rw [miss_0 c_14]), rfl⟩
  · refine x_aload_n (q := 18) dX2_missOfTrial_17 rfl rfl rfl ?_
    refine x_get (q := 21) dX2_missOfTrial_18 rfl f_X2_41 (cl_17 hS) rfl (by decide) ?_
    refine x_iload_n (q := 22) dX2_missOfTrial_21 rfl rfl rfl ?_
    refine z_lald (q := 23) (j := 0) dX2_missOfTrial_22 rfl (cl_22 hS) (by decide) (by decide) (by decide) ?_
    refine x_aload_n (q := 24) dX2_missOfTrial_23 rfl rfl rfl ?_
    refine x_get (q := 27) dX2_missOfTrial_24 rfl f_X2_45 (cl_17 hS) rfl (by decide) ?_
    refine x_iload_n (q := 28) dX2_missOfTrial_27 rfl rfl rfl ?_
    refine z_lald (q := 29) (j := 0) dX2_missOfTrial_28 rfl (cl_23 hS) (by decide) (by decide) (by decide) ?_
    refine y_csI (q := 32) dX2_missOfTrial_29 rfl l_X2_90 (c_X9_shadeOfSums hS _ _) rfl rfl rfl rfl rfl rfl ?_
    refine x_aload_n (q := 33) dX2_missOfTrial_32 rfl rfl rfl ?_
    refine x_get (q := 36) dX2_missOfTrial_33 rfl f_X2_26 (cl_17 hS) rfl (by decide) ?_
    refine x_iload_n (q := 37) dX2_missOfTrial_36 rfl rfl rfl ?_
    refine z_iald (q := 38) (j := 0) dX2_missOfTrial_37 rfl (cl_19 hS) (by decide) (by decide) (by decide) ?_
    refine x_isub (q := 39) dX2_missOfTrial_38 rfl ?_
    refine y_csI (q := 42) dX2_missOfTrial_39 rfl l_X2_94 (c_J9_abs_0f7a4 hS _) rfl rfl rfl rfl rfl rfl ?_
    refine x_istore_n (q := 43) dX2_missOfTrial_42 rfl rfl (by decide) ?_
    refine x_iload_n (q := 44) dX2_missOfTrial_43 rfl rfl rfl ?_
    refine x_iload_n (q := 45) dX2_missOfTrial_44 rfl rfl rfl ?_
    refine y_csI (q := 48) dX2_missOfTrial_45 rfl l_X2_97 (c_J9_max_7cf53 hS _ _) rfl rfl rfl rfl rfl rfl ?_
    refine x_istore_n (q := 49) dX2_missOfTrial_48 rfl rfl (by decide) ?_
    refine x_iinc (q := 52) (v := 1) dX2_missOfTrial_49 rfl rfl (by decide) (by decide) ?_
    refine x_goto (q := 4) dX2_missOfTrial_52 (by decide) ?_
    refine x_iload_n (q := 5) dX2_missOfTrial_4 rfl rfl rfl ?_
    refine x_iconst (q := 6) (v := 3) dX2_missOfTrial_5 rfl (by decide) ?_
    refine x_ic_ge (q := 9) (t := 55) dX2_missOfTrial_6 rfl (by decide) (fun c_ => absurd c_ (by decide)) (fun _ => ?_)
    refine x_iload_n (q := 10) dX2_missOfTrial_9 rfl rfl rfl ?_
    refine x_aload_n (q := 11) dX2_missOfTrial_10 rfl rfl rfl ?_
    refine x_get (q := 14) dX2_missOfTrial_11 rfl f_X2_19 (cl_17 hS) rfl (by decide) ?_
    refine x_ic_gt (q := 17) (t := 55) dX2_missOfTrial_14 rfl (by decide) (fun c_14_1 => ?_) (fun c_14_1 => ?_)
    · refine x_iload_n (q := 56) dX2_missOfTrial_55 rfl rfl rfl ?_
      exact x_iret dX2_missOfTrial_56 ⟨_, rfl, by first | rfl | (split <;> rfl)⟩ rfl (Nat.le_refl _) rfl ⟨by first | (rw [miss_3 c_14 c_14_1 c_14_2]; rfl) | (rw [miss_2 c_14 c_14_1 c_14_2]; rfl) | (rw [miss_1 c_14 c_14_1]; rfl) | (rw [miss_0 c_14]), rfl⟩
    · refine x_aload_n (q := 18) dX2_missOfTrial_17 rfl rfl rfl ?_
      refine x_get (q := 21) dX2_missOfTrial_18 rfl f_X2_41 (cl_17 hS) rfl (by decide) ?_
      refine x_iload_n (q := 22) dX2_missOfTrial_21 rfl rfl rfl ?_
      refine z_lald (q := 23) (j := 1) dX2_missOfTrial_22 rfl (cl_22 hS) (by decide) (by decide) (by decide) ?_
      refine x_aload_n (q := 24) dX2_missOfTrial_23 rfl rfl rfl ?_
      refine x_get (q := 27) dX2_missOfTrial_24 rfl f_X2_45 (cl_17 hS) rfl (by decide) ?_
      refine x_iload_n (q := 28) dX2_missOfTrial_27 rfl rfl rfl ?_
      refine z_lald (q := 29) (j := 1) dX2_missOfTrial_28 rfl (cl_23 hS) (by decide) (by decide) (by decide) ?_
      refine y_csI (q := 32) dX2_missOfTrial_29 rfl l_X2_90 (c_X9_shadeOfSums hS _ _) rfl rfl rfl rfl rfl rfl ?_
      refine x_aload_n (q := 33) dX2_missOfTrial_32 rfl rfl rfl ?_
      refine x_get (q := 36) dX2_missOfTrial_33 rfl f_X2_26 (cl_17 hS) rfl (by decide) ?_
      refine x_iload_n (q := 37) dX2_missOfTrial_36 rfl rfl rfl ?_
      refine z_iald (q := 38) (j := 1) dX2_missOfTrial_37 rfl (cl_19 hS) (by decide) (by decide) (by decide) ?_
      refine x_isub (q := 39) dX2_missOfTrial_38 rfl ?_
      refine y_csI (q := 42) dX2_missOfTrial_39 rfl l_X2_94 (c_J9_abs_0f7a4 hS _) rfl rfl rfl rfl rfl rfl ?_
      refine x_istore_n (q := 43) dX2_missOfTrial_42 rfl rfl (by decide) ?_
      refine x_iload_n (q := 44) dX2_missOfTrial_43 rfl rfl rfl ?_
      refine x_iload_n (q := 45) dX2_missOfTrial_44 rfl rfl rfl ?_
      refine y_csI (q := 48) dX2_missOfTrial_45 rfl l_X2_97 (c_J9_max_7cf53 hS _ _) rfl rfl rfl rfl rfl rfl ?_
      refine x_istore_n (q := 49) dX2_missOfTrial_48 rfl rfl (by decide) ?_
      refine x_iinc (q := 52) (v := 2) dX2_missOfTrial_49 rfl rfl (by decide) (by decide) ?_
      refine x_goto (q := 4) dX2_missOfTrial_52 (by decide) ?_
      refine x_iload_n (q := 5) dX2_missOfTrial_4 rfl rfl rfl ?_
      refine x_iconst (q := 6) (v := 3) dX2_missOfTrial_5 rfl (by decide) ?_
      refine x_ic_ge (q := 9) (t := 55) dX2_missOfTrial_6 rfl (by decide) (fun c_ => absurd c_ (by decide)) (fun _ => ?_)
      refine x_iload_n (q := 10) dX2_missOfTrial_9 rfl rfl rfl ?_
      refine x_aload_n (q := 11) dX2_missOfTrial_10 rfl rfl rfl ?_
      refine x_get (q := 14) dX2_missOfTrial_11 rfl f_X2_19 (cl_17 hS) rfl (by decide) ?_
      refine x_ic_gt (q := 17) (t := 55) dX2_missOfTrial_14 rfl (by decide) (fun c_14_2 => ?_) (fun c_14_2 => ?_)
      · refine x_iload_n (q := 56) dX2_missOfTrial_55 rfl rfl rfl ?_
        exact x_iret dX2_missOfTrial_56 ⟨_, rfl, by first | rfl | (split <;> rfl)⟩ rfl (Nat.le_refl _) rfl ⟨by first | (rw [miss_3 c_14 c_14_1 c_14_2]; rfl) | (rw [miss_2 c_14 c_14_1 c_14_2]; rfl) | (rw [miss_1 c_14 c_14_1]; rfl) | (rw [miss_0 c_14]), rfl⟩
      · refine x_aload_n (q := 18) dX2_missOfTrial_17 rfl rfl rfl ?_
        refine x_get (q := 21) dX2_missOfTrial_18 rfl f_X2_41 (cl_17 hS) rfl (by decide) ?_
        refine x_iload_n (q := 22) dX2_missOfTrial_21 rfl rfl rfl ?_
        refine z_lald (q := 23) (j := 2) dX2_missOfTrial_22 rfl (cl_22 hS) (by decide) (by decide) (by decide) ?_
        refine x_aload_n (q := 24) dX2_missOfTrial_23 rfl rfl rfl ?_
        refine x_get (q := 27) dX2_missOfTrial_24 rfl f_X2_45 (cl_17 hS) rfl (by decide) ?_
        refine x_iload_n (q := 28) dX2_missOfTrial_27 rfl rfl rfl ?_
        refine z_lald (q := 29) (j := 2) dX2_missOfTrial_28 rfl (cl_23 hS) (by decide) (by decide) (by decide) ?_
        refine y_csI (q := 32) dX2_missOfTrial_29 rfl l_X2_90 (c_X9_shadeOfSums hS _ _) rfl rfl rfl rfl rfl rfl ?_
        refine x_aload_n (q := 33) dX2_missOfTrial_32 rfl rfl rfl ?_
        refine x_get (q := 36) dX2_missOfTrial_33 rfl f_X2_26 (cl_17 hS) rfl (by decide) ?_
        refine x_iload_n (q := 37) dX2_missOfTrial_36 rfl rfl rfl ?_
        refine z_iald (q := 38) (j := 2) dX2_missOfTrial_37 rfl (cl_19 hS) (by decide) (by decide) (by decide) ?_
        refine x_isub (q := 39) dX2_missOfTrial_38 rfl ?_
        refine y_csI (q := 42) dX2_missOfTrial_39 rfl l_X2_94 (c_J9_abs_0f7a4 hS _) rfl rfl rfl rfl rfl rfl ?_
        refine x_istore_n (q := 43) dX2_missOfTrial_42 rfl rfl (by decide) ?_
        refine x_iload_n (q := 44) dX2_missOfTrial_43 rfl rfl rfl ?_
        refine x_iload_n (q := 45) dX2_missOfTrial_44 rfl rfl rfl ?_
        refine y_csI (q := 48) dX2_missOfTrial_45 rfl l_X2_97 (c_J9_max_7cf53 hS _ _) rfl rfl rfl rfl rfl rfl ?_
        refine x_istore_n (q := 49) dX2_missOfTrial_48 rfl rfl (by decide) ?_
        refine x_iinc (q := 52) (v := 3) dX2_missOfTrial_49 rfl rfl (by decide) (by decide) ?_
        refine x_goto (q := 4) dX2_missOfTrial_52 (by decide) ?_
        refine x_iload_n (q := 5) dX2_missOfTrial_4 rfl rfl rfl ?_
        refine x_iconst (q := 6) (v := 3) dX2_missOfTrial_5 rfl (by decide) ?_
        refine x_ic_ge (q := 9) (t := 55) dX2_missOfTrial_6 rfl (by decide) (fun _ => ?_) (fun c_ => absurd (by decide) c_)
        refine x_iload_n (q := 56) dX2_missOfTrial_55 rfl rfl rfl ?_
        exact x_iret dX2_missOfTrial_56 ⟨_, rfl, by first | rfl | (split <;> rfl)⟩ rfl (Nat.le_refl _) rfl ⟨by first | (rw [miss_3 c_14 c_14_1 c_14_2]; rfl) | (rw [miss_2 c_14 c_14_1 c_14_2]; rfl) | (rw [miss_1 c_14 c_14_1]; rfl) | (rw [miss_0 c_14]), rfl⟩

abbrev jdP (h : HF) : Prop := missF h < fI h 17 2 ∨ (missF h = fI h 17 2 ∧ fI h 17 7 < fI h 17 3)
def jdY (h : HF) : HF := si (sI (sI h 17 2 (missF h)) 17 3 (fI h 17 7)) 18 (va_cpy (gi h 21) (gi h 18) 0 0 8)
def jdH (h : HF) : HF := if jdP h then jdY h else h
theorem Sh.jdY {h : HF} (hS : Sh h) : Sh (jdY h) := ((hS.sI _ _ _).sI _ _ _).si _ _
theorem Sh_jdH {h : HF} (hS : Sh h) : Sh (jdH h) := by
  unfold jdH
  split
  · exact hS.jdY
  · exact hS
set_option maxHeartbeats 4000000 in
set_option maxRecDepth 100000 in
theorem c_X2_judge {h : HF} (hS : Sh h) : Mc mX2_judge [.ref 17] 170 h (RV (jdH h)) := by
  refine Mc.of (by decide) rfl (Nat.le_of_ble_eq_true rfl) ?_
  refine x_aload_n (q := 1) dX2_judge_0 rfl rfl rfl ?_
  refine y_cvI (q := 4) dX2_judge_1 rfl l_X2_80 (c_X2_missOfTrial hS) rfl rfl (cl_17 hS) (by decide) rfl rfl rfl rfl ?_
  refine x_istore_n (q := 5) dX2_judge_4 rfl rfl (by decide) ?_
  refine x_iload_n (q := 6) dX2_judge_5 rfl rfl rfl ?_
  refine x_aload_n (q := 7) dX2_judge_6 rfl rfl rfl ?_
  refine x_get (q := 10) dX2_judge_7 rfl f_X2_19 (cl_17 hS) rfl (by decide) ?_
  refine x_ic_lt (q := 13) (t := 32) dX2_judge_10 rfl (by decide) (fun c_10 => ?_) (fun c_10 => ?_)
  · refine x_aload_n (q := 33) dX2_judge_32 rfl rfl rfl ?_
    refine x_iload_n (q := 34) dX2_judge_33 rfl rfl rfl ?_
    refine y_put (q := 37) dX2_judge_34 rfl f_X2_19 (cl_17 hS) rfl (by first | rfl | decide) (by first | rfl | decide) (by decide) ?_
    refine Vg.nm (fun h1 eh1 => ?_)
    have hS1 : Sh h1 := by rw [eh1]; exact hS.sI _ _ _
    refine x_aload_n (q := 38) dX2_judge_37 rfl rfl rfl ?_
    refine x_aload_n (q := 39) dX2_judge_38 rfl rfl rfl ?_
    refine x_get (q := 42) dX2_judge_39 rfl f_X2_35 (cl_17 hS1) rfl (by decide) ?_
    refine y_put (q := 45) dX2_judge_42 rfl f_X2_23 (cl_17 hS1) rfl (by first | rfl | decide) (by first | rfl | decide) (by decide) ?_
    refine Vg.nm (fun h2 eh2 => ?_)
    have hS2 : Sh h2 := by rw [eh2]; exact hS1.sI _ _ _
    refine x_aload_n (q := 46) dX2_judge_45 rfl rfl rfl ?_
    refine x_get (q := 49) dX2_judge_46 rfl f_X2_32 (cl_17 hS2) rfl (by decide) ?_
    refine x_iconst (q := 50) (v := 0) dX2_judge_49 rfl (by decide) ?_
    refine x_aload_n (q := 51) dX2_judge_50 rfl rfl rfl ?_
    refine x_get (q := 54) dX2_judge_51 rfl f_X2_9 (cl_17 hS2) rfl (by decide) ?_
    refine x_iconst (q := 55) (v := 0) dX2_judge_54 rfl (by decide) ?_
    refine x_bipush (q := 57) (v := 8) dX2_judge_55 rfl (by decide) ?_
    refine y_acopy (q := 60) dX2_judge_57 rfl o_X2_84 (cl_18 hS2) (cl_21 hS2) (by decide) (by decide) (by decide) (by decide) (by decide) (by decide) (by decide) (by decide) (by decide) ?_
    refine Vg.nm (fun h3 eh3 => ?_)
    have hS3 : Sh h3 := by rw [eh3]; exact hS2.si _ _
    exact x_vret dX2_judge_60 rfl rfl (Nat.le_refl _) rfl ⟨rfl, by first | (rw [jdH, if_pos (Or.inl c_10)]; subst_vars; (try simp (disch := decide) only [jdY, fI_sI_k, gi_sI]); (try rfl); done) | (rw [jdH, if_pos (Or.inr ⟨c_18, Int32.not_le.mp c_29⟩)]; subst_vars; (try simp (disch := decide) only [jdY, fI_sI_k, gi_sI]); (try rfl); done) | (rw [jdH, if_neg (fun z => z.elim c_10 (fun z => c_18 z.1))]; done) | (rw [jdH, if_neg (fun z => z.elim c_10 (fun z => Int32.not_le.mpr z.2 c_29))]; done)⟩
  · refine x_iload_n (q := 14) dX2_judge_13 rfl rfl rfl ?_
    refine x_aload_n (q := 15) dX2_judge_14 rfl rfl rfl ?_
    refine x_get (q := 18) dX2_judge_15 rfl f_X2_19 (cl_17 hS) rfl (by decide) ?_
    refine x_ic_ne (q := 21) (t := 60) dX2_judge_18 rfl (by decide) (fun c_18 => ?_) (fun c_18 => ?_)
    · exact x_vret dX2_judge_60 rfl rfl (Nat.le_refl _) rfl ⟨rfl, by first | (rw [jdH, if_pos (Or.inl c_10)]; subst_vars; (try simp (disch := decide) only [jdY, fI_sI_k, gi_sI]); (try rfl); done) | (rw [jdH, if_pos (Or.inr ⟨c_18, Int32.not_le.mp c_29⟩)]; subst_vars; (try simp (disch := decide) only [jdY, fI_sI_k, gi_sI]); (try rfl); done) | (rw [jdH, if_neg (fun z => z.elim c_10 (fun z => c_18 z.1))]; done) | (rw [jdH, if_neg (fun z => z.elim c_10 (fun z => Int32.not_le.mpr z.2 c_29))]; done)⟩
    · refine x_aload_n (q := 22) dX2_judge_21 rfl rfl rfl ?_
      refine x_get (q := 25) dX2_judge_22 rfl f_X2_35 (cl_17 hS) rfl (by decide) ?_
      refine x_aload_n (q := 26) dX2_judge_25 rfl rfl rfl ?_
      refine x_get (q := 29) dX2_judge_26 rfl f_X2_23 (cl_17 hS) rfl (by decide) ?_
      refine x_ic_ge (q := 32) (t := 60) dX2_judge_29 rfl (by decide) (fun c_29 => ?_) (fun c_29 => ?_)
      · exact x_vret dX2_judge_60 rfl rfl (Nat.le_refl _) rfl ⟨rfl, by first | (rw [jdH, if_pos (Or.inl c_10)]; subst_vars; (try simp (disch := decide) only [jdY, fI_sI_k, gi_sI]); (try rfl); done) | (rw [jdH, if_pos (Or.inr ⟨c_18, Int32.not_le.mp c_29⟩)]; subst_vars; (try simp (disch := decide) only [jdY, fI_sI_k, gi_sI]); (try rfl); done) | (rw [jdH, if_neg (fun z => z.elim c_10 (fun z => c_18 z.1))]; done) | (rw [jdH, if_neg (fun z => z.elim c_10 (fun z => Int32.not_le.mpr z.2 c_29))]; done)⟩
      · refine x_aload_n (q := 33) dX2_judge_32 rfl rfl rfl ?_
        refine x_iload_n (q := 34) dX2_judge_33 rfl rfl rfl ?_
        refine y_put (q := 37) dX2_judge_34 rfl f_X2_19 (cl_17 hS) rfl (by first | rfl | decide) (by first | rfl | decide) (by decide) ?_
        refine Vg.nm (fun h4 eh4 => ?_)
        have hS4 : Sh h4 := by rw [eh4]; exact hS.sI _ _ _
        refine x_aload_n (q := 38) dX2_judge_37 rfl rfl rfl ?_
        refine x_aload_n (q := 39) dX2_judge_38 rfl rfl rfl ?_
        refine x_get (q := 42) dX2_judge_39 rfl f_X2_35 (cl_17 hS4) rfl (by decide) ?_
        refine y_put (q := 45) dX2_judge_42 rfl f_X2_23 (cl_17 hS4) rfl (by first | rfl | decide) (by first | rfl | decide) (by decide) ?_
        refine Vg.nm (fun h5 eh5 => ?_)
        have hS5 : Sh h5 := by rw [eh5]; exact hS4.sI _ _ _
        refine x_aload_n (q := 46) dX2_judge_45 rfl rfl rfl ?_
        refine x_get (q := 49) dX2_judge_46 rfl f_X2_32 (cl_17 hS5) rfl (by decide) ?_
        refine x_iconst (q := 50) (v := 0) dX2_judge_49 rfl (by decide) ?_
        refine x_aload_n (q := 51) dX2_judge_50 rfl rfl rfl ?_
        refine x_get (q := 54) dX2_judge_51 rfl f_X2_9 (cl_17 hS5) rfl (by decide) ?_
        refine x_iconst (q := 55) (v := 0) dX2_judge_54 rfl (by decide) ?_
        refine x_bipush (q := 57) (v := 8) dX2_judge_55 rfl (by decide) ?_
        refine y_acopy (q := 60) dX2_judge_57 rfl o_X2_84 (cl_18 hS5) (cl_21 hS5) (by decide) (by decide) (by decide) (by decide) (by decide) (by decide) (by decide) (by decide) (by decide) ?_
        refine Vg.nm (fun h6 eh6 => ?_)
        have hS6 : Sh h6 := by rw [eh6]; exact hS5.si _ _
        exact x_vret dX2_judge_60 rfl rfl (Nat.le_refl _) rfl ⟨rfl, by first | (rw [jdH, if_pos (Or.inl c_10)]; subst_vars; (try simp (disch := decide) only [jdY, fI_sI_k, gi_sI]); (try rfl); done) | (rw [jdH, if_pos (Or.inr ⟨c_18, Int32.not_le.mp c_29⟩)]; subst_vars; (try simp (disch := decide) only [jdY, fI_sI_k, gi_sI]); (try rfl); done) | (rw [jdH, if_neg (fun z => z.elim c_10 (fun z => c_18 z.1))]; done) | (rw [jdH, if_neg (fun z => z.elim c_10 (fun z => Int32.not_le.mpr z.2 c_29))]; done)⟩

def advH : Nat → HF → Bool × HF
  | 0, h => (false, h)
  | i + 1, h => if fI h 17 7 < fI h 17 8 ∧ gi h 21 i < gi h 20 i then (true, chF h i 1) else if 0 < gi h 21 i then advH i (chF h i (-(gi h 21 i))) else advH i h
theorem advH_t {i : Nat} {h : HF} (e : fI h 17 7 < fI h 17 8 ∧ gi h 21 i < gi h 20 i) : advH (i + 1) h = (true, chF h i 1) := if_pos e
theorem advH_p {i : Nat} {h : HF} (e : ¬ (fI h 17 7 < fI h 17 8 ∧ gi h 21 i < gi h 20 i)) (e2 : 0 < gi h 21 i) : advH (i + 1) h = advH i (chF h i (-(gi h 21 i))) := (if_neg e).trans (if_pos e2)
theorem advH_n {i : Nat} {h : HF} (e : ¬ (fI h 17 7 < fI h 17 8 ∧ gi h 21 i < gi h 20 i)) (e2 : ¬ 0 < gi h 21 i) : advH (i + 1) h = advH i h := (if_neg e).trans (if_neg e2)
theorem Sh_advH : ∀ (i : Nat) {h : HF}, Sh h → Sh (advH i h).2
  | 0, _, hS => hS
  | i + 1, h, hS => by
    unfold advH
    split
    · exact hS.ch _ _
    · split
      · exact Sh_advH i (hS.ch _ _)
      · exact Sh_advH i hS
theorem nI_dec (k : Nat) : nI k + Int32.ofInt (-1) = nI k - 1 := by
  rw [Int32.sub_eq_add_neg]; rfl
set_option maxHeartbeats 4000000 in
set_option maxRecDepth 100000 in
theorem lp_adv : ∀ (i : Nat) (h : HF), Sh h → i ≤ 8 → Vg mX2_advance none (QM mX2_advance 170 (RI (if (advH i h).1 = true then 1 else 0) (advH i h).2)) 7 [some (.ref 17), some (.ref 2), some (.int (nI i - 1))] [] 170 h 0 0 := by
  intro i
  induction i with
  | zero =>
    intro h hS hi
    refine x_iload_n (q := 8) dX2_advance_7 rfl rfl rfl ?_
    refine x_if_lt (q := 11) (t := 74) dX2_advance_8 rfl (by decide) (fun _ => ?_) (fun c_ => absurd (by decide) c_)
    refine x_iconst (q := 75) (v := 0) dX2_advance_74 rfl (by decide) ?_
    exact x_iret dX2_advance_75 ⟨_, rfl, by first | rfl | (split <;> rfl)⟩ rfl (Nat.le_refl _) rfl ⟨rfl, rfl⟩
  | succ i ih =>
    intro h hS hi
    rw [nI_pred]
    refine x_iload_n (q := 8) dX2_advance_7 rfl rfl rfl ?_
    refine x_if_lt (q := 11) (t := 74) dX2_advance_8 rfl (by decide) (fun c_ => absurd c_ (nI_pos (by omega))) (fun _ => ?_)
    refine x_aload_n (q := 12) dX2_advance_11 rfl rfl rfl ?_
    refine x_get (q := 15) dX2_advance_12 rfl f_X2_35 (cl_17 hS) rfl (by decide) ?_
    refine x_aload_n (q := 16) dX2_advance_15 rfl rfl rfl ?_
    refine x_get (q := 19) dX2_advance_16 rfl f_X2_38 (cl_17 hS) rfl (by decide) ?_
    refine x_ic_ge (q := 22) (t := 46) dX2_advance_19 rfl (by decide) (fun c_19 => ?_) (fun c_19 => ?_)
    · refine x_aload_n (q := 47) dX2_advance_46 rfl rfl rfl ?_
      refine x_get (q := 50) dX2_advance_47 rfl f_X2_32 (cl_17 hS) rfl (by decide) ?_
      refine x_iload_n (q := 51) dX2_advance_50 rfl rfl rfl ?_
      refine z_iald (q := 52) (j := i) dX2_advance_51 rfl (cl_21 hS) (by omega) (by decide) (by decide) ?_
      refine x_if_le (q := 55) (t := 68) dX2_advance_52 rfl (by decide) (fun c_52 => ?_) (fun c_52 => ?_)
      · refine x_iinc (q := 71) dX2_advance_68 rfl rfl rfl (by decide) ?_
        refine x_goto (q := 7) dX2_advance_71 (by decide) ?_
        rw [nI_dec]
        first | (rw [advH_n (fun z => Int32.not_le.mpr z.1 c_19) (Int32.not_lt.mpr c_52)]; exact ih h hS (by omega)) | (rw [advH_n (fun z => Int32.not_le.mpr z.2 c_34) (Int32.not_lt.mpr c_52)]; exact ih h hS (by omega))
      · refine x_aload_n (q := 56) dX2_advance_55 rfl rfl rfl ?_
        refine x_iload_n (q := 57) dX2_advance_56 rfl rfl rfl ?_
        refine x_aload_n (q := 58) dX2_advance_57 rfl rfl rfl ?_
        refine x_get (q := 61) dX2_advance_58 rfl f_X2_32 (cl_17 hS) rfl (by decide) ?_
        refine x_iload_n (q := 62) dX2_advance_61 rfl rfl rfl ?_
        refine z_iald (q := 63) (j := i) dX2_advance_62 rfl (cl_21 hS) (by omega) (by decide) (by decide) ?_
        refine x_ineg (q := 64) dX2_advance_63 rfl ?_
        refine x_aload_n (q := 65) dX2_advance_64 rfl rfl rfl ?_
        refine y_cvV (q := 68) dX2_advance_65 rfl l_X2_103 (c_X2_change hS i _ (by omega)) rfl rfl (cl_17 hS) (by decide) rfl rfl rfl rfl ?_
        refine Vg.nm (fun h1 eh1 => ?_)
        have hS1 : Sh h1 := by rw [eh1]; exact hS.ch _ _
        refine x_iinc (q := 71) dX2_advance_68 rfl rfl rfl (by decide) ?_
        refine x_goto (q := 7) dX2_advance_71 (by decide) ?_
        rw [nI_dec]
        first | (rw [advH_p (fun z => Int32.not_le.mpr z.1 c_19) (Int32.not_le.mp c_52), ← eh1]; exact ih h1 hS1 (by omega)) | (rw [advH_p (fun z => Int32.not_le.mpr z.2 c_34) (Int32.not_le.mp c_52), ← eh1]; exact ih h1 hS1 (by omega))
    · refine x_aload_n (q := 23) dX2_advance_22 rfl rfl rfl ?_
      refine x_get (q := 26) dX2_advance_23 rfl f_X2_32 (cl_17 hS) rfl (by decide) ?_
      refine x_iload_n (q := 27) dX2_advance_26 rfl rfl rfl ?_
      refine z_iald (q := 28) (j := i) dX2_advance_27 rfl (cl_21 hS) (by omega) (by decide) (by decide) ?_
      refine x_aload_n (q := 29) dX2_advance_28 rfl rfl rfl ?_
      refine x_get (q := 32) dX2_advance_29 rfl f_X2_29 (cl_17 hS) rfl (by decide) ?_
      refine x_iload_n (q := 33) dX2_advance_32 rfl rfl rfl ?_
      refine z_iald (q := 34) (j := i) dX2_advance_33 rfl (cl_20 hS) (by omega) (by decide) (by decide) ?_
      refine x_ic_ge (q := 37) (t := 46) dX2_advance_34 rfl (by decide) (fun c_34 => ?_) (fun c_34 => ?_)
      · refine x_aload_n (q := 47) dX2_advance_46 rfl rfl rfl ?_
        refine x_get (q := 50) dX2_advance_47 rfl f_X2_32 (cl_17 hS) rfl (by decide) ?_
        refine x_iload_n (q := 51) dX2_advance_50 rfl rfl rfl ?_
        refine z_iald (q := 52) (j := i) dX2_advance_51 rfl (cl_21 hS) (by omega) (by decide) (by decide) ?_
        refine x_if_le (q := 55) (t := 68) dX2_advance_52 rfl (by decide) (fun c_52 => ?_) (fun c_52 => ?_)
        · refine x_iinc (q := 71) dX2_advance_68 rfl rfl rfl (by decide) ?_
          refine x_goto (q := 7) dX2_advance_71 (by decide) ?_
          rw [nI_dec]
          first | (rw [advH_n (fun z => Int32.not_le.mpr z.1 c_19) (Int32.not_lt.mpr c_52)]; exact ih h hS (by omega)) | (rw [advH_n (fun z => Int32.not_le.mpr z.2 c_34) (Int32.not_lt.mpr c_52)]; exact ih h hS (by omega))
        · refine x_aload_n (q := 56) dX2_advance_55 rfl rfl rfl ?_
          refine x_iload_n (q := 57) dX2_advance_56 rfl rfl rfl ?_
          refine x_aload_n (q := 58) dX2_advance_57 rfl rfl rfl ?_
          refine x_get (q := 61) dX2_advance_58 rfl f_X2_32 (cl_17 hS) rfl (by decide) ?_
          refine x_iload_n (q := 62) dX2_advance_61 rfl rfl rfl ?_
          refine z_iald (q := 63) (j := i) dX2_advance_62 rfl (cl_21 hS) (by omega) (by decide) (by decide) ?_
          refine x_ineg (q := 64) dX2_advance_63 rfl ?_
          refine x_aload_n (q := 65) dX2_advance_64 rfl rfl rfl ?_
          refine y_cvV (q := 68) dX2_advance_65 rfl l_X2_103 (c_X2_change hS i _ (by omega)) rfl rfl (cl_17 hS) (by decide) rfl rfl rfl rfl ?_
          refine Vg.nm (fun h2 eh2 => ?_)
          have hS2 : Sh h2 := by rw [eh2]; exact hS.ch _ _
          refine x_iinc (q := 71) dX2_advance_68 rfl rfl rfl (by decide) ?_
          refine x_goto (q := 7) dX2_advance_71 (by decide) ?_
          rw [nI_dec]
          first | (rw [advH_p (fun z => Int32.not_le.mpr z.1 c_19) (Int32.not_le.mp c_52), ← eh2]; exact ih h2 hS2 (by omega)) | (rw [advH_p (fun z => Int32.not_le.mpr z.2 c_34) (Int32.not_le.mp c_52), ← eh2]; exact ih h2 hS2 (by omega))
      · refine x_aload_n (q := 38) dX2_advance_37 rfl rfl rfl ?_
        refine x_iload_n (q := 39) dX2_advance_38 rfl rfl rfl ?_
        refine x_iconst (q := 40) (v := 1) dX2_advance_39 rfl (by decide) ?_
        refine x_aload_n (q := 41) dX2_advance_40 rfl rfl rfl ?_
        refine y_cvV (q := 44) dX2_advance_41 rfl l_X2_103 (c_X2_change hS i _ (by omega)) rfl rfl (cl_17 hS) (by decide) rfl rfl rfl rfl ?_
        refine Vg.nm (fun h3 eh3 => ?_)
        have hS3 : Sh h3 := by rw [eh3]; exact hS.ch _ _
        refine x_iconst (q := 45) (v := 1) dX2_advance_44 rfl (by decide) ?_
        exact x_iret dX2_advance_45 ⟨_, rfl, by first | rfl | (split <;> rfl)⟩ rfl (Nat.le_refl _) rfl ⟨by rw [advH_t ⟨Int32.not_le.mp c_19, Int32.not_le.mp c_34⟩]; rfl, by rw [advH_t ⟨Int32.not_le.mp c_19, Int32.not_le.mp c_34⟩]; exact eh3⟩

set_option maxHeartbeats 4000000 in
set_option maxRecDepth 100000 in
theorem c_X2_advance {h : HF} (hS : Sh h) (z : Nat) (hz : fI h 2 2 = nI z) (hz8 : z ≤ 8) : Mc mX2_advance [.ref 17, .ref 2] 170 h (RI (if (advH z h).1 = true then 1 else 0) (advH z h).2) := by
  refine Mc.of (by decide) rfl (Nat.le_of_ble_eq_true rfl) ?_
  refine x_aload_n (q := 1) dX2_advance_0 rfl rfl rfl ?_
  refine x_get (q := 4) dX2_advance_1 rfl f_X2_100 (cl_2 hS) rfl (by decide) ?_
  rw [hz]
  refine x_iconst (q := 5) (v := 1) dX2_advance_4 rfl (by decide) ?_
  refine x_isub (q := 6) dX2_advance_5 rfl ?_
  refine x_istore_n (q := 7) dX2_advance_6 rfl rfl (by decide) ?_
  exact lp_adv z h hS hz8

