def capF (g U : Nat → Int32) (n : Nat) : Nat → Int32 := fun j => if j < n then U j else g j
theorem capF_0 (g U : Nat → Int32) : capF g U 0 = g := by funext j; simp [capF]
theorem capF_s (g U : Nat → Int32) (i : Nat) : upd (capF g U i) i (U i) = capF g U (i + 1) := by
  funext j
  simp only [upd, capF]
  by_cases h1 : j = i
  · subst h1; simp
  · by_cases h2 : j < i
    · rw [if_neg h1, if_pos h2, if_pos (by omega)]
    · rw [if_neg h1, if_neg h2, if_neg (by omega)]
def stA (h : HF) (a : Nat) (m : Int32) : HF := sI (sI h 17 8 (minI m (20000 - fI h a 1))) 17 7 0
def stB (h : HF) (zl i : Nat) : HF := si (si h 21 (filF (gi h 21) 0 i)) 20 (capF (gi h 20) (fun j => sU (gi h 6) (gi h 8) (gi h 7) (fI h 5 4) (nI j) zl) i)
def dS (h : HF) (a d zb : Nat) : HF := sl (sl h 22 (vp_updL (gl h 22) d (wsum (gi h (a + 1)) (gi h 3) d zb))) 23 (vp_updL (gl h 23) d (wsum (gi h (a + 1)) (gi h 4) d zb))
def stC (h : HF) (a zb : Nat) : HF := dS (dS (dS h a 0 zb) a 1 zb) a 2 zb
def stF (h : HF) (a : Nat) (m : Int32) (zl zb : Nat) : HF := stC (stB (stA h a m) zl 8) a zb
theorem Sh.stA {h : HF} (hS : Sh h) (a : Nat) (m : Int32) : Sh (stA h a m) := (hS.sI _ _ _).sI _ _ _
theorem Sh.stB {h : HF} (hS : Sh h) (zl i : Nat) : Sh (stB h zl i) := (hS.si _ _).si _ _
theorem Sh.stC {h : HF} (hS : Sh h) (a zb : Nat) : Sh (stC h a zb) := (((((hS.sl _ _).sl _ _).sl _ _).sl _ _).sl _ _).sl _ _
theorem Sh.stF {h : HF} (hS : Sh h) (a : Nat) (m : Int32) (zl zb : Nat) : Sh (stF h a m zl zb) := ((hS.stA _ _).stB _ _).stC _ _
set_option maxHeartbeats 4000000 in
set_option maxRecDepth 100000 in
theorem lp_start2 {h : HF} (hS : Sh h) {a : Nat} (hm : isM a) (m : Int32) (zb : Nat) (hzb : fI h 2 2 = nI zb) (hz8 : zb ≤ 8) : Vg mX2_start none (QM mX2_start 170 (RV (stC h a zb))) 59 [some (.ref 17), some (.ref a), some (.int m), some (.ref 2), some (.ref 5), none] [] 170 h 0 0 := by
  refine x_iconst (q := 60) (v := 0) dX2_start_59 rfl (by decide) ?_
  refine x_istore (q := 62) dX2_start_60 rfl (by decide) ?_
  refine x_iload (q := 64) dX2_start_62 rfl rfl ?_
  refine x_iconst (q := 65) (v := 3) dX2_start_64 rfl (by decide) ?_
  refine x_ic_ge (q := 68) (t := 102) dX2_start_65 rfl (by decide) (fun c_ => absurd c_ (by decide)) (fun _ => ?_)
  refine x_aload_n (q := 69) dX2_start_68 rfl rfl rfl ?_
  refine x_get (q := 72) dX2_start_69 rfl f_X2_41 (cl_17 hS) rfl (by decide) ?_
  refine x_iload (q := 74) dX2_start_72 rfl rfl ?_
  refine x_aload_n (q := 75) dX2_start_74 rfl rfl rfl ?_
  refine x_aload_n (q := 76) dX2_start_75 rfl rfl rfl ?_
  refine x_iload (q := 78) dX2_start_76 rfl rfl ?_
  refine y_cvJ (q := 81) dX2_start_78 rfl l_X2_65 (c_X5_absorbed hS hm 0 (by decide) zb hzb hz8) rfl rfl (cl_2 hS) (by decide) rfl rfl rfl rfl ?_
  refine z_last (q := 82) (j := 0) dX2_start_81 rfl (cl_22 hS) (by decide) (by decide) (by decide) ?_
  refine Vg.nm (fun h1 eh1 => ?_)
  have hS1 : Sh h1 := by rw [eh1]; exact hS.sl _ _
  have hc1_2_2 : fI h1 2 2 = nI (zb) := by rw [eh1]; first | (simp only [fI_si, fI_sl, fI_sJ]; exact hzb) | (rw [fI_sI_ne (by omega)]; exact hzb) | (rw [fI_sI_k (by decide)]; exact hzb) | (simp (disch := omega) only [mixAdd, fI_si, fI_sl, fI_sJ, fI_sI_ne, fI_sI_k]; exact hzb)
  refine x_aload_n (q := 83) dX2_start_82 rfl rfl rfl ?_
  refine x_get (q := 86) dX2_start_83 rfl f_X2_45 (cl_17 hS1) rfl (by decide) ?_
  refine x_iload (q := 88) dX2_start_86 rfl rfl ?_
  refine x_aload_n (q := 89) dX2_start_88 rfl rfl rfl ?_
  refine x_aload_n (q := 90) dX2_start_89 rfl rfl rfl ?_
  refine x_iload (q := 92) dX2_start_90 rfl rfl ?_
  refine y_cvJ (q := 95) dX2_start_92 rfl l_X2_70 (c_X5_scattered hS1 hm 0 (by decide) zb hc1_2_2 hz8) rfl rfl (cl_2 hS1) (by decide) rfl rfl rfl rfl ?_
  refine z_last (q := 96) (j := 0) dX2_start_95 rfl (cl_23 hS1) (by decide) (by decide) (by decide) ?_
  refine Vg.nm (fun h2 eh2 => ?_)
  have hS2 : Sh h2 := by rw [eh2]; exact hS1.sl _ _
  have hc2_2_2 : fI h2 2 2 = nI (zb) := by rw [eh2]; first | (simp only [fI_si, fI_sl, fI_sJ]; exact hc1_2_2) | (rw [fI_sI_ne (by omega)]; exact hc1_2_2) | (rw [fI_sI_k (by decide)]; exact hc1_2_2) | (simp (disch := omega) only [mixAdd, fI_si, fI_sl, fI_sJ, fI_sI_ne, fI_sI_k]; exact hc1_2_2)
  refine x_iinc (q := 99) (v := 1) dX2_start_96 rfl rfl (by decide) (by decide) ?_
  refine x_goto (q := 62) dX2_start_99 (by decide) ?_
  refine x_iload (q := 64) dX2_start_62 rfl rfl ?_
  refine x_iconst (q := 65) (v := 3) dX2_start_64 rfl (by decide) ?_
  refine x_ic_ge (q := 68) (t := 102) dX2_start_65 rfl (by decide) (fun c_ => absurd c_ (by decide)) (fun _ => ?_)
  refine x_aload_n (q := 69) dX2_start_68 rfl rfl rfl ?_
  refine x_get (q := 72) dX2_start_69 rfl f_X2_41 (cl_17 hS2) rfl (by decide) ?_
  refine x_iload (q := 74) dX2_start_72 rfl rfl ?_
  refine x_aload_n (q := 75) dX2_start_74 rfl rfl rfl ?_
  refine x_aload_n (q := 76) dX2_start_75 rfl rfl rfl ?_
  refine x_iload (q := 78) dX2_start_76 rfl rfl ?_
  refine y_cvJ (q := 81) dX2_start_78 rfl l_X2_65 (c_X5_absorbed hS2 hm 1 (by decide) zb hc2_2_2 hz8) rfl rfl (cl_2 hS2) (by decide) rfl rfl rfl rfl ?_
  refine z_last (q := 82) (j := 1) dX2_start_81 rfl (cl_22 hS2) (by decide) (by decide) (by decide) ?_
  refine Vg.nm (fun h3 eh3 => ?_)
  have hS3 : Sh h3 := by rw [eh3]; exact hS2.sl _ _
  have hc3_2_2 : fI h3 2 2 = nI (zb) := by rw [eh3]; first | (simp only [fI_si, fI_sl, fI_sJ]; exact hc2_2_2) | (rw [fI_sI_ne (by omega)]; exact hc2_2_2) | (rw [fI_sI_k (by decide)]; exact hc2_2_2) | (simp (disch := omega) only [mixAdd, fI_si, fI_sl, fI_sJ, fI_sI_ne, fI_sI_k]; exact hc2_2_2)
  refine x_aload_n (q := 83) dX2_start_82 rfl rfl rfl ?_
  refine x_get (q := 86) dX2_start_83 rfl f_X2_45 (cl_17 hS3) rfl (by decide) ?_
  refine x_iload (q := 88) dX2_start_86 rfl rfl ?_
  refine x_aload_n (q := 89) dX2_start_88 rfl rfl rfl ?_
  refine x_aload_n (q := 90) dX2_start_89 rfl rfl rfl ?_
  refine x_iload (q := 92) dX2_start_90 rfl rfl ?_
  refine y_cvJ (q := 95) dX2_start_92 rfl l_X2_70 (c_X5_scattered hS3 hm 1 (by decide) zb hc3_2_2 hz8) rfl rfl (cl_2 hS3) (by decide) rfl rfl rfl rfl ?_
  refine z_last (q := 96) (j := 1) dX2_start_95 rfl (cl_23 hS3) (by decide) (by decide) (by decide) ?_
  refine Vg.nm (fun h4 eh4 => ?_)
  have hS4 : Sh h4 := by rw [eh4]; exact hS3.sl _ _
  have hc4_2_2 : fI h4 2 2 = nI (zb) := by rw [eh4]; first | (simp only [fI_si, fI_sl, fI_sJ]; exact hc3_2_2) | (rw [fI_sI_ne (by omega)]; exact hc3_2_2) | (rw [fI_sI_k (by decide)]; exact hc3_2_2) | (simp (disch := omega) only [mixAdd, fI_si, fI_sl, fI_sJ, fI_sI_ne, fI_sI_k]; exact hc3_2_2)
  refine x_iinc (q := 99) (v := 2) dX2_start_96 rfl rfl (by decide) (by decide) ?_
  refine x_goto (q := 62) dX2_start_99 (by decide) ?_
  refine x_iload (q := 64) dX2_start_62 rfl rfl ?_
  refine x_iconst (q := 65) (v := 3) dX2_start_64 rfl (by decide) ?_
  refine x_ic_ge (q := 68) (t := 102) dX2_start_65 rfl (by decide) (fun c_ => absurd c_ (by decide)) (fun _ => ?_)
  refine x_aload_n (q := 69) dX2_start_68 rfl rfl rfl ?_
  refine x_get (q := 72) dX2_start_69 rfl f_X2_41 (cl_17 hS4) rfl (by decide) ?_
  refine x_iload (q := 74) dX2_start_72 rfl rfl ?_
  refine x_aload_n (q := 75) dX2_start_74 rfl rfl rfl ?_
  refine x_aload_n (q := 76) dX2_start_75 rfl rfl rfl ?_
  refine x_iload (q := 78) dX2_start_76 rfl rfl ?_
  refine y_cvJ (q := 81) dX2_start_78 rfl l_X2_65 (c_X5_absorbed hS4 hm 2 (by decide) zb hc4_2_2 hz8) rfl rfl (cl_2 hS4) (by decide) rfl rfl rfl rfl ?_
  refine z_last (q := 82) (j := 2) dX2_start_81 rfl (cl_22 hS4) (by decide) (by decide) (by decide) ?_
  refine Vg.nm (fun h5 eh5 => ?_)
  have hS5 : Sh h5 := by rw [eh5]; exact hS4.sl _ _
  have hc5_2_2 : fI h5 2 2 = nI (zb) := by rw [eh5]; first | (simp only [fI_si, fI_sl, fI_sJ]; exact hc4_2_2) | (rw [fI_sI_ne (by omega)]; exact hc4_2_2) | (rw [fI_sI_k (by decide)]; exact hc4_2_2) | (simp (disch := omega) only [mixAdd, fI_si, fI_sl, fI_sJ, fI_sI_ne, fI_sI_k]; exact hc4_2_2)
  refine x_aload_n (q := 83) dX2_start_82 rfl rfl rfl ?_
  refine x_get (q := 86) dX2_start_83 rfl f_X2_45 (cl_17 hS5) rfl (by decide) ?_
  refine x_iload (q := 88) dX2_start_86 rfl rfl ?_
  refine x_aload_n (q := 89) dX2_start_88 rfl rfl rfl ?_
  refine x_aload_n (q := 90) dX2_start_89 rfl rfl rfl ?_
  refine x_iload (q := 92) dX2_start_90 rfl rfl ?_
  refine y_cvJ (q := 95) dX2_start_92 rfl l_X2_70 (c_X5_scattered hS5 hm 2 (by decide) zb hc5_2_2 hz8) rfl rfl (cl_2 hS5) (by decide) rfl rfl rfl rfl ?_
  refine z_last (q := 96) (j := 2) dX2_start_95 rfl (cl_23 hS5) (by decide) (by decide) (by decide) ?_
  refine Vg.nm (fun h6 eh6 => ?_)
  have hS6 : Sh h6 := by rw [eh6]; exact hS5.sl _ _
  have hc6_2_2 : fI h6 2 2 = nI (zb) := by rw [eh6]; first | (simp only [fI_si, fI_sl, fI_sJ]; exact hc5_2_2) | (rw [fI_sI_ne (by omega)]; exact hc5_2_2) | (rw [fI_sI_k (by decide)]; exact hc5_2_2) | (simp (disch := omega) only [mixAdd, fI_si, fI_sl, fI_sJ, fI_sI_ne, fI_sI_k]; exact hc5_2_2)
  refine x_iinc (q := 99) (v := 3) dX2_start_96 rfl rfl (by decide) (by decide) ?_
  refine x_goto (q := 62) dX2_start_99 (by decide) ?_
  refine x_iload (q := 64) dX2_start_62 rfl rfl ?_
  refine x_iconst (q := 65) (v := 3) dX2_start_64 rfl (by decide) ?_
  refine x_ic_ge (q := 68) (t := 102) dX2_start_65 rfl (by decide) (fun _ => ?_) (fun c_ => absurd (by decide) c_)
  exact x_vret dX2_start_102 rfl rfl (Nat.le_refl _) rfl ⟨rfl, by subst_vars; simp (disch := decide) only [stC, dS, gi_sl, gl_sl_ne]⟩
set_option maxHeartbeats 4000000 in
set_option maxRecDepth 100000 in
theorem lp_start1 {h : HF} (hS : Sh h) {a : Nat} (hm : isM a) (m : Int32) (zb : Nat) (hzb : fI h 2 2 = nI zb) (hz8 : zb ≤ 8) (zl : Nat) (hzl : fI h 5 3 = nI zl) (hz40 : zl ≤ 40) : ∀ (k i : Nat), i + k = 8 → Vg mX2_start none (QM mX2_start 170 (RV (stC (stB h zl 8) a zb))) 24 [some (.ref 17), some (.ref a), some (.int m), some (.ref 2), some (.ref 5), some (.int (nI i))] [] 170 (stB h zl i) 0 0 := by
  intro k
  induction k with
  | zero =>
    intro i hi
    obtain rfl : i = 8 := by omega
    refine x_iload (q := 26) dX2_start_24 rfl rfl ?_
    refine x_bipush (q := 28) (v := 8) dX2_start_26 rfl (by decide) ?_
    refine x_ic_ge (q := 31) (t := 59) dX2_start_28 rfl (by decide) (fun _ => ?_) (fun c_ => absurd (by decide) c_)
    exact Vg.weak (lp_start2 (hS.stB zl 8) hm m zb (by simp only [stB, fI_si]; exact hzb) hz8) (by repeat first | exact trivial | refine ⟨rfl, ?_⟩)
  | succ k ih =>
    intro i hi
    refine x_iload (q := 26) dX2_start_24 rfl rfl ?_
    refine x_bipush (q := 28) (v := 8) dX2_start_26 rfl (by decide) ?_
    refine x_ic_ge (q := 31) (t := 59) dX2_start_28 rfl (by decide) (fun c_ => absurd c_ (nI_ge (b := 8) (by omega) (by decide))) (fun _ => ?_)
    refine x_aload_n (q := 32) dX2_start_31 rfl rfl rfl ?_
    refine x_get (q := 35) dX2_start_32 rfl f_X2_32 (cl_17 (hS.stB zl i)) rfl (by decide) ?_
    refine x_iload (q := 37) dX2_start_35 rfl rfl ?_
    refine x_iconst (q := 38) (v := 0) dX2_start_37 rfl (by decide) ?_
    refine z_iast (q := 39) (j := i) dX2_start_38 rfl (cl_21 (hS.stB zl i)) (by omega) (by decide) (by decide) ?_
    refine Vg.nm (fun h1 eh1 => ?_)
    have hS1 : Sh h1 := by rw [eh1]; exact (hS.stB zl i).si _ _
    have ea : h1 = si (si h 21 (filF (gi h 21) 0 (i + 1))) 20 (capF (gi h 20) (fun j => sU (gi h 6) (gi h 8) (gi h 7) (fI h 5 4) (nI j) zl) i) := by rw [eh1, stB, gi_si_ne (show (21 : Nat) ≠ 20 by decide), gi_si_eq hS (by decide) (by decide) rfl, si_si_comm (show (20 : Nat) ≠ 21 by decide), si_si, filF_s]
    have hzl1 : fI h1 5 3 = nI zl := by rw [ea]; simp only [fI_si]; exact hzl
    refine x_aload_n (q := 40) dX2_start_39 rfl rfl rfl ?_
    refine x_get (q := 43) dX2_start_40 rfl f_X2_29 (cl_17 hS1) rfl (by decide) ?_
    refine x_iload (q := 45) dX2_start_43 rfl rfl ?_
    refine x_aload (q := 47) dX2_start_45 rfl rfl ?_
    refine x_iload (q := 49) dX2_start_47 rfl rfl ?_
    refine y_cvI (q := 52) dX2_start_49 rfl l_X2_59 (c_X7_usableOf hS1 (nI i) zl hzl1 hz40) rfl rfl (cl_5 hS1) (by decide) rfl rfl rfl rfl ?_
    refine z_iast (q := 53) (j := i) dX2_start_52 rfl (cl_20 hS1) (by omega) (by decide) (by decide) ?_
    refine Vg.nm (fun h2 eh2 => ?_)
    have hS2 : Sh h2 := by rw [eh2]; exact hS1.si _ _
    refine x_iinc (q := 56) (v := nI (i + 1)) dX2_start_53 rfl rfl (nI_inc _) (by decide) ?_
    refine x_goto (q := 24) dX2_start_56 (by decide) ?_
    have e9 : h2 = stB h zl (i + 1) := by rw [eh2, ea, si_si, gi_si_eq (hS.si 21 _) (by decide) (by decide) rfl, gi_si_ne (show (6 : Nat) ≠ 20 by decide), gi_si_ne (show (8 : Nat) ≠ 20 by decide), gi_si_ne (show (7 : Nat) ≠ 20 by decide), gi_si_ne (show (6 : Nat) ≠ 21 by decide), gi_si_ne (show (8 : Nat) ≠ 21 by decide), gi_si_ne (show (7 : Nat) ≠ 21 by decide), fI_si, fI_si, stB]; exact congrArg _ (capF_s (gi h 20) (fun j => sU (gi h 6) (gi h 8) (gi h 7) (fI h 5 4) (nI j) zl) i)
    rw [e9]; exact ih (i + 1) (by omega)

set_option maxHeartbeats 4000000 in
set_option maxRecDepth 100000 in
theorem c_X2_start {h : HF} (hS : Sh h) {a : Nat} (hm : isM a) (m : Int32) (zb : Nat) (hzb : fI h 2 2 = nI zb) (hz8 : zb ≤ 8) (zl : Nat) (hzl : fI h 5 3 = nI zl) (hz40 : zl ≤ 40) : Mc mX2_start [.ref 17, .ref a, .int m, .ref 2, .ref 5] 170 h (RV (stF h a m zl zb)) := by
  have hmr := mxr hm
  refine Mc.of (by decide) rfl (Nat.le_of_ble_eq_true rfl) ?_
  refine x_aload_n (q := 1) dX2_start_0 rfl rfl rfl ?_
  refine x_iload_n (q := 2) dX2_start_1 rfl rfl rfl ?_
  refine x_sipush (q := 5) (v := 20000) dX2_start_2 rfl (by decide) ?_
  refine x_aload_n (q := 6) dX2_start_5 rfl rfl rfl ?_
  refine x_get (q := 9) dX2_start_6 rfl f_X2_48 ((mxo hm hS).1) rfl (mxb hm) ?_
  refine x_isub (q := 10) dX2_start_9 rfl ?_
  refine y_csI (q := 13) dX2_start_10 rfl l_X2_53 (c_J9_min_7cf53 hS _ _) rfl rfl rfl rfl rfl rfl ?_
  refine y_put (q := 16) dX2_start_13 rfl f_X2_38 (cl_17 hS) rfl (by first | rfl | decide) (by first | rfl | decide) (by decide) ?_
  refine Vg.nm (fun h1 eh1 => ?_)
  have hS1 : Sh h1 := by rw [eh1]; exact hS.sI _ _ _
  have hc1_2_2 : fI h1 2 2 = nI (zb) := by rw [eh1]; first | (simp only [fI_si, fI_sl, fI_sJ]; exact hzb) | (rw [fI_sI_ne (by omega)]; exact hzb) | (rw [fI_sI_k (by decide)]; exact hzb) | (simp (disch := omega) only [mixAdd, fI_si, fI_sl, fI_sJ, fI_sI_ne, fI_sI_k]; exact hzb)
  have hc1_5_3 : fI h1 5 3 = nI (zl) := by rw [eh1]; first | (simp only [fI_si, fI_sl, fI_sJ]; exact hzl) | (rw [fI_sI_ne (by omega)]; exact hzl) | (rw [fI_sI_k (by decide)]; exact hzl) | (simp (disch := omega) only [mixAdd, fI_si, fI_sl, fI_sJ, fI_sI_ne, fI_sI_k]; exact hzl)
  refine x_aload_n (q := 17) dX2_start_16 rfl rfl rfl ?_
  refine x_iconst (q := 18) (v := 0) dX2_start_17 rfl (by decide) ?_
  refine y_put (q := 21) dX2_start_18 rfl f_X2_35 (cl_17 hS1) rfl (by first | rfl | decide) (by first | rfl | decide) (by decide) ?_
  refine Vg.nm (fun h2 eh2 => ?_)
  have hS2 : Sh h2 := by rw [eh2]; exact hS1.sI _ _ _
  have hc2_2_2 : fI h2 2 2 = nI (zb) := by rw [eh2]; first | (simp only [fI_si, fI_sl, fI_sJ]; exact hc1_2_2) | (rw [fI_sI_ne (by omega)]; exact hc1_2_2) | (rw [fI_sI_k (by decide)]; exact hc1_2_2) | (simp (disch := omega) only [mixAdd, fI_si, fI_sl, fI_sJ, fI_sI_ne, fI_sI_k]; exact hc1_2_2)
  have hc2_5_3 : fI h2 5 3 = nI (zl) := by rw [eh2]; first | (simp only [fI_si, fI_sl, fI_sJ]; exact hc1_5_3) | (rw [fI_sI_ne (by omega)]; exact hc1_5_3) | (rw [fI_sI_k (by decide)]; exact hc1_5_3) | (simp (disch := omega) only [mixAdd, fI_si, fI_sl, fI_sJ, fI_sI_ne, fI_sI_k]; exact hc1_5_3)
  have hc2_17_7 : fI h2 17 7 = nI (0) := by rw [eh2]; exact fI_sI_eq hS1 (by decide) (by decide) rfl _
  refine x_iconst (q := 22) (v := 0) dX2_start_21 rfl (by decide) ?_
  refine x_istore (q := 24) dX2_start_22 rfl (by decide) ?_
  have e9 : h2 = stA h a m := by subst_vars; rfl
  have t9 := lp_start1 hS2 hm m zb hc2_2_2 hz8 zl hc2_5_3 hz40 8 0 (by omega)
  rw [show stB h2 zl 0 = h2 by rw [stB, filF_0, capF_0, si_gi, si_gi]] at t9
  rw [stF, ← e9]; exact t9

def runH (z : Nat) : Nat → HF → HF
  | 0, h => h
  | k + 1, h => if (advH z (jdH h)).1 = true then runH z k (advH z (jdH h)).2 else (advH z (jdH h)).2
theorem fI_chF (h : HF) (b : Nat) (n : Int32) {c j : Nat} (hc : c ≠ 17) : fI (chF h b n) c j = fI h c j := by
  simp only [chF, chS, ch0, fI_sl, fI_sI_ne hc, fI_si]
theorem fI_advH {c j : Nat} (hc : c ≠ 17) : ∀ (i : Nat) (h : HF), fI (advH i h).2 c j = fI h c j
  | 0, _ => rfl
  | i + 1, h => by
    unfold advH
    split
    · exact fI_chF _ _ _ hc
    · split
      · rw [fI_advH hc i, fI_chF _ _ _ hc]
      · exact fI_advH hc i h
theorem fI_jdH (h : HF) {c j : Nat} (hc : c ≠ 17) : fI (jdH h) c j = fI h c j := by
  unfold jdH
  split
  · simp only [jdY, fI_si, fI_sI_ne hc]
  · rfl
theorem Sh_runH (z : Nat) : ∀ (k : Nat) {h : HF}, Sh h → Sh (runH z k h)
  | 0, _, hS => hS
  | k + 1, h, hS => by
    unfold runH
    split
    · exact Sh_runH z k (Sh_advH z (Sh_jdH hS))
    · exact Sh_advH z (Sh_jdH hS)
set_option maxHeartbeats 4000000 in
set_option maxRecDepth 100000 in
theorem lp_run (z : Nat) (hz8 : z ≤ 8) : ∀ (k i : Nat) (h : HF), Sh h → fI h 2 2 = nI z → i + k = 12870 → Vg mX2_run none (QM mX2_run 170 (RI (fI (runH z k h) 17 2) (runH z k h))) 13 [some (.ref 17), some (.ref 2), some (.int (nI i))] [] 170 h 0 0 := by
  intro k
  induction k with
  | zero =>
    intro i h hS hz hi
    obtain rfl : i = 12870 := by omega
    refine x_iload_n (q := 14) dX2_run_13 rfl rfl rfl ?_
    refine x_sipush (q := 17) (v := 12870) dX2_run_14 rfl (by decide) ?_
    refine x_ic_ge (q := 20) (t := 41) dX2_run_17 rfl (by decide) (fun _ => ?_) (fun c_ => absurd (by decide) c_)
    refine x_aload_n (q := 42) dX2_run_41 rfl rfl rfl ?_
    refine x_get (q := 45) dX2_run_42 rfl f_X2_19 (cl_17 hS) rfl (by decide) ?_
    exact x_iret dX2_run_45 ⟨_, rfl, by first | rfl | (split <;> rfl)⟩ rfl (Nat.le_refl _) rfl ⟨rfl, rfl⟩
  | succ k ih =>
    intro i h hS hz hi
    refine x_iload_n (q := 14) dX2_run_13 rfl rfl rfl ?_
    refine x_sipush (q := 17) (v := 12870) dX2_run_14 rfl (by decide) ?_
    refine x_ic_ge (q := 20) (t := 41) dX2_run_17 rfl (by decide) (fun c_ => absurd c_ (nI_ge (b := 12870) (by omega) (by decide))) (fun _ => ?_)
    refine x_aload_n (q := 21) dX2_run_20 rfl rfl rfl ?_
    refine y_cvV (q := 24) dX2_run_21 rfl l_X2_73 (c_X2_judge hS) rfl rfl (cl_17 hS) (by decide) rfl rfl rfl rfl ?_
    refine Vg.nm (fun h1 eh1 => ?_)
    have hS1 : Sh h1 := by rw [eh1]; exact Sh_jdH hS
    have hc1_2_2 : fI h1 2 2 = nI (z) := by rw [eh1]; first | (rw [fI_jdH _ (by decide)]; exact hz) | (rw [fI_sI_ne (by omega)]; exact hz) | (rw [fI_sI_k (by decide)]; exact hz) | (simp (disch := omega) only [mixAdd, fI_si, fI_sl, fI_sJ, fI_sI_ne, fI_sI_k]; exact hz)
    refine x_aload_n (q := 25) dX2_run_24 rfl rfl rfl ?_
    refine x_aload_n (q := 26) dX2_run_25 rfl rfl rfl ?_
    refine y_cvI (q := 29) dX2_run_26 rfl l_X2_76 (c_X2_advance hS1 z hc1_2_2 hz8) rfl rfl (cl_17 hS1) (by decide) rfl rfl rfl rfl ?_
    refine Vg.nm (fun h2 eh2 => ?_)
    have hS2 : Sh h2 := by rw [eh2]; exact Sh_advH z hS1
    have hc2_2_2 : fI h2 2 2 = nI (z) := by rw [eh2]; first | (rw [fI_advH (by decide)]; exact hc1_2_2) | (rw [fI_sI_ne (by omega)]; exact hc1_2_2) | (rw [fI_sI_k (by decide)]; exact hc1_2_2) | (simp (disch := omega) only [mixAdd, fI_si, fI_sl, fI_sJ, fI_sI_ne, fI_sI_k]; exact hc1_2_2)
    refine x_if_ne (q := 32) (t := 35) dX2_run_29 rfl (by decide) (fun c_29 => ?_) (fun c_29 => ?_)
    · refine x_iinc (q := 38) (v := nI (i + 1)) dX2_run_35 rfl rfl (nI_inc _) (by decide) ?_
      refine x_goto (q := 13) dX2_run_38 (by decide) ?_
      have e9 : runH z (k + 1) h = runH z k h2 := by rw [runH, ← eh1, if_pos (ify c_29), ← eh2]
      rw [e9]; exact ih (i + 1) h2 hS2 hc2_2_2 (by omega)
    · refine x_goto (q := 41) dX2_run_32 (by decide) ?_
      refine x_aload_n (q := 42) dX2_run_41 rfl rfl rfl ?_
      refine x_get (q := 45) dX2_run_42 rfl f_X2_19 (cl_17 hS2) rfl (by decide) ?_
      exact x_iret dX2_run_45 ⟨_, rfl, by first | rfl | (split <;> rfl)⟩ rfl (Nat.le_refl _) rfl ⟨by rw [show runH z (k + 1) h = h2 by rw [runH, ← eh1, if_neg (ifn c_29), ← eh2]], by rw [show runH z (k + 1) h = h2 by rw [runH, ← eh1, if_neg (ifn c_29), ← eh2]]⟩

set_option maxHeartbeats 4000000 in
set_option maxRecDepth 100000 in
theorem c_X2_run {h : HF} (hS : Sh h) (z : Nat) (hz : fI h 2 2 = nI z) (hz8 : z ≤ 8) : Mc mX2_run [.ref 17, .ref 2] 170 h (RI (fI (runH z 12870 (sI (sI h 17 1 1) 17 2 1000001)) 17 2) (runH z 12870 (sI (sI h 17 1 1) 17 2 1000001))) := by
  refine Mc.of (by decide) rfl (Nat.le_of_ble_eq_true rfl) ?_
  refine x_aload_n (q := 1) dX2_run_0 rfl rfl rfl ?_
  refine x_iconst (q := 2) (v := 1) dX2_run_1 rfl (by decide) ?_
  refine y_put (q := 5) dX2_run_2 rfl f_X2_15 (cl_17 hS) rfl (by first | rfl | decide) (by first | rfl | decide) (by decide) ?_
  refine Vg.nm (fun h1 eh1 => ?_)
  have hS1 : Sh h1 := by rw [eh1]; exact hS.sI _ _ _
  have hc1_2_2 : fI h1 2 2 = nI (z) := by rw [eh1]; first | (simp only [fI_si, fI_sl, fI_sJ]; exact hz) | (rw [fI_sI_ne (by omega)]; exact hz) | (rw [fI_sI_k (by decide)]; exact hz) | (simp (disch := omega) only [mixAdd, fI_si, fI_sl, fI_sJ, fI_sI_ne, fI_sI_k]; exact hz)
  have hc1_17_1 : fI h1 17 1 = nI (1) := by rw [eh1]; exact fI_sI_eq hS (by decide) (by decide) rfl _
  refine x_aload_n (q := 6) dX2_run_5 rfl rfl rfl ?_
  refine x_ldc (q := 8) dX2_run_6 rfl v_X2_72 ?_
  refine y_put (q := 11) dX2_run_8 rfl f_X2_19 (cl_17 hS1) rfl (by first | rfl | decide) (by first | rfl | decide) (by decide) ?_
  refine Vg.nm (fun h2 eh2 => ?_)
  have hS2 : Sh h2 := by rw [eh2]; exact hS1.sI _ _ _
  have hc2_2_2 : fI h2 2 2 = nI (z) := by rw [eh2]; first | (simp only [fI_si, fI_sl, fI_sJ]; exact hc1_2_2) | (rw [fI_sI_ne (by omega)]; exact hc1_2_2) | (rw [fI_sI_k (by decide)]; exact hc1_2_2) | (simp (disch := omega) only [mixAdd, fI_si, fI_sl, fI_sJ, fI_sI_ne, fI_sI_k]; exact hc1_2_2)
  have hc2_17_1 : fI h2 17 1 = nI (1) := by rw [eh2]; first | (simp only [fI_si, fI_sl, fI_sJ]; exact hc1_17_1) | (rw [fI_sI_ne (by omega)]; exact hc1_17_1) | (rw [fI_sI_k (by decide)]; exact hc1_17_1) | (simp (disch := omega) only [mixAdd, fI_si, fI_sl, fI_sJ, fI_sI_ne, fI_sI_k]; exact hc1_17_1)
  refine x_iconst (q := 12) (v := 0) dX2_run_11 rfl (by decide) ?_
  refine x_istore_n (q := 13) dX2_run_12 rfl rfl (by decide) ?_
  have t9 := lp_run z hz8 12870 0 h2 hS2 hc2_2_2 (by omega)
  rw [eh2, eh1] at t9 ⊢
  exact t9

