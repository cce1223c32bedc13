def raR (E S T C : Nat → Int32) : Nat → Nat → (Nat → Int32) → Bool × (Nat → Int32)
  | 0, _, f => (true, f)
  | k + 1, i, f => if 20000 < rsum (rrP E S T i f (C i).toNatClampNeg) i 8 then (false, rrP E S T i f (C i).toNatClampNeg) else raR E S T C k (i + 1) (rrP E S T i f (C i).toNatClampNeg)
theorem raR_f {E S T C : Nat → Int32} {k i c : Nat} {f : Nat → Int32} (hc : C i = nI c) (hc6 : c ≤ 6) (e : 20000 < rsum (rrP E S T i f c) i 8) : raR E S T C (k + 1) i f = (false, rrP E S T i f c) := by
  simp only [raR, hc, nI_clamp (show c < 2 ^ 31 by omega), if_pos e]
theorem raR_t {E S T C : Nat → Int32} {k i c : Nat} {f : Nat → Int32} (hc : C i = nI c) (hc6 : c ≤ 6) (e : ¬ 20000 < rsum (rrP E S T i f c) i 8) : raR E S T C (k + 1) i f = raR E S T C k (i + 1) (rrP E S T i f c) := by
  simp only [raR, hc, nI_clamp (show c < 2 ^ 31 by omega), if_neg e]
def okA (E S C : Nat → Int32) (z : Nat) : Prop := ∀ r, r < z → ∃ c : Nat, c ≤ 6 ∧ C r = nI c ∧ ∀ i, i < c → okp E S r (r * 6 + i)
set_option maxHeartbeats 4000000 in
set_option maxRecDepth 100000 in
theorem lp_ra {h : HF} (hS : Sh h) (z : Nat) (hz : fI h 9 6 = nI z) (hz12 : z ≤ 12) (hok : okA (gi h 10) (gi h 11) (gi h 13) z) : ∀ (k i : Nat) (f : Nat → Int32), i + k = z → Vg mX1_resolveAll none (QM mX1_resolveAll 170 (RI (if (raR (gi h 10) (gi h 11) (gi h 12) (gi h 13) k i f).1 = true then 1 else 0) (si h 15 (raR (gi h 10) (gi h 11) (gi h 12) (gi h 13) k i f).2))) 10 [some (.ref 9), some (.int (nI i))] [] 170 (si h 15 f) 0 0 := by
  intro k
  induction k with
  | zero =>
    intro i f hi
    obtain rfl : i = z := by omega
    refine x_iload_n (q := 11) dX1_resolveAll_10 rfl rfl rfl ?_
    refine x_aload_n (q := 12) dX1_resolveAll_11 rfl rfl rfl ?_
    refine x_get (q := 15) dX1_resolveAll_12 rfl f_X1_31 (cl_9 (hS.si 15 f)) rfl (by decide) ?_
    rw [fI_si, hz]
    refine x_ic_ge (q := 18) (t := 37) dX1_resolveAll_15 rfl (by decide) (fun _ => ?_) (fun c_ => absurd (nI_le (Nat.le_refl _) (by omega)) c_)
    refine x_iconst (q := 38) (v := 1) dX1_resolveAll_37 rfl (by decide) ?_
    exact x_iret dX1_resolveAll_38 ⟨_, rfl, by first | rfl | (split <;> rfl)⟩ rfl (Nat.le_refl _) rfl ⟨rfl, rfl⟩
  | succ k ih =>
    intro i f hi
    obtain ⟨c, hc6, hc, hoc⟩ := hok i (by omega)
    have hc9 := c_X1_resolveInTrial (hS.si 15 f) i c (by omega) hc6 (by rw [gi_si_ne (show (13 : Nat) ≠ 15 by decide)]; exact hc) (by rw [gi_si_ne (show (10 : Nat) ≠ 15 by decide), gi_si_ne (show (11 : Nat) ≠ 15 by decide)]; exact hoc)
    rw [gi_si_ne (show (10 : Nat) ≠ 15 by decide), gi_si_ne (show (11 : Nat) ≠ 15 by decide), gi_si_ne (show (12 : Nat) ≠ 15 by decide), gi_si_eq hS (by decide) (by decide) rfl, si_si] at hc9
    refine x_iload_n (q := 11) dX1_resolveAll_10 rfl rfl rfl ?_
    refine x_aload_n (q := 12) dX1_resolveAll_11 rfl rfl rfl ?_
    refine x_get (q := 15) dX1_resolveAll_12 rfl f_X1_31 (cl_9 (hS.si 15 f)) rfl (by decide) ?_
    rw [fI_si, hz]
    refine x_ic_ge (q := 18) (t := 37) dX1_resolveAll_15 rfl (by decide) (fun c_ => absurd c_ (nI_ge (by omega) (by omega))) (fun _ => ?_)
    refine x_aload_n (q := 19) dX1_resolveAll_18 rfl rfl rfl ?_
    refine x_iload_n (q := 20) dX1_resolveAll_19 rfl rfl rfl ?_
    refine y_cvI (q := 23) dX1_resolveAll_20 rfl l_X1_51 hc9 rfl rfl (cl_9 (hS.si 15 f)) (by decide) rfl rfl rfl rfl ?_
    refine x_sipush (q := 26) (v := 20000) dX1_resolveAll_23 rfl (by decide) ?_
    refine x_ic_le (q := 29) (t := 31) dX1_resolveAll_26 rfl (by decide) (fun c_26 => ?_) (fun c_26 => ?_)
    · refine x_iinc (q := 34) (v := nI (i + 1)) dX1_resolveAll_31 rfl rfl (nI_inc _) (by decide) ?_
      refine x_goto (q := 10) dX1_resolveAll_34 (by decide) ?_
      rw [raR_t hc hc6 (Int32.not_lt.mpr c_26)]
      exact ih (i + 1) _ (by omega)
    · refine x_iconst (q := 30) (v := 0) dX1_resolveAll_29 rfl (by decide) ?_
      exact x_iret dX1_resolveAll_30 ⟨_, rfl, by first | rfl | (split <;> rfl)⟩ rfl (Nat.le_refl _) rfl ⟨by rw [raR_f hc hc6 (Int32.not_le.mp c_26)]; rfl, by rw [raR_f hc hc6 (Int32.not_le.mp c_26)]⟩

set_option maxHeartbeats 4000000 in
set_option maxRecDepth 100000 in
theorem c_X1_resolveAll {h : HF} (hS : Sh h) (z : Nat) (hz : fI h 9 6 = nI z) (hz12 : z ≤ 12) (hok : okA (gi h 10) (gi h 11) (gi h 13) z) : Mc mX1_resolveAll [.ref 9] 170 h (RI (if (raR (gi h 10) (gi h 11) (gi h 12) (gi h 13) z 0 (filF (gi h 15) 0 96)).1 = true then 1 else 0) (si h 15 (raR (gi h 10) (gi h 11) (gi h 12) (gi h 13) z 0 (filF (gi h 15) 0 96)).2)) := by
  refine Mc.of (by decide) rfl (Nat.le_of_ble_eq_true rfl) ?_
  refine x_aload_n (q := 1) dX1_resolveAll_0 rfl rfl rfl ?_
  refine x_get (q := 4) dX1_resolveAll_1 rfl f_X1_28 (cl_9 hS) rfl (by decide) ?_
  refine x_iconst (q := 5) (v := 0) dX1_resolveAll_4 rfl (by decide) ?_
  refine y_csV (q := 8) dX1_resolveAll_5 rfl l_X1_45 (c_J7_fill_53178 hS (a := 15) (N := 96) (by decide) rfl (by decide) 0) rfl rfl rfl rfl rfl rfl ?_
  refine Vg.nm (fun h1 eh1 => ?_)
  have hS1 : Sh h1 := by rw [eh1]; exact hS.si _ _
  refine x_iconst (q := 9) (v := 0) dX1_resolveAll_8 rfl (by decide) ?_
  refine x_istore_n (q := 10) dX1_resolveAll_9 rfl rfl (by decide) ?_
  rw [eh1]; exact lp_ra hS z hz hz12 hok z 0 _ (by omega)

def apH (h : HF) (r c : Nat) (e v n : Int32) : HF := si (si (si (si h 10 (upd (gi h 10) (r * 6 + c) e)) 11 (upd (gi h 11) (r * 6 + c) v)) 12 (upd (gi h 12) (r * 6 + c) n)) 13 (upd (gi h 13) r (nI (c + 1)))
theorem Sh.apH {h : HF} (hS : Sh h) (r c : Nat) (e v n : Int32) : Sh (apH h r c e v n) := (((hS.si _ _).si _ _).si _ _).si _ _
set_option maxHeartbeats 4000000 in
set_option maxRecDepth 100000 in
theorem c_X1_addPart_full {h : HF} (hS : Sh h) (r : Nat) (e v n : Int32) (hr : r < 12) (hpc : gi h 13 r = nI 6) : Mc mX1_addPart [.ref 9, .int (nI r), .int e, .int v, .int n] 170 h (RI (-6) h) := by
  refine Mc.of (by decide) rfl (Nat.le_of_ble_eq_true rfl) ?_
  refine x_aload_n (q := 1) dX1_addPart_0 rfl rfl rfl ?_
  refine x_get (q := 4) dX1_addPart_1 rfl f_X1_22 (cl_9 hS) rfl (by decide) ?_
  refine x_iload_n (q := 5) dX1_addPart_4 rfl rfl rfl ?_
  refine z_iald (q := 6) (j := r) dX1_addPart_5 rfl (cl_13 hS) (by omega) (by decide) (by decide) ?_
  rw [hpc]
  refine x_bipush (q := 8) (v := 6) dX1_addPart_6 rfl (by decide) ?_
  refine x_ic_lt (q := 11) (t := 14) dX1_addPart_8 rfl (by decide) (fun c_ => absurd c_ (by decide)) (fun _ => ?_)
  refine x_bipush (q := 13) (v := -6) dX1_addPart_11 rfl (by decide) ?_
  exact x_iret dX1_addPart_13 ⟨_, rfl, by first | rfl | (split <;> rfl)⟩ rfl (Nat.le_refl _) rfl ⟨rfl, rfl⟩

set_option maxHeartbeats 4000000 in
set_option maxRecDepth 100000 in
theorem c_X1_addPart {h : HF} (hS : Sh h) (r c : Nat) (e v n : Int32) (hr : r < 12) (hc : c < 6) (hpc : gi h 13 r = nI c) (he : vp_nar .boolean e = e) (z : Nat) (hz : fI h 9 6 = nI z) (hz12 : z ≤ 12) (hok : okA (upd (gi h 10) (r * 6 + c) e) (upd (gi h 11) (r * 6 + c) v) (upd (gi h 13) r (nI (c + 1))) z) (hra : (raR (upd (gi h 10) (r * 6 + c) e) (upd (gi h 11) (r * 6 + c) v) (upd (gi h 12) (r * 6 + c) n) (upd (gi h 13) r (nI (c + 1))) z 0 (filF (gi h 15) 0 96)).1 = true) : Mc mX1_addPart [.ref 9, .int (nI r), .int e, .int v, .int n] 170 h (RI (nI (c + 1)) (si (si (apH h r c e v n) 15 (raR (upd (gi h 10) (r * 6 + c) e) (upd (gi h 11) (r * 6 + c) v) (upd (gi h 12) (r * 6 + c) n) (upd (gi h 13) r (nI (c + 1))) z 0 (filF (gi h 15) 0 96)).2) 14 (va_cpy (raR (upd (gi h 10) (r * 6 + c) e) (upd (gi h 11) (r * 6 + c) v) (upd (gi h 12) (r * 6 + c) n) (upd (gi h 13) r (nI (c + 1))) z 0 (filF (gi h 15) 0 96)).2 (gi h 14) 0 0 96))) := by
  refine Mc.of (by decide) rfl (Nat.le_of_ble_eq_true rfl) ?_
  refine x_aload_n (q := 1) dX1_addPart_0 rfl rfl rfl ?_
  refine x_get (q := 4) dX1_addPart_1 rfl f_X1_22 (cl_9 hS) rfl (by decide) ?_
  refine x_iload_n (q := 5) dX1_addPart_4 rfl rfl rfl ?_
  refine z_iald (q := 6) (j := r) dX1_addPart_5 rfl (cl_13 hS) (by omega) (by decide) (by decide) ?_
  rw [hpc]
  refine x_bipush (q := 8) (v := 6) dX1_addPart_6 rfl (by decide) ?_
  refine x_ic_lt (q := 11) (t := 14) dX1_addPart_8 rfl (by decide) (fun _ => ?_) (fun c_ => absurd (show nI c < nI 6 from nI_lt hc (by decide)) c_)
  refine x_iload_n (q := 15) dX1_addPart_14 rfl rfl rfl ?_
  refine x_bipush (q := 17) (v := 6) dX1_addPart_15 rfl (by decide) ?_
  refine x_imul (q := 18) dX1_addPart_17 rfl ?_
  refine x_aload_n (q := 19) dX1_addPart_18 rfl rfl rfl ?_
  refine x_get (q := 22) dX1_addPart_19 rfl f_X1_22 (cl_9 hS) rfl (by decide) ?_
  refine x_iload_n (q := 23) dX1_addPart_22 rfl rfl rfl ?_
  refine z_iald (q := 24) (j := r) dX1_addPart_23 rfl (cl_13 hS) (by omega) (by decide) (by decide) ?_
  rw [hpc]
  refine x_iadd (q := 25) dX1_addPart_24 rfl ?_
  rw [ix6]
  refine x_istore (q := 27) dX1_addPart_25 rfl (by decide) ?_
  refine x_aload_n (q := 28) dX1_addPart_27 rfl rfl rfl ?_
  refine x_get (q := 31) dX1_addPart_28 rfl f_X1_9 (cl_9 hS) rfl (by decide) ?_
  refine x_iload (q := 33) dX1_addPart_31 rfl rfl ?_
  refine x_iload_n (q := 34) dX1_addPart_33 rfl rfl rfl ?_
  refine z_zast (q := 35) (j := r * 6 + c) dX1_addPart_34 rfl (cl_10 hS) (by omega) (by decide) (by first | assumption | decide) (by decide) ?_
  refine Vg.nm (fun h1 eh1 => ?_)
  have hS1 : Sh h1 := by rw [eh1]; exact hS.si _ _
  have hc1_9_6 : fI h1 9 6 = nI (z) := by rw [eh1]; first | (simp only [fI_si, fI_sl, fI_sJ]; exact hz) | (rw [fI_sI_ne (by omega)]; exact hz) | (rw [fI_sI_k (by decide)]; exact hz) | (simp (disch := omega) only [mixAdd, fI_si, fI_sl, fI_sJ, fI_sI_ne, fI_sI_k]; exact hz)
  refine x_aload_n (q := 36) dX1_addPart_35 rfl rfl rfl ?_
  refine x_get (q := 39) dX1_addPart_36 rfl f_X1_15 (cl_9 hS1) rfl (by decide) ?_
  refine x_iload (q := 41) dX1_addPart_39 rfl rfl ?_
  refine x_iload_n (q := 42) dX1_addPart_41 rfl rfl rfl ?_
  refine z_iast (q := 43) (j := r * 6 + c) dX1_addPart_42 rfl (cl_11 hS1) (by omega) (by decide) (by decide) ?_
  refine Vg.nm (fun h2 eh2 => ?_)
  have hS2 : Sh h2 := by rw [eh2]; exact hS1.si _ _
  have hc2_9_6 : fI h2 9 6 = nI (z) := by rw [eh2]; first | (simp only [fI_si, fI_sl, fI_sJ]; exact hc1_9_6) | (rw [fI_sI_ne (by omega)]; exact hc1_9_6) | (rw [fI_sI_k (by decide)]; exact hc1_9_6) | (simp (disch := omega) only [mixAdd, fI_si, fI_sl, fI_sJ, fI_sI_ne, fI_sI_k]; exact hc1_9_6)
  refine x_aload_n (q := 44) dX1_addPart_43 rfl rfl rfl ?_
  refine x_get (q := 47) dX1_addPart_44 rfl f_X1_19 (cl_9 hS2) rfl (by decide) ?_
  refine x_iload (q := 49) dX1_addPart_47 rfl rfl ?_
  refine x_iload (q := 51) dX1_addPart_49 rfl rfl ?_
  refine z_iast (q := 52) (j := r * 6 + c) dX1_addPart_51 rfl (cl_12 hS2) (by omega) (by decide) (by decide) ?_
  refine Vg.nm (fun h3 eh3 => ?_)
  have hS3 : Sh h3 := by rw [eh3]; exact hS2.si _ _
  have hc3_9_6 : fI h3 9 6 = nI (z) := by rw [eh3]; first | (simp only [fI_si, fI_sl, fI_sJ]; exact hc2_9_6) | (rw [fI_sI_ne (by omega)]; exact hc2_9_6) | (rw [fI_sI_k (by decide)]; exact hc2_9_6) | (simp (disch := omega) only [mixAdd, fI_si, fI_sl, fI_sJ, fI_sI_ne, fI_sI_k]; exact hc2_9_6)
  refine x_aload_n (q := 53) dX1_addPart_52 rfl rfl rfl ?_
  refine x_get (q := 56) dX1_addPart_53 rfl f_X1_22 (cl_9 hS3) rfl (by decide) ?_
  refine x_iload_n (q := 57) dX1_addPart_56 rfl rfl rfl ?_
  refine x_dup2 (q := 58) dX1_addPart_57 rfl rfl rfl ?_
  refine z_iald (q := 59) (j := r) dX1_addPart_58 rfl (cl_13 hS3) (by omega) (by decide) (by decide) ?_
  rw [show gi h3 13 r = nI c by rw [eh3, gi_si_ne (by decide), eh2, gi_si_ne (by decide), eh1, gi_si_ne (by decide)]; exact hpc]
  refine x_iconst (q := 60) (v := 1) dX1_addPart_59 rfl (by decide) ?_
  refine x_iadd (q := 61) dX1_addPart_60 rfl ?_
  rw [nI_1 (c)]
  refine z_iast (q := 62) (j := r) dX1_addPart_61 rfl (cl_13 hS3) (by omega) (by decide) (by decide) ?_
  refine Vg.nm (fun h4 eh4 => ?_)
  have hS4 : Sh h4 := by rw [eh4]; exact hS3.si _ _
  have hc4_9_6 : fI h4 9 6 = nI (z) := by rw [eh4]; first | (simp only [fI_si, fI_sl, fI_sJ]; exact hc3_9_6) | (rw [fI_sI_ne (by omega)]; exact hc3_9_6) | (rw [fI_sI_k (by decide)]; exact hc3_9_6) | (simp (disch := omega) only [mixAdd, fI_si, fI_sl, fI_sJ, fI_sI_ne, fI_sI_k]; exact hc3_9_6)
  refine x_aload_n (q := 63) dX1_addPart_62 rfl rfl rfl ?_
  have g10 : gi h4 10 = (upd (gi h 10) (r * 6 + c) e) := by rw [eh4, gi_si_ne (by decide), eh3, gi_si_ne (by decide), eh2, gi_si_ne (by decide), eh1, gi_si_eq hS (by decide) (by decide) rfl]
  have g11 : gi h4 11 = (upd (gi h 11) (r * 6 + c) v) := by rw [eh4, gi_si_ne (by decide), eh3, gi_si_ne (by decide), eh2, gi_si_eq hS1 (by decide) (by decide) rfl, eh1, gi_si_ne (by decide)]
  have g12 : gi h4 12 = (upd (gi h 12) (r * 6 + c) n) := by rw [eh4, gi_si_ne (by decide), eh3, gi_si_eq hS2 (by decide) (by decide) rfl, eh2, gi_si_ne (by decide), eh1, gi_si_ne (by decide)]
  have g13 : gi h4 13 = (upd (gi h 13) r (nI (c + 1))) := by rw [eh4, gi_si_eq hS3 (by decide) (by decide) rfl, eh3, gi_si_ne (by decide), eh2, gi_si_ne (by decide), eh1, gi_si_ne (by decide)]
  have g15 : gi h4 15 = gi h 15 := by rw [eh4, gi_si_ne (by decide), eh3, gi_si_ne (by decide), eh2, gi_si_ne (by decide), eh1, gi_si_ne (by decide)]
  have g14 : gi h4 14 = gi h 14 := by rw [eh4, gi_si_ne (by decide), eh3, gi_si_ne (by decide), eh2, gi_si_ne (by decide), eh1, gi_si_ne (by decide)]
  have e44 : h4 = apH h r c e v n := by subst_vars; simp (disch := decide) only [apH, gi_si_ne]
  have hra9 := c_X1_resolveAll hS4 z hc4_9_6 hz12 (by rw [g10, g11, g13]; exact hok)
  rw [g10, g11, g12, g13, g15] at hra9
  refine y_cvI (q := 66) dX1_addPart_63 rfl l_X1_35 hra9 rfl rfl (cl_9 hS4) (by decide) rfl rfl rfl rfl ?_
  refine Vg.nm (fun h5 eh5 => ?_)
  have hS5 : Sh h5 := by rw [eh5]; exact hS4.si _ _
  have hc5_9_6 : fI h5 9 6 = nI (z) := by rw [eh5]; first | (simp only [fI_si, fI_sl, fI_sJ]; exact hc4_9_6) | (rw [fI_sI_ne (by omega)]; exact hc4_9_6) | (rw [fI_sI_k (by decide)]; exact hc4_9_6) | (simp (disch := omega) only [mixAdd, fI_si, fI_sl, fI_sJ, fI_sI_ne, fI_sI_k]; exact hc4_9_6)
  refine x_if_ne (q := 69) (t := 82) dX1_addPart_66 rfl (by decide) (fun _ => ?_) (fun c_ => absurd c_ (by rw [if_pos hra]; decide))
  refine x_aload_n (q := 83) dX1_addPart_82 rfl rfl rfl ?_
  refine x_get (q := 86) dX1_addPart_83 rfl f_X1_28 (cl_9 hS5) rfl (by decide) ?_
  refine x_iconst (q := 87) (v := 0) dX1_addPart_86 rfl (by decide) ?_
  refine x_aload_n (q := 88) dX1_addPart_87 rfl rfl rfl ?_
  refine x_get (q := 91) dX1_addPart_88 rfl f_X1_25 (cl_9 hS5) rfl (by decide) ?_
  refine x_iconst (q := 92) (v := 0) dX1_addPart_91 rfl (by decide) ?_
  refine x_aload_n (q := 93) dX1_addPart_92 rfl rfl rfl ?_
  refine x_get (q := 96) dX1_addPart_93 rfl f_X1_25 (cl_9 hS5) rfl (by decide) ?_
  refine x_alen (q := 97) (v := 96) dX1_addPart_96 rfl (cl_14 hS5) rfl (by decide) ?_
  refine y_acopy (q := 100) dX1_addPart_97 rfl o_X1_39 (cl_14 hS5) (cl_15 hS5) (by decide) (by decide) (by decide) (by decide) (by decide) (by decide) (by decide) (by decide) (by decide) ?_
  refine Vg.nm (fun h6 eh6 => ?_)
  have hS6 : Sh h6 := by rw [eh6]; exact hS5.si _ _
  have hc6_9_6 : fI h6 9 6 = nI (z) := by rw [eh6]; first | (simp only [fI_si, fI_sl, fI_sJ]; exact hc5_9_6) | (rw [fI_sI_ne (by omega)]; exact hc5_9_6) | (rw [fI_sI_k (by decide)]; exact hc5_9_6) | (simp (disch := omega) only [mixAdd, fI_si, fI_sl, fI_sJ, fI_sI_ne, fI_sI_k]; exact hc5_9_6)
  refine x_aload_n (q := 101) dX1_addPart_100 rfl rfl rfl ?_
  refine x_get (q := 104) dX1_addPart_101 rfl f_X1_22 (cl_9 hS6) rfl (by decide) ?_
  refine x_iload_n (q := 105) dX1_addPart_104 rfl rfl rfl ?_
  refine z_iald (q := 106) (j := r) dX1_addPart_105 rfl (cl_13 hS6) (by omega) (by decide) (by decide) ?_
  exact x_iret dX1_addPart_106 ⟨_, rfl, by first | rfl | (split <;> rfl)⟩ rfl (Nat.le_refl _) rfl ⟨by rw [show gi h6 13 r = nI (c + 1) by rw [eh6, gi_si_ne (by decide), eh5, gi_si_ne (by decide), g13]; simp [upd]], by rw [eh6, eh5, gi_si_eq hS4 (by decide) (by decide) rfl, gi_si_ne (by decide), g14, e44]; rfl⟩

set_option maxHeartbeats 4000000 in
set_option maxRecDepth 100000 in
theorem c_X1_addPart_no {h : HF} (hS : Sh h) (r c : Nat) (e v n : Int32) (hr : r < 12) (hc : c < 6) (hpc : gi h 13 r = nI c) (he : vp_nar .boolean e = e) (z : Nat) (hz : fI h 9 6 = nI z) (hz12 : z ≤ 12) (hok : okA (upd (gi h 10) (r * 6 + c) e) (upd (gi h 11) (r * 6 + c) v) (upd (gi h 13) r (nI (c + 1))) z) (hra : (raR (upd (gi h 10) (r * 6 + c) e) (upd (gi h 11) (r * 6 + c) v) (upd (gi h 12) (r * 6 + c) n) (upd (gi h 13) r (nI (c + 1))) z 0 (filF (gi h 15) 0 96)).1 = false) : Mc mX1_addPart [.ref 9, .int (nI r), .int e, .int v, .int n] 170 h (RI (-6) (si (si (apH h r c e v n) 15 (raR (upd (gi h 10) (r * 6 + c) e) (upd (gi h 11) (r * 6 + c) v) (upd (gi h 12) (r * 6 + c) n) (upd (gi h 13) r (nI (c + 1))) z 0 (filF (gi h 15) 0 96)).2) 13 (upd (upd (gi h 13) r (nI (c + 1))) r (nI c)))) := by
  refine Mc.of (by decide) rfl (Nat.le_of_ble_eq_true rfl) ?_
  refine x_aload_n (q := 1) dX1_addPart_0 rfl rfl rfl ?_
  refine x_get (q := 4) dX1_addPart_1 rfl f_X1_22 (cl_9 hS) rfl (by decide) ?_
  refine x_iload_n (q := 5) dX1_addPart_4 rfl rfl rfl ?_
  refine z_iald (q := 6) (j := r) dX1_addPart_5 rfl (cl_13 hS) (by omega) (by decide) (by decide) ?_
  rw [hpc]
  refine x_bipush (q := 8) (v := 6) dX1_addPart_6 rfl (by decide) ?_
  refine x_ic_lt (q := 11) (t := 14) dX1_addPart_8 rfl (by decide) (fun _ => ?_) (fun c_ => absurd (show nI c < nI 6 from nI_lt hc (by decide)) c_)
  refine x_iload_n (q := 15) dX1_addPart_14 rfl rfl rfl ?_
  refine x_bipush (q := 17) (v := 6) dX1_addPart_15 rfl (by decide) ?_
  refine x_imul (q := 18) dX1_addPart_17 rfl ?_
  refine x_aload_n (q := 19) dX1_addPart_18 rfl rfl rfl ?_
  refine x_get (q := 22) dX1_addPart_19 rfl f_X1_22 (cl_9 hS) rfl (by decide) ?_
  refine x_iload_n (q := 23) dX1_addPart_22 rfl rfl rfl ?_
  refine z_iald (q := 24) (j := r) dX1_addPart_23 rfl (cl_13 hS) (by omega) (by decide) (by decide) ?_
  rw [hpc]
  refine x_iadd (q := 25) dX1_addPart_24 rfl ?_
  rw [ix6]
  refine x_istore (q := 27) dX1_addPart_25 rfl (by decide) ?_
  refine x_aload_n (q := 28) dX1_addPart_27 rfl rfl rfl ?_
  refine x_get (q := 31) dX1_addPart_28 rfl f_X1_9 (cl_9 hS) rfl (by decide) ?_
  refine x_iload (q := 33) dX1_addPart_31 rfl rfl ?_
  refine x_iload_n (q := 34) dX1_addPart_33 rfl rfl rfl ?_
  refine z_zast (q := 35) (j := r * 6 + c) dX1_addPart_34 rfl (cl_10 hS) (by omega) (by decide) (by first | assumption | decide) (by decide) ?_
  refine Vg.nm (fun h1 eh1 => ?_)
  have hS1 : Sh h1 := by rw [eh1]; exact hS.si _ _
  have hc1_9_6 : fI h1 9 6 = nI (z) := by rw [eh1]; first | (simp only [fI_si, fI_sl, fI_sJ]; exact hz) | (rw [fI_sI_ne (by omega)]; exact hz) | (rw [fI_sI_k (by decide)]; exact hz) | (simp (disch := omega) only [mixAdd, fI_si, fI_sl, fI_sJ, fI_sI_ne, fI_sI_k]; exact hz)
  refine x_aload_n (q := 36) dX1_addPart_35 rfl rfl rfl ?_
  refine x_get (q := 39) dX1_addPart_36 rfl f_X1_15 (cl_9 hS1) rfl (by decide) ?_
  refine x_iload (q := 41) dX1_addPart_39 rfl rfl ?_
  refine x_iload_n (q := 42) dX1_addPart_41 rfl rfl rfl ?_
  refine z_iast (q := 43) (j := r * 6 + c) dX1_addPart_42 rfl (cl_11 hS1) (by omega) (by decide) (by decide) ?_
  refine Vg.nm (fun h2 eh2 => ?_)
  have hS2 : Sh h2 := by rw [eh2]; exact hS1.si _ _
  have hc2_9_6 : fI h2 9 6 = nI (z) := by rw [eh2]; first | (simp only [fI_si, fI_sl, fI_sJ]; exact hc1_9_6) | (rw [fI_sI_ne (by omega)]; exact hc1_9_6) | (rw [fI_sI_k (by decide)]; exact hc1_9_6) | (simp (disch := omega) only [mixAdd, fI_si, fI_sl, fI_sJ, fI_sI_ne, fI_sI_k]; exact hc1_9_6)
  refine x_aload_n (q := 44) dX1_addPart_43 rfl rfl rfl ?_
  refine x_get (q := 47) dX1_addPart_44 rfl f_X1_19 (cl_9 hS2) rfl (by decide) ?_
  refine x_iload (q := 49) dX1_addPart_47 rfl rfl ?_
  refine x_iload (q := 51) dX1_addPart_49 rfl rfl ?_
  refine z_iast (q := 52) (j := r * 6 + c) dX1_addPart_51 rfl (cl_12 hS2) (by omega) (by decide) (by decide) ?_
  refine Vg.nm (fun h3 eh3 => ?_)
  have hS3 : Sh h3 := by rw [eh3]; exact hS2.si _ _
  have hc3_9_6 : fI h3 9 6 = nI (z) := by rw [eh3]; first | (simp only [fI_si, fI_sl, fI_sJ]; exact hc2_9_6) | (rw [fI_sI_ne (by omega)]; exact hc2_9_6) | (rw [fI_sI_k (by decide)]; exact hc2_9_6) | (simp (disch := omega) only [mixAdd, fI_si, fI_sl, fI_sJ, fI_sI_ne, fI_sI_k]; exact hc2_9_6)
  refine x_aload_n (q := 53) dX1_addPart_52 rfl rfl rfl ?_
  refine x_get (q := 56) dX1_addPart_53 rfl f_X1_22 (cl_9 hS3) rfl (by decide) ?_
  refine x_iload_n (q := 57) dX1_addPart_56 rfl rfl rfl ?_
  refine x_dup2 (q := 58) dX1_addPart_57 rfl rfl rfl ?_
  refine z_iald (q := 59) (j := r) dX1_addPart_58 rfl (cl_13 hS3) (by omega) (by decide) (by decide) ?_
  rw [show gi h3 13 r = nI c by rw [eh3, gi_si_ne (by decide), eh2, gi_si_ne (by decide), eh1, gi_si_ne (by decide)]; exact hpc]
  refine x_iconst (q := 60) (v := 1) dX1_addPart_59 rfl (by decide) ?_
  refine x_iadd (q := 61) dX1_addPart_60 rfl ?_
  rw [nI_1 (c)]
  refine z_iast (q := 62) (j := r) dX1_addPart_61 rfl (cl_13 hS3) (by omega) (by decide) (by decide) ?_
  refine Vg.nm (fun h4 eh4 => ?_)
  have hS4 : Sh h4 := by rw [eh4]; exact hS3.si _ _
  have hc4_9_6 : fI h4 9 6 = nI (z) := by rw [eh4]; first | (simp only [fI_si, fI_sl, fI_sJ]; exact hc3_9_6) | (rw [fI_sI_ne (by omega)]; exact hc3_9_6) | (rw [fI_sI_k (by decide)]; exact hc3_9_6) | (simp (disch := omega) only [mixAdd, fI_si, fI_sl, fI_sJ, fI_sI_ne, fI_sI_k]; exact hc3_9_6)
  refine x_aload_n (q := 63) dX1_addPart_62 rfl rfl rfl ?_
  have g10 : gi h4 10 = (upd (gi h 10) (r * 6 + c) e) := by rw [eh4, gi_si_ne (by decide), eh3, gi_si_ne (by decide), eh2, gi_si_ne (by decide), eh1, gi_si_eq hS (by decide) (by decide) rfl]
  have g11 : gi h4 11 = (upd (gi h 11) (r * 6 + c) v) := by rw [eh4, gi_si_ne (by decide), eh3, gi_si_ne (by decide), eh2, gi_si_eq hS1 (by decide) (by decide) rfl, eh1, gi_si_ne (by decide)]
  have g12 : gi h4 12 = (upd (gi h 12) (r * 6 + c) n) := by rw [eh4, gi_si_ne (by decide), eh3, gi_si_eq hS2 (by decide) (by decide) rfl, eh2, gi_si_ne (by decide), eh1, gi_si_ne (by decide)]
  have g13 : gi h4 13 = (upd (gi h 13) r (nI (c + 1))) := by rw [eh4, gi_si_eq hS3 (by decide) (by decide) rfl, eh3, gi_si_ne (by decide), eh2, gi_si_ne (by decide), eh1, gi_si_ne (by decide)]
  have g15 : gi h4 15 = gi h 15 := by rw [eh4, gi_si_ne (by decide), eh3, gi_si_ne (by decide), eh2, gi_si_ne (by decide), eh1, gi_si_ne (by decide)]
  have g14 : gi h4 14 = gi h 14 := by rw [eh4, gi_si_ne (by decide), eh3, gi_si_ne (by decide), eh2, gi_si_ne (by decide), eh1, gi_si_ne (by decide)]
  have e44 : h4 = apH h r c e v n := by subst_vars; simp (disch := decide) only [apH, gi_si_ne]
  have hra9 := c_X1_resolveAll hS4 z hc4_9_6 hz12 (by rw [g10, g11, g13]; exact hok)
  rw [g10, g11, g12, g13, g15] at hra9
  refine y_cvI (q := 66) dX1_addPart_63 rfl l_X1_35 hra9 rfl rfl (cl_9 hS4) (by decide) rfl rfl rfl rfl ?_
  refine Vg.nm (fun h5 eh5 => ?_)
  have hS5 : Sh h5 := by rw [eh5]; exact hS4.si _ _
  have hc5_9_6 : fI h5 9 6 = nI (z) := by rw [eh5]; first | (simp only [fI_si, fI_sl, fI_sJ]; exact hc4_9_6) | (rw [fI_sI_ne (by omega)]; exact hc4_9_6) | (rw [fI_sI_k (by decide)]; exact hc4_9_6) | (simp (disch := omega) only [mixAdd, fI_si, fI_sl, fI_sJ, fI_sI_ne, fI_sI_k]; exact hc4_9_6)
  refine x_if_ne (q := 69) (t := 82) dX1_addPart_66 rfl (by decide) (fun c_ => absurd c_ (fun z => z (by rw [if_neg (by rw [hra]; decide)]))) (fun _ => ?_)
  refine x_aload_n (q := 70) dX1_addPart_69 rfl rfl rfl ?_
  refine x_get (q := 73) dX1_addPart_70 rfl f_X1_22 (cl_9 hS5) rfl (by decide) ?_
  refine x_iload_n (q := 74) dX1_addPart_73 rfl rfl rfl ?_
  refine x_dup2 (q := 75) dX1_addPart_74 rfl rfl rfl ?_
  refine z_iald (q := 76) (j := r) dX1_addPart_75 rfl (cl_13 hS5) (by omega) (by decide) (by decide) ?_
  rw [show gi h5 13 r = nI (c + 1) by rw [eh5, gi_si_ne (by decide), g13]; simp [upd]]
  refine x_iconst (q := 77) (v := 1) dX1_addPart_76 rfl (by decide) ?_
  refine x_isub (q := 78) dX1_addPart_77 rfl ?_
  rw [nI_pred (c)]
  refine z_iast (q := 79) (j := r) dX1_addPart_78 rfl (cl_13 hS5) (by omega) (by decide) (by decide) ?_
  refine Vg.nm (fun h6 eh6 => ?_)
  have hS6 : Sh h6 := by rw [eh6]; exact hS5.si _ _
  have hc6_9_6 : fI h6 9 6 = nI (z) := by rw [eh6]; first | (simp only [fI_si, fI_sl, fI_sJ]; exact hc5_9_6) | (rw [fI_sI_ne (by omega)]; exact hc5_9_6) | (rw [fI_sI_k (by decide)]; exact hc5_9_6) | (simp (disch := omega) only [mixAdd, fI_si, fI_sl, fI_sJ, fI_sI_ne, fI_sI_k]; exact hc5_9_6)
  refine x_bipush (q := 81) (v := -6) dX1_addPart_79 rfl (by decide) ?_
  exact x_iret dX1_addPart_81 ⟨_, rfl, by first | rfl | (split <;> rfl)⟩ rfl (Nat.le_refl _) rfl ⟨rfl, by rw [eh6, eh5, gi_si_ne (by decide), g13, e44]⟩

