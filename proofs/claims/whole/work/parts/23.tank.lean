def recvF (h : HF) (t o k : Nat) : HF := sI (sI (addAllF h (113 + 4 * t) o) (112 + 4 * t) 2 (fI h (112 + 4 * t) 2 + fI h o 1)) (112 + 4 * t) 4 (fI h (112 + 4 * t) 4 ||| 1 <<< (nI k &&& 31))
def recv0F (h : HF) (t : Nat) : HF := sI (sI (sI (emptyF h (113 + 4 * t)) (112 + 4 * t) 4 0) (112 + 4 * t) 5 0) (112 + 4 * t) 6 0
theorem Sh.recv {h : HF} (hS : Sh h) (t o k : Nat) : Sh (recvF h t o k) := ((hS.addAll _ _).sI _ _ _).sI _ _ _
theorem Sh.recv0 {h : HF} (hS : Sh h) (t : Nat) : Sh (recv0F h t) := (((hS.empty _).sI _ _ _).sI _ _ _).sI _ _ _
set_option maxHeartbeats 4000000 in
set_option maxRecDepth 100000 in
theorem lp_receive {h : HF} (hS : Sh h) {t : Nat} (ht : t < 5) {o : Nat} (ho : isM o) (k : Nat) (hne : (113 + 4 * t) ≠ o) (h01 : (113 + 4 * t) ≠ o + 1) (h02 : o ≠ (113 + 4 * t) + 1) (h03 : (112 + 4 * t) ≠ o) : Vg mX8_receive none (QM mX8_receive 170 (RV (recvF h t o k))) 29 [some (.ref (112 + 4 * t)), some (.ref o), some (.int (nI k))] [] 170 h 0 0 := by
  refine x_aload_n (q := 30) dX8_receive_29 rfl rfl rfl ?_
  refine x_get (q := 33) dX8_receive_30 rfl f_X8_12 (cl_K hS ht) rfl (by omega) ?_
  refine x_aload_n (q := 34) dX8_receive_33 rfl rfl rfl ?_
  refine y_cvV (q := 37) dX8_receive_34 rfl l_X8_50 (c_X4_addAll hS (isM_N ht) ho hne h01 h02) rfl rfl (cl_N hS ht) (by omega) rfl rfl rfl rfl ?_
  refine Vg.nm (fun h1 eh1 => ?_)
  have hS1 : Sh h1 := by rw [eh1]; exact hS.addAll _ _
  refine x_aload_n (q := 38) dX8_receive_37 rfl rfl rfl ?_
  refine x_dup (q := 39) dX8_receive_38 rfl rfl ?_
  refine x_get (q := 42) dX8_receive_39 rfl f_X8_22 (cl_K hS1 ht) rfl (by omega) ?_
  refine x_aload_n (q := 43) dX8_receive_42 rfl rfl rfl ?_
  refine x_get (q := 46) dX8_receive_43 rfl f_X8_54 ((mxo ho hS1).1) rfl (mxb ho) ?_
  refine x_iadd (q := 47) dX8_receive_46 rfl ?_
  refine y_put (q := 50) dX8_receive_47 rfl f_X8_22 (cl_K hS1 ht) rfl (by first | rfl | decide) (by first | rfl | decide) (by omega) ?_
  refine Vg.nm (fun h2 eh2 => ?_)
  have hS2 : Sh h2 := by rw [eh2]; exact hS1.sI _ _ _
  refine x_aload_n (q := 51) dX8_receive_50 rfl rfl rfl ?_
  refine x_dup (q := 52) dX8_receive_51 rfl rfl ?_
  refine x_get (q := 55) dX8_receive_52 rfl f_X8_29 (cl_K hS2 ht) rfl (by omega) ?_
  refine x_iconst (q := 56) (v := 1) dX8_receive_55 rfl (by decide) ?_
  refine x_iload_n (q := 57) dX8_receive_56 rfl rfl rfl ?_
  refine x_ishl (q := 58) dX8_receive_57 rfl ?_
  refine x_ior (q := 59) dX8_receive_58 rfl ?_
  refine y_put (q := 62) dX8_receive_59 rfl f_X8_29 (cl_K hS2 ht) rfl (by first | rfl | decide) (by first | rfl | decide) (by omega) ?_
  refine Vg.nm (fun h3 eh3 => ?_)
  have hS3 : Sh h3 := by rw [eh3]; exact hS2.sI _ _ _
  exact x_vret dX8_receive_62 rfl rfl (Nat.le_refl _) rfl ⟨rfl, by subst_vars; simp (disch := omega) only [recvF, addAllF, gi_si_ne, gi_sI, gi_sJ, gi_sl, gl_sl_ne, gl_si, gl_sI, gl_sJ, fI_si, fI_sl, fI_sJ, fI_sI_ne, fI_sI_k, fJ_si, fJ_sl, fJ_sI, fJ_sJ_ne]⟩
set_option maxHeartbeats 4000000 in
set_option maxRecDepth 100000 in
theorem c_X8_receive {h : HF} (hS : Sh h) {t : Nat} (ht : t < 5) {o : Nat} (ho : isM o) (k : Nat) (hne : (113 + 4 * t) ≠ o) (h01 : (113 + 4 * t) ≠ o + 1) (h02 : o ≠ (113 + 4 * t) + 1) (h03 : (112 + 4 * t) ≠ o) (hi : ¬ fI h (112 + 4 * t) 2 = 0) : Mc mX8_receive [.ref (112 + 4 * t), .ref o, .int (nI k)] 170 h (RV (recvF h t o k)) := by
  refine Mc.of (by decide) rfl (Nat.le_of_ble_eq_true rfl) ?_
  refine x_aload_n (q := 1) dX8_receive_0 rfl rfl rfl ?_
  refine x_get (q := 4) dX8_receive_1 rfl f_X8_22 (cl_K hS ht) rfl (by omega) ?_
  refine x_if_ne (q := 7) (t := 29) dX8_receive_4 rfl (by decide) (fun _ => ?_) (fun c_ => absurd c_ hi)
  exact lp_receive hS ht ho k hne h01 h02 h03

set_option maxHeartbeats 4000000 in
set_option maxRecDepth 100000 in
theorem c_X8_receive0 {h : HF} (hS : Sh h) {t : Nat} (ht : t < 5) {o : Nat} (ho : isM o) (k : Nat) (hne : (113 + 4 * t) ≠ o) (h01 : (113 + 4 * t) ≠ o + 1) (h02 : o ≠ (113 + 4 * t) + 1) (h03 : (112 + 4 * t) ≠ o) (hi : fI h (112 + 4 * t) 2 = 0) : Mc mX8_receive [.ref (112 + 4 * t), .ref o, .int (nI k)] 170 h (RV (recvF (recv0F h t) t o k)) := by
  refine Mc.of (by decide) rfl (Nat.le_of_ble_eq_true rfl) ?_
  refine x_aload_n (q := 1) dX8_receive_0 rfl rfl rfl ?_
  refine x_get (q := 4) dX8_receive_1 rfl f_X8_22 (cl_K hS ht) rfl (by omega) ?_
  refine x_if_ne (q := 7) (t := 29) dX8_receive_4 rfl (by decide) (fun c_ => absurd c_ (fun z => z hi)) (fun _ => ?_)
  refine x_aload_n (q := 8) dX8_receive_7 rfl rfl rfl ?_
  refine x_get (q := 11) dX8_receive_8 rfl f_X8_12 (cl_K hS ht) rfl (by omega) ?_
  refine y_cvV (q := 14) dX8_receive_11 rfl l_X8_47 (c_X4_empty hS (isM_N ht)) rfl rfl (cl_N hS ht) (by omega) rfl rfl rfl rfl ?_
  refine Vg.nm (fun h1 eh1 => ?_)
  have hS1 : Sh h1 := by rw [eh1]; exact hS.empty _
  refine x_aload_n (q := 15) dX8_receive_14 rfl rfl rfl ?_
  refine x_iconst (q := 16) (v := 0) dX8_receive_15 rfl (by decide) ?_
  refine y_put (q := 19) dX8_receive_16 rfl f_X8_29 (cl_K hS1 ht) rfl (by first | rfl | decide) (by first | rfl | decide) (by omega) ?_
  refine Vg.nm (fun h2 eh2 => ?_)
  have hS2 : Sh h2 := by rw [eh2]; exact hS1.sI _ _ _
  refine x_aload_n (q := 20) dX8_receive_19 rfl rfl rfl ?_
  refine x_iconst (q := 21) (v := 0) dX8_receive_20 rfl (by decide) ?_
  refine y_put (q := 24) dX8_receive_21 rfl f_X8_32 (cl_K hS2 ht) rfl (by first | rfl | decide) (by first | rfl | decide) (by omega) ?_
  refine Vg.nm (fun h3 eh3 => ?_)
  have hS3 : Sh h3 := by rw [eh3]; exact hS2.sI _ _ _
  refine x_aload_n (q := 25) dX8_receive_24 rfl rfl rfl ?_
  refine x_iconst (q := 26) (v := 0) dX8_receive_25 rfl (by decide) ?_
  refine y_put (q := 29) dX8_receive_26 rfl f_X8_36 (cl_K hS3 ht) rfl (by first | rfl | decide) (by first | rfl | decide) (by omega) ?_
  refine Vg.nm (fun h4 eh4 => ?_)
  have hS4 : Sh h4 := by rw [eh4]; exact hS3.sI _ _ _
  have e9 : h4 = recv0F h t := by subst_vars; rfl
  rw [← e9]; exact lp_receive hS4 ht ho k hne h01 h02 h03

def stS (h : HF) (t d : Nat) (v : Int32) : HF := si h (115 + 4 * t) (upd (gi h (115 + 4 * t)) d v)
def drw0 (h : HF) (t : Nat) (n : Int32) : HF := sI (sI h (112 + 4 * t) 2 (fI h (112 + 4 * t) 2 - n)) (112 + 4 * t) 5 1
def drwF (h : HF) (t : Nat) (n : Int32) (z : Nat) : HF := stS (stS (stS (sI (drw0 h t n) (112 + 4 * t) 6 1) t 0 (shof (gi h ((113 + 4 * t) + 1)) (gi h 3) (gi h 4) 0 z)) t 1 (shof (gi h ((113 + 4 * t) + 1)) (gi h 3) (gi h 4) 1 z)) t 2 (shof (gi h ((113 + 4 * t) + 1)) (gi h 3) (gi h 4) 2 z)
theorem Sh.drw0 {h : HF} (hS : Sh h) (t : Nat) (n : Int32) : Sh (drw0 h t n) := (hS.sI _ _ _).sI _ _ _
theorem Sh.drwF {h : HF} (hS : Sh h) (t : Nat) (n : Int32) (z : Nat) : Sh (drwF h t n z) := ((((hS.drw0 _ _).sI _ _ _).si _ _).si _ _).si _ _
theorem kF_K {t k : Nat} (ht : t < 5) (hk : 2 ≤ k ∧ k ≤ 6) : kF (112 + 4 * t) k = true := by
  simp only [kF, (shT_K ht).1]
  rcases (show k = 2 ∨ k = 3 ∨ k = 4 ∨ k = 5 ∨ k = 6 by omega) with rfl | rfl | rfl | rfl | rfl <;> rfl
set_option maxHeartbeats 4000000 in
set_option maxRecDepth 100000 in
theorem c_X8_draw {h : HF} (hS : Sh h) {t : Nat} (ht : t < 5) (n : Int32) (z : Nat) (hz : fI h 2 2 = nI z) (hz8 : z ≤ 8) (hp : ¬ fI h (112 + 4 * t) 2 - n ≤ 0) : Mc mX8_draw [.ref (112 + 4 * t), .int n, .ref 2] 170 h (RV (drw0 h t n)) := by
  refine Mc.of (by decide) rfl (Nat.le_of_ble_eq_true rfl) ?_
  refine x_aload_n (q := 1) dX8_draw_0 rfl rfl rfl ?_
  refine x_dup (q := 2) dX8_draw_1 rfl rfl ?_
  refine x_get (q := 5) dX8_draw_2 rfl f_X8_22 (cl_K hS ht) rfl (by omega) ?_
  refine x_iload_n (q := 6) dX8_draw_5 rfl rfl rfl ?_
  refine x_isub (q := 7) dX8_draw_6 rfl ?_
  refine y_put (q := 10) dX8_draw_7 rfl f_X8_22 (cl_K hS ht) rfl (by first | rfl | decide) (by first | rfl | decide) (by omega) ?_
  refine Vg.nm (fun h1 eh1 => ?_)
  have hS1 : Sh h1 := by rw [eh1]; exact hS.sI _ _ _
  refine x_aload_n (q := 11) dX8_draw_10 rfl rfl rfl ?_
  refine x_iconst (q := 12) (v := 1) dX8_draw_11 rfl (by decide) ?_
  refine y_put (q := 15) dX8_draw_12 rfl f_X8_32 (cl_K hS1 ht) rfl (by first | rfl | decide) (by first | rfl | decide) (by omega) ?_
  refine Vg.nm (fun h2 eh2 => ?_)
  have hS2 : Sh h2 := by rw [eh2]; exact hS1.sI _ _ _
  refine x_aload_n (q := 16) dX8_draw_15 rfl rfl rfl ?_
  refine x_get (q := 19) dX8_draw_16 rfl f_X8_22 (cl_K hS2 ht) rfl (by omega) ?_
  refine x_if_le (q := 22) (t := 23) dX8_draw_19 rfl (by decide) (fun c_ => absurd c_ (by rw [eh2, fI_sI_k (by decide), eh1, fI_sI_eq hS (by omega) (by omega) (kF_K ht (by omega))]; exact hp)) (fun _ => ?_)
  exact x_vret dX8_draw_22 rfl rfl (Nat.le_refl _) rfl ⟨rfl, by subst_vars; rfl⟩

set_option maxHeartbeats 4000000 in
set_option maxRecDepth 100000 in
theorem c_X8_draw0 {h : HF} (hS : Sh h) {t : Nat} (ht : t < 5) (n : Int32) (z : Nat) (hz : fI h 2 2 = nI z) (hz8 : z ≤ 8) (hp : fI h (112 + 4 * t) 2 - n ≤ 0) : Mc mX8_draw [.ref (112 + 4 * t), .int n, .ref 2] 170 h (RV (drwF h t n z)) := by
  refine Mc.of (by decide) rfl (Nat.le_of_ble_eq_true rfl) ?_
  refine x_aload_n (q := 1) dX8_draw_0 rfl rfl rfl ?_
  refine x_dup (q := 2) dX8_draw_1 rfl rfl ?_
  refine x_get (q := 5) dX8_draw_2 rfl f_X8_22 (cl_K hS ht) rfl (by omega) ?_
  refine x_iload_n (q := 6) dX8_draw_5 rfl rfl rfl ?_
  refine x_isub (q := 7) dX8_draw_6 rfl ?_
  refine y_put (q := 10) dX8_draw_7 rfl f_X8_22 (cl_K hS ht) rfl (by first | rfl | decide) (by first | rfl | decide) (by omega) ?_
  refine Vg.nm (fun h1 eh1 => ?_)
  have hS1 : Sh h1 := by rw [eh1]; exact hS.sI _ _ _
  have hc1_2_2 : fI h1 2 2 = nI (z) := by rw [eh1]; first | (simp only [fI_si, fI_sl, fI_sJ]; exact hz) | (rw [fI_sI_ne (by omega)]; exact hz) | (rw [fI_sI_k (by decide)]; exact hz) | (simp (disch := omega) only [mixAdd, fI_si, fI_sl, fI_sJ, fI_sI_ne, fI_sI_k]; exact hz)
  refine x_aload_n (q := 11) dX8_draw_10 rfl rfl rfl ?_
  refine x_iconst (q := 12) (v := 1) dX8_draw_11 rfl (by decide) ?_
  refine y_put (q := 15) dX8_draw_12 rfl f_X8_32 (cl_K hS1 ht) rfl (by first | rfl | decide) (by first | rfl | decide) (by omega) ?_
  refine Vg.nm (fun h2 eh2 => ?_)
  have hS2 : Sh h2 := by rw [eh2]; exact hS1.sI _ _ _
  have hc2_2_2 : fI h2 2 2 = nI (z) := by rw [eh2]; first | (simp only [fI_si, fI_sl, fI_sJ]; exact hc1_2_2) | (rw [fI_sI_ne (by omega)]; exact hc1_2_2) | (rw [fI_sI_k (by decide)]; exact hc1_2_2) | (simp (disch := omega) only [mixAdd, fI_si, fI_sl, fI_sJ, fI_sI_ne, fI_sI_k]; exact hc1_2_2)
  refine x_aload_n (q := 16) dX8_draw_15 rfl rfl rfl ?_
  refine x_get (q := 19) dX8_draw_16 rfl f_X8_22 (cl_K hS2 ht) rfl (by omega) ?_
  refine x_if_le (q := 22) (t := 23) dX8_draw_19 rfl (by decide) (fun _ => ?_) (fun c_ => absurd (by rw [eh2, fI_sI_k (by decide), eh1, fI_sI_eq hS (by omega) (by omega) (kF_K ht (by omega))]; exact hp) c_)
  refine x_aload_n (q := 24) dX8_draw_23 rfl rfl rfl ?_
  refine x_iconst (q := 25) (v := 1) dX8_draw_24 rfl (by decide) ?_
  refine y_put (q := 28) dX8_draw_25 rfl f_X8_36 (cl_K hS2 ht) rfl (by first | rfl | decide) (by first | rfl | decide) (by omega) ?_
  refine Vg.nm (fun h3 eh3 => ?_)
  have hS3 : Sh h3 := by rw [eh3]; exact hS2.sI _ _ _
  have hc3_2_2 : fI h3 2 2 = nI (z) := by rw [eh3]; first | (simp only [fI_si, fI_sl, fI_sJ]; exact hc2_2_2) | (rw [fI_sI_ne (by omega)]; exact hc2_2_2) | (rw [fI_sI_k (by decide)]; exact hc2_2_2) | (simp (disch := omega) only [mixAdd, fI_si, fI_sl, fI_sJ, fI_sI_ne, fI_sI_k]; exact hc2_2_2)
  refine x_iconst (q := 29) (v := 0) dX8_draw_28 rfl (by decide) ?_
  refine x_istore_n (q := 30) dX8_draw_29 rfl rfl (by decide) ?_
  refine x_iload_n (q := 31) dX8_draw_30 rfl rfl rfl ?_
  refine x_iconst (q := 32) (v := 3) dX8_draw_31 rfl (by decide) ?_
  refine x_ic_ge (q := 35) (t := 56) dX8_draw_32 rfl (by decide) (fun c_ => absurd c_ (by decide)) (fun _ => ?_)
  refine x_aload_n (q := 36) dX8_draw_35 rfl rfl rfl ?_
  refine x_get (q := 39) dX8_draw_36 rfl f_X8_18 (cl_K hS3 ht) rfl (by omega) ?_
  refine x_iload_n (q := 40) dX8_draw_39 rfl rfl rfl ?_
  refine x_aload_n (q := 41) dX8_draw_40 rfl rfl rfl ?_
  refine x_aload_n (q := 42) dX8_draw_41 rfl rfl rfl ?_
  refine x_get (q := 45) dX8_draw_42 rfl f_X8_12 (cl_K hS3 ht) rfl (by omega) ?_
  refine x_iload_n (q := 46) dX8_draw_45 rfl rfl rfl ?_
  refine y_cvI (q := 49) dX8_draw_46 rfl l_X8_57 (c_X5_shadeOf hS3 (isM_N ht) 0 (by decide) z hc3_2_2 hz8) rfl rfl (cl_2 hS3) (by decide) rfl rfl rfl rfl ?_
  refine z_iast (q := 50) (j := 0) dX8_draw_49 rfl (cl_S hS3 ht) (by decide) (by decide) (by omega) ?_
  refine Vg.nm (fun h4 eh4 => ?_)
  have hS4 : Sh h4 := by rw [eh4]; exact hS3.si _ _
  have hc4_2_2 : fI h4 2 2 = nI (z) := by rw [eh4]; first | (simp only [fI_si, fI_sl, fI_sJ]; exact hc3_2_2) | (rw [fI_sI_ne (by omega)]; exact hc3_2_2) | (rw [fI_sI_k (by decide)]; exact hc3_2_2) | (simp (disch := omega) only [mixAdd, fI_si, fI_sl, fI_sJ, fI_sI_ne, fI_sI_k]; exact hc3_2_2)
  refine x_iinc (q := 53) (v := 1) dX8_draw_50 rfl rfl (by decide) (by decide) ?_
  refine x_goto (q := 30) dX8_draw_53 (by decide) ?_
  refine x_iload_n (q := 31) dX8_draw_30 rfl rfl rfl ?_
  refine x_iconst (q := 32) (v := 3) dX8_draw_31 rfl (by decide) ?_
  refine x_ic_ge (q := 35) (t := 56) dX8_draw_32 rfl (by decide) (fun c_ => absurd c_ (by decide)) (fun _ => ?_)
  refine x_aload_n (q := 36) dX8_draw_35 rfl rfl rfl ?_
  refine x_get (q := 39) dX8_draw_36 rfl f_X8_18 (cl_K hS4 ht) rfl (by omega) ?_
  refine x_iload_n (q := 40) dX8_draw_39 rfl rfl rfl ?_
  refine x_aload_n (q := 41) dX8_draw_40 rfl rfl rfl ?_
  refine x_aload_n (q := 42) dX8_draw_41 rfl rfl rfl ?_
  refine x_get (q := 45) dX8_draw_42 rfl f_X8_12 (cl_K hS4 ht) rfl (by omega) ?_
  refine x_iload_n (q := 46) dX8_draw_45 rfl rfl rfl ?_
  refine y_cvI (q := 49) dX8_draw_46 rfl l_X8_57 (c_X5_shadeOf hS4 (isM_N ht) 1 (by decide) z hc4_2_2 hz8) rfl rfl (cl_2 hS4) (by decide) rfl rfl rfl rfl ?_
  refine z_iast (q := 50) (j := 1) dX8_draw_49 rfl (cl_S hS4 ht) (by decide) (by decide) (by omega) ?_
  refine Vg.nm (fun h5 eh5 => ?_)
  have hS5 : Sh h5 := by rw [eh5]; exact hS4.si _ _
  have hc5_2_2 : fI h5 2 2 = nI (z) := by rw [eh5]; first | (simp only [fI_si, fI_sl, fI_sJ]; exact hc4_2_2) | (rw [fI_sI_ne (by omega)]; exact hc4_2_2) | (rw [fI_sI_k (by decide)]; exact hc4_2_2) | (simp (disch := omega) only [mixAdd, fI_si, fI_sl, fI_sJ, fI_sI_ne, fI_sI_k]; exact hc4_2_2)
  refine x_iinc (q := 53) (v := 2) dX8_draw_50 rfl rfl (by decide) (by decide) ?_
  refine x_goto (q := 30) dX8_draw_53 (by decide) ?_
  refine x_iload_n (q := 31) dX8_draw_30 rfl rfl rfl ?_
  refine x_iconst (q := 32) (v := 3) dX8_draw_31 rfl (by decide) ?_
  refine x_ic_ge (q := 35) (t := 56) dX8_draw_32 rfl (by decide) (fun c_ => absurd c_ (by decide)) (fun _ => ?_)
  refine x_aload_n (q := 36) dX8_draw_35 rfl rfl rfl ?_
  refine x_get (q := 39) dX8_draw_36 rfl f_X8_18 (cl_K hS5 ht) rfl (by omega) ?_
  refine x_iload_n (q := 40) dX8_draw_39 rfl rfl rfl ?_
  refine x_aload_n (q := 41) dX8_draw_40 rfl rfl rfl ?_
  refine x_aload_n (q := 42) dX8_draw_41 rfl rfl rfl ?_
  refine x_get (q := 45) dX8_draw_42 rfl f_X8_12 (cl_K hS5 ht) rfl (by omega) ?_
  refine x_iload_n (q := 46) dX8_draw_45 rfl rfl rfl ?_
  refine y_cvI (q := 49) dX8_draw_46 rfl l_X8_57 (c_X5_shadeOf hS5 (isM_N ht) 2 (by decide) z hc5_2_2 hz8) rfl rfl (cl_2 hS5) (by decide) rfl rfl rfl rfl ?_
  refine z_iast (q := 50) (j := 2) dX8_draw_49 rfl (cl_S hS5 ht) (by decide) (by decide) (by omega) ?_
  refine Vg.nm (fun h6 eh6 => ?_)
  have hS6 : Sh h6 := by rw [eh6]; exact hS5.si _ _
  have hc6_2_2 : fI h6 2 2 = nI (z) := by rw [eh6]; first | (simp only [fI_si, fI_sl, fI_sJ]; exact hc5_2_2) | (rw [fI_sI_ne (by omega)]; exact hc5_2_2) | (rw [fI_sI_k (by decide)]; exact hc5_2_2) | (simp (disch := omega) only [mixAdd, fI_si, fI_sl, fI_sJ, fI_sI_ne, fI_sI_k]; exact hc5_2_2)
  refine x_iinc (q := 53) (v := 3) dX8_draw_50 rfl rfl (by decide) (by decide) ?_
  refine x_goto (q := 30) dX8_draw_53 (by decide) ?_
  refine x_iload_n (q := 31) dX8_draw_30 rfl rfl rfl ?_
  refine x_iconst (q := 32) (v := 3) dX8_draw_31 rfl (by decide) ?_
  refine x_ic_ge (q := 35) (t := 56) dX8_draw_32 rfl (by decide) (fun _ => ?_) (fun c_ => absurd (by decide) c_)
  exact x_vret dX8_draw_56 rfl rfl (Nat.le_refl _) rfl ⟨rfl, by subst_vars; simp (disch := omega) only [drwF, drw0, stS, gi_si_ne, gi_si_ne, gi_sI, gi_sJ, gi_sl, gl_sl_ne, gl_si, gl_sI, gl_sJ, fI_si, fI_sl, fI_sJ, fI_sI_ne, fI_sI_k, fJ_si, fJ_sl, fJ_sI, fJ_sJ_ne]⟩

def yadF (h : HF) (t z : Nat) (n k d : Int32) : HF := sI (sl (si (si (si (si h 26 (upd (gi h 26) z n)) 27 (upd (gi h 27) z k)) 28 (upd (gi h 28) z d)) 29 (upd (gi h 29) z (fI h (112 + 4 * t) 4))) 30 (vp_updL (gl h 30) z (fJ h (113 + 4 * t) 2))) 25 5 (nI (z + 1))
theorem Sh.yad {h : HF} (hS : Sh h) (t z : Nat) (n k d : Int32) : Sh (yadF h t z n k d) := (((((hS.si _ _).si _ _).si _ _).si _ _).sl _ _).sI _ _ _
set_option maxHeartbeats 4000000 in
set_option maxRecDepth 100000 in
theorem c_X3_add_full {h : HF} (hS : Sh h) {t : Nat} (ht : t < 5) (n k d : Int32) (hz : fI h 25 5 = nI 100) : Mc mX3_add [.ref 25, .int n, .int k, .int d, .ref (112 + 4 * t)] 170 h (RI (-6) h) := by
  refine Mc.of (by decide) rfl (Nat.le_of_ble_eq_true rfl) ?_
  refine x_aload_n (q := 1) dX3_add_0 rfl rfl rfl ?_
  refine x_get (q := 4) dX3_add_1 rfl f_X3_28 (cl_25 hS) rfl (by decide) ?_
  rw [hz]
  refine x_bipush (q := 6) (v := 100) dX3_add_4 rfl (by decide) ?_
  refine x_ic_lt (q := 9) (t := 12) dX3_add_6 rfl (by decide) (fun c_ => absurd c_ (by decide)) (fun _ => ?_)
  refine x_bipush (q := 11) (v := -6) dX3_add_9 rfl (by decide) ?_
  exact x_iret dX3_add_11 ⟨_, rfl, by first | rfl | (split <;> rfl)⟩ rfl (Nat.le_refl _) rfl ⟨rfl, rfl⟩

set_option maxHeartbeats 4000000 in
set_option maxRecDepth 100000 in
theorem c_X3_add {h : HF} (hS : Sh h) {t : Nat} (ht : t < 5) (n k d : Int32) (z : Nat) (hz : fI h 25 5 = nI z) (hlt : z < 100) : Mc mX3_add [.ref 25, .int n, .int k, .int d, .ref (112 + 4 * t)] 170 h (RI (nI z) (yadF h t z n k d)) := by
  refine Mc.of (by decide) rfl (Nat.le_of_ble_eq_true rfl) ?_
  refine x_aload_n (q := 1) dX3_add_0 rfl rfl rfl ?_
  refine x_get (q := 4) dX3_add_1 rfl f_X3_28 (cl_25 hS) rfl (by decide) ?_
  rw [hz]
  refine x_bipush (q := 6) (v := 100) dX3_add_4 rfl (by decide) ?_
  refine x_ic_lt (q := 9) (t := 12) dX3_add_6 rfl (by decide) (fun _ => ?_) (fun c_ => absurd (show nI z < nI 100 from nI_lt hlt (by decide)) c_)
  refine x_aload_n (q := 13) dX3_add_12 rfl rfl rfl ?_
  refine x_get (q := 16) dX3_add_13 rfl f_X3_9 (cl_25 hS) rfl (by decide) ?_
  refine x_aload_n (q := 17) dX3_add_16 rfl rfl rfl ?_
  refine x_get (q := 20) dX3_add_17 rfl f_X3_28 (cl_25 hS) rfl (by decide) ?_
  rw [hz]
  refine x_iload_n (q := 21) dX3_add_20 rfl rfl rfl ?_
  refine z_iast (q := 22) (j := z) dX3_add_21 rfl (cl_26 hS) (by omega) (by decide) (by decide) ?_
  refine Vg.nm (fun h1 eh1 => ?_)
  have hS1 : Sh h1 := by rw [eh1]; exact hS.si _ _
  have hc1_25_5 : fI h1 25 5 = nI (z) := by rw [eh1]; first | (simp only [fI_si, fI_sl, fI_sJ]; exact hz) | (rw [fI_sI_ne (by omega)]; exact hz) | (rw [fI_sI_k (by decide)]; exact hz) | (simp (disch := omega) only [mixAdd, fI_si, fI_sl, fI_sJ, fI_sI_ne, fI_sI_k]; exact hz)
  refine x_aload_n (q := 23) dX3_add_22 rfl rfl rfl ?_
  refine x_get (q := 26) dX3_add_23 rfl f_X3_15 (cl_25 hS1) rfl (by decide) ?_
  refine x_aload_n (q := 27) dX3_add_26 rfl rfl rfl ?_
  refine x_get (q := 30) dX3_add_27 rfl f_X3_28 (cl_25 hS1) rfl (by decide) ?_
  rw [hc1_25_5]
  refine x_iload_n (q := 31) dX3_add_30 rfl rfl rfl ?_
  refine z_iast (q := 32) (j := z) dX3_add_31 rfl (cl_27 hS1) (by omega) (by decide) (by decide) ?_
  refine Vg.nm (fun h2 eh2 => ?_)
  have hS2 : Sh h2 := by rw [eh2]; exact hS1.si _ _
  have hc2_25_5 : fI h2 25 5 = nI (z) := by rw [eh2]; first | (simp only [fI_si, fI_sl, fI_sJ]; exact hc1_25_5) | (rw [fI_sI_ne (by omega)]; exact hc1_25_5) | (rw [fI_sI_k (by decide)]; exact hc1_25_5) | (simp (disch := omega) only [mixAdd, fI_si, fI_sl, fI_sJ, fI_sI_ne, fI_sI_k]; exact hc1_25_5)
  refine x_aload_n (q := 33) dX3_add_32 rfl rfl rfl ?_
  refine x_get (q := 36) dX3_add_33 rfl f_X3_18 (cl_25 hS2) rfl (by decide) ?_
  refine x_aload_n (q := 37) dX3_add_36 rfl rfl rfl ?_
  refine x_get (q := 40) dX3_add_37 rfl f_X3_28 (cl_25 hS2) rfl (by decide) ?_
  rw [hc2_25_5]
  refine x_iload_n (q := 41) dX3_add_40 rfl rfl rfl ?_
  refine z_iast (q := 42) (j := z) dX3_add_41 rfl (cl_28 hS2) (by omega) (by decide) (by decide) ?_
  refine Vg.nm (fun h3 eh3 => ?_)
  have hS3 : Sh h3 := by rw [eh3]; exact hS2.si _ _
  have hc3_25_5 : fI h3 25 5 = nI (z) := by rw [eh3]; first | (simp only [fI_si, fI_sl, fI_sJ]; exact hc2_25_5) | (rw [fI_sI_ne (by omega)]; exact hc2_25_5) | (rw [fI_sI_k (by decide)]; exact hc2_25_5) | (simp (disch := omega) only [mixAdd, fI_si, fI_sl, fI_sJ, fI_sI_ne, fI_sI_k]; exact hc2_25_5)
  refine x_aload_n (q := 43) dX3_add_42 rfl rfl rfl ?_
  refine x_get (q := 46) dX3_add_43 rfl f_X3_21 (cl_25 hS3) rfl (by decide) ?_
  refine x_aload_n (q := 47) dX3_add_46 rfl rfl rfl ?_
  refine x_get (q := 50) dX3_add_47 rfl f_X3_28 (cl_25 hS3) rfl (by decide) ?_
  rw [hc3_25_5]
  refine x_aload (q := 52) dX3_add_50 rfl rfl ?_
  refine x_get (q := 55) dX3_add_52 rfl f_X3_32 (cl_K hS3 ht) rfl (by omega) ?_
  refine z_iast (q := 56) (j := z) dX3_add_55 rfl (cl_29 hS3) (by omega) (by decide) (by decide) ?_
  refine Vg.nm (fun h4 eh4 => ?_)
  have hS4 : Sh h4 := by rw [eh4]; exact hS3.si _ _
  have hc4_25_5 : fI h4 25 5 = nI (z) := by rw [eh4]; first | (simp only [fI_si, fI_sl, fI_sJ]; exact hc3_25_5) | (rw [fI_sI_ne (by omega)]; exact hc3_25_5) | (rw [fI_sI_k (by decide)]; exact hc3_25_5) | (simp (disch := omega) only [mixAdd, fI_si, fI_sl, fI_sJ, fI_sI_ne, fI_sI_k]; exact hc3_25_5)
  refine x_aload_n (q := 57) dX3_add_56 rfl rfl rfl ?_
  refine x_get (q := 60) dX3_add_57 rfl f_X3_24 (cl_25 hS4) rfl (by decide) ?_
  refine x_aload_n (q := 61) dX3_add_60 rfl rfl rfl ?_
  refine x_get (q := 64) dX3_add_61 rfl f_X3_28 (cl_25 hS4) rfl (by decide) ?_
  rw [hc4_25_5]
  refine x_aload (q := 66) dX3_add_64 rfl rfl ?_
  refine x_get (q := 69) dX3_add_66 rfl f_X3_36 (cl_K hS4 ht) rfl (by omega) ?_
  refine x_get (q := 72) dX3_add_69 rfl f_X3_40 (cl_N hS4 ht) rfl (by omega) ?_
  refine z_last (q := 73) (j := z) dX3_add_72 rfl (cl_30 hS4) (by omega) (by decide) (by decide) ?_
  refine Vg.nm (fun h5 eh5 => ?_)
  have hS5 : Sh h5 := by rw [eh5]; exact hS4.sl _ _
  have hc5_25_5 : fI h5 25 5 = nI (z) := by rw [eh5]; first | (simp only [fI_si, fI_sl, fI_sJ]; exact hc4_25_5) | (rw [fI_sI_ne (by omega)]; exact hc4_25_5) | (rw [fI_sI_k (by decide)]; exact hc4_25_5) | (simp (disch := omega) only [mixAdd, fI_si, fI_sl, fI_sJ, fI_sI_ne, fI_sI_k]; exact hc4_25_5)
  refine x_aload_n (q := 74) dX3_add_73 rfl rfl rfl ?_
  refine x_dup (q := 75) dX3_add_74 rfl rfl ?_
  refine x_get (q := 78) dX3_add_75 rfl f_X3_28 (cl_25 hS5) rfl (by decide) ?_
  rw [hc5_25_5]
  refine x_iconst (q := 79) (v := 1) dX3_add_78 rfl (by decide) ?_
  refine x_iadd (q := 80) dX3_add_79 rfl ?_
  rw [nI_1 (z)]
  refine y_put (q := 83) dX3_add_80 rfl f_X3_28 (cl_25 hS5) rfl (by first | rfl | decide) (by first | rfl | decide) (by decide) ?_
  refine Vg.nm (fun h6 eh6 => ?_)
  have hS6 : Sh h6 := by rw [eh6]; exact hS5.sI _ _ _
  have hc6_25_5 : fI h6 25 5 = nI (z + 1) := by rw [eh6]; exact fI_sI_eq hS5 (by decide) (by decide) rfl _
  refine x_aload_n (q := 84) dX3_add_83 rfl rfl rfl ?_
  refine x_get (q := 87) dX3_add_84 rfl f_X3_28 (cl_25 hS6) rfl (by decide) ?_
  rw [hc6_25_5]
  refine x_iconst (q := 88) (v := 1) dX3_add_87 rfl (by decide) ?_
  refine x_isub (q := 89) dX3_add_88 rfl ?_
  rw [nI_pred (z)]
  exact x_iret dX3_add_89 ⟨_, rfl, by first | rfl | (split <;> rfl)⟩ rfl (Nat.le_refl _) rfl ⟨rfl, by subst_vars; simp (disch := omega) only [yadF, gi_si_ne, gi_sI, gi_sJ, gi_sl, gl_sl_ne, gl_si, gl_sI, gl_sJ, fI_si, fI_sl, fI_sJ, fI_sI_ne, fI_sI_k, fJ_si, fJ_sl, fJ_sI, fJ_sJ_ne]⟩

abbrev bt (x : Int64) (l : Int32) : Prop := ¬ (x >>> (l.toInt64 &&& 63)) &&& 1 = 0
theorem btn {c : Prop} {hdc : Decidable c} (h : (if c then (0 : Int32) else 1) = 0) : c := Classical.byContradiction fun hc => by rw [if_neg hc] at h; exact absurd h (by decide)
theorem bty {c : Prop} {hdc : Decidable c} (h : ¬ (if c then (0 : Int32) else 1) = 0) : ¬ c := fun hc => h (if_pos hc)
def cnB (g : Nat → Bool) : Nat → Int32
  | 0 => 0
  | n + 1 => if g n = true then cnB g n + 1 else cnB g n
theorem cnB_t {g : Nat → Bool} {n : Nat} (e : g n = true) : cnB g (n + 1) = cnB g n + 1 := if_pos e
theorem cnB_f {g : Nat → Bool} {n : Nat} (e : ¬ g n = true) : cnB g (n + 1) = cnB g n := if_neg e
set_option maxHeartbeats 4000000 in
set_option maxRecDepth 100000 in
theorem lp_countWith {h : HF} (hS : Sh h) (l : Nat) (z : Nat) (hz : fI h 25 5 = nI z) (hz1 : z ≤ 100) : ∀ (k i : Nat), i + k = z → Vg mX3_countWith none (QM mX3_countWith 170 (RI (cnB (fun j => decide (bt (gl h 30 j) (nI l))) z) h)) 4 [some (.ref 25), some (.int (nI l)), some (.int (cnB (fun j => decide (bt (gl h 30 j) (nI l))) i)), some (.int (nI i))] [] 170 h 0 0 := by
  intro k
  induction k with
  | zero =>
    intro i hi
    obtain rfl : i = z := by omega
    refine x_iload_n (q := 5) dX3_countWith_4 rfl rfl rfl ?_
    refine x_aload_n (q := 6) dX3_countWith_5 rfl rfl rfl ?_
    refine x_get (q := 9) dX3_countWith_6 rfl f_X3_28 (cl_25 hS) rfl (by decide) ?_
    rw [hz]
    refine x_ic_ge (q := 12) (t := 34) dX3_countWith_9 rfl (by decide) (fun _ => ?_) (fun c_ => absurd (nI_le (Nat.le_refl _) (by omega)) c_)
    refine x_iload_n (q := 35) dX3_countWith_34 rfl rfl rfl ?_
    exact x_iret dX3_countWith_35 ⟨_, rfl, by first | rfl | (split <;> rfl)⟩ rfl (Nat.le_refl _) rfl ⟨rfl, rfl⟩
  | succ k ih =>
    intro i hi
    refine x_iload_n (q := 5) dX3_countWith_4 rfl rfl rfl ?_
    refine x_aload_n (q := 6) dX3_countWith_5 rfl rfl rfl ?_
    refine x_get (q := 9) dX3_countWith_6 rfl f_X3_28 (cl_25 hS) rfl (by decide) ?_
    rw [hz]
    refine x_ic_ge (q := 12) (t := 34) dX3_countWith_9 rfl (by decide) (fun c_ => absurd c_ (nI_ge (by omega) (by omega))) (fun _ => ?_)
    refine x_aload_n (q := 13) dX3_countWith_12 rfl rfl rfl ?_
    refine x_get (q := 16) dX3_countWith_13 rfl f_X3_24 (cl_25 hS) rfl (by decide) ?_
    refine x_iload_n (q := 17) dX3_countWith_16 rfl rfl rfl ?_
    refine z_lald (q := 18) (j := i) dX3_countWith_17 rfl (cl_30 hS) (by omega) (by decide) (by decide) ?_
    refine x_iload_n (q := 19) dX3_countWith_18 rfl rfl rfl ?_
    refine y_csI (q := 22) dX3_countWith_19 rfl l_X3_45 (c_X9_hasBit hS _ _) rfl rfl rfl rfl rfl rfl ?_
    refine x_if_eq (q := 25) (t := 28) dX3_countWith_22 rfl (by decide) (fun c_22 => ?_) (fun c_22 => ?_)
    · refine x_iinc (q := 31) (v := nI (i + 1)) dX3_countWith_28 rfl rfl (nI_inc _) (by decide) ?_
      refine x_goto (q := 4) dX3_countWith_31 (by decide) ?_
      have t9 := ih (i + 1) (by omega)
      first | (rw [cnB_f (by rw [decide_eq_true_eq]; exact fun z => z (btn c_22))] at t9; exact t9) | (rw [cnB_t (by rw [decide_eq_true_eq]; exact bty c_22)] at t9; exact t9)
    · refine x_iinc (q := 28) dX3_countWith_25 rfl rfl rfl (by decide) ?_
      refine x_iinc (q := 31) (v := nI (i + 1)) dX3_countWith_28 rfl rfl (nI_inc _) (by decide) ?_
      refine x_goto (q := 4) dX3_countWith_31 (by decide) ?_
      have t9 := ih (i + 1) (by omega)
      first | (rw [cnB_f (by rw [decide_eq_true_eq]; exact fun z => z (btn c_22))] at t9; exact t9) | (rw [cnB_t (by rw [decide_eq_true_eq]; exact bty c_22)] at t9; exact t9)

set_option maxHeartbeats 4000000 in
set_option maxRecDepth 100000 in
theorem c_X3_countWith {h : HF} (hS : Sh h) (l : Nat) (z : Nat) (hz : fI h 25 5 = nI z) (hz1 : z ≤ 100) : Mc mX3_countWith [.ref 25, .int (nI l)] 170 h (RI (cnB (fun j => decide (bt (gl h 30 j) (nI l))) z) h) := by
  refine Mc.of (by decide) rfl (Nat.le_of_ble_eq_true rfl) ?_
  refine x_iconst (q := 1) (v := 0) dX3_countWith_0 rfl (by decide) ?_
  refine x_istore_n (q := 2) dX3_countWith_1 rfl rfl (by decide) ?_
  refine x_iconst (q := 3) (v := 0) dX3_countWith_2 rfl (by decide) ?_
  refine x_istore_n (q := 4) dX3_countWith_3 rfl rfl (by decide) ?_
  exact lp_countWith hS l z hz hz1 z 0 (by omega)

