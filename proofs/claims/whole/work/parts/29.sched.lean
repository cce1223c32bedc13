set_option maxHeartbeats 4000000 in
set_option maxRecDepth 100000 in
theorem c_X6_add_full {h : HF} (hS : Sh h) (a b c d : Int32) (hz : fI h 31 4 = nI 8) : Mc mX6_add [.ref 31, .int a, .int b, .int c, .int d] 170 h (RI (-6) h) := by
  refine Mc.of (by decide) rfl (Nat.le_of_ble_eq_true rfl) ?_
  refine x_aload_n (q := 1) dX6_add_0 rfl rfl rfl ?_
  refine x_get (q := 4) dX6_add_1 rfl f_X6_24 (cl_31 hS) rfl (by decide) ?_
  rw [hz]
  refine x_bipush (q := 6) (v := 8) dX6_add_4 rfl (by decide) ?_
  refine x_ic_lt (q := 9) (t := 12) dX6_add_6 rfl (by decide) (fun c_ => absurd c_ (by decide)) (fun _ => ?_)
  refine x_bipush (q := 11) (v := -6) dX6_add_9 rfl (by decide) ?_
  exact x_iret dX6_add_11 ⟨_, rfl, by first | rfl | (split <;> rfl)⟩ rfl (Nat.le_refl _) rfl ⟨rfl, rfl⟩

set_option maxHeartbeats 4000000 in
set_option maxRecDepth 100000 in
theorem c_X6_add {h : HF} (hS : Sh h) (a b c d : Int32) (z : Nat) (hz : fI h 31 4 = nI z) (hlt : z < 8) : Mc mX6_add [.ref 31, .int a, .int b, .int c, .int d] 170 h (RI (nI z) (sI (si (si (si (si h 32 (upd (gi h 32) z a)) 33 (upd (gi h 33) z b)) 34 (upd (gi h 34) z c)) 35 (upd (gi h 35) z d)) 31 4 (nI (z + 1)))) := by
  refine Mc.of (by decide) rfl (Nat.le_of_ble_eq_true rfl) ?_
  refine x_aload_n (q := 1) dX6_add_0 rfl rfl rfl ?_
  refine x_get (q := 4) dX6_add_1 rfl f_X6_24 (cl_31 hS) rfl (by decide) ?_
  rw [hz]
  refine x_bipush (q := 6) (v := 8) dX6_add_4 rfl (by decide) ?_
  refine x_ic_lt (q := 9) (t := 12) dX6_add_6 rfl (by decide) (fun _ => ?_) (fun c_ => absurd (show nI z < nI 8 from nI_lt hlt (by decide)) c_)
  refine x_aload_n (q := 13) dX6_add_12 rfl rfl rfl ?_
  refine x_get (q := 16) dX6_add_13 rfl f_X6_9 (cl_31 hS) rfl (by decide) ?_
  refine x_aload_n (q := 17) dX6_add_16 rfl rfl rfl ?_
  refine x_get (q := 20) dX6_add_17 rfl f_X6_24 (cl_31 hS) rfl (by decide) ?_
  rw [hz]
  refine x_iload_n (q := 21) dX6_add_20 rfl rfl rfl ?_
  refine z_iast (q := 22) (j := z) dX6_add_21 rfl (cl_32 hS) (by omega) (by decide) (by decide) ?_
  refine Vg.nm (fun h1 eh1 => ?_)
  have hS1 : Sh h1 := by rw [eh1]; exact hS.si _ _
  have hc1_31_4 : fI h1 31 4 = nI (z) := by rw [eh1]; first | (simp only [fI_si, fI_sl, fI_sJ]; exact hz) | (rw [fI_sI_ne (by omega)]; exact hz) | (rw [fI_sI_k (by decide)]; exact hz) | (simp (disch := omega) only [mixAdd, fI_si, fI_sl, fI_sJ, fI_sI_ne, fI_sI_k]; exact hz)
  refine x_aload_n (q := 23) dX6_add_22 rfl rfl rfl ?_
  refine x_get (q := 26) dX6_add_23 rfl f_X6_15 (cl_31 hS1) rfl (by decide) ?_
  refine x_aload_n (q := 27) dX6_add_26 rfl rfl rfl ?_
  refine x_get (q := 30) dX6_add_27 rfl f_X6_24 (cl_31 hS1) rfl (by decide) ?_
  rw [hc1_31_4]
  refine x_iload_n (q := 31) dX6_add_30 rfl rfl rfl ?_
  refine z_iast (q := 32) (j := z) dX6_add_31 rfl (cl_33 hS1) (by omega) (by decide) (by decide) ?_
  refine Vg.nm (fun h2 eh2 => ?_)
  have hS2 : Sh h2 := by rw [eh2]; exact hS1.si _ _
  have hc2_31_4 : fI h2 31 4 = nI (z) := by rw [eh2]; first | (simp only [fI_si, fI_sl, fI_sJ]; exact hc1_31_4) | (rw [fI_sI_ne (by omega)]; exact hc1_31_4) | (rw [fI_sI_k (by decide)]; exact hc1_31_4) | (simp (disch := omega) only [mixAdd, fI_si, fI_sl, fI_sJ, fI_sI_ne, fI_sI_k]; exact hc1_31_4)
  refine x_aload_n (q := 33) dX6_add_32 rfl rfl rfl ?_
  refine x_get (q := 36) dX6_add_33 rfl f_X6_18 (cl_31 hS2) rfl (by decide) ?_
  refine x_aload_n (q := 37) dX6_add_36 rfl rfl rfl ?_
  refine x_get (q := 40) dX6_add_37 rfl f_X6_24 (cl_31 hS2) rfl (by decide) ?_
  rw [hc2_31_4]
  refine x_iload_n (q := 41) dX6_add_40 rfl rfl rfl ?_
  refine z_iast (q := 42) (j := z) dX6_add_41 rfl (cl_34 hS2) (by omega) (by decide) (by decide) ?_
  refine Vg.nm (fun h3 eh3 => ?_)
  have hS3 : Sh h3 := by rw [eh3]; exact hS2.si _ _
  have hc3_31_4 : fI h3 31 4 = nI (z) := by rw [eh3]; first | (simp only [fI_si, fI_sl, fI_sJ]; exact hc2_31_4) | (rw [fI_sI_ne (by omega)]; exact hc2_31_4) | (rw [fI_sI_k (by decide)]; exact hc2_31_4) | (simp (disch := omega) only [mixAdd, fI_si, fI_sl, fI_sJ, fI_sI_ne, fI_sI_k]; exact hc2_31_4)
  refine x_aload_n (q := 43) dX6_add_42 rfl rfl rfl ?_
  refine x_get (q := 46) dX6_add_43 rfl f_X6_21 (cl_31 hS3) rfl (by decide) ?_
  refine x_aload_n (q := 47) dX6_add_46 rfl rfl rfl ?_
  refine x_get (q := 50) dX6_add_47 rfl f_X6_24 (cl_31 hS3) rfl (by decide) ?_
  rw [hc3_31_4]
  refine x_iload (q := 52) dX6_add_50 rfl rfl ?_
  refine z_iast (q := 53) (j := z) dX6_add_52 rfl (cl_35 hS3) (by omega) (by decide) (by decide) ?_
  refine Vg.nm (fun h4 eh4 => ?_)
  have hS4 : Sh h4 := by rw [eh4]; exact hS3.si _ _
  have hc4_31_4 : fI h4 31 4 = nI (z) := by rw [eh4]; first | (simp only [fI_si, fI_sl, fI_sJ]; exact hc3_31_4) | (rw [fI_sI_ne (by omega)]; exact hc3_31_4) | (rw [fI_sI_k (by decide)]; exact hc3_31_4) | (simp (disch := omega) only [mixAdd, fI_si, fI_sl, fI_sJ, fI_sI_ne, fI_sI_k]; exact hc3_31_4)
  refine x_aload_n (q := 54) dX6_add_53 rfl rfl rfl ?_
  refine x_dup (q := 55) dX6_add_54 rfl rfl ?_
  refine x_get (q := 58) dX6_add_55 rfl f_X6_24 (cl_31 hS4) rfl (by decide) ?_
  rw [hc4_31_4]
  refine x_iconst (q := 59) (v := 1) dX6_add_58 rfl (by decide) ?_
  refine x_iadd (q := 60) dX6_add_59 rfl ?_
  rw [nI_1 (z)]
  refine y_put (q := 63) dX6_add_60 rfl f_X6_24 (cl_31 hS4) rfl (by first | rfl | decide) (by first | rfl | decide) (by decide) ?_
  refine Vg.nm (fun h5 eh5 => ?_)
  have hS5 : Sh h5 := by rw [eh5]; exact hS4.sI _ _ _
  have hc5_31_4 : fI h5 31 4 = nI (z + 1) := by rw [eh5]; exact fI_sI_eq hS4 (by decide) (by decide) rfl _
  refine x_aload_n (q := 64) dX6_add_63 rfl rfl rfl ?_
  refine x_get (q := 67) dX6_add_64 rfl f_X6_24 (cl_31 hS5) rfl (by decide) ?_
  rw [hc5_31_4]
  refine x_iconst (q := 68) (v := 1) dX6_add_67 rfl (by decide) ?_
  refine x_isub (q := 69) dX6_add_68 rfl ?_
  rw [nI_pred (z)]
  exact x_iret dX6_add_69 ⟨_, rfl, by first | rfl | (split <;> rfl)⟩ rfl (Nat.le_refl _) rfl ⟨rfl, by subst_vars; first | rfl | (simp (disch := decide) only [gi_si_ne, gi_sI, gi_sJ, gi_sl, gl_sl_ne, gl_si, gl_sI, gl_sJ, fI_si, fI_sl, fI_sJ, fI_sI_ne, fI_sI_k, fJ_si, fJ_sl, fJ_sI, fJ_sJ_ne]; done) | (simp (disch := decide) only [gi_si_ne, gi_sI, gi_sJ, gi_sl, gl_sl_ne, gl_si, gl_sI, gl_sJ, fI_si, fI_sl, fI_sJ, fI_sI_ne, fI_sI_k, fJ_si, fJ_sl, fJ_sI, fJ_sJ_ne]; rfl)⟩

set_option maxHeartbeats 4000000 in
set_option maxRecDepth 100000 in
theorem c_X6_tellChange {h : HF} (hS : Sh h) (f t : Nat) (v : Int32) (hf : f < 6) (ht : t < 6) : Mc mX6_tellChange [.ref 31, .int (nI f), .int (nI t), .int v] 170 h (RI (gi h 36 (f * 6 + t)) (si h 36 (upd (gi h 36) (f * 6 + t) v))) := by
  refine Mc.of (by decide) rfl (Nat.le_of_ble_eq_true rfl) ?_
  refine x_aload_n (q := 1) dX6_tellChange_0 rfl rfl rfl ?_
  refine x_get (q := 4) dX6_tellChange_1 rfl f_X6_28 (cl_31 hS) rfl (by decide) ?_
  refine x_iload_n (q := 5) dX6_tellChange_4 rfl rfl rfl ?_
  refine x_bipush (q := 7) (v := 6) dX6_tellChange_5 rfl (by decide) ?_
  refine x_imul (q := 8) dX6_tellChange_7 rfl ?_
  refine x_iload_n (q := 9) dX6_tellChange_8 rfl rfl rfl ?_
  refine x_iadd (q := 10) dX6_tellChange_9 rfl ?_
  rw [ix6]
  refine z_iald (q := 11) (j := f * 6 + t) dX6_tellChange_10 rfl (cl_36 hS) (by omega) (by decide) (by decide) ?_
  refine x_istore (q := 13) dX6_tellChange_11 rfl (by decide) ?_
  refine x_aload_n (q := 14) dX6_tellChange_13 rfl rfl rfl ?_
  refine x_get (q := 17) dX6_tellChange_14 rfl f_X6_28 (cl_31 hS) rfl (by decide) ?_
  refine x_iload_n (q := 18) dX6_tellChange_17 rfl rfl rfl ?_
  refine x_bipush (q := 20) (v := 6) dX6_tellChange_18 rfl (by decide) ?_
  refine x_imul (q := 21) dX6_tellChange_20 rfl ?_
  refine x_iload_n (q := 22) dX6_tellChange_21 rfl rfl rfl ?_
  refine x_iadd (q := 23) dX6_tellChange_22 rfl ?_
  rw [ix6]
  refine x_iload_n (q := 24) dX6_tellChange_23 rfl rfl rfl ?_
  refine z_iast (q := 25) (j := f * 6 + t) dX6_tellChange_24 rfl (cl_36 hS) (by omega) (by decide) (by decide) ?_
  refine Vg.nm (fun h1 eh1 => ?_)
  have hS1 : Sh h1 := by rw [eh1]; exact hS.si _ _
  refine x_iload (q := 27) dX6_tellChange_25 rfl rfl ?_
  exact x_iret dX6_tellChange_27 ⟨_, rfl, by first | rfl | (split <;> rfl)⟩ rfl (Nat.le_refl _) rfl ⟨rfl, by subst_vars; rfl⟩

theorem bt_tb0 : ∀ (D : Fin 256) (i : Fin 8), (((nI D.val).toInt64 >>> ((nI i.val).toInt64 &&& 63)) &&& 1 = 0) ↔ D.val.testBit i.val = false := by decide +kernel
theorem bt_tb {D i : Nat} (hD : D < 256) (hi : i < 8) : (((nI D).toInt64 >>> ((nI i).toInt64 &&& 63)) &&& 1 = 0) ↔ D.testBit i = false := bt_tb0 ⟨D, hD⟩ ⟨i, hi⟩
theorem or1_0 : ∀ (D : Fin 256) (j : Fin 8), nI D.val ||| ((1 : Int32) <<< (nI j.val &&& 31)) = nI (D.val ||| 2 ^ j.val) := by decide +kernel
theorem or1 {D j : Nat} (hD : D < 256) (hj : j < 8) : nI D ||| ((1 : Int32) <<< (nI j &&& 31)) = nI (D ||| 2 ^ j) := or1_0 ⟨D, hD⟩ ⟨j, hj⟩
theorem or_lt {D j : Nat} (hD : D < 256) (hj : j < 8) : D ||| 2 ^ j < 256 := Nat.or_lt_two_pow (n := 8) hD (Nat.pow_lt_pow_right (by decide) hj)
theorem shl1_0 : ∀ (z : Fin 9), (1 : Int32) <<< (nI z.val &&& 31) = nI (2 ^ z.val) := by decide +kernel
theorem shl1 {z : Nat} (hz : z ≤ 8) : (1 : Int32) <<< (nI z &&& 31) = nI (2 ^ z) := shl1_0 ⟨z, by omega⟩
def tsum (T : Nat → Int32) (D : Nat) : Nat → Int32
  | 0 => 0
  | n + 1 => if D.testBit n = true then tsum T D n + T n else tsum T D n
theorem tsum_t {T : Nat → Int32} {D n : Nat} (e : D.testBit n = true) : tsum T D (n + 1) = tsum T D n + T n := if_pos e
theorem tsum_f {T : Nat → Int32} {D n : Nat} (e : D.testBit n = false) : tsum T D (n + 1) = tsum T D n := if_neg (by rw [e]; decide)
theorem tb_t {b : Bool} (h : ¬ b = false) : b = true := by cases b <;> simp_all
set_option maxHeartbeats 4000000 in
set_option maxRecDepth 100000 in
theorem lp_tos {h : HF} (hS : Sh h) (D : Nat) (hD : D < 256) (z : Nat) (hz : fI h 31 4 = nI z) (hz8 : z ≤ 8) : ∀ (k i : Nat), i + k = z → Vg mX6_timeOfSet none (QM mX6_timeOfSet 170 (RI (tsum (gi h 33) D z) h)) 4 [some (.ref 31), some (.int (nI D)), some (.int (tsum (gi h 33) D i)), some (.int (nI i))] [] 170 h 0 0 := by
  intro k
  induction k with
  | zero =>
    intro i hi
    obtain rfl : i = z := by omega
    refine x_iload_n (q := 5) dX6_timeOfSet_4 rfl rfl rfl ?_
    refine x_aload_n (q := 6) dX6_timeOfSet_5 rfl rfl rfl ?_
    refine x_get (q := 9) dX6_timeOfSet_6 rfl f_X6_24 (cl_31 hS) rfl (by decide) ?_
    rw [hz]
    refine x_ic_ge (q := 12) (t := 36) dX6_timeOfSet_9 rfl (by decide) (fun _ => ?_) (fun c_ => absurd (nI_le (Nat.le_refl _) (by omega)) c_)
    refine x_iload_n (q := 37) dX6_timeOfSet_36 rfl rfl rfl ?_
    exact x_iret dX6_timeOfSet_37 ⟨_, rfl, by first | rfl | (split <;> rfl)⟩ rfl (Nat.le_refl _) rfl ⟨rfl, rfl⟩
  | succ k ih =>
    intro i hi
    refine x_iload_n (q := 5) dX6_timeOfSet_4 rfl rfl rfl ?_
    refine x_aload_n (q := 6) dX6_timeOfSet_5 rfl rfl rfl ?_
    refine x_get (q := 9) dX6_timeOfSet_6 rfl f_X6_24 (cl_31 hS) rfl (by decide) ?_
    rw [hz]
    refine x_ic_ge (q := 12) (t := 36) dX6_timeOfSet_9 rfl (by decide) (fun c_ => absurd c_ (nI_ge (by omega) (by omega))) (fun _ => ?_)
    refine x_iload_n (q := 13) dX6_timeOfSet_12 rfl rfl rfl ?_
    refine x_i2l (q := 14) dX6_timeOfSet_13 rfl ?_
    refine x_iload_n (q := 15) dX6_timeOfSet_14 rfl rfl rfl ?_
    refine y_csI (q := 18) dX6_timeOfSet_15 rfl l_X6_56 (c_X9_hasBit hS _ _) rfl rfl rfl rfl rfl rfl ?_
    refine x_if_eq (q := 21) (t := 30) dX6_timeOfSet_18 rfl (by decide) (fun c_18 => ?_) (fun c_18 => ?_)
    · refine x_iinc (q := 33) (v := nI (i + 1)) dX6_timeOfSet_30 rfl rfl (nI_inc _) (by decide) ?_
      refine x_goto (q := 4) dX6_timeOfSet_33 (by decide) ?_
      have t9 := ih (i + 1) (by omega)
      first | (rw [tsum_f ((bt_tb hD (by omega)).mp (btn c_18))] at t9; exact t9) | (rw [tsum_t (tb_t (fun z => bty c_18 ((bt_tb hD (by omega)).mpr z)))] at t9; exact t9)
    · refine x_iload_n (q := 22) dX6_timeOfSet_21 rfl rfl rfl ?_
      refine x_aload_n (q := 23) dX6_timeOfSet_22 rfl rfl rfl ?_
      refine x_get (q := 26) dX6_timeOfSet_23 rfl f_X6_15 (cl_31 hS) rfl (by decide) ?_
      refine x_iload_n (q := 27) dX6_timeOfSet_26 rfl rfl rfl ?_
      refine z_iald (q := 28) (j := i) dX6_timeOfSet_27 rfl (cl_33 hS) (by omega) (by decide) (by decide) ?_
      refine x_iadd (q := 29) dX6_timeOfSet_28 rfl ?_
      refine x_istore_n (q := 30) dX6_timeOfSet_29 rfl rfl (by decide) ?_
      refine x_iinc (q := 33) (v := nI (i + 1)) dX6_timeOfSet_30 rfl rfl (nI_inc _) (by decide) ?_
      refine x_goto (q := 4) dX6_timeOfSet_33 (by decide) ?_
      have t9 := ih (i + 1) (by omega)
      first | (rw [tsum_f ((bt_tb hD (by omega)).mp (btn c_18))] at t9; exact t9) | (rw [tsum_t (tb_t (fun z => bty c_18 ((bt_tb hD (by omega)).mpr z)))] at t9; exact t9)

set_option maxHeartbeats 4000000 in
set_option maxRecDepth 100000 in
theorem c_X6_timeOfSet {h : HF} (hS : Sh h) (D : Nat) (hD : D < 256) (z : Nat) (hz : fI h 31 4 = nI z) (hz8 : z ≤ 8) : Mc mX6_timeOfSet [.ref 31, .int (nI D)] 170 h (RI (tsum (gi h 33) D z) h) := by
  refine Mc.of (by decide) rfl (Nat.le_of_ble_eq_true rfl) ?_
  refine x_iconst (q := 1) (v := 0) dX6_timeOfSet_0 rfl (by decide) ?_
  refine x_istore_n (q := 2) dX6_timeOfSet_1 rfl rfl (by decide) ?_
  refine x_iconst (q := 3) (v := 0) dX6_timeOfSet_2 rfl (by decide) ?_
  refine x_istore_n (q := 4) dX6_timeOfSet_3 rfl rfl (by decide) ?_
  exact lp_tos hS D hD z hz hz8 z 0 (by omega)

def hN (h : HF) (j : Nat) : Nat := (gi h 32 j).toNatClampNeg
def cwF (h : HF) (j D u : Nat) (c : Int32) : Int32 := gi h 36 (u * 6 + hN h j) + gi h 35 j * maxI 0 (c + gi h 33 j - gi h 34 j) + gi h 37 ((D ||| 2 ^ j) * 6 + hN h j)
def okH (h : HF) (z : Nat) : Prop := ∀ j, j < z → gi h 32 j = nI (hN h j) ∧ hN h j < 6
set_option maxHeartbeats 4000000 in
set_option maxRecDepth 100000 in
theorem c_X6_costWith {h : HF} (hS : Sh h) (j D u : Nat) (c : Int32) (hj : j < 8) (hD : D < 256) (hu : u < 6) (hw : gi h 32 j = nI (hN h j)) (hw6 : hN h j < 6) : Mc mX6_costWith [.ref 31, .int (nI j), .int (nI D), .int (nI u), .int c] 170 h (RI (cwF h j D u c) h) := by
  have hor := or_lt hD hj
  refine Mc.of (by decide) rfl (Nat.le_of_ble_eq_true rfl) ?_
  refine x_iconst (q := 1) (v := 0) dX6_costWith_0 rfl (by decide) ?_
  refine x_iload (q := 3) dX6_costWith_1 rfl rfl ?_
  refine x_aload_n (q := 4) dX6_costWith_3 rfl rfl rfl ?_
  refine x_get (q := 7) dX6_costWith_4 rfl f_X6_15 (cl_31 hS) rfl (by decide) ?_
  refine x_iload_n (q := 8) dX6_costWith_7 rfl rfl rfl ?_
  refine z_iald (q := 9) (j := j) dX6_costWith_8 rfl (cl_33 hS) (by omega) (by decide) (by decide) ?_
  refine x_iadd (q := 10) dX6_costWith_9 rfl ?_
  refine x_aload_n (q := 11) dX6_costWith_10 rfl rfl rfl ?_
  refine x_get (q := 14) dX6_costWith_11 rfl f_X6_18 (cl_31 hS) rfl (by decide) ?_
  refine x_iload_n (q := 15) dX6_costWith_14 rfl rfl rfl ?_
  refine z_iald (q := 16) (j := j) dX6_costWith_15 rfl (cl_34 hS) (by omega) (by decide) (by decide) ?_
  refine x_isub (q := 17) dX6_costWith_16 rfl ?_
  refine y_csI (q := 20) dX6_costWith_17 rfl l_X6_60 (c_J9_max_7cf53 hS _ _) rfl rfl rfl rfl rfl rfl ?_
  refine x_istore (q := 22) dX6_costWith_20 rfl (by decide) ?_
  refine x_aload_n (q := 23) dX6_costWith_22 rfl rfl rfl ?_
  refine x_get (q := 26) dX6_costWith_23 rfl f_X6_31 (cl_31 hS) rfl (by decide) ?_
  refine x_iload_n (q := 27) dX6_costWith_26 rfl rfl rfl ?_
  refine x_iconst (q := 28) (v := 1) dX6_costWith_27 rfl (by decide) ?_
  refine x_iload_n (q := 29) dX6_costWith_28 rfl rfl rfl ?_
  refine x_ishl (q := 30) dX6_costWith_29 rfl ?_
  refine x_ior (q := 31) dX6_costWith_30 rfl ?_
  rw [or1 hD hj]
  refine x_bipush (q := 33) (v := 6) dX6_costWith_31 rfl (by decide) ?_
  refine x_imul (q := 34) dX6_costWith_33 rfl ?_
  refine x_aload_n (q := 35) dX6_costWith_34 rfl rfl rfl ?_
  refine x_get (q := 38) dX6_costWith_35 rfl f_X6_9 (cl_31 hS) rfl (by decide) ?_
  refine x_iload_n (q := 39) dX6_costWith_38 rfl rfl rfl ?_
  refine z_iald (q := 40) (j := j) dX6_costWith_39 rfl (cl_32 hS) (by omega) (by decide) (by decide) ?_
  rw [hw]
  refine x_iadd (q := 41) dX6_costWith_40 rfl ?_
  rw [ix6]
  refine z_iald (q := 42) (j := (D ||| 2 ^ j) * 6 + hN h j) dX6_costWith_41 rfl (cl_37 hS) (by omega) (by decide) (by decide) ?_
  refine x_istore (q := 44) dX6_costWith_42 rfl (by decide) ?_
  refine x_aload_n (q := 45) dX6_costWith_44 rfl rfl rfl ?_
  refine x_get (q := 48) dX6_costWith_45 rfl f_X6_28 (cl_31 hS) rfl (by decide) ?_
  refine x_iload_n (q := 49) dX6_costWith_48 rfl rfl rfl ?_
  refine x_bipush (q := 51) (v := 6) dX6_costWith_49 rfl (by decide) ?_
  refine x_imul (q := 52) dX6_costWith_51 rfl ?_
  refine x_aload_n (q := 53) dX6_costWith_52 rfl rfl rfl ?_
  refine x_get (q := 56) dX6_costWith_53 rfl f_X6_9 (cl_31 hS) rfl (by decide) ?_
  refine x_iload_n (q := 57) dX6_costWith_56 rfl rfl rfl ?_
  refine z_iald (q := 58) (j := j) dX6_costWith_57 rfl (cl_32 hS) (by omega) (by decide) (by decide) ?_
  rw [hw]
  refine x_iadd (q := 59) dX6_costWith_58 rfl ?_
  rw [ix6]
  refine z_iald (q := 60) (j := u * 6 + hN h j) dX6_costWith_59 rfl (cl_36 hS) (by omega) (by decide) (by decide) ?_
  refine x_aload_n (q := 61) dX6_costWith_60 rfl rfl rfl ?_
  refine x_get (q := 64) dX6_costWith_61 rfl f_X6_21 (cl_31 hS) rfl (by decide) ?_
  refine x_iload_n (q := 65) dX6_costWith_64 rfl rfl rfl ?_
  refine z_iald (q := 66) (j := j) dX6_costWith_65 rfl (cl_35 hS) (by omega) (by decide) (by decide) ?_
  refine x_iload (q := 68) dX6_costWith_66 rfl rfl ?_
  refine x_imul (q := 69) dX6_costWith_68 rfl ?_
  refine x_iadd (q := 70) dX6_costWith_69 rfl ?_
  refine x_iload (q := 72) dX6_costWith_70 rfl rfl ?_
  refine x_iadd (q := 73) dX6_costWith_72 rfl ?_
  exact x_iret dX6_costWith_73 ⟨_, rfl, by first | rfl | (split <;> rfl)⟩ rfl (Nat.le_refl _) rfl ⟨rfl, rfl⟩

def bnR (cost : Nat → Int32) (D : Nat) : Nat → Option (Nat × Int32)
  | 0 => none
  | n + 1 => if D.testBit n = true then bnR cost D n else match bnR cost D n with
    | none => some (n, cost n)
    | some (m, l) => if cost n < l then some (n, cost n) else some (m, l)
theorem bnR_b {cost : Nat → Int32} {D n : Nat} (e : D.testBit n = true) : bnR cost D (n + 1) = bnR cost D n := if_pos e
theorem bnR_n {cost : Nat → Int32} {D n : Nat} (e : D.testBit n = false) (hn : bnR cost D n = none) : bnR cost D (n + 1) = some (n, cost n) := by
  rw [bnR, if_neg (by rw [e]; decide), hn]
theorem bnR_l {cost : Nat → Int32} {D n m : Nat} {l : Int32} (e : D.testBit n = false) (hn : bnR cost D n = some (m, l)) (hc : cost n < l) : bnR cost D (n + 1) = some (n, cost n) := by
  rw [bnR, if_neg (by rw [e]; decide), hn]; exact if_pos hc
theorem bnR_g {cost : Nat → Int32} {D n m : Nat} {l : Int32} (e : D.testBit n = false) (hn : bnR cost D n = some (m, l)) (hc : ¬ cost n < l) : bnR cost D (n + 1) = some (m, l) := by
  rw [bnR, if_neg (by rw [e]; decide), hn]; exact if_neg hc
theorem bnR_lt {cost : Nat → Int32} {D : Nat} : ∀ {n m : Nat} {l : Int32}, bnR cost D n = some (m, l) → m < n ∧ D.testBit m = false ∧ l = cost m
  | 0, m, l, e => by cases e
  | n + 1, m, l, e => by
    by_cases hb : D.testBit n = true
    · rw [bnR_b hb] at e
      obtain ⟨h1, h2⟩ := bnR_lt e
      exact ⟨by omega, h2⟩
    · have hb := Bool.eq_false_iff.mpr hb
      cases hn : bnR cost D n with
      | none => rw [bnR_n hb hn] at e; cases e; exact ⟨by omega, hb, rfl⟩
      | some q =>
        obtain ⟨m2, l2⟩ := q
        by_cases hc : cost n < l2
        · rw [bnR_l hb hn hc] at e; cases e; exact ⟨by omega, hb, rfl⟩
        · rw [bnR_g hb hn hc] at e; cases e
          obtain ⟨h1, h2⟩ := bnR_lt hn
          exact ⟨by omega, h2⟩
def oB (o : Option (Nat × Int32)) : Int32 := match o with
  | none => -1
  | some q => nI q.1
def lB (o : Option (Nat × Int32)) : Int32 := match o with
  | none => 0
  | some q => q.2
set_option maxHeartbeats 4000000 in
set_option maxRecDepth 100000 in
theorem lp_bn {h : HF} (hS : Sh h) (D u : Nat) (c : Int32) (hD : D < 256) (hu : u < 6) (z : Nat) (hz : fI h 31 4 = nI z) (hz8 : z ≤ 8) (hok : okH h z) : ∀ (k i : Nat), i + k = z → Vg mX6_bestNext none (QM mX6_bestNext 170 (RI (oB (bnR (fun j => cwF h j D u c) D z)) h)) 9 [some (.ref 31), some (.int (nI D)), some (.int (nI u)), some (.int c), some (.int (oB (bnR (fun j => cwF h j D u c) D i))), some (.int (lB (bnR (fun j => cwF h j D u c) D i))), some (.int (nI i)), none] [] 170 h 0 0 := by
  intro k
  induction k with
  | zero =>
    intro i hi
    obtain rfl : i = z := by omega
    refine x_iload (q := 11) dX6_bestNext_9 rfl rfl ?_
    refine x_aload_n (q := 12) dX6_bestNext_11 rfl rfl rfl ?_
    refine x_get (q := 15) dX6_bestNext_12 rfl f_X6_24 (cl_31 hS) rfl (by decide) ?_
    rw [hz]
    refine x_ic_ge (q := 18) (t := 69) dX6_bestNext_15 rfl (by decide) (fun _ => ?_) (fun c_ => absurd (nI_le (Nat.le_refl _) (by omega)) c_)
    refine x_iload (q := 71) dX6_bestNext_69 rfl rfl ?_
    exact x_iret dX6_bestNext_71 ⟨_, rfl, by first | rfl | (split <;> rfl)⟩ rfl (Nat.le_refl _) rfl ⟨rfl, rfl⟩
  | succ k ih =>
    intro i hi
    cases hn : (bnR (fun j => cwF h j D u c) D i) with
    | none =>
      refine x_iload (q := 11) dX6_bestNext_9 rfl rfl ?_
      refine x_aload_n (q := 12) dX6_bestNext_11 rfl rfl rfl ?_
      refine x_get (q := 15) dX6_bestNext_12 rfl f_X6_24 (cl_31 hS) rfl (by decide) ?_
      rw [hz]
      refine x_ic_ge (q := 18) (t := 69) dX6_bestNext_15 rfl (by decide) (fun c_ => absurd c_ (nI_ge (by omega) (by omega))) (fun _ => ?_)
      refine x_iload_n (q := 19) dX6_bestNext_18 rfl rfl rfl ?_
      refine x_i2l (q := 20) dX6_bestNext_19 rfl ?_
      refine x_iload (q := 22) dX6_bestNext_20 rfl rfl ?_
      refine y_csI (q := 25) dX6_bestNext_22 rfl l_X6_56 (c_X9_hasBit hS _ _) rfl rfl rfl rfl rfl rfl ?_
      refine x_if_eq (q := 28) (t := 31) dX6_bestNext_25 rfl (by decide) (fun c_25 => ?_) (fun c_25 => ?_)
      · refine x_aload_n (q := 32) dX6_bestNext_31 rfl rfl rfl ?_
        refine x_iload (q := 34) dX6_bestNext_32 rfl rfl ?_
        refine x_iload_n (q := 35) dX6_bestNext_34 rfl rfl rfl ?_
        refine x_iload_n (q := 36) dX6_bestNext_35 rfl rfl rfl ?_
        refine x_iload_n (q := 37) dX6_bestNext_36 rfl rfl rfl ?_
        refine y_cvI (q := 40) dX6_bestNext_37 rfl l_X6_48 (c_X6_costWith hS i D u c (by omega) hD hu (hok i (by omega)).1 (hok i (by omega)).2) rfl rfl (cl_31 hS) (by decide) rfl rfl rfl rfl ?_
        refine x_istore (q := 42) dX6_bestNext_40 rfl (by decide) ?_
        refine x_iload (q := 44) dX6_bestNext_42 rfl rfl ?_
        refine x_iconst (q := 45) (v := -1) dX6_bestNext_44 rfl (by decide) ?_
        refine x_ic_eq (q := 48) (t := 55) dX6_bestNext_45 rfl (by decide) (fun _ => ?_) (fun c_ => absurd rfl c_)
        refine x_iload (q := 57) dX6_bestNext_55 rfl rfl ?_
        refine x_istore (q := 59) dX6_bestNext_57 rfl (by decide) ?_
        refine x_iload (q := 61) dX6_bestNext_59 rfl rfl ?_
        refine x_istore (q := 63) dX6_bestNext_61 rfl (by decide) ?_
        refine x_iinc (q := 66) (v := nI (i + 1)) dX6_bestNext_63 rfl rfl (nI_inc _) (by decide) ?_
        refine x_goto (q := 9) dX6_bestNext_66 (by decide) ?_
        have t9 := ih (i + 1) (by omega)
        first | (rw [bnR_b (tb_t (fun z => bty c_25 ((bt_tb hD (by omega)).mpr z))), hn] at t9; exact Vg.weak t9 (by repeat first | exact trivial | refine ⟨rfl, ?_⟩)) | (rw [bnR_n ((bt_tb hD (by omega)).mp (btn c_25)) hn] at t9; exact Vg.weak t9 (by repeat first | exact trivial | refine ⟨rfl, ?_⟩))
      · refine x_goto (q := 63) dX6_bestNext_28 (by decide) ?_
        refine x_iinc (q := 66) (v := nI (i + 1)) dX6_bestNext_63 rfl rfl (nI_inc _) (by decide) ?_
        refine x_goto (q := 9) dX6_bestNext_66 (by decide) ?_
        have t9 := ih (i + 1) (by omega)
        first | (rw [bnR_b (tb_t (fun z => bty c_25 ((bt_tb hD (by omega)).mpr z))), hn] at t9; exact Vg.weak t9 (by repeat first | exact trivial | refine ⟨rfl, ?_⟩)) | (rw [bnR_n ((bt_tb hD (by omega)).mp (btn c_25)) hn] at t9; exact Vg.weak t9 (by repeat first | exact trivial | refine ⟨rfl, ?_⟩))
    | some q =>
      obtain ⟨m, l⟩ := q
      have hmi := (bnR_lt hn).1
      refine x_iload (q := 11) dX6_bestNext_9 rfl rfl ?_
      refine x_aload_n (q := 12) dX6_bestNext_11 rfl rfl rfl ?_
      refine x_get (q := 15) dX6_bestNext_12 rfl f_X6_24 (cl_31 hS) rfl (by decide) ?_
      rw [hz]
      refine x_ic_ge (q := 18) (t := 69) dX6_bestNext_15 rfl (by decide) (fun c_ => absurd c_ (nI_ge (by omega) (by omega))) (fun _ => ?_)
      refine x_iload_n (q := 19) dX6_bestNext_18 rfl rfl rfl ?_
      refine x_i2l (q := 20) dX6_bestNext_19 rfl ?_
      refine x_iload (q := 22) dX6_bestNext_20 rfl rfl ?_
      refine y_csI (q := 25) dX6_bestNext_22 rfl l_X6_56 (c_X9_hasBit hS _ _) rfl rfl rfl rfl rfl rfl ?_
      refine x_if_eq (q := 28) (t := 31) dX6_bestNext_25 rfl (by decide) (fun c_25 => ?_) (fun c_25 => ?_)
      · refine x_aload_n (q := 32) dX6_bestNext_31 rfl rfl rfl ?_
        refine x_iload (q := 34) dX6_bestNext_32 rfl rfl ?_
        refine x_iload_n (q := 35) dX6_bestNext_34 rfl rfl rfl ?_
        refine x_iload_n (q := 36) dX6_bestNext_35 rfl rfl rfl ?_
        refine x_iload_n (q := 37) dX6_bestNext_36 rfl rfl rfl ?_
        refine y_cvI (q := 40) dX6_bestNext_37 rfl l_X6_48 (c_X6_costWith hS i D u c (by omega) hD hu (hok i (by omega)).1 (hok i (by omega)).2) rfl rfl (cl_31 hS) (by decide) rfl rfl rfl rfl ?_
        refine x_istore (q := 42) dX6_bestNext_40 rfl (by decide) ?_
        refine x_iload (q := 44) dX6_bestNext_42 rfl rfl ?_
        refine x_iconst (q := 45) (v := -1) dX6_bestNext_44 rfl (by decide) ?_
        refine x_ic_eq (q := 48) (t := 55) dX6_bestNext_45 rfl (by decide) (fun c_ => absurd c_ (nI_m1 (by omega))) (fun _ => ?_)
        refine x_iload (q := 50) dX6_bestNext_48 rfl rfl ?_
        refine x_iload (q := 52) dX6_bestNext_50 rfl rfl ?_
        refine x_ic_ge (q := 55) (t := 63) dX6_bestNext_52 rfl (by decide) (fun c_52 => ?_) (fun c_52 => ?_)
        · refine x_iinc (q := 66) (v := nI (i + 1)) dX6_bestNext_63 rfl rfl (nI_inc _) (by decide) ?_
          refine x_goto (q := 9) dX6_bestNext_66 (by decide) ?_
          have t9 := ih (i + 1) (by omega)
          first | (rw [bnR_b (tb_t (fun z => bty c_25 ((bt_tb hD (by omega)).mpr z))), hn] at t9; exact Vg.weak t9 (by repeat first | exact trivial | refine ⟨rfl, ?_⟩)) | (rw [bnR_g ((bt_tb hD (by omega)).mp (btn c_25)) hn (Int32.not_lt.mpr c_52)] at t9; exact Vg.weak t9 (by repeat first | exact trivial | refine ⟨rfl, ?_⟩)) | (rw [bnR_l ((bt_tb hD (by omega)).mp (btn c_25)) hn (Int32.not_le.mp c_52)] at t9; exact Vg.weak t9 (by repeat first | exact trivial | refine ⟨rfl, ?_⟩))
        · refine x_iload (q := 57) dX6_bestNext_55 rfl rfl ?_
          refine x_istore (q := 59) dX6_bestNext_57 rfl (by decide) ?_
          refine x_iload (q := 61) dX6_bestNext_59 rfl rfl ?_
          refine x_istore (q := 63) dX6_bestNext_61 rfl (by decide) ?_
          refine x_iinc (q := 66) (v := nI (i + 1)) dX6_bestNext_63 rfl rfl (nI_inc _) (by decide) ?_
          refine x_goto (q := 9) dX6_bestNext_66 (by decide) ?_
          have t9 := ih (i + 1) (by omega)
          first | (rw [bnR_b (tb_t (fun z => bty c_25 ((bt_tb hD (by omega)).mpr z))), hn] at t9; exact Vg.weak t9 (by repeat first | exact trivial | refine ⟨rfl, ?_⟩)) | (rw [bnR_g ((bt_tb hD (by omega)).mp (btn c_25)) hn (Int32.not_lt.mpr c_52)] at t9; exact Vg.weak t9 (by repeat first | exact trivial | refine ⟨rfl, ?_⟩)) | (rw [bnR_l ((bt_tb hD (by omega)).mp (btn c_25)) hn (Int32.not_le.mp c_52)] at t9; exact Vg.weak t9 (by repeat first | exact trivial | refine ⟨rfl, ?_⟩))
      · refine x_goto (q := 63) dX6_bestNext_28 (by decide) ?_
        refine x_iinc (q := 66) (v := nI (i + 1)) dX6_bestNext_63 rfl rfl (nI_inc _) (by decide) ?_
        refine x_goto (q := 9) dX6_bestNext_66 (by decide) ?_
        have t9 := ih (i + 1) (by omega)
        first | (rw [bnR_b (tb_t (fun z => bty c_25 ((bt_tb hD (by omega)).mpr z))), hn] at t9; exact Vg.weak t9 (by repeat first | exact trivial | refine ⟨rfl, ?_⟩)) | (rw [bnR_g ((bt_tb hD (by omega)).mp (btn c_25)) hn (Int32.not_lt.mpr c_52)] at t9; exact Vg.weak t9 (by repeat first | exact trivial | refine ⟨rfl, ?_⟩)) | (rw [bnR_l ((bt_tb hD (by omega)).mp (btn c_25)) hn (Int32.not_le.mp c_52)] at t9; exact Vg.weak t9 (by repeat first | exact trivial | refine ⟨rfl, ?_⟩))

set_option maxHeartbeats 4000000 in
set_option maxRecDepth 100000 in
theorem c_X6_bestNext {h : HF} (hS : Sh h) (D u : Nat) (c : Int32) (hD : D < 256) (hu : u < 6) (z : Nat) (hz : fI h 31 4 = nI z) (hz8 : z ≤ 8) (hok : okH h z) : Mc mX6_bestNext [.ref 31, .int (nI D), .int (nI u), .int c] 170 h (RI (oB (bnR (fun j => cwF h j D u c) D z)) h) := by
  refine Mc.of (by decide) rfl (Nat.le_of_ble_eq_true rfl) ?_
  refine x_iconst (q := 1) (v := -1) dX6_bestNext_0 rfl (by decide) ?_
  refine x_istore (q := 3) dX6_bestNext_1 rfl (by decide) ?_
  refine x_iconst (q := 4) (v := 0) dX6_bestNext_3 rfl (by decide) ?_
  refine x_istore (q := 6) dX6_bestNext_4 rfl (by decide) ?_
  refine x_iconst (q := 7) (v := 0) dX6_bestNext_6 rfl (by decide) ?_
  refine x_istore (q := 9) dX6_bestNext_7 rfl (by decide) ?_
  exact Vg.weak (lp_bn hS D u c hD hu z hz hz8 hok z 0 (by omega)) (by repeat first | exact trivial | refine ⟨rfl, ?_⟩)

