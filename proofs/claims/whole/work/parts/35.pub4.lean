
def us32 (x y : Int32) : Int32 := (x.toUInt32 >>> (y.toUInt32 &&& Int32.toUInt32 31)).toInt32
def us64 (x : Int64) (y : Int32) : Int64 := (x.toUInt64 >>> (y.toInt64.toUInt64 &&& Int64.toUInt64 63)).toInt64
def bc1 (x : Int32) : Int32 := x - (us32 x 1 &&& 1431655765)
def bc2 (x : Int32) : Int32 := (x &&& 858993459) + (us32 x 2 &&& 858993459)
def bc3 (x : Int32) : Int32 := (x + us32 x 4) &&& 252645135
def bc4 (x : Int32) : Int32 := x + us32 x 8
def bc5 (x : Int32) : Int32 := x + us32 x 16
def bcI (x : Int32) : Int32 := bc5 (bc4 (bc3 (bc2 (bc1 x)))) &&& 63
def bd1 (x : Int64) : Int64 := x - (us64 x 1 &&& 6148914691236517205)
def bd2 (x : Int64) : Int64 := (x &&& 3689348814741910323) + (us64 x 2 &&& 3689348814741910323)
def bd3 (x : Int64) : Int64 := (x + us64 x 4) &&& 1085102592571150095
def bd4 (x : Int64) : Int64 := x + us64 x 8
def bd5 (x : Int64) : Int64 := x + us64 x 16
def bd6 (x : Int64) : Int64 := x + us64 x 32
def bcJ (x : Int64) : Int32 := (bd6 (bd5 (bd4 (bd3 (bd2 (bd1 x)))))).toInt32 &&& 127
set_option maxHeartbeats 4000000 in
set_option maxRecDepth 100000 in
theorem c_J6_bitCount_0f7a4 {h : HF} (hS : Sh h) (x : Int32) : Mc mJ6_bitCount_0f7a4 [.int x] 170 h (RI (bcI x) h) := by
  refine Mc.ofF (by decide +kernel) rfl (Nat.le_of_ble_eq_true rfl) ?_
  refine x_iload_n (q := 1) dJ6_bitCount_0f7a4_0 rfl rfl rfl ?_
  refine x_iload_n (q := 2) dJ6_bitCount_0f7a4_1 rfl rfl rfl ?_
  refine x_iconst (q := 3) (v := 1) dJ6_bitCount_0f7a4_2 rfl (by decide) ?_
  refine x_iushr (q := 4) dJ6_bitCount_0f7a4_3 rfl rfl ?_
  refine x_ldcw (q := 7) dJ6_bitCount_0f7a4_4 rfl v_J6_265 ?_
  refine x_iand (q := 8) dJ6_bitCount_0f7a4_7 rfl ?_
  refine x_isub (q := 9) dJ6_bitCount_0f7a4_8 rfl ?_
  refine x_istore_n (q := 10) dJ6_bitCount_0f7a4_9 rfl rfl (by decide) ?_
  refine x_iload_n (q := 11) dJ6_bitCount_0f7a4_10 rfl rfl rfl ?_
  refine x_ldcw (q := 14) dJ6_bitCount_0f7a4_11 rfl v_J6_266 ?_
  refine x_iand (q := 15) dJ6_bitCount_0f7a4_14 rfl ?_
  refine x_iload_n (q := 16) dJ6_bitCount_0f7a4_15 rfl rfl rfl ?_
  refine x_iconst (q := 17) (v := 2) dJ6_bitCount_0f7a4_16 rfl (by decide) ?_
  refine x_iushr (q := 18) dJ6_bitCount_0f7a4_17 rfl rfl ?_
  refine x_ldcw (q := 21) dJ6_bitCount_0f7a4_18 rfl v_J6_266 ?_
  refine x_iand (q := 22) dJ6_bitCount_0f7a4_21 rfl ?_
  refine x_iadd (q := 23) dJ6_bitCount_0f7a4_22 rfl ?_
  refine x_istore_n (q := 24) dJ6_bitCount_0f7a4_23 rfl rfl (by decide) ?_
  refine x_iload_n (q := 25) dJ6_bitCount_0f7a4_24 rfl rfl rfl ?_
  refine x_iload_n (q := 26) dJ6_bitCount_0f7a4_25 rfl rfl rfl ?_
  refine x_iconst (q := 27) (v := 4) dJ6_bitCount_0f7a4_26 rfl (by decide) ?_
  refine x_iushr (q := 28) dJ6_bitCount_0f7a4_27 rfl rfl ?_
  refine x_iadd (q := 29) dJ6_bitCount_0f7a4_28 rfl ?_
  refine x_ldcw (q := 32) dJ6_bitCount_0f7a4_29 rfl v_J6_267 ?_
  refine x_iand (q := 33) dJ6_bitCount_0f7a4_32 rfl ?_
  refine x_istore_n (q := 34) dJ6_bitCount_0f7a4_33 rfl rfl (by decide) ?_
  refine x_iload_n (q := 35) dJ6_bitCount_0f7a4_34 rfl rfl rfl ?_
  refine x_iload_n (q := 36) dJ6_bitCount_0f7a4_35 rfl rfl rfl ?_
  refine x_bipush (q := 38) (v := 8) dJ6_bitCount_0f7a4_36 rfl (by decide) ?_
  refine x_iushr (q := 39) dJ6_bitCount_0f7a4_38 rfl rfl ?_
  refine x_iadd (q := 40) dJ6_bitCount_0f7a4_39 rfl ?_
  refine x_istore_n (q := 41) dJ6_bitCount_0f7a4_40 rfl rfl (by decide) ?_
  refine x_iload_n (q := 42) dJ6_bitCount_0f7a4_41 rfl rfl rfl ?_
  refine x_iload_n (q := 43) dJ6_bitCount_0f7a4_42 rfl rfl rfl ?_
  refine x_bipush (q := 45) (v := 16) dJ6_bitCount_0f7a4_43 rfl (by decide) ?_
  refine x_iushr (q := 46) dJ6_bitCount_0f7a4_45 rfl rfl ?_
  refine x_iadd (q := 47) dJ6_bitCount_0f7a4_46 rfl ?_
  refine x_istore_n (q := 48) dJ6_bitCount_0f7a4_47 rfl rfl (by decide) ?_
  refine x_iload_n (q := 49) dJ6_bitCount_0f7a4_48 rfl rfl rfl ?_
  refine x_bipush (q := 51) (v := 63) dJ6_bitCount_0f7a4_49 rfl (by decide) ?_
  refine x_iand (q := 52) dJ6_bitCount_0f7a4_51 rfl ?_
  exact x_iret dJ6_bitCount_0f7a4_52 ⟨_, rfl, by first | rfl | (split <;> rfl)⟩ rfl (Nat.le_refl _) rfl ⟨rfl, rfl⟩

set_option maxHeartbeats 4000000 in
set_option maxRecDepth 100000 in
theorem c_J13_bitCount_95d88 {h : HF} (hS : Sh h) (x : Int64) : Mc mJ13_bitCount_95d88 [.long x] 170 h (RI (bcJ x) h) := by
  refine Mc.ofF (by decide +kernel) rfl (Nat.le_of_ble_eq_true rfl) ?_
  refine x_lload_n (q := 1) dJ13_bitCount_95d88_0 rfl rfl rfl ?_
  refine x_lload_n (q := 2) dJ13_bitCount_95d88_1 rfl rfl rfl ?_
  refine x_iconst (q := 3) (v := 1) dJ13_bitCount_95d88_2 rfl (by decide) ?_
  refine x_lushr (q := 4) dJ13_bitCount_95d88_3 rfl rfl ?_
  refine x_ldc2 (q := 7) dJ13_bitCount_95d88_4 rfl v_J13_314 ?_
  refine x_land (q := 8) dJ13_bitCount_95d88_7 rfl ?_
  refine x_lsub (q := 9) dJ13_bitCount_95d88_8 rfl ?_
  refine x_lstore_n (q := 10) dJ13_bitCount_95d88_9 rfl rfl (by decide) ?_
  refine x_lload_n (q := 11) dJ13_bitCount_95d88_10 rfl rfl rfl ?_
  refine x_ldc2 (q := 14) dJ13_bitCount_95d88_11 rfl v_J13_316 ?_
  refine x_land (q := 15) dJ13_bitCount_95d88_14 rfl ?_
  refine x_lload_n (q := 16) dJ13_bitCount_95d88_15 rfl rfl rfl ?_
  refine x_iconst (q := 17) (v := 2) dJ13_bitCount_95d88_16 rfl (by decide) ?_
  refine x_lushr (q := 18) dJ13_bitCount_95d88_17 rfl rfl ?_
  refine x_ldc2 (q := 21) dJ13_bitCount_95d88_18 rfl v_J13_316 ?_
  refine x_land (q := 22) dJ13_bitCount_95d88_21 rfl ?_
  refine x_ladd (q := 23) dJ13_bitCount_95d88_22 rfl ?_
  refine x_lstore_n (q := 24) dJ13_bitCount_95d88_23 rfl rfl (by decide) ?_
  refine x_lload_n (q := 25) dJ13_bitCount_95d88_24 rfl rfl rfl ?_
  refine x_lload_n (q := 26) dJ13_bitCount_95d88_25 rfl rfl rfl ?_
  refine x_iconst (q := 27) (v := 4) dJ13_bitCount_95d88_26 rfl (by decide) ?_
  refine x_lushr (q := 28) dJ13_bitCount_95d88_27 rfl rfl ?_
  refine x_ladd (q := 29) dJ13_bitCount_95d88_28 rfl ?_
  refine x_ldc2 (q := 32) dJ13_bitCount_95d88_29 rfl v_J13_318 ?_
  refine x_land (q := 33) dJ13_bitCount_95d88_32 rfl ?_
  refine x_lstore_n (q := 34) dJ13_bitCount_95d88_33 rfl rfl (by decide) ?_
  refine x_lload_n (q := 35) dJ13_bitCount_95d88_34 rfl rfl rfl ?_
  refine x_lload_n (q := 36) dJ13_bitCount_95d88_35 rfl rfl rfl ?_
  refine x_bipush (q := 38) (v := 8) dJ13_bitCount_95d88_36 rfl (by decide) ?_
  refine x_lushr (q := 39) dJ13_bitCount_95d88_38 rfl rfl ?_
  refine x_ladd (q := 40) dJ13_bitCount_95d88_39 rfl ?_
  refine x_lstore_n (q := 41) dJ13_bitCount_95d88_40 rfl rfl (by decide) ?_
  refine x_lload_n (q := 42) dJ13_bitCount_95d88_41 rfl rfl rfl ?_
  refine x_lload_n (q := 43) dJ13_bitCount_95d88_42 rfl rfl rfl ?_
  refine x_bipush (q := 45) (v := 16) dJ13_bitCount_95d88_43 rfl (by decide) ?_
  refine x_lushr (q := 46) dJ13_bitCount_95d88_45 rfl rfl ?_
  refine x_ladd (q := 47) dJ13_bitCount_95d88_46 rfl ?_
  refine x_lstore_n (q := 48) dJ13_bitCount_95d88_47 rfl rfl (by decide) ?_
  refine x_lload_n (q := 49) dJ13_bitCount_95d88_48 rfl rfl rfl ?_
  refine x_lload_n (q := 50) dJ13_bitCount_95d88_49 rfl rfl rfl ?_
  refine x_bipush (q := 52) (v := 32) dJ13_bitCount_95d88_50 rfl (by decide) ?_
  refine x_lushr (q := 53) dJ13_bitCount_95d88_52 rfl rfl ?_
  refine x_ladd (q := 54) dJ13_bitCount_95d88_53 rfl ?_
  refine x_lstore_n (q := 55) dJ13_bitCount_95d88_54 rfl rfl (by decide) ?_
  refine x_lload_n (q := 56) dJ13_bitCount_95d88_55 rfl rfl rfl ?_
  refine x_l2i (q := 57) dJ13_bitCount_95d88_56 rfl ?_
  refine x_bipush (q := 59) (v := 127) dJ13_bitCount_95d88_57 rfl (by decide) ?_
  refine x_iand (q := 60) dJ13_bitCount_95d88_59 rfl ?_
  exact x_iret dJ13_bitCount_95d88_60 ⟨_, rfl, by first | rfl | (split <;> rfl)⟩ rfl (Nat.le_refl _) rfl ⟨rfl, rfl⟩

def vDrum (a b c : Nat → Int32) (e f : Nat → Int32) (x w : Int32) (nd : Nat) : Int32 := if ltB x (nI nd) = true then if w = 0 then a x.toNatClampNeg else if w = 1 then b x.toNatClampNeg else if w = 2 then c x.toNatClampNeg else if w = 3 then e x.toNatClampNeg else if w = 4 then f x.toNatClampNeg else -3 else -2
set_option maxHeartbeats 4000000 in
set_option maxRecDepth 100000 in
theorem c_X9_drum {h : HF} (hS : Sh h) (x w : Int32) (nd : Nat) (hnd : fI h 25 5 = nI nd) (hnd100 : nd ≤ 100) : Mc mX9_drum [.ref 1, .int x, .int w] 170 h (RI (vDrum (gi h 26) (gi h 27) (gi h 28) (fun j => bcI (gi h 29 j)) (fun j => bcJ (gl h 30 j)) x w nd) (h)) := by
  refine Mc.of (by decide) rfl (Nat.le_of_ble_eq_true rfl) ?_
  refine x_aload_n (q := 1) dX9_drum_0 rfl rfl rfl ?_
  refine x_get (q := 4) dX9_drum_1 rfl f_X9_56 (cl_1 hS) rfl (by decide) ?_
  refine x_iload_n (q := 5) dX9_drum_4 rfl rfl rfl ?_
  refine y_cvI (q := 8) dX9_drum_5 rfl l_X9_235 (c_X3_has_b hS _ nd hnd) rfl rfl (cl_25 hS) (by decide) rfl rfl rfl rfl ?_
  refine x_if_ne (q := 11) (t := 14) dX9_drum_8 rfl (by decide) (fun c_8 => ?_) (fun c_8 => ?_)
  · replace c_8 := b2y c_8
    obtain ⟨j, hj, rfl⟩ := ltB_of (by omega) c_8
    refine x_iload_n (q := 15) dX9_drum_14 rfl rfl rfl ?_
    rcases tsw5 w with rfl | rfl | rfl | rfl | rfl | hw
    · refine x_tswI (q := 48) (off := 33) dX9_drum_15 (by decide) (by decide) (by decide) (by decide) ?_
      refine x_aload_n (q := 49) dX9_drum_48 rfl rfl rfl ?_
      refine x_get (q := 52) dX9_drum_49 rfl f_X9_56 (cl_1 hS) rfl (by decide) ?_
      refine x_get (q := 55) dX9_drum_52 rfl f_X9_236 (cl_25 hS) rfl (by decide) ?_
      refine x_iload_n (q := 56) dX9_drum_55 rfl rfl rfl ?_
      refine z_iald (q := 57) (j := j) dX9_drum_56 rfl (cl_26 hS) (by omega) (by decide) (by decide) ?_
      exact x_iret dX9_drum_57 ⟨_, rfl, by first | rfl | (split <;> rfl)⟩ rfl (Nat.le_refl _) rfl ⟨by simp_all [vDrum, nI_clamp (show j < 2 ^ 31 by omega)], rfl⟩
    · refine x_tswI (q := 58) (off := 43) dX9_drum_15 (by decide) (by decide) (by decide) (by decide) ?_
      refine x_aload_n (q := 59) dX9_drum_58 rfl rfl rfl ?_
      refine x_get (q := 62) dX9_drum_59 rfl f_X9_56 (cl_1 hS) rfl (by decide) ?_
      refine x_get (q := 65) dX9_drum_62 rfl f_X9_238 (cl_25 hS) rfl (by decide) ?_
      refine x_iload_n (q := 66) dX9_drum_65 rfl rfl rfl ?_
      refine z_iald (q := 67) (j := j) dX9_drum_66 rfl (cl_27 hS) (by omega) (by decide) (by decide) ?_
      exact x_iret dX9_drum_67 ⟨_, rfl, by first | rfl | (split <;> rfl)⟩ rfl (Nat.le_refl _) rfl ⟨by simp_all [vDrum, nI_clamp (show j < 2 ^ 31 by omega)], rfl⟩
    · refine x_tswI (q := 68) (off := 53) dX9_drum_15 (by decide) (by decide) (by decide) (by decide) ?_
      refine x_aload_n (q := 69) dX9_drum_68 rfl rfl rfl ?_
      refine x_get (q := 72) dX9_drum_69 rfl f_X9_56 (cl_1 hS) rfl (by decide) ?_
      refine x_get (q := 75) dX9_drum_72 rfl f_X9_241 (cl_25 hS) rfl (by decide) ?_
      refine x_iload_n (q := 76) dX9_drum_75 rfl rfl rfl ?_
      refine z_iald (q := 77) (j := j) dX9_drum_76 rfl (cl_28 hS) (by omega) (by decide) (by decide) ?_
      exact x_iret dX9_drum_77 ⟨_, rfl, by first | rfl | (split <;> rfl)⟩ rfl (Nat.le_refl _) rfl ⟨by simp_all [vDrum, nI_clamp (show j < 2 ^ 31 by omega)], rfl⟩
    · refine x_tswI (q := 78) (off := 63) dX9_drum_15 (by decide) (by decide) (by decide) (by decide) ?_
      refine x_aload_n (q := 79) dX9_drum_78 rfl rfl rfl ?_
      refine x_get (q := 82) dX9_drum_79 rfl f_X9_56 (cl_1 hS) rfl (by decide) ?_
      refine x_get (q := 85) dX9_drum_82 rfl f_X9_244 (cl_25 hS) rfl (by decide) ?_
      refine x_iload_n (q := 86) dX9_drum_85 rfl rfl rfl ?_
      refine z_iald (q := 87) (j := j) dX9_drum_86 rfl (cl_29 hS) (by omega) (by decide) (by decide) ?_
      refine y_csI (q := 90) dX9_drum_87 rfl l_X9_246 (c_J6_bitCount_0f7a4 hS _) rfl rfl rfl rfl rfl rfl ?_
      exact x_iret dX9_drum_90 ⟨_, rfl, by first | rfl | (split <;> rfl)⟩ rfl (Nat.le_refl _) rfl ⟨by simp_all [vDrum, nI_clamp (show j < 2 ^ 31 by omega)], rfl⟩
    · refine x_tswI (q := 91) (off := 76) dX9_drum_15 (by decide) (by decide) (by decide) (by decide) ?_
      refine x_aload_n (q := 92) dX9_drum_91 rfl rfl rfl ?_
      refine x_get (q := 95) dX9_drum_92 rfl f_X9_56 (cl_1 hS) rfl (by decide) ?_
      refine x_get (q := 98) dX9_drum_95 rfl f_X9_251 (cl_25 hS) rfl (by decide) ?_
      refine x_iload_n (q := 99) dX9_drum_98 rfl rfl rfl ?_
      refine z_lald (q := 100) (j := j) dX9_drum_99 rfl (cl_30 hS) (by omega) (by decide) (by decide) ?_
      refine y_csI (q := 103) dX9_drum_100 rfl l_X9_255 (c_J13_bitCount_95d88 hS _) rfl rfl rfl rfl rfl rfl ?_
      exact x_iret dX9_drum_103 ⟨_, rfl, by first | rfl | (split <;> rfl)⟩ rfl (Nat.le_refl _) rfl ⟨by simp_all [vDrum, nI_clamp (show j < 2 ^ 31 by omega)], rfl⟩
    · refine x_tswO (q := 104) dX9_drum_15 hw.1 (by decide) ?_
      refine x_bipush (q := 106) (v := -3) dX9_drum_104 rfl (by decide) ?_
      exact x_iret dX9_drum_106 ⟨_, rfl, by first | rfl | (split <;> rfl)⟩ rfl (Nat.le_refl _) rfl ⟨by simp_all [vDrum, nI_clamp (show j < 2 ^ 31 by omega)], rfl⟩
  · replace c_8 := b2n c_8
    refine x_bipush (q := 13) (v := -2) dX9_drum_11 rfl (by decide) ?_
    exact x_iret dX9_drum_13 ⟨_, rfl, by first | rfl | (split <;> rfl)⟩ rfl (Nat.le_refl _) rfl ⟨by simp [vDrum, c_8], rfl⟩

def vInD (B : Nat → Int32) (L : Nat → Int64) (x e w : Int32) (nd nl nt : Nat) : Int32 := if ltB x (nI nd) = true then if e = 0 then (if ltB w (nI nt) = true then b2 (btB (B x.toNatClampNeg).toInt64 w) else -2) else (if ltB w (nI nl) = true then b2 (btB (L x.toNatClampNeg) w) else -2) else -2
set_option maxHeartbeats 4000000 in
set_option maxRecDepth 100000 in
theorem c_X9_inDrum {h : HF} (hS : Sh h) (x e w : Int32) (nd : Nat) (hnd : fI h 25 5 = nI nd) (hnd100 : nd ≤ 100) (nl : Nat) (hnl : fI h 5 3 = nI nl) (hnl40 : nl ≤ 40) (nt : Nat) (hnt : fI h 1 4 = nI nt) (hnt24 : nt ≤ 24) : Mc mX9_inDrum [.ref 1, .int x, .int e, .int w] 170 h (RI (vInD (gi h 29) (gl h 30) x e w nd nl nt) (h)) := by
  refine Mc.of (by decide) rfl (Nat.le_of_ble_eq_true rfl) ?_
  refine x_aload_n (q := 1) dX9_inDrum_0 rfl rfl rfl ?_
  refine x_get (q := 4) dX9_inDrum_1 rfl f_X9_56 (cl_1 hS) rfl (by decide) ?_
  refine x_iload_n (q := 5) dX9_inDrum_4 rfl rfl rfl ?_
  refine y_cvI (q := 8) dX9_inDrum_5 rfl l_X9_235 (c_X3_has_b hS _ nd hnd) rfl rfl (cl_25 hS) (by decide) rfl rfl rfl rfl ?_
  refine x_if_eq (q := 11) (t := 37) dX9_inDrum_8 rfl (by decide) (fun c_8 => ?_) (fun c_8 => ?_)
  · replace c_8 := b2n c_8
    refine x_bipush (q := 39) (v := -2) dX9_inDrum_37 rfl (by decide) ?_
    exact x_iret dX9_inDrum_39 ⟨_, rfl, by first | rfl | (split <;> rfl)⟩ rfl (Nat.le_refl _) rfl ⟨by simp_all [vInD], rfl⟩
  · replace c_8 := b2y c_8
    refine x_iload_n (q := 12) dX9_inDrum_11 rfl rfl rfl ?_
    refine x_if_eq (q := 15) (t := 29) dX9_inDrum_12 rfl (by decide) (fun c_12 => ?_) (fun c_12 => ?_)
    · refine x_aload_n (q := 30) dX9_inDrum_29 rfl rfl rfl ?_
      refine x_iload_n (q := 31) dX9_inDrum_30 rfl rfl rfl ?_
      refine y_cvI (q := 34) dX9_inDrum_31 rfl l_X9_126 (c_X9_hasBatch_b hS _ nt hnt) rfl rfl (cl_1 hS) (by decide) rfl rfl rfl rfl ?_
      refine x_if_ne (q := 37) (t := 40) dX9_inDrum_34 rfl (by decide) (fun c_34 => ?_) (fun c_34 => ?_)
      · replace c_34 := b2y c_34
        obtain ⟨j, hj, rfl⟩ := ltB_of (by omega) c_8
        refine x_iload_n (q := 41) dX9_inDrum_40 rfl rfl rfl ?_
        refine x_if_eq (q := 44) (t := 60) dX9_inDrum_41 rfl (by decide) (fun c_41 => ?_) (fun c_41 => ?_)
        · refine x_aload_n (q := 61) dX9_inDrum_60 rfl rfl rfl ?_
          refine x_get (q := 64) dX9_inDrum_61 rfl f_X9_56 (cl_1 hS) rfl (by decide) ?_
          refine x_get (q := 67) dX9_inDrum_64 rfl f_X9_244 (cl_25 hS) rfl (by decide) ?_
          refine x_iload_n (q := 68) dX9_inDrum_67 rfl rfl rfl ?_
          refine z_iald (q := 69) (j := j) dX9_inDrum_68 rfl (cl_29 hS) (by omega) (by decide) (by decide) ?_
          refine x_i2l (q := 70) dX9_inDrum_69 rfl ?_
          refine x_iload_n (q := 71) dX9_inDrum_70 rfl rfl rfl ?_
          refine y_csI (q := 74) dX9_inDrum_71 rfl l_X9_260 (c_X9_hasBit_b hS _ _) rfl rfl rfl rfl rfl rfl ?_
          refine x_istore (q := 76) dX9_inDrum_74 rfl (by decide) ?_
          refine x_iload (q := 78) dX9_inDrum_76 rfl rfl ?_
          refine x_if_eq (q := 81) (t := 85) dX9_inDrum_78 rfl (by decide) (fun c_78 => ?_) (fun c_78 => ?_)
          · replace c_78 := b2n c_78
            refine x_iconst (q := 86) (v := 0) dX9_inDrum_85 rfl (by decide) ?_
            exact x_iret dX9_inDrum_86 ⟨_, rfl, by first | rfl | (split <;> rfl)⟩ rfl (Nat.le_refl _) rfl ⟨by simp_all [vInD, b2, nI_clamp (show j < 2 ^ 31 by omega)], rfl⟩
          · replace c_78 := b2y c_78
            refine x_iconst (q := 82) (v := 1) dX9_inDrum_81 rfl (by decide) ?_
            refine x_goto (q := 86) dX9_inDrum_82 (by decide) ?_
            exact x_iret dX9_inDrum_86 ⟨_, rfl, by first | rfl | (split <;> rfl)⟩ rfl (Nat.le_refl _) rfl ⟨by simp_all [vInD, b2, nI_clamp (show j < 2 ^ 31 by omega)], rfl⟩
        · refine x_aload_n (q := 45) dX9_inDrum_44 rfl rfl rfl ?_
          refine x_get (q := 48) dX9_inDrum_45 rfl f_X9_56 (cl_1 hS) rfl (by decide) ?_
          refine x_get (q := 51) dX9_inDrum_48 rfl f_X9_251 (cl_25 hS) rfl (by decide) ?_
          refine x_iload_n (q := 52) dX9_inDrum_51 rfl rfl rfl ?_
          refine z_lald (q := 53) (j := j) dX9_inDrum_52 rfl (cl_30 hS) (by omega) (by decide) (by decide) ?_
          refine x_iload_n (q := 54) dX9_inDrum_53 rfl rfl rfl ?_
          refine y_csI (q := 57) dX9_inDrum_54 rfl l_X9_260 (c_X9_hasBit_b hS _ _) rfl rfl rfl rfl rfl rfl ?_
          refine x_goto (q := 74) dX9_inDrum_57 (by decide) ?_
          refine x_istore (q := 76) dX9_inDrum_74 rfl (by decide) ?_
          refine x_iload (q := 78) dX9_inDrum_76 rfl rfl ?_
          refine x_if_eq (q := 81) (t := 85) dX9_inDrum_78 rfl (by decide) (fun c_78 => ?_) (fun c_78 => ?_)
          · replace c_78 := b2n c_78
            refine x_iconst (q := 86) (v := 0) dX9_inDrum_85 rfl (by decide) ?_
            exact x_iret dX9_inDrum_86 ⟨_, rfl, by first | rfl | (split <;> rfl)⟩ rfl (Nat.le_refl _) rfl ⟨by simp_all [vInD, b2, nI_clamp (show j < 2 ^ 31 by omega)], rfl⟩
          · replace c_78 := b2y c_78
            refine x_iconst (q := 82) (v := 1) dX9_inDrum_81 rfl (by decide) ?_
            refine x_goto (q := 86) dX9_inDrum_82 (by decide) ?_
            exact x_iret dX9_inDrum_86 ⟨_, rfl, by first | rfl | (split <;> rfl)⟩ rfl (Nat.le_refl _) rfl ⟨by simp_all [vInD, b2, nI_clamp (show j < 2 ^ 31 by omega)], rfl⟩
      · replace c_34 := b2n c_34
        refine x_bipush (q := 39) (v := -2) dX9_inDrum_37 rfl (by decide) ?_
        exact x_iret dX9_inDrum_39 ⟨_, rfl, by first | rfl | (split <;> rfl)⟩ rfl (Nat.le_refl _) rfl ⟨by simp_all [vInD], rfl⟩
    · refine x_aload_n (q := 16) dX9_inDrum_15 rfl rfl rfl ?_
      refine x_get (q := 19) dX9_inDrum_16 rfl f_X9_19 (cl_1 hS) rfl (by decide) ?_
      refine x_iload_n (q := 20) dX9_inDrum_19 rfl rfl rfl ?_
      refine y_cvI (q := 23) dX9_inDrum_20 rfl l_X9_104 (c_X7_has_b hS _ nl hnl) rfl rfl (cl_5 hS) (by decide) rfl rfl rfl rfl ?_
      refine x_if_eq (q := 26) (t := 37) dX9_inDrum_23 rfl (by decide) (fun c_23 => ?_) (fun c_23 => ?_)
      · replace c_23 := b2n c_23
        refine x_bipush (q := 39) (v := -2) dX9_inDrum_37 rfl (by decide) ?_
        exact x_iret dX9_inDrum_39 ⟨_, rfl, by first | rfl | (split <;> rfl)⟩ rfl (Nat.le_refl _) rfl ⟨by simp_all [vInD], rfl⟩
      · replace c_23 := b2y c_23
        refine x_goto (q := 40) dX9_inDrum_26 (by decide) ?_
        obtain ⟨j, hj, rfl⟩ := ltB_of (by omega) c_8
        refine x_iload_n (q := 41) dX9_inDrum_40 rfl rfl rfl ?_
        refine x_if_eq (q := 44) (t := 60) dX9_inDrum_41 rfl (by decide) (fun c_41 => ?_) (fun c_41 => ?_)
        · refine x_aload_n (q := 61) dX9_inDrum_60 rfl rfl rfl ?_
          refine x_get (q := 64) dX9_inDrum_61 rfl f_X9_56 (cl_1 hS) rfl (by decide) ?_
          refine x_get (q := 67) dX9_inDrum_64 rfl f_X9_244 (cl_25 hS) rfl (by decide) ?_
          refine x_iload_n (q := 68) dX9_inDrum_67 rfl rfl rfl ?_
          refine z_iald (q := 69) (j := j) dX9_inDrum_68 rfl (cl_29 hS) (by omega) (by decide) (by decide) ?_
          refine x_i2l (q := 70) dX9_inDrum_69 rfl ?_
          refine x_iload_n (q := 71) dX9_inDrum_70 rfl rfl rfl ?_
          refine y_csI (q := 74) dX9_inDrum_71 rfl l_X9_260 (c_X9_hasBit_b hS _ _) rfl rfl rfl rfl rfl rfl ?_
          refine x_istore (q := 76) dX9_inDrum_74 rfl (by decide) ?_
          refine x_iload (q := 78) dX9_inDrum_76 rfl rfl ?_
          refine x_if_eq (q := 81) (t := 85) dX9_inDrum_78 rfl (by decide) (fun c_78 => ?_) (fun c_78 => ?_)
          · replace c_78 := b2n c_78
            refine x_iconst (q := 86) (v := 0) dX9_inDrum_85 rfl (by decide) ?_
            exact x_iret dX9_inDrum_86 ⟨_, rfl, by first | rfl | (split <;> rfl)⟩ rfl (Nat.le_refl _) rfl ⟨by simp_all [vInD, b2, nI_clamp (show j < 2 ^ 31 by omega)], rfl⟩
          · replace c_78 := b2y c_78
            refine x_iconst (q := 82) (v := 1) dX9_inDrum_81 rfl (by decide) ?_
            refine x_goto (q := 86) dX9_inDrum_82 (by decide) ?_
            exact x_iret dX9_inDrum_86 ⟨_, rfl, by first | rfl | (split <;> rfl)⟩ rfl (Nat.le_refl _) rfl ⟨by simp_all [vInD, b2, nI_clamp (show j < 2 ^ 31 by omega)], rfl⟩
        · refine x_aload_n (q := 45) dX9_inDrum_44 rfl rfl rfl ?_
          refine x_get (q := 48) dX9_inDrum_45 rfl f_X9_56 (cl_1 hS) rfl (by decide) ?_
          refine x_get (q := 51) dX9_inDrum_48 rfl f_X9_251 (cl_25 hS) rfl (by decide) ?_
          refine x_iload_n (q := 52) dX9_inDrum_51 rfl rfl rfl ?_
          refine z_lald (q := 53) (j := j) dX9_inDrum_52 rfl (cl_30 hS) (by omega) (by decide) (by decide) ?_
          refine x_iload_n (q := 54) dX9_inDrum_53 rfl rfl rfl ?_
          refine y_csI (q := 57) dX9_inDrum_54 rfl l_X9_260 (c_X9_hasBit_b hS _ _) rfl rfl rfl rfl rfl rfl ?_
          refine x_goto (q := 74) dX9_inDrum_57 (by decide) ?_
          refine x_istore (q := 76) dX9_inDrum_74 rfl (by decide) ?_
          refine x_iload (q := 78) dX9_inDrum_76 rfl rfl ?_
          refine x_if_eq (q := 81) (t := 85) dX9_inDrum_78 rfl (by decide) (fun c_78 => ?_) (fun c_78 => ?_)
          · replace c_78 := b2n c_78
            refine x_iconst (q := 86) (v := 0) dX9_inDrum_85 rfl (by decide) ?_
            exact x_iret dX9_inDrum_86 ⟨_, rfl, by first | rfl | (split <;> rfl)⟩ rfl (Nat.le_refl _) rfl ⟨by simp_all [vInD, b2, nI_clamp (show j < 2 ^ 31 by omega)], rfl⟩
          · replace c_78 := b2y c_78
            refine x_iconst (q := 82) (v := 1) dX9_inDrum_81 rfl (by decide) ?_
            refine x_goto (q := 86) dX9_inDrum_82 (by decide) ?_
            exact x_iret dX9_inDrum_86 ⟨_, rfl, by first | rfl | (split <;> rfl)⟩ rfl (Nat.le_refl _) rfl ⟨by simp_all [vInD, b2, nI_clamp (show j < 2 ^ 31 by omega)], rfl⟩

set_option maxHeartbeats 4000000 in
set_option maxRecDepth 100000 in
theorem lp_open {h : HF} (hS : Sh h) (l : Nat) (nt : Nat) (hnt : fI h 1 4 = nI nt) (hnt24 : nt ≤ 24) : ∀ (m i : Nat), i + m = nt → Vg mX9_openBatchesWith none (QM mX9_openBatchesWith 170 (RI (cnB (fun k => decide (fI h (40 + 3 * k) 1 = 0) && btB (fJ h (41 + 3 * k) 2) (nI l)) nt) h)) 4 [some (.ref 1), some (.int (nI l)), some (.int (cnB (fun k => decide (fI h (40 + 3 * k) 1 = 0) && btB (fJ h (41 + 3 * k) 2) (nI l)) i)), some (.int (nI i))] [] 170 h 0 0 := by
  intro m
  induction m with
  | zero =>
    intro i hi
    obtain rfl : i = nt := by omega
    refine x_iload_n (q := 5) dX9_openBatchesWith_4 rfl rfl rfl ?_
    refine x_aload_n (q := 6) dX9_openBatchesWith_5 rfl rfl rfl ?_
    refine x_get (q := 9) dX9_openBatchesWith_6 rfl f_X9_36 (cl_1 hS) rfl (by decide) ?_
    rw [hnt]
    refine x_ic_ge (q := 12) (t := 52) dX9_openBatchesWith_9 rfl (by decide) (fun _ => ?_) (fun c_ => absurd (nI_le (Nat.le_refl _) (by omega)) c_)
    refine x_iload_n (q := 53) dX9_openBatchesWith_52 rfl rfl rfl ?_
    exact x_iret dX9_openBatchesWith_53 ⟨_, rfl, by first | rfl | (split <;> rfl)⟩ rfl (Nat.le_refl _) rfl ⟨rfl, rfl⟩
  | succ m ih =>
    intro i hi
    have hk : i < 24 := by omega
    refine x_iload_n (q := 5) dX9_openBatchesWith_4 rfl rfl rfl ?_
    refine x_aload_n (q := 6) dX9_openBatchesWith_5 rfl rfl rfl ?_
    refine x_get (q := 9) dX9_openBatchesWith_6 rfl f_X9_36 (cl_1 hS) rfl (by decide) ?_
    rw [hnt]
    refine x_ic_ge (q := 12) (t := 52) dX9_openBatchesWith_9 rfl (by decide) (fun c_ => absurd c_ (nI_ge (by omega) (by omega))) (fun _ => ?_)
    refine x_aload_n (q := 13) dX9_openBatchesWith_12 rfl rfl rfl ?_
    refine x_get (q := 16) dX9_openBatchesWith_13 rfl f_X9_32 (cl_1 hS) rfl (by decide) ?_
    refine x_iload_n (q := 17) dX9_openBatchesWith_16 rfl rfl rfl ?_
    refine z_aald3 (q := 18) (j := i) dX9_openBatchesWith_17 rfl (cl_16 hS) hk (by decide) ?_
    refine x_get (q := 21) dX9_openBatchesWith_18 rfl f_X9_146 (cl_B hS hk) rfl (by omega) ?_
    refine x_if_ne (q := 24) (t := 46) dX9_openBatchesWith_21 rfl (by decide) (fun c_21 => ?_) (fun c_21 => ?_)
    · refine x_iinc (q := 49) (v := nI (i + 1)) dX9_openBatchesWith_46 rfl rfl (nI_inc _) (by decide) ?_
      refine x_goto (q := 4) dX9_openBatchesWith_49 (by decide) ?_
      have t9 := ih (i + 1) (by omega)
      first | (rw [cnB_f (n := i)] at t9; exact t9; simp [c_40]; done) | (rw [cnB_t (n := i)] at t9; exact t9; simp [c_21, c_40]; done) | (rw [cnB_f (n := i)] at t9; exact t9; simp [c_21]; done)
    · refine x_aload_n (q := 25) dX9_openBatchesWith_24 rfl rfl rfl ?_
      refine x_get (q := 28) dX9_openBatchesWith_25 rfl f_X9_32 (cl_1 hS) rfl (by decide) ?_
      refine x_iload_n (q := 29) dX9_openBatchesWith_28 rfl rfl rfl ?_
      refine z_aald3 (q := 30) (j := i) dX9_openBatchesWith_29 rfl (cl_16 hS) hk (by decide) ?_
      refine x_get (q := 33) dX9_openBatchesWith_30 rfl f_X9_150 (cl_B hS hk) rfl (by omega) ?_
      refine x_get (q := 36) dX9_openBatchesWith_33 rfl f_X9_304 (cl_M hS hk) rfl (by omega) ?_
      refine x_iload_n (q := 37) dX9_openBatchesWith_36 rfl rfl rfl ?_
      refine y_csI (q := 40) dX9_openBatchesWith_37 rfl l_X9_260 (c_X9_hasBit_b hS _ _) rfl rfl rfl rfl rfl rfl ?_
      refine x_if_eq (q := 43) (t := 46) dX9_openBatchesWith_40 rfl (by decide) (fun c_40 => ?_) (fun c_40 => ?_)
      · replace c_40 := b2n c_40
        refine x_iinc (q := 49) (v := nI (i + 1)) dX9_openBatchesWith_46 rfl rfl (nI_inc _) (by decide) ?_
        refine x_goto (q := 4) dX9_openBatchesWith_49 (by decide) ?_
        have t9 := ih (i + 1) (by omega)
        first | (rw [cnB_f (n := i)] at t9; exact t9; simp [c_40]; done) | (rw [cnB_t (n := i)] at t9; exact t9; simp [c_21, c_40]; done) | (rw [cnB_f (n := i)] at t9; exact t9; simp [c_21]; done)
      · replace c_40 := b2y c_40
        refine x_iinc (q := 46) dX9_openBatchesWith_43 rfl rfl rfl (by decide) ?_
        refine x_iinc (q := 49) (v := nI (i + 1)) dX9_openBatchesWith_46 rfl rfl (nI_inc _) (by decide) ?_
        refine x_goto (q := 4) dX9_openBatchesWith_49 (by decide) ?_
        have t9 := ih (i + 1) (by omega)
        first | (rw [cnB_f (n := i)] at t9; exact t9; simp [c_40]; done) | (rw [cnB_t (n := i)] at t9; exact t9; simp [c_21, c_40]; done) | (rw [cnB_f (n := i)] at t9; exact t9; simp [c_21]; done)

set_option maxHeartbeats 4000000 in
set_option maxRecDepth 100000 in
theorem c_X9_openBatchesWith {h : HF} (hS : Sh h) (l : Nat) (nt : Nat) (hnt : fI h 1 4 = nI nt) (hnt24 : nt ≤ 24) : Mc mX9_openBatchesWith [.ref 1, .int (nI l)] 170 h (RI (cnB (fun k => decide (fI h (40 + 3 * k) 1 = 0) && btB (fJ h (41 + 3 * k) 2) (nI l)) nt) h) := by
  refine Mc.of (by decide) rfl (Nat.le_of_ble_eq_true rfl) ?_
  refine x_iconst (q := 1) (v := 0) dX9_openBatchesWith_0 rfl (by decide) ?_
  refine x_istore_n (q := 2) dX9_openBatchesWith_1 rfl rfl (by decide) ?_
  refine x_iconst (q := 3) (v := 0) dX9_openBatchesWith_2 rfl (by decide) ?_
  refine x_istore_n (q := 4) dX9_openBatchesWith_3 rfl rfl (by decide) ?_
  exact lp_open hS l nt hnt hnt24 nt 0 (by omega)

set_option maxHeartbeats 4000000 in
set_option maxRecDepth 100000 in
theorem lp_tkw {h : HF} (hS : Sh h) (l : Nat) : ∀ (m i : Nat), i + m = 5 → Vg mX9_tanksWith none (QM mX9_tanksWith 170 (RI (cnB (fun k => decide (0 < fI h (112 + 4 * k) 2) && btB (fJ h (113 + 4 * k) 2) (nI l)) 5) h)) 4 [some (.ref 1), some (.int (nI l)), some (.int (cnB (fun k => decide (0 < fI h (112 + 4 * k) 2) && btB (fJ h (113 + 4 * k) 2) (nI l)) i)), some (.int (nI i))] [] 170 h 0 0 := by
  intro m
  induction m with
  | zero =>
    intro i hi
    obtain rfl : i = 5 := by omega
    refine x_iload_n (q := 5) dX9_tanksWith_4 rfl rfl rfl ?_
    refine x_iconst (q := 6) (v := 5) dX9_tanksWith_5 rfl (by decide) ?_
    refine x_ic_ge (q := 9) (t := 49) dX9_tanksWith_6 rfl (by decide) (fun _ => ?_) (fun c_ => absurd (by decide) c_)
    refine x_iload_n (q := 50) dX9_tanksWith_49 rfl rfl rfl ?_
    exact x_iret dX9_tanksWith_50 ⟨_, rfl, by first | rfl | (split <;> rfl)⟩ rfl (Nat.le_refl _) rfl ⟨rfl, rfl⟩
  | succ m ih =>
    intro i hi
    have hk : i < 5 := by omega
    refine x_iload_n (q := 5) dX9_tanksWith_4 rfl rfl rfl ?_
    refine x_iconst (q := 6) (v := 5) dX9_tanksWith_5 rfl (by decide) ?_
    refine x_ic_ge (q := 9) (t := 49) dX9_tanksWith_6 rfl (by decide) (fun c_ => absurd c_ (nI_ge (b := 5) (by omega) (by decide))) (fun _ => ?_)
    refine x_aload_n (q := 10) dX9_tanksWith_9 rfl rfl rfl ?_
    refine x_get (q := 13) dX9_tanksWith_10 rfl f_X9_49 (cl_1 hS) rfl (by decide) ?_
    refine x_iload_n (q := 14) dX9_tanksWith_13 rfl rfl rfl ?_
    refine z_aald4 (q := 15) (j := i) dX9_tanksWith_14 rfl (cl_24 hS) hk (by decide) ?_
    refine x_get (q := 18) dX9_tanksWith_15 rfl f_X9_202 (cl_K hS hk) rfl (by omega) ?_
    refine x_if_le (q := 21) (t := 43) dX9_tanksWith_18 rfl (by decide) (fun c_18 => ?_) (fun c_18 => ?_)
    · refine x_iinc (q := 46) (v := nI (i + 1)) dX9_tanksWith_43 rfl rfl (nI_inc _) (by decide) ?_
      refine x_goto (q := 4) dX9_tanksWith_46 (by decide) ?_
      have t9 := ih (i + 1) (by omega)
      first | (rw [cnB_f (n := i)] at t9; exact t9; simp [c_37]; done) | (rw [cnB_t (n := i)] at t9; exact t9; simp [Int32.not_le.mp c_18, c_37]; done) | (rw [cnB_f (n := i)] at t9; exact t9; simp [Int32.not_lt.mpr c_18]; done)
    · refine x_aload_n (q := 22) dX9_tanksWith_21 rfl rfl rfl ?_
      refine x_get (q := 25) dX9_tanksWith_22 rfl f_X9_49 (cl_1 hS) rfl (by decide) ?_
      refine x_iload_n (q := 26) dX9_tanksWith_25 rfl rfl rfl ?_
      refine z_aald4 (q := 27) (j := i) dX9_tanksWith_26 rfl (cl_24 hS) hk (by decide) ?_
      refine x_get (q := 30) dX9_tanksWith_27 rfl f_X9_234 (cl_K hS hk) rfl (by omega) ?_
      refine x_get (q := 33) dX9_tanksWith_30 rfl f_X9_304 (cl_N hS hk) rfl (by omega) ?_
      refine x_iload_n (q := 34) dX9_tanksWith_33 rfl rfl rfl ?_
      refine y_csI (q := 37) dX9_tanksWith_34 rfl l_X9_260 (c_X9_hasBit_b hS _ _) rfl rfl rfl rfl rfl rfl ?_
      refine x_if_eq (q := 40) (t := 43) dX9_tanksWith_37 rfl (by decide) (fun c_37 => ?_) (fun c_37 => ?_)
      · replace c_37 := b2n c_37
        refine x_iinc (q := 46) (v := nI (i + 1)) dX9_tanksWith_43 rfl rfl (nI_inc _) (by decide) ?_
        refine x_goto (q := 4) dX9_tanksWith_46 (by decide) ?_
        have t9 := ih (i + 1) (by omega)
        first | (rw [cnB_f (n := i)] at t9; exact t9; simp [c_37]; done) | (rw [cnB_t (n := i)] at t9; exact t9; simp [Int32.not_le.mp c_18, c_37]; done) | (rw [cnB_f (n := i)] at t9; exact t9; simp [Int32.not_lt.mpr c_18]; done)
      · replace c_37 := b2y c_37
        refine x_iinc (q := 43) dX9_tanksWith_40 rfl rfl rfl (by decide) ?_
        refine x_iinc (q := 46) (v := nI (i + 1)) dX9_tanksWith_43 rfl rfl (nI_inc _) (by decide) ?_
        refine x_goto (q := 4) dX9_tanksWith_46 (by decide) ?_
        have t9 := ih (i + 1) (by omega)
        first | (rw [cnB_f (n := i)] at t9; exact t9; simp [c_37]; done) | (rw [cnB_t (n := i)] at t9; exact t9; simp [Int32.not_le.mp c_18, c_37]; done) | (rw [cnB_f (n := i)] at t9; exact t9; simp [Int32.not_lt.mpr c_18]; done)

set_option maxHeartbeats 4000000 in
set_option maxRecDepth 100000 in
theorem c_X9_tanksWith {h : HF} (hS : Sh h) (l : Nat) : Mc mX9_tanksWith [.ref 1, .int (nI l)] 170 h (RI (cnB (fun k => decide (0 < fI h (112 + 4 * k) 2) && btB (fJ h (113 + 4 * k) 2) (nI l)) 5) h) := by
  refine Mc.of (by decide) rfl (Nat.le_of_ble_eq_true rfl) ?_
  refine x_iconst (q := 1) (v := 0) dX9_tanksWith_0 rfl (by decide) ?_
  refine x_istore_n (q := 2) dX9_tanksWith_1 rfl rfl (by decide) ?_
  refine x_iconst (q := 3) (v := 0) dX9_tanksWith_2 rfl (by decide) ?_
  refine x_istore_n (q := 4) dX9_tanksWith_3 rfl rfl (by decide) ?_
  exact lp_tkw hS l 5 0 (by omega)

def vRec (a b c : Nat → Int32) (l w : Int32) (nl : Nat) : Int32 := if ltB l (nI nl) = true then if w = 0 then a l.toNatClampNeg else if w = 1 then b l.toNatClampNeg else if w = 2 then c l.toNatClampNeg else -3 else -2
set_option maxHeartbeats 4000000 in
set_option maxRecDepth 100000 in
theorem c_X9_recall {h : HF} (hS : Sh h) (l w : Int32) (nl : Nat) (hnl : fI h 5 3 = nI nl) (hnl40 : nl ≤ 40) (nd : Nat) (hnd : fI h 25 5 = nI nd) (hnd100 : nd ≤ 100) (nt : Nat) (hnt : fI h 1 4 = nI nt) (hnt24 : nt ≤ 24) : Mc mX9_recall [.ref 1, .int l, .int w] 170 h (RI (vRec (fun l => cnB (fun i => decide (bt (gl h 30 i) (nI l))) nd) (fun l => cnB (fun k => decide (fI h (40 + 3 * k) 1 = 0) && btB (fJ h (41 + 3 * k) 2) (nI l)) nt) (fun l => cnB (fun k => decide (0 < fI h (112 + 4 * k) 2) && btB (fJ h (113 + 4 * k) 2) (nI l)) 5) l w nl) (h)) := by
  refine Mc.of (by decide) rfl (Nat.le_of_ble_eq_true rfl) ?_
  refine x_aload_n (q := 1) dX9_recall_0 rfl rfl rfl ?_
  refine x_get (q := 4) dX9_recall_1 rfl f_X9_19 (cl_1 hS) rfl (by decide) ?_
  refine x_iload_n (q := 5) dX9_recall_4 rfl rfl rfl ?_
  refine y_cvI (q := 8) dX9_recall_5 rfl l_X9_104 (c_X7_has_b hS _ nl hnl) rfl rfl (cl_5 hS) (by decide) rfl rfl rfl rfl ?_
  refine x_if_ne (q := 11) (t := 14) dX9_recall_8 rfl (by decide) (fun c_8 => ?_) (fun c_8 => ?_)
  · replace c_8 := b2y c_8
    obtain ⟨j, hj, rfl⟩ := ltB_of (by omega) c_8
    refine x_iload_n (q := 15) dX9_recall_14 rfl rfl rfl ?_
    rcases tsw3 w with rfl | rfl | rfl | hw
    · refine x_tswI (q := 40) (off := 25) dX9_recall_15 (by decide) (by decide) (by decide) (by decide) ?_
      refine x_aload_n (q := 41) dX9_recall_40 rfl rfl rfl ?_
      refine x_get (q := 44) dX9_recall_41 rfl f_X9_56 (cl_1 hS) rfl (by decide) ?_
      refine x_iload_n (q := 45) dX9_recall_44 rfl rfl rfl ?_
      refine y_cvI (q := 48) dX9_recall_45 rfl l_X9_264 (c_X3_countWith hS j nd hnd hnd100) rfl rfl (cl_25 hS) (by decide) rfl rfl rfl rfl ?_
      exact x_iret dX9_recall_48 ⟨_, rfl, by first | rfl | (split <;> rfl)⟩ rfl (Nat.le_refl _) rfl ⟨by simp_all [vRec, nI_clamp (show j < 2 ^ 31 by omega)], rfl⟩
    · refine x_tswI (q := 49) (off := 34) dX9_recall_15 (by decide) (by decide) (by decide) (by decide) ?_
      refine x_aload_n (q := 50) dX9_recall_49 rfl rfl rfl ?_
      refine x_iload_n (q := 51) dX9_recall_50 rfl rfl rfl ?_
      refine y_cvI (q := 54) dX9_recall_51 rfl l_X9_267 (c_X9_openBatchesWith hS j nt hnt hnt24) rfl rfl (cl_1 hS) (by decide) rfl rfl rfl rfl ?_
      exact x_iret dX9_recall_54 ⟨_, rfl, by first | rfl | (split <;> rfl)⟩ rfl (Nat.le_refl _) rfl ⟨by simp_all [vRec, nI_clamp (show j < 2 ^ 31 by omega)], rfl⟩
    · refine x_tswI (q := 55) (off := 40) dX9_recall_15 (by decide) (by decide) (by decide) (by decide) ?_
      refine x_aload_n (q := 56) dX9_recall_55 rfl rfl rfl ?_
      refine x_iload_n (q := 57) dX9_recall_56 rfl rfl rfl ?_
      refine y_cvI (q := 60) dX9_recall_57 rfl l_X9_270 (c_X9_tanksWith hS j) rfl rfl (cl_1 hS) (by decide) rfl rfl rfl rfl ?_
      exact x_iret dX9_recall_60 ⟨_, rfl, by first | rfl | (split <;> rfl)⟩ rfl (Nat.le_refl _) rfl ⟨by simp_all [vRec, nI_clamp (show j < 2 ^ 31 by omega)], rfl⟩
    · refine x_tswO (q := 61) dX9_recall_15 hw.1 (by decide) ?_
      refine x_bipush (q := 63) (v := -3) dX9_recall_61 rfl (by decide) ?_
      exact x_iret dX9_recall_63 ⟨_, rfl, by first | rfl | (split <;> rfl)⟩ rfl (Nat.le_refl _) rfl ⟨by simp_all [vRec, nI_clamp (show j < 2 ^ 31 by omega)], rfl⟩
  · replace c_8 := b2n c_8
    refine x_bipush (q := 13) (v := -2) dX9_recall_11 rfl (by decide) ?_
    exact x_iret dX9_recall_13 ⟨_, rfl, by first | rfl | (split <;> rfl)⟩ rfl (Nat.le_refl _) rfl ⟨by simp [vRec, c_8], rfl⟩

def vJob (u a b c : Int32) (nj : Nat) : Int32 := if inB u 0 5 = true then if inB a 1 100 = true then if inB b 0 1000 = true then if inB c 0 100 = true then cap8 nj else -3 else -3 else -3 else -2
def uJob (h : HF) (u a b c : Int32) (nj : Nat) : HF := if inB u 0 5 = true then if inB a 1 100 = true then if inB b 0 1000 = true then if inB c 0 100 = true then gJob h nj u a b c else h else h else h else h
def vCng (f : Nat → Int32) (a b v : Int32) : Int32 := if inB a 0 5 = true then if inB b 0 5 = true then if inB v 0 1000 = true then f (a.toNatClampNeg * 6 + b.toNatClampNeg) else -3 else -2 else -2
def uCng (h : HF) (a b v : Int32) : HF := if inB a 0 5 = true then if inB b 0 5 = true then if inB v 0 1000 = true then si h 36 (upd (gi h 36) (a.toNatClampNeg * 6 + b.toNatClampNeg) v) else h else h else h
def vPlan (h : HF) (u : Int32) (nj : Nat) : Int32 := if inB u 0 5 = true then gi (arrH h nj u.toNatClampNeg) 37 u.toNatClampNeg else -2
def uPlan (h : HF) (u : Int32) (nj : Nat) : HF := if inB u 0 5 = true then arrH h nj u.toNatClampNeg else h
def vPld (f : Nat → Int32) (n i : Int32) : Int32 := if i < 0 then -2 else if n ≤ i then -2 else f i.toNatClampNeg
def vCount (a0 a1 a2 a3 a4 a5 a6 a7 w : Int32) : Int32 := if w = 0 then a0 else if w = 1 then a1 else if w = 2 then a2 else if w = 3 then a3 else if w = 4 then a4 else if w = 5 then a5 else if w = 6 then a6 else if w = 7 then a7 else -3
set_option maxHeartbeats 4000000 in
set_option maxRecDepth 100000 in
theorem c_X9_job {h : HF} (hS : Sh h) (u a b c : Int32) (nj : Nat) (hnj : fI h 31 4 = nI nj) (hnj8 : nj ≤ 8) : Mc mX9_job [.ref 1, .int u, .int a, .int b, .int c] 170 h (RI (vJob u a b c nj) (uJob h u a b c nj)) := by
  refine Mc.of (by decide) rfl (Nat.le_of_ble_eq_true rfl) ?_
  refine x_iload_n (q := 1) dX9_job_0 rfl rfl rfl ?_
  refine y_csI (q := 4) dX9_job_1 rfl l_X9_273 (c_X9_isHue_b hS _) rfl rfl rfl rfl rfl rfl ?_
  refine x_if_ne (q := 7) (t := 10) dX9_job_4 rfl (by decide) (fun c_4 => ?_) (fun c_4 => ?_)
  · replace c_4 := b2y c_4
    refine x_iload_n (q := 11) dX9_job_10 rfl rfl rfl ?_
    refine x_iconst (q := 12) (v := 1) dX9_job_11 rfl (by decide) ?_
    refine x_bipush (q := 14) (v := 100) dX9_job_12 rfl (by decide) ?_
    refine y_csI (q := 17) dX9_job_14 rfl l_X9_97 (c_X9_within_b hS _ _ _) rfl rfl rfl rfl rfl rfl ?_
    refine x_if_eq (q := 20) (t := 42) dX9_job_17 rfl (by decide) (fun c_17 => ?_) (fun c_17 => ?_)
    · replace c_17 := b2n c_17
      refine x_bipush (q := 44) (v := -3) dX9_job_42 rfl (by decide) ?_
      exact x_iret dX9_job_44 ⟨_, rfl, by first | rfl | (split <;> rfl)⟩ rfl (Nat.le_refl _) rfl ⟨by simp [vJob, c_4, c_17], by simp [uJob, c_4, c_17]⟩
    · replace c_17 := b2y c_17
      refine x_iload_n (q := 21) dX9_job_20 rfl rfl rfl ?_
      refine x_iconst (q := 22) (v := 0) dX9_job_21 rfl (by decide) ?_
      refine x_sipush (q := 25) (v := 1000) dX9_job_22 rfl (by decide) ?_
      refine y_csI (q := 28) dX9_job_25 rfl l_X9_97 (c_X9_within_b hS _ _ _) rfl rfl rfl rfl rfl rfl ?_
      refine x_if_eq (q := 31) (t := 42) dX9_job_28 rfl (by decide) (fun c_28 => ?_) (fun c_28 => ?_)
      · replace c_28 := b2n c_28
        refine x_bipush (q := 44) (v := -3) dX9_job_42 rfl (by decide) ?_
        exact x_iret dX9_job_44 ⟨_, rfl, by first | rfl | (split <;> rfl)⟩ rfl (Nat.le_refl _) rfl ⟨by simp [vJob, c_4, c_17, c_28], by simp [uJob, c_4, c_17, c_28]⟩
      · replace c_28 := b2y c_28
        refine x_iload (q := 33) dX9_job_31 rfl rfl ?_
        refine x_iconst (q := 34) (v := 0) dX9_job_33 rfl (by decide) ?_
        refine x_bipush (q := 36) (v := 100) dX9_job_34 rfl (by decide) ?_
        refine y_csI (q := 39) dX9_job_36 rfl l_X9_97 (c_X9_within_b hS _ _ _) rfl rfl rfl rfl rfl rfl ?_
        refine x_if_ne (q := 42) (t := 45) dX9_job_39 rfl (by decide) (fun c_39 => ?_) (fun c_39 => ?_)
        · replace c_39 := b2y c_39
          refine x_aload_n (q := 46) dX9_job_45 rfl rfl rfl ?_
          refine x_get (q := 49) dX9_job_46 rfl f_X9_63 (cl_1 hS) rfl (by decide) ?_
          refine x_iload_n (q := 50) dX9_job_49 rfl rfl rfl ?_
          refine x_iload_n (q := 51) dX9_job_50 rfl rfl rfl ?_
          refine x_iload_n (q := 52) dX9_job_51 rfl rfl rfl ?_
          refine x_iload (q := 54) dX9_job_52 rfl rfl ?_
          refine y_cvI (q := 57) dX9_job_54 rfl l_X9_276 (c_X6_add_b hS _ _ _ _ nj hnj hnj8) rfl rfl (cl_31 hS) (by decide) rfl rfl rfl rfl ?_
          refine Vg.nm (fun h1 eh1 => ?_)
          have hS1 : Sh h1 := by rw [eh1]; exact Sh_gJob hS _ _ _ _ _
          exact x_iret dX9_job_57 ⟨_, rfl, by first | rfl | (split <;> rfl)⟩ rfl (Nat.le_refl _) rfl ⟨by simp [vJob, c_4, c_17, c_28, c_39], by rw [eh1]; simp [uJob, c_4, c_17, c_28, c_39]⟩
        · replace c_39 := b2n c_39
          refine x_bipush (q := 44) (v := -3) dX9_job_42 rfl (by decide) ?_
          exact x_iret dX9_job_44 ⟨_, rfl, by first | rfl | (split <;> rfl)⟩ rfl (Nat.le_refl _) rfl ⟨by simp [vJob, c_4, c_17, c_28, c_39], by simp [uJob, c_4, c_17, c_28, c_39]⟩
  · replace c_4 := b2n c_4
    refine x_bipush (q := 9) (v := -2) dX9_job_7 rfl (by decide) ?_
    exact x_iret dX9_job_9 ⟨_, rfl, by first | rfl | (split <;> rfl)⟩ rfl (Nat.le_refl _) rfl ⟨by simp [vJob, c_4], by simp [uJob, c_4]⟩

set_option maxHeartbeats 4000000 in
set_option maxRecDepth 100000 in
theorem c_X9_cleaning {h : HF} (hS : Sh h) (a b v : Int32) : Mc mX9_cleaning [.ref 1, .int a, .int b, .int v] 170 h (RI (vCng (gi h 36) a b v) (uCng h a b v)) := by
  refine Mc.of (by decide) rfl (Nat.le_of_ble_eq_true rfl) ?_
  refine x_iload_n (q := 1) dX9_cleaning_0 rfl rfl rfl ?_
  refine y_csI (q := 4) dX9_cleaning_1 rfl l_X9_273 (c_X9_isHue_b hS _) rfl rfl rfl rfl rfl rfl ?_
  refine x_if_eq (q := 7) (t := 14) dX9_cleaning_4 rfl (by decide) (fun c_4 => ?_) (fun c_4 => ?_)
  · replace c_4 := b2n c_4
    refine x_bipush (q := 16) (v := -2) dX9_cleaning_14 rfl (by decide) ?_
    exact x_iret dX9_cleaning_16 ⟨_, rfl, by first | rfl | (split <;> rfl)⟩ rfl (Nat.le_refl _) rfl ⟨by simp [vCng, c_4], by simp [uCng, c_4]⟩
  · replace c_4 := b2y c_4
    refine x_iload_n (q := 8) dX9_cleaning_7 rfl rfl rfl ?_
    refine y_csI (q := 11) dX9_cleaning_8 rfl l_X9_273 (c_X9_isHue_b hS _) rfl rfl rfl rfl rfl rfl ?_
    refine x_if_ne (q := 14) (t := 17) dX9_cleaning_11 rfl (by decide) (fun c_11 => ?_) (fun c_11 => ?_)
    · replace c_11 := b2y c_11
      refine x_iload_n (q := 18) dX9_cleaning_17 rfl rfl rfl ?_
      refine x_iconst (q := 19) (v := 0) dX9_cleaning_18 rfl (by decide) ?_
      refine x_sipush (q := 22) (v := 1000) dX9_cleaning_19 rfl (by decide) ?_
      refine y_csI (q := 25) dX9_cleaning_22 rfl l_X9_97 (c_X9_within_b hS _ _ _) rfl rfl rfl rfl rfl rfl ?_
      refine x_if_ne (q := 28) (t := 31) dX9_cleaning_25 rfl (by decide) (fun c_25 => ?_) (fun c_25 => ?_)
      · replace c_25 := b2y c_25
        obtain ⟨j, hj, rfl⟩ := inB_of (n := 5) (by decide) c_4
        obtain ⟨k, hk, rfl⟩ := inB_of (n := 5) (by decide) c_11
        refine x_aload_n (q := 32) dX9_cleaning_31 rfl rfl rfl ?_
        refine x_get (q := 35) dX9_cleaning_32 rfl f_X9_63 (cl_1 hS) rfl (by decide) ?_
        refine x_iload_n (q := 36) dX9_cleaning_35 rfl rfl rfl ?_
        refine x_iload_n (q := 37) dX9_cleaning_36 rfl rfl rfl ?_
        refine x_iload_n (q := 38) dX9_cleaning_37 rfl rfl rfl ?_
        refine y_cvI (q := 41) dX9_cleaning_38 rfl l_X9_279 (c_X6_tellChange hS j k _ (by omega) (by omega)) rfl rfl (cl_31 hS) (by decide) rfl rfl rfl rfl ?_
        refine Vg.nm (fun h1 eh1 => ?_)
        have hS1 : Sh h1 := by rw [eh1]; exact hS.si _ _
        exact x_iret dX9_cleaning_41 ⟨_, rfl, by first | rfl | (split <;> rfl)⟩ rfl (Nat.le_refl _) rfl ⟨by simp [vCng, c_4, c_11, c_25, nI_clamp (show j < 2 ^ 31 by omega), nI_clamp (show k < 2 ^ 31 by omega)], by rw [eh1]; simp [uCng, c_4, c_11, c_25, nI_clamp (show j < 2 ^ 31 by omega), nI_clamp (show k < 2 ^ 31 by omega)]⟩
      · replace c_25 := b2n c_25
        refine x_bipush (q := 30) (v := -3) dX9_cleaning_28 rfl (by decide) ?_
        exact x_iret dX9_cleaning_30 ⟨_, rfl, by first | rfl | (split <;> rfl)⟩ rfl (Nat.le_refl _) rfl ⟨by simp [vCng, c_4, c_11, c_25], by simp [uCng, c_4, c_11, c_25]⟩
    · replace c_11 := b2n c_11
      refine x_bipush (q := 16) (v := -2) dX9_cleaning_14 rfl (by decide) ?_
      exact x_iret dX9_cleaning_16 ⟨_, rfl, by first | rfl | (split <;> rfl)⟩ rfl (Nat.le_refl _) rfl ⟨by simp [vCng, c_4, c_11], by simp [uCng, c_4, c_11]⟩

set_option maxHeartbeats 4000000 in
set_option maxRecDepth 100000 in
theorem c_X9_plan {h : HF} (hS : Sh h) (u : Int32) (nj : Nat) (hnj : fI h 31 4 = nI nj) (hnj8 : nj ≤ 8) (hok : okH h nj) : Mc mX9_plan [.ref 1, .int u] 170 h (RI (vPlan h u nj) (uPlan h u nj)) := by
  refine Mc.of (by decide) rfl (Nat.le_of_ble_eq_true rfl) ?_
  refine x_iload_n (q := 1) dX9_plan_0 rfl rfl rfl ?_
  refine y_csI (q := 4) dX9_plan_1 rfl l_X9_273 (c_X9_isHue_b hS _) rfl rfl rfl rfl rfl rfl ?_
  refine x_if_eq (q := 7) (t := 18) dX9_plan_4 rfl (by decide) (fun c_4 => ?_) (fun c_4 => ?_)
  · replace c_4 := b2n c_4
    refine x_bipush (q := 20) (v := -2) dX9_plan_18 rfl (by decide) ?_
    exact x_iret dX9_plan_20 ⟨_, rfl, by first | rfl | (split <;> rfl)⟩ rfl (Nat.le_refl _) rfl ⟨by simp [vPlan, c_4], by simp [uPlan, c_4]⟩
  · replace c_4 := b2y c_4
    obtain ⟨j, hj, rfl⟩ := inB_of (n := 5) (by decide) c_4
    refine x_aload_n (q := 8) dX9_plan_7 rfl rfl rfl ?_
    refine x_get (q := 11) dX9_plan_8 rfl f_X9_63 (cl_1 hS) rfl (by decide) ?_
    refine x_iload_n (q := 12) dX9_plan_11 rfl rfl rfl ?_
    refine y_cvI (q := 15) dX9_plan_12 rfl l_X9_282 (c_X6_arrange hS j (by omega) nj hnj hnj8 hok) rfl rfl (cl_31 hS) (by decide) rfl rfl rfl rfl ?_
    refine Vg.nm (fun h1 eh1 => ?_)
    have hS1 : Sh h1 := by rw [eh1]; exact Sh_arrH hS _ _
    refine x_goto (q := 20) dX9_plan_15 (by decide) ?_
    exact x_iret dX9_plan_20 ⟨_, rfl, by first | rfl | (split <;> rfl)⟩ rfl (Nat.le_refl _) rfl ⟨by simp [vPlan, c_4, nI_clamp (show j < 2 ^ 31 by omega)], by rw [eh1]; simp [uPlan, c_4, nI_clamp (show j < 2 ^ 31 by omega)]⟩

set_option maxHeartbeats 4000000 in
set_option maxRecDepth 100000 in
theorem c_X9_planned {h : HF} (hS : Sh h) (i : Int32) (np : Nat) (hnp : fI h 31 8 = nI np) (hnp8 : np ≤ 8) : Mc mX9_planned [.ref 1, .int i] 170 h (RI (vPld (gi h 38) (nI np) i) (h)) := by
  refine Mc.of (by decide) rfl (Nat.le_of_ble_eq_true rfl) ?_
  refine x_iload_n (q := 1) dX9_planned_0 rfl rfl rfl ?_
  refine x_if_lt (q := 4) (t := 27) dX9_planned_1 rfl (by decide) (fun c_1 => ?_) (fun c_1 => ?_)
  · refine x_bipush (q := 29) (v := -2) dX9_planned_27 rfl (by decide) ?_
    exact x_iret dX9_planned_29 ⟨_, rfl, by first | rfl | (split <;> rfl)⟩ rfl (Nat.le_refl _) rfl ⟨by first | (simp [vPld, c_1]; done) | (simp [vPld, c_1, nI_clamp (show j < 2 ^ 31 by omega)]; done), rfl⟩
  · refine x_iload_n (q := 5) dX9_planned_4 rfl rfl rfl ?_
    refine x_aload_n (q := 6) dX9_planned_5 rfl rfl rfl ?_
    refine x_get (q := 9) dX9_planned_6 rfl f_X9_63 (cl_1 hS) rfl (by decide) ?_
    refine x_get (q := 12) dX9_planned_9 rfl f_X9_285 (cl_31 hS) rfl (by decide) ?_
    rw [hnp]
    refine x_ic_ge (q := 15) (t := 27) dX9_planned_12 rfl (by decide) (fun c_12 => ?_) (fun c_12 => ?_)
    · refine x_bipush (q := 29) (v := -2) dX9_planned_27 rfl (by decide) ?_
      exact x_iret dX9_planned_29 ⟨_, rfl, by first | rfl | (split <;> rfl)⟩ rfl (Nat.le_refl _) rfl ⟨by first | (simp [vPld, c_1, c_12]; done) | (simp [vPld, c_1, c_12, nI_clamp (show j < 2 ^ 31 by omega)]; done), rfl⟩
    · obtain ⟨j, hj0, rfl⟩ := nI_of c_1
      have hj : j < np := (nI_ltI hj0 (by omega)).mp (Int32.not_le.mp c_12)
      refine x_aload_n (q := 16) dX9_planned_15 rfl rfl rfl ?_
      refine x_get (q := 19) dX9_planned_16 rfl f_X9_63 (cl_1 hS) rfl (by decide) ?_
      refine x_get (q := 22) dX9_planned_19 rfl f_X9_288 (cl_31 hS) rfl (by decide) ?_
      refine x_iload_n (q := 23) dX9_planned_22 rfl rfl rfl ?_
      refine z_iald (q := 24) (j := j) dX9_planned_23 rfl (cl_38 hS) (by omega) (by decide) (by decide) ?_
      refine x_goto (q := 29) dX9_planned_24 (by decide) ?_
      exact x_iret dX9_planned_29 ⟨_, rfl, by first | rfl | (split <;> rfl)⟩ rfl (Nat.le_refl _) rfl ⟨by first | (simp [vPld, c_1, c_12]; done) | (simp [vPld, c_1, c_12, nI_clamp (show j < 2 ^ 31 by omega)]; done), rfl⟩

set_option maxHeartbeats 4000000 in
set_option maxRecDepth 100000 in
theorem c_X9_idle {h : HF} (hS : Sh h)  : Mc mX9_idle [.ref 1] 170 h (RI (fI h 31 4) (sI h 31 4 0)) := by
  refine Mc.of (by decide) rfl (Nat.le_of_ble_eq_true rfl) ?_
  refine x_aload_n (q := 1) dX9_idle_0 rfl rfl rfl ?_
  refine x_get (q := 4) dX9_idle_1 rfl f_X9_63 (cl_1 hS) rfl (by decide) ?_
  refine x_get (q := 7) dX9_idle_4 rfl f_X9_291 (cl_31 hS) rfl (by decide) ?_
  refine x_istore_n (q := 8) dX9_idle_7 rfl rfl (by decide) ?_
  refine x_aload_n (q := 9) dX9_idle_8 rfl rfl rfl ?_
  refine x_get (q := 12) dX9_idle_9 rfl f_X9_63 (cl_1 hS) rfl (by decide) ?_
  refine x_iconst (q := 13) (v := 0) dX9_idle_12 rfl (by decide) ?_
  refine y_put (q := 16) dX9_idle_13 rfl f_X9_291 (cl_31 hS) rfl (by first | rfl | decide) (by first | rfl | decide) (by decide) ?_
  refine Vg.nm (fun h1 eh1 => ?_)
  have hS1 : Sh h1 := by rw [eh1]; exact hS.sI _ _ _
  have hc1_31_4 : fI h1 31 4 = nI (0) := by rw [eh1]; exact fI_sI_eq hS (by decide) (by decide) rfl _
  refine x_iload_n (q := 17) dX9_idle_16 rfl rfl rfl ?_
  exact x_iret dX9_idle_17 ⟨_, rfl, by first | rfl | (split <;> rfl)⟩ rfl (Nat.le_refl _) rfl ⟨rfl, eh1⟩

set_option maxHeartbeats 4000000 in
set_option maxRecDepth 100000 in
theorem c_X9_count {h : HF} (hS : Sh h) (w : Int32) : Mc mX9_count [.ref 1, .int w] 170 h (RI (vCount (fI h 2 2) (fI h 5 3) (fI h 9 6) (fI h 1 4) (fI h 25 5) (fI h 31 4) (fI h 5 4) (fI h 1 11) w) (h)) := by
  refine Mc.of (by decide) rfl (Nat.le_of_ble_eq_true rfl) ?_
  refine x_iload_n (q := 1) dX9_count_0 rfl rfl rfl ?_
  rcases tsw8 w with rfl | rfl | rfl | rfl | rfl | rfl | rfl | rfl | hw
  · refine x_tswI (q := 48) (off := 47) dX9_count_1 (by decide) (by decide) (by decide) (by decide) ?_
    refine x_aload_n (q := 49) dX9_count_48 rfl rfl rfl ?_
    refine x_get (q := 52) dX9_count_49 rfl f_X9_12 (cl_1 hS) rfl (by decide) ?_
    refine x_get (q := 55) dX9_count_52 rfl f_X9_292 (cl_2 hS) rfl (by decide) ?_
    exact x_iret dX9_count_55 ⟨_, rfl, by first | rfl | (split <;> rfl)⟩ rfl (Nat.le_refl _) rfl ⟨by simp_all [vCount], rfl⟩
  · refine x_tswI (q := 56) (off := 55) dX9_count_1 (by decide) (by decide) (by decide) (by decide) ?_
    refine x_aload_n (q := 57) dX9_count_56 rfl rfl rfl ?_
    refine x_get (q := 60) dX9_count_57 rfl f_X9_19 (cl_1 hS) rfl (by decide) ?_
    refine x_get (q := 63) dX9_count_60 rfl f_X9_293 (cl_5 hS) rfl (by decide) ?_
    exact x_iret dX9_count_63 ⟨_, rfl, by first | rfl | (split <;> rfl)⟩ rfl (Nat.le_refl _) rfl ⟨by simp_all [vCount], rfl⟩
  · refine x_tswI (q := 64) (off := 63) dX9_count_1 (by decide) (by decide) (by decide) (by decide) ?_
    refine x_aload_n (q := 65) dX9_count_64 rfl rfl rfl ?_
    refine x_get (q := 68) dX9_count_65 rfl f_X9_26 (cl_1 hS) rfl (by decide) ?_
    refine x_get (q := 71) dX9_count_68 rfl f_X9_294 (cl_9 hS) rfl (by decide) ?_
    exact x_iret dX9_count_71 ⟨_, rfl, by first | rfl | (split <;> rfl)⟩ rfl (Nat.le_refl _) rfl ⟨by simp_all [vCount], rfl⟩
  · refine x_tswI (q := 72) (off := 71) dX9_count_1 (by decide) (by decide) (by decide) (by decide) ?_
    refine x_aload_n (q := 73) dX9_count_72 rfl rfl rfl ?_
    refine x_get (q := 76) dX9_count_73 rfl f_X9_36 (cl_1 hS) rfl (by decide) ?_
    exact x_iret dX9_count_76 ⟨_, rfl, by first | rfl | (split <;> rfl)⟩ rfl (Nat.le_refl _) rfl ⟨by simp_all [vCount], rfl⟩
  · refine x_tswI (q := 77) (off := 76) dX9_count_1 (by decide) (by decide) (by decide) (by decide) ?_
    refine x_aload_n (q := 78) dX9_count_77 rfl rfl rfl ?_
    refine x_get (q := 81) dX9_count_78 rfl f_X9_56 (cl_1 hS) rfl (by decide) ?_
    refine x_get (q := 84) dX9_count_81 rfl f_X9_295 (cl_25 hS) rfl (by decide) ?_
    exact x_iret dX9_count_84 ⟨_, rfl, by first | rfl | (split <;> rfl)⟩ rfl (Nat.le_refl _) rfl ⟨by simp_all [vCount], rfl⟩
  · refine x_tswI (q := 85) (off := 84) dX9_count_1 (by decide) (by decide) (by decide) (by decide) ?_
    refine x_aload_n (q := 86) dX9_count_85 rfl rfl rfl ?_
    refine x_get (q := 89) dX9_count_86 rfl f_X9_63 (cl_1 hS) rfl (by decide) ?_
    refine x_get (q := 92) dX9_count_89 rfl f_X9_291 (cl_31 hS) rfl (by decide) ?_
    exact x_iret dX9_count_92 ⟨_, rfl, by first | rfl | (split <;> rfl)⟩ rfl (Nat.le_refl _) rfl ⟨by simp_all [vCount], rfl⟩
  · refine x_tswI (q := 93) (off := 92) dX9_count_1 (by decide) (by decide) (by decide) (by decide) ?_
    refine x_aload_n (q := 94) dX9_count_93 rfl rfl rfl ?_
    refine x_get (q := 97) dX9_count_94 rfl f_X9_19 (cl_1 hS) rfl (by decide) ?_
    refine x_get (q := 100) dX9_count_97 rfl f_X9_112 (cl_5 hS) rfl (by decide) ?_
    exact x_iret dX9_count_100 ⟨_, rfl, by first | rfl | (split <;> rfl)⟩ rfl (Nat.le_refl _) rfl ⟨by simp_all [vCount], rfl⟩
  · refine x_tswI (q := 101) (off := 100) dX9_count_1 (by decide) (by decide) (by decide) (by decide) ?_
    refine x_aload_n (q := 102) dX9_count_101 rfl rfl rfl ?_
    refine x_get (q := 105) dX9_count_102 rfl f_X9_74 (cl_1 hS) rfl (by decide) ?_
    exact x_iret dX9_count_105 ⟨_, rfl, by first | rfl | (split <;> rfl)⟩ rfl (Nat.le_refl _) rfl ⟨by simp_all [vCount], rfl⟩
  · refine x_tswO (q := 106) dX9_count_1 hw.1 (by decide) ?_
    refine x_bipush (q := 108) (v := -3) dX9_count_106 rfl (by decide) ?_
    exact x_iret dX9_count_108 ⟨_, rfl, by first | rfl | (split <;> rfl)⟩ rfl (Nat.le_refl _) rfl ⟨by simp_all [vCount], rfl⟩

