def vBase (a b : Int32) (nb : Nat) : Int32 := if inB a 0 1000 = true then if inB b 0 1000 = true then cap8 nb else -3 else -3
def uBase (h : HF) (a b : Int32) (nb : Nat) : HF := if inB a 0 1000 = true then if inB b 0 1000 = true then gBase h nb a b else h else h
set_option maxHeartbeats 4000000 in
set_option maxRecDepth 100000 in
theorem c_X9_base {h : HF} (hS : Sh h) (a b : Int32) (nb : Nat) (hnb : fI h 2 2 = nI nb) (hnb8 : nb ≤ 8) : Mc mX9_base [.ref 1, .int a, .int b] 170 h (RI (vBase a b nb) (uBase h a b nb)) := by
  refine Mc.of (by decide) rfl (Nat.le_of_ble_eq_true rfl) ?_
  refine x_iload_n (q := 1) dX9_base_0 rfl rfl rfl ?_
  refine y_csI (q := 4) dX9_base_1 rfl l_X9_79 (c_X9_isStrength_b hS _) rfl rfl rfl rfl rfl rfl ?_
  refine x_if_eq (q := 7) (t := 14) dX9_base_4 rfl (by decide) (fun c_4 => ?_) (fun c_4 => ?_)
  · replace c_4 := b2n c_4
    refine x_bipush (q := 16) (v := -3) dX9_base_14 rfl (by decide) ?_
    exact x_iret dX9_base_16 ⟨_, rfl, by first | rfl | (split <;> rfl)⟩ rfl (Nat.le_refl _) rfl ⟨by simp [vBase, c_4], by simp [uBase, c_4]⟩
  · replace c_4 := b2y c_4
    refine x_iload_n (q := 8) dX9_base_7 rfl rfl rfl ?_
    refine y_csI (q := 11) dX9_base_8 rfl l_X9_79 (c_X9_isStrength_b hS _) rfl rfl rfl rfl rfl rfl ?_
    refine x_if_ne (q := 14) (t := 17) dX9_base_11 rfl (by decide) (fun c_11 => ?_) (fun c_11 => ?_)
    · replace c_11 := b2y c_11
      refine x_aload_n (q := 18) dX9_base_17 rfl rfl rfl ?_
      refine x_get (q := 21) dX9_base_18 rfl f_X9_12 (cl_1 hS) rfl (by decide) ?_
      refine x_iload_n (q := 22) dX9_base_21 rfl rfl rfl ?_
      refine x_iload_n (q := 23) dX9_base_22 rfl rfl rfl ?_
      refine y_cvI (q := 26) dX9_base_23 rfl l_X9_83 (c_X5_add_b hS _ _ nb hnb hnb8) rfl rfl (cl_2 hS) (by decide) rfl rfl rfl rfl ?_
      refine Vg.nm (fun h1 eh1 => ?_)
      have hS1 : Sh h1 := by rw [eh1]; exact Sh_gBase hS _ _ _
      exact x_iret dX9_base_26 ⟨_, rfl, by first | rfl | (split <;> rfl)⟩ rfl (Nat.le_refl _) rfl ⟨by simp [vBase, c_4, c_11], by rw [eh1]; simp [uBase, c_4, c_11]⟩
    · replace c_11 := b2n c_11
      refine x_bipush (q := 16) (v := -3) dX9_base_14 rfl (by decide) ?_
      exact x_iret dX9_base_16 ⟨_, rfl, by first | rfl | (split <;> rfl)⟩ rfl (Nat.le_refl _) rfl ⟨by simp [vBase, c_4, c_11], by simp [uBase, c_4, c_11]⟩

def vBand (b d x y : Int32) (nb : Nat) : Int32 := if ltB b (nI nb) = true then if inB d 0 2 = true then if inB x 0 1000 = true then if inB y 0 1000 = true then 1 else -3 else -3 else -2 else -2
def uBand (h : HF) (b d x y : Int32) (nb : Nat) : HF := if ltB b (nI nb) = true then if inB d 0 2 = true then if inB x 0 1000 = true then if inB y 0 1000 = true then tellF h (b.toNatClampNeg * 3 + d.toNatClampNeg) x y else h else h else h else h
set_option maxHeartbeats 4000000 in
set_option maxRecDepth 100000 in
theorem c_X9_band {h : HF} (hS : Sh h) (b d x y : Int32) (nb : Nat) (hnb : fI h 2 2 = nI nb) (hnb8 : nb ≤ 8) : Mc mX9_band [.ref 1, .int b, .int d, .int x, .int y] 170 h (RI (vBand b d x y nb) (uBand h b d x y nb)) := by
  refine Mc.of (by decide) rfl (Nat.le_of_ble_eq_true rfl) ?_
  refine x_aload_n (q := 1) dX9_band_0 rfl rfl rfl ?_
  refine x_get (q := 4) dX9_band_1 rfl f_X9_12 (cl_1 hS) rfl (by decide) ?_
  refine x_iload_n (q := 5) dX9_band_4 rfl rfl rfl ?_
  refine y_cvI (q := 8) dX9_band_5 rfl l_X9_87 (c_X5_has_b hS _ nb hnb) rfl rfl (cl_2 hS) (by decide) rfl rfl rfl rfl ?_
  refine x_if_eq (q := 11) (t := 18) dX9_band_8 rfl (by decide) (fun c_8 => ?_) (fun c_8 => ?_)
  · replace c_8 := b2n c_8
    refine x_bipush (q := 20) (v := -2) dX9_band_18 rfl (by decide) ?_
    exact x_iret dX9_band_20 ⟨_, rfl, by first | rfl | (split <;> rfl)⟩ rfl (Nat.le_refl _) rfl ⟨by simp [vBand, c_8], by simp [uBand, c_8]⟩
  · replace c_8 := b2y c_8
    refine x_iload_n (q := 12) dX9_band_11 rfl rfl rfl ?_
    refine y_csI (q := 15) dX9_band_12 rfl l_X9_90 (c_X9_isBand_b hS _) rfl rfl rfl rfl rfl rfl ?_
    refine x_if_ne (q := 18) (t := 21) dX9_band_15 rfl (by decide) (fun c_15 => ?_) (fun c_15 => ?_)
    · replace c_15 := b2y c_15
      refine x_iload_n (q := 22) dX9_band_21 rfl rfl rfl ?_
      refine y_csI (q := 25) dX9_band_22 rfl l_X9_79 (c_X9_isStrength_b hS _) rfl rfl rfl rfl rfl rfl ?_
      refine x_if_eq (q := 28) (t := 36) dX9_band_25 rfl (by decide) (fun c_25 => ?_) (fun c_25 => ?_)
      · replace c_25 := b2n c_25
        refine x_bipush (q := 38) (v := -3) dX9_band_36 rfl (by decide) ?_
        exact x_iret dX9_band_38 ⟨_, rfl, by first | rfl | (split <;> rfl)⟩ rfl (Nat.le_refl _) rfl ⟨by simp [vBand, c_8, c_15, c_25], by simp [uBand, c_8, c_15, c_25]⟩
      · replace c_25 := b2y c_25
        refine x_iload (q := 30) dX9_band_28 rfl rfl ?_
        refine y_csI (q := 33) dX9_band_30 rfl l_X9_79 (c_X9_isStrength_b hS _) rfl rfl rfl rfl rfl rfl ?_
        refine x_if_ne (q := 36) (t := 39) dX9_band_33 rfl (by decide) (fun c_33 => ?_) (fun c_33 => ?_)
        · replace c_33 := b2y c_33
          obtain ⟨j, hj, rfl⟩ := ltB_of (by omega) c_8
          obtain ⟨k, hk, rfl⟩ := inB_of (n := 2) (by decide) c_15
          refine x_aload_n (q := 40) dX9_band_39 rfl rfl rfl ?_
          refine x_get (q := 43) dX9_band_40 rfl f_X9_12 (cl_1 hS) rfl (by decide) ?_
          refine x_iload_n (q := 44) dX9_band_43 rfl rfl rfl ?_
          refine x_iload_n (q := 45) dX9_band_44 rfl rfl rfl ?_
          refine x_iload_n (q := 46) dX9_band_45 rfl rfl rfl ?_
          refine x_iload (q := 48) dX9_band_46 rfl rfl ?_
          refine y_cvV (q := 51) dX9_band_48 rfl l_X9_93 (c_X5_tell hS j k _ _ (by omega) (by omega)) rfl rfl (cl_2 hS) (by decide) rfl rfl rfl rfl ?_
          refine Vg.nm (fun h1 eh1 => ?_)
          have hS1 : Sh h1 := by rw [eh1]; exact hS.tell _ _ _
          refine x_iconst (q := 52) (v := 1) dX9_band_51 rfl (by decide) ?_
          exact x_iret dX9_band_52 ⟨_, rfl, by first | rfl | (split <;> rfl)⟩ rfl (Nat.le_refl _) rfl ⟨by simp [vBand, c_8, c_15, c_25, c_33], by rw [eh1]; simp [uBand, c_8, c_15, c_25, c_33, nI_clamp (show j < 2 ^ 31 by omega), nI_clamp (show k < 2 ^ 31 by omega)]⟩
        · replace c_33 := b2n c_33
          refine x_bipush (q := 38) (v := -3) dX9_band_36 rfl (by decide) ?_
          exact x_iret dX9_band_38 ⟨_, rfl, by first | rfl | (split <;> rfl)⟩ rfl (Nat.le_refl _) rfl ⟨by simp [vBand, c_8, c_15, c_25, c_33], by simp [uBand, c_8, c_15, c_25, c_33]⟩
    · replace c_15 := b2n c_15
      refine x_bipush (q := 20) (v := -2) dX9_band_18 rfl (by decide) ?_
      exact x_iret dX9_band_20 ⟨_, rfl, by first | rfl | (split <;> rfl)⟩ rfl (Nat.le_refl _) rfl ⟨by simp [vBand, c_8, c_15], by simp [uBand, c_8, c_15]⟩

def vLot (b u l : Int32) (nb nl : Nat) : Int32 := if ltB b (nI nb) = true then if inB u 1 20000 = true then if inB l 0 10000 = true then cap40 nl else -3 else -3 else -2
def uLot (h : HF) (b u l : Int32) (nb nl : Nat) : HF := if ltB b (nI nb) = true then if inB u 1 20000 = true then if inB l 0 10000 = true then gLot h nl b u l else h else h else h
set_option maxHeartbeats 4000000 in
set_option maxRecDepth 100000 in
theorem c_X9_lot {h : HF} (hS : Sh h) (b u l : Int32) (nb : Nat) (hnb : fI h 2 2 = nI nb) (hnb8 : nb ≤ 8) (nl : Nat) (hnl : fI h 5 3 = nI nl) (hnl40 : nl ≤ 40) : Mc mX9_lot [.ref 1, .int b, .int u, .int l] 170 h (RI (vLot b u l nb nl) (uLot h b u l nb nl)) := by
  refine Mc.of (by decide) rfl (Nat.le_of_ble_eq_true rfl) ?_
  refine x_aload_n (q := 1) dX9_lot_0 rfl rfl rfl ?_
  refine x_get (q := 4) dX9_lot_1 rfl f_X9_12 (cl_1 hS) rfl (by decide) ?_
  refine x_iload_n (q := 5) dX9_lot_4 rfl rfl rfl ?_
  refine y_cvI (q := 8) dX9_lot_5 rfl l_X9_87 (c_X5_has_b hS _ nb hnb) rfl rfl (cl_2 hS) (by decide) rfl rfl rfl rfl ?_
  refine x_if_ne (q := 11) (t := 14) dX9_lot_8 rfl (by decide) (fun c_8 => ?_) (fun c_8 => ?_)
  · replace c_8 := b2y c_8
    refine x_iload_n (q := 15) dX9_lot_14 rfl rfl rfl ?_
    refine x_iconst (q := 16) (v := 1) dX9_lot_15 rfl (by decide) ?_
    refine x_sipush (q := 19) (v := 20000) dX9_lot_16 rfl (by decide) ?_
    refine y_csI (q := 22) dX9_lot_19 rfl l_X9_97 (c_X9_within_b hS _ _ _) rfl rfl rfl rfl rfl rfl ?_
    refine x_if_eq (q := 25) (t := 36) dX9_lot_22 rfl (by decide) (fun c_22 => ?_) (fun c_22 => ?_)
    · replace c_22 := b2n c_22
      refine x_bipush (q := 38) (v := -3) dX9_lot_36 rfl (by decide) ?_
      exact x_iret dX9_lot_38 ⟨_, rfl, by first | rfl | (split <;> rfl)⟩ rfl (Nat.le_refl _) rfl ⟨by simp [vLot, c_8, c_22], by simp [uLot, c_8, c_22]⟩
    · replace c_22 := b2y c_22
      refine x_iload_n (q := 26) dX9_lot_25 rfl rfl rfl ?_
      refine x_iconst (q := 27) (v := 0) dX9_lot_26 rfl (by decide) ?_
      refine x_sipush (q := 30) (v := 10000) dX9_lot_27 rfl (by decide) ?_
      refine y_csI (q := 33) dX9_lot_30 rfl l_X9_97 (c_X9_within_b hS _ _ _) rfl rfl rfl rfl rfl rfl ?_
      refine x_if_ne (q := 36) (t := 39) dX9_lot_33 rfl (by decide) (fun c_33 => ?_) (fun c_33 => ?_)
      · replace c_33 := b2y c_33
        refine x_aload_n (q := 40) dX9_lot_39 rfl rfl rfl ?_
        refine x_get (q := 43) dX9_lot_40 rfl f_X9_19 (cl_1 hS) rfl (by decide) ?_
        refine x_iload_n (q := 44) dX9_lot_43 rfl rfl rfl ?_
        refine x_iload_n (q := 45) dX9_lot_44 rfl rfl rfl ?_
        refine x_iload_n (q := 46) dX9_lot_45 rfl rfl rfl ?_
        refine y_cvI (q := 49) dX9_lot_46 rfl l_X9_101 (c_X7_add_b hS _ _ _ nl hnl hnl40) rfl rfl (cl_5 hS) (by decide) rfl rfl rfl rfl ?_
        refine Vg.nm (fun h1 eh1 => ?_)
        have hS1 : Sh h1 := by rw [eh1]; exact Sh_gLot hS _ _ _ _
        exact x_iret dX9_lot_49 ⟨_, rfl, by first | rfl | (split <;> rfl)⟩ rfl (Nat.le_refl _) rfl ⟨by simp [vLot, c_8, c_22, c_33], by rw [eh1]; simp [uLot, c_8, c_22, c_33]⟩
      · replace c_33 := b2n c_33
        refine x_bipush (q := 38) (v := -3) dX9_lot_36 rfl (by decide) ?_
        exact x_iret dX9_lot_38 ⟨_, rfl, by first | rfl | (split <;> rfl)⟩ rfl (Nat.le_refl _) rfl ⟨by simp [vLot, c_8, c_22, c_33], by simp [uLot, c_8, c_22, c_33]⟩
  · replace c_8 := b2n c_8
    refine x_bipush (q := 13) (v := -2) dX9_lot_11 rfl (by decide) ?_
    exact x_iret dX9_lot_13 ⟨_, rfl, by first | rfl | (split <;> rfl)⟩ rfl (Nat.le_refl _) rfl ⟨by simp [vLot, c_8], by simp [uLot, c_8]⟩

def vLeft (S : Nat → Int32) (l : Int32) (nl : Nat) : Int32 := if ltB l (nI nl) = true then S l.toNatClampNeg else -2
def vMay (B L S : Nat → Int32) (day b : Int32) (nb nl : Nat) : Int32 := if ltB b (nI nb) = true then sU B L S day b nl else -2
def vDay (t n : Int32) : Int32 := if inB n 0 1000 = true then if t + n ≤ 10000 then t + n else -3 else -3
def uDay (h : HF) (t n : Int32) : HF := if inB n 0 1000 = true then if t + n ≤ 10000 then sI h 5 4 (t + n) else h else h
set_option maxHeartbeats 4000000 in
set_option maxRecDepth 100000 in
theorem c_X9_left {h : HF} (hS : Sh h) (l : Int32) (nl : Nat) (hnl : fI h 5 3 = nI nl) (hnl40 : nl ≤ 40) : Mc mX9_left [.ref 1, .int l] 170 h (RI (vLeft (gi h 7) l nl) (h)) := by
  refine Mc.of (by decide) rfl (Nat.le_of_ble_eq_true rfl) ?_
  refine x_aload_n (q := 1) dX9_left_0 rfl rfl rfl ?_
  refine x_get (q := 4) dX9_left_1 rfl f_X9_19 (cl_1 hS) rfl (by decide) ?_
  refine x_iload_n (q := 5) dX9_left_4 rfl rfl rfl ?_
  refine y_cvI (q := 8) dX9_left_5 rfl l_X9_104 (c_X7_has_b hS _ nl hnl) rfl rfl (cl_5 hS) (by decide) rfl rfl rfl rfl ?_
  refine x_if_eq (q := 11) (t := 23) dX9_left_8 rfl (by decide) (fun c_8 => ?_) (fun c_8 => ?_)
  · replace c_8 := b2n c_8
    refine x_bipush (q := 25) (v := -2) dX9_left_23 rfl (by decide) ?_
    exact x_iret dX9_left_25 ⟨_, rfl, by first | rfl | (split <;> rfl)⟩ rfl (Nat.le_refl _) rfl ⟨by first | (simp [vLeft, c_8]; done) | (simp [vLeft, c_8, nI_clamp (show j < 2 ^ 31 by omega)]; done), rfl⟩
  · replace c_8 := b2y c_8
    obtain ⟨j, hj, rfl⟩ := ltB_of (by omega) c_8
    refine x_aload_n (q := 12) dX9_left_11 rfl rfl rfl ?_
    refine x_get (q := 15) dX9_left_12 rfl f_X9_19 (cl_1 hS) rfl (by decide) ?_
    refine x_get (q := 18) dX9_left_15 rfl f_X9_105 (cl_5 hS) rfl (by decide) ?_
    refine x_iload_n (q := 19) dX9_left_18 rfl rfl rfl ?_
    refine z_iald (q := 20) (j := j) dX9_left_19 rfl (cl_7 hS) (by omega) (by decide) (by decide) ?_
    refine x_goto (q := 25) dX9_left_20 (by decide) ?_
    exact x_iret dX9_left_25 ⟨_, rfl, by first | rfl | (split <;> rfl)⟩ rfl (Nat.le_refl _) rfl ⟨by first | (simp [vLeft, c_8]; done) | (simp [vLeft, c_8, nI_clamp (show j < 2 ^ 31 by omega)]; done), rfl⟩

set_option maxHeartbeats 4000000 in
set_option maxRecDepth 100000 in
theorem c_X9_may {h : HF} (hS : Sh h) (b : Int32) (nb : Nat) (hnb : fI h 2 2 = nI nb) (hnb8 : nb ≤ 8) (nl : Nat) (hnl : fI h 5 3 = nI nl) (hnl40 : nl ≤ 40) : Mc mX9_may [.ref 1, .int b] 170 h (RI (vMay (gi h 6) (gi h 8) (gi h 7) (fI h 5 4) b nb nl) (h)) := by
  refine Mc.of (by decide) rfl (Nat.le_of_ble_eq_true rfl) ?_
  refine x_aload_n (q := 1) dX9_may_0 rfl rfl rfl ?_
  refine x_get (q := 4) dX9_may_1 rfl f_X9_12 (cl_1 hS) rfl (by decide) ?_
  refine x_iload_n (q := 5) dX9_may_4 rfl rfl rfl ?_
  refine y_cvI (q := 8) dX9_may_5 rfl l_X9_87 (c_X5_has_b hS _ nb hnb) rfl rfl (cl_2 hS) (by decide) rfl rfl rfl rfl ?_
  refine x_if_eq (q := 11) (t := 22) dX9_may_8 rfl (by decide) (fun c_8 => ?_) (fun c_8 => ?_)
  · replace c_8 := b2n c_8
    refine x_bipush (q := 24) (v := -2) dX9_may_22 rfl (by decide) ?_
    exact x_iret dX9_may_24 ⟨_, rfl, by first | rfl | (split <;> rfl)⟩ rfl (Nat.le_refl _) rfl ⟨by simp [vMay, c_8], rfl⟩
  · replace c_8 := b2y c_8
    refine x_aload_n (q := 12) dX9_may_11 rfl rfl rfl ?_
    refine x_get (q := 15) dX9_may_12 rfl f_X9_19 (cl_1 hS) rfl (by decide) ?_
    refine x_iload_n (q := 16) dX9_may_15 rfl rfl rfl ?_
    refine y_cvI (q := 19) dX9_may_16 rfl l_X9_108 (c_X7_usableOf hS _ nl hnl hnl40) rfl rfl (cl_5 hS) (by decide) rfl rfl rfl rfl ?_
    refine x_goto (q := 24) dX9_may_19 (by decide) ?_
    exact x_iret dX9_may_24 ⟨_, rfl, by first | rfl | (split <;> rfl)⟩ rfl (Nat.le_refl _) rfl ⟨by simp [vMay, c_8], rfl⟩

set_option maxHeartbeats 4000000 in
set_option maxRecDepth 100000 in
theorem c_X9_day {h : HF} (hS : Sh h) (n : Int32) : Mc mX9_day [.ref 1, .int n] 170 h (RI (vDay (fI h 5 4) n) (uDay h (fI h 5 4) n)) := by
  refine Mc.of (by decide) rfl (Nat.le_of_ble_eq_true rfl) ?_
  refine x_iload_n (q := 1) dX9_day_0 rfl rfl rfl ?_
  refine x_iconst (q := 2) (v := 0) dX9_day_1 rfl (by decide) ?_
  refine x_sipush (q := 5) (v := 1000) dX9_day_2 rfl (by decide) ?_
  refine y_csI (q := 8) dX9_day_5 rfl l_X9_97 (c_X9_within_b hS _ _ _) rfl rfl rfl rfl rfl rfl ?_
  refine x_if_eq (q := 11) (t := 26) dX9_day_8 rfl (by decide) (fun c_8 => ?_) (fun c_8 => ?_)
  · replace c_8 := b2n c_8
    refine x_bipush (q := 28) (v := -3) dX9_day_26 rfl (by decide) ?_
    exact x_iret dX9_day_28 ⟨_, rfl, by first | rfl | (split <;> rfl)⟩ rfl (Nat.le_refl _) rfl ⟨by simp [vDay, c_8], by simp [uDay, c_8]⟩
  · replace c_8 := b2y c_8
    refine x_aload_n (q := 12) dX9_day_11 rfl rfl rfl ?_
    refine x_get (q := 15) dX9_day_12 rfl f_X9_19 (cl_1 hS) rfl (by decide) ?_
    refine x_get (q := 18) dX9_day_15 rfl f_X9_112 (cl_5 hS) rfl (by decide) ?_
    refine x_iload_n (q := 19) dX9_day_18 rfl rfl rfl ?_
    refine x_iadd (q := 20) dX9_day_19 rfl ?_
    refine x_sipush (q := 23) (v := 10000) dX9_day_20 rfl (by decide) ?_
    refine x_ic_le (q := 26) (t := 29) dX9_day_23 rfl (by decide) (fun c_23 => ?_) (fun c_23 => ?_)
    · refine x_aload_n (q := 30) dX9_day_29 rfl rfl rfl ?_
      refine x_get (q := 33) dX9_day_30 rfl f_X9_19 (cl_1 hS) rfl (by decide) ?_
      refine x_dup (q := 34) dX9_day_33 rfl rfl ?_
      refine x_get (q := 37) dX9_day_34 rfl f_X9_112 (cl_5 hS) rfl (by decide) ?_
      refine x_iload_n (q := 38) dX9_day_37 rfl rfl rfl ?_
      refine x_iadd (q := 39) dX9_day_38 rfl ?_
      refine y_put (q := 42) dX9_day_39 rfl f_X9_112 (cl_5 hS) rfl (by first | rfl | decide) (by first | rfl | decide) (by decide) ?_
      refine Vg.nm (fun h1 eh1 => ?_)
      have hS1 : Sh h1 := by rw [eh1]; exact hS.sI _ _ _
      refine x_aload_n (q := 43) dX9_day_42 rfl rfl rfl ?_
      refine x_get (q := 46) dX9_day_43 rfl f_X9_19 (cl_1 hS1) rfl (by decide) ?_
      refine x_get (q := 49) dX9_day_46 rfl f_X9_112 (cl_5 hS1) rfl (by decide) ?_
      exact x_iret dX9_day_49 ⟨_, rfl, by first | rfl | (split <;> rfl)⟩ rfl (Nat.le_refl _) rfl ⟨by rw [eh1, fI_sI_eq hS (by decide) (by decide) rfl]; simp [vDay, c_8, c_23], by rw [eh1]; simp [uDay, c_8, c_23]⟩
    · refine x_bipush (q := 28) (v := -3) dX9_day_26 rfl (by decide) ?_
      exact x_iret dX9_day_28 ⟨_, rfl, by first | rfl | (split <;> rfl)⟩ rfl (Nat.le_refl _) rfl ⟨by simp [vDay, c_8, c_23], by simp [uDay, c_8, c_23]⟩

set_option maxHeartbeats 4000000 in
set_option maxRecDepth 100000 in
theorem c_X9_recipe {h : HF} (hS : Sh h) (nr : Nat) (hnr : fI h 9 6 = nI nr) (hnr12 : nr ≤ 12) : Mc mX9_recipe [.ref 1] 170 h (RI (cap12 nr) (gRec h nr)) := by
  refine Mc.of (by decide) rfl (Nat.le_of_ble_eq_true rfl) ?_
  refine x_aload_n (q := 1) dX9_recipe_0 rfl rfl rfl ?_
  refine x_get (q := 4) dX9_recipe_1 rfl f_X9_26 (cl_1 hS) rfl (by decide) ?_
  refine y_cvI (q := 7) dX9_recipe_4 rfl l_X9_115 (c_X1_add_b hS nr hnr hnr12) rfl rfl (cl_9 hS) (by decide) rfl rfl rfl rfl ?_
  refine Vg.nm (fun h1 eh1 => ?_)
  have hS1 : Sh h1 := by rw [eh1]; exact Sh_gRec hS _
  exact x_iret dX9_recipe_7 ⟨_, rfl, by first | rfl | (split <;> rfl)⟩ rfl (Nat.le_refl _) rfl ⟨rfl, eh1⟩

def vRes (f : Nat → Int32) (r b : Int32) (nr nb : Nat) : Int32 := if ltB r (nI nr) = true then if ltB b (nI nb) = true then f (r.toNatClampNeg * 8 + b.toNatClampNeg) else -2 else -2
set_option maxHeartbeats 4000000 in
set_option maxRecDepth 100000 in
theorem c_X9_resolved {h : HF} (hS : Sh h) (r b : Int32) (nb : Nat) (hnb : fI h 2 2 = nI nb) (hnb8 : nb ≤ 8) (nr : Nat) (hnr : fI h 9 6 = nI nr) (hnr12 : nr ≤ 12) : Mc mX9_resolved [.ref 1, .int r, .int b] 170 h (RI (vRes (gi h 14) r b nr nb) (h)) := by
  refine Mc.of (by decide) rfl (Nat.le_of_ble_eq_true rfl) ?_
  refine x_aload_n (q := 1) dX9_resolved_0 rfl rfl rfl ?_
  refine x_get (q := 4) dX9_resolved_1 rfl f_X9_26 (cl_1 hS) rfl (by decide) ?_
  refine x_iload_n (q := 5) dX9_resolved_4 rfl rfl rfl ?_
  refine y_cvI (q := 8) dX9_resolved_5 rfl l_X9_118 (c_X1_has_b hS _ nr hnr) rfl rfl (cl_9 hS) (by decide) rfl rfl rfl rfl ?_
  refine x_if_eq (q := 11) (t := 22) dX9_resolved_8 rfl (by decide) (fun c_8 => ?_) (fun c_8 => ?_)
  · replace c_8 := b2n c_8
    refine x_bipush (q := 24) (v := -2) dX9_resolved_22 rfl (by decide) ?_
    exact x_iret dX9_resolved_24 ⟨_, rfl, by first | rfl | (split <;> rfl)⟩ rfl (Nat.le_refl _) rfl ⟨by simp [vRes, c_8], rfl⟩
  · replace c_8 := b2y c_8
    refine x_aload_n (q := 12) dX9_resolved_11 rfl rfl rfl ?_
    refine x_get (q := 15) dX9_resolved_12 rfl f_X9_12 (cl_1 hS) rfl (by decide) ?_
    refine x_iload_n (q := 16) dX9_resolved_15 rfl rfl rfl ?_
    refine y_cvI (q := 19) dX9_resolved_16 rfl l_X9_87 (c_X5_has_b hS _ nb hnb) rfl rfl (cl_2 hS) (by decide) rfl rfl rfl rfl ?_
    refine x_if_ne (q := 22) (t := 25) dX9_resolved_19 rfl (by decide) (fun c_19 => ?_) (fun c_19 => ?_)
    · replace c_19 := b2y c_19
      obtain ⟨j, hj, rfl⟩ := ltB_of (by omega) c_8
      obtain ⟨k, hk, rfl⟩ := ltB_of (by omega) c_19
      refine x_aload_n (q := 26) dX9_resolved_25 rfl rfl rfl ?_
      refine x_get (q := 29) dX9_resolved_26 rfl f_X9_26 (cl_1 hS) rfl (by decide) ?_
      refine x_iload_n (q := 30) dX9_resolved_29 rfl rfl rfl ?_
      refine x_iload_n (q := 31) dX9_resolved_30 rfl rfl rfl ?_
      refine y_cvI (q := 34) dX9_resolved_31 rfl l_X9_123 (c_X1_need hS j k (by omega) (by omega)) rfl rfl (cl_9 hS) (by decide) rfl rfl rfl rfl ?_
      exact x_iret dX9_resolved_34 ⟨_, rfl, by first | rfl | (split <;> rfl)⟩ rfl (Nat.le_refl _) rfl ⟨by simp [vRes, c_8, c_19, nI_clamp (show j < 2 ^ 31 by omega), nI_clamp (show k < 2 ^ 31 by omega)], rfl⟩
    · replace c_19 := b2n c_19
      refine x_bipush (q := 24) (v := -2) dX9_resolved_22 rfl (by decide) ?_
      exact x_iret dX9_resolved_24 ⟨_, rfl, by first | rfl | (split <;> rfl)⟩ rfl (Nat.le_refl _) rfl ⟨by simp [vRes, c_8, c_19], rfl⟩

set_option maxHeartbeats 4000000 in
set_option maxRecDepth 100000 in
theorem c_X9_batch_full {h : HF} (hS : Sh h) (hnt : fI h 1 4 = nI 24) : Mc mX9_batch [.ref 1] 170 h (RI (-6) h) := by
  refine Mc.of (by decide) rfl (Nat.le_of_ble_eq_true rfl) ?_
  refine x_aload_n (q := 1) dX9_batch_0 rfl rfl rfl ?_
  refine x_get (q := 4) dX9_batch_1 rfl f_X9_36 (cl_1 hS) rfl (by decide) ?_
  rw [hnt]
  refine x_bipush (q := 6) (v := 24) dX9_batch_4 rfl (by decide) ?_
  refine x_ic_lt (q := 9) (t := 12) dX9_batch_6 rfl (by decide) (fun c_ => absurd c_ (by decide)) (fun _ => ?_)
  refine x_bipush (q := 11) (v := -6) dX9_batch_9 rfl (by decide) ?_
  exact x_iret dX9_batch_11 ⟨_, rfl, by first | rfl | (split <;> rfl)⟩ rfl (Nat.le_refl _) rfl ⟨rfl, rfl⟩

set_option maxHeartbeats 4000000 in
set_option maxRecDepth 100000 in
theorem c_X9_batch {h : HF} (hS : Sh h) (z : Nat) (hz : fI h 1 4 = nI z) (hlt : z < 24) : Mc mX9_batch [.ref 1] 170 h (RI (nI z) (sI h 1 4 (nI (z + 1)))) := by
  refine Mc.of (by decide) rfl (Nat.le_of_ble_eq_true rfl) ?_
  refine x_aload_n (q := 1) dX9_batch_0 rfl rfl rfl ?_
  refine x_get (q := 4) dX9_batch_1 rfl f_X9_36 (cl_1 hS) rfl (by decide) ?_
  rw [hz]
  refine x_bipush (q := 6) (v := 24) dX9_batch_4 rfl (by decide) ?_
  refine x_ic_lt (q := 9) (t := 12) dX9_batch_6 rfl (by decide) (fun _ => ?_) (fun c_ => absurd (show nI z < nI 24 from nI_lt hlt (by decide)) c_)
  refine x_aload_n (q := 13) dX9_batch_12 rfl rfl rfl ?_
  refine x_dup (q := 14) dX9_batch_13 rfl rfl ?_
  refine x_get (q := 17) dX9_batch_14 rfl f_X9_36 (cl_1 hS) rfl (by decide) ?_
  rw [hz]
  refine x_iconst (q := 18) (v := 1) dX9_batch_17 rfl (by decide) ?_
  refine x_iadd (q := 19) dX9_batch_18 rfl ?_
  rw [nI_1 (z)]
  refine y_put (q := 22) dX9_batch_19 rfl f_X9_36 (cl_1 hS) rfl (by first | rfl | decide) (by first | rfl | decide) (by decide) ?_
  refine Vg.nm (fun h1 eh1 => ?_)
  have hS1 : Sh h1 := by rw [eh1]; exact hS.sI _ _ _
  have hc1_1_4 : fI h1 1 4 = nI (z + 1) := by rw [eh1]; exact fI_sI_eq hS (by decide) (by decide) rfl _
  refine x_aload_n (q := 23) dX9_batch_22 rfl rfl rfl ?_
  refine x_get (q := 26) dX9_batch_23 rfl f_X9_36 (cl_1 hS1) rfl (by decide) ?_
  rw [hc1_1_4]
  refine x_iconst (q := 27) (v := 1) dX9_batch_26 rfl (by decide) ?_
  refine x_isub (q := 28) dX9_batch_27 rfl ?_
  rw [nI_pred (z)]
  exact x_iret dX9_batch_28 ⟨_, rfl, by first | rfl | (split <;> rfl)⟩ rfl (Nat.le_refl _) rfl ⟨rfl, by subst_vars; rfl⟩

def vDrop (f : Nat → Int32) (b : Int32) (nb : Nat) : Int32 := if ltB b (nI nb) = true then f b.toNatClampNeg else -2
def vAmt (f : Nat → Nat → Int32) (t b : Int32) (nt nb : Nat) : Int32 := if ltB t (nI nt) = true then if ltB b (nI nb) = true then f t.toNatClampNeg b.toNatClampNeg else -2 else -2
set_option maxHeartbeats 4000000 in
set_option maxRecDepth 100000 in
theorem c_X9_drop {h : HF} (hS : Sh h) (b : Int32) (nb : Nat) (hnb : fI h 2 2 = nI nb) (hnb8 : nb ≤ 8) : Mc mX9_drop [.ref 1, .int b] 170 h (RI (vDrop (gi h 18) b nb) (h)) := by
  refine Mc.of (by decide) rfl (Nat.le_of_ble_eq_true rfl) ?_
  refine x_aload_n (q := 1) dX9_drop_0 rfl rfl rfl ?_
  refine x_get (q := 4) dX9_drop_1 rfl f_X9_12 (cl_1 hS) rfl (by decide) ?_
  refine x_iload_n (q := 5) dX9_drop_4 rfl rfl rfl ?_
  refine y_cvI (q := 8) dX9_drop_5 rfl l_X9_87 (c_X5_has_b hS _ nb hnb) rfl rfl (cl_2 hS) (by decide) rfl rfl rfl rfl ?_
  refine x_if_eq (q := 11) (t := 23) dX9_drop_8 rfl (by decide) (fun c_8 => ?_) (fun c_8 => ?_)
  · replace c_8 := b2n c_8
    refine x_bipush (q := 25) (v := -2) dX9_drop_23 rfl (by decide) ?_
    exact x_iret dX9_drop_25 ⟨_, rfl, by first | rfl | (split <;> rfl)⟩ rfl (Nat.le_refl _) rfl ⟨by first | (simp [vDrop, c_8]; done) | (simp [vDrop, c_8, nI_clamp (show j < 2 ^ 31 by omega)]; done), rfl⟩
  · replace c_8 := b2y c_8
    obtain ⟨j, hj, rfl⟩ := ltB_of (by omega) c_8
    refine x_aload_n (q := 12) dX9_drop_11 rfl rfl rfl ?_
    refine x_get (q := 15) dX9_drop_12 rfl f_X9_43 (cl_1 hS) rfl (by decide) ?_
    refine x_get (q := 18) dX9_drop_15 rfl f_X9_171 (cl_17 hS) rfl (by decide) ?_
    refine x_iload_n (q := 19) dX9_drop_18 rfl rfl rfl ?_
    refine z_iald (q := 20) (j := j) dX9_drop_19 rfl (cl_18 hS) (by omega) (by decide) (by decide) ?_
    refine x_goto (q := 25) dX9_drop_20 (by decide) ?_
    exact x_iret dX9_drop_25 ⟨_, rfl, by first | rfl | (split <;> rfl)⟩ rfl (Nat.le_refl _) rfl ⟨by first | (simp [vDrop, c_8]; done) | (simp [vDrop, c_8, nI_clamp (show j < 2 ^ 31 by omega)]; done), rfl⟩

set_option maxHeartbeats 4000000 in
set_option maxRecDepth 100000 in
theorem c_X9_amount {h : HF} (hS : Sh h) (t b : Int32) (nt : Nat) (hnt : fI h 1 4 = nI nt) (hnt24 : nt ≤ 24) (nb : Nat) (hnb : fI h 2 2 = nI nb) (hnb8 : nb ≤ 8) : Mc mX9_amount [.ref 1, .int t, .int b] 170 h (RI (vAmt (fun k => gi h (42 + 3 * k)) t b nt nb) (h)) := by
  refine Mc.of (by decide) rfl (Nat.le_of_ble_eq_true rfl) ?_
  refine x_aload_n (q := 1) dX9_amount_0 rfl rfl rfl ?_
  refine x_iload_n (q := 2) dX9_amount_1 rfl rfl rfl ?_
  refine y_cvI (q := 5) dX9_amount_2 rfl l_X9_126 (c_X9_hasBatch_b hS _ nt hnt) rfl rfl (cl_1 hS) (by decide) rfl rfl rfl rfl ?_
  refine x_if_eq (q := 8) (t := 19) dX9_amount_5 rfl (by decide) (fun c_5 => ?_) (fun c_5 => ?_)
  · replace c_5 := b2n c_5
    refine x_bipush (q := 21) (v := -2) dX9_amount_19 rfl (by decide) ?_
    exact x_iret dX9_amount_21 ⟨_, rfl, by first | rfl | (split <;> rfl)⟩ rfl (Nat.le_refl _) rfl ⟨by simp [vAmt, c_5], rfl⟩
  · replace c_5 := b2y c_5
    refine x_aload_n (q := 9) dX9_amount_8 rfl rfl rfl ?_
    refine x_get (q := 12) dX9_amount_9 rfl f_X9_12 (cl_1 hS) rfl (by decide) ?_
    refine x_iload_n (q := 13) dX9_amount_12 rfl rfl rfl ?_
    refine y_cvI (q := 16) dX9_amount_13 rfl l_X9_87 (c_X5_has_b hS _ nb hnb) rfl rfl (cl_2 hS) (by decide) rfl rfl rfl rfl ?_
    refine x_if_ne (q := 19) (t := 22) dX9_amount_16 rfl (by decide) (fun c_16 => ?_) (fun c_16 => ?_)
    · replace c_16 := b2y c_16
      obtain ⟨k, hk0, rfl⟩ := ltB_of (by omega) c_5
      obtain ⟨j, hj, rfl⟩ := ltB_of (by omega) c_16
      have hk : k < 24 := by omega
      refine x_aload_n (q := 23) dX9_amount_22 rfl rfl rfl ?_
      refine x_get (q := 26) dX9_amount_23 rfl f_X9_32 (cl_1 hS) rfl (by decide) ?_
      refine x_iload_n (q := 27) dX9_amount_26 rfl rfl rfl ?_
      refine z_aald3 (q := 28) (j := k) dX9_amount_27 rfl (cl_16 hS) hk (by decide) ?_
      refine x_get (q := 31) dX9_amount_28 rfl f_X9_150 (cl_B hS hk) rfl (by omega) ?_
      refine x_get (q := 34) dX9_amount_31 rfl f_X9_183 (cl_M hS hk) rfl (by omega) ?_
      refine x_iload_n (q := 35) dX9_amount_34 rfl rfl rfl ?_
      refine z_iald (q := 36) (j := j) dX9_amount_35 rfl (cl_A hS hk) (by omega) (by decide) (by omega) ?_
      exact x_iret dX9_amount_36 ⟨_, rfl, by first | rfl | (split <;> rfl)⟩ rfl (Nat.le_refl _) rfl ⟨by simp [vAmt, c_5, c_16, nI_clamp (show j < 2 ^ 31 by omega), nI_clamp (show k < 2 ^ 31 by omega)], rfl⟩
    · replace c_16 := b2n c_16
      refine x_bipush (q := 21) (v := -2) dX9_amount_19 rfl (by decide) ?_
      exact x_iret dX9_amount_21 ⟨_, rfl, by first | rfl | (split <;> rfl)⟩ rfl (Nat.le_refl _) rfl ⟨by simp [vAmt, c_5, c_16], rfl⟩

def vShade (u : Nat → Int32) (s : Nat → Nat → Int32) (t d : Int32) (nt : Nat) : Int32 := if ltB t (nI nt) = true then if inB d 0 2 = true then if u t.toNatClampNeg = 0 then -4 else s t.toNatClampNeg d.toNatClampNeg else -2 else -2
def vMiss (u : Nat → Int32) (s : Nat → Nat → Int32) (t x y z : Int32) (nt : Nat) : Int32 := if ltB t (nI nt) = true then if aimB x y z = true then if u t.toNatClampNeg = 0 then -4 else maxI (maxI (absI (s t.toNatClampNeg 0 - x)) (absI (s t.toNatClampNeg 1 - y))) (absI (s t.toNatClampNeg 2 - z)) else -3 else -2
set_option maxHeartbeats 4000000 in
set_option maxRecDepth 100000 in
theorem c_X9_shade {h : HF} (hS : Sh h) (t d : Int32) (nt : Nat) (hnt : fI h 1 4 = nI nt) (hnt24 : nt ≤ 24) (nb : Nat) (hnb : fI h 2 2 = nI nb) (hnb8 : nb ≤ 8) : Mc mX9_shade [.ref 1, .int t, .int d] 170 h (RI (vShade (fun k => fI h (41 + 3 * k) 1) (fun k d => shof (gi h (41 + 3 * k + 1)) (gi h 3) (gi h 4) d nb) t d nt) (h)) := by
  refine Mc.of (by decide) rfl (Nat.le_of_ble_eq_true rfl) ?_
  refine x_aload_n (q := 1) dX9_shade_0 rfl rfl rfl ?_
  refine x_iload_n (q := 2) dX9_shade_1 rfl rfl rfl ?_
  refine y_cvI (q := 5) dX9_shade_2 rfl l_X9_126 (c_X9_hasBatch_b hS _ nt hnt) rfl rfl (cl_1 hS) (by decide) rfl rfl rfl rfl ?_
  refine x_if_eq (q := 8) (t := 15) dX9_shade_5 rfl (by decide) (fun c_5 => ?_) (fun c_5 => ?_)
  · replace c_5 := b2n c_5
    refine x_bipush (q := 17) (v := -2) dX9_shade_15 rfl (by decide) ?_
    exact x_iret dX9_shade_17 ⟨_, rfl, by first | rfl | (split <;> rfl)⟩ rfl (Nat.le_refl _) rfl ⟨by simp [vShade, c_5], rfl⟩
  · replace c_5 := b2y c_5
    refine x_iload_n (q := 9) dX9_shade_8 rfl rfl rfl ?_
    refine y_csI (q := 12) dX9_shade_9 rfl l_X9_90 (c_X9_isBand_b hS _) rfl rfl rfl rfl rfl rfl ?_
    refine x_if_ne (q := 15) (t := 18) dX9_shade_12 rfl (by decide) (fun c_12 => ?_) (fun c_12 => ?_)
    · replace c_12 := b2y c_12
      obtain ⟨k, hk0, rfl⟩ := ltB_of (by omega) c_5
      obtain ⟨j, hj, rfl⟩ := inB_of (n := 2) (by decide) c_12
      have hk : k < 24 := by omega
      refine x_aload_n (q := 19) dX9_shade_18 rfl rfl rfl ?_
      refine x_get (q := 22) dX9_shade_19 rfl f_X9_32 (cl_1 hS) rfl (by decide) ?_
      refine x_iload_n (q := 23) dX9_shade_22 rfl rfl rfl ?_
      refine z_aald3 (q := 24) (j := k) dX9_shade_23 rfl (cl_16 hS) hk (by decide) ?_
      refine x_get (q := 27) dX9_shade_24 rfl f_X9_150 (cl_B hS hk) rfl (by omega) ?_
      refine x_astore_n (q := 28) dX9_shade_27 rfl rfl (by decide) ?_
      refine x_aload_n (q := 29) dX9_shade_28 rfl rfl rfl ?_
      refine x_get (q := 32) dX9_shade_29 rfl f_X9_154 (cl_M hS hk) rfl (by omega) ?_
      refine x_if_ne (q := 35) (t := 40) dX9_shade_32 rfl (by decide) (fun c_32 => ?_) (fun c_32 => ?_)
      · refine x_aload_n (q := 41) dX9_shade_40 rfl rfl rfl ?_
        refine x_get (q := 44) dX9_shade_41 rfl f_X9_12 (cl_1 hS) rfl (by decide) ?_
        refine x_aload_n (q := 45) dX9_shade_44 rfl rfl rfl ?_
        refine x_iload_n (q := 46) dX9_shade_45 rfl rfl rfl ?_
        refine y_cvI (q := 49) dX9_shade_46 rfl l_X9_186 (c_X5_shadeOf hS (isM_M hk) j (by omega) nb hnb hnb8) rfl rfl (cl_2 hS) (by decide) rfl rfl rfl rfl ?_
        exact x_iret dX9_shade_49 ⟨_, rfl, by first | rfl | (split <;> rfl)⟩ rfl (Nat.le_refl _) rfl ⟨by simp [vShade, c_5, c_12, c_32, nI_clamp (show j < 2 ^ 31 by omega), nI_clamp (show k < 2 ^ 31 by omega)], rfl⟩
      · refine x_bipush (q := 37) (v := -4) dX9_shade_35 rfl (by decide) ?_
        refine x_goto (q := 49) dX9_shade_37 (by decide) ?_
        exact x_iret dX9_shade_49 ⟨_, rfl, by first | rfl | (split <;> rfl)⟩ rfl (Nat.le_refl _) rfl ⟨by simp [vShade, c_5, c_12, c_32, nI_clamp (show j < 2 ^ 31 by omega), nI_clamp (show k < 2 ^ 31 by omega)], rfl⟩
    · replace c_12 := b2n c_12
      refine x_bipush (q := 17) (v := -2) dX9_shade_15 rfl (by decide) ?_
      exact x_iret dX9_shade_17 ⟨_, rfl, by first | rfl | (split <;> rfl)⟩ rfl (Nat.le_refl _) rfl ⟨by simp [vShade, c_5, c_12], rfl⟩

set_option maxHeartbeats 4000000 in
set_option maxRecDepth 100000 in
theorem c_X9_miss {h : HF} (hS : Sh h) (t x y z : Int32) (nt : Nat) (hnt : fI h 1 4 = nI nt) (hnt24 : nt ≤ 24) (nb : Nat) (hnb : fI h 2 2 = nI nb) (hnb8 : nb ≤ 8) : Mc mX9_miss [.ref 1, .int t, .int x, .int y, .int z] 170 h (RI (vMiss (fun k => fI h (41 + 3 * k) 1) (fun k d => shof (gi h (41 + 3 * k + 1)) (gi h 3) (gi h 4) d nb) t x y z nt) (h)) := by
  refine Mc.of (by decide) rfl (Nat.le_of_ble_eq_true rfl) ?_
  refine x_aload_n (q := 1) dX9_miss_0 rfl rfl rfl ?_
  refine x_iload_n (q := 2) dX9_miss_1 rfl rfl rfl ?_
  refine y_cvI (q := 5) dX9_miss_2 rfl l_X9_126 (c_X9_hasBatch_b hS _ nt hnt) rfl rfl (cl_1 hS) (by decide) rfl rfl rfl rfl ?_
  refine x_if_ne (q := 8) (t := 11) dX9_miss_5 rfl (by decide) (fun c_5 => ?_) (fun c_5 => ?_)
  · replace c_5 := b2y c_5
    refine x_iload_n (q := 12) dX9_miss_11 rfl rfl rfl ?_
    refine x_iload_n (q := 13) dX9_miss_12 rfl rfl rfl ?_
    refine x_iload (q := 15) dX9_miss_13 rfl rfl ?_
    refine y_csI (q := 18) dX9_miss_15 rfl l_X9_143 (c_X9_isAim_b hS _ _ _) rfl rfl rfl rfl rfl rfl ?_
    refine x_if_ne (q := 21) (t := 24) dX9_miss_18 rfl (by decide) (fun c_18 => ?_) (fun c_18 => ?_)
    · replace c_18 := b2y c_18
      obtain ⟨k, hk0, rfl⟩ := ltB_of (by omega) c_5
      have hk : k < 24 := by omega
      refine x_aload_n (q := 25) dX9_miss_24 rfl rfl rfl ?_
      refine x_get (q := 28) dX9_miss_25 rfl f_X9_32 (cl_1 hS) rfl (by decide) ?_
      refine x_iload_n (q := 29) dX9_miss_28 rfl rfl rfl ?_
      refine z_aald3 (q := 30) (j := k) dX9_miss_29 rfl (cl_16 hS) hk (by decide) ?_
      refine x_get (q := 33) dX9_miss_30 rfl f_X9_150 (cl_B hS hk) rfl (by omega) ?_
      refine x_astore (q := 35) dX9_miss_33 rfl (by decide) ?_
      refine x_aload (q := 37) dX9_miss_35 rfl rfl ?_
      refine x_get (q := 40) dX9_miss_37 rfl f_X9_154 (cl_M hS hk) rfl (by omega) ?_
      refine x_if_ne (q := 43) (t := 46) dX9_miss_40 rfl (by decide) (fun c_40 => ?_) (fun c_40 => ?_)
      · refine x_aload_n (q := 47) dX9_miss_46 rfl rfl rfl ?_
        refine x_get (q := 50) dX9_miss_47 rfl f_X9_12 (cl_1 hS) rfl (by decide) ?_
        refine x_aload (q := 52) dX9_miss_50 rfl rfl ?_
        refine x_iconst (q := 53) (v := 0) dX9_miss_52 rfl (by decide) ?_
        refine y_cvI (q := 56) dX9_miss_53 rfl l_X9_186 (c_X5_shadeOf hS (isM_M hk) 0 (by omega) nb hnb hnb8) rfl rfl (cl_2 hS) (by decide) rfl rfl rfl rfl ?_
        refine x_iload_n (q := 57) dX9_miss_56 rfl rfl rfl ?_
        refine x_isub (q := 58) dX9_miss_57 rfl ?_
        refine y_csI (q := 61) dX9_miss_58 rfl l_X9_190 (c_J9_abs_0f7a4 hS _) rfl rfl rfl rfl rfl rfl ?_
        refine x_istore (q := 63) dX9_miss_61 rfl (by decide) ?_
        refine x_iload (q := 65) dX9_miss_63 rfl rfl ?_
        refine x_aload_n (q := 66) dX9_miss_65 rfl rfl rfl ?_
        refine x_get (q := 69) dX9_miss_66 rfl f_X9_12 (cl_1 hS) rfl (by decide) ?_
        refine x_aload (q := 71) dX9_miss_69 rfl rfl ?_
        refine x_iconst (q := 72) (v := 1) dX9_miss_71 rfl (by decide) ?_
        refine y_cvI (q := 75) dX9_miss_72 rfl l_X9_186 (c_X5_shadeOf hS (isM_M hk) 1 (by omega) nb hnb hnb8) rfl rfl (cl_2 hS) (by decide) rfl rfl rfl rfl ?_
        refine x_iload_n (q := 76) dX9_miss_75 rfl rfl rfl ?_
        refine x_isub (q := 77) dX9_miss_76 rfl ?_
        refine y_csI (q := 80) dX9_miss_77 rfl l_X9_190 (c_J9_abs_0f7a4 hS _) rfl rfl rfl rfl rfl rfl ?_
        refine y_csI (q := 83) dX9_miss_80 rfl l_X9_195 (c_J9_max_7cf53 hS _ _) rfl rfl rfl rfl rfl rfl ?_
        refine x_istore (q := 85) dX9_miss_83 rfl (by decide) ?_
        refine x_iload (q := 87) dX9_miss_85 rfl rfl ?_
        refine x_aload_n (q := 88) dX9_miss_87 rfl rfl rfl ?_
        refine x_get (q := 91) dX9_miss_88 rfl f_X9_12 (cl_1 hS) rfl (by decide) ?_
        refine x_aload (q := 93) dX9_miss_91 rfl rfl ?_
        refine x_iconst (q := 94) (v := 2) dX9_miss_93 rfl (by decide) ?_
        refine y_cvI (q := 97) dX9_miss_94 rfl l_X9_186 (c_X5_shadeOf hS (isM_M hk) 2 (by omega) nb hnb hnb8) rfl rfl (cl_2 hS) (by decide) rfl rfl rfl rfl ?_
        refine x_iload (q := 99) dX9_miss_97 rfl rfl ?_
        refine x_isub (q := 100) dX9_miss_99 rfl ?_
        refine y_csI (q := 103) dX9_miss_100 rfl l_X9_190 (c_J9_abs_0f7a4 hS _) rfl rfl rfl rfl rfl rfl ?_
        refine y_csI (q := 106) dX9_miss_103 rfl l_X9_195 (c_J9_max_7cf53 hS _ _) rfl rfl rfl rfl rfl rfl ?_
        exact x_iret dX9_miss_106 ⟨_, rfl, by first | rfl | (split <;> rfl)⟩ rfl (Nat.le_refl _) rfl ⟨by simp [vMiss, c_5, c_18, c_40, nI_clamp (show k < 2 ^ 31 by omega)], rfl⟩
      · refine x_bipush (q := 45) (v := -4) dX9_miss_43 rfl (by decide) ?_
        exact x_iret dX9_miss_45 ⟨_, rfl, by first | rfl | (split <;> rfl)⟩ rfl (Nat.le_refl _) rfl ⟨by simp [vMiss, c_5, c_18, c_40, nI_clamp (show k < 2 ^ 31 by omega)], rfl⟩
    · replace c_18 := b2n c_18
      refine x_bipush (q := 23) (v := -3) dX9_miss_21 rfl (by decide) ?_
      exact x_iret dX9_miss_23 ⟨_, rfl, by first | rfl | (split <;> rfl)⟩ rfl (Nat.le_refl _) rfl ⟨by simp [vMiss, c_5, c_18], rfl⟩
  · replace c_5 := b2n c_5
    refine x_bipush (q := 10) (v := -2) dX9_miss_8 rfl (by decide) ?_
    exact x_iret dX9_miss_10 ⟨_, rfl, by first | rfl | (split <;> rfl)⟩ rfl (Nat.le_refl _) rfl ⟨by simp [vMiss, c_5], rfl⟩

