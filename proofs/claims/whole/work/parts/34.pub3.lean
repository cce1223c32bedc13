theorem tsw3 (x : Int32) : x = 0 ∨ x = 1 ∨ x = 2 ∨ ((x.toInt < 0 ∨ 2 < x.toInt) ∧ ¬ x = 0 ∧ ¬ x = 1 ∧ ¬ x = 2) := by
  by_cases h : x.toInt < 0 ∨ 2 < x.toInt
  · refine Or.inr (Or.inr (Or.inr (⟨h, fun e => by subst e; exact absurd h (by decide), fun e => by subst e; exact absurd h (by decide), fun e => by subst e; exact absurd h (by decide)⟩)))
  · have hx : ¬ x < 0 := by rw [Int32.lt_iff_toInt_lt]; simp only [Int32.reduceToInt]; omega
    obtain ⟨j, hj, e⟩ := nI_of hx
    subst e
    rw [nI_toInt hj] at h
    rcases (show j = 0 ∨ j = 1 ∨ j = 2 by omega) with rfl | rfl | rfl
    · exact Or.inl rfl
    · exact Or.inr (Or.inl rfl)
    · exact Or.inr (Or.inr (Or.inl rfl))
theorem tsw4 (x : Int32) : x = 0 ∨ x = 1 ∨ x = 2 ∨ x = 3 ∨ ((x.toInt < 0 ∨ 3 < x.toInt) ∧ ¬ x = 0 ∧ ¬ x = 1 ∧ ¬ x = 2 ∧ ¬ x = 3) := by
  by_cases h : x.toInt < 0 ∨ 3 < x.toInt
  · refine Or.inr (Or.inr (Or.inr (Or.inr (⟨h, fun e => by subst e; exact absurd h (by decide), fun e => by subst e; exact absurd h (by decide), fun e => by subst e; exact absurd h (by decide), fun e => by subst e; exact absurd h (by decide)⟩))))
  · have hx : ¬ x < 0 := by rw [Int32.lt_iff_toInt_lt]; simp only [Int32.reduceToInt]; omega
    obtain ⟨j, hj, e⟩ := nI_of hx
    subst e
    rw [nI_toInt hj] at h
    rcases (show j = 0 ∨ j = 1 ∨ j = 2 ∨ j = 3 by omega) with rfl | rfl | rfl | rfl
    · exact Or.inl rfl
    · exact Or.inr (Or.inl rfl)
    · exact Or.inr (Or.inr (Or.inl rfl))
    · exact Or.inr (Or.inr (Or.inr (Or.inl rfl)))
theorem tsw5 (x : Int32) : x = 0 ∨ x = 1 ∨ x = 2 ∨ x = 3 ∨ x = 4 ∨ ((x.toInt < 0 ∨ 4 < x.toInt) ∧ ¬ x = 0 ∧ ¬ x = 1 ∧ ¬ x = 2 ∧ ¬ x = 3 ∧ ¬ x = 4) := by
  by_cases h : x.toInt < 0 ∨ 4 < x.toInt
  · refine Or.inr (Or.inr (Or.inr (Or.inr (Or.inr (⟨h, fun e => by subst e; exact absurd h (by decide), fun e => by subst e; exact absurd h (by decide), fun e => by subst e; exact absurd h (by decide), fun e => by subst e; exact absurd h (by decide), fun e => by subst e; exact absurd h (by decide)⟩)))))
  · have hx : ¬ x < 0 := by rw [Int32.lt_iff_toInt_lt]; simp only [Int32.reduceToInt]; omega
    obtain ⟨j, hj, e⟩ := nI_of hx
    subst e
    rw [nI_toInt hj] at h
    rcases (show j = 0 ∨ j = 1 ∨ j = 2 ∨ j = 3 ∨ j = 4 by omega) with rfl | rfl | rfl | rfl | rfl
    · exact Or.inl rfl
    · exact Or.inr (Or.inl rfl)
    · exact Or.inr (Or.inr (Or.inl rfl))
    · exact Or.inr (Or.inr (Or.inr (Or.inl rfl)))
    · exact Or.inr (Or.inr (Or.inr (Or.inr (Or.inl rfl))))
theorem tsw8 (x : Int32) : x = 0 ∨ x = 1 ∨ x = 2 ∨ x = 3 ∨ x = 4 ∨ x = 5 ∨ x = 6 ∨ x = 7 ∨ ((x.toInt < 0 ∨ 7 < x.toInt) ∧ ¬ x = 0 ∧ ¬ x = 1 ∧ ¬ x = 2 ∧ ¬ x = 3 ∧ ¬ x = 4 ∧ ¬ x = 5 ∧ ¬ x = 6 ∧ ¬ x = 7) := by
  by_cases h : x.toInt < 0 ∨ 7 < x.toInt
  · refine Or.inr (Or.inr (Or.inr (Or.inr (Or.inr (Or.inr (Or.inr (Or.inr (⟨h, fun e => by subst e; exact absurd h (by decide), fun e => by subst e; exact absurd h (by decide), fun e => by subst e; exact absurd h (by decide), fun e => by subst e; exact absurd h (by decide), fun e => by subst e; exact absurd h (by decide), fun e => by subst e; exact absurd h (by decide), fun e => by subst e; exact absurd h (by decide), fun e => by subst e; exact absurd h (by decide)⟩))))))))
  · have hx : ¬ x < 0 := by rw [Int32.lt_iff_toInt_lt]; simp only [Int32.reduceToInt]; omega
    obtain ⟨j, hj, e⟩ := nI_of hx
    subst e
    rw [nI_toInt hj] at h
    rcases (show j = 0 ∨ j = 1 ∨ j = 2 ∨ j = 3 ∨ j = 4 ∨ j = 5 ∨ j = 6 ∨ j = 7 by omega) with rfl | rfl | rfl | rfl | rfl | rfl | rfl | rfl
    · exact Or.inl rfl
    · exact Or.inr (Or.inl rfl)
    · exact Or.inr (Or.inr (Or.inl rfl))
    · exact Or.inr (Or.inr (Or.inr (Or.inl rfl)))
    · exact Or.inr (Or.inr (Or.inr (Or.inr (Or.inl rfl))))
    · exact Or.inr (Or.inr (Or.inr (Or.inr (Or.inr (Or.inl rfl)))))
    · exact Or.inr (Or.inr (Or.inr (Or.inr (Or.inr (Or.inr (Or.inl rfl))))))
    · exact Or.inr (Or.inr (Or.inr (Or.inr (Or.inr (Or.inr (Or.inr (Or.inl rfl)))))))
def hD0 (h : HF) : HF := si h 39 (va_cpy (gi h 18) (gi h 39) 0 0 8)
def vDI (h : HF) (t : Int32) (nt nl : Nat) : Int32 := if ltB t (nI nt) = true then if fI h 17 1 = 0 then -4 else vTW (hD0 h) t.toNatClampNeg nl else -2
def uDI (h : HF) (t : Int32) (nt nl : Nat) : HF := if ltB t (nI nt) = true then if fI h 17 1 = 0 then h else uTW (hD0 h) t.toNatClampNeg nl else h
set_option maxHeartbeats 4000000 in
set_option maxRecDepth 100000 in
theorem c_X9_dropIn {h : HF} (hS : Sh h) (t : Int32) (nt : Nat) (hnt : fI h 1 4 = nI nt) (hnt24 : nt ≤ 24) (nl : Nat) (hnl : fI h 5 3 = nI nl) (hnl40 : nl ≤ 40) : Mc mX9_dropIn [.ref 1, .int t] 170 h (RI (vDI h t nt nl) (uDI h t nt nl)) := by
  refine Mc.of (by decide) rfl (Nat.le_of_ble_eq_true rfl) ?_
  refine x_aload_n (q := 1) dX9_dropIn_0 rfl rfl rfl ?_
  refine x_iload_n (q := 2) dX9_dropIn_1 rfl rfl rfl ?_
  refine y_cvI (q := 5) dX9_dropIn_2 rfl l_X9_126 (c_X9_hasBatch_b hS _ nt hnt) rfl rfl (cl_1 hS) (by decide) rfl rfl rfl rfl ?_
  refine x_if_ne (q := 8) (t := 11) dX9_dropIn_5 rfl (by decide) (fun c_5 => ?_) (fun c_5 => ?_)
  · replace c_5 := b2y c_5
    refine x_aload_n (q := 12) dX9_dropIn_11 rfl rfl rfl ?_
    refine x_get (q := 15) dX9_dropIn_12 rfl f_X9_43 (cl_1 hS) rfl (by decide) ?_
    refine x_get (q := 18) dX9_dropIn_15 rfl f_X9_174 (cl_17 hS) rfl (by decide) ?_
    refine x_if_ne (q := 21) (t := 24) dX9_dropIn_18 rfl (by decide) (fun c_18 => ?_) (fun c_18 => ?_)
    · obtain ⟨k, hk0, rfl⟩ := ltB_of (by omega) c_5
      have hk : k < 24 := by omega
      refine x_aload_n (q := 25) dX9_dropIn_24 rfl rfl rfl ?_
      refine x_get (q := 28) dX9_dropIn_25 rfl f_X9_43 (cl_1 hS) rfl (by decide) ?_
      refine x_get (q := 31) dX9_dropIn_28 rfl f_X9_171 (cl_17 hS) rfl (by decide) ?_
      refine x_iconst (q := 32) (v := 0) dX9_dropIn_31 rfl (by decide) ?_
      refine x_aload_n (q := 33) dX9_dropIn_32 rfl rfl rfl ?_
      refine x_get (q := 36) dX9_dropIn_33 rfl f_X9_67 (cl_1 hS) rfl (by decide) ?_
      refine x_iconst (q := 37) (v := 0) dX9_dropIn_36 rfl (by decide) ?_
      refine x_bipush (q := 39) (v := 8) dX9_dropIn_37 rfl (by decide) ?_
      refine y_acopy (q := 42) dX9_dropIn_39 rfl o_X9_177 (cl_39 hS) (cl_18 hS) (by decide) (by decide) (by decide) (by decide) (by decide) (by decide) (by decide) (by decide) (by decide) ?_
      refine Vg.nm (fun h1 eh1 => ?_)
      have hS1 : Sh h1 := by rw [eh1]; exact hS.si _ _
      have e9 : h1 = hD0 h := by rw [eh1]; rfl
      have hnl1 : fI h1 5 3 = nI nl := by rw [eh1, fI_si]; exact hnl
      refine x_aload_n (q := 43) dX9_dropIn_42 rfl rfl rfl ?_
      refine x_aload_n (q := 44) dX9_dropIn_43 rfl rfl rfl ?_
      refine x_get (q := 47) dX9_dropIn_44 rfl f_X9_32 (cl_1 hS1) rfl (by decide) ?_
      refine x_iload_n (q := 48) dX9_dropIn_47 rfl rfl rfl ?_
      refine z_aald3 (q := 49) (j := k) dX9_dropIn_48 rfl (cl_16 hS1) hk (by decide) ?_
      refine y_cvI (q := 52) dX9_dropIn_49 rfl l_X9_135 (c_X9_takeWanted hS1 hk nl hnl1 hnl40) rfl rfl (cl_1 hS1) (by decide) rfl rfl rfl rfl ?_
      refine Vg.nm (fun h2 eh2 => ?_)
      have hS2 : Sh h2 := by rw [eh2]; exact Sh_uTW hS1 _ _
      exact x_iret dX9_dropIn_52 ⟨_, rfl, by first | rfl | (split <;> rfl)⟩ rfl (Nat.le_refl _) rfl ⟨by simp [vDI, c_5, c_18, nI_clamp (show k < 2 ^ 31 by omega), e9], by rw [eh2]; simp [uDI, c_5, c_18, nI_clamp (show k < 2 ^ 31 by omega), e9]⟩
    · refine x_bipush (q := 23) (v := -4) dX9_dropIn_21 rfl (by decide) ?_
      exact x_iret dX9_dropIn_23 ⟨_, rfl, by first | rfl | (split <;> rfl)⟩ rfl (Nat.le_refl _) rfl ⟨by simp [vDI, c_5, c_18], by simp [uDI, c_5, c_18]⟩
  · replace c_5 := b2n c_5
    refine x_bipush (q := 10) (v := -2) dX9_dropIn_8 rfl (by decide) ?_
    exact x_iret dX9_dropIn_10 ⟨_, rfl, by first | rfl | (split <;> rfl)⟩ rfl (Nat.le_refl _) rfl ⟨by simp [vDI, c_5], by simp [uDI, c_5]⟩

def hR0 (h : HF) (k : Nat) (m x y z : Int32) (nl nb : Nat) : HF := runH nb 12870 (sI (sI (stF (aimF h x y z) (41 + 3 * k) m nl nb) 17 1 1) 17 2 1000001)
theorem Sh_hR0 {h : HF} (hS : Sh h) (k : Nat) (m x y z : Int32) (nl nb : Nat) : Sh (hR0 h k m x y z nl nb) := Sh_runH nb 12870 ((((hS.aim _ _ _).stF _ _ _ _).sI _ _ _).sI _ _ _)
def vDrs (h : HF) (t m x y z : Int32) (nt nl nb : Nat) : Int32 := if ltB t (nI nt) = true then if inB m 0 8 = true then if aimB x y z = true then if fI h (40 + 3 * t.toNatClampNeg) 1 = 0 then if fI h (41 + 3 * t.toNatClampNeg) 1 = 0 then -4 else fI (hR0 h t.toNatClampNeg m x y z nl nb) 17 2 else -4 else -3 else -3 else -2
def uDrs (h : HF) (t m x y z : Int32) (nt nl nb : Nat) : HF := if ltB t (nI nt) = true then if inB m 0 8 = true then if aimB x y z = true then if fI h (40 + 3 * t.toNatClampNeg) 1 = 0 then if fI h (41 + 3 * t.toNatClampNeg) 1 = 0 then h else hR0 h t.toNatClampNeg m x y z nl nb else h else h else h else h
set_option maxHeartbeats 4000000 in
set_option maxRecDepth 100000 in
theorem c_X9_drops {h : HF} (hS : Sh h) (t m x y z : Int32) (nt : Nat) (hnt : fI h 1 4 = nI nt) (hnt24 : nt ≤ 24) (nl : Nat) (hnl : fI h 5 3 = nI nl) (hnl40 : nl ≤ 40) (nb : Nat) (hnb : fI h 2 2 = nI nb) (hnb8 : nb ≤ 8) : Mc mX9_drops [.ref 1, .int t, .int m, .int x, .int y, .int z] 170 h (RI (vDrs h t m x y z nt nl nb) (uDrs h t m x y z nt nl nb)) := by
  refine Mc.of (by decide) rfl (Nat.le_of_ble_eq_true rfl) ?_
  refine x_aload_n (q := 1) dX9_drops_0 rfl rfl rfl ?_
  refine x_iload_n (q := 2) dX9_drops_1 rfl rfl rfl ?_
  refine y_cvI (q := 5) dX9_drops_2 rfl l_X9_126 (c_X9_hasBatch_b hS _ nt hnt) rfl rfl (cl_1 hS) (by decide) rfl rfl rfl rfl ?_
  refine x_if_ne (q := 8) (t := 11) dX9_drops_5 rfl (by decide) (fun c_5 => ?_) (fun c_5 => ?_)
  · replace c_5 := b2y c_5
    refine x_iload_n (q := 12) dX9_drops_11 rfl rfl rfl ?_
    refine x_iconst (q := 13) (v := 0) dX9_drops_12 rfl (by decide) ?_
    refine x_bipush (q := 15) (v := 8) dX9_drops_13 rfl (by decide) ?_
    refine y_csI (q := 18) dX9_drops_15 rfl l_X9_97 (c_X9_within_b hS _ _ _) rfl rfl rfl rfl rfl rfl ?_
    refine x_if_eq (q := 21) (t := 32) dX9_drops_18 rfl (by decide) (fun c_18 => ?_) (fun c_18 => ?_)
    · replace c_18 := b2n c_18
      refine x_bipush (q := 34) (v := -3) dX9_drops_32 rfl (by decide) ?_
      exact x_iret dX9_drops_34 ⟨_, rfl, by first | rfl | (split <;> rfl)⟩ rfl (Nat.le_refl _) rfl ⟨by simp [vDrs, c_5, c_18], by simp [uDrs, c_5, c_18]⟩
    · replace c_18 := b2y c_18
      refine x_iload_n (q := 22) dX9_drops_21 rfl rfl rfl ?_
      refine x_iload (q := 24) dX9_drops_22 rfl rfl ?_
      refine x_iload (q := 26) dX9_drops_24 rfl rfl ?_
      refine y_csI (q := 29) dX9_drops_26 rfl l_X9_143 (c_X9_isAim_b hS _ _ _) rfl rfl rfl rfl rfl rfl ?_
      refine x_if_ne (q := 32) (t := 35) dX9_drops_29 rfl (by decide) (fun c_29 => ?_) (fun c_29 => ?_)
      · replace c_29 := b2y c_29
        obtain ⟨k, hk0, rfl⟩ := ltB_of (by omega) c_5
        have hk : k < 24 := by omega
        refine x_aload_n (q := 36) dX9_drops_35 rfl rfl rfl ?_
        refine x_get (q := 39) dX9_drops_36 rfl f_X9_32 (cl_1 hS) rfl (by decide) ?_
        refine x_iload_n (q := 40) dX9_drops_39 rfl rfl rfl ?_
        refine z_aald3 (q := 41) (j := k) dX9_drops_40 rfl (cl_16 hS) hk (by decide) ?_
        refine x_astore (q := 43) dX9_drops_41 rfl (by decide) ?_
        refine x_aload (q := 45) dX9_drops_43 rfl rfl ?_
        refine x_get (q := 48) dX9_drops_45 rfl f_X9_146 (cl_B hS hk) rfl (by omega) ?_
        refine x_if_ne (q := 51) (t := 62) dX9_drops_48 rfl (by decide) (fun c_48 => ?_) (fun c_48 => ?_)
        · refine x_bipush (q := 64) (v := -4) dX9_drops_62 rfl (by decide) ?_
          exact x_iret dX9_drops_64 ⟨_, rfl, by first | rfl | (split <;> rfl)⟩ rfl (Nat.le_refl _) rfl ⟨by simp [vDrs, nI_clamp (show k < 2 ^ 31 by omega), c_5, c_18, c_29, c_48], by simp [uDrs, nI_clamp (show k < 2 ^ 31 by omega), c_5, c_18, c_29, c_48]⟩
        · refine x_aload (q := 53) dX9_drops_51 rfl rfl ?_
          refine x_get (q := 56) dX9_drops_53 rfl f_X9_150 (cl_B hS hk) rfl (by omega) ?_
          refine x_get (q := 59) dX9_drops_56 rfl f_X9_154 (cl_M hS hk) rfl (by omega) ?_
          refine x_if_ne (q := 62) (t := 65) dX9_drops_59 rfl (by decide) (fun c_59 => ?_) (fun c_59 => ?_)
          · refine x_aload_n (q := 66) dX9_drops_65 rfl rfl rfl ?_
            refine x_get (q := 69) dX9_drops_66 rfl f_X9_43 (cl_1 hS) rfl (by decide) ?_
            refine x_iload_n (q := 70) dX9_drops_69 rfl rfl rfl ?_
            refine x_iload (q := 72) dX9_drops_70 rfl rfl ?_
            refine x_iload (q := 74) dX9_drops_72 rfl rfl ?_
            refine y_cvV (q := 77) dX9_drops_74 rfl l_X9_159 (c_X2_aimAt hS _ _ _) rfl rfl (cl_17 hS) (by decide) rfl rfl rfl rfl ?_
            refine Vg.nm (fun h1 eh1 => ?_)
            have hS1 : Sh h1 := by rw [eh1]; exact hS.aim _ _ _
            have a1 : fI h1 2 2 = nI nb := by rw [eh1, aimF, aS, aS, aS, fI_si, fI_si, fI_si]; exact hnb
            have a2 : fI h1 5 3 = nI nl := by rw [eh1, aimF, aS, aS, aS, fI_si, fI_si, fI_si]; exact hnl
            refine x_aload_n (q := 78) dX9_drops_77 rfl rfl rfl ?_
            refine x_get (q := 81) dX9_drops_78 rfl f_X9_43 (cl_1 hS1) rfl (by decide) ?_
            refine x_aload (q := 83) dX9_drops_81 rfl rfl ?_
            refine x_get (q := 86) dX9_drops_83 rfl f_X9_150 (cl_B hS1 hk) rfl (by omega) ?_
            refine x_iload_n (q := 87) dX9_drops_86 rfl rfl rfl ?_
            refine x_aload_n (q := 88) dX9_drops_87 rfl rfl rfl ?_
            refine x_get (q := 91) dX9_drops_88 rfl f_X9_12 (cl_1 hS1) rfl (by decide) ?_
            refine x_aload_n (q := 92) dX9_drops_91 rfl rfl rfl ?_
            refine x_get (q := 95) dX9_drops_92 rfl f_X9_19 (cl_1 hS1) rfl (by decide) ?_
            refine y_cvV (q := 98) dX9_drops_95 rfl l_X9_163 (c_X2_start hS1 (isM_M hk) _ nb a1 hnb8 nl a2 hnl40) rfl rfl (cl_17 hS1) (by decide) rfl rfl rfl rfl ?_
            refine Vg.nm (fun h2 eh2 => ?_)
            have hS2 : Sh h2 := by rw [eh2]; exact hS1.stF _ _ _ _
            have a3 : fI h2 2 2 = nI nb := by rw [eh2]; simp (disch := omega) only [stF, stC, dS, stB, stA, fI_si, fI_sl, fI_sJ, fI_sI_ne, fI_sI_k]; exact a1
            refine x_aload_n (q := 99) dX9_drops_98 rfl rfl rfl ?_
            refine x_get (q := 102) dX9_drops_99 rfl f_X9_43 (cl_1 hS2) rfl (by decide) ?_
            refine x_aload_n (q := 103) dX9_drops_102 rfl rfl rfl ?_
            refine x_get (q := 106) dX9_drops_103 rfl f_X9_12 (cl_1 hS2) rfl (by decide) ?_
            refine y_cvI (q := 109) dX9_drops_106 rfl l_X9_167 (c_X2_run hS2 nb a3 hnb8) rfl rfl (cl_17 hS2) (by decide) rfl rfl rfl rfl ?_
            refine Vg.nm (fun h3 eh3 => ?_)
            have hS3 : Sh h3 := by rw [eh3]; exact Sh_runH nb 12870 ((hS2.sI _ _ _).sI _ _ _)
            exact x_iret dX9_drops_109 ⟨_, rfl, by first | rfl | (split <;> rfl)⟩ rfl (Nat.le_refl _) rfl ⟨by rw [eh2, eh1]; simp [vDrs, c_5, c_18, c_29, c_48, c_59, nI_clamp (show k < 2 ^ 31 by omega), hR0], by rw [eh3, eh2, eh1]; simp [uDrs, c_5, c_18, c_29, c_48, c_59, nI_clamp (show k < 2 ^ 31 by omega), hR0]⟩
          · refine x_bipush (q := 64) (v := -4) dX9_drops_62 rfl (by decide) ?_
            exact x_iret dX9_drops_64 ⟨_, rfl, by first | rfl | (split <;> rfl)⟩ rfl (Nat.le_refl _) rfl ⟨by simp [vDrs, nI_clamp (show k < 2 ^ 31 by omega), c_5, c_18, c_29, c_48, c_59], by simp [uDrs, nI_clamp (show k < 2 ^ 31 by omega), c_5, c_18, c_29, c_48, c_59]⟩
      · replace c_29 := b2n c_29
        refine x_bipush (q := 34) (v := -3) dX9_drops_32 rfl (by decide) ?_
        exact x_iret dX9_drops_34 ⟨_, rfl, by first | rfl | (split <;> rfl)⟩ rfl (Nat.le_refl _) rfl ⟨by simp [vDrs, c_5, c_18, c_29], by simp [uDrs, c_5, c_18, c_29]⟩
  · replace c_5 := b2n c_5
    refine x_bipush (q := 10) (v := -2) dX9_drops_8 rfl (by decide) ?_
    exact x_iret dX9_drops_10 ⟨_, rfl, by first | rfl | (split <;> rfl)⟩ rfl (Nat.le_refl _) rfl ⟨by simp [vDrs, c_5], by simp [uDrs, c_5]⟩

def vHolds (ins siz : Nat → Int32) (t u : Int32) : Int32 := if inB t 0 4 = true then if inB u 1 60000 = true then if ins t.toNatClampNeg ≤ u then siz t.toNatClampNeg else -4 else -3 else -2
def uHolds (h : HF) (t u : Int32) : HF := if inB t 0 4 = true then if inB u 1 60000 = true then if fI h (112 + 4 * t.toNatClampNeg) 2 ≤ u then sI h (112 + 4 * t.toNatClampNeg) 3 u else h else h else h
def vLim (g v : Int32) : Int32 := if inB v 0 1000000 = true then g else -3
def uLim (h : HF) (v : Int32) : HF := if inB v 0 1000000 = true then sI h 1 10 v else h
set_option maxHeartbeats 4000000 in
set_option maxRecDepth 100000 in
theorem c_X9_holds {h : HF} (hS : Sh h) (t u : Int32) : Mc mX9_holds [.ref 1, .int t, .int u] 170 h (RI (vHolds (fun t => fI h (112 + 4 * t) 2) (fun t => fI h (112 + 4 * t) 3) t u) (uHolds h t u)) := by
  refine Mc.of (by decide) rfl (Nat.le_of_ble_eq_true rfl) ?_
  refine x_iload_n (q := 1) dX9_holds_0 rfl rfl rfl ?_
  refine y_csI (q := 4) dX9_holds_1 rfl l_X9_198 (c_X9_isTank_b hS _) rfl rfl rfl rfl rfl rfl ?_
  refine x_if_ne (q := 7) (t := 10) dX9_holds_4 rfl (by decide) (fun c_4 => ?_) (fun c_4 => ?_)
  · replace c_4 := b2y c_4
    refine x_iload_n (q := 11) dX9_holds_10 rfl rfl rfl ?_
    refine x_iconst (q := 12) (v := 1) dX9_holds_11 rfl (by decide) ?_
    refine x_ldc (q := 14) dX9_holds_12 rfl v_X9_201 ?_
    refine y_csI (q := 17) dX9_holds_14 rfl l_X9_97 (c_X9_within_b hS _ _ _) rfl rfl rfl rfl rfl rfl ?_
    refine x_if_ne (q := 20) (t := 23) dX9_holds_17 rfl (by decide) (fun c_17 => ?_) (fun c_17 => ?_)
    · replace c_17 := b2y c_17
      obtain ⟨t, ht0, rfl⟩ := inB_of (n := 4) (by decide) c_4
      have ht : t < 5 := by omega
      refine x_aload_n (q := 24) dX9_holds_23 rfl rfl rfl ?_
      refine x_get (q := 27) dX9_holds_24 rfl f_X9_49 (cl_1 hS) rfl (by decide) ?_
      refine x_iload_n (q := 28) dX9_holds_27 rfl rfl rfl ?_
      refine z_aald4 (q := 29) (j := t) dX9_holds_28 rfl (cl_24 hS) ht (by decide) ?_
      refine x_astore_n (q := 30) dX9_holds_29 rfl rfl (by decide) ?_
      refine x_aload_n (q := 31) dX9_holds_30 rfl rfl rfl ?_
      refine x_get (q := 34) dX9_holds_31 rfl f_X9_202 (cl_K hS ht) rfl (by omega) ?_
      refine x_iload_n (q := 35) dX9_holds_34 rfl rfl rfl ?_
      refine x_ic_le (q := 38) (t := 41) dX9_holds_35 rfl (by decide) (fun c_35 => ?_) (fun c_35 => ?_)
      · refine x_aload_n (q := 42) dX9_holds_41 rfl rfl rfl ?_
        refine x_get (q := 45) dX9_holds_42 rfl f_X9_205 (cl_K hS ht) rfl (by omega) ?_
        refine x_istore (q := 47) dX9_holds_45 rfl (by decide) ?_
        refine x_aload_n (q := 48) dX9_holds_47 rfl rfl rfl ?_
        refine x_iload_n (q := 49) dX9_holds_48 rfl rfl rfl ?_
        refine y_put (q := 52) dX9_holds_49 rfl f_X9_205 (cl_K hS ht) rfl (by first | rfl | decide) (by first | rfl | decide) (by omega) ?_
        refine Vg.nm (fun h1 eh1 => ?_)
        have hS1 : Sh h1 := by rw [eh1]; exact hS.sI _ _ _
        refine x_iload (q := 54) dX9_holds_52 rfl rfl ?_
        exact x_iret dX9_holds_54 ⟨_, rfl, by first | rfl | (split <;> rfl)⟩ rfl (Nat.le_refl _) rfl ⟨by simp [vHolds, c_4, c_17, c_35, nI_clamp (show t < 2 ^ 31 by omega)], by rw [eh1]; simp [uHolds, c_4, c_17, c_35, nI_clamp (show t < 2 ^ 31 by omega)]⟩
      · refine x_bipush (q := 40) (v := -4) dX9_holds_38 rfl (by decide) ?_
        exact x_iret dX9_holds_40 ⟨_, rfl, by first | rfl | (split <;> rfl)⟩ rfl (Nat.le_refl _) rfl ⟨by simp [vHolds, c_4, c_17, c_35, nI_clamp (show t < 2 ^ 31 by omega)], by simp [uHolds, c_4, c_17, c_35, nI_clamp (show t < 2 ^ 31 by omega)]⟩
    · replace c_17 := b2n c_17
      refine x_bipush (q := 22) (v := -3) dX9_holds_20 rfl (by decide) ?_
      exact x_iret dX9_holds_22 ⟨_, rfl, by first | rfl | (split <;> rfl)⟩ rfl (Nat.le_refl _) rfl ⟨by simp [vHolds, c_4, c_17], by simp [uHolds, c_4, c_17]⟩
  · replace c_4 := b2n c_4
    refine x_bipush (q := 9) (v := -2) dX9_holds_7 rfl (by decide) ?_
    exact x_iret dX9_holds_9 ⟨_, rfl, by first | rfl | (split <;> rfl)⟩ rfl (Nat.le_refl _) rfl ⟨by simp [vHolds, c_4], by simp [uHolds, c_4]⟩

set_option maxHeartbeats 4000000 in
set_option maxRecDepth 100000 in
theorem c_X9_limit {h : HF} (hS : Sh h) (v : Int32) : Mc mX9_limit [.ref 1, .int v] 170 h (RI (vLim (fI h 1 10) v) (uLim h v)) := by
  refine Mc.of (by decide) rfl (Nat.le_of_ble_eq_true rfl) ?_
  refine x_iload_n (q := 1) dX9_limit_0 rfl rfl rfl ?_
  refine x_iconst (q := 2) (v := 0) dX9_limit_1 rfl (by decide) ?_
  refine x_ldc (q := 4) dX9_limit_2 rfl v_X9_208 ?_
  refine y_csI (q := 7) dX9_limit_4 rfl l_X9_97 (c_X9_within_b hS _ _ _) rfl rfl rfl rfl rfl rfl ?_
  refine x_if_ne (q := 10) (t := 13) dX9_limit_7 rfl (by decide) (fun c_7 => ?_) (fun c_7 => ?_)
  · replace c_7 := b2y c_7
    refine x_aload_n (q := 14) dX9_limit_13 rfl rfl rfl ?_
    refine x_get (q := 17) dX9_limit_14 rfl f_X9_71 (cl_1 hS) rfl (by decide) ?_
    refine x_istore_n (q := 18) dX9_limit_17 rfl rfl (by decide) ?_
    refine x_aload_n (q := 19) dX9_limit_18 rfl rfl rfl ?_
    refine x_iload_n (q := 20) dX9_limit_19 rfl rfl rfl ?_
    refine y_put (q := 23) dX9_limit_20 rfl f_X9_71 (cl_1 hS) rfl (by first | rfl | decide) (by first | rfl | decide) (by decide) ?_
    refine Vg.nm (fun h1 eh1 => ?_)
    have hS1 : Sh h1 := by rw [eh1]; exact hS.sI _ _ _
    refine x_iload_n (q := 24) dX9_limit_23 rfl rfl rfl ?_
    exact x_iret dX9_limit_24 ⟨_, rfl, by first | rfl | (split <;> rfl)⟩ rfl (Nat.le_refl _) rfl ⟨by simp [vLim, c_7], by rw [eh1]; simp [uLim, c_7]⟩
  · replace c_7 := b2n c_7
    refine x_bipush (q := 12) (v := -3) dX9_limit_10 rfl (by decide) ?_
    exact x_iret dX9_limit_12 ⟨_, rfl, by first | rfl | (split <;> rfl)⟩ rfl (Nat.le_refl _) rfl ⟨by simp [vLim, c_7], by simp [uLim, c_7]⟩

def vClean (ins stn : Nat → Int32) (t : Int32) : Int32 := if inB t 0 4 = true then if ins t.toNatClampNeg ≤ 0 then if stn t.toNatClampNeg = 0 then 0 else 1 else -4 else -2
def uClean (h : HF) (t : Int32) : HF := if inB t 0 4 = true then if fI h (112 + 4 * t.toNatClampNeg) 2 ≤ 0 then if fI h (112 + 4 * t.toNatClampNeg) 6 = 0 then h else sI (sI h (112 + 4 * t.toNatClampNeg) 6 0) 1 11 (fI h 1 11 + 1) else h else h
set_option maxHeartbeats 4000000 in
set_option maxRecDepth 100000 in
theorem c_X9_clean {h : HF} (hS : Sh h) (t : Int32) : Mc mX9_clean [.ref 1, .int t] 170 h (RI (vClean (fun t => fI h (112 + 4 * t) 2) (fun t => fI h (112 + 4 * t) 6) t) (uClean h t)) := by
  refine Mc.of (by decide) rfl (Nat.le_of_ble_eq_true rfl) ?_
  refine x_iload_n (q := 1) dX9_clean_0 rfl rfl rfl ?_
  refine y_csI (q := 4) dX9_clean_1 rfl l_X9_198 (c_X9_isTank_b hS _) rfl rfl rfl rfl rfl rfl ?_
  refine x_if_ne (q := 7) (t := 10) dX9_clean_4 rfl (by decide) (fun c_4 => ?_) (fun c_4 => ?_)
  · replace c_4 := b2y c_4
    obtain ⟨t, ht0, rfl⟩ := inB_of (n := 4) (by decide) c_4
    have ht : t < 5 := by omega
    refine x_aload_n (q := 11) dX9_clean_10 rfl rfl rfl ?_
    refine x_get (q := 14) dX9_clean_11 rfl f_X9_49 (cl_1 hS) rfl (by decide) ?_
    refine x_iload_n (q := 15) dX9_clean_14 rfl rfl rfl ?_
    refine z_aald4 (q := 16) (j := t) dX9_clean_15 rfl (cl_24 hS) ht (by decide) ?_
    refine x_astore_n (q := 17) dX9_clean_16 rfl rfl (by decide) ?_
    refine x_aload_n (q := 18) dX9_clean_17 rfl rfl rfl ?_
    refine x_get (q := 21) dX9_clean_18 rfl f_X9_202 (cl_K hS ht) rfl (by omega) ?_
    refine x_if_le (q := 24) (t := 27) dX9_clean_21 rfl (by decide) (fun c_21 => ?_) (fun c_21 => ?_)
    · refine x_aload_n (q := 28) dX9_clean_27 rfl rfl rfl ?_
      refine x_get (q := 31) dX9_clean_28 rfl f_X9_217 (cl_K hS ht) rfl (by omega) ?_
      refine x_if_ne (q := 34) (t := 36) dX9_clean_31 rfl (by decide) (fun c_31 => ?_) (fun c_31 => ?_)
      · refine x_aload_n (q := 37) dX9_clean_36 rfl rfl rfl ?_
        refine x_iconst (q := 38) (v := 0) dX9_clean_37 rfl (by decide) ?_
        refine y_put (q := 41) dX9_clean_38 rfl f_X9_217 (cl_K hS ht) rfl (by first | rfl | decide) (by first | rfl | decide) (by omega) ?_
        refine Vg.nm (fun h1 eh1 => ?_)
        have hS1 : Sh h1 := by rw [eh1]; exact hS.sI _ _ _
        refine x_aload_n (q := 42) dX9_clean_41 rfl rfl rfl ?_
        refine x_dup (q := 43) dX9_clean_42 rfl rfl ?_
        refine x_get (q := 46) dX9_clean_43 rfl f_X9_74 (cl_1 hS1) rfl (by decide) ?_
        refine x_iconst (q := 47) (v := 1) dX9_clean_46 rfl (by decide) ?_
        refine x_iadd (q := 48) dX9_clean_47 rfl ?_
        refine y_put (q := 51) dX9_clean_48 rfl f_X9_74 (cl_1 hS1) rfl (by first | rfl | decide) (by first | rfl | decide) (by decide) ?_
        refine Vg.nm (fun h2 eh2 => ?_)
        have hS2 : Sh h2 := by rw [eh2]; exact hS1.sI _ _ _
        refine x_iconst (q := 52) (v := 1) dX9_clean_51 rfl (by decide) ?_
        exact x_iret dX9_clean_52 ⟨_, rfl, by first | rfl | (split <;> rfl)⟩ rfl (Nat.le_refl _) rfl ⟨by simp [vClean, c_4, c_21, c_31, nI_clamp (show t < 2 ^ 31 by omega)], by rw [eh2, eh1, fI_sI_ne (by omega)]; simp [uClean, c_4, c_21, c_31, nI_clamp (show t < 2 ^ 31 by omega)]⟩
      · refine x_iconst (q := 35) (v := 0) dX9_clean_34 rfl (by decide) ?_
        exact x_iret dX9_clean_35 ⟨_, rfl, by first | rfl | (split <;> rfl)⟩ rfl (Nat.le_refl _) rfl ⟨by simp [vClean, c_4, c_21, c_31, nI_clamp (show t < 2 ^ 31 by omega)], by simp [uClean, c_4, c_21, c_31, nI_clamp (show t < 2 ^ 31 by omega)]⟩
    · refine x_bipush (q := 26) (v := -4) dX9_clean_24 rfl (by decide) ?_
      exact x_iret dX9_clean_26 ⟨_, rfl, by first | rfl | (split <;> rfl)⟩ rfl (Nat.le_refl _) rfl ⟨by simp [vClean, c_4, c_21, nI_clamp (show t < 2 ^ 31 by omega)], by simp [uClean, c_4, c_21, nI_clamp (show t < 2 ^ 31 by omega)]⟩
  · replace c_4 := b2n c_4
    refine x_bipush (q := 9) (v := -2) dX9_clean_7 rfl (by decide) ?_
    exact x_iret dX9_clean_9 ⟨_, rfl, by first | rfl | (split <;> rfl)⟩ rfl (Nat.le_refl _) rfl ⟨by simp [vClean, c_4], by simp [uClean, c_4]⟩

def vTank (ins stn siz : Nat → Int32) (t w : Int32) : Int32 := if inB t 0 4 = true then if w = 0 then ins t.toNatClampNeg else if w = 1 then (if ins t.toNatClampNeg = 0 ∧ stn t.toNatClampNeg = 0 then 1 else 0) else if w = 2 then (if stn t.toNatClampNeg = 0 then 0 else 1) else if w = 3 then siz t.toNatClampNeg else -3 else -2
def clB (ins stn : Int32) : Bool := decide (ins = 0 ∧ stn = 0)
theorem c_X8_isClean_b {h : HF} (hS : Sh h) {t : Nat} (ht : t < 5) : Mc mX8_isClean [.ref (112 + 4 * t)] 170 h (RI (b2 (clB (fI h (112 + 4 * t) 2) (fI h (112 + 4 * t) 6))) h) := by
  have q := c_X8_isClean hS ht
  rw [b2_if] at q
  exact q
set_option maxHeartbeats 4000000 in
set_option maxRecDepth 100000 in
theorem c_X9_tank {h : HF} (hS : Sh h) (t w : Int32) : Mc mX9_tank [.ref 1, .int t, .int w] 170 h (RI (vTank (fun t => fI h (112 + 4 * t) 2) (fun t => fI h (112 + 4 * t) 6) (fun t => fI h (112 + 4 * t) 3) t w) (h)) := by
  refine Mc.of (by decide) rfl (Nat.le_of_ble_eq_true rfl) ?_
  refine x_iload_n (q := 1) dX9_tank_0 rfl rfl rfl ?_
  refine y_csI (q := 4) dX9_tank_1 rfl l_X9_198 (c_X9_isTank_b hS _) rfl rfl rfl rfl rfl rfl ?_
  refine x_if_ne (q := 7) (t := 10) dX9_tank_4 rfl (by decide) (fun c_4 => ?_) (fun c_4 => ?_)
  · replace c_4 := b2y c_4
    obtain ⟨t, ht0, rfl⟩ := inB_of (n := 4) (by decide) c_4
    have ht : t < 5 := by omega
    refine x_aload_n (q := 11) dX9_tank_10 rfl rfl rfl ?_
    refine x_get (q := 14) dX9_tank_11 rfl f_X9_49 (cl_1 hS) rfl (by decide) ?_
    refine x_iload_n (q := 15) dX9_tank_14 rfl rfl rfl ?_
    refine z_aald4 (q := 16) (j := t) dX9_tank_15 rfl (cl_24 hS) ht (by decide) ?_
    refine x_astore_n (q := 17) dX9_tank_16 rfl rfl (by decide) ?_
    refine x_iload_n (q := 18) dX9_tank_17 rfl rfl rfl ?_
    rcases tsw4 w with rfl | rfl | rfl | rfl | hw
    · refine x_tswI (q := 48) (off := 30) dX9_tank_18 (by decide) (by decide) (by decide) (by decide) ?_
      refine x_aload_n (q := 49) dX9_tank_48 rfl rfl rfl ?_
      refine x_get (q := 52) dX9_tank_49 rfl f_X9_202 (cl_K hS ht) rfl (by omega) ?_
      exact x_iret dX9_tank_52 ⟨_, rfl, by first | rfl | (split <;> rfl)⟩ rfl (Nat.le_refl _) rfl ⟨by simp_all [vTank, clB, nI_clamp (show t < 2 ^ 31 by omega)], rfl⟩
    · refine x_tswI (q := 53) (off := 35) dX9_tank_18 (by decide) (by decide) (by decide) (by decide) ?_
      refine x_aload_n (q := 54) dX9_tank_53 rfl rfl rfl ?_
      refine y_cvI (q := 57) dX9_tank_54 rfl l_X9_227 (c_X8_isClean_b hS ht) rfl rfl (cl_K hS ht) (by omega) rfl rfl rfl rfl ?_
      refine x_if_eq (q := 60) (t := 64) dX9_tank_57 rfl (by decide) (fun c_57 => ?_) (fun c_57 => ?_)
      · replace c_57 := b2n c_57
        refine x_iconst (q := 65) (v := 0) dX9_tank_64 rfl (by decide) ?_
        exact x_iret dX9_tank_65 ⟨_, rfl, by first | rfl | (split <;> rfl)⟩ rfl (Nat.le_refl _) rfl ⟨by simp_all [vTank, clB, nI_clamp (show t < 2 ^ 31 by omega)], rfl⟩
      · replace c_57 := b2y c_57
        refine x_iconst (q := 61) (v := 1) dX9_tank_60 rfl (by decide) ?_
        refine x_goto (q := 65) dX9_tank_61 (by decide) ?_
        exact x_iret dX9_tank_65 ⟨_, rfl, by first | rfl | (split <;> rfl)⟩ rfl (Nat.le_refl _) rfl ⟨by simp_all [vTank, clB, nI_clamp (show t < 2 ^ 31 by omega)], rfl⟩
    · refine x_tswI (q := 66) (off := 48) dX9_tank_18 (by decide) (by decide) (by decide) (by decide) ?_
      refine x_aload_n (q := 67) dX9_tank_66 rfl rfl rfl ?_
      refine x_get (q := 70) dX9_tank_67 rfl f_X9_217 (cl_K hS ht) rfl (by omega) ?_
      refine x_if_eq (q := 73) (t := 77) dX9_tank_70 rfl (by decide) (fun c_70 => ?_) (fun c_70 => ?_)
      · refine x_iconst (q := 78) (v := 0) dX9_tank_77 rfl (by decide) ?_
        exact x_iret dX9_tank_78 ⟨_, rfl, by first | rfl | (split <;> rfl)⟩ rfl (Nat.le_refl _) rfl ⟨by simp_all [vTank, clB, nI_clamp (show t < 2 ^ 31 by omega)], rfl⟩
      · refine x_iconst (q := 74) (v := 1) dX9_tank_73 rfl (by decide) ?_
        refine x_goto (q := 78) dX9_tank_74 (by decide) ?_
        exact x_iret dX9_tank_78 ⟨_, rfl, by first | rfl | (split <;> rfl)⟩ rfl (Nat.le_refl _) rfl ⟨by simp_all [vTank, clB, nI_clamp (show t < 2 ^ 31 by omega)], rfl⟩
    · refine x_tswI (q := 79) (off := 61) dX9_tank_18 (by decide) (by decide) (by decide) (by decide) ?_
      refine x_aload_n (q := 80) dX9_tank_79 rfl rfl rfl ?_
      refine x_get (q := 83) dX9_tank_80 rfl f_X9_205 (cl_K hS ht) rfl (by omega) ?_
      exact x_iret dX9_tank_83 ⟨_, rfl, by first | rfl | (split <;> rfl)⟩ rfl (Nat.le_refl _) rfl ⟨by simp_all [vTank, clB, nI_clamp (show t < 2 ^ 31 by omega)], rfl⟩
    · refine x_tswO (q := 84) dX9_tank_18 hw.1 (by decide) ?_
      refine x_bipush (q := 86) (v := -3) dX9_tank_84 rfl (by decide) ?_
      exact x_iret dX9_tank_86 ⟨_, rfl, by first | rfl | (split <;> rfl)⟩ rfl (Nat.le_refl _) rfl ⟨by simp_all [vTank, clB, nI_clamp (show t < 2 ^ 31 by omega)], rfl⟩
  · replace c_4 := b2n c_4
    refine x_bipush (q := 9) (v := -2) dX9_tank_7 rfl (by decide) ?_
    exact x_iret dX9_tank_9 ⟨_, rfl, by first | rfl | (split <;> rfl)⟩ rfl (Nat.le_refl _) rfl ⟨by simp [vTank, c_4], rfl⟩

def vTS (ins stn : Nat → Int32) (S : Nat → Nat → Int32) (s : Nat → Nat → Int32) (t d : Int32) : Int32 := if inB t 0 4 = true then if inB d 0 2 = true then if clB (ins t.toNatClampNeg) (stn t.toNatClampNeg) = true then -4 else if stn t.toNatClampNeg = 0 then s t.toNatClampNeg d.toNatClampNeg else S t.toNatClampNeg d.toNatClampNeg else -2 else -2
set_option maxHeartbeats 4000000 in
set_option maxRecDepth 100000 in
theorem c_X9_tankShade {h : HF} (hS : Sh h) (t d : Int32) (nb : Nat) (hnb : fI h 2 2 = nI nb) (hnb8 : nb ≤ 8) : Mc mX9_tankShade [.ref 1, .int t, .int d] 170 h (RI (vTS (fun t => fI h (112 + 4 * t) 2) (fun t => fI h (112 + 4 * t) 6) (fun t d => gi h (115 + 4 * t) d) (fun t d => shof (gi h (113 + 4 * t + 1)) (gi h 3) (gi h 4) d nb) t d) (h)) := by
  refine Mc.of (by decide) rfl (Nat.le_of_ble_eq_true rfl) ?_
  refine x_iload_n (q := 1) dX9_tankShade_0 rfl rfl rfl ?_
  refine y_csI (q := 4) dX9_tankShade_1 rfl l_X9_198 (c_X9_isTank_b hS _) rfl rfl rfl rfl rfl rfl ?_
  refine x_if_eq (q := 7) (t := 14) dX9_tankShade_4 rfl (by decide) (fun c_4 => ?_) (fun c_4 => ?_)
  · replace c_4 := b2n c_4
    refine x_bipush (q := 16) (v := -2) dX9_tankShade_14 rfl (by decide) ?_
    exact x_iret dX9_tankShade_16 ⟨_, rfl, by first | rfl | (split <;> rfl)⟩ rfl (Nat.le_refl _) rfl ⟨by simp [vTS, c_4], rfl⟩
  · replace c_4 := b2y c_4
    refine x_iload_n (q := 8) dX9_tankShade_7 rfl rfl rfl ?_
    refine y_csI (q := 11) dX9_tankShade_8 rfl l_X9_90 (c_X9_isBand_b hS _) rfl rfl rfl rfl rfl rfl ?_
    refine x_if_ne (q := 14) (t := 17) dX9_tankShade_11 rfl (by decide) (fun c_11 => ?_) (fun c_11 => ?_)
    · replace c_11 := b2y c_11
      obtain ⟨t, ht0, rfl⟩ := inB_of (n := 4) (by decide) c_4
      have ht : t < 5 := by omega
      obtain ⟨j, hj, rfl⟩ := inB_of (n := 2) (by decide) c_11
      refine x_aload_n (q := 18) dX9_tankShade_17 rfl rfl rfl ?_
      refine x_get (q := 21) dX9_tankShade_18 rfl f_X9_49 (cl_1 hS) rfl (by decide) ?_
      refine x_iload_n (q := 22) dX9_tankShade_21 rfl rfl rfl ?_
      refine z_aald4 (q := 23) (j := t) dX9_tankShade_22 rfl (cl_24 hS) ht (by decide) ?_
      refine x_astore_n (q := 24) dX9_tankShade_23 rfl rfl (by decide) ?_
      refine x_aload_n (q := 25) dX9_tankShade_24 rfl rfl rfl ?_
      refine y_cvI (q := 28) dX9_tankShade_25 rfl l_X9_227 (c_X8_isClean_b hS ht) rfl rfl (cl_K hS ht) (by omega) rfl rfl rfl rfl ?_
      refine x_if_eq (q := 31) (t := 34) dX9_tankShade_28 rfl (by decide) (fun c_28 => ?_) (fun c_28 => ?_)
      · replace c_28 := b2n c_28
        refine x_aload_n (q := 35) dX9_tankShade_34 rfl rfl rfl ?_
        refine x_get (q := 38) dX9_tankShade_35 rfl f_X9_217 (cl_K hS ht) rfl (by omega) ?_
        refine x_if_eq (q := 41) (t := 50) dX9_tankShade_38 rfl (by decide) (fun c_38 => ?_) (fun c_38 => ?_)
        · refine x_aload_n (q := 51) dX9_tankShade_50 rfl rfl rfl ?_
          refine x_get (q := 54) dX9_tankShade_51 rfl f_X9_12 (cl_1 hS) rfl (by decide) ?_
          refine x_aload_n (q := 55) dX9_tankShade_54 rfl rfl rfl ?_
          refine x_get (q := 58) dX9_tankShade_55 rfl f_X9_234 (cl_K hS ht) rfl (by omega) ?_
          refine x_iload_n (q := 59) dX9_tankShade_58 rfl rfl rfl ?_
          refine y_cvI (q := 62) dX9_tankShade_59 rfl l_X9_186 (c_X5_shadeOf hS (isM_N ht) j (by omega) nb hnb hnb8) rfl rfl (cl_2 hS) (by decide) rfl rfl rfl rfl ?_
          exact x_iret dX9_tankShade_62 ⟨_, rfl, by first | rfl | (split <;> rfl)⟩ rfl (Nat.le_refl _) rfl ⟨by first | (simp [vTS, c_4, c_11, c_28, c_38, nI_clamp (show t < 2 ^ 31 by omega), nI_clamp (show j < 2 ^ 31 by omega)]; done) | (rw [c_38] at c_28; simp [vTS, c_4, c_11, c_28, c_38, nI_clamp (show t < 2 ^ 31 by omega), nI_clamp (show j < 2 ^ 31 by omega)]; done), rfl⟩
        · refine x_aload_n (q := 42) dX9_tankShade_41 rfl rfl rfl ?_
          refine x_get (q := 45) dX9_tankShade_42 rfl f_X9_231 (cl_K hS ht) rfl (by omega) ?_
          refine x_iload_n (q := 46) dX9_tankShade_45 rfl rfl rfl ?_
          refine z_iald (q := 47) (j := j) dX9_tankShade_46 rfl (cl_S hS ht) (by omega) (by decide) (by omega) ?_
          refine x_goto (q := 62) dX9_tankShade_47 (by decide) ?_
          exact x_iret dX9_tankShade_62 ⟨_, rfl, by first | rfl | (split <;> rfl)⟩ rfl (Nat.le_refl _) rfl ⟨by first | (simp [vTS, c_4, c_11, c_28, c_38, nI_clamp (show t < 2 ^ 31 by omega), nI_clamp (show j < 2 ^ 31 by omega)]; done) | (rw [c_38] at c_28; simp [vTS, c_4, c_11, c_28, c_38, nI_clamp (show t < 2 ^ 31 by omega), nI_clamp (show j < 2 ^ 31 by omega)]; done), rfl⟩
      · replace c_28 := b2y c_28
        refine x_bipush (q := 33) (v := -4) dX9_tankShade_31 rfl (by decide) ?_
        exact x_iret dX9_tankShade_33 ⟨_, rfl, by first | rfl | (split <;> rfl)⟩ rfl (Nat.le_refl _) rfl ⟨by first | (simp [vTS, c_4, c_11, c_28, nI_clamp (show t < 2 ^ 31 by omega), nI_clamp (show j < 2 ^ 31 by omega)]; done) | (rw [c_38] at c_28; simp [vTS, c_4, c_11, c_28, nI_clamp (show t < 2 ^ 31 by omega), nI_clamp (show j < 2 ^ 31 by omega)]; done), rfl⟩
    · replace c_11 := b2n c_11
      refine x_bipush (q := 16) (v := -2) dX9_tankShade_14 rfl (by decide) ?_
      exact x_iret dX9_tankShade_16 ⟨_, rfl, by first | rfl | (split <;> rfl)⟩ rfl (Nat.le_refl _) rfl ⟨by simp [vTS, c_4, c_11], rfl⟩

