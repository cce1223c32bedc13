def vAP (h : HF) (r c : Nat) (e v n : Int32) (z : Nat) : Int32 := if c < 6 then if (raR (upd (gi h 10) (r * 6 + c) e) (upd (gi h 11) (r * 6 + c) v) (upd (gi h 12) (r * 6 + c) n) (upd (gi h 13) r (nI (c + 1))) z 0 (filF (gi h 15) 0 96)).1 = true then nI (c + 1) else -6 else -6
def uAP (h : HF) (r c : Nat) (e v n : Int32) (z : Nat) : HF := if c < 6 then if (raR (upd (gi h 10) (r * 6 + c) e) (upd (gi h 11) (r * 6 + c) v) (upd (gi h 12) (r * 6 + c) n) (upd (gi h 13) r (nI (c + 1))) z 0 (filF (gi h 15) 0 96)).1 = true then si (si (apH h r c e v n) 15 (raR (upd (gi h 10) (r * 6 + c) e) (upd (gi h 11) (r * 6 + c) v) (upd (gi h 12) (r * 6 + c) n) (upd (gi h 13) r (nI (c + 1))) z 0 (filF (gi h 15) 0 96)).2) 14 (va_cpy (raR (upd (gi h 10) (r * 6 + c) e) (upd (gi h 11) (r * 6 + c) v) (upd (gi h 12) (r * 6 + c) n) (upd (gi h 13) r (nI (c + 1))) z 0 (filF (gi h 15) 0 96)).2 (gi h 14) 0 0 96) else si (si (apH h r c e v n) 15 (raR (upd (gi h 10) (r * 6 + c) e) (upd (gi h 11) (r * 6 + c) v) (upd (gi h 12) (r * 6 + c) n) (upd (gi h 13) r (nI (c + 1))) z 0 (filF (gi h 15) 0 96)).2) 13 (upd (upd (gi h 13) r (nI (c + 1))) r (nI c)) else h
theorem Sh_uAP {h : HF} (hS : Sh h) (r c : Nat) (e v n : Int32) (z : Nat) : Sh (uAP h r c e v n z) := by
  unfold uAP
  split
  · split
    · exact ((hS.apH _ _ _ _ _).si _ _).si _ _
    · exact ((hS.apH _ _ _ _ _).si _ _).si _ _
  · exact hS
theorem okA_add {E S C : Nat → Int32} {z r c : Nat} {e v : Int32} (hok : okA E S C z) (hr : r < z) (hc : C r = nI c) (hc6 : c < 6) (hp : okp (upd E (r * 6 + c) e) (upd S (r * 6 + c) v) r (r * 6 + c)) : okA (upd E (r * 6 + c) e) (upd S (r * 6 + c) v) (upd C r (nI (c + 1))) z := by
  intro q hq
  by_cases hqr : q = r
  · subst hqr
    refine ⟨c + 1, by omega, by simp [upd], fun i hi => ?_⟩
    by_cases hic : i = c
    · subst hic; exact hp
    · obtain ⟨c2, h2, h3, h4⟩ := hok q hq
      have hcc : c2 = c := by
        have := h3.symm.trans hc
        exact (nI_eq (by omega) (by omega)).mp this
      subst hcc
      obtain ⟨s, s1, s2, s3⟩ := h4 i (by omega)
      have ne : q * 6 + i ≠ q * 6 + c2 := by omega
      refine ⟨s, by simp only [upd, if_neg ne]; exact s1, ?_, ?_⟩
      · simp only [upd, if_neg ne]; exact s2
      · simp only [upd, if_neg ne]; exact s3
  · obtain ⟨c2, h2, h3, h4⟩ := hok q hq
    refine ⟨c2, h2, by simp only [upd, if_neg hqr]; exact h3, fun i hi => ?_⟩
    obtain ⟨s, s1, s2, s3⟩ := h4 i hi
    have ne : q * 6 + i ≠ r * 6 + c := by omega
    refine ⟨s, by simp only [upd, if_neg ne]; exact s1, ?_, ?_⟩
    · simp only [upd, if_neg ne]; exact s2
    · simp only [upd, if_neg ne]; exact s3
theorem okp_new {E S : Nat → Int32} {r p s : Nat} {e : Int32} (h0 : e = 0 → s < 8) (h1 : ¬ e = 0 → s < r) : okp (upd E p e) (upd S p (nI s)) r p := by
  refine ⟨s, by simp [upd], ?_, ?_⟩
  · simp only [upd, if_true]; exact h0
  · simp only [upd, if_true]; exact h1
theorem c_X1_addPart_b {h : HF} (hS : Sh h) (r s : Nat) (e n : Int32) (z : Nat) (hz : fI h 9 6 = nI z) (hz12 : z ≤ 12) (hr : r < z) (he : vp_nar .boolean e = e) (hok : okA (gi h 10) (gi h 11) (gi h 13) z) (h0 : e = 0 → s < 8) (h1 : ¬ e = 0 → s < r) : Mc mX1_addPart [.ref 9, .int (nI r), .int e, .int (nI s), .int n] 170 h (RI (vAP h r (gi h 13 r).toNatClampNeg e (nI s) n z) (uAP h r (gi h 13 r).toNatClampNeg e (nI s) n z)) := by
  obtain ⟨c, c6, hc, -⟩ := hok r hr
  rw [hc, nI_clamp (show c < 2 ^ 31 by omega)]
  by_cases hlt : c < 6
  · have hok2 := okA_add (v := nI s) hok hr hc hlt (okp_new h0 h1)
    by_cases hra : (raR (upd (gi h 10) (r * 6 + c) e) (upd (gi h 11) (r * 6 + c) (nI s)) (upd (gi h 12) (r * 6 + c) n) (upd (gi h 13) r (nI (c + 1))) z 0 (filF (gi h 15) 0 96)).1 = true
    · rw [vAP, uAP, if_pos hlt, if_pos hlt, if_pos hra, if_pos hra]
      exact c_X1_addPart hS r c e (nI s) n (by omega) hlt hc he z hz hz12 hok2 hra
    · rw [vAP, uAP, if_pos hlt, if_pos hlt, if_neg hra, if_neg hra]
      exact c_X1_addPart_no hS r c e (nI s) n (by omega) hlt hc he z hz hz12 hok2 (Bool.eq_false_iff.mpr hra)
  · obtain rfl : c = 6 := by omega
    rw [vAP, uAP, if_neg hlt, if_neg hlt]
    exact c_X1_addPart_full hS r e (nI s) n (by omega) hc
def prt (e w n r : Int32) (nr nb : Nat) (x : Int32) : Int32 := if ltB r (nI nr) = true then if e = 0 then (if ltB w (nI nb) = true then (if inB n 1 100 = true then x else -3) else -2) else (if ltB w (nI nr) = true then (if inB n 1 100 = true then (if w < r then x else -3) else -3) else -2) else -2
def prtH (e w n r : Int32) (nr nb : Nat) (h x : HF) : HF := if ltB r (nI nr) = true then if e = 0 then (if ltB w (nI nb) = true then (if inB n 1 100 = true then x else h) else h) else (if ltB w (nI nr) = true then (if inB n 1 100 = true then (if w < r then x else h) else h) else h) else h
set_option maxHeartbeats 4000000 in
set_option maxRecDepth 100000 in
theorem c_X9_part {h : HF} (hS : Sh h) (a e w n : Int32) (he : vp_nar .boolean e = e) (nr : Nat) (hnr : fI h 9 6 = nI nr) (hnr12 : nr ≤ 12) (nb : Nat) (hnb : fI h 2 2 = nI nb) (hnb8 : nb ≤ 8) (hok : okA (gi h 10) (gi h 11) (gi h 13) nr) : Mc mX9_part [.ref 1, .int a, .int e, .int w, .int n] 170 h (RI (prt e w n a nr nb (vAP h a.toNatClampNeg (gi h 13 a.toNatClampNeg).toNatClampNeg e w n nr)) (prtH e w n a nr nb h (uAP h a.toNatClampNeg (gi h 13 a.toNatClampNeg).toNatClampNeg e w n nr))) := by
  refine Mc.of (by decide) rfl (Nat.le_of_ble_eq_true rfl) ?_
  refine x_aload_n (q := 1) dX9_part_0 rfl rfl rfl ?_
  refine x_get (q := 4) dX9_part_1 rfl f_X9_26 (cl_1 hS) rfl (by decide) ?_
  refine x_iload_n (q := 5) dX9_part_4 rfl rfl rfl ?_
  refine y_cvI (q := 8) dX9_part_5 rfl l_X9_118 (c_X1_has_b hS _ nr hnr) rfl rfl (cl_9 hS) (by decide) rfl rfl rfl rfl ?_
  refine x_if_eq (q := 11) (t := 40) dX9_part_8 rfl (by decide) (fun c_8 => ?_) (fun c_8 => ?_)
  · replace c_8 := b2n c_8
    refine x_bipush (q := 42) (v := -2) dX9_part_40 rfl (by decide) ?_
    exact x_iret dX9_part_42 ⟨_, rfl, by first | rfl | (split <;> rfl)⟩ rfl (Nat.le_refl _) rfl ⟨by simp [prt, c_8], by simp [prtH, c_8]⟩
  · replace c_8 := b2y c_8
    refine x_iload_n (q := 12) dX9_part_11 rfl rfl rfl ?_
    refine x_if_eq (q := 15) (t := 29) dX9_part_12 rfl (by decide) (fun c_12 => ?_) (fun c_12 => ?_)
    · refine x_aload_n (q := 30) dX9_part_29 rfl rfl rfl ?_
      refine x_get (q := 33) dX9_part_30 rfl f_X9_12 (cl_1 hS) rfl (by decide) ?_
      refine x_iload_n (q := 34) dX9_part_33 rfl rfl rfl ?_
      refine y_cvI (q := 37) dX9_part_34 rfl l_X9_87 (c_X5_has_b hS _ nb hnb) rfl rfl (cl_2 hS) (by decide) rfl rfl rfl rfl ?_
      refine x_if_ne (q := 40) (t := 43) dX9_part_37 rfl (by decide) (fun c_37 => ?_) (fun c_37 => ?_)
      · replace c_37 := b2y c_37
        refine x_iload (q := 45) dX9_part_43 rfl rfl ?_
        refine x_iconst (q := 46) (v := 1) dX9_part_45 rfl (by decide) ?_
        refine x_bipush (q := 48) (v := 100) dX9_part_46 rfl (by decide) ?_
        refine y_csI (q := 51) dX9_part_48 rfl l_X9_97 (c_X9_within_b hS _ _ _) rfl rfl rfl rfl rfl rfl ?_
        refine x_if_eq (q := 54) (t := 63) dX9_part_51 rfl (by decide) (fun c_51 => ?_) (fun c_51 => ?_)
        · replace c_51 := b2n c_51
          refine x_bipush (q := 65) (v := -3) dX9_part_63 rfl (by decide) ?_
          exact x_iret dX9_part_65 ⟨_, rfl, by first | rfl | (split <;> rfl)⟩ rfl (Nat.le_refl _) rfl ⟨by simp [prt, c_8, c_12, c_37, c_51], by simp [prtH, c_8, c_12, c_37, c_51]⟩
        · replace c_51 := b2y c_51
          refine x_iload_n (q := 55) dX9_part_54 rfl rfl rfl ?_
          refine x_if_eq (q := 58) (t := 66) dX9_part_55 rfl (by decide) (fun _ => ?_) (fun c_ => absurd c_12 c_)
          obtain ⟨r, hr, rfl⟩ := ltB_of (by omega) c_8
          obtain ⟨s, hs, rfl⟩ : ∃ s : Nat, s < 12 ∧ w = nI s := by
            first
              | (obtain ⟨s, hs, e9⟩ := ltB_of (by omega) c_23; exact ⟨s, by omega, e9⟩)
              | (obtain ⟨s, hs, e9⟩ := ltB_of (by omega) c_37; exact ⟨s, by omega, e9⟩)
          have h80 : e = 0 → s < 8 := by
            first
              | exact fun z => absurd z c_12
              | (obtain ⟨s2, hs2, e9⟩ := ltB_of (by omega) c_37; have := (nI_eq (by omega) (by omega)).mp e9; exact fun _ => by omega)
          have h81 : ¬ e = 0 → s < r := by
            first
              | exact fun z => absurd c_12 z
              | exact fun _ => (nI_ltI (by omega) (by omega)).mp c_60
          refine x_aload_n (q := 67) dX9_part_66 rfl rfl rfl ?_
          refine x_get (q := 70) dX9_part_67 rfl f_X9_26 (cl_1 hS) rfl (by decide) ?_
          refine x_iload_n (q := 71) dX9_part_70 rfl rfl rfl ?_
          refine x_iload_n (q := 72) dX9_part_71 rfl rfl rfl ?_
          refine x_iload_n (q := 73) dX9_part_72 rfl rfl rfl ?_
          refine x_iload (q := 75) dX9_part_73 rfl rfl ?_
          refine y_cvI (q := 78) dX9_part_75 rfl l_X9_119 (c_X1_addPart_b hS r s _ _ nr hnr hnr12 hr he hok h80 h81) rfl rfl (cl_9 hS) (by decide) rfl rfl rfl rfl ?_
          refine Vg.nm (fun h1 eh1 => ?_)
          have hS1 : Sh h1 := by rw [eh1]; exact Sh_uAP hS _ _ _ _ _ _
          exact x_iret dX9_part_78 ⟨_, rfl, by first | rfl | (split <;> rfl)⟩ rfl (Nat.le_refl _) rfl ⟨by simp [prt, c_8, c_12, c_37, c_51, nI_clamp (show r < 2 ^ 31 by omega)], by rw [eh1]; simp [prtH, c_8, c_12, c_37, c_51, nI_clamp (show r < 2 ^ 31 by omega)]⟩
      · replace c_37 := b2n c_37
        refine x_bipush (q := 42) (v := -2) dX9_part_40 rfl (by decide) ?_
        exact x_iret dX9_part_42 ⟨_, rfl, by first | rfl | (split <;> rfl)⟩ rfl (Nat.le_refl _) rfl ⟨by simp [prt, c_8, c_12, c_37], by simp [prtH, c_8, c_12, c_37]⟩
    · refine x_aload_n (q := 16) dX9_part_15 rfl rfl rfl ?_
      refine x_get (q := 19) dX9_part_16 rfl f_X9_26 (cl_1 hS) rfl (by decide) ?_
      refine x_iload_n (q := 20) dX9_part_19 rfl rfl rfl ?_
      refine y_cvI (q := 23) dX9_part_20 rfl l_X9_118 (c_X1_has_b hS _ nr hnr) rfl rfl (cl_9 hS) (by decide) rfl rfl rfl rfl ?_
      refine x_if_eq (q := 26) (t := 40) dX9_part_23 rfl (by decide) (fun c_23 => ?_) (fun c_23 => ?_)
      · replace c_23 := b2n c_23
        refine x_bipush (q := 42) (v := -2) dX9_part_40 rfl (by decide) ?_
        exact x_iret dX9_part_42 ⟨_, rfl, by first | rfl | (split <;> rfl)⟩ rfl (Nat.le_refl _) rfl ⟨by simp [prt, c_8, c_12, c_23], by simp [prtH, c_8, c_12, c_23]⟩
      · replace c_23 := b2y c_23
        refine x_goto (q := 43) dX9_part_26 (by decide) ?_
        refine x_iload (q := 45) dX9_part_43 rfl rfl ?_
        refine x_iconst (q := 46) (v := 1) dX9_part_45 rfl (by decide) ?_
        refine x_bipush (q := 48) (v := 100) dX9_part_46 rfl (by decide) ?_
        refine y_csI (q := 51) dX9_part_48 rfl l_X9_97 (c_X9_within_b hS _ _ _) rfl rfl rfl rfl rfl rfl ?_
        refine x_if_eq (q := 54) (t := 63) dX9_part_51 rfl (by decide) (fun c_51 => ?_) (fun c_51 => ?_)
        · replace c_51 := b2n c_51
          refine x_bipush (q := 65) (v := -3) dX9_part_63 rfl (by decide) ?_
          exact x_iret dX9_part_65 ⟨_, rfl, by first | rfl | (split <;> rfl)⟩ rfl (Nat.le_refl _) rfl ⟨by simp [prt, c_8, c_12, c_23, c_51], by simp [prtH, c_8, c_12, c_23, c_51]⟩
        · replace c_51 := b2y c_51
          refine x_iload_n (q := 55) dX9_part_54 rfl rfl rfl ?_
          refine x_if_eq (q := 58) (t := 66) dX9_part_55 rfl (by decide) (fun c_ => absurd c_ c_12) (fun _ => ?_)
          refine x_iload_n (q := 59) dX9_part_58 rfl rfl rfl ?_
          refine x_iload_n (q := 60) dX9_part_59 rfl rfl rfl ?_
          refine x_ic_lt (q := 63) (t := 66) dX9_part_60 rfl (by decide) (fun c_60 => ?_) (fun c_60 => ?_)
          · obtain ⟨r, hr, rfl⟩ := ltB_of (by omega) c_8
            obtain ⟨s, hs, rfl⟩ : ∃ s : Nat, s < 12 ∧ w = nI s := by
              first
                | (obtain ⟨s, hs, e9⟩ := ltB_of (by omega) c_23; exact ⟨s, by omega, e9⟩)
                | (obtain ⟨s, hs, e9⟩ := ltB_of (by omega) c_37; exact ⟨s, by omega, e9⟩)
            have h80 : e = 0 → s < 8 := by
              first
                | exact fun z => absurd z c_12
                | (obtain ⟨s2, hs2, e9⟩ := ltB_of (by omega) c_37; have := (nI_eq (by omega) (by omega)).mp e9; exact fun _ => by omega)
            have h81 : ¬ e = 0 → s < r := by
              first
                | exact fun z => absurd c_12 z
                | exact fun _ => (nI_ltI (by omega) (by omega)).mp c_60
            refine x_aload_n (q := 67) dX9_part_66 rfl rfl rfl ?_
            refine x_get (q := 70) dX9_part_67 rfl f_X9_26 (cl_1 hS) rfl (by decide) ?_
            refine x_iload_n (q := 71) dX9_part_70 rfl rfl rfl ?_
            refine x_iload_n (q := 72) dX9_part_71 rfl rfl rfl ?_
            refine x_iload_n (q := 73) dX9_part_72 rfl rfl rfl ?_
            refine x_iload (q := 75) dX9_part_73 rfl rfl ?_
            refine y_cvI (q := 78) dX9_part_75 rfl l_X9_119 (c_X1_addPart_b hS r s _ _ nr hnr hnr12 hr he hok h80 h81) rfl rfl (cl_9 hS) (by decide) rfl rfl rfl rfl ?_
            refine Vg.nm (fun h2 eh2 => ?_)
            have hS2 : Sh h2 := by rw [eh2]; exact Sh_uAP hS _ _ _ _ _ _
            exact x_iret dX9_part_78 ⟨_, rfl, by first | rfl | (split <;> rfl)⟩ rfl (Nat.le_refl _) rfl ⟨by simp [prt, c_8, c_12, c_23, c_51, c_60, nI_clamp (show r < 2 ^ 31 by omega)], by rw [eh2]; simp [prtH, c_8, c_12, c_23, c_51, c_60, nI_clamp (show r < 2 ^ 31 by omega)]⟩
          · refine x_bipush (q := 65) (v := -3) dX9_part_63 rfl (by decide) ?_
            exact x_iret dX9_part_65 ⟨_, rfl, by first | rfl | (split <;> rfl)⟩ rfl (Nat.le_refl _) rfl ⟨by simp [prt, c_8, c_12, c_23, c_51, c_60], by simp [prtH, c_8, c_12, c_23, c_51, c_60]⟩

