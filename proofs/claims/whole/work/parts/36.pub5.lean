def drwH (h : HF) (t : Nat) (n : Int32) (z : Nat) : HF := if fI h (112 + 4 * t) 2 - n ≤ 0 then drwF h t n z else drw0 h t n
theorem Sh_drwH {h : HF} (hS : Sh h) (t : Nat) (n : Int32) (z : Nat) : Sh (drwH h t n z) := by
  unfold drwH
  split
  · exact hS.drwF _ _ _
  · exact hS.drw0 _ _
theorem c_X8_draw_b {h : HF} (hS : Sh h) {t : Nat} (ht : t < 5) (n : Int32) (z : Nat) (hz : fI h 2 2 = nI z) (hz8 : z ≤ 8) : Mc mX8_draw [.ref (112 + 4 * t), .int n, .ref 2] 170 h (RV (drwH h t n z)) := by
  by_cases hp : fI h (112 + 4 * t) 2 - n ≤ 0
  · rw [drwH, if_pos hp]; exact c_X8_draw0 hS ht n z hz hz8 hp
  · rw [drwH, if_neg hp]; exact c_X8_draw hS ht n z hz hz8 hp
def vFill (ins : Nat → Int32) (t n : Int32) (nd : Nat) : Int32 := if inB t 0 4 = true then if inB n 1 1000 = true then if n ≤ ins t.toNatClampNeg then (if nd < 100 then nI nd else -6) else -4 else -3 else -2
def uFill (h : HF) (t n : Int32) (nd nb : Nat) : HF := if inB t 0 4 = true then if inB n 1 1000 = true then if n ≤ fI h (112 + 4 * t.toNatClampNeg) 2 then (if nd < 100 then drwH (yadF h t.toNatClampNeg nd n t (fI h 5 4)) t.toNatClampNeg n nb else h) else h else h else h
set_option maxHeartbeats 4000000 in
set_option maxRecDepth 100000 in
theorem c_X9_fill_full {h : HF} (hS : Sh h) (t n : Int32) (hnd : fI h 25 5 = nI 100) (nb : Nat) (hnb : fI h 2 2 = nI nb) (hnb8 : nb ≤ 8) : Mc mX9_fill [.ref 1, .int t, .int n] 170 h (RI (vFill (fun t => fI h (112 + 4 * t) 2) t n 100) (uFill h t n 100 nb)) := by
  refine Mc.of (by decide) rfl (Nat.le_of_ble_eq_true rfl) ?_
  refine x_iload_n (q := 1) dX9_fill_0 rfl rfl rfl ?_
  refine y_csI (q := 4) dX9_fill_1 rfl l_X9_198 (c_X9_isTank_b hS _) rfl rfl rfl rfl rfl rfl ?_
  refine x_if_ne (q := 7) (t := 10) dX9_fill_4 rfl (by decide) (fun c_4 => ?_) (fun c_4 => ?_)
  · replace c_4 := b2y c_4
    refine x_iload_n (q := 11) dX9_fill_10 rfl rfl rfl ?_
    refine x_iconst (q := 12) (v := 1) dX9_fill_11 rfl (by decide) ?_
    refine x_sipush (q := 15) (v := 1000) dX9_fill_12 rfl (by decide) ?_
    refine y_csI (q := 18) dX9_fill_15 rfl l_X9_97 (c_X9_within_b hS _ _ _) rfl rfl rfl rfl rfl rfl ?_
    refine x_if_ne (q := 21) (t := 24) dX9_fill_18 rfl (by decide) (fun c_18 => ?_) (fun c_18 => ?_)
    · replace c_18 := b2y c_18
      obtain ⟨t, ht0, rfl⟩ := inB_of (n := 4) (by decide) c_4
      have ht : t < 5 := by omega
      refine x_aload_n (q := 25) dX9_fill_24 rfl rfl rfl ?_
      refine x_get (q := 28) dX9_fill_25 rfl f_X9_49 (cl_1 hS) rfl (by decide) ?_
      refine x_iload_n (q := 29) dX9_fill_28 rfl rfl rfl ?_
      refine z_aald4 (q := 30) (j := t) dX9_fill_29 rfl (cl_24 hS) ht (by decide) ?_
      refine x_get (q := 33) dX9_fill_30 rfl f_X9_202 (cl_K hS ht) rfl (by omega) ?_
      refine x_iload_n (q := 34) dX9_fill_33 rfl rfl rfl ?_
      refine x_ic_ge (q := 37) (t := 40) dX9_fill_34 rfl (by decide) (fun c_34 => ?_) (fun c_34 => ?_)
      · refine x_aload_n (q := 41) dX9_fill_40 rfl rfl rfl ?_
        refine x_get (q := 44) dX9_fill_41 rfl f_X9_56 (cl_1 hS) rfl (by decide) ?_
        refine x_iload_n (q := 45) dX9_fill_44 rfl rfl rfl ?_
        refine x_iload_n (q := 46) dX9_fill_45 rfl rfl rfl ?_
        refine x_aload_n (q := 47) dX9_fill_46 rfl rfl rfl ?_
        refine x_get (q := 50) dX9_fill_47 rfl f_X9_19 (cl_1 hS) rfl (by decide) ?_
        refine x_get (q := 53) dX9_fill_50 rfl f_X9_112 (cl_5 hS) rfl (by decide) ?_
        refine x_aload_n (q := 54) dX9_fill_53 rfl rfl rfl ?_
        refine x_get (q := 57) dX9_fill_54 rfl f_X9_49 (cl_1 hS) rfl (by decide) ?_
        refine x_iload_n (q := 58) dX9_fill_57 rfl rfl rfl ?_
        refine z_aald4 (q := 59) (j := t) dX9_fill_58 rfl (cl_24 hS) ht (by decide) ?_
        refine y_cvI (q := 62) dX9_fill_59 rfl l_X9_220 (c_X3_add_full hS ht _ _ _ hnd) rfl rfl (cl_25 hS) (by decide) rfl rfl rfl rfl ?_
        refine x_istore_n (q := 63) dX9_fill_62 rfl rfl (by decide) ?_
        refine x_iload_n (q := 64) dX9_fill_63 rfl rfl rfl ?_
        refine x_bipush (q := 66) (v := -6) dX9_fill_64 rfl (by decide) ?_
        refine x_ic_eq (q := 69) (t := 83) dX9_fill_66 rfl (by decide) (fun _ => ?_) (fun c_ => absurd (by decide) c_)
        refine x_iload_n (q := 84) dX9_fill_83 rfl rfl rfl ?_
        exact x_iret dX9_fill_84 ⟨_, rfl, by first | rfl | (split <;> rfl)⟩ rfl (Nat.le_refl _) rfl ⟨by simp [vFill, c_4, c_18, c_34, nI_clamp (show t < 2 ^ 31 by omega)], by simp [uFill, c_4, c_18, c_34, nI_clamp (show t < 2 ^ 31 by omega)]⟩
      · refine x_bipush (q := 39) (v := -4) dX9_fill_37 rfl (by decide) ?_
        exact x_iret dX9_fill_39 ⟨_, rfl, by first | rfl | (split <;> rfl)⟩ rfl (Nat.le_refl _) rfl ⟨by simp [vFill, c_4, c_18, c_34, nI_clamp (show t < 2 ^ 31 by omega)], by simp [uFill, c_4, c_18, c_34, nI_clamp (show t < 2 ^ 31 by omega)]⟩
    · replace c_18 := b2n c_18
      refine x_bipush (q := 23) (v := -3) dX9_fill_21 rfl (by decide) ?_
      exact x_iret dX9_fill_23 ⟨_, rfl, by first | rfl | (split <;> rfl)⟩ rfl (Nat.le_refl _) rfl ⟨by simp [vFill, c_4, c_18], by simp [uFill, c_4, c_18]⟩
  · replace c_4 := b2n c_4
    refine x_bipush (q := 9) (v := -2) dX9_fill_7 rfl (by decide) ?_
    exact x_iret dX9_fill_9 ⟨_, rfl, by first | rfl | (split <;> rfl)⟩ rfl (Nat.le_refl _) rfl ⟨by simp [vFill, c_4], by simp [uFill, c_4]⟩

set_option maxHeartbeats 4000000 in
set_option maxRecDepth 100000 in
theorem c_X9_fill {h : HF} (hS : Sh h) (t n : Int32) (nd : Nat) (hnd : fI h 25 5 = nI nd) (hlt : nd < 100) (nb : Nat) (hnb : fI h 2 2 = nI nb) (hnb8 : nb ≤ 8) : Mc mX9_fill [.ref 1, .int t, .int n] 170 h (RI (vFill (fun t => fI h (112 + 4 * t) 2) t n nd) (uFill h t n nd nb)) := by
  refine Mc.of (by decide) rfl (Nat.le_of_ble_eq_true rfl) ?_
  refine x_iload_n (q := 1) dX9_fill_0 rfl rfl rfl ?_
  refine y_csI (q := 4) dX9_fill_1 rfl l_X9_198 (c_X9_isTank_b hS _) rfl rfl rfl rfl rfl rfl ?_
  refine x_if_ne (q := 7) (t := 10) dX9_fill_4 rfl (by decide) (fun c_4 => ?_) (fun c_4 => ?_)
  · replace c_4 := b2y c_4
    refine x_iload_n (q := 11) dX9_fill_10 rfl rfl rfl ?_
    refine x_iconst (q := 12) (v := 1) dX9_fill_11 rfl (by decide) ?_
    refine x_sipush (q := 15) (v := 1000) dX9_fill_12 rfl (by decide) ?_
    refine y_csI (q := 18) dX9_fill_15 rfl l_X9_97 (c_X9_within_b hS _ _ _) rfl rfl rfl rfl rfl rfl ?_
    refine x_if_ne (q := 21) (t := 24) dX9_fill_18 rfl (by decide) (fun c_18 => ?_) (fun c_18 => ?_)
    · replace c_18 := b2y c_18
      obtain ⟨t, ht0, rfl⟩ := inB_of (n := 4) (by decide) c_4
      have ht : t < 5 := by omega
      refine x_aload_n (q := 25) dX9_fill_24 rfl rfl rfl ?_
      refine x_get (q := 28) dX9_fill_25 rfl f_X9_49 (cl_1 hS) rfl (by decide) ?_
      refine x_iload_n (q := 29) dX9_fill_28 rfl rfl rfl ?_
      refine z_aald4 (q := 30) (j := t) dX9_fill_29 rfl (cl_24 hS) ht (by decide) ?_
      refine x_get (q := 33) dX9_fill_30 rfl f_X9_202 (cl_K hS ht) rfl (by omega) ?_
      refine x_iload_n (q := 34) dX9_fill_33 rfl rfl rfl ?_
      refine x_ic_ge (q := 37) (t := 40) dX9_fill_34 rfl (by decide) (fun c_34 => ?_) (fun c_34 => ?_)
      · refine x_aload_n (q := 41) dX9_fill_40 rfl rfl rfl ?_
        refine x_get (q := 44) dX9_fill_41 rfl f_X9_56 (cl_1 hS) rfl (by decide) ?_
        refine x_iload_n (q := 45) dX9_fill_44 rfl rfl rfl ?_
        refine x_iload_n (q := 46) dX9_fill_45 rfl rfl rfl ?_
        refine x_aload_n (q := 47) dX9_fill_46 rfl rfl rfl ?_
        refine x_get (q := 50) dX9_fill_47 rfl f_X9_19 (cl_1 hS) rfl (by decide) ?_
        refine x_get (q := 53) dX9_fill_50 rfl f_X9_112 (cl_5 hS) rfl (by decide) ?_
        refine x_aload_n (q := 54) dX9_fill_53 rfl rfl rfl ?_
        refine x_get (q := 57) dX9_fill_54 rfl f_X9_49 (cl_1 hS) rfl (by decide) ?_
        refine x_iload_n (q := 58) dX9_fill_57 rfl rfl rfl ?_
        refine z_aald4 (q := 59) (j := t) dX9_fill_58 rfl (cl_24 hS) ht (by decide) ?_
        refine y_cvI (q := 62) dX9_fill_59 rfl l_X9_220 (c_X3_add hS ht _ _ _ nd hnd hlt) rfl rfl (cl_25 hS) (by decide) rfl rfl rfl rfl ?_
        refine Vg.nm (fun h1 eh1 => ?_)
        have hS1 : Sh h1 := by rw [eh1]; exact hS.yad _ _ _ _ _
        refine x_istore_n (q := 63) dX9_fill_62 rfl rfl (by decide) ?_
        have a1 : fI h1 2 2 = nI nb := by rw [eh1]; simp (disch := omega) only [yadF, fI_si, fI_sl, fI_sI_ne]; exact hnb
        refine x_iload_n (q := 64) dX9_fill_63 rfl rfl rfl ?_
        refine x_bipush (q := 66) (v := -6) dX9_fill_64 rfl (by decide) ?_
        refine x_ic_eq (q := 69) (t := 83) dX9_fill_66 rfl (by decide) (fun c_ => absurd c_ (fun e => by have e2 := congrArg Int32.toInt e; rw [nI_toInt (by omega)] at e2; have e3 : (-6 : Int32).toInt = -6 := rfl; omega)) (fun _ => ?_)
        refine x_aload_n (q := 70) dX9_fill_69 rfl rfl rfl ?_
        refine x_get (q := 73) dX9_fill_70 rfl f_X9_49 (cl_1 hS1) rfl (by decide) ?_
        refine x_iload_n (q := 74) dX9_fill_73 rfl rfl rfl ?_
        refine z_aald4 (q := 75) (j := t) dX9_fill_74 rfl (cl_24 hS1) ht (by decide) ?_
        refine x_iload_n (q := 76) dX9_fill_75 rfl rfl rfl ?_
        refine x_aload_n (q := 77) dX9_fill_76 rfl rfl rfl ?_
        refine x_get (q := 80) dX9_fill_77 rfl f_X9_12 (cl_1 hS1) rfl (by decide) ?_
        refine y_cvV (q := 83) dX9_fill_80 rfl l_X9_223 (c_X8_draw_b hS1 ht _ nb a1 hnb8) rfl rfl (cl_K hS1 ht) (by omega) rfl rfl rfl rfl ?_
        refine Vg.nm (fun h2 eh2 => ?_)
        have hS2 : Sh h2 := by rw [eh2]; exact Sh_drwH hS1 _ _ _
        refine x_iload_n (q := 84) dX9_fill_83 rfl rfl rfl ?_
        exact x_iret dX9_fill_84 ⟨_, rfl, by first | rfl | (split <;> rfl)⟩ rfl (Nat.le_refl _) rfl ⟨by simp [vFill, c_4, c_18, c_34, nI_clamp (show t < 2 ^ 31 by omega), hlt], by rw [eh2, eh1]; simp [uFill, c_4, c_18, c_34, nI_clamp (show t < 2 ^ 31 by omega), hlt]⟩
      · refine x_bipush (q := 39) (v := -4) dX9_fill_37 rfl (by decide) ?_
        exact x_iret dX9_fill_39 ⟨_, rfl, by first | rfl | (split <;> rfl)⟩ rfl (Nat.le_refl _) rfl ⟨by simp [vFill, c_4, c_18, c_34, nI_clamp (show t < 2 ^ 31 by omega)], by simp [uFill, c_4, c_18, c_34, nI_clamp (show t < 2 ^ 31 by omega)]⟩
    · replace c_18 := b2n c_18
      refine x_bipush (q := 23) (v := -3) dX9_fill_21 rfl (by decide) ?_
      exact x_iret dX9_fill_23 ⟨_, rfl, by first | rfl | (split <;> rfl)⟩ rfl (Nat.le_refl _) rfl ⟨by simp [vFill, c_4, c_18], by simp [uFill, c_4, c_18]⟩
  · replace c_4 := b2n c_4
    refine x_bipush (q := 9) (v := -2) dX9_fill_7 rfl (by decide) ?_
    exact x_iret dX9_fill_9 ⟨_, rfl, by first | rfl | (split <;> rfl)⟩ rfl (Nat.le_refl _) rfl ⟨by simp [vFill, c_4], by simp [uFill, c_4]⟩

def rcvH (h : HF) (t o k : Nat) : HF := if fI h (112 + 4 * t) 2 = 0 then recvF (recv0F h t) t o k else recvF h t o k
theorem Sh_rcvH {h : HF} (hS : Sh h) (t o k : Nat) : Sh (rcvH h t o k) := by
  unfold rcvH
  split
  · exact (hS.recv0 _).recv _ _ _
  · exact hS.recv _ _ _
theorem c_X8_receive_b {h : HF} (hS : Sh h) {t : Nat} (ht : t < 5) {o : Nat} (ho : isM o) (k : Nat) (hne : (113 + 4 * t) ≠ o) (h01 : (113 + 4 * t) ≠ o + 1) (h02 : o ≠ (113 + 4 * t) + 1) (h03 : (112 + 4 * t) ≠ o) : Mc mX8_receive [.ref (112 + 4 * t), .ref o, .int (nI k)] 170 h (RV (rcvH h t o k)) := by
  by_cases hi : fI h (112 + 4 * t) 2 = 0
  · rw [rcvH, if_pos hi]; exact c_X8_receive0 hS ht ho k hne h01 h02 h03 hi
  · rw [rcvH, if_neg hi]; exact c_X8_receive hS ht ho k hne h01 h02 h03 hi
theorem c_X8_admits_b {h : HF} (hS : Sh h) {t : Nat} (ht : t < 5) {o : Nat} (ho : isM o) (g : Int32) (z : Nat) (hz : fI h 2 2 = nI z) (hz8 : z ≤ 8) : Mc mX8_admits [.ref (112 + 4 * t), .ref o, .ref 2, .int g] 170 h (RI (b2 (decide (adm h t o z g))) h) := by
  have q := c_X8_admits hS ht ho g z hz hz8
  rw [b2_if] at q
  exact q
def pourH (h : HF) (k t : Nat) : HF := sI (rcvH h t (41 + 3 * k) k) (40 + 3 * k) 1 1
def vPr2 (h : HF) (k t nb : Nat) : Int32 := if fI h (40 + 3 * k) 1 = 0 then if fI h (41 + 3 * k) 1 = 0 then -4 else if decide (adm h t (41 + 3 * k) nb (fI h 1 10)) = true then if fI h (112 + 4 * t) 2 + fI h (41 + 3 * k) 1 ≤ fI h (112 + 4 * t) 3 then fI (pourH h k t) (112 + 4 * t) 2 else -6 else -4 else -4
def uPr2 (h : HF) (k t nb : Nat) : HF := if fI h (40 + 3 * k) 1 = 0 then if fI h (41 + 3 * k) 1 = 0 then h else if decide (adm h t (41 + 3 * k) nb (fI h 1 10)) = true then if fI h (112 + 4 * t) 2 + fI h (41 + 3 * k) 1 ≤ fI h (112 + 4 * t) 3 then pourH h k t else h else h else h
def vPour (h : HF) (a b : Int32) (nt nb : Nat) : Int32 := if ltB a (nI nt) = true then if inB b 0 4 = true then vPr2 h a.toNatClampNeg b.toNatClampNeg nb else -2 else -2
def uPour (h : HF) (a b : Int32) (nt nb : Nat) : HF := if ltB a (nI nt) = true then if inB b 0 4 = true then uPr2 h a.toNatClampNeg b.toNatClampNeg nb else h else h
set_option maxHeartbeats 4000000 in
set_option maxRecDepth 100000 in
theorem c_X9_pour {h : HF} (hS : Sh h) (a b : Int32) (nt : Nat) (hnt : fI h 1 4 = nI nt) (hnt24 : nt ≤ 24) (nb : Nat) (hnb : fI h 2 2 = nI nb) (hnb8 : nb ≤ 8) : Mc mX9_pour [.ref 1, .int a, .int b] 170 h (RI (vPour h a b nt nb) (uPour h a b nt nb)) := by
  refine Mc.of (by decide) rfl (Nat.le_of_ble_eq_true rfl) ?_
  refine x_aload_n (q := 1) dX9_pour_0 rfl rfl rfl ?_
  refine x_iload_n (q := 2) dX9_pour_1 rfl rfl rfl ?_
  refine y_cvI (q := 5) dX9_pour_2 rfl l_X9_126 (c_X9_hasBatch_b hS _ nt hnt) rfl rfl (cl_1 hS) (by decide) rfl rfl rfl rfl ?_
  refine x_if_eq (q := 8) (t := 15) dX9_pour_5 rfl (by decide) (fun c_5 => ?_) (fun c_5 => ?_)
  · replace c_5 := b2n c_5
    refine x_bipush (q := 17) (v := -2) dX9_pour_15 rfl (by decide) ?_
    exact x_iret dX9_pour_17 ⟨_, rfl, by first | rfl | (split <;> rfl)⟩ rfl (Nat.le_refl _) rfl ⟨by simp [vPour, c_5], by simp [uPour, c_5]⟩
  · replace c_5 := b2y c_5
    refine x_iload_n (q := 9) dX9_pour_8 rfl rfl rfl ?_
    refine y_csI (q := 12) dX9_pour_9 rfl l_X9_198 (c_X9_isTank_b hS _) rfl rfl rfl rfl rfl rfl ?_
    refine x_if_ne (q := 15) (t := 18) dX9_pour_12 rfl (by decide) (fun c_12 => ?_) (fun c_12 => ?_)
    · replace c_12 := b2y c_12
      obtain ⟨k, hk0, rfl⟩ := ltB_of (by omega) c_5
      have hk : k < 24 := by omega
      obtain ⟨t, ht0, rfl⟩ := inB_of (n := 4) (by decide) c_12
      have ht : t < 5 := by omega
      refine x_aload_n (q := 19) dX9_pour_18 rfl rfl rfl ?_
      refine x_get (q := 22) dX9_pour_19 rfl f_X9_32 (cl_1 hS) rfl (by decide) ?_
      refine x_iload_n (q := 23) dX9_pour_22 rfl rfl rfl ?_
      refine z_aald3 (q := 24) (j := k) dX9_pour_23 rfl (cl_16 hS) hk (by decide) ?_
      refine x_astore_n (q := 25) dX9_pour_24 rfl rfl (by decide) ?_
      refine x_aload_n (q := 26) dX9_pour_25 rfl rfl rfl ?_
      refine x_get (q := 29) dX9_pour_26 rfl f_X9_49 (cl_1 hS) rfl (by decide) ?_
      refine x_iload_n (q := 30) dX9_pour_29 rfl rfl rfl ?_
      refine z_aald4 (q := 31) (j := t) dX9_pour_30 rfl (cl_24 hS) ht (by decide) ?_
      refine x_astore (q := 33) dX9_pour_31 rfl (by decide) ?_
      refine x_aload_n (q := 34) dX9_pour_33 rfl rfl rfl ?_
      refine x_get (q := 37) dX9_pour_34 rfl f_X9_146 (cl_B hS hk) rfl (by omega) ?_
      refine x_if_ne (q := 40) (t := 70) dX9_pour_37 rfl (by decide) (fun c_37 => ?_) (fun c_37 => ?_)
      · refine x_bipush (q := 72) (v := -4) dX9_pour_70 rfl (by decide) ?_
        exact x_iret dX9_pour_72 ⟨_, rfl, by first | rfl | (split <;> rfl)⟩ rfl (Nat.le_refl _) rfl ⟨by simp only [vPour, c_5, c_12, c_37, nI_clamp (show t < 2 ^ 31 by omega), nI_clamp (show k < 2 ^ 31 by omega), vPr2, if_true, if_false, Bool.false_eq_true], by simp only [uPour, c_5, c_12, c_37, nI_clamp (show t < 2 ^ 31 by omega), nI_clamp (show k < 2 ^ 31 by omega), uPr2, if_true, if_false, Bool.false_eq_true]⟩
      · refine x_aload_n (q := 41) dX9_pour_40 rfl rfl rfl ?_
        refine x_get (q := 44) dX9_pour_41 rfl f_X9_150 (cl_B hS hk) rfl (by omega) ?_
        refine x_get (q := 47) dX9_pour_44 rfl f_X9_154 (cl_M hS hk) rfl (by omega) ?_
        refine x_if_eq (q := 50) (t := 70) dX9_pour_47 rfl (by decide) (fun c_47 => ?_) (fun c_47 => ?_)
        · refine x_bipush (q := 72) (v := -4) dX9_pour_70 rfl (by decide) ?_
          exact x_iret dX9_pour_72 ⟨_, rfl, by first | rfl | (split <;> rfl)⟩ rfl (Nat.le_refl _) rfl ⟨by simp only [vPour, c_5, c_12, c_37, c_47, nI_clamp (show t < 2 ^ 31 by omega), nI_clamp (show k < 2 ^ 31 by omega), vPr2, if_true, if_false, Bool.false_eq_true], by simp only [uPour, c_5, c_12, c_37, c_47, nI_clamp (show t < 2 ^ 31 by omega), nI_clamp (show k < 2 ^ 31 by omega), uPr2, if_true, if_false, Bool.false_eq_true]⟩
        · refine x_aload (q := 52) dX9_pour_50 rfl rfl ?_
          refine x_aload_n (q := 53) dX9_pour_52 rfl rfl rfl ?_
          refine x_get (q := 56) dX9_pour_53 rfl f_X9_150 (cl_B hS hk) rfl (by omega) ?_
          refine x_aload_n (q := 57) dX9_pour_56 rfl rfl rfl ?_
          refine x_get (q := 60) dX9_pour_57 rfl f_X9_12 (cl_1 hS) rfl (by decide) ?_
          refine x_aload_n (q := 61) dX9_pour_60 rfl rfl rfl ?_
          refine x_get (q := 64) dX9_pour_61 rfl f_X9_71 (cl_1 hS) rfl (by decide) ?_
          refine y_cvI (q := 67) dX9_pour_64 rfl l_X9_209 (c_X8_admits_b hS ht (isM_M hk) _ nb hnb hnb8) rfl rfl (cl_K hS ht) (by omega) rfl rfl rfl rfl ?_
          refine x_if_ne (q := 70) (t := 73) dX9_pour_67 rfl (by decide) (fun c_67 => ?_) (fun c_67 => ?_)
          · replace c_67 := b2y c_67
            refine x_aload (q := 75) dX9_pour_73 rfl rfl ?_
            refine x_get (q := 78) dX9_pour_75 rfl f_X9_202 (cl_K hS ht) rfl (by omega) ?_
            refine x_aload_n (q := 79) dX9_pour_78 rfl rfl rfl ?_
            refine x_get (q := 82) dX9_pour_79 rfl f_X9_150 (cl_B hS hk) rfl (by omega) ?_
            refine x_get (q := 85) dX9_pour_82 rfl f_X9_154 (cl_M hS hk) rfl (by omega) ?_
            refine x_iadd (q := 86) dX9_pour_85 rfl ?_
            refine x_aload (q := 88) dX9_pour_86 rfl rfl ?_
            refine x_get (q := 91) dX9_pour_88 rfl f_X9_205 (cl_K hS ht) rfl (by omega) ?_
            refine x_ic_le (q := 94) (t := 97) dX9_pour_91 rfl (by decide) (fun c_91 => ?_) (fun c_91 => ?_)
            · refine x_aload (q := 99) dX9_pour_97 rfl rfl ?_
              refine x_aload_n (q := 100) dX9_pour_99 rfl rfl rfl ?_
              refine x_get (q := 103) dX9_pour_100 rfl f_X9_150 (cl_B hS hk) rfl (by omega) ?_
              refine x_iload_n (q := 104) dX9_pour_103 rfl rfl rfl ?_
              refine y_cvV (q := 107) dX9_pour_104 rfl l_X9_213 (c_X8_receive_b hS ht (isM_M hk) k (by omega) (by omega) (by omega) (by omega)) rfl rfl (cl_K hS ht) (by omega) rfl rfl rfl rfl ?_
              refine Vg.nm (fun h1 eh1 => ?_)
              have hS1 : Sh h1 := by rw [eh1]; exact Sh_rcvH hS _ _ _
              refine x_aload_n (q := 108) dX9_pour_107 rfl rfl rfl ?_
              refine x_iconst (q := 109) (v := 1) dX9_pour_108 rfl (by decide) ?_
              refine y_put (q := 112) dX9_pour_109 rfl f_X9_146 (cl_B hS1 hk) rfl (by first | rfl | decide) (by first | rfl | decide) (by omega) ?_
              refine Vg.nm (fun h2 eh2 => ?_)
              have hS2 : Sh h2 := by rw [eh2]; exact hS1.sI _ _ _
              refine x_aload (q := 114) dX9_pour_112 rfl rfl ?_
              refine x_get (q := 117) dX9_pour_114 rfl f_X9_202 (cl_K hS2 ht) rfl (by omega) ?_
              exact x_iret dX9_pour_117 ⟨_, rfl, by first | rfl | (split <;> rfl)⟩ rfl (Nat.le_refl _) rfl ⟨by rw [eh2, eh1]; simp only [vPour, c_5, c_12, c_37, c_47, c_67, c_91, nI_clamp (show t < 2 ^ 31 by omega), nI_clamp (show k < 2 ^ 31 by omega), vPr2, if_true, if_false, pourH], by rw [eh2, eh1]; simp only [uPour, c_5, c_12, c_37, c_47, c_67, c_91, nI_clamp (show t < 2 ^ 31 by omega), nI_clamp (show k < 2 ^ 31 by omega), uPr2, if_true, if_false, pourH]⟩
            · refine x_bipush (q := 96) (v := -6) dX9_pour_94 rfl (by decide) ?_
              exact x_iret dX9_pour_96 ⟨_, rfl, by first | rfl | (split <;> rfl)⟩ rfl (Nat.le_refl _) rfl ⟨by simp only [vPour, c_5, c_12, c_37, c_47, c_67, c_91, nI_clamp (show t < 2 ^ 31 by omega), nI_clamp (show k < 2 ^ 31 by omega), vPr2, if_true, if_false, Bool.false_eq_true], by simp only [uPour, c_5, c_12, c_37, c_47, c_67, c_91, nI_clamp (show t < 2 ^ 31 by omega), nI_clamp (show k < 2 ^ 31 by omega), uPr2, if_true, if_false, Bool.false_eq_true]⟩
          · replace c_67 := b2n c_67
            refine x_bipush (q := 72) (v := -4) dX9_pour_70 rfl (by decide) ?_
            exact x_iret dX9_pour_72 ⟨_, rfl, by first | rfl | (split <;> rfl)⟩ rfl (Nat.le_refl _) rfl ⟨by simp only [vPour, c_5, c_12, c_37, c_47, c_67, nI_clamp (show t < 2 ^ 31 by omega), nI_clamp (show k < 2 ^ 31 by omega), vPr2, if_true, if_false, Bool.false_eq_true], by simp only [uPour, c_5, c_12, c_37, c_47, c_67, nI_clamp (show t < 2 ^ 31 by omega), nI_clamp (show k < 2 ^ 31 by omega), uPr2, if_true, if_false, Bool.false_eq_true]⟩
    · replace c_12 := b2n c_12
      refine x_bipush (q := 17) (v := -2) dX9_pour_15 rfl (by decide) ?_
      exact x_iret dX9_pour_17 ⟨_, rfl, by first | rfl | (split <;> rfl)⟩ rfl (Nat.le_refl _) rfl ⟨by simp [vPour, c_5, c_12], by simp [uPour, c_5, c_12]⟩

