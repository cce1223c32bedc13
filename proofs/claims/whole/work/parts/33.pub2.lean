def fsum (f : Nat → Int32) : Nat → Int32
  | 0 => 0
  | n + 1 => fsum f n + f n
set_option maxHeartbeats 4000000 in
set_option maxRecDepth 100000 in
theorem lp_sum {h : HF} (hS : Sh h) : ∀ (k i : Nat), i + k = 8 → Vg mX9_sum none (QM mX9_sum 170 (RI (fsum (gi h 39) 8) h)) 4 [some (.ref 39), some (.int (fsum (gi h 39) i)), some (.int (nI i))] [] 170 h 0 0 := by
  intro k
  induction k with
  | zero =>
    intro i hi
    obtain rfl : i = 8 := by omega
    refine x_iload_n (q := 5) dX9_sum_4 rfl rfl rfl ?_
    refine x_aload_n (q := 6) dX9_sum_5 rfl rfl rfl ?_
    refine x_alen (q := 7) (v := 8) dX9_sum_6 rfl (cl_39 hS) rfl (by decide) ?_
    refine x_ic_ge (q := 10) (t := 22) dX9_sum_7 rfl (by decide) (fun _ => ?_) (fun c_ => absurd (by decide) c_)
    refine x_iload_n (q := 23) dX9_sum_22 rfl rfl rfl ?_
    exact x_iret dX9_sum_23 ⟨_, rfl, by first | rfl | (split <;> rfl)⟩ rfl (Nat.le_refl _) rfl ⟨rfl, rfl⟩
  | succ k ih =>
    intro i hi
    refine x_iload_n (q := 5) dX9_sum_4 rfl rfl rfl ?_
    refine x_aload_n (q := 6) dX9_sum_5 rfl rfl rfl ?_
    refine x_alen (q := 7) (v := 8) dX9_sum_6 rfl (cl_39 hS) rfl (by decide) ?_
    refine x_ic_ge (q := 10) (t := 22) dX9_sum_7 rfl (by decide) (fun c_ => absurd c_ (nI_ge (b := 8) (by omega) (by decide))) (fun _ => ?_)
    refine x_iload_n (q := 11) dX9_sum_10 rfl rfl rfl ?_
    refine x_aload_n (q := 12) dX9_sum_11 rfl rfl rfl ?_
    refine x_iload_n (q := 13) dX9_sum_12 rfl rfl rfl ?_
    refine z_iald (q := 14) (j := i) dX9_sum_13 rfl (cl_39 hS) (by omega) (by decide) (by decide) ?_
    refine x_iadd (q := 15) dX9_sum_14 rfl ?_
    refine x_istore_n (q := 16) dX9_sum_15 rfl rfl (by decide) ?_
    refine x_iinc (q := 19) (v := nI (i + 1)) dX9_sum_16 rfl rfl (nI_inc _) (by decide) ?_
    refine x_goto (q := 4) dX9_sum_19 (by decide) ?_
    exact ih (i + 1) (by omega)

set_option maxHeartbeats 4000000 in
set_option maxRecDepth 100000 in
theorem c_X9_sum {h : HF} (hS : Sh h) : Mc mX9_sum [.ref 39] 170 h (RI (fsum (gi h 39) 8) h) := by
  refine Mc.of (by decide) rfl (Nat.le_of_ble_eq_true rfl) ?_
  refine x_iconst (q := 1) (v := 0) dX9_sum_0 rfl (by decide) ?_
  refine x_istore_n (q := 2) dX9_sum_1 rfl rfl (by decide) ?_
  refine x_iconst (q := 3) (v := 0) dX9_sum_2 rfl (by decide) ?_
  refine x_istore_n (q := 4) dX9_sum_3 rfl rfl (by decide) ?_
  exact lp_sum hS 8 0 (by omega)

theorem fI_tkH {a b z c j : Nat} (hc : c ≠ a) : ∀ (k : Nat) (m : Int32) (h : HF), fI (tkH a b z k m h) c j = fI h c j
  | 0, _, _ => rfl
  | k + 1, m, h => by
    unfold tkH
    split
    · rfl
    · split
      · rfl
      · rw [fI_tkH hc k]; simp only [mixAdd, fI_sJ, fI_sI_ne hc, fI_si]
theorem gi_tkH {a b z c : Nat} (hc : c ≠ 7) (hc2 : c ≠ a + 1) : ∀ (k : Nat) (m : Int32) (h : HF), gi (tkH a b z k m h) c = gi h c
  | 0, _, _ => rfl
  | k + 1, m, h => by
    unfold tkH
    split
    · rfl
    · split
      · rfl
      · rw [gi_tkH hc hc2 k]; simp only [mixAdd, gi_sJ, gi_sI, gi_si_ne hc2, gi_si_ne hc]
def twL (a zl : Nat) (w : Nat → Int32) : Nat → HF → HF
  | 0, h => h
  | i + 1, h => tkH a i zl zl (w i) (twL a zl w i h)
theorem Sh_twL (a zl : Nat) (w : Nat → Int32) : ∀ (i : Nat) {h : HF}, Sh h → Sh (twL a zl w i h)
  | 0, _, hS => hS
  | i + 1, _, hS => Sh_tkH zl _ (Sh_twL a zl w i hS)
theorem fI_twL {a zl c j : Nat} {w : Nat → Int32} (hc : c ≠ a) : ∀ (i : Nat) (h : HF), fI (twL a zl w i h) c j = fI h c j
  | 0, _ => rfl
  | i + 1, h => by rw [twL, fI_tkH hc, fI_twL hc i]
theorem gi_twL {a zl c : Nat} {w : Nat → Int32} (hc : c ≠ 7) (hc2 : c ≠ a + 1) : ∀ (i : Nat) (h : HF), gi (twL a zl w i h) c = gi h c
  | 0, _ => rfl
  | i + 1, h => by rw [twL, gi_tkH hc hc2, gi_twL hc hc2 i]
def vTW (h : HF) (k nl : Nat) : Int32 := if fI h (40 + 3 * k) 1 = 0 then if lkB (gi h 39) (fun b => sU (gi h 6) (gi h 8) (gi h 7) (fI h 5 4) (nI b) nl) 8 = true then -5 else if fI h (41 + 3 * k) 1 + fsum (gi h 39) 8 ≤ 20000 then fI (twL (41 + 3 * k) nl (gi h 39) 8 h) (41 + 3 * k) 1 else -6 else -4
def uTW (h : HF) (k nl : Nat) : HF := if fI h (40 + 3 * k) 1 = 0 then if lkB (gi h 39) (fun b => sU (gi h 6) (gi h 8) (gi h 7) (fI h 5 4) (nI b) nl) 8 = true then h else if fI h (41 + 3 * k) 1 + fsum (gi h 39) 8 ≤ 20000 then twL (41 + 3 * k) nl (gi h 39) 8 h else h else h
theorem Sh_uTW {h : HF} (hS : Sh h) (k nl : Nat) : Sh (uTW h k nl) := by
  unfold uTW
  split
  · split
    · exact hS
    · split
      · exact Sh_twL _ _ _ 8 hS
      · exact hS
  · exact hS
theorem c_X7_lacks_b {h : HF} (hS : Sh h) (z : Nat) (hz : fI h 5 3 = nI z) (hz40 : z ≤ 40) : Mc mX7_lacks [.ref 5, .ref 39] 170 h (RI (b2 (lkB (gi h 39) (fun b => sU (gi h 6) (gi h 8) (gi h 7) (fI h 5 4) (nI b) z) 8)) h) := c_X7_lacks hS z hz hz40
set_option maxHeartbeats 4000000 in
set_option maxRecDepth 100000 in
theorem lp_tw {h : HF} (hS : Sh h) {k : Nat} (hk : k < 24) (nl : Nat) (hnl : fI h 5 3 = nI nl) (hnl40 : nl ≤ 40) : ∀ (m i : Nat), i + m = 8 → Vg mX9_takeWanted none (QM mX9_takeWanted 170 (RI (fI (twL (41 + 3 * k) nl (gi h 39) 8 h) (41 + 3 * k) 1) (twL (41 + 3 * k) nl (gi h 39) 8 h))) 53 [some (.ref 1), some (.ref (40 + 3 * k)), some (.int (nI i))] [] 170 (twL (41 + 3 * k) nl (gi h 39) i h) 0 0 := by
  intro m
  induction m with
  | zero =>
    intro i hi
    obtain rfl : i = 8 := by omega
    refine x_iload_n (q := 54) dX9_takeWanted_53 rfl rfl rfl ?_
    refine x_bipush (q := 56) (v := 8) dX9_takeWanted_54 rfl (by decide) ?_
    refine x_ic_ge (q := 59) (t := 83) dX9_takeWanted_56 rfl (by decide) (fun _ => ?_) (fun c_ => absurd (by decide) c_)
    refine x_aload_n (q := 84) dX9_takeWanted_83 rfl rfl rfl ?_
    refine x_get (q := 87) dX9_takeWanted_84 rfl f_X9_150 (cl_B (Sh_twL _ _ _ 8 hS) hk) rfl (by omega) ?_
    refine x_get (q := 90) dX9_takeWanted_87 rfl f_X9_154 (cl_M (Sh_twL _ _ _ 8 hS) hk) rfl (by omega) ?_
    exact x_iret dX9_takeWanted_90 ⟨_, rfl, by first | rfl | (split <;> rfl)⟩ rfl (Nat.le_refl _) rfl ⟨rfl, rfl⟩
  | succ m ih =>
    intro i hi
    refine x_iload_n (q := 54) dX9_takeWanted_53 rfl rfl rfl ?_
    refine x_bipush (q := 56) (v := 8) dX9_takeWanted_54 rfl (by decide) ?_
    refine x_ic_ge (q := 59) (t := 83) dX9_takeWanted_56 rfl (by decide) (fun c_ => absurd c_ (nI_ge (b := 8) (by omega) (by decide))) (fun _ => ?_)
    refine x_aload_n (q := 60) dX9_takeWanted_59 rfl rfl rfl ?_
    refine x_get (q := 63) dX9_takeWanted_60 rfl f_X9_19 (cl_1 (Sh_twL _ _ _ i hS)) rfl (by decide) ?_
    refine x_iload_n (q := 64) dX9_takeWanted_63 rfl rfl rfl ?_
    refine x_aload_n (q := 65) dX9_takeWanted_64 rfl rfl rfl ?_
    refine x_get (q := 68) dX9_takeWanted_65 rfl f_X9_67 (cl_1 (Sh_twL _ _ _ i hS)) rfl (by decide) ?_
    refine x_iload_n (q := 69) dX9_takeWanted_68 rfl rfl rfl ?_
    refine z_iald (q := 70) (j := i) dX9_takeWanted_69 rfl (cl_39 (Sh_twL _ _ _ i hS)) (by omega) (by decide) (by decide) ?_
    rw [gi_twL (show (39 : Nat) ≠ 7 by decide) (by omega)]
    refine x_aload_n (q := 71) dX9_takeWanted_70 rfl rfl rfl ?_
    refine x_get (q := 74) dX9_takeWanted_71 rfl f_X9_150 (cl_B (Sh_twL _ _ _ i hS) hk) rfl (by omega) ?_
    refine y_cvV (q := 77) dX9_takeWanted_74 rfl l_X9_300 (c_X7_take (Sh_twL _ _ _ i hS) (isM_M hk) i _ (by omega) nl (by rw [fI_twL (by omega)]; exact hnl) hnl40) rfl rfl (cl_5 (Sh_twL _ _ _ i hS)) (by decide) rfl rfl rfl rfl ?_
    refine x_iinc (q := 80) (v := nI (i + 1)) dX9_takeWanted_77 rfl rfl (nI_inc _) (by decide) ?_
    refine x_goto (q := 53) dX9_takeWanted_80 (by decide) ?_
    exact ih (i + 1) (by omega)

set_option maxHeartbeats 4000000 in
set_option maxRecDepth 100000 in
theorem c_X9_takeWanted {h : HF} (hS : Sh h) {k : Nat} (hk : k < 24) (nl : Nat) (hnl : fI h 5 3 = nI nl) (hnl40 : nl ≤ 40) : Mc mX9_takeWanted [.ref 1, .ref (40 + 3 * k)] 170 h (RI (vTW h k nl) (uTW h k nl)) := by
  refine Mc.of (by decide) rfl (Nat.le_of_ble_eq_true rfl) ?_
  refine x_aload_n (q := 1) dX9_takeWanted_0 rfl rfl rfl ?_
  refine x_get (q := 4) dX9_takeWanted_1 rfl f_X9_146 (cl_B hS hk) rfl (by omega) ?_
  refine x_if_eq (q := 7) (t := 10) dX9_takeWanted_4 rfl (by decide) (fun c_4 => ?_) (fun c_4 => ?_)
  · refine x_aload_n (q := 11) dX9_takeWanted_10 rfl rfl rfl ?_
    refine x_get (q := 14) dX9_takeWanted_11 rfl f_X9_19 (cl_1 hS) rfl (by decide) ?_
    refine x_aload_n (q := 15) dX9_takeWanted_14 rfl rfl rfl ?_
    refine x_get (q := 18) dX9_takeWanted_15 rfl f_X9_67 (cl_1 hS) rfl (by decide) ?_
    refine y_cvI (q := 21) dX9_takeWanted_18 rfl l_X9_296 (c_X7_lacks_b hS nl hnl hnl40) rfl rfl (cl_5 hS) (by decide) rfl rfl rfl rfl ?_
    refine x_if_eq (q := 24) (t := 27) dX9_takeWanted_21 rfl (by decide) (fun c_21 => ?_) (fun c_21 => ?_)
    · replace c_21 := b2n c_21
      refine x_aload_n (q := 28) dX9_takeWanted_27 rfl rfl rfl ?_
      refine x_get (q := 31) dX9_takeWanted_28 rfl f_X9_150 (cl_B hS hk) rfl (by omega) ?_
      refine x_get (q := 34) dX9_takeWanted_31 rfl f_X9_154 (cl_M hS hk) rfl (by omega) ?_
      refine x_aload_n (q := 35) dX9_takeWanted_34 rfl rfl rfl ?_
      refine x_get (q := 38) dX9_takeWanted_35 rfl f_X9_67 (cl_1 hS) rfl (by decide) ?_
      refine y_csI (q := 41) dX9_takeWanted_38 rfl l_X9_139 (c_X9_sum hS) rfl rfl rfl rfl rfl rfl ?_
      refine x_iadd (q := 42) dX9_takeWanted_41 rfl ?_
      refine x_sipush (q := 45) (v := 20000) dX9_takeWanted_42 rfl (by decide) ?_
      refine x_ic_le (q := 48) (t := 51) dX9_takeWanted_45 rfl (by decide) (fun c_45 => ?_) (fun c_45 => ?_)
      · refine x_iconst (q := 52) (v := 0) dX9_takeWanted_51 rfl (by decide) ?_
        refine x_istore_n (q := 53) dX9_takeWanted_52 rfl rfl (by decide) ?_
        have e1 : vTW h k nl = fI (twL (41 + 3 * k) nl (gi h 39) 8 h) (41 + 3 * k) 1 := by simp only [vTW, if_pos c_4, c_21, if_pos c_45]; rfl
        have e2 : uTW h k nl = twL (41 + 3 * k) nl (gi h 39) 8 h := by simp only [uTW, if_pos c_4, c_21, if_pos c_45]; rfl
        rw [e1, e2]; exact lp_tw hS hk nl hnl hnl40 8 0 (by omega)
      · refine x_bipush (q := 50) (v := -6) dX9_takeWanted_48 rfl (by decide) ?_
        exact x_iret dX9_takeWanted_50 ⟨_, rfl, by first | rfl | (split <;> rfl)⟩ rfl (Nat.le_refl _) rfl ⟨by simp [vTW, c_4, c_21, c_45], by simp [uTW, c_4, c_21, c_45]⟩
    · replace c_21 := b2y c_21
      refine x_bipush (q := 26) (v := -5) dX9_takeWanted_24 rfl (by decide) ?_
      exact x_iret dX9_takeWanted_26 ⟨_, rfl, by first | rfl | (split <;> rfl)⟩ rfl (Nat.le_refl _) rfl ⟨by simp [vTW, c_4, c_21], by simp [uTW, c_4, c_21]⟩
  · refine x_bipush (q := 9) (v := -4) dX9_takeWanted_7 rfl (by decide) ?_
    exact x_iret dX9_takeWanted_9 ⟨_, rfl, by first | rfl | (split <;> rfl)⟩ rfl (Nat.le_refl _) rfl ⟨by simp [vTW, c_4], by simp [uTW, c_4]⟩

def hW0 (h : HF) (j : Nat) (n : Int32) : HF := si h 39 (upd (filF (gi h 39) 0 8) j n)
def vWeigh (h : HF) (t b n : Int32) (nt nb nl : Nat) : Int32 := if ltB t (nI nt) = true then if ltB b (nI nb) = true then if inB n 1 20000 = true then vTW (hW0 h b.toNatClampNeg n) t.toNatClampNeg nl else -3 else -2 else -2
def uWeigh (h : HF) (t b n : Int32) (nt nb nl : Nat) : HF := if ltB t (nI nt) = true then if ltB b (nI nb) = true then if inB n 1 20000 = true then uTW (hW0 h b.toNatClampNeg n) t.toNatClampNeg nl else h else h else h
set_option maxHeartbeats 4000000 in
set_option maxRecDepth 100000 in
theorem c_X9_weigh {h : HF} (hS : Sh h) (t b n : Int32) (nt : Nat) (hnt : fI h 1 4 = nI nt) (hnt24 : nt ≤ 24) (nb : Nat) (hnb : fI h 2 2 = nI nb) (hnb8 : nb ≤ 8) (nl : Nat) (hnl : fI h 5 3 = nI nl) (hnl40 : nl ≤ 40) : Mc mX9_weigh [.ref 1, .int t, .int b, .int n] 170 h (RI (vWeigh h t b n nt nb nl) (uWeigh h t b n nt nb nl)) := by
  refine Mc.of (by decide) rfl (Nat.le_of_ble_eq_true rfl) ?_
  refine x_aload_n (q := 1) dX9_weigh_0 rfl rfl rfl ?_
  refine x_iload_n (q := 2) dX9_weigh_1 rfl rfl rfl ?_
  refine y_cvI (q := 5) dX9_weigh_2 rfl l_X9_126 (c_X9_hasBatch_b hS _ nt hnt) rfl rfl (cl_1 hS) (by decide) rfl rfl rfl rfl ?_
  refine x_if_eq (q := 8) (t := 19) dX9_weigh_5 rfl (by decide) (fun c_5 => ?_) (fun c_5 => ?_)
  · replace c_5 := b2n c_5
    refine x_bipush (q := 21) (v := -2) dX9_weigh_19 rfl (by decide) ?_
    exact x_iret dX9_weigh_21 ⟨_, rfl, by first | rfl | (split <;> rfl)⟩ rfl (Nat.le_refl _) rfl ⟨by simp [vWeigh, c_5], by simp [uWeigh, c_5]⟩
  · replace c_5 := b2y c_5
    refine x_aload_n (q := 9) dX9_weigh_8 rfl rfl rfl ?_
    refine x_get (q := 12) dX9_weigh_9 rfl f_X9_12 (cl_1 hS) rfl (by decide) ?_
    refine x_iload_n (q := 13) dX9_weigh_12 rfl rfl rfl ?_
    refine y_cvI (q := 16) dX9_weigh_13 rfl l_X9_87 (c_X5_has_b hS _ nb hnb) rfl rfl (cl_2 hS) (by decide) rfl rfl rfl rfl ?_
    refine x_if_ne (q := 19) (t := 22) dX9_weigh_16 rfl (by decide) (fun c_16 => ?_) (fun c_16 => ?_)
    · replace c_16 := b2y c_16
      refine x_iload_n (q := 23) dX9_weigh_22 rfl rfl rfl ?_
      refine x_iconst (q := 24) (v := 1) dX9_weigh_23 rfl (by decide) ?_
      refine x_sipush (q := 27) (v := 20000) dX9_weigh_24 rfl (by decide) ?_
      refine y_csI (q := 30) dX9_weigh_27 rfl l_X9_97 (c_X9_within_b hS _ _ _) rfl rfl rfl rfl rfl rfl ?_
      refine x_if_ne (q := 33) (t := 36) dX9_weigh_30 rfl (by decide) (fun c_30 => ?_) (fun c_30 => ?_)
      · replace c_30 := b2y c_30
        obtain ⟨k, hk0, rfl⟩ := ltB_of (by omega) c_5
        obtain ⟨j, hj, rfl⟩ := ltB_of (by omega) c_16
        have hk : k < 24 := by omega
        refine x_aload_n (q := 37) dX9_weigh_36 rfl rfl rfl ?_
        refine x_get (q := 40) dX9_weigh_37 rfl f_X9_67 (cl_1 hS) rfl (by decide) ?_
        refine x_iconst (q := 41) (v := 0) dX9_weigh_40 rfl (by decide) ?_
        refine y_csV (q := 44) dX9_weigh_41 rfl l_X9_129 (c_J7_fill_53178 hS (a := 39) (N := 8) (by decide) rfl (by decide) 0) rfl rfl rfl rfl rfl rfl ?_
        refine Vg.nm (fun h1 eh1 => ?_)
        have hS1 : Sh h1 := by rw [eh1]; exact hS.si _ _
        refine x_aload_n (q := 45) dX9_weigh_44 rfl rfl rfl ?_
        refine x_get (q := 48) dX9_weigh_45 rfl f_X9_67 (cl_1 hS1) rfl (by decide) ?_
        refine x_iload_n (q := 49) dX9_weigh_48 rfl rfl rfl ?_
        refine x_iload_n (q := 50) dX9_weigh_49 rfl rfl rfl ?_
        refine z_iast (q := 51) (j := j) dX9_weigh_50 rfl (cl_39 hS1) (by omega) (by decide) (by decide) ?_
        refine Vg.nm (fun h2 eh2 => ?_)
        have hS2 : Sh h2 := by rw [eh2]; exact hS1.si _ _
        have e9 : h2 = hW0 h j n := by rw [eh2, eh1, si_si, gi_si_eq hS (by decide) (by decide) rfl]; rfl
        have hnl2 : fI h2 5 3 = nI nl := by rw [e9, hW0, fI_si]; exact hnl
        refine x_aload_n (q := 52) dX9_weigh_51 rfl rfl rfl ?_
        refine x_aload_n (q := 53) dX9_weigh_52 rfl rfl rfl ?_
        refine x_get (q := 56) dX9_weigh_53 rfl f_X9_32 (cl_1 hS2) rfl (by decide) ?_
        refine x_iload_n (q := 57) dX9_weigh_56 rfl rfl rfl ?_
        refine z_aald3 (q := 58) (j := k) dX9_weigh_57 rfl (cl_16 hS2) hk (by decide) ?_
        refine y_cvI (q := 61) dX9_weigh_58 rfl l_X9_135 (c_X9_takeWanted hS2 hk nl hnl2 hnl40) rfl rfl (cl_1 hS2) (by decide) rfl rfl rfl rfl ?_
        refine Vg.nm (fun h3 eh3 => ?_)
        have hS3 : Sh h3 := by rw [eh3]; exact Sh_uTW hS2 _ _
        exact x_iret dX9_weigh_61 ⟨_, rfl, by first | rfl | (split <;> rfl)⟩ rfl (Nat.le_refl _) rfl ⟨by simp [vWeigh, c_5, c_16, c_30, nI_clamp (show j < 2 ^ 31 by omega), nI_clamp (show k < 2 ^ 31 by omega), e9], by rw [eh3]; simp [uWeigh, c_5, c_16, c_30, nI_clamp (show j < 2 ^ 31 by omega), nI_clamp (show k < 2 ^ 31 by omega), e9]⟩
      · replace c_30 := b2n c_30
        refine x_bipush (q := 35) (v := -3) dX9_weigh_33 rfl (by decide) ?_
        exact x_iret dX9_weigh_35 ⟨_, rfl, by first | rfl | (split <;> rfl)⟩ rfl (Nat.le_refl _) rfl ⟨by simp [vWeigh, c_5, c_16, c_30], by simp [uWeigh, c_5, c_16, c_30]⟩
    · replace c_16 := b2n c_16
      refine x_bipush (q := 21) (v := -2) dX9_weigh_19 rfl (by decide) ?_
      exact x_iret dX9_weigh_21 ⟨_, rfl, by first | rfl | (split <;> rfl)⟩ rfl (Nat.le_refl _) rfl ⟨by simp [vWeigh, c_5, c_16], by simp [uWeigh, c_5, c_16]⟩

def hB0 (h : HF) (r : Nat) (n : Int32) : HF := si h 39 (capF (gi h 39) (fun j => n * gi h 14 (r * 8 + j)) 8)
def vBr2 (h : HF) (k nl : Nat) : Int32 := if fsum (gi h 39) 8 = 0 then -4 else vTW h k nl
def uBr2 (h : HF) (k nl : Nat) : HF := if fsum (gi h 39) 8 = 0 then h else uTW h k nl
theorem Sh_uBr2 {h : HF} (hS : Sh h) (k nl : Nat) : Sh (uBr2 h k nl) := by
  unfold uBr2
  split
  · exact hS
  · exact Sh_uTW hS _ _
def vBrew (h : HF) (t r n : Int32) (nt nr nl : Nat) : Int32 := if ltB t (nI nt) = true then if ltB r (nI nr) = true then if inB n 1 100 = true then vBr2 (hB0 h r.toNatClampNeg n) t.toNatClampNeg nl else -3 else -2 else -2
def uBrew (h : HF) (t r n : Int32) (nt nr nl : Nat) : HF := if ltB t (nI nt) = true then if ltB r (nI nr) = true then if inB n 1 100 = true then uBr2 (hB0 h r.toNatClampNeg n) t.toNatClampNeg nl else h else h else h
set_option maxHeartbeats 4000000 in
set_option maxRecDepth 100000 in
theorem lp_brew2 {h : HF} (hS : Sh h) {k : Nat} (hk : k < 24) (nl : Nat) (hnl : fI h 5 3 = nI nl) (hnl40 : nl ≤ 40) (r : Nat) (n : Int32) : Vg mX9_brew none (QM mX9_brew 170 (RI (vBr2 h k nl) (uBr2 h k nl))) 70 [some (.ref 1), some (.int (nI k)), some (.int (nI r)), some (.int n), none] [] 170 h 0 0 := by
  refine x_aload_n (q := 71) dX9_brew_70 rfl rfl rfl ?_
  refine x_get (q := 74) dX9_brew_71 rfl f_X9_67 (cl_1 hS) rfl (by decide) ?_
  refine y_csI (q := 77) dX9_brew_74 rfl l_X9_139 (c_X9_sum hS) rfl rfl rfl rfl rfl rfl ?_
  refine x_if_ne (q := 80) (t := 85) dX9_brew_77 rfl (by decide) (fun c_77 => ?_) (fun c_77 => ?_)
  · refine x_aload_n (q := 86) dX9_brew_85 rfl rfl rfl ?_
    refine x_aload_n (q := 87) dX9_brew_86 rfl rfl rfl ?_
    refine x_get (q := 90) dX9_brew_87 rfl f_X9_32 (cl_1 hS) rfl (by decide) ?_
    refine x_iload_n (q := 91) dX9_brew_90 rfl rfl rfl ?_
    refine z_aald3 (q := 92) (j := k) dX9_brew_91 rfl (cl_16 hS) hk (by decide) ?_
    refine y_cvI (q := 95) dX9_brew_92 rfl l_X9_135 (c_X9_takeWanted hS hk nl hnl hnl40) rfl rfl (cl_1 hS) (by decide) rfl rfl rfl rfl ?_
    refine Vg.nm (fun h1 eh1 => ?_)
    have hS1 : Sh h1 := by rw [eh1]; exact Sh_uTW hS _ _
    exact x_iret dX9_brew_95 ⟨_, rfl, by first | rfl | (split <;> rfl)⟩ rfl (Nat.le_refl _) rfl ⟨by simp [vBr2, c_77], by rw [eh1]; simp [uBr2, c_77]⟩
  · refine x_bipush (q := 82) (v := -4) dX9_brew_80 rfl (by decide) ?_
    refine x_goto (q := 95) dX9_brew_82 (by decide) ?_
    exact x_iret dX9_brew_95 ⟨_, rfl, by first | rfl | (split <;> rfl)⟩ rfl (Nat.le_refl _) rfl ⟨by simp [vBr2, c_77], by simp [uBr2, c_77]⟩
set_option maxHeartbeats 4000000 in
set_option maxRecDepth 100000 in
theorem lp_brew1 {h : HF} (hS : Sh h) {k : Nat} (hk : k < 24) (nl : Nat) (hnl : fI h 5 3 = nI nl) (hnl40 : nl ≤ 40) (r : Nat) (n : Int32) (hr : r < 12) : ∀ (m i : Nat), i + m = 8 → Vg mX9_brew none (QM mX9_brew 170 (RI (vBr2 (hB0 h r n) k nl) (uBr2 (hB0 h r n) k nl))) 38 [some (.ref 1), some (.int (nI k)), some (.int (nI r)), some (.int n), some (.int (nI i))] [] 170 (si h 39 (capF (gi h 39) (fun j => n * gi h 14 (r * 8 + j)) i)) 0 0 := by
  intro m
  induction m with
  | zero =>
    intro i hi
    obtain rfl : i = 8 := by omega
    refine x_iload (q := 40) dX9_brew_38 rfl rfl ?_
    refine x_bipush (q := 42) (v := 8) dX9_brew_40 rfl (by decide) ?_
    refine x_ic_ge (q := 45) (t := 70) dX9_brew_42 rfl (by decide) (fun _ => ?_) (fun c_ => absurd (by decide) c_)
    exact Vg.weak (lp_brew2 (hS.si 39 _) hk nl (by rw [fI_si]; exact hnl) hnl40 r n) (by repeat first | exact trivial | refine ⟨rfl, ?_⟩)
  | succ m ih =>
    intro i hi
    refine x_iload (q := 40) dX9_brew_38 rfl rfl ?_
    refine x_bipush (q := 42) (v := 8) dX9_brew_40 rfl (by decide) ?_
    refine x_ic_ge (q := 45) (t := 70) dX9_brew_42 rfl (by decide) (fun c_ => absurd c_ (nI_ge (b := 8) (by omega) (by decide))) (fun _ => ?_)
    refine x_aload_n (q := 46) dX9_brew_45 rfl rfl rfl ?_
    refine x_get (q := 49) dX9_brew_46 rfl f_X9_67 (cl_1 (hS.si 39 _)) rfl (by decide) ?_
    refine x_iload (q := 51) dX9_brew_49 rfl rfl ?_
    refine x_iload_n (q := 52) dX9_brew_51 rfl rfl rfl ?_
    refine x_aload_n (q := 53) dX9_brew_52 rfl rfl rfl ?_
    refine x_get (q := 56) dX9_brew_53 rfl f_X9_26 (cl_1 (hS.si 39 _)) rfl (by decide) ?_
    refine x_iload_n (q := 57) dX9_brew_56 rfl rfl rfl ?_
    refine x_iload (q := 59) dX9_brew_57 rfl rfl ?_
    refine y_cvI (q := 62) dX9_brew_59 rfl l_X9_123 (c_X1_need (hS.si 39 _) r i hr (by omega)) rfl rfl (cl_9 (hS.si 39 _)) (by decide) rfl rfl rfl rfl ?_
    refine x_imul (q := 63) dX9_brew_62 rfl ?_
    refine z_iast (q := 64) (j := i) dX9_brew_63 rfl (cl_39 (hS.si 39 _)) (by omega) (by decide) (by decide) ?_
    refine Vg.nm (fun h1 eh1 => ?_)
    have hS1 : Sh h1 := by rw [eh1]; exact (hS.si 39 _).si _ _
    refine x_iinc (q := 67) (v := nI (i + 1)) dX9_brew_64 rfl rfl (nI_inc _) (by decide) ?_
    refine x_goto (q := 38) dX9_brew_67 (by decide) ?_
    have e9 : h1 = (si h 39 (capF (gi h 39) (fun j => n * gi h 14 (r * 8 + j)) (i + 1))) := by rw [eh1, si_si, gi_si_eq hS (by decide) (by decide) rfl, gi_si_ne (show (14 : Nat) ≠ 39 by decide)]; exact congrArg _ (capF_s (gi h 39) (fun j => n * gi h 14 (r * 8 + j)) i)
    rw [e9]; exact ih (i + 1) (by omega)

set_option maxHeartbeats 4000000 in
set_option maxRecDepth 100000 in
theorem c_X9_brew {h : HF} (hS : Sh h) (t b n : Int32) (nt : Nat) (hnt : fI h 1 4 = nI nt) (hnt24 : nt ≤ 24) (nr : Nat) (hnr : fI h 9 6 = nI nr) (hnr12 : nr ≤ 12) (nl : Nat) (hnl : fI h 5 3 = nI nl) (hnl40 : nl ≤ 40) : Mc mX9_brew [.ref 1, .int t, .int b, .int n] 170 h (RI (vBrew h t b n nt nr nl) (uBrew h t b n nt nr nl)) := by
  refine Mc.of (by decide) rfl (Nat.le_of_ble_eq_true rfl) ?_
  refine x_aload_n (q := 1) dX9_brew_0 rfl rfl rfl ?_
  refine x_iload_n (q := 2) dX9_brew_1 rfl rfl rfl ?_
  refine y_cvI (q := 5) dX9_brew_2 rfl l_X9_126 (c_X9_hasBatch_b hS _ nt hnt) rfl rfl (cl_1 hS) (by decide) rfl rfl rfl rfl ?_
  refine x_if_eq (q := 8) (t := 19) dX9_brew_5 rfl (by decide) (fun c_5 => ?_) (fun c_5 => ?_)
  · replace c_5 := b2n c_5
    refine x_bipush (q := 21) (v := -2) dX9_brew_19 rfl (by decide) ?_
    exact x_iret dX9_brew_21 ⟨_, rfl, by first | rfl | (split <;> rfl)⟩ rfl (Nat.le_refl _) rfl ⟨by simp [vBrew, c_5], by simp [uBrew, c_5]⟩
  · replace c_5 := b2y c_5
    refine x_aload_n (q := 9) dX9_brew_8 rfl rfl rfl ?_
    refine x_get (q := 12) dX9_brew_9 rfl f_X9_26 (cl_1 hS) rfl (by decide) ?_
    refine x_iload_n (q := 13) dX9_brew_12 rfl rfl rfl ?_
    refine y_cvI (q := 16) dX9_brew_13 rfl l_X9_118 (c_X1_has_b hS _ nr hnr) rfl rfl (cl_9 hS) (by decide) rfl rfl rfl rfl ?_
    refine x_if_ne (q := 19) (t := 22) dX9_brew_16 rfl (by decide) (fun c_16 => ?_) (fun c_16 => ?_)
    · replace c_16 := b2y c_16
      refine x_iload_n (q := 23) dX9_brew_22 rfl rfl rfl ?_
      refine x_iconst (q := 24) (v := 1) dX9_brew_23 rfl (by decide) ?_
      refine x_bipush (q := 26) (v := 100) dX9_brew_24 rfl (by decide) ?_
      refine y_csI (q := 29) dX9_brew_26 rfl l_X9_97 (c_X9_within_b hS _ _ _) rfl rfl rfl rfl rfl rfl ?_
      refine x_if_ne (q := 32) (t := 35) dX9_brew_29 rfl (by decide) (fun c_29 => ?_) (fun c_29 => ?_)
      · replace c_29 := b2y c_29
        obtain ⟨k, hk0, rfl⟩ := ltB_of (by omega) c_5
        obtain ⟨j, hj, rfl⟩ := ltB_of (by omega) c_16
        have hk : k < 24 := by omega
        refine x_iconst (q := 36) (v := 0) dX9_brew_35 rfl (by decide) ?_
        refine x_istore (q := 38) dX9_brew_36 rfl (by decide) ?_
        have e1 : vBrew h (nI k) (nI j) n nt nr nl = vBr2 (hB0 h j n) k nl := by simp only [vBrew, c_5, c_16, c_29, nI_clamp (show j < 2 ^ 31 by omega), nI_clamp (show k < 2 ^ 31 by omega), if_true]
        have e2 : uBrew h (nI k) (nI j) n nt nr nl = uBr2 (hB0 h j n) k nl := by simp only [uBrew, c_5, c_16, c_29, nI_clamp (show j < 2 ^ 31 by omega), nI_clamp (show k < 2 ^ 31 by omega), if_true]
        rw [e1, e2]
        have t9 := lp_brew1 hS hk nl hnl hnl40 j n (by omega) 8 0 (by omega)
        rw [capF_0, si_gi] at t9
        exact t9
      · replace c_29 := b2n c_29
        refine x_bipush (q := 34) (v := -3) dX9_brew_32 rfl (by decide) ?_
        exact x_iret dX9_brew_34 ⟨_, rfl, by first | rfl | (split <;> rfl)⟩ rfl (Nat.le_refl _) rfl ⟨by simp [vBrew, c_5, c_16, c_29], by simp [uBrew, c_5, c_16, c_29]⟩
    · replace c_16 := b2n c_16
      refine x_bipush (q := 21) (v := -2) dX9_brew_19 rfl (by decide) ?_
      exact x_iret dX9_brew_21 ⟨_, rfl, by first | rfl | (split <;> rfl)⟩ rfl (Nat.le_refl _) rfl ⟨by simp [vBrew, c_5, c_16], by simp [uBrew, c_5, c_16]⟩

