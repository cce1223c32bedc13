theorem tkP_PS {B L : Nat → Int32} {day b : Int32} {z : Nat} : ∀ (k : Nat) (m : Int32) (S : Nat → Int32) (x : Int64), PS S z → -1000000000 ≤ m.toInt → m.toInt ≤ 1000000000 → PS (tkP B L day b z k m S x).1 z
  | 0, _, _, _, hS, _, _ => hS
  | k + 1, m, S, x, hS, h0, h1 => by
    rw [tkP]
    by_cases hm : m ≤ 0
    · rw [if_pos hm]; exact hS
    · rw [if_neg hm]
      have hmp : 0 < m.toInt := Int32.lt_iff_toInt_lt.mp (Int32.not_le.mp hm)
      cases hn : nxo B L S day b z with
      | none => exact hS
      | some j =>
        obtain ⟨hj, hu⟩ := nxo_lt hn
        have hsj := hS j hj
        have hg := minI_i (S j) m
        have hgr : 0 ≤ (minI (S j) m).toInt ∧ (minI (S j) m).toInt ≤ (S j).toInt ∧ (minI (S j) m).toInt ≤ m.toInt := by rw [hg]; split <;> omega
        have e1 : (S j - minI (S j) m).toInt = (S j).toInt - (minI (S j) m).toInt := tI_sub (by omega) (by omega) (by omega) (by omega)
        have e2 : (m - minI (S j) m).toInt = m.toInt - (minI (S j) m).toInt := tI_sub (by omega) (by omega) (by omega) (by omega)
        exact tkP_PS k _ _ _ (PS_upd hS (by omega) (by omega)) (by omega) (by omega)
theorem sU_oth {B L S S' : Nat → Int32} {day b : Int32} : ∀ {n : Nat}, (∀ l, l < n → B l = b → S' l = S l) → sU B L S' day b n = sU B L S day b n
  | 0, _ => rfl
  | n + 1, h => by
    have ih := sU_oth (L := L) (day := day) (n := n) (fun l hl => h l (by omega))
    by_cases hb : B n = b
    · have e := h n (by omega) hb
      simp only [sU, us, ih, e]
    · rw [sU_f (fun z => hb z.1), sU_f (fun z => hb z.1), ih]
theorem tkP_oth {B L : Nat → Int32} {day b : Int32} {z l : Nat} (hl : ¬ B l = b) : ∀ (k : Nat) (m : Int32) (S : Nat → Int32) (x : Int64), (tkP B L day b z k m S x).1 l = S l
  | 0, _, _, _ => rfl
  | k + 1, m, S, x => by
    rw [tkP]
    by_cases hm : m ≤ 0
    · rw [if_pos hm]
    · rw [if_neg hm]
      cases hn : nxo B L S day b z with
      | none => rfl
      | some j =>
        have hu := (nxo_lt hn).2
        have : l ≠ j := fun e => hl (by rw [e]; exact hu.1)
        show (tkP B L day b z k _ _ _).1 l = S l
        rw [tkP_oth hl k]; simp only [upd, if_neg this]
def mTk (h : HF) (t b : Nat) (n : Int32) (nl : Nat) : HF := si (hT h t (tkP (gi h 135) (gi h 137) (fI h 132 0) (nI b) nl nl n (gi h 136) (gl h 145 t)).1 (tkP (gi h 135) (gi h 137) (fI h 132 0) (nI b) nl nl n (gi h 136) (gl h 145 t)).2) 144 (upd (gi h 144) (8 * t + b) (gi h 144 (8 * t + b) + n))
theorem Sh.mTk {h : HF} (hS : Sh h) (t b : Nat) (n : Int32) (nl : Nat) : Sh (mTk h t b n nl) := (hS.hT _ _ _).si _ _
theorem mTk_fI (h : HF) (t b : Nat) (n : Int32) (nl a k : Nat) : fI (mTk h t b n nl) a k = fI h a k := by rw [mTk, fI_si, hT_fI]
theorem mTk_gi {h : HF} {t b : Nat} {n : Int32} {nl a : Nat} (h1 : a ≠ 136) (h2 : a ≠ 144) : gi (mTk h t b n nl) a = gi h a := by rw [mTk, gi_si_ne h2, hT_gi h1]
theorem mTk_136 {h : HF} (hS : Sh h) (t b : Nat) (n : Int32) (nl : Nat) : gi (mTk h t b n nl) 136 = (tkP (gi h 135) (gi h 137) (fI h 132 0) (nI b) nl nl n (gi h 136) (gl h 145 t)).1 := by rw [mTk, gi_si_ne (by decide), hT_136 hS]
def mtL (t nl : Nat) (c w : Nat → Int32) : Nat → HF → HF
  | 0, h => h
  | i + 1, h => if 0 < c i then mTk (mtL t nl c w i h) t i (w i) nl else mtL t nl c w i h
theorem Sh_mtL (t nl : Nat) (c w : Nat → Int32) : ∀ (i : Nat) {h : HF}, Sh h → Sh (mtL t nl c w i h)
  | 0, _, hS => hS
  | i + 1, h, hS => by
    rw [mtL]
    split
    · exact (Sh_mtL t nl c w i hS).mTk _ _ _ _
    · exact Sh_mtL t nl c w i hS
theorem mtL_fI (t nl : Nat) (c w : Nat → Int32) (a k : Nat) : ∀ (i : Nat) (h : HF), fI (mtL t nl c w i h) a k = fI h a k
  | 0, _ => rfl
  | i + 1, h => by
    rw [mtL]
    split
    · rw [mTk_fI, mtL_fI t nl c w a k i]
    · exact mtL_fI t nl c w a k i h
theorem mtL_gi {t nl : Nat} {c w : Nat → Int32} {a : Nat} (h1 : a ≠ 136) (h2 : a ≠ 144) : ∀ (i : Nat) (h : HF), gi (mtL t nl c w i h) a = gi h a
  | 0, _ => rfl
  | i + 1, h => by
    rw [mtL]
    split
    · rw [mTk_gi h1 h2, mtL_gi h1 h2 i]
    · exact mtL_gi h1 h2 i h
theorem mtL_ok {t nl : Nat} {c w : Nat → Int32} {h : HF} (hS : Sh h) (hps : PS (gi h 136) nl) (hw : ∀ i, i < 8 → -1000000000 ≤ (w i).toInt ∧ (w i).toInt ≤ 1000000000) : ∀ (i : Nat), i ≤ 8 → PS (gi (mtL t nl c w i h) 136) nl ∧ ∀ b : Nat, i ≤ b → b < 8 → sU (gi h 135) (gi h 137) (gi (mtL t nl c w i h) 136) (fI h 132 0) (nI b) nl = sU (gi h 135) (gi h 137) (gi h 136) (fI h 132 0) (nI b) nl
  | 0, _ => ⟨hps, fun _ _ _ => rfl⟩
  | i + 1, hi => by
    obtain ⟨p1, p2⟩ := mtL_ok hS hps hw (t := t) (c := c) i (by omega)
    rw [mtL]
    split
    · have hS1 := Sh_mtL t nl c w i hS
      rw [mTk_136 hS1]
      refine ⟨tkP_PS _ _ _ _ p1 (hw i (by omega)).1 (hw i (by omega)).2, fun b h1 h2 => ?_⟩
      rw [← p2 b (by omega) h2]
      refine sU_oth (fun l _ hb => ?_)
      rw [mtL_gi (by decide) (by decide)]
      refine tkP_oth (fun z => ?_) _ _ _ _
      have := (nI_eq (by omega) (by omega)).mp (hb.symm.trans z)
      omega
    · exact ⟨p1, fun b h1 h2 => p2 b (by omega) h2⟩
theorem inB_lo {v a b : Int32} (h : inB v a b = true) : a.toInt ≤ v.toInt ∧ v.toInt ≤ b.toInt := by
  simp only [inB, Bool.and_eq_true, decide_eq_true_eq] at h
  exact ⟨Int32.le_iff_toInt_le.mp h.1, Int32.le_iff_toInt_le.mp h.2⟩
theorem lkB_no {w f : Nat → Int32} : ∀ {n : Nat}, lkB w f n = false → ∀ b, b < n → w b ≤ f b ∨ w b ≤ 0
  | 0, _, b, hb => by omega
  | n + 1, e, b, hb => by
    simp only [lkB, Bool.or_eq_false_iff, Bool.and_eq_false_iff, decide_eq_false_iff_not] at e
    by_cases h : b = n
    · subst h; exact e.2.elim (fun z => Or.inr (Int32.not_lt.mp z)) (fun z => Or.inl (Int32.not_lt.mp z))
    · exact lkB_no e.1 b (by omega)
def vmW2 (h : HF) (k j : Nat) (n : Int32) (nl : Nat) : Int32 := if gi h 146 k = 0 then if n ≤ (sU (gi h 135) (gi h 137) (gi h 136) (fI h 132 0) (nI j) nl) then if usum (gi h 144) k 8 + n ≤ 20000 then usum (gi (mTk h k j n nl) 144) k 8 else -6 else -5 else -4
def umW2 (h : HF) (k j : Nat) (n : Int32) (nl : Nat) : HF := if gi h 146 k = 0 then if n ≤ (sU (gi h 135) (gi h 137) (gi h 136) (fI h 132 0) (nI j) nl) then if usum (gi h 144) k 8 + n ≤ 20000 then mTk h k j n nl else h else h else h
def vmW (h : HF) (t b n : Int32) (nt nb nl : Nat) : Int32 := if ltB t (nI nt) = true then if ltB b (nI nb) = true then if inB n 1 20000 = true then vmW2 h t.toNatClampNeg b.toNatClampNeg n nl else -3 else -2 else -2
def umW (h : HF) (t b n : Int32) (nt nb nl : Nat) : HF := if ltB t (nI nt) = true then if ltB b (nI nb) = true then if inB n 1 20000 = true then umW2 h t.toNatClampNeg b.toNatClampNeg n nl else h else h else h
set_option maxHeartbeats 4000000 in
set_option maxRecDepth 100000 in
theorem c_X10_weigh {h : HF} (hS : Sh h) (t b n : Int32) (nt : Nat) (hnt : fI h 132 15 = nI nt) (hnt24 : nt ≤ 24) (nb : Nat) (hnb : fI h 132 1 = nI nb) (hnb8 : nb ≤ 8) (nl : Nat) (hnl : fI h 132 4 = nI nl) (hnl40 : nl ≤ 40) (hps : PS (gi h 136) nl) : Mc mX10_weigh [.ref 132, .int t, .int b, .int n] 170 h (RI (vmW h t b n nt nb nl) (umW h t b n nt nb nl)) := by
  refine Mc.of (by decide) rfl (Nat.le_of_ble_eq_true rfl) ?_
  refine x_aload_n (q := 1) dX10_weigh_0 rfl rfl rfl ?_
  refine x_iload_n (q := 2) dX10_weigh_1 rfl rfl rfl ?_
  refine y_cvI (q := 5) dX10_weigh_2 rfl l_X10_165 (c_X10_isBatch hS _ nt hnt hnt24) rfl rfl (cl_132 hS) (by decide) rfl rfl rfl rfl ?_
  refine x_if_eq (q := 8) (t := 16) dX10_weigh_5 rfl (by decide) (fun c_5 => ?_) (fun c_5 => ?_)
  · replace c_5 := b2n c_5
    refine x_bipush (q := 18) (v := -2) dX10_weigh_16 rfl (by decide) ?_
    exact x_iret dX10_weigh_18 ⟨_, rfl, by first | rfl | (split <;> rfl)⟩ rfl (Nat.le_refl _) rfl ⟨by simp [vmW, c_5], by simp [umW, c_5]⟩
  · replace c_5 := b2y c_5
    refine x_aload_n (q := 9) dX10_weigh_8 rfl rfl rfl ?_
    refine x_iload_n (q := 10) dX10_weigh_9 rfl rfl rfl ?_
    refine y_cvI (q := 13) dX10_weigh_10 rfl l_X10_140 (c_X10_isBase hS _ nb hnb hnb8) rfl rfl (cl_132 hS) (by decide) rfl rfl rfl rfl ?_
    refine x_if_ne (q := 16) (t := 19) dX10_weigh_13 rfl (by decide) (fun c_13 => ?_) (fun c_13 => ?_)
    · replace c_13 := b2y c_13
      refine x_iload_n (q := 20) dX10_weigh_19 rfl rfl rfl ?_
      refine x_iconst (q := 21) (v := 1) dX10_weigh_20 rfl (by decide) ?_
      refine x_sipush (q := 24) (v := 20000) dX10_weigh_21 rfl (by decide) ?_
      refine y_csI (q := 27) dX10_weigh_24 rfl l_X10_133 (c_X10_in hS _ _ _) rfl rfl rfl rfl rfl rfl ?_
      refine x_if_ne (q := 30) (t := 33) dX10_weigh_27 rfl (by decide) (fun c_27 => ?_) (fun c_27 => ?_)
      · replace c_27 := b2y c_27
        obtain ⟨k, hk, rfl⟩ := ltB_of (by omega) c_5
        obtain ⟨j, hj, rfl⟩ := ltB_of (by omega) c_13
        refine x_aload_n (q := 34) dX10_weigh_33 rfl rfl rfl ?_
        refine x_get (q := 37) dX10_weigh_34 rfl f_X10_51 (cl_132 hS) rfl (by decide) ?_
        refine x_iload_n (q := 38) dX10_weigh_37 rfl rfl rfl ?_
        refine z_zald (q := 39) (j := k) dX10_weigh_38 rfl (cl_146 hS) (by omega) (by decide) (by decide) ?_
        refine x_if_eq (q := 42) (t := 45) dX10_weigh_39 rfl (by decide) (fun c_39 => ?_) (fun c_39 => ?_)
        · refine x_aload_n (q := 46) dX10_weigh_45 rfl rfl rfl ?_
          refine x_iload_n (q := 47) dX10_weigh_46 rfl rfl rfl ?_
          refine y_cvI (q := 50) dX10_weigh_47 rfl l_X10_154 (c_X10_mayOf hS _ nl hnl hnl40) rfl rfl (cl_132 hS) (by decide) rfl rfl rfl rfl ?_
          refine x_iload_n (q := 51) dX10_weigh_50 rfl rfl rfl ?_
          refine x_ic_ge (q := 54) (t := 57) dX10_weigh_51 rfl (by decide) (fun c_51 => ?_) (fun c_51 => ?_)
          · refine x_aload_n (q := 58) dX10_weigh_57 rfl rfl rfl ?_
            refine x_iload_n (q := 59) dX10_weigh_58 rfl rfl rfl ?_
            refine y_cvI (q := 62) dX10_weigh_59 rfl l_X10_168 (c_X10_unitsOf hS k (by omega)) rfl rfl (cl_132 hS) (by decide) rfl rfl rfl rfl ?_
            refine x_iload_n (q := 63) dX10_weigh_62 rfl rfl rfl ?_
            refine x_iadd (q := 64) dX10_weigh_63 rfl ?_
            refine x_sipush (q := 67) (v := 20000) dX10_weigh_64 rfl (by decide) ?_
            refine x_ic_le (q := 70) (t := 73) dX10_weigh_67 rfl (by decide) (fun c_67 => ?_) (fun c_67 => ?_)
            · have hn1 := inB_lo c_27
              have ho := tkok_sU hnl40 hps (show -1000000000 ≤ n.toInt by have : (1 : Int32).toInt = 1 := rfl; omega) c_51
              refine x_aload_n (q := 74) dX10_weigh_73 rfl rfl rfl ?_
              refine x_iload_n (q := 75) dX10_weigh_74 rfl rfl rfl ?_
              refine x_iload_n (q := 76) dX10_weigh_75 rfl rfl rfl ?_
              refine x_iload_n (q := 77) dX10_weigh_76 rfl rfl rfl ?_
              refine y_cvV (q := 80) dX10_weigh_77 rfl l_X10_171 (c_X10_take hS k j n (by omega) (by omega) nl hnl hnl40 nl ho) rfl rfl (cl_132 hS) (by decide) rfl rfl rfl rfl ?_
              refine Vg.nm (fun h1 eh1 => ?_)
              have hS1 : Sh h1 := by rw [eh1]; exact hS.mTk k j n nl
              refine x_aload_n (q := 81) dX10_weigh_80 rfl rfl rfl ?_
              refine x_iload_n (q := 82) dX10_weigh_81 rfl rfl rfl ?_
              refine y_cvI (q := 85) dX10_weigh_82 rfl l_X10_168 (c_X10_unitsOf hS1 k (by omega)) rfl rfl (cl_132 hS1) (by decide) rfl rfl rfl rfl ?_
              exact x_iret dX10_weigh_85 ⟨_, rfl, by first | rfl | (split <;> rfl)⟩ rfl (Nat.le_refl _) rfl ⟨by rw [show h1 = mTk h k j n nl from eh1]; simp [vmW, vmW2, c_5, c_13, c_27, c_39, c_51, c_67, nI_clamp (show j < 2 ^ 31 by omega), nI_clamp (show k < 2 ^ 31 by omega)], by rw [show h1 = mTk h k j n nl from eh1]; simp [umW, umW2, c_5, c_13, c_27, c_39, c_51, c_67, nI_clamp (show j < 2 ^ 31 by omega), nI_clamp (show k < 2 ^ 31 by omega)]⟩
            · refine x_bipush (q := 72) (v := -6) dX10_weigh_70 rfl (by decide) ?_
              exact x_iret dX10_weigh_72 ⟨_, rfl, by first | rfl | (split <;> rfl)⟩ rfl (Nat.le_refl _) rfl ⟨by simp [vmW, vmW2, c_5, c_13, c_27, c_39, c_51, c_67, nI_clamp (show j < 2 ^ 31 by omega), nI_clamp (show k < 2 ^ 31 by omega)], by simp [umW, umW2, c_5, c_13, c_27, c_39, c_51, c_67, nI_clamp (show j < 2 ^ 31 by omega), nI_clamp (show k < 2 ^ 31 by omega)]⟩
          · refine x_bipush (q := 56) (v := -5) dX10_weigh_54 rfl (by decide) ?_
            exact x_iret dX10_weigh_56 ⟨_, rfl, by first | rfl | (split <;> rfl)⟩ rfl (Nat.le_refl _) rfl ⟨by simp [vmW, vmW2, c_5, c_13, c_27, c_39, c_51, nI_clamp (show j < 2 ^ 31 by omega), nI_clamp (show k < 2 ^ 31 by omega)], by simp [umW, umW2, c_5, c_13, c_27, c_39, c_51, nI_clamp (show j < 2 ^ 31 by omega), nI_clamp (show k < 2 ^ 31 by omega)]⟩
        · refine x_bipush (q := 44) (v := -4) dX10_weigh_42 rfl (by decide) ?_
          exact x_iret dX10_weigh_44 ⟨_, rfl, by first | rfl | (split <;> rfl)⟩ rfl (Nat.le_refl _) rfl ⟨by simp [vmW, vmW2, c_5, c_13, c_27, c_39, nI_clamp (show j < 2 ^ 31 by omega), nI_clamp (show k < 2 ^ 31 by omega)], by simp [umW, umW2, c_5, c_13, c_27, c_39, nI_clamp (show j < 2 ^ 31 by omega), nI_clamp (show k < 2 ^ 31 by omega)]⟩
      · replace c_27 := b2n c_27
        refine x_bipush (q := 32) (v := -3) dX10_weigh_30 rfl (by decide) ?_
        exact x_iret dX10_weigh_32 ⟨_, rfl, by first | rfl | (split <;> rfl)⟩ rfl (Nat.le_refl _) rfl ⟨by simp [vmW, c_5, c_13, c_27], by simp [umW, c_5, c_13, c_27]⟩
    · replace c_13 := b2n c_13
      refine x_bipush (q := 18) (v := -2) dX10_weigh_16 rfl (by decide) ?_
      exact x_iret dX10_weigh_18 ⟨_, rfl, by first | rfl | (split <;> rfl)⟩ rfl (Nat.le_refl _) rfl ⟨by simp [vmW, c_5, c_13], by simp [umW, c_5, c_13]⟩

def vmD2 (h : HF) (k nl : Nat) : Int32 := if lkB (gi h 147) (fun b => sU (gi h 135) (gi h 137) (gi h 136) (fI h 132 0) (nI b) nl) 8 = true then -5 else if usum (gi h 144) k 8 + fsum (gi h 147) 8 ≤ 20000 then usum (gi (mtL k nl (gi h 147) (gi h 147) 8 h) 144) k 8 else -6
def umD2 (h : HF) (k nl : Nat) : HF := if lkB (gi h 147) (fun b => sU (gi h 135) (gi h 137) (gi h 136) (fI h 132 0) (nI b) nl) 8 = true then h else if usum (gi h 144) k 8 + fsum (gi h 147) 8 ≤ 20000 then mtL k nl (gi h 147) (gi h 147) 8 h else h
set_option maxHeartbeats 4000000 in
set_option maxRecDepth 100000 in
theorem lp_di2 {h : HF} (hS : Sh h) (k : Nat) (hk : k < 24) (nl : Nat) (hnl : fI h 132 4 = nI nl) (hnl40 : nl ≤ 40) (hps : PS (gi h 136) nl) (hw : ∀ i, i < 8 → -1000000000 ≤ ((gi h 147) i).toInt ∧ ((gi h 147) i).toInt ≤ 1000000000) (hlk : lkB (gi h 147) (fun b => sU (gi h 135) (gi h 137) (gi h 136) (fI h 132 0) (nI b) nl) 8 = false) : ∀ (m i : Nat), i + m = 8 → Vg mX10_dropIn none (QM mX10_dropIn 170 (RI (usum (gi (mtL k nl (gi h 147) (gi h 147) 8 h) 144) k 8) (mtL k nl (gi h 147) (gi h 147) 8 h))) 99 [some (.ref 132), some (.int (nI k)), none, some (.int (nI i))] [] 170 (mtL k nl (gi h 147) (gi h 147) i h) 0 0 := by
  intro m
  induction m with
  | zero =>
    intro i hi
    obtain rfl : i = 8 := by omega
    refine x_iload_n (q := 100) dX10_dropIn_99 rfl rfl rfl ?_
    refine x_bipush (q := 102) (v := 8) dX10_dropIn_100 rfl (by decide) ?_
    refine x_ic_ge (q := 105) (t := 132) dX10_dropIn_102 rfl (by decide) (fun _ => ?_) (fun c_ => absurd (by decide) c_)
    refine x_aload_n (q := 133) dX10_dropIn_132 rfl rfl rfl ?_
    refine x_iload_n (q := 134) dX10_dropIn_133 rfl rfl rfl ?_
    refine y_cvI (q := 137) dX10_dropIn_134 rfl l_X10_168 (c_X10_unitsOf (Sh_mtL k nl _ _ 8 hS) k hk) rfl rfl (cl_132 (Sh_mtL k nl _ _ 8 hS)) (by decide) rfl rfl rfl rfl ?_
    exact x_iret dX10_dropIn_137 ⟨_, rfl, by first | rfl | (split <;> rfl)⟩ rfl (Nat.le_refl _) rfl ⟨rfl, rfl⟩
  | succ m ih =>
    intro i hi
    have g147 : gi (mtL k nl (gi h 147) (gi h 147) i h) 147 = gi h 147 := mtL_gi (by decide) (by decide) i h
    have hz9 : fI (mtL k nl (gi h 147) (gi h 147) i h) 132 4 = nI nl := by rw [mtL_fI]; exact hnl
    obtain ⟨p1, p2⟩ := mtL_ok (t := k) (c := (gi h 147)) hS hps hw i (by omega)
    have ho9 : tkok (gi (mtL k nl (gi h 147) (gi h 147) i h) 135) (gi (mtL k nl (gi h 147) (gi h 147) i h) 137) (fI (mtL k nl (gi h 147) (gi h 147) i h) 132 0) (nI i) nl nl ((gi h 147) i) (gi (mtL k nl (gi h 147) (gi h 147) i h) 136) := by
      rw [mtL_gi (by decide) (by decide), mtL_gi (by decide) (by decide), mtL_fI]
      rcases lkB_no hlk i (by omega) with q | q
      · exact tkok_sU hnl40 p1 (hw i (by omega)).1 (by rw [p2 i (Nat.le_refl _) (by omega)]; exact q)
      · exact tkok_le _ _ _ q
    refine x_iload_n (q := 100) dX10_dropIn_99 rfl rfl rfl ?_
    refine x_bipush (q := 102) (v := 8) dX10_dropIn_100 rfl (by decide) ?_
    refine x_ic_ge (q := 105) (t := 132) dX10_dropIn_102 rfl (by decide) (fun c_ => absurd c_ (nI_ge (b := 8) (by omega) (by decide))) (fun _ => ?_)
    refine x_aload_n (q := 106) dX10_dropIn_105 rfl rfl rfl ?_
    refine x_get (q := 109) dX10_dropIn_106 rfl f_X10_54 (cl_132 (Sh_mtL k nl _ _ i hS)) rfl (by decide) ?_
    refine x_iload_n (q := 110) dX10_dropIn_109 rfl rfl rfl ?_
    refine z_iald (q := 111) (j := i) dX10_dropIn_110 rfl (cl_147 (Sh_mtL k nl _ _ i hS)) (by omega) (by decide) (by decide) ?_
    rw [g147]
    refine x_if_le (q := 114) (t := 126) dX10_dropIn_111 rfl (by decide) (fun c_111 => ?_) (fun c_111 => ?_)
    · refine x_iinc (q := 129) (v := nI (i + 1)) dX10_dropIn_126 rfl rfl (nI_inc _) (by decide) ?_
      refine x_goto (q := 99) dX10_dropIn_129 (by decide) ?_
      have e9 : mtL k nl (gi h 147) (gi h 147) (i + 1) h = (mtL k nl (gi h 147) (gi h 147) i h) := by rw [mtL, if_neg (Int32.not_lt.mpr c_111)]
      have t9 := ih (i + 1) (by omega)
      rw [e9] at t9; exact t9
    · refine x_aload_n (q := 115) dX10_dropIn_114 rfl rfl rfl ?_
      refine x_iload_n (q := 116) dX10_dropIn_115 rfl rfl rfl ?_
      refine x_iload_n (q := 117) dX10_dropIn_116 rfl rfl rfl ?_
      refine x_aload_n (q := 118) dX10_dropIn_117 rfl rfl rfl ?_
      refine x_get (q := 121) dX10_dropIn_118 rfl f_X10_54 (cl_132 (Sh_mtL k nl _ _ i hS)) rfl (by decide) ?_
      refine x_iload_n (q := 122) dX10_dropIn_121 rfl rfl rfl ?_
      refine z_iald (q := 123) (j := i) dX10_dropIn_122 rfl (cl_147 (Sh_mtL k nl _ _ i hS)) (by omega) (by decide) (by decide) ?_
      rw [g147]
      refine y_cvV (q := 126) dX10_dropIn_123 rfl l_X10_171 (c_X10_take (Sh_mtL k nl _ _ i hS) k i _ hk (by omega) nl hz9 hnl40 nl ho9) rfl rfl (cl_132 (Sh_mtL k nl _ _ i hS)) (by decide) rfl rfl rfl rfl ?_
      refine Vg.nm (fun h1 eh1 => ?_)
      have hS1 : Sh h1 := by rw [eh1]; exact (Sh_mtL k nl _ _ i hS).mTk k i _ nl
      refine x_iinc (q := 129) (v := nI (i + 1)) dX10_dropIn_126 rfl rfl (nI_inc _) (by decide) ?_
      refine x_goto (q := 99) dX10_dropIn_129 (by decide) ?_
      have e9 : h1 = mtL k nl (gi h 147) (gi h 147) (i + 1) h := by rw [mtL, if_pos (Int32.not_le.mp c_111)]; exact eh1
      rw [e9]; exact ih (i + 1) (by omega)

set_option maxHeartbeats 4000000 in
set_option maxRecDepth 100000 in
theorem lp_di1 {h : HF} (hS : Sh h) (k : Nat) (hk : k < 24) (nl : Nat) (hnl : fI h 132 4 = nI nl) (hnl40 : nl ≤ 40) (hps : PS (gi h 136) nl) (hw : ∀ i, i < 8 → -1000000000 ≤ ((gi h 147) i).toInt ∧ ((gi h 147) i).toInt ≤ 1000000000) (hlk : lkB (gi h 147) (fun b => sU (gi h 135) (gi h 137) (gi h 136) (fI h 132 0) (nI b) nl) 8 = false) : Vg mX10_dropIn none (QM mX10_dropIn 170 (RI (vmD2 h k nl) (umD2 h k nl))) 81 [some (.ref 132), some (.int (nI k)), some (.int (fsum (gi h 147) 8)), none] [] 170 h 0 0 := by
  refine x_aload_n (q := 82) dX10_dropIn_81 rfl rfl rfl ?_
  refine x_iload_n (q := 83) dX10_dropIn_82 rfl rfl rfl ?_
  refine y_cvI (q := 86) dX10_dropIn_83 rfl l_X10_168 (c_X10_unitsOf hS k hk) rfl rfl (cl_132 hS) (by decide) rfl rfl rfl rfl ?_
  refine x_iload_n (q := 87) dX10_dropIn_86 rfl rfl rfl ?_
  refine x_iadd (q := 88) dX10_dropIn_87 rfl ?_
  refine x_sipush (q := 91) (v := 20000) dX10_dropIn_88 rfl (by decide) ?_
  refine x_ic_le (q := 94) (t := 97) dX10_dropIn_91 rfl (by decide) (fun c_91 => ?_) (fun c_91 => ?_)
  · refine x_iconst (q := 98) (v := 0) dX10_dropIn_97 rfl (by decide) ?_
    refine x_istore_n (q := 99) dX10_dropIn_98 rfl rfl (by decide) ?_
    have e1 : vmD2 h k nl = usum (gi (mtL k nl (gi h 147) (gi h 147) 8 h) 144) k 8 := by rw [vmD2, hlk]; simp only [Bool.false_eq_true, if_false, if_pos c_91]
    have e2 : umD2 h k nl = mtL k nl (gi h 147) (gi h 147) 8 h := by rw [umD2, hlk]; simp only [Bool.false_eq_true, if_false, if_pos c_91]
    rw [e1, e2]; exact Vg.weak (lp_di2 hS k hk nl hnl hnl40 hps hw hlk 8 0 (by omega)) (by repeat first | exact trivial | refine ⟨rfl, ?_⟩)
  · refine x_bipush (q := 96) (v := -6) dX10_dropIn_94 rfl (by decide) ?_
    exact x_iret dX10_dropIn_96 ⟨_, rfl, by first | rfl | (split <;> rfl)⟩ rfl (Nat.le_refl _) rfl ⟨by rw [vmD2, hlk]; simp only [Bool.false_eq_true, if_false, if_neg c_91], by rw [umD2, hlk]; simp only [Bool.false_eq_true, if_false, if_neg c_91]⟩
set_option maxHeartbeats 4000000 in
set_option maxRecDepth 100000 in
theorem lp_di0 {h : HF} (hS : Sh h) (k : Nat) (hk : k < 24) (nl : Nat) (hnl : fI h 132 4 = nI nl) (hnl40 : nl ≤ 40) (hps : PS (gi h 136) nl) (hw : ∀ i, i < 8 → -1000000000 ≤ ((gi h 147) i).toInt ∧ ((gi h 147) i).toInt ≤ 1000000000) : ∀ (m i : Nat), i + m = 8 → lkB (gi h 147) (fun b => sU (gi h 135) (gi h 137) (gi h 136) (fI h 132 0) (nI b) nl) i = false → Vg mX10_dropIn none (QM mX10_dropIn 170 (RI (vmD2 h k nl) (umD2 h k nl))) 34 [some (.ref 132), some (.int (nI k)), some (.int (fsum (gi h 147) i)), some (.int (nI i))] [] 170 h 0 0 := by
  intro m
  induction m with
  | zero =>
    intro i hi hf
    obtain rfl : i = 8 := by omega
    refine x_iload_n (q := 35) dX10_dropIn_34 rfl rfl rfl ?_
    refine x_bipush (q := 37) (v := 8) dX10_dropIn_35 rfl (by decide) ?_
    refine x_ic_ge (q := 40) (t := 81) dX10_dropIn_37 rfl (by decide) (fun _ => ?_) (fun c_ => absurd (by decide) c_)
    exact Vg.weak (lp_di1 hS k hk nl hnl hnl40 hps hw hf) (by repeat first | exact trivial | refine ⟨rfl, ?_⟩)
  | succ m ih =>
    intro i hi hf
    refine x_iload_n (q := 35) dX10_dropIn_34 rfl rfl rfl ?_
    refine x_bipush (q := 37) (v := 8) dX10_dropIn_35 rfl (by decide) ?_
    refine x_ic_ge (q := 40) (t := 81) dX10_dropIn_37 rfl (by decide) (fun c_ => absurd c_ (nI_ge (b := 8) (by omega) (by decide))) (fun _ => ?_)
    refine x_iload_n (q := 41) dX10_dropIn_40 rfl rfl rfl ?_
    refine x_aload_n (q := 42) dX10_dropIn_41 rfl rfl rfl ?_
    refine x_get (q := 45) dX10_dropIn_42 rfl f_X10_54 (cl_132 hS) rfl (by decide) ?_
    refine x_iload_n (q := 46) dX10_dropIn_45 rfl rfl rfl ?_
    refine z_iald (q := 47) (j := i) dX10_dropIn_46 rfl (cl_147 hS) (by omega) (by decide) (by decide) ?_
    refine x_iadd (q := 48) dX10_dropIn_47 rfl ?_
    refine x_istore_n (q := 49) dX10_dropIn_48 rfl rfl (by decide) ?_
    refine x_aload_n (q := 50) dX10_dropIn_49 rfl rfl rfl ?_
    refine x_get (q := 53) dX10_dropIn_50 rfl f_X10_54 (cl_132 hS) rfl (by decide) ?_
    refine x_iload_n (q := 54) dX10_dropIn_53 rfl rfl rfl ?_
    refine z_iald (q := 55) (j := i) dX10_dropIn_54 rfl (cl_147 hS) (by omega) (by decide) (by decide) ?_
    refine x_if_le (q := 58) (t := 75) dX10_dropIn_55 rfl (by decide) (fun c_55 => ?_) (fun c_55 => ?_)
    · refine x_iinc (q := 78) (v := nI (i + 1)) dX10_dropIn_75 rfl rfl (nI_inc _) (by decide) ?_
      refine x_goto (q := 34) dX10_dropIn_78 (by decide) ?_
      refine ih (i + 1) (by omega) ?_
      simp only [lkB, hf, Bool.false_or, Bool.and_eq_false_iff, decide_eq_false_iff_not]
      first | exact Or.inl (Int32.not_lt.mpr c_55) | exact Or.inr (Int32.not_lt.mpr c_69)
    · refine x_aload_n (q := 59) dX10_dropIn_58 rfl rfl rfl ?_
      refine x_iload_n (q := 60) dX10_dropIn_59 rfl rfl rfl ?_
      refine y_cvI (q := 63) dX10_dropIn_60 rfl l_X10_154 (c_X10_mayOf hS (nI i) nl hnl hnl40) rfl rfl (cl_132 hS) (by decide) rfl rfl rfl rfl ?_
      refine x_aload_n (q := 64) dX10_dropIn_63 rfl rfl rfl ?_
      refine x_get (q := 67) dX10_dropIn_64 rfl f_X10_54 (cl_132 hS) rfl (by decide) ?_
      refine x_iload_n (q := 68) dX10_dropIn_67 rfl rfl rfl ?_
      refine z_iald (q := 69) (j := i) dX10_dropIn_68 rfl (cl_147 hS) (by omega) (by decide) (by decide) ?_
      refine x_ic_ge (q := 72) (t := 75) dX10_dropIn_69 rfl (by decide) (fun c_69 => ?_) (fun c_69 => ?_)
      · refine x_iinc (q := 78) (v := nI (i + 1)) dX10_dropIn_75 rfl rfl (nI_inc _) (by decide) ?_
        refine x_goto (q := 34) dX10_dropIn_78 (by decide) ?_
        refine ih (i + 1) (by omega) ?_
        simp only [lkB, hf, Bool.false_or, Bool.and_eq_false_iff, decide_eq_false_iff_not]
        first | exact Or.inl (Int32.not_lt.mpr c_55) | exact Or.inr (Int32.not_lt.mpr c_69)
      · refine x_bipush (q := 74) (v := -5) dX10_dropIn_72 rfl (by decide) ?_
        exact x_iret dX10_dropIn_74 ⟨_, rfl, by first | rfl | (split <;> rfl)⟩ rfl (Nat.le_refl _) rfl (by
          have q9 : lkB (gi h 147) (fun b => sU (gi h 135) (gi h 137) (gi h 136) (fI h 132 0) (nI b) nl) 8 = true := lkB_mono (i := i + 1) (by omega) (by simp only [lkB, Bool.or_eq_true, Bool.and_eq_true, decide_eq_true_eq]; exact Or.inr ⟨Int32.not_le.mp c_55, Int32.not_le.mp c_69⟩)
          exact ⟨by rw [vmD2, if_pos q9], by rw [umD2, if_pos q9]⟩)

def vmDI (h : HF) (t : Int32) (nt nl : Nat) : Int32 := if ltB t (nI nt) = true then if gi h 146 t.toNatClampNeg = 0 then if fI h 132 19 = 0 then -4 else vmD2 h t.toNatClampNeg nl else -4 else -2
def umDI (h : HF) (t : Int32) (nt nl : Nat) : HF := if ltB t (nI nt) = true then if gi h 146 t.toNatClampNeg = 0 then if fI h 132 19 = 0 then h else umD2 h t.toNatClampNeg nl else h else h
set_option maxHeartbeats 4000000 in
set_option maxRecDepth 100000 in
theorem c_X10_dropIn {h : HF} (hS : Sh h) (t : Int32) (nt : Nat) (hnt : fI h 132 15 = nI nt) (hnt24 : nt ≤ 24) (nl : Nat) (hnl : fI h 132 4 = nI nl) (hnl40 : nl ≤ 40) (hps : PS (gi h 136) nl) (hw : ∀ i, i < 8 → -1000000000 ≤ ((gi h 147) i).toInt ∧ ((gi h 147) i).toInt ≤ 1000000000) : Mc mX10_dropIn [.ref 132, .int t] 170 h (RI (vmDI h t nt nl) (umDI h t nt nl)) := by
  refine Mc.of (by decide) rfl (Nat.le_of_ble_eq_true rfl) ?_
  refine x_aload_n (q := 1) dX10_dropIn_0 rfl rfl rfl ?_
  refine x_iload_n (q := 2) dX10_dropIn_1 rfl rfl rfl ?_
  refine y_cvI (q := 5) dX10_dropIn_2 rfl l_X10_165 (c_X10_isBatch hS _ nt hnt hnt24) rfl rfl (cl_132 hS) (by decide) rfl rfl rfl rfl ?_
  refine x_if_ne (q := 8) (t := 11) dX10_dropIn_5 rfl (by decide) (fun c_5 => ?_) (fun c_5 => ?_)
  · replace c_5 := b2y c_5
    obtain ⟨k, hk, rfl⟩ := ltB_of (by omega) c_5
    refine x_aload_n (q := 12) dX10_dropIn_11 rfl rfl rfl ?_
    refine x_get (q := 15) dX10_dropIn_12 rfl f_X10_51 (cl_132 hS) rfl (by decide) ?_
    refine x_iload_n (q := 16) dX10_dropIn_15 rfl rfl rfl ?_
    refine z_zald (q := 17) (j := k) dX10_dropIn_16 rfl (cl_146 hS) (by omega) (by decide) (by decide) ?_
    refine x_if_ne (q := 20) (t := 27) dX10_dropIn_17 rfl (by decide) (fun c_17 => ?_) (fun c_17 => ?_)
    · refine x_bipush (q := 29) (v := -4) dX10_dropIn_27 rfl (by decide) ?_
      exact x_iret dX10_dropIn_29 ⟨_, rfl, by first | rfl | (split <;> rfl)⟩ rfl (Nat.le_refl _) rfl ⟨by simp [vmDI, c_5, c_17, nI_clamp (show k < 2 ^ 31 by omega)], by simp [umDI, c_5, c_17, nI_clamp (show k < 2 ^ 31 by omega)]⟩
    · refine x_aload_n (q := 21) dX10_dropIn_20 rfl rfl rfl ?_
      refine x_get (q := 24) dX10_dropIn_21 rfl f_X10_195 (cl_132 hS) rfl (by decide) ?_
      refine x_if_ne (q := 27) (t := 30) dX10_dropIn_24 rfl (by decide) (fun c_24 => ?_) (fun c_24 => ?_)
      · refine x_iconst (q := 31) (v := 0) dX10_dropIn_30 rfl (by decide) ?_
        refine x_istore_n (q := 32) dX10_dropIn_31 rfl rfl (by decide) ?_
        refine x_iconst (q := 33) (v := 0) dX10_dropIn_32 rfl (by decide) ?_
        refine x_istore_n (q := 34) dX10_dropIn_33 rfl rfl (by decide) ?_
        have e1 : vmDI h (nI k) nt nl = vmD2 h k nl := by simp only [vmDI, c_5, nI_clamp (show k < 2 ^ 31 by omega), c_17, if_true, if_neg c_24]
        have e2 : umDI h (nI k) nt nl = umD2 h k nl := by simp only [umDI, c_5, nI_clamp (show k < 2 ^ 31 by omega), c_17, if_true, if_neg c_24]
        rw [e1, e2]; exact lp_di0 hS k (by omega) nl hnl hnl40 hps hw 8 0 (by omega) rfl
      · refine x_bipush (q := 29) (v := -4) dX10_dropIn_27 rfl (by decide) ?_
        exact x_iret dX10_dropIn_29 ⟨_, rfl, by first | rfl | (split <;> rfl)⟩ rfl (Nat.le_refl _) rfl ⟨by simp [vmDI, c_5, c_17, c_24, nI_clamp (show k < 2 ^ 31 by omega)], by simp [umDI, c_5, c_17, c_24, nI_clamp (show k < 2 ^ 31 by omega)]⟩
  · replace c_5 := b2n c_5
    refine x_bipush (q := 10) (v := -2) dX10_dropIn_8 rfl (by decide) ?_
    exact x_iret dX10_dropIn_10 ⟨_, rfl, by first | rfl | (split <;> rfl)⟩ rfl (Nat.le_refl _) rfl ⟨by simp [vmDI, c_5], by simp [umDI, c_5]⟩

