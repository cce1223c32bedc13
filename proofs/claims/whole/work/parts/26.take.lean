def tkH (a b z : Nat) : Nat → Int32 → HF → HF
  | 0, _, h => h
  | k + 1, m, h => if m ≤ 0 then h else match nxo (gi h 6) (gi h 8) (gi h 7) (fI h 5 4) (nI b) z with
    | none => h
    | some j => tkH a b z k (m - minI (gi h 7 j) m) (mixAdd (si h 7 (upd (gi h 7) j (gi h 7 j - minI (gi h 7 j) m))) a b (minI (gi h 7 j) m) j)
theorem Sh_tkH {a b z : Nat} : ∀ (k : Nat) (m : Int32) {h : HF}, Sh h → Sh (tkH a b z k m h)
  | 0, _, _, hS => hS
  | k + 1, m, h, hS => by
    unfold tkH
    split
    · exact hS
    · split
      · exact hS
      · exact Sh_tkH k _ ((hS.si _ _).mixAdd _ _ _ _)
set_option maxHeartbeats 4000000 in
set_option maxRecDepth 100000 in
theorem lp_take {a : Nat} (hm : isM a) (b z : Nat) (hb : b < 8) (hz40 : z ≤ 40) (n : Int32) : ∀ (k i : Nat) (m : Int32) (h : HF), Sh h → fI h 5 3 = nI z → i + k = z → Vg mX7_take none (QM mX7_take 170 (RV (tkH a b z k m h))) 6 [some (.ref 5), some (.int (nI b)), some (.int n), some (.ref a), some (.int m), some (.int (nI i)), none, none] [] 170 h 0 0 := by
  intro k
  induction k with
  | zero =>
    intro i m h hS hz hi
    obtain rfl : i = z := by omega
    refine x_iload (q := 8) dX7_take_6 rfl rfl ?_
    refine x_aload_n (q := 9) dX7_take_8 rfl rfl rfl ?_
    refine x_get (q := 12) dX7_take_9 rfl f_X7_21 (cl_5 hS) rfl (by decide) ?_
    rw [hz]
    refine x_ic_ge (q := 15) (t := 82) dX7_take_12 rfl (by decide) (fun _ => ?_) (fun c_ => absurd (nI_le (Nat.le_refl _) (by omega)) c_)
    exact x_vret dX7_take_82 rfl rfl (Nat.le_refl _) rfl ⟨rfl, rfl⟩
  | succ k ih =>
    intro i m h hS hz hi
    have hmr := mxr hm
    cases hn : nxo (gi h 6) (gi h 8) (gi h 7) (fI h 5 4) (nI b) z with
    | none =>
      refine x_iload (q := 8) dX7_take_6 rfl rfl ?_
      refine x_aload_n (q := 9) dX7_take_8 rfl rfl rfl ?_
      refine x_get (q := 12) dX7_take_9 rfl f_X7_21 (cl_5 hS) rfl (by decide) ?_
      rw [hz]
      refine x_ic_ge (q := 15) (t := 82) dX7_take_12 rfl (by decide) (fun c_ => absurd c_ (nI_ge (by omega) (by omega))) (fun _ => ?_)
      refine x_iload (q := 17) dX7_take_15 rfl rfl ?_
      refine x_if_le (q := 20) (t := 82) dX7_take_17 rfl (by decide) (fun c_17 => ?_) (fun c_17 => ?_)
      · exact x_vret dX7_take_82 rfl rfl (Nat.le_refl _) rfl ⟨rfl, by first | (rw [tkH, if_pos c_17]; done) | (rw [tkH, if_neg c_17, hn])⟩
      · refine x_aload_n (q := 21) dX7_take_20 rfl rfl rfl ?_
        refine x_iload_n (q := 22) dX7_take_21 rfl rfl rfl ?_
        refine y_cvI (q := 25) dX7_take_22 rfl l_X7_36 (c_X7_nextToEnd hS (nI b) z hz hz40) rfl rfl (cl_5 hS) (by decide) rfl rfl rfl rfl ?_
        rw [hn]
        refine x_istore (q := 27) dX7_take_25 rfl (by decide) ?_
        refine x_iload (q := 29) dX7_take_27 rfl rfl ?_
        refine x_iconst (q := 30) (v := -1) dX7_take_29 rfl (by decide) ?_
        refine x_ic_ne (q := 33) (t := 34) dX7_take_30 rfl (by decide) (fun c_ => absurd c_ (fun z => z rfl)) (fun _ => ?_)
        exact x_vret dX7_take_33 rfl rfl (Nat.le_refl _) rfl ⟨rfl, by first | (rw [tkH, if_pos c_17]; done) | (rw [tkH, if_neg c_17, hn])⟩
    | some j =>
      have hjz := (nxo_lt hn).1
      refine x_iload (q := 8) dX7_take_6 rfl rfl ?_
      refine x_aload_n (q := 9) dX7_take_8 rfl rfl rfl ?_
      refine x_get (q := 12) dX7_take_9 rfl f_X7_21 (cl_5 hS) rfl (by decide) ?_
      rw [hz]
      refine x_ic_ge (q := 15) (t := 82) dX7_take_12 rfl (by decide) (fun c_ => absurd c_ (nI_ge (by omega) (by omega))) (fun _ => ?_)
      refine x_iload (q := 17) dX7_take_15 rfl rfl ?_
      refine x_if_le (q := 20) (t := 82) dX7_take_17 rfl (by decide) (fun c_17 => ?_) (fun c_17 => ?_)
      · exact x_vret dX7_take_82 rfl rfl (Nat.le_refl _) rfl ⟨rfl, by rw [tkH, if_pos c_17]⟩
      · refine x_aload_n (q := 21) dX7_take_20 rfl rfl rfl ?_
        refine x_iload_n (q := 22) dX7_take_21 rfl rfl rfl ?_
        refine y_cvI (q := 25) dX7_take_22 rfl l_X7_36 (c_X7_nextToEnd hS (nI b) z hz hz40) rfl rfl (cl_5 hS) (by decide) rfl rfl rfl rfl ?_
        rw [hn, show oI (some j) = nI j from rfl]
        refine x_istore (q := 27) dX7_take_25 rfl (by decide) ?_
        refine x_iload (q := 29) dX7_take_27 rfl rfl ?_
        refine x_iconst (q := 30) (v := -1) dX7_take_29 rfl (by decide) ?_
        refine x_ic_ne (q := 33) (t := 34) dX7_take_30 rfl (by decide) (fun _ => ?_) (fun c_ => absurd c_ (nI_m1 (by omega)))
        refine x_aload_n (q := 35) dX7_take_34 rfl rfl rfl ?_
        refine x_get (q := 38) dX7_take_35 rfl f_X7_15 (cl_5 hS) rfl (by decide) ?_
        refine x_iload (q := 40) dX7_take_38 rfl rfl ?_
        refine z_iald (q := 41) (j := j) dX7_take_40 rfl (cl_7 hS) (by omega) (by decide) (by decide) ?_
        refine x_iload (q := 43) dX7_take_41 rfl rfl ?_
        refine y_csI (q := 46) dX7_take_43 rfl l_X7_39 (c_J9_min_7cf53 hS _ _) rfl rfl rfl rfl rfl rfl ?_
        refine x_istore (q := 48) dX7_take_46 rfl (by decide) ?_
        refine x_aload_n (q := 49) dX7_take_48 rfl rfl rfl ?_
        refine x_get (q := 52) dX7_take_49 rfl f_X7_15 (cl_5 hS) rfl (by decide) ?_
        refine x_iload (q := 54) dX7_take_52 rfl rfl ?_
        refine x_dup2 (q := 55) dX7_take_54 rfl rfl rfl ?_
        refine z_iald (q := 56) (j := j) dX7_take_55 rfl (cl_7 hS) (by omega) (by decide) (by decide) ?_
        refine x_iload (q := 58) dX7_take_56 rfl rfl ?_
        refine x_isub (q := 59) dX7_take_58 rfl ?_
        refine z_iast (q := 60) (j := j) dX7_take_59 rfl (cl_7 hS) (by omega) (by decide) (by decide) ?_
        refine Vg.nm (fun h1 eh1 => ?_)
        have hS1 : Sh h1 := by rw [eh1]; exact hS.si _ _
        have hc1_5_3 : fI h1 5 3 = nI (z) := by rw [eh1]; first | (simp only [fI_si, fI_sl, fI_sJ]; exact hz) | (rw [fI_sI_ne (by omega)]; exact hz) | (rw [fI_sI_k (by decide)]; exact hz) | (simp (disch := omega) only [mixAdd, fI_si, fI_sl, fI_sJ, fI_sI_ne, fI_sI_k]; exact hz)
        refine x_iload (q := 62) dX7_take_60 rfl rfl ?_
        refine x_iload (q := 64) dX7_take_62 rfl rfl ?_
        refine x_isub (q := 65) dX7_take_64 rfl ?_
        refine x_istore (q := 67) dX7_take_65 rfl (by decide) ?_
        refine x_aload_n (q := 68) dX7_take_67 rfl rfl rfl ?_
        refine x_iload_n (q := 69) dX7_take_68 rfl rfl rfl ?_
        refine x_iload (q := 71) dX7_take_69 rfl rfl ?_
        refine x_iload (q := 73) dX7_take_71 rfl rfl ?_
        refine y_cvV (q := 76) dX7_take_73 rfl l_X7_45 (c_X4_add hS1 hm b _ j hb) rfl rfl ((mxo hm hS1).1) (mxb hm) rfl rfl rfl rfl ?_
        refine Vg.nm (fun h2 eh2 => ?_)
        have hS2 : Sh h2 := by rw [eh2]; exact hS1.mixAdd _ _ _ _
        have hc2_5_3 : fI h2 5 3 = nI (z) := by rw [eh2]; first | (simp only [fI_si, fI_sl, fI_sJ]; exact hc1_5_3) | (rw [fI_sI_ne (by omega)]; exact hc1_5_3) | (rw [fI_sI_k (by decide)]; exact hc1_5_3) | (simp (disch := omega) only [mixAdd, fI_si, fI_sl, fI_sJ, fI_sI_ne, fI_sI_k]; exact hc1_5_3)
        refine x_iinc (q := 79) (v := nI (i + 1)) dX7_take_76 rfl rfl (nI_inc _) (by decide) ?_
        refine x_goto (q := 6) dX7_take_79 (by decide) ?_
        have t9 := ih (i + 1) (m - minI (gi h 7 j) m) h2 hS2 hc2_5_3 (by omega)
        have e9 : tkH a b z (k + 1) m h = tkH a b z k (m - minI (gi h 7 j) m) h2 := by rw [tkH, if_neg c_17, hn, eh2, eh1]
        rw [e9]; exact Vg.weak t9 (by repeat first | exact trivial | refine ⟨rfl, ?_⟩)

set_option maxHeartbeats 4000000 in
set_option maxRecDepth 100000 in
theorem c_X7_take {h : HF} (hS : Sh h) {a : Nat} (hm : isM a) (b : Nat) (n : Int32) (hb : b < 8) (z : Nat) (hz : fI h 5 3 = nI z) (hz40 : z ≤ 40) : Mc mX7_take [.ref 5, .int (nI b), .int n, .ref a] 170 h (RV (tkH a b z z n h)) := by
  refine Mc.of (by decide) rfl (Nat.le_of_ble_eq_true rfl) ?_
  refine x_iload_n (q := 1) dX7_take_0 rfl rfl rfl ?_
  refine x_istore (q := 3) dX7_take_1 rfl (by decide) ?_
  refine x_iconst (q := 4) (v := 0) dX7_take_3 rfl (by decide) ?_
  refine x_istore (q := 6) dX7_take_4 rfl (by decide) ?_
  exact lp_take hm b z hb hz40 n z 0 n h hS hz (by omega)

