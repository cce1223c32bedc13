/-- the cells as both constructors leave them -/
def T0 (a : Nat) : CE := if a = 1 then .inr (9, [.ref 2, .ref 5, .ref 9, .ref 16, .int 0, .ref 17, .ref 24, .ref 25, .ref 31, .ref 39, .int 10, .int 0]) else if a = 132 then .inr (10, fs132.set 30 (.int 10)) else if a = 149 then .inl (0, 5, .inl (fun j => if j < 5 then 1000 else 0)) else if 112 ≤ a ∧ a < 132 ∧ a % 4 = 0 then .inr (8, [.ref (a + 1), .ref (a + 3), .int 0, .int 1000, .int 0, .int 0, .int 0]) else shT a
theorem T0_o {a : Nat} (h1 : a ≠ 1) (h2 : a ≠ 132) (h3 : a ≠ 149) (h4 : ¬ (112 ≤ a ∧ a < 132 ∧ a % 4 = 0)) : T0 a = shT a := by
  rw [T0, if_neg h1, if_neg h2, if_neg h3, if_neg h4]
theorem T0_B {k : Nat} (hk : k < 24) : T0 (40 + 3 * k) = .inr (0, [.ref (40 + 3 * k + 1), .int 0]) ∧ T0 (41 + 3 * k) = .inr (4, [.ref (41 + 3 * k + 1), .int 0, .long 0]) ∧ T0 (42 + 3 * k) = .inl (0, 8, .inl (fun _ => 0)) := by
  rw [T0_o (by omega) (by omega) (by omega) (by omega), T0_o (by omega) (by omega) (by omega) (by omega), T0_o (by omega) (by omega) (by omega) (by omega)]
  exact shT_B hk
theorem T0_K {k : Nat} (hk : k < 5) : T0 (112 + 4 * k) = .inr (8, [.ref (112 + 4 * k + 1), .ref (112 + 4 * k + 3), .int 0, .int 1000, .int 0, .int 0, .int 0]) ∧ T0 (113 + 4 * k) = .inr (4, [.ref (113 + 4 * k + 1), .int 0, .long 0]) ∧ T0 (114 + 4 * k) = .inl (0, 8, .inl (fun _ => 0)) ∧ T0 (115 + 4 * k) = .inl (0, 3, .inl (fun _ => 0)) := by
  rw [T0_o (a := 113 + 4 * k) (by omega) (by omega) (by omega) (by omega), T0_o (a := 114 + 4 * k) (by omega) (by omega) (by omega) (by omega), T0_o (a := 115 + 4 * k) (by omega) (by omega) (by omega) (by omega)]
  exact ⟨by rw [T0, if_neg (by omega), if_neg (by omega), if_neg (by omega), if_pos (by omega)], (shT_K hk).2⟩
def G3 (s m i : Nat) : Nat → Option Nat := fun j => if j < i then some (s + m * j) else none
theorem G3_s (s m i : Nat) : va_up (G3 s m i) i (some (s + m * i)) = G3 s m (i + 1) := by
  funext j
  simp only [va_up, G3]
  by_cases e : j = i
  · subst e; rw [if_pos rfl, if_pos (by omega)]
  · rw [if_neg e]
    by_cases q : j < i
    · rw [if_pos q, if_pos (by omega)]
    · rw [if_neg q, if_neg (by omega)]
theorem G3_B : G3 40 3 24 = rB := by
  funext j
  simp only [G3, rB]
  by_cases q : j < 24
  · rw [if_pos q, Nat.ble_eq_true_of_le (show j ≤ 23 by omega)]; rfl
  · rw [if_neg q, ble_f (show 23 < j by omega)]; rfl
theorem G3_T : G3 112 4 5 = rT := by
  funext j
  simp only [G3, rT]
  by_cases q : j < 5
  · rw [if_pos q, Nat.ble_eq_true_of_le (show j ≤ 4 by omega)]; rfl
  · rw [if_neg q, ble_f (show 4 < j by omega)]; rfl
/-- the cells up to n stand, the two rows of refs aside -/
def A9 (n : Nat) (h : HF) : Prop := ∀ j, 2 ≤ j → j ≤ n → j ≠ 16 → j ≠ 24 → h j = T0 j
def P9 : PQ := fun r h' => r = none ∧ ∀ j, 1 ≤ j → j ≤ 131 → h' j = T0 j
theorem lp_c9b : ∀ (m i : Nat) (h : HF), i + m = 5 → h 1 = .inr (9, [.ref 2, .ref 5, .ref 9, .ref 16, .int 0, .ref 17, .ref 24, .ref 25, .ref 31, .ref 39, .int 10, .int 0]) → h 24 = .inl (4, 5, .inr (.inr (.inr (.inr (G3 112 4 i))))) → h 16 = .inl (3, 24, .inr (.inr (.inr (.inr rB)))) → A9 (111 + 4 * i) h → Vg mX9_init none (QM mX9_init 1 P9) 140 [some (.ref 1), some (.int (nI i))] [] (111 + 4 * i) h (110 + 4 * i) (3123 + 21 * i)
  | 0, i, h, hi, h1, h2, h3, hA => by
    obtain rfl : i = 5 := by omega
    refine x_iload_n (q := 141) dX9_init_140 rfl rfl rfl ?_
    refine x_iconst (q := 142) (v := 5) dX9_init_141 rfl (by decide) ?_
    refine x_ic_ge (q := 145) (t := 164) dX9_init_142 rfl (by decide) (fun _ => ?_) (fun c_ => absurd (by decide) c_)
    refine x_vret dX9_init_164 rfl rfl (Nat.le_of_ble_eq_true rfl) rfl ⟨rfl, fun j q1 q2 => ?_⟩
    by_cases e1 : j = 1
    · rw [e1, h1]; rfl
    · by_cases e2 : j = 16
      · rw [e2, h3]; rfl
      · by_cases e3 : j = 24
        · rw [e3, h2, G3_T]; rfl
        · exact hA j (by omega) (by omega) e2 e3
  | m + 1, i, h, hi, h1, h2, h3, hA => by
    have hil : i < 5 := by omega
    refine x_iload_n (q := 141) dX9_init_140 rfl rfl rfl ?_
    refine x_iconst (q := 142) (v := 5) dX9_init_141 rfl (by decide) ?_
    refine x_ic_ge (q := 145) (t := 164) dX9_init_142 rfl (by decide) (fun c_ => absurd c_ (Int32.not_le.mpr (show nI i < nI 5 from nI_lt hil (by decide)))) (fun _ => ?_)
    refine x_aload_n (q := 146) dX9_init_145 rfl rfl rfl ?_
    refine x_get (q := 149) dX9_init_146 rfl f_X9_49 h1 rfl (by omega) ?_
    refine x_iload_n (q := 150) dX9_init_149 rfl rfl rfl ?_
    refine x_new (q := 153) dX9_init_150 rfl n_X9_47 (by show (110 + 4 * i) + 1 ≤ 130; omega) (by show (3123 + 21 * i) + 7 ≤ 3228; omega) (kc' := (110 + 4 * i) + 1) (ks' := (3123 + 21 * i) + 7) rfl rfl ?_
    refine x_dup (q := 154) dX9_init_153 rfl rfl ?_
    refine x_ci (q := 157) (av := []) (rest := [.ref (111 + 4 * i + 1), .int (nI i), .ref 24]) dX9_init_154 rfl l_X9_78 (c_X8_init (by omega) (hu_eq _ _ _)) rfl rfl (by omega) (by
    simp only [rok, Bool.and_eq_true, Nat.ble_eq]
    refine ⟨by decide, by decide, ?_, ?_⟩
    · show ((110 + 4 * i) + 1) + 3 ≤ 130
      omega
    · show ((3123 + 21 * i) + 7) + 14 ≤ 3228
      omega) rfl (kc' := 110 + 4 * (i + 1)) (ks' := 3123 + 21 * (i + 1)) (by show (110 + 4 * i) + 1 + 3 = _; omega) (by show (3123 + 21 * i) + 7 + 14 = _; omega) (fun rr g hp => ?_)
    obtain ⟨rfl, p0, p1, p2, p3, pf⟩ := hp
    show Vg _ _ _ 157 _ [.ref (111 + 4 * i + 1), .int (nI i), .ref 24] ((111 + 4 * i) + 1 + 3) g _ _
    have e24 : g 24 = .inl (4, 5, .inr (.inr (.inr (.inr (G3 112 4 i))))) := (pf 24 (by omega)).trans ((hu_ne _ _ (by omega)).trans h2)
    refine x_aast4 (q := 158) dX9_init_157 rfl e24 p0 (show vwCl[8]? = some (RX8, TX8, 7) from rfl) (vp_in_nI hil (by decide)) (by omega) (by omega) ?_
    rw [nI_clamp (by omega), show (111 + 4 * i + 1) = 112 + 4 * i by omega, G3_s]
    refine Vg.nm (fun g2 e2 => ?_)
    refine x_iinc (q := 161) dX9_init_158 rfl rfl (nI_inc i) (by decide) ?_
    refine x_goto (q := 140) dX9_init_161 (by decide) ?_
    rw [show 112 + 4 * i + 3 = 111 + 4 * (i + 1) by omega]
    refine lp_c9b m (i + 1) g2 (by omega) ?_ ?_ ?_ ?_
    · rw [e2, hu_ne _ _ (by omega), pf 1 (by omega), hu_ne _ _ (by omega)]; exact h1
    · rw [e2]; exact hu_eq _ _ _
    · rw [e2, hu_ne _ _ (by omega), pf 16 (by omega), hu_ne _ _ (by omega)]; exact h3
    · intro j q1 q2 q3 q4
      rw [e2, hu_ne _ _ (by omega)]
      by_cases e : j < (111 + 4 * i + 1)
      · rw [pf j e, hu_ne _ _ (by omega)]; exact hA j q1 (by omega) q3 q4
      · have tb := T0_K hil
        have hj : j = 112 + 4 * i ∨ j = 113 + 4 * i ∨ j = 114 + 4 * i ∨ j = 115 + 4 * i := by omega
        rcases hj with rfl | rfl | rfl | rfl
        · rw [tb.1, show 112 + 4 * i = 111 + 4 * i + 1 by omega, p0]
        · rw [tb.2.1, show 113 + 4 * i = 111 + 4 * i + 1 + 1 by omega, p1]
        · rw [tb.2.2.1, show 114 + 4 * i = 111 + 4 * i + 1 + 1 + 1 by omega, p2]
        · rw [tb.2.2.2, show 115 + 4 * i = 111 + 4 * i + 1 + 1 + 1 + 1 by omega, p3]
theorem lp_c9a : ∀ (m i : Nat) (h : HF), i + m = 24 → h 1 = .inr (9, [.ref 2, .ref 5, .ref 9, .ref 16, .int 0, .ref 17, .ref 24, .ref 25, .ref 31, .ref 39, .int 10, .int 0]) → h 16 = .inl (3, 24, .inr (.inr (.inr (.inr (G3 40 3 i))))) → h 24 = .inl (4, 5, .inr (.inr (.inr (.inr (G3 112 4 0))))) → A9 (39 + 3 * i) h → Vg mX9_init none (QM mX9_init 1 P9) 113 [some (.ref 1), some (.int (nI i))] [] (39 + 3 * i) h (38 + 3 * i) (2811 + 13 * i)
  | 0, i, h, hi, h1, h2, h3, hA => by
    obtain rfl : i = 24 := by omega
    refine x_iload_n (q := 114) dX9_init_113 rfl rfl rfl ?_
    refine x_bipush (q := 116) (v := 24) dX9_init_114 rfl (by decide) ?_
    refine x_ic_ge (q := 119) (t := 138) dX9_init_116 rfl (by decide) (fun _ => ?_) (fun c_ => absurd (by decide) c_)
    refine x_iconst (q := 139) (v := 0) dX9_init_138 rfl (by decide) ?_
    refine x_istore_n (q := 140) dX9_init_139 rfl rfl (by decide) ?_
    exact lp_c9b 5 0 h rfl h1 h3 (by rw [h2, G3_B]) (fun j q1 q2 => hA j q1 (by omega))
  | m + 1, i, h, hi, h1, h2, h3, hA => by
    have hil : i < 24 := by omega
    refine x_iload_n (q := 114) dX9_init_113 rfl rfl rfl ?_
    refine x_bipush (q := 116) (v := 24) dX9_init_114 rfl (by decide) ?_
    refine x_ic_ge (q := 119) (t := 138) dX9_init_116 rfl (by decide) (fun c_ => absurd c_ (Int32.not_le.mpr (show nI i < nI 24 from nI_lt hil (by decide)))) (fun _ => ?_)
    refine x_aload_n (q := 120) dX9_init_119 rfl rfl rfl ?_
    refine x_get (q := 123) dX9_init_120 rfl f_X9_32 h1 rfl (by omega) ?_
    refine x_iload_n (q := 124) dX9_init_123 rfl rfl rfl ?_
    refine x_new (q := 127) dX9_init_124 rfl n_X9_30 (by show (38 + 3 * i) + 1 ≤ 130; omega) (by show (2811 + 13 * i) + 2 ≤ 3228; omega) (kc' := (38 + 3 * i) + 1) (ks' := (2811 + 13 * i) + 2) rfl rfl ?_
    refine x_dup (q := 128) dX9_init_127 rfl rfl ?_
    refine x_ci (q := 131) (av := []) (rest := [.ref (39 + 3 * i + 1), .int (nI i), .ref 16]) dX9_init_128 rfl l_X9_77 (c_X0_init (by omega) (hu_eq _ _ _)) rfl rfl (by omega) (by
    simp only [rok, Bool.and_eq_true, Nat.ble_eq]
    refine ⟨by decide, by decide, ?_, ?_⟩
    · show ((38 + 3 * i) + 1) + 2 ≤ 130
      omega
    · show ((2811 + 13 * i) + 2) + 11 ≤ 3228
      omega) rfl (kc' := 38 + 3 * (i + 1)) (ks' := 2811 + 13 * (i + 1)) (by show (38 + 3 * i) + 1 + 2 = _; omega) (by show (2811 + 13 * i) + 2 + 11 = _; omega) (fun rr g hp => ?_)
    obtain ⟨rfl, p0, p1, p2, pf⟩ := hp
    show Vg _ _ _ 131 _ [.ref (39 + 3 * i + 1), .int (nI i), .ref 16] ((39 + 3 * i) + 1 + 2) g _ _
    have e16 : g 16 = .inl (3, 24, .inr (.inr (.inr (.inr (G3 40 3 i))))) := (pf 16 (by omega)).trans ((hu_ne _ _ (by omega)).trans h2)
    refine x_aast3 (q := 132) dX9_init_131 rfl e16 p0 (show vwCl[0]? = some (RX0, TX0, 2) from rfl) (vp_in_nI hil (by decide)) (by omega) (by omega) ?_
    rw [nI_clamp (by omega), show (39 + 3 * i + 1) = 40 + 3 * i by omega, G3_s]
    refine Vg.nm (fun g2 e2 => ?_)
    refine x_iinc (q := 135) dX9_init_132 rfl rfl (nI_inc i) (by decide) ?_
    refine x_goto (q := 113) dX9_init_135 (by decide) ?_
    rw [show 40 + 3 * i + 2 = 39 + 3 * (i + 1) by omega]
    refine lp_c9a m (i + 1) g2 (by omega) ?_ ?_ ?_ ?_
    · rw [e2, hu_ne _ _ (by omega), pf 1 (by omega), hu_ne _ _ (by omega)]; exact h1
    · rw [e2]; exact hu_eq _ _ _
    · rw [e2, hu_ne _ _ (by omega), pf 24 (by omega), hu_ne _ _ (by omega)]; exact h3
    · intro j q1 q2 q3 q4
      rw [e2, hu_ne _ _ (by omega)]
      by_cases e : j < (39 + 3 * i + 1)
      · rw [pf j e, hu_ne _ _ (by omega)]; exact hA j q1 (by omega) q3 q4
      · have tb := T0_B hil
        have hj : j = 40 + 3 * i ∨ j = 41 + 3 * i ∨ j = 42 + 3 * i := by omega
        rcases hj with rfl | rfl | rfl
        · rw [tb.1, show 40 + 3 * i = 39 + 3 * i + 1 by omega, p0]
        · rw [tb.2.1, show 41 + 3 * i = 39 + 3 * i + 1 + 1 by omega, p1]
        · rw [tb.2.2, show 42 + 3 * i = 39 + 3 * i + 1 + 1 + 1 by omega, p2]
theorem c_X9_init {h : HF} (h0 : h 1 = .inr (9, [.null, .null, .null, .null, .int 0, .null, .null, .null, .null, .null, .int 0, .int 0])) : Mc mX9_init [.ref 1] 1 h P9 := by
  refine Mc.of (by decide) rfl (Nat.le_of_ble_eq_true rfl) ?_
  have A0 : A9 1 h := fun j q1 q2 => by omega
  refine x_aload_n (q := 1) dX9_init_0 rfl rfl rfl ?_
  refine x_obj (q := 4) dX9_init_1 rfl o_X9_3 q_obi q_obj (by decide) (by decide) ?_
  refine x_aload_n (q := 5) dX9_init_4 rfl rfl rfl ?_
  refine x_new (q := 8) dX9_init_5 rfl n_X9_9 (by decide) (by decide) (kc' := 1) (ks' := 3) rfl rfl ?_
  show Vg _ _ _ 8 _ [.ref 2, .ref 1] 2 (hu _ 2 _) 1 3
  refine x_dup (q := 9) dX9_init_8 rfl rfl ?_
  refine x_ci (q := 12) (av := []) (rest := [.ref 2, .ref 1]) dX9_init_9 rfl l_X9_11 (c_X5_init (by omega) (hu_eq _ _ _)) rfl rfl (by omega) rfl rfl (kc' := 3) (ks' := 51) rfl rfl (fun rr h1 hp => ?_)
  obtain ⟨rfl, p0, p1, p2, pf⟩ := hp
  show Vg _ _ _ 12 _ [.ref 2, .ref 1] 4 h1 3 51
  have Bh1 : h1 1 = .inr (9, [.null, .null, .null, .null, .int 0, .null, .null, .null, .null, .null, .int 0, .int 0]) := (pf 1 (by decide)).trans ((hu_ne _ _ (by decide)).trans h0)
  have Ah1 : A9 4 h1 := by
    intro j q1 q2 q3 q4
    by_cases e : j < 2
    · rw [pf j e, hu_ne _ _ (by omega)]; exact A0 j q1 (by omega) q3 q4
    · have hj : j = 2 ∨ j = 3 ∨ j = 4 := by omega
      rcases hj with rfl | rfl | rfl
      · exact p0
      · exact p1
      · exact p2
  clear pf p0 p1 p2
  refine x_putF (q := 15) (a := 1) (fs := [.null, .null, .null, .null, .int 0, .null, .null, .null, .null, .null, .int 0, .int 0]) dX9_init_12 rfl f_X9_12 rfl ⟨TX9, 12, rfl⟩ ff_X9_12 Bh1 (Nat.le_of_ble_eq_true rfl) rfl rfl (by decide) ?_
  refine Vg.nm (fun h2 eh2 => ?_)
  have Bh2 : h2 1 = .inr (9, [.ref 2, .null, .null, .null, .int 0, .null, .null, .null, .null, .null, .int 0, .int 0]) := by rw [eh2]; exact hu_eq _ _ _
  have Ah2 : A9 4 h2 := fun j q1 q2 q3 q4 => by rw [eh2, hu_ne _ _ (by omega)]; exact Ah1 j q1 q2 q3 q4
  refine x_aload_n (q := 16) dX9_init_15 rfl rfl rfl ?_
  refine x_new (q := 19) dX9_init_16 rfl n_X9_16 (by decide) (by decide) (kc' := 4) (ks' := 56) rfl rfl ?_
  show Vg _ _ _ 19 _ [.ref 5, .ref 1] 5 (hu _ 5 _) 4 56
  refine x_dup (q := 20) dX9_init_19 rfl rfl ?_
  refine x_ci (q := 23) (av := []) (rest := [.ref 5, .ref 1]) dX9_init_20 rfl l_X9_18 (c_X7_init (by omega) (hu_eq _ _ _)) rfl rfl (by omega) rfl rfl (kc' := 7) (ks' := 176) rfl rfl (fun rr h3 hp => ?_)
  obtain ⟨rfl, p0, p1, p2, p3, pf⟩ := hp
  show Vg _ _ _ 23 _ [.ref 5, .ref 1] 8 h3 7 176
  have Bh3 : h3 1 = .inr (9, [.ref 2, .null, .null, .null, .int 0, .null, .null, .null, .null, .null, .int 0, .int 0]) := (pf 1 (by decide)).trans ((hu_ne _ _ (by decide)).trans Bh2)
  have Ah3 : A9 8 h3 := by
    intro j q1 q2 q3 q4
    by_cases e : j < 5
    · rw [pf j e, hu_ne _ _ (by omega)]; exact Ah2 j q1 (by omega) q3 q4
    · have hj : j = 5 ∨ j = 6 ∨ j = 7 ∨ j = 8 := by omega
      rcases hj with rfl | rfl | rfl | rfl
      · exact p0
      · exact p1
      · exact p2
      · exact p3
  clear pf p0 p1 p2 p3
  refine x_putF (q := 26) (a := 1) (fs := [.ref 2, .null, .null, .null, .int 0, .null, .null, .null, .null, .null, .int 0, .int 0]) dX9_init_23 rfl f_X9_19 rfl ⟨TX9, 12, rfl⟩ ff_X9_19 Bh3 (Nat.le_of_ble_eq_true rfl) rfl rfl (by decide) ?_
  refine Vg.nm (fun h4 eh4 => ?_)
  have Bh4 : h4 1 = .inr (9, [.ref 2, .ref 5, .null, .null, .int 0, .null, .null, .null, .null, .null, .int 0, .int 0]) := by rw [eh4]; exact hu_eq _ _ _
  have Ah4 : A9 8 h4 := fun j q1 q2 q3 q4 => by rw [eh4, hu_ne _ _ (by omega)]; exact Ah3 j q1 q2 q3 q4
  refine x_aload_n (q := 27) dX9_init_26 rfl rfl rfl ?_
  refine x_new (q := 30) dX9_init_27 rfl n_X9_23 (by decide) (by decide) (kc' := 8) (ks' := 183) rfl rfl ?_
  show Vg _ _ _ 30 _ [.ref 9, .ref 1] 9 (hu _ 9 _) 8 183
  refine x_dup (q := 31) dX9_init_30 rfl rfl ?_
  refine x_ci (q := 34) (av := []) (rest := [.ref 9, .ref 1]) dX9_init_31 rfl l_X9_25 (c_X1_init (by omega) (hu_eq _ _ _)) rfl rfl (by omega) rfl rfl (kc' := 14) (ks' := 603) rfl rfl (fun rr h5 hp => ?_)
  obtain ⟨rfl, p0, p1, p2, p3, p4, p5, p6, pf⟩ := hp
  show Vg _ _ _ 34 _ [.ref 9, .ref 1] 15 h5 14 603
  have Bh5 : h5 1 = .inr (9, [.ref 2, .ref 5, .null, .null, .int 0, .null, .null, .null, .null, .null, .int 0, .int 0]) := (pf 1 (by decide)).trans ((hu_ne _ _ (by decide)).trans Bh4)
  have Ah5 : A9 15 h5 := by
    intro j q1 q2 q3 q4
    by_cases e : j < 9
    · rw [pf j e, hu_ne _ _ (by omega)]; exact Ah4 j q1 (by omega) q3 q4
    · have hj : j = 9 ∨ j = 10 ∨ j = 11 ∨ j = 12 ∨ j = 13 ∨ j = 14 ∨ j = 15 := by omega
      rcases hj with rfl | rfl | rfl | rfl | rfl | rfl | rfl
      · exact p0
      · exact p1
      · exact p2
      · exact p3
      · exact p4
      · exact p5
      · exact p6
  clear pf p0 p1 p2 p3 p4 p5 p6
  refine x_putF (q := 37) (a := 1) (fs := [.ref 2, .ref 5, .null, .null, .int 0, .null, .null, .null, .null, .null, .int 0, .int 0]) dX9_init_34 rfl f_X9_26 rfl ⟨TX9, 12, rfl⟩ ff_X9_26 Bh5 (Nat.le_of_ble_eq_true rfl) rfl rfl (by decide) ?_
  refine Vg.nm (fun h6 eh6 => ?_)
  have Bh6 : h6 1 = .inr (9, [.ref 2, .ref 5, .ref 9, .null, .int 0, .null, .null, .null, .null, .null, .int 0, .int 0]) := by rw [eh6]; exact hu_eq _ _ _
  have Ah6 : A9 15 h6 := fun j q1 q2 q3 q4 => by rw [eh6, hu_ne _ _ (by omega)]; exact Ah5 j q1 q2 q3 q4
  refine x_aload_n (q := 38) dX9_init_37 rfl rfl rfl ?_
  refine x_bipush (q := 40) (v := 24) dX9_init_38 rfl (by decide) ?_
  refine x_newa3 (q := 43) (N := 24) dX9_init_40 rfl n_X9_30c (by decide) (by decide) (by decide) (by decide) (by decide) (kc' := 15) (ks' := 627) rfl rfl ?_
  show Vg _ _ _ 43 _ [.ref 16, .ref 1] 16 (hu _ 16 _) 15 627
  refine Vg.nm (fun h7 eh7 => ?_)
  have Bh7 : h7 1 = .inr (9, [.ref 2, .ref 5, .ref 9, .null, .int 0, .null, .null, .null, .null, .null, .int 0, .int 0]) := by rw [eh7, hu_ne _ _ (by decide)]; exact Bh6
  have Ah7 : A9 16 h7 := fun j q1 q2 q3 q4 => by rw [eh7, hu_ne _ _ (by omega)]; exact Ah6 j q1 (by omega) q3 q4
  have Ch7 : h7 16 = .inl (3, 24, .inr (.inr (.inr (.inr (fun _ => none))))) := by rw [eh7]; exact hu_eq _ _ _
  refine x_putF (q := 46) (a := 1) (fs := [.ref 2, .ref 5, .ref 9, .null, .int 0, .null, .null, .null, .null, .null, .int 0, .int 0]) dX9_init_43 rfl f_X9_32 rfl ⟨TX9, 12, rfl⟩ ff_X9_32 Bh7 (Nat.le_of_ble_eq_true rfl) rfl rfl (by decide) ?_
  refine Vg.nm (fun h8 eh8 => ?_)
  have Bh8 : h8 1 = .inr (9, [.ref 2, .ref 5, .ref 9, .ref 16, .int 0, .null, .null, .null, .null, .null, .int 0, .int 0]) := by rw [eh8]; exact hu_eq _ _ _
  have Ah8 : A9 16 h8 := fun j q1 q2 q3 q4 => by rw [eh8, hu_ne _ _ (by omega)]; exact Ah7 j q1 q2 q3 q4
  have Ch8 : h8 16 = .inl (3, 24, .inr (.inr (.inr (.inr (fun _ => none))))) := by rw [eh8, hu_ne _ _ (by decide)]; exact Ch7
  refine x_aload_n (q := 47) dX9_init_46 rfl rfl rfl ?_
  refine x_iconst (q := 48) (v := 0) dX9_init_47 rfl (by decide) ?_
  refine x_put (q := 51) (a := 1) (fs := [.ref 2, .ref 5, .ref 9, .ref 16, .int 0, .null, .null, .null, .null, .null, .int 0, .int 0]) dX9_init_48 rfl f_X9_36 Bh8 (Nat.le_of_ble_eq_true rfl) rfl rfl (by decide) ?_
  refine Vg.nm (fun h9 eh9 => ?_)
  have Bh9 : h9 1 = .inr (9, [.ref 2, .ref 5, .ref 9, .ref 16, .int 0, .null, .null, .null, .null, .null, .int 0, .int 0]) := by rw [eh9]; exact hu_eq _ _ _
  have Ah9 : A9 16 h9 := fun j q1 q2 q3 q4 => by rw [eh9, hu_ne _ _ (by omega)]; exact Ah8 j q1 q2 q3 q4
  have Ch9 : h9 16 = .inl (3, 24, .inr (.inr (.inr (.inr (fun _ => none))))) := by rw [eh9, hu_ne _ _ (by decide)]; exact Ch8
  refine x_aload_n (q := 52) dX9_init_51 rfl rfl rfl ?_
  refine x_new (q := 55) dX9_init_52 rfl n_X9_40 (by decide) (by decide) (kc' := 16) (ks' := 638) rfl rfl ?_
  show Vg _ _ _ 55 _ [.ref 17, .ref 1] 17 (hu _ 17 _) 16 638
  refine x_dup (q := 56) dX9_init_55 rfl rfl ?_
  refine x_ci (q := 59) (av := []) (rest := [.ref 17, .ref 1]) dX9_init_56 rfl l_X9_42 (c_X2_init (by omega) (hu_eq _ _ _)) rfl rfl (by omega) rfl rfl (kc' := 22) (ks' := 671) rfl rfl (fun rr h10 hp => ?_)
  obtain ⟨rfl, p0, p1, p2, p3, p4, p5, p6, pf⟩ := hp
  show Vg _ _ _ 59 _ [.ref 17, .ref 1] 23 h10 22 671
  have Bh10 : h10 1 = .inr (9, [.ref 2, .ref 5, .ref 9, .ref 16, .int 0, .null, .null, .null, .null, .null, .int 0, .int 0]) := (pf 1 (by decide)).trans ((hu_ne _ _ (by decide)).trans Bh9)
  have Ah10 : A9 23 h10 := by
    intro j q1 q2 q3 q4
    by_cases e : j < 17
    · rw [pf j e, hu_ne _ _ (by omega)]; exact Ah9 j q1 (by omega) q3 q4
    · have hj : j = 17 ∨ j = 18 ∨ j = 19 ∨ j = 20 ∨ j = 21 ∨ j = 22 ∨ j = 23 := by omega
      rcases hj with rfl | rfl | rfl | rfl | rfl | rfl | rfl
      · exact p0
      · exact p1
      · exact p2
      · exact p3
      · exact p4
      · exact p5
      · exact p6
  have Ch10 : h10 16 = .inl (3, 24, .inr (.inr (.inr (.inr (fun _ => none))))) := (pf 16 (by decide)).trans ((hu_ne _ _ (by decide)).trans Ch9)
  clear pf p0 p1 p2 p3 p4 p5 p6
  refine x_putF (q := 62) (a := 1) (fs := [.ref 2, .ref 5, .ref 9, .ref 16, .int 0, .null, .null, .null, .null, .null, .int 0, .int 0]) dX9_init_59 rfl f_X9_43 rfl ⟨TX9, 12, rfl⟩ ff_X9_43 Bh10 (Nat.le_of_ble_eq_true rfl) rfl rfl (by decide) ?_
  refine Vg.nm (fun h11 eh11 => ?_)
  have Bh11 : h11 1 = .inr (9, [.ref 2, .ref 5, .ref 9, .ref 16, .int 0, .ref 17, .null, .null, .null, .null, .int 0, .int 0]) := by rw [eh11]; exact hu_eq _ _ _
  have Ah11 : A9 23 h11 := fun j q1 q2 q3 q4 => by rw [eh11, hu_ne _ _ (by omega)]; exact Ah10 j q1 q2 q3 q4
  have Ch11 : h11 16 = .inl (3, 24, .inr (.inr (.inr (.inr (fun _ => none))))) := by rw [eh11, hu_ne _ _ (by decide)]; exact Ch10
  refine x_aload_n (q := 63) dX9_init_62 rfl rfl rfl ?_
  refine x_iconst (q := 64) (v := 5) dX9_init_63 rfl (by decide) ?_
  refine x_newa4 (q := 67) (N := 5) dX9_init_64 rfl n_X9_47c (by decide) (by decide) (by decide) (by decide) (by decide) (kc' := 23) (ks' := 676) rfl rfl ?_
  show Vg _ _ _ 67 _ [.ref 24, .ref 1] 24 (hu _ 24 _) 23 676
  refine Vg.nm (fun h12 eh12 => ?_)
  have Bh12 : h12 1 = .inr (9, [.ref 2, .ref 5, .ref 9, .ref 16, .int 0, .ref 17, .null, .null, .null, .null, .int 0, .int 0]) := by rw [eh12, hu_ne _ _ (by decide)]; exact Bh11
  have Ah12 : A9 24 h12 := fun j q1 q2 q3 q4 => by rw [eh12, hu_ne _ _ (by omega)]; exact Ah11 j q1 (by omega) q3 q4
  have Ch12 : h12 16 = .inl (3, 24, .inr (.inr (.inr (.inr (fun _ => none))))) := by rw [eh12, hu_ne _ _ (by decide)]; exact Ch11
  have Dh12 : h12 24 = .inl (4, 5, .inr (.inr (.inr (.inr (fun _ => none))))) := by rw [eh12]; exact hu_eq _ _ _
  refine x_putF (q := 70) (a := 1) (fs := [.ref 2, .ref 5, .ref 9, .ref 16, .int 0, .ref 17, .null, .null, .null, .null, .int 0, .int 0]) dX9_init_67 rfl f_X9_49 rfl ⟨TX9, 12, rfl⟩ ff_X9_49 Bh12 (Nat.le_of_ble_eq_true rfl) rfl rfl (by decide) ?_
  refine Vg.nm (fun h13 eh13 => ?_)
  have Bh13 : h13 1 = .inr (9, [.ref 2, .ref 5, .ref 9, .ref 16, .int 0, .ref 17, .ref 24, .null, .null, .null, .int 0, .int 0]) := by rw [eh13]; exact hu_eq _ _ _
  have Ah13 : A9 24 h13 := fun j q1 q2 q3 q4 => by rw [eh13, hu_ne _ _ (by omega)]; exact Ah12 j q1 q2 q3 q4
  have Ch13 : h13 16 = .inl (3, 24, .inr (.inr (.inr (.inr (fun _ => none))))) := by rw [eh13, hu_ne _ _ (by decide)]; exact Ch12
  have Dh13 : h13 24 = .inl (4, 5, .inr (.inr (.inr (.inr (fun _ => none))))) := by rw [eh13, hu_ne _ _ (by decide)]; exact Dh12
  refine x_aload_n (q := 71) dX9_init_70 rfl rfl rfl ?_
  refine x_new (q := 74) dX9_init_71 rfl n_X9_53 (by decide) (by decide) (kc' := 24) (ks' := 682) rfl rfl ?_
  show Vg _ _ _ 74 _ [.ref 25, .ref 1] 25 (hu _ 25 _) 24 682
  refine x_dup (q := 75) dX9_init_74 rfl rfl ?_
  refine x_ci (q := 78) (av := []) (rest := [.ref 25, .ref 1]) dX9_init_75 rfl l_X9_55 (c_X3_init (by omega) (hu_eq _ _ _)) rfl rfl (by omega) rfl rfl (kc' := 29) (ks' := 1182) rfl rfl (fun rr h14 hp => ?_)
  obtain ⟨rfl, p0, p1, p2, p3, p4, p5, pf⟩ := hp
  show Vg _ _ _ 78 _ [.ref 25, .ref 1] 30 h14 29 1182
  have Bh14 : h14 1 = .inr (9, [.ref 2, .ref 5, .ref 9, .ref 16, .int 0, .ref 17, .ref 24, .null, .null, .null, .int 0, .int 0]) := (pf 1 (by decide)).trans ((hu_ne _ _ (by decide)).trans Bh13)
  have Ah14 : A9 30 h14 := by
    intro j q1 q2 q3 q4
    by_cases e : j < 25
    · rw [pf j e, hu_ne _ _ (by omega)]; exact Ah13 j q1 (by omega) q3 q4
    · have hj : j = 25 ∨ j = 26 ∨ j = 27 ∨ j = 28 ∨ j = 29 ∨ j = 30 := by omega
      rcases hj with rfl | rfl | rfl | rfl | rfl | rfl
      · exact p0
      · exact p1
      · exact p2
      · exact p3
      · exact p4
      · exact p5
  have Ch14 : h14 16 = .inl (3, 24, .inr (.inr (.inr (.inr (fun _ => none))))) := (pf 16 (by decide)).trans ((hu_ne _ _ (by decide)).trans Ch13)
  have Dh14 : h14 24 = .inl (4, 5, .inr (.inr (.inr (.inr (fun _ => none))))) := (pf 24 (by decide)).trans ((hu_ne _ _ (by decide)).trans Dh13)
  clear pf p0 p1 p2 p3 p4 p5
  refine x_putF (q := 81) (a := 1) (fs := [.ref 2, .ref 5, .ref 9, .ref 16, .int 0, .ref 17, .ref 24, .null, .null, .null, .int 0, .int 0]) dX9_init_78 rfl f_X9_56 rfl ⟨TX9, 12, rfl⟩ ff_X9_56 Bh14 (Nat.le_of_ble_eq_true rfl) rfl rfl (by decide) ?_
  refine Vg.nm (fun h15 eh15 => ?_)
  have Bh15 : h15 1 = .inr (9, [.ref 2, .ref 5, .ref 9, .ref 16, .int 0, .ref 17, .ref 24, .ref 25, .null, .null, .int 0, .int 0]) := by rw [eh15]; exact hu_eq _ _ _
  have Ah15 : A9 30 h15 := fun j q1 q2 q3 q4 => by rw [eh15, hu_ne _ _ (by omega)]; exact Ah14 j q1 q2 q3 q4
  have Ch15 : h15 16 = .inl (3, 24, .inr (.inr (.inr (.inr (fun _ => none))))) := by rw [eh15, hu_ne _ _ (by decide)]; exact Ch14
  have Dh15 : h15 24 = .inl (4, 5, .inr (.inr (.inr (.inr (fun _ => none))))) := by rw [eh15, hu_ne _ _ (by decide)]; exact Dh14
  refine x_aload_n (q := 82) dX9_init_81 rfl rfl rfl ?_
  refine x_new (q := 85) dX9_init_82 rfl n_X9_60 (by decide) (by decide) (kc' := 30) (ks' := 1191) rfl rfl ?_
  show Vg _ _ _ 85 _ [.ref 31, .ref 1] 31 (hu _ 31 _) 30 1191
  refine x_dup (q := 86) dX9_init_85 rfl rfl ?_
  refine x_ci (q := 89) (av := []) (rest := [.ref 31, .ref 1]) dX9_init_86 rfl l_X9_62 (c_X6_init (by omega) (hu_eq _ _ _)) rfl rfl (by omega) rfl rfl (kc' := 37) (ks' := 2803) rfl rfl (fun rr h16 hp => ?_)
  obtain ⟨rfl, p0, p1, p2, p3, p4, p5, p6, p7, pf⟩ := hp
  show Vg _ _ _ 89 _ [.ref 31, .ref 1] 38 h16 37 2803
  have Bh16 : h16 1 = .inr (9, [.ref 2, .ref 5, .ref 9, .ref 16, .int 0, .ref 17, .ref 24, .ref 25, .null, .null, .int 0, .int 0]) := (pf 1 (by decide)).trans ((hu_ne _ _ (by decide)).trans Bh15)
  have Ah16 : A9 38 h16 := by
    intro j q1 q2 q3 q4
    by_cases e : j < 31
    · rw [pf j e, hu_ne _ _ (by omega)]; exact Ah15 j q1 (by omega) q3 q4
    · have hj : j = 31 ∨ j = 32 ∨ j = 33 ∨ j = 34 ∨ j = 35 ∨ j = 36 ∨ j = 37 ∨ j = 38 := by omega
      rcases hj with rfl | rfl | rfl | rfl | rfl | rfl | rfl | rfl
      · exact p0
      · exact p1
      · exact p2
      · exact p3
      · exact p4
      · exact p5
      · exact p6
      · exact p7
  have Ch16 : h16 16 = .inl (3, 24, .inr (.inr (.inr (.inr (fun _ => none))))) := (pf 16 (by decide)).trans ((hu_ne _ _ (by decide)).trans Ch15)
  have Dh16 : h16 24 = .inl (4, 5, .inr (.inr (.inr (.inr (fun _ => none))))) := (pf 24 (by decide)).trans ((hu_ne _ _ (by decide)).trans Dh15)
  clear pf p0 p1 p2 p3 p4 p5 p6 p7
  refine x_putF (q := 92) (a := 1) (fs := [.ref 2, .ref 5, .ref 9, .ref 16, .int 0, .ref 17, .ref 24, .ref 25, .null, .null, .int 0, .int 0]) dX9_init_89 rfl f_X9_63 rfl ⟨TX9, 12, rfl⟩ ff_X9_63 Bh16 (Nat.le_of_ble_eq_true rfl) rfl rfl (by decide) ?_
  refine Vg.nm (fun h17 eh17 => ?_)
  have Bh17 : h17 1 = .inr (9, [.ref 2, .ref 5, .ref 9, .ref 16, .int 0, .ref 17, .ref 24, .ref 25, .ref 31, .null, .int 0, .int 0]) := by rw [eh17]; exact hu_eq _ _ _
  have Ah17 : A9 38 h17 := fun j q1 q2 q3 q4 => by rw [eh17, hu_ne _ _ (by omega)]; exact Ah16 j q1 q2 q3 q4
  have Ch17 : h17 16 = .inl (3, 24, .inr (.inr (.inr (.inr (fun _ => none))))) := by rw [eh17, hu_ne _ _ (by decide)]; exact Ch16
  have Dh17 : h17 24 = .inl (4, 5, .inr (.inr (.inr (.inr (fun _ => none))))) := by rw [eh17, hu_ne _ _ (by decide)]; exact Dh16
  refine x_aload_n (q := 93) dX9_init_92 rfl rfl rfl ?_
  refine x_bipush (q := 95) (v := 8) dX9_init_93 rfl (by decide) ?_
  refine x_newai (q := 97) (N := 8) dX9_init_95 rfl q_newi (by decide) (by decide) (by decide) (by decide) (by decide) (kc' := 38) (ks' := 2811) rfl rfl ?_
  show Vg _ _ _ 97 _ [.ref 39, .ref 1] 39 (hu _ 39 _) 38 2811
  refine Vg.nm (fun h18 eh18 => ?_)
  have Bh18 : h18 1 = .inr (9, [.ref 2, .ref 5, .ref 9, .ref 16, .int 0, .ref 17, .ref 24, .ref 25, .ref 31, .null, .int 0, .int 0]) := by rw [eh18, hu_ne _ _ (by decide)]; exact Bh17
  have Ah18 : A9 39 h18 := by
    intro j q1 q2 q3 q4
    by_cases e : j = 39
    · rw [e, eh18]; exact hu_eq _ _ _
    · rw [eh18, hu_ne _ _ e]; exact Ah17 j q1 (by omega) q3 q4
  have Ch18 : h18 16 = .inl (3, 24, .inr (.inr (.inr (.inr (fun _ => none))))) := by rw [eh18, hu_ne _ _ (by decide)]; exact Ch17
  have Dh18 : h18 24 = .inl (4, 5, .inr (.inr (.inr (.inr (fun _ => none))))) := by rw [eh18, hu_ne _ _ (by decide)]; exact Dh17
  refine x_putF (q := 100) (a := 1) (fs := [.ref 2, .ref 5, .ref 9, .ref 16, .int 0, .ref 17, .ref 24, .ref 25, .ref 31, .null, .int 0, .int 0]) dX9_init_97 rfl f_X9_67 rfl ⟨TX9, 12, rfl⟩ ff_X9_67 Bh18 (Nat.le_of_ble_eq_true rfl) rfl rfl (by decide) ?_
  refine Vg.nm (fun h19 eh19 => ?_)
  have Bh19 : h19 1 = .inr (9, [.ref 2, .ref 5, .ref 9, .ref 16, .int 0, .ref 17, .ref 24, .ref 25, .ref 31, .ref 39, .int 0, .int 0]) := by rw [eh19]; exact hu_eq _ _ _
  have Ah19 : A9 39 h19 := fun j q1 q2 q3 q4 => by rw [eh19, hu_ne _ _ (by omega)]; exact Ah18 j q1 q2 q3 q4
  have Ch19 : h19 16 = .inl (3, 24, .inr (.inr (.inr (.inr (fun _ => none))))) := by rw [eh19, hu_ne _ _ (by decide)]; exact Ch18
  have Dh19 : h19 24 = .inl (4, 5, .inr (.inr (.inr (.inr (fun _ => none))))) := by rw [eh19, hu_ne _ _ (by decide)]; exact Dh18
  refine x_aload_n (q := 101) dX9_init_100 rfl rfl rfl ?_
  refine x_bipush (q := 103) (v := 10) dX9_init_101 rfl (by decide) ?_
  refine x_put (q := 106) (a := 1) (fs := [.ref 2, .ref 5, .ref 9, .ref 16, .int 0, .ref 17, .ref 24, .ref 25, .ref 31, .ref 39, .int 0, .int 0]) dX9_init_103 rfl f_X9_71 Bh19 (Nat.le_of_ble_eq_true rfl) rfl rfl (by decide) ?_
  refine Vg.nm (fun h20 eh20 => ?_)
  have Bh20 : h20 1 = .inr (9, [.ref 2, .ref 5, .ref 9, .ref 16, .int 0, .ref 17, .ref 24, .ref 25, .ref 31, .ref 39, .int 10, .int 0]) := by rw [eh20]; exact hu_eq _ _ _
  have Ah20 : A9 39 h20 := fun j q1 q2 q3 q4 => by rw [eh20, hu_ne _ _ (by omega)]; exact Ah19 j q1 q2 q3 q4
  have Ch20 : h20 16 = .inl (3, 24, .inr (.inr (.inr (.inr (fun _ => none))))) := by rw [eh20, hu_ne _ _ (by decide)]; exact Ch19
  have Dh20 : h20 24 = .inl (4, 5, .inr (.inr (.inr (.inr (fun _ => none))))) := by rw [eh20, hu_ne _ _ (by decide)]; exact Dh19
  refine x_aload_n (q := 107) dX9_init_106 rfl rfl rfl ?_
  refine x_iconst (q := 108) (v := 0) dX9_init_107 rfl (by decide) ?_
  refine x_put (q := 111) (a := 1) (fs := [.ref 2, .ref 5, .ref 9, .ref 16, .int 0, .ref 17, .ref 24, .ref 25, .ref 31, .ref 39, .int 10, .int 0]) dX9_init_108 rfl f_X9_74 Bh20 (Nat.le_of_ble_eq_true rfl) rfl rfl (by decide) ?_
  refine Vg.nm (fun h21 eh21 => ?_)
  have Bh21 : h21 1 = .inr (9, [.ref 2, .ref 5, .ref 9, .ref 16, .int 0, .ref 17, .ref 24, .ref 25, .ref 31, .ref 39, .int 10, .int 0]) := by rw [eh21]; exact hu_eq _ _ _
  have Ah21 : A9 39 h21 := fun j q1 q2 q3 q4 => by rw [eh21, hu_ne _ _ (by omega)]; exact Ah20 j q1 q2 q3 q4
  have Ch21 : h21 16 = .inl (3, 24, .inr (.inr (.inr (.inr (fun _ => none))))) := by rw [eh21, hu_ne _ _ (by decide)]; exact Ch20
  have Dh21 : h21 24 = .inl (4, 5, .inr (.inr (.inr (.inr (fun _ => none))))) := by rw [eh21, hu_ne _ _ (by decide)]; exact Dh20
  refine x_iconst (q := 112) (v := 0) dX9_init_111 rfl (by decide) ?_
  refine x_istore_n (q := 113) dX9_init_112 rfl rfl (by decide) ?_
  exact lp_c9a 24 0 h21 rfl Bh21 Ch21 Dh21 Ah21
