def P10 : PQ := fun r h' => r = none ∧ ∀ j, 1 ≤ j → j ≤ 170 → h' j = T0 j
def R10 (h : HF) : Prop := ∀ j, 1 ≤ j → j ≤ 170 → j ≠ 149 → h j = T0 j
theorem fs10 : T0 132 = .inr (10, [.int 0, .int 0, .ref 133, .ref 134, .int 0, .ref 135, .ref 136, .ref 137, .int 0, .ref 138, .ref 139, .ref 140, .ref 141, .ref 142, .ref 143, .int 0, .ref 144, .ref 145, .ref 146, .int 0, .ref 147, .ref 148, .ref 149, .ref 150, .ref 151, .ref 152, .ref 153, .ref 154, .ref 155, .ref 156, .int 10, .int 0, .ref 157, .ref 158, .ref 159, .ref 160, .ref 161, .int 0, .int 0, .ref 162, .ref 163, .ref 164, .ref 165, .ref 166, .int 0, .ref 167, .ref 168, .ref 169, .ref 170]) := rfl
theorem lp_c10 : ∀ (m i : Nat) (h : HF), i + m = 5 → h 149 = .inl (0, 5, .inl (filF (fun _ => 0) 1000 i)) → R10 h → Vg mX10_init none (QM mX10_init 132 P10) 312 [some (.ref 132), some (.int (nI i))] [] 170 h 38 3825
  | 0, i, h, hi, h2, hR => by
    obtain rfl : i = 5 := by omega
    refine x_iload_n (q := 313) dX10_init_312 rfl rfl rfl ?_
    refine x_iconst (q := 314) (v := 5) dX10_init_313 rfl (by decide) ?_
    refine x_ic_ge (q := 317) (t := 332) dX10_init_314 rfl (by decide) (fun _ => ?_) (fun c_ => absurd (by decide) c_)
    refine x_vret dX10_init_332 rfl rfl (Nat.le_of_ble_eq_true rfl) rfl ⟨rfl, fun j q1 q2 => ?_⟩
    by_cases e1 : j = 149
    · rw [e1, h2]; rfl
    · exact hR j q1 q2 e1
  | m + 1, i, h, hi, h2, hR => by
    have hil : i < 5 := by omega
    refine x_iload_n (q := 313) dX10_init_312 rfl rfl rfl ?_
    refine x_iconst (q := 314) (v := 5) dX10_init_313 rfl (by decide) ?_
    refine x_ic_ge (q := 317) (t := 332) dX10_init_314 rfl (by decide) (fun c_ => absurd c_ (Int32.not_le.mpr (show nI i < nI 5 from nI_lt hil (by decide)))) (fun _ => ?_)
    refine x_aload_n (q := 318) dX10_init_317 rfl rfl rfl ?_
    refine x_get (q := 321) dX10_init_318 rfl f_X10_60 ((hR 132 (by decide) (by decide) (by decide)).trans fs10) rfl (by decide) ?_
    refine x_iload_n (q := 322) dX10_init_321 rfl rfl rfl ?_
    refine x_sipush (q := 325) (v := 1000) dX10_init_322 rfl (by decide) ?_
    refine x_iast (q := 326) dX10_init_325 rfl h2 (vp_in_nI hil (by decide)) (by decide) ?_
    rw [nI_clamp (by omega), filF_s]
    refine Vg.nm (fun g2 e2 => ?_)
    refine x_iinc (q := 329) dX10_init_326 rfl rfl (nI_inc i) (by decide) ?_
    refine x_goto (q := 312) dX10_init_329 (by decide) ?_
    refine lp_c10 m (i + 1) g2 (by omega) ?_ ?_
    · rw [e2]; exact hu_eq _ _ _
    · intro j q1 q2 q3
      rw [e2, hu_ne _ _ q3]; exact hR j q1 q2 q3
def U0 (j : Nat) : CE := if j = 149 then .inl (0, 5, .inl (fun _ => 0)) else T0 j
def A10 (n : Nat) (h : HF) : Prop := ∀ j, 1 ≤ j → j ≤ n → j ≠ 132 → h j = U0 j
theorem A10_s {n : Nat} {g g' : HF} {c c' : CE} (hA : A10 n g) (hn : 132 ≤ n) (hc : c = U0 (n + 1)) (e : g' = hu (hu g (n + 1) c) 132 c') : A10 (n + 1) g' := by
  intro j q1 q2 q3
  rw [e, hu_ne _ _ q3]
  by_cases q : j = n + 1
  · rw [q, hu_eq]; exact hc
  · rw [hu_ne _ _ q]; exact hA j q1 (by omega) q3
theorem A10_p {n : Nat} {g g' : HF} {c' : CE} (hA : A10 n g) (e : g' = hu g 132 c') : A10 n g' := by
  intro j q1 q2 q3
  rw [e, hu_ne _ _ q3]; exact hA j q1 q2 q3
theorem c_X10_init {h : HF} (hT : ∀ j, 1 ≤ j → j ≤ 131 → h j = T0 j) (h0 : h 132 = .inr (10, [.int 0, .int 0, .null, .null, .int 0, .null, .null, .null, .int 0, .null, .null, .null, .null, .null, .null, .int 0, .null, .null, .null, .int 0, .null, .null, .null, .null, .null, .null, .null, .null, .null, .null, .int 0, .int 0, .null, .null, .null, .null, .null, .int 0, .int 0, .null, .null, .null, .null, .null, .int 0, .null, .null, .null, .null])) : Mc mX10_init [.ref 132] 132 h P10 := by
  refine Mc.of (by decide) rfl (Nat.le_of_ble_eq_true rfl) ?_
  have A0 : A10 132 h := fun j q1 q2 q3 => by rw [U0, if_neg (by omega)]; exact hT j q1 (by omega)
  refine x_aload_n (q := 1) dX10_init_0 rfl rfl rfl ?_
  refine x_obj (q := 4) dX10_init_1 rfl o_X10_1 q_obi q_obj (by decide) (by decide) ?_
  refine x_aload_n (q := 5) dX10_init_4 rfl rfl rfl ?_
  refine x_bipush (q := 7) (v := 24) dX10_init_5 rfl (by decide) ?_
  refine x_newai (q := 9) (N := 24) dX10_init_7 rfl q_newi (by decide) (by decide) (by decide) (by decide) (by decide) (kc' := 1) (ks' := 24) rfl rfl ?_
  show Vg _ _ _ 9 _ [.ref 133, .ref 132] 133 (hu _ 133 _) 1 24
  refine x_putF (q := 12) (a := 132) dX10_init_9 rfl f_X10_7 rfl ⟨TX10, 49, rfl⟩ ff_X10_7 ((hu_ne _ _ (by decide)).trans h0) (Nat.le_of_ble_eq_true rfl) rfl rfl (by decide) ?_
  refine Vg.nm (fun g1 eg1 => ?_)
  have Bg1 : g1 132 = .inr (10, [.int 0, .int 0, .ref 133, .null, .int 0, .null, .null, .null, .int 0, .null, .null, .null, .null, .null, .null, .int 0, .null, .null, .null, .int 0, .null, .null, .null, .null, .null, .null, .null, .null, .null, .null, .int 0, .int 0, .null, .null, .null, .null, .null, .int 0, .int 0, .null, .null, .null, .null, .null, .int 0, .null, .null, .null, .null]) := by rw [eg1]; exact hu_eq _ _ _
  have Ag1 : A10 133 g1 := A10_s A0 (by decide) rfl eg1
  clear eg1
  refine x_aload_n (q := 13) dX10_init_12 rfl rfl rfl ?_
  refine x_bipush (q := 15) (v := 24) dX10_init_13 rfl (by decide) ?_
  refine x_newai (q := 17) (N := 24) dX10_init_15 rfl q_newi (by decide) (by decide) (by decide) (by decide) (by decide) (kc' := 2) (ks' := 48) rfl rfl ?_
  show Vg _ _ _ 17 _ [.ref 134, .ref 132] 134 (hu _ 134 _) 2 48
  refine x_putF (q := 20) (a := 132) dX10_init_17 rfl f_X10_13 rfl ⟨TX10, 49, rfl⟩ ff_X10_13 ((hu_ne _ _ (by decide)).trans Bg1) (Nat.le_of_ble_eq_true rfl) rfl rfl (by decide) ?_
  refine Vg.nm (fun g2 eg2 => ?_)
  have Bg2 : g2 132 = .inr (10, [.int 0, .int 0, .ref 133, .ref 134, .int 0, .null, .null, .null, .int 0, .null, .null, .null, .null, .null, .null, .int 0, .null, .null, .null, .int 0, .null, .null, .null, .null, .null, .null, .null, .null, .null, .null, .int 0, .int 0, .null, .null, .null, .null, .null, .int 0, .int 0, .null, .null, .null, .null, .null, .int 0, .null, .null, .null, .null]) := by rw [eg2]; exact hu_eq _ _ _
  have Ag2 : A10 134 g2 := A10_s Ag1 (by decide) rfl eg2
  clear eg2 Bg1 Ag1
  refine x_aload_n (q := 21) dX10_init_20 rfl rfl rfl ?_
  refine x_bipush (q := 23) (v := 40) dX10_init_21 rfl (by decide) ?_
  refine x_newai (q := 25) (N := 40) dX10_init_23 rfl q_newi (by decide) (by decide) (by decide) (by decide) (by decide) (kc' := 3) (ks' := 88) rfl rfl ?_
  show Vg _ _ _ 25 _ [.ref 135, .ref 132] 135 (hu _ 135 _) 3 88
  refine x_putF (q := 28) (a := 132) dX10_init_25 rfl f_X10_16 rfl ⟨TX10, 49, rfl⟩ ff_X10_16 ((hu_ne _ _ (by decide)).trans Bg2) (Nat.le_of_ble_eq_true rfl) rfl rfl (by decide) ?_
  refine Vg.nm (fun g3 eg3 => ?_)
  have Bg3 : g3 132 = .inr (10, [.int 0, .int 0, .ref 133, .ref 134, .int 0, .ref 135, .null, .null, .int 0, .null, .null, .null, .null, .null, .null, .int 0, .null, .null, .null, .int 0, .null, .null, .null, .null, .null, .null, .null, .null, .null, .null, .int 0, .int 0, .null, .null, .null, .null, .null, .int 0, .int 0, .null, .null, .null, .null, .null, .int 0, .null, .null, .null, .null]) := by rw [eg3]; exact hu_eq _ _ _
  have Ag3 : A10 135 g3 := A10_s Ag2 (by decide) rfl eg3
  clear eg3 Bg2 Ag2
  refine x_aload_n (q := 29) dX10_init_28 rfl rfl rfl ?_
  refine x_bipush (q := 31) (v := 40) dX10_init_29 rfl (by decide) ?_
  refine x_newai (q := 33) (N := 40) dX10_init_31 rfl q_newi (by decide) (by decide) (by decide) (by decide) (by decide) (kc' := 4) (ks' := 128) rfl rfl ?_
  show Vg _ _ _ 33 _ [.ref 136, .ref 132] 136 (hu _ 136 _) 4 128
  refine x_putF (q := 36) (a := 132) dX10_init_33 rfl f_X10_19 rfl ⟨TX10, 49, rfl⟩ ff_X10_19 ((hu_ne _ _ (by decide)).trans Bg3) (Nat.le_of_ble_eq_true rfl) rfl rfl (by decide) ?_
  refine Vg.nm (fun g4 eg4 => ?_)
  have Bg4 : g4 132 = .inr (10, [.int 0, .int 0, .ref 133, .ref 134, .int 0, .ref 135, .ref 136, .null, .int 0, .null, .null, .null, .null, .null, .null, .int 0, .null, .null, .null, .int 0, .null, .null, .null, .null, .null, .null, .null, .null, .null, .null, .int 0, .int 0, .null, .null, .null, .null, .null, .int 0, .int 0, .null, .null, .null, .null, .null, .int 0, .null, .null, .null, .null]) := by rw [eg4]; exact hu_eq _ _ _
  have Ag4 : A10 136 g4 := A10_s Ag3 (by decide) rfl eg4
  clear eg4 Bg3 Ag3
  refine x_aload_n (q := 37) dX10_init_36 rfl rfl rfl ?_
  refine x_bipush (q := 39) (v := 40) dX10_init_37 rfl (by decide) ?_
  refine x_newai (q := 41) (N := 40) dX10_init_39 rfl q_newi (by decide) (by decide) (by decide) (by decide) (by decide) (kc' := 5) (ks' := 168) rfl rfl ?_
  show Vg _ _ _ 41 _ [.ref 137, .ref 132] 137 (hu _ 137 _) 5 168
  refine x_putF (q := 44) (a := 132) dX10_init_41 rfl f_X10_22 rfl ⟨TX10, 49, rfl⟩ ff_X10_22 ((hu_ne _ _ (by decide)).trans Bg4) (Nat.le_of_ble_eq_true rfl) rfl rfl (by decide) ?_
  refine Vg.nm (fun g5 eg5 => ?_)
  have Bg5 : g5 132 = .inr (10, [.int 0, .int 0, .ref 133, .ref 134, .int 0, .ref 135, .ref 136, .ref 137, .int 0, .null, .null, .null, .null, .null, .null, .int 0, .null, .null, .null, .int 0, .null, .null, .null, .null, .null, .null, .null, .null, .null, .null, .int 0, .int 0, .null, .null, .null, .null, .null, .int 0, .int 0, .null, .null, .null, .null, .null, .int 0, .null, .null, .null, .null]) := by rw [eg5]; exact hu_eq _ _ _
  have Ag5 : A10 137 g5 := A10_s Ag4 (by decide) rfl eg5
  clear eg5 Bg4 Ag4
  refine x_aload_n (q := 45) dX10_init_44 rfl rfl rfl ?_
  refine x_bipush (q := 47) (v := 12) dX10_init_45 rfl (by decide) ?_
  refine x_newai (q := 49) (N := 12) dX10_init_47 rfl q_newi (by decide) (by decide) (by decide) (by decide) (by decide) (kc' := 6) (ks' := 180) rfl rfl ?_
  show Vg _ _ _ 49 _ [.ref 138, .ref 132] 138 (hu _ 138 _) 6 180
  refine x_putF (q := 52) (a := 132) dX10_init_49 rfl f_X10_25 rfl ⟨TX10, 49, rfl⟩ ff_X10_25 ((hu_ne _ _ (by decide)).trans Bg5) (Nat.le_of_ble_eq_true rfl) rfl rfl (by decide) ?_
  refine Vg.nm (fun g6 eg6 => ?_)
  have Bg6 : g6 132 = .inr (10, [.int 0, .int 0, .ref 133, .ref 134, .int 0, .ref 135, .ref 136, .ref 137, .int 0, .ref 138, .null, .null, .null, .null, .null, .int 0, .null, .null, .null, .int 0, .null, .null, .null, .null, .null, .null, .null, .null, .null, .null, .int 0, .int 0, .null, .null, .null, .null, .null, .int 0, .int 0, .null, .null, .null, .null, .null, .int 0, .null, .null, .null, .null]) := by rw [eg6]; exact hu_eq _ _ _
  have Ag6 : A10 138 g6 := A10_s Ag5 (by decide) rfl eg6
  clear eg6 Bg5 Ag5
  refine x_aload_n (q := 53) dX10_init_52 rfl rfl rfl ?_
  refine x_bipush (q := 55) (v := 72) dX10_init_53 rfl (by decide) ?_
  refine x_newaz (q := 57) (N := 72) dX10_init_55 rfl q_newb (by decide) (by decide) (by decide) (by decide) (by decide) (kc' := 7) (ks' := 252) rfl rfl ?_
  show Vg _ _ _ 57 _ [.ref 139, .ref 132] 139 (hu _ 139 _) 7 252
  refine x_putF (q := 60) (a := 132) dX10_init_57 rfl f_X10_28 rfl ⟨TX10, 49, rfl⟩ ff_X10_28 ((hu_ne _ _ (by decide)).trans Bg6) (Nat.le_of_ble_eq_true rfl) rfl rfl (by decide) ?_
  refine Vg.nm (fun g7 eg7 => ?_)
  have Bg7 : g7 132 = .inr (10, [.int 0, .int 0, .ref 133, .ref 134, .int 0, .ref 135, .ref 136, .ref 137, .int 0, .ref 138, .ref 139, .null, .null, .null, .null, .int 0, .null, .null, .null, .int 0, .null, .null, .null, .null, .null, .null, .null, .null, .null, .null, .int 0, .int 0, .null, .null, .null, .null, .null, .int 0, .int 0, .null, .null, .null, .null, .null, .int 0, .null, .null, .null, .null]) := by rw [eg7]; exact hu_eq _ _ _
  have Ag7 : A10 139 g7 := A10_s Ag6 (by decide) rfl eg7
  clear eg7 Bg6 Ag6
  refine x_aload_n (q := 61) dX10_init_60 rfl rfl rfl ?_
  refine x_bipush (q := 63) (v := 72) dX10_init_61 rfl (by decide) ?_
  refine x_newai (q := 65) (N := 72) dX10_init_63 rfl q_newi (by decide) (by decide) (by decide) (by decide) (by decide) (kc' := 8) (ks' := 324) rfl rfl ?_
  show Vg _ _ _ 65 _ [.ref 140, .ref 132] 140 (hu _ 140 _) 8 324
  refine x_putF (q := 68) (a := 132) dX10_init_65 rfl f_X10_32 rfl ⟨TX10, 49, rfl⟩ ff_X10_32 ((hu_ne _ _ (by decide)).trans Bg7) (Nat.le_of_ble_eq_true rfl) rfl rfl (by decide) ?_
  refine Vg.nm (fun g8 eg8 => ?_)
  have Bg8 : g8 132 = .inr (10, [.int 0, .int 0, .ref 133, .ref 134, .int 0, .ref 135, .ref 136, .ref 137, .int 0, .ref 138, .ref 139, .ref 140, .null, .null, .null, .int 0, .null, .null, .null, .int 0, .null, .null, .null, .null, .null, .null, .null, .null, .null, .null, .int 0, .int 0, .null, .null, .null, .null, .null, .int 0, .int 0, .null, .null, .null, .null, .null, .int 0, .null, .null, .null, .null]) := by rw [eg8]; exact hu_eq _ _ _
  have Ag8 : A10 140 g8 := A10_s Ag7 (by decide) rfl eg8
  clear eg8 Bg7 Ag7
  refine x_aload_n (q := 69) dX10_init_68 rfl rfl rfl ?_
  refine x_bipush (q := 71) (v := 72) dX10_init_69 rfl (by decide) ?_
  refine x_newai (q := 73) (N := 72) dX10_init_71 rfl q_newi (by decide) (by decide) (by decide) (by decide) (by decide) (kc' := 9) (ks' := 396) rfl rfl ?_
  show Vg _ _ _ 73 _ [.ref 141, .ref 132] 141 (hu _ 141 _) 9 396
  refine x_putF (q := 76) (a := 132) dX10_init_73 rfl f_X10_35 rfl ⟨TX10, 49, rfl⟩ ff_X10_35 ((hu_ne _ _ (by decide)).trans Bg8) (Nat.le_of_ble_eq_true rfl) rfl rfl (by decide) ?_
  refine Vg.nm (fun g9 eg9 => ?_)
  have Bg9 : g9 132 = .inr (10, [.int 0, .int 0, .ref 133, .ref 134, .int 0, .ref 135, .ref 136, .ref 137, .int 0, .ref 138, .ref 139, .ref 140, .ref 141, .null, .null, .int 0, .null, .null, .null, .int 0, .null, .null, .null, .null, .null, .null, .null, .null, .null, .null, .int 0, .int 0, .null, .null, .null, .null, .null, .int 0, .int 0, .null, .null, .null, .null, .null, .int 0, .null, .null, .null, .null]) := by rw [eg9]; exact hu_eq _ _ _
  have Ag9 : A10 141 g9 := A10_s Ag8 (by decide) rfl eg9
  clear eg9 Bg8 Ag8
  refine x_aload_n (q := 77) dX10_init_76 rfl rfl rfl ?_
  refine x_bipush (q := 79) (v := 96) dX10_init_77 rfl (by decide) ?_
  refine x_newai (q := 81) (N := 96) dX10_init_79 rfl q_newi (by decide) (by decide) (by decide) (by decide) (by decide) (kc' := 10) (ks' := 492) rfl rfl ?_
  show Vg _ _ _ 81 _ [.ref 142, .ref 132] 142 (hu _ 142 _) 10 492
  refine x_putF (q := 84) (a := 132) dX10_init_81 rfl f_X10_38 rfl ⟨TX10, 49, rfl⟩ ff_X10_38 ((hu_ne _ _ (by decide)).trans Bg9) (Nat.le_of_ble_eq_true rfl) rfl rfl (by decide) ?_
  refine Vg.nm (fun g10 eg10 => ?_)
  have Bg10 : g10 132 = .inr (10, [.int 0, .int 0, .ref 133, .ref 134, .int 0, .ref 135, .ref 136, .ref 137, .int 0, .ref 138, .ref 139, .ref 140, .ref 141, .ref 142, .null, .int 0, .null, .null, .null, .int 0, .null, .null, .null, .null, .null, .null, .null, .null, .null, .null, .int 0, .int 0, .null, .null, .null, .null, .null, .int 0, .int 0, .null, .null, .null, .null, .null, .int 0, .null, .null, .null, .null]) := by rw [eg10]; exact hu_eq _ _ _
  have Ag10 : A10 142 g10 := A10_s Ag9 (by decide) rfl eg10
  clear eg10 Bg9 Ag9
  refine x_aload_n (q := 85) dX10_init_84 rfl rfl rfl ?_
  refine x_bipush (q := 87) (v := 96) dX10_init_85 rfl (by decide) ?_
  refine x_newai (q := 89) (N := 96) dX10_init_87 rfl q_newi (by decide) (by decide) (by decide) (by decide) (by decide) (kc' := 11) (ks' := 588) rfl rfl ?_
  show Vg _ _ _ 89 _ [.ref 143, .ref 132] 143 (hu _ 143 _) 11 588
  refine x_putF (q := 92) (a := 132) dX10_init_89 rfl f_X10_41 rfl ⟨TX10, 49, rfl⟩ ff_X10_41 ((hu_ne _ _ (by decide)).trans Bg10) (Nat.le_of_ble_eq_true rfl) rfl rfl (by decide) ?_
  refine Vg.nm (fun g11 eg11 => ?_)
  have Bg11 : g11 132 = .inr (10, [.int 0, .int 0, .ref 133, .ref 134, .int 0, .ref 135, .ref 136, .ref 137, .int 0, .ref 138, .ref 139, .ref 140, .ref 141, .ref 142, .ref 143, .int 0, .null, .null, .null, .int 0, .null, .null, .null, .null, .null, .null, .null, .null, .null, .null, .int 0, .int 0, .null, .null, .null, .null, .null, .int 0, .int 0, .null, .null, .null, .null, .null, .int 0, .null, .null, .null, .null]) := by rw [eg11]; exact hu_eq _ _ _
  have Ag11 : A10 143 g11 := A10_s Ag10 (by decide) rfl eg11
  clear eg11 Bg10 Ag10
  refine x_aload_n (q := 93) dX10_init_92 rfl rfl rfl ?_
  refine x_sipush (q := 96) (v := 192) dX10_init_93 rfl (by decide) ?_
  refine x_newai (q := 98) (N := 192) dX10_init_96 rfl q_newi (by decide) (by decide) (by decide) (by decide) (by decide) (kc' := 12) (ks' := 780) rfl rfl ?_
  show Vg _ _ _ 98 _ [.ref 144, .ref 132] 144 (hu _ 144 _) 12 780
  refine x_putF (q := 101) (a := 132) dX10_init_98 rfl f_X10_44 rfl ⟨TX10, 49, rfl⟩ ff_X10_44 ((hu_ne _ _ (by decide)).trans Bg11) (Nat.le_of_ble_eq_true rfl) rfl rfl (by decide) ?_
  refine Vg.nm (fun g12 eg12 => ?_)
  have Bg12 : g12 132 = .inr (10, [.int 0, .int 0, .ref 133, .ref 134, .int 0, .ref 135, .ref 136, .ref 137, .int 0, .ref 138, .ref 139, .ref 140, .ref 141, .ref 142, .ref 143, .int 0, .ref 144, .null, .null, .int 0, .null, .null, .null, .null, .null, .null, .null, .null, .null, .null, .int 0, .int 0, .null, .null, .null, .null, .null, .int 0, .int 0, .null, .null, .null, .null, .null, .int 0, .null, .null, .null, .null]) := by rw [eg12]; exact hu_eq _ _ _
  have Ag12 : A10 144 g12 := A10_s Ag11 (by decide) rfl eg12
  clear eg12 Bg11 Ag11
  refine x_aload_n (q := 102) dX10_init_101 rfl rfl rfl ?_
  refine x_bipush (q := 104) (v := 24) dX10_init_102 rfl (by decide) ?_
  refine x_newal (q := 106) (N := 24) dX10_init_104 rfl q_newl (by decide) (by decide) (by decide) (by decide) (by decide) (kc' := 13) (ks' := 804) rfl rfl ?_
  show Vg _ _ _ 106 _ [.ref 145, .ref 132] 145 (hu _ 145 _) 13 804
  refine x_putF (q := 109) (a := 132) dX10_init_106 rfl f_X10_47 rfl ⟨TX10, 49, rfl⟩ ff_X10_47 ((hu_ne _ _ (by decide)).trans Bg12) (Nat.le_of_ble_eq_true rfl) rfl rfl (by decide) ?_
  refine Vg.nm (fun g13 eg13 => ?_)
  have Bg13 : g13 132 = .inr (10, [.int 0, .int 0, .ref 133, .ref 134, .int 0, .ref 135, .ref 136, .ref 137, .int 0, .ref 138, .ref 139, .ref 140, .ref 141, .ref 142, .ref 143, .int 0, .ref 144, .ref 145, .null, .int 0, .null, .null, .null, .null, .null, .null, .null, .null, .null, .null, .int 0, .int 0, .null, .null, .null, .null, .null, .int 0, .int 0, .null, .null, .null, .null, .null, .int 0, .null, .null, .null, .null]) := by rw [eg13]; exact hu_eq _ _ _
  have Ag13 : A10 145 g13 := A10_s Ag12 (by decide) rfl eg13
  clear eg13 Bg12 Ag12
  refine x_aload_n (q := 110) dX10_init_109 rfl rfl rfl ?_
  refine x_bipush (q := 112) (v := 24) dX10_init_110 rfl (by decide) ?_
  refine x_newaz (q := 114) (N := 24) dX10_init_112 rfl q_newb (by decide) (by decide) (by decide) (by decide) (by decide) (kc' := 14) (ks' := 828) rfl rfl ?_
  show Vg _ _ _ 114 _ [.ref 146, .ref 132] 146 (hu _ 146 _) 14 828
  refine x_putF (q := 117) (a := 132) dX10_init_114 rfl f_X10_51 rfl ⟨TX10, 49, rfl⟩ ff_X10_51 ((hu_ne _ _ (by decide)).trans Bg13) (Nat.le_of_ble_eq_true rfl) rfl rfl (by decide) ?_
  refine Vg.nm (fun g14 eg14 => ?_)
  have Bg14 : g14 132 = .inr (10, [.int 0, .int 0, .ref 133, .ref 134, .int 0, .ref 135, .ref 136, .ref 137, .int 0, .ref 138, .ref 139, .ref 140, .ref 141, .ref 142, .ref 143, .int 0, .ref 144, .ref 145, .ref 146, .int 0, .null, .null, .null, .null, .null, .null, .null, .null, .null, .null, .int 0, .int 0, .null, .null, .null, .null, .null, .int 0, .int 0, .null, .null, .null, .null, .null, .int 0, .null, .null, .null, .null]) := by rw [eg14]; exact hu_eq _ _ _
  have Ag14 : A10 146 g14 := A10_s Ag13 (by decide) rfl eg14
  clear eg14 Bg13 Ag13
  refine x_aload_n (q := 118) dX10_init_117 rfl rfl rfl ?_
  refine x_bipush (q := 120) (v := 8) dX10_init_118 rfl (by decide) ?_
  refine x_newai (q := 122) (N := 8) dX10_init_120 rfl q_newi (by decide) (by decide) (by decide) (by decide) (by decide) (kc' := 15) (ks' := 836) rfl rfl ?_
  show Vg _ _ _ 122 _ [.ref 147, .ref 132] 147 (hu _ 147 _) 15 836
  refine x_putF (q := 125) (a := 132) dX10_init_122 rfl f_X10_54 rfl ⟨TX10, 49, rfl⟩ ff_X10_54 ((hu_ne _ _ (by decide)).trans Bg14) (Nat.le_of_ble_eq_true rfl) rfl rfl (by decide) ?_
  refine Vg.nm (fun g15 eg15 => ?_)
  have Bg15 : g15 132 = .inr (10, [.int 0, .int 0, .ref 133, .ref 134, .int 0, .ref 135, .ref 136, .ref 137, .int 0, .ref 138, .ref 139, .ref 140, .ref 141, .ref 142, .ref 143, .int 0, .ref 144, .ref 145, .ref 146, .int 0, .ref 147, .null, .null, .null, .null, .null, .null, .null, .null, .null, .int 0, .int 0, .null, .null, .null, .null, .null, .int 0, .int 0, .null, .null, .null, .null, .null, .int 0, .null, .null, .null, .null]) := by rw [eg15]; exact hu_eq _ _ _
  have Ag15 : A10 147 g15 := A10_s Ag14 (by decide) rfl eg15
  clear eg15 Bg14 Ag14
  refine x_aload_n (q := 126) dX10_init_125 rfl rfl rfl ?_
  refine x_bipush (q := 128) (v := 8) dX10_init_126 rfl (by decide) ?_
  refine x_newai (q := 130) (N := 8) dX10_init_128 rfl q_newi (by decide) (by decide) (by decide) (by decide) (by decide) (kc' := 16) (ks' := 844) rfl rfl ?_
  show Vg _ _ _ 130 _ [.ref 148, .ref 132] 148 (hu _ 148 _) 16 844
  refine x_putF (q := 133) (a := 132) dX10_init_130 rfl f_X10_57 rfl ⟨TX10, 49, rfl⟩ ff_X10_57 ((hu_ne _ _ (by decide)).trans Bg15) (Nat.le_of_ble_eq_true rfl) rfl rfl (by decide) ?_
  refine Vg.nm (fun g16 eg16 => ?_)
  have Bg16 : g16 132 = .inr (10, [.int 0, .int 0, .ref 133, .ref 134, .int 0, .ref 135, .ref 136, .ref 137, .int 0, .ref 138, .ref 139, .ref 140, .ref 141, .ref 142, .ref 143, .int 0, .ref 144, .ref 145, .ref 146, .int 0, .ref 147, .ref 148, .null, .null, .null, .null, .null, .null, .null, .null, .int 0, .int 0, .null, .null, .null, .null, .null, .int 0, .int 0, .null, .null, .null, .null, .null, .int 0, .null, .null, .null, .null]) := by rw [eg16]; exact hu_eq _ _ _
  have Ag16 : A10 148 g16 := A10_s Ag15 (by decide) rfl eg16
  clear eg16 Bg15 Ag15
  refine x_aload_n (q := 134) dX10_init_133 rfl rfl rfl ?_
  refine x_iconst (q := 135) (v := 5) dX10_init_134 rfl (by decide) ?_
  refine x_newai (q := 137) (N := 5) dX10_init_135 rfl q_newi (by decide) (by decide) (by decide) (by decide) (by decide) (kc' := 17) (ks' := 849) rfl rfl ?_
  show Vg _ _ _ 137 _ [.ref 149, .ref 132] 149 (hu _ 149 _) 17 849
  refine x_putF (q := 140) (a := 132) dX10_init_137 rfl f_X10_60 rfl ⟨TX10, 49, rfl⟩ ff_X10_60 ((hu_ne _ _ (by decide)).trans Bg16) (Nat.le_of_ble_eq_true rfl) rfl rfl (by decide) ?_
  refine Vg.nm (fun g17 eg17 => ?_)
  have Bg17 : g17 132 = .inr (10, [.int 0, .int 0, .ref 133, .ref 134, .int 0, .ref 135, .ref 136, .ref 137, .int 0, .ref 138, .ref 139, .ref 140, .ref 141, .ref 142, .ref 143, .int 0, .ref 144, .ref 145, .ref 146, .int 0, .ref 147, .ref 148, .ref 149, .null, .null, .null, .null, .null, .null, .null, .int 0, .int 0, .null, .null, .null, .null, .null, .int 0, .int 0, .null, .null, .null, .null, .null, .int 0, .null, .null, .null, .null]) := by rw [eg17]; exact hu_eq _ _ _
  have Ag17 : A10 149 g17 := A10_s Ag16 (by decide) rfl eg17
  clear eg17 Bg16 Ag16
  refine x_aload_n (q := 141) dX10_init_140 rfl rfl rfl ?_
  refine x_iconst (q := 142) (v := 5) dX10_init_141 rfl (by decide) ?_
  refine x_newai (q := 144) (N := 5) dX10_init_142 rfl q_newi (by decide) (by decide) (by decide) (by decide) (by decide) (kc' := 18) (ks' := 854) rfl rfl ?_
  show Vg _ _ _ 144 _ [.ref 150, .ref 132] 150 (hu _ 150 _) 18 854
  refine x_putF (q := 147) (a := 132) dX10_init_144 rfl f_X10_63 rfl ⟨TX10, 49, rfl⟩ ff_X10_63 ((hu_ne _ _ (by decide)).trans Bg17) (Nat.le_of_ble_eq_true rfl) rfl rfl (by decide) ?_
  refine Vg.nm (fun g18 eg18 => ?_)
  have Bg18 : g18 132 = .inr (10, [.int 0, .int 0, .ref 133, .ref 134, .int 0, .ref 135, .ref 136, .ref 137, .int 0, .ref 138, .ref 139, .ref 140, .ref 141, .ref 142, .ref 143, .int 0, .ref 144, .ref 145, .ref 146, .int 0, .ref 147, .ref 148, .ref 149, .ref 150, .null, .null, .null, .null, .null, .null, .int 0, .int 0, .null, .null, .null, .null, .null, .int 0, .int 0, .null, .null, .null, .null, .null, .int 0, .null, .null, .null, .null]) := by rw [eg18]; exact hu_eq _ _ _
  have Ag18 : A10 150 g18 := A10_s Ag17 (by decide) rfl eg18
  clear eg18 Bg17 Ag17
  refine x_aload_n (q := 148) dX10_init_147 rfl rfl rfl ?_
  refine x_iconst (q := 149) (v := 5) dX10_init_148 rfl (by decide) ?_
  refine x_newaz (q := 151) (N := 5) dX10_init_149 rfl q_newb (by decide) (by decide) (by decide) (by decide) (by decide) (kc' := 19) (ks' := 859) rfl rfl ?_
  show Vg _ _ _ 151 _ [.ref 151, .ref 132] 151 (hu _ 151 _) 19 859
  refine x_putF (q := 154) (a := 132) dX10_init_151 rfl f_X10_66 rfl ⟨TX10, 49, rfl⟩ ff_X10_66 ((hu_ne _ _ (by decide)).trans Bg18) (Nat.le_of_ble_eq_true rfl) rfl rfl (by decide) ?_
  refine Vg.nm (fun g19 eg19 => ?_)
  have Bg19 : g19 132 = .inr (10, [.int 0, .int 0, .ref 133, .ref 134, .int 0, .ref 135, .ref 136, .ref 137, .int 0, .ref 138, .ref 139, .ref 140, .ref 141, .ref 142, .ref 143, .int 0, .ref 144, .ref 145, .ref 146, .int 0, .ref 147, .ref 148, .ref 149, .ref 150, .ref 151, .null, .null, .null, .null, .null, .int 0, .int 0, .null, .null, .null, .null, .null, .int 0, .int 0, .null, .null, .null, .null, .null, .int 0, .null, .null, .null, .null]) := by rw [eg19]; exact hu_eq _ _ _
  have Ag19 : A10 151 g19 := A10_s Ag18 (by decide) rfl eg19
  clear eg19 Bg18 Ag18
  refine x_aload_n (q := 155) dX10_init_154 rfl rfl rfl ?_
  refine x_iconst (q := 156) (v := 5) dX10_init_155 rfl (by decide) ?_
  refine x_newaz (q := 158) (N := 5) dX10_init_156 rfl q_newb (by decide) (by decide) (by decide) (by decide) (by decide) (kc' := 20) (ks' := 864) rfl rfl ?_
  show Vg _ _ _ 158 _ [.ref 152, .ref 132] 152 (hu _ 152 _) 20 864
  refine x_putF (q := 161) (a := 132) dX10_init_158 rfl f_X10_69 rfl ⟨TX10, 49, rfl⟩ ff_X10_69 ((hu_ne _ _ (by decide)).trans Bg19) (Nat.le_of_ble_eq_true rfl) rfl rfl (by decide) ?_
  refine Vg.nm (fun g20 eg20 => ?_)
  have Bg20 : g20 132 = .inr (10, [.int 0, .int 0, .ref 133, .ref 134, .int 0, .ref 135, .ref 136, .ref 137, .int 0, .ref 138, .ref 139, .ref 140, .ref 141, .ref 142, .ref 143, .int 0, .ref 144, .ref 145, .ref 146, .int 0, .ref 147, .ref 148, .ref 149, .ref 150, .ref 151, .ref 152, .null, .null, .null, .null, .int 0, .int 0, .null, .null, .null, .null, .null, .int 0, .int 0, .null, .null, .null, .null, .null, .int 0, .null, .null, .null, .null]) := by rw [eg20]; exact hu_eq _ _ _
  have Ag20 : A10 152 g20 := A10_s Ag19 (by decide) rfl eg20
  clear eg20 Bg19 Ag19
  refine x_aload_n (q := 162) dX10_init_161 rfl rfl rfl ?_
  refine x_bipush (q := 164) (v := 40) dX10_init_162 rfl (by decide) ?_
  refine x_newai (q := 166) (N := 40) dX10_init_164 rfl q_newi (by decide) (by decide) (by decide) (by decide) (by decide) (kc' := 21) (ks' := 904) rfl rfl ?_
  show Vg _ _ _ 166 _ [.ref 153, .ref 132] 153 (hu _ 153 _) 21 904
  refine x_putF (q := 169) (a := 132) dX10_init_166 rfl f_X10_72 rfl ⟨TX10, 49, rfl⟩ ff_X10_72 ((hu_ne _ _ (by decide)).trans Bg20) (Nat.le_of_ble_eq_true rfl) rfl rfl (by decide) ?_
  refine Vg.nm (fun g21 eg21 => ?_)
  have Bg21 : g21 132 = .inr (10, [.int 0, .int 0, .ref 133, .ref 134, .int 0, .ref 135, .ref 136, .ref 137, .int 0, .ref 138, .ref 139, .ref 140, .ref 141, .ref 142, .ref 143, .int 0, .ref 144, .ref 145, .ref 146, .int 0, .ref 147, .ref 148, .ref 149, .ref 150, .ref 151, .ref 152, .ref 153, .null, .null, .null, .int 0, .int 0, .null, .null, .null, .null, .null, .int 0, .int 0, .null, .null, .null, .null, .null, .int 0, .null, .null, .null, .null]) := by rw [eg21]; exact hu_eq _ _ _
  have Ag21 : A10 153 g21 := A10_s Ag20 (by decide) rfl eg21
  clear eg21 Bg20 Ag20
  refine x_aload_n (q := 170) dX10_init_169 rfl rfl rfl ?_
  refine x_iconst (q := 171) (v := 5) dX10_init_170 rfl (by decide) ?_
  refine x_newal (q := 173) (N := 5) dX10_init_171 rfl q_newl (by decide) (by decide) (by decide) (by decide) (by decide) (kc' := 22) (ks' := 909) rfl rfl ?_
  show Vg _ _ _ 173 _ [.ref 154, .ref 132] 154 (hu _ 154 _) 22 909
  refine x_putF (q := 176) (a := 132) dX10_init_173 rfl f_X10_75 rfl ⟨TX10, 49, rfl⟩ ff_X10_75 ((hu_ne _ _ (by decide)).trans Bg21) (Nat.le_of_ble_eq_true rfl) rfl rfl (by decide) ?_
  refine Vg.nm (fun g22 eg22 => ?_)
  have Bg22 : g22 132 = .inr (10, [.int 0, .int 0, .ref 133, .ref 134, .int 0, .ref 135, .ref 136, .ref 137, .int 0, .ref 138, .ref 139, .ref 140, .ref 141, .ref 142, .ref 143, .int 0, .ref 144, .ref 145, .ref 146, .int 0, .ref 147, .ref 148, .ref 149, .ref 150, .ref 151, .ref 152, .ref 153, .ref 154, .null, .null, .int 0, .int 0, .null, .null, .null, .null, .null, .int 0, .int 0, .null, .null, .null, .null, .null, .int 0, .null, .null, .null, .null]) := by rw [eg22]; exact hu_eq _ _ _
  have Ag22 : A10 154 g22 := A10_s Ag21 (by decide) rfl eg22
  clear eg22 Bg21 Ag21
  refine x_aload_n (q := 177) dX10_init_176 rfl rfl rfl ?_
  refine x_iconst (q := 178) (v := 5) dX10_init_177 rfl (by decide) ?_
  refine x_newai (q := 180) (N := 5) dX10_init_178 rfl q_newi (by decide) (by decide) (by decide) (by decide) (by decide) (kc' := 23) (ks' := 914) rfl rfl ?_
  show Vg _ _ _ 180 _ [.ref 155, .ref 132] 155 (hu _ 155 _) 23 914
  refine x_putF (q := 183) (a := 132) dX10_init_180 rfl f_X10_78 rfl ⟨TX10, 49, rfl⟩ ff_X10_78 ((hu_ne _ _ (by decide)).trans Bg22) (Nat.le_of_ble_eq_true rfl) rfl rfl (by decide) ?_
  refine Vg.nm (fun g23 eg23 => ?_)
  have Bg23 : g23 132 = .inr (10, [.int 0, .int 0, .ref 133, .ref 134, .int 0, .ref 135, .ref 136, .ref 137, .int 0, .ref 138, .ref 139, .ref 140, .ref 141, .ref 142, .ref 143, .int 0, .ref 144, .ref 145, .ref 146, .int 0, .ref 147, .ref 148, .ref 149, .ref 150, .ref 151, .ref 152, .ref 153, .ref 154, .ref 155, .null, .int 0, .int 0, .null, .null, .null, .null, .null, .int 0, .int 0, .null, .null, .null, .null, .null, .int 0, .null, .null, .null, .null]) := by rw [eg23]; exact hu_eq _ _ _
  have Ag23 : A10 155 g23 := A10_s Ag22 (by decide) rfl eg23
  clear eg23 Bg22 Ag22
  refine x_aload_n (q := 184) dX10_init_183 rfl rfl rfl ?_
  refine x_bipush (q := 186) (v := 15) dX10_init_184 rfl (by decide) ?_
  refine x_newai (q := 188) (N := 15) dX10_init_186 rfl q_newi (by decide) (by decide) (by decide) (by decide) (by decide) (kc' := 24) (ks' := 929) rfl rfl ?_
  show Vg _ _ _ 188 _ [.ref 156, .ref 132] 156 (hu _ 156 _) 24 929
  refine x_putF (q := 191) (a := 132) dX10_init_188 rfl f_X10_81 rfl ⟨TX10, 49, rfl⟩ ff_X10_81 ((hu_ne _ _ (by decide)).trans Bg23) (Nat.le_of_ble_eq_true rfl) rfl rfl (by decide) ?_
  refine Vg.nm (fun g24 eg24 => ?_)
  have Bg24 : g24 132 = .inr (10, [.int 0, .int 0, .ref 133, .ref 134, .int 0, .ref 135, .ref 136, .ref 137, .int 0, .ref 138, .ref 139, .ref 140, .ref 141, .ref 142, .ref 143, .int 0, .ref 144, .ref 145, .ref 146, .int 0, .ref 147, .ref 148, .ref 149, .ref 150, .ref 151, .ref 152, .ref 153, .ref 154, .ref 155, .ref 156, .int 0, .int 0, .null, .null, .null, .null, .null, .int 0, .int 0, .null, .null, .null, .null, .null, .int 0, .null, .null, .null, .null]) := by rw [eg24]; exact hu_eq _ _ _
  have Ag24 : A10 156 g24 := A10_s Ag23 (by decide) rfl eg24
  clear eg24 Bg23 Ag23
  refine x_aload_n (q := 192) dX10_init_191 rfl rfl rfl ?_
  refine x_bipush (q := 194) (v := 10) dX10_init_192 rfl (by decide) ?_
  refine x_put (q := 197) (a := 132) dX10_init_194 rfl f_X10_84 Bg24 (Nat.le_of_ble_eq_true rfl) rfl rfl (by decide) ?_
  refine Vg.nm (fun g25 eg25 => ?_)
  have Bg25 : g25 132 = .inr (10, [.int 0, .int 0, .ref 133, .ref 134, .int 0, .ref 135, .ref 136, .ref 137, .int 0, .ref 138, .ref 139, .ref 140, .ref 141, .ref 142, .ref 143, .int 0, .ref 144, .ref 145, .ref 146, .int 0, .ref 147, .ref 148, .ref 149, .ref 150, .ref 151, .ref 152, .ref 153, .ref 154, .ref 155, .ref 156, .int 10, .int 0, .null, .null, .null, .null, .null, .int 0, .int 0, .null, .null, .null, .null, .null, .int 0, .null, .null, .null, .null]) := by rw [eg25]; exact hu_eq _ _ _
  have Ag25 : A10 156 g25 := A10_p Ag24 eg25
  clear eg25 Bg24 Ag24
  refine x_aload_n (q := 198) dX10_init_197 rfl rfl rfl ?_
  refine x_bipush (q := 200) (v := 100) dX10_init_198 rfl (by decide) ?_
  refine x_newai (q := 202) (N := 100) dX10_init_200 rfl q_newi (by decide) (by decide) (by decide) (by decide) (by decide) (kc' := 25) (ks' := 1029) rfl rfl ?_
  show Vg _ _ _ 202 _ [.ref 157, .ref 132] 157 (hu _ 157 _) 25 1029
  refine x_putF (q := 205) (a := 132) dX10_init_202 rfl f_X10_88 rfl ⟨TX10, 49, rfl⟩ ff_X10_88 ((hu_ne _ _ (by decide)).trans Bg25) (Nat.le_of_ble_eq_true rfl) rfl rfl (by decide) ?_
  refine Vg.nm (fun g26 eg26 => ?_)
  have Bg26 : g26 132 = .inr (10, [.int 0, .int 0, .ref 133, .ref 134, .int 0, .ref 135, .ref 136, .ref 137, .int 0, .ref 138, .ref 139, .ref 140, .ref 141, .ref 142, .ref 143, .int 0, .ref 144, .ref 145, .ref 146, .int 0, .ref 147, .ref 148, .ref 149, .ref 150, .ref 151, .ref 152, .ref 153, .ref 154, .ref 155, .ref 156, .int 10, .int 0, .ref 157, .null, .null, .null, .null, .int 0, .int 0, .null, .null, .null, .null, .null, .int 0, .null, .null, .null, .null]) := by rw [eg26]; exact hu_eq _ _ _
  have Ag26 : A10 157 g26 := A10_s Ag25 (by decide) rfl eg26
  clear eg26 Bg25 Ag25
  refine x_aload_n (q := 206) dX10_init_205 rfl rfl rfl ?_
  refine x_bipush (q := 208) (v := 100) dX10_init_206 rfl (by decide) ?_
  refine x_newai (q := 210) (N := 100) dX10_init_208 rfl q_newi (by decide) (by decide) (by decide) (by decide) (by decide) (kc' := 26) (ks' := 1129) rfl rfl ?_
  show Vg _ _ _ 210 _ [.ref 158, .ref 132] 158 (hu _ 158 _) 26 1129
  refine x_putF (q := 213) (a := 132) dX10_init_210 rfl f_X10_91 rfl ⟨TX10, 49, rfl⟩ ff_X10_91 ((hu_ne _ _ (by decide)).trans Bg26) (Nat.le_of_ble_eq_true rfl) rfl rfl (by decide) ?_
  refine Vg.nm (fun g27 eg27 => ?_)
  have Bg27 : g27 132 = .inr (10, [.int 0, .int 0, .ref 133, .ref 134, .int 0, .ref 135, .ref 136, .ref 137, .int 0, .ref 138, .ref 139, .ref 140, .ref 141, .ref 142, .ref 143, .int 0, .ref 144, .ref 145, .ref 146, .int 0, .ref 147, .ref 148, .ref 149, .ref 150, .ref 151, .ref 152, .ref 153, .ref 154, .ref 155, .ref 156, .int 10, .int 0, .ref 157, .ref 158, .null, .null, .null, .int 0, .int 0, .null, .null, .null, .null, .null, .int 0, .null, .null, .null, .null]) := by rw [eg27]; exact hu_eq _ _ _
  have Ag27 : A10 158 g27 := A10_s Ag26 (by decide) rfl eg27
  clear eg27 Bg26 Ag26
  refine x_aload_n (q := 214) dX10_init_213 rfl rfl rfl ?_
  refine x_bipush (q := 216) (v := 100) dX10_init_214 rfl (by decide) ?_
  refine x_newai (q := 218) (N := 100) dX10_init_216 rfl q_newi (by decide) (by decide) (by decide) (by decide) (by decide) (kc' := 27) (ks' := 1229) rfl rfl ?_
  show Vg _ _ _ 218 _ [.ref 159, .ref 132] 159 (hu _ 159 _) 27 1229
  refine x_putF (q := 221) (a := 132) dX10_init_218 rfl f_X10_94 rfl ⟨TX10, 49, rfl⟩ ff_X10_94 ((hu_ne _ _ (by decide)).trans Bg27) (Nat.le_of_ble_eq_true rfl) rfl rfl (by decide) ?_
  refine Vg.nm (fun g28 eg28 => ?_)
  have Bg28 : g28 132 = .inr (10, [.int 0, .int 0, .ref 133, .ref 134, .int 0, .ref 135, .ref 136, .ref 137, .int 0, .ref 138, .ref 139, .ref 140, .ref 141, .ref 142, .ref 143, .int 0, .ref 144, .ref 145, .ref 146, .int 0, .ref 147, .ref 148, .ref 149, .ref 150, .ref 151, .ref 152, .ref 153, .ref 154, .ref 155, .ref 156, .int 10, .int 0, .ref 157, .ref 158, .ref 159, .null, .null, .int 0, .int 0, .null, .null, .null, .null, .null, .int 0, .null, .null, .null, .null]) := by rw [eg28]; exact hu_eq _ _ _
  have Ag28 : A10 159 g28 := A10_s Ag27 (by decide) rfl eg28
  clear eg28 Bg27 Ag27
  refine x_aload_n (q := 222) dX10_init_221 rfl rfl rfl ?_
  refine x_bipush (q := 224) (v := 100) dX10_init_222 rfl (by decide) ?_
  refine x_newal (q := 226) (N := 100) dX10_init_224 rfl q_newl (by decide) (by decide) (by decide) (by decide) (by decide) (kc' := 28) (ks' := 1329) rfl rfl ?_
  show Vg _ _ _ 226 _ [.ref 160, .ref 132] 160 (hu _ 160 _) 28 1329
  refine x_putF (q := 229) (a := 132) dX10_init_226 rfl f_X10_97 rfl ⟨TX10, 49, rfl⟩ ff_X10_97 ((hu_ne _ _ (by decide)).trans Bg28) (Nat.le_of_ble_eq_true rfl) rfl rfl (by decide) ?_
  refine Vg.nm (fun g29 eg29 => ?_)
  have Bg29 : g29 132 = .inr (10, [.int 0, .int 0, .ref 133, .ref 134, .int 0, .ref 135, .ref 136, .ref 137, .int 0, .ref 138, .ref 139, .ref 140, .ref 141, .ref 142, .ref 143, .int 0, .ref 144, .ref 145, .ref 146, .int 0, .ref 147, .ref 148, .ref 149, .ref 150, .ref 151, .ref 152, .ref 153, .ref 154, .ref 155, .ref 156, .int 10, .int 0, .ref 157, .ref 158, .ref 159, .ref 160, .null, .int 0, .int 0, .null, .null, .null, .null, .null, .int 0, .null, .null, .null, .null]) := by rw [eg29]; exact hu_eq _ _ _
  have Ag29 : A10 160 g29 := A10_s Ag28 (by decide) rfl eg29
  clear eg29 Bg28 Ag28
  refine x_aload_n (q := 230) dX10_init_229 rfl rfl rfl ?_
  refine x_bipush (q := 232) (v := 100) dX10_init_230 rfl (by decide) ?_
  refine x_newai (q := 234) (N := 100) dX10_init_232 rfl q_newi (by decide) (by decide) (by decide) (by decide) (by decide) (kc' := 29) (ks' := 1429) rfl rfl ?_
  show Vg _ _ _ 234 _ [.ref 161, .ref 132] 161 (hu _ 161 _) 29 1429
  refine x_putF (q := 237) (a := 132) dX10_init_234 rfl f_X10_100 rfl ⟨TX10, 49, rfl⟩ ff_X10_100 ((hu_ne _ _ (by decide)).trans Bg29) (Nat.le_of_ble_eq_true rfl) rfl rfl (by decide) ?_
  refine Vg.nm (fun g30 eg30 => ?_)
  have Bg30 : g30 132 = .inr (10, [.int 0, .int 0, .ref 133, .ref 134, .int 0, .ref 135, .ref 136, .ref 137, .int 0, .ref 138, .ref 139, .ref 140, .ref 141, .ref 142, .ref 143, .int 0, .ref 144, .ref 145, .ref 146, .int 0, .ref 147, .ref 148, .ref 149, .ref 150, .ref 151, .ref 152, .ref 153, .ref 154, .ref 155, .ref 156, .int 10, .int 0, .ref 157, .ref 158, .ref 159, .ref 160, .ref 161, .int 0, .int 0, .null, .null, .null, .null, .null, .int 0, .null, .null, .null, .null]) := by rw [eg30]; exact hu_eq _ _ _
  have Ag30 : A10 161 g30 := A10_s Ag29 (by decide) rfl eg30
  clear eg30 Bg29 Ag29
  refine x_aload_n (q := 238) dX10_init_237 rfl rfl rfl ?_
  refine x_bipush (q := 240) (v := 8) dX10_init_238 rfl (by decide) ?_
  refine x_newai (q := 242) (N := 8) dX10_init_240 rfl q_newi (by decide) (by decide) (by decide) (by decide) (by decide) (kc' := 30) (ks' := 1437) rfl rfl ?_
  show Vg _ _ _ 242 _ [.ref 162, .ref 132] 162 (hu _ 162 _) 30 1437
  refine x_putF (q := 245) (a := 132) dX10_init_242 rfl f_X10_103 rfl ⟨TX10, 49, rfl⟩ ff_X10_103 ((hu_ne _ _ (by decide)).trans Bg30) (Nat.le_of_ble_eq_true rfl) rfl rfl (by decide) ?_
  refine Vg.nm (fun g31 eg31 => ?_)
  have Bg31 : g31 132 = .inr (10, [.int 0, .int 0, .ref 133, .ref 134, .int 0, .ref 135, .ref 136, .ref 137, .int 0, .ref 138, .ref 139, .ref 140, .ref 141, .ref 142, .ref 143, .int 0, .ref 144, .ref 145, .ref 146, .int 0, .ref 147, .ref 148, .ref 149, .ref 150, .ref 151, .ref 152, .ref 153, .ref 154, .ref 155, .ref 156, .int 10, .int 0, .ref 157, .ref 158, .ref 159, .ref 160, .ref 161, .int 0, .int 0, .ref 162, .null, .null, .null, .null, .int 0, .null, .null, .null, .null]) := by rw [eg31]; exact hu_eq _ _ _
  have Ag31 : A10 162 g31 := A10_s Ag30 (by decide) rfl eg31
  clear eg31 Bg30 Ag30
  refine x_aload_n (q := 246) dX10_init_245 rfl rfl rfl ?_
  refine x_bipush (q := 248) (v := 8) dX10_init_246 rfl (by decide) ?_
  refine x_newai (q := 250) (N := 8) dX10_init_248 rfl q_newi (by decide) (by decide) (by decide) (by decide) (by decide) (kc' := 31) (ks' := 1445) rfl rfl ?_
  show Vg _ _ _ 250 _ [.ref 163, .ref 132] 163 (hu _ 163 _) 31 1445
  refine x_putF (q := 253) (a := 132) dX10_init_250 rfl f_X10_106 rfl ⟨TX10, 49, rfl⟩ ff_X10_106 ((hu_ne _ _ (by decide)).trans Bg31) (Nat.le_of_ble_eq_true rfl) rfl rfl (by decide) ?_
  refine Vg.nm (fun g32 eg32 => ?_)
  have Bg32 : g32 132 = .inr (10, [.int 0, .int 0, .ref 133, .ref 134, .int 0, .ref 135, .ref 136, .ref 137, .int 0, .ref 138, .ref 139, .ref 140, .ref 141, .ref 142, .ref 143, .int 0, .ref 144, .ref 145, .ref 146, .int 0, .ref 147, .ref 148, .ref 149, .ref 150, .ref 151, .ref 152, .ref 153, .ref 154, .ref 155, .ref 156, .int 10, .int 0, .ref 157, .ref 158, .ref 159, .ref 160, .ref 161, .int 0, .int 0, .ref 162, .ref 163, .null, .null, .null, .int 0, .null, .null, .null, .null]) := by rw [eg32]; exact hu_eq _ _ _
  have Ag32 : A10 163 g32 := A10_s Ag31 (by decide) rfl eg32
  clear eg32 Bg31 Ag31
  refine x_aload_n (q := 254) dX10_init_253 rfl rfl rfl ?_
  refine x_bipush (q := 256) (v := 8) dX10_init_254 rfl (by decide) ?_
  refine x_newai (q := 258) (N := 8) dX10_init_256 rfl q_newi (by decide) (by decide) (by decide) (by decide) (by decide) (kc' := 32) (ks' := 1453) rfl rfl ?_
  show Vg _ _ _ 258 _ [.ref 164, .ref 132] 164 (hu _ 164 _) 32 1453
  refine x_putF (q := 261) (a := 132) dX10_init_258 rfl f_X10_109 rfl ⟨TX10, 49, rfl⟩ ff_X10_109 ((hu_ne _ _ (by decide)).trans Bg32) (Nat.le_of_ble_eq_true rfl) rfl rfl (by decide) ?_
  refine Vg.nm (fun g33 eg33 => ?_)
  have Bg33 : g33 132 = .inr (10, [.int 0, .int 0, .ref 133, .ref 134, .int 0, .ref 135, .ref 136, .ref 137, .int 0, .ref 138, .ref 139, .ref 140, .ref 141, .ref 142, .ref 143, .int 0, .ref 144, .ref 145, .ref 146, .int 0, .ref 147, .ref 148, .ref 149, .ref 150, .ref 151, .ref 152, .ref 153, .ref 154, .ref 155, .ref 156, .int 10, .int 0, .ref 157, .ref 158, .ref 159, .ref 160, .ref 161, .int 0, .int 0, .ref 162, .ref 163, .ref 164, .null, .null, .int 0, .null, .null, .null, .null]) := by rw [eg33]; exact hu_eq _ _ _
  have Ag33 : A10 164 g33 := A10_s Ag32 (by decide) rfl eg33
  clear eg33 Bg32 Ag32
  refine x_aload_n (q := 262) dX10_init_261 rfl rfl rfl ?_
  refine x_bipush (q := 264) (v := 8) dX10_init_262 rfl (by decide) ?_
  refine x_newai (q := 266) (N := 8) dX10_init_264 rfl q_newi (by decide) (by decide) (by decide) (by decide) (by decide) (kc' := 33) (ks' := 1461) rfl rfl ?_
  show Vg _ _ _ 266 _ [.ref 165, .ref 132] 165 (hu _ 165 _) 33 1461
  refine x_putF (q := 269) (a := 132) dX10_init_266 rfl f_X10_112 rfl ⟨TX10, 49, rfl⟩ ff_X10_112 ((hu_ne _ _ (by decide)).trans Bg33) (Nat.le_of_ble_eq_true rfl) rfl rfl (by decide) ?_
  refine Vg.nm (fun g34 eg34 => ?_)
  have Bg34 : g34 132 = .inr (10, [.int 0, .int 0, .ref 133, .ref 134, .int 0, .ref 135, .ref 136, .ref 137, .int 0, .ref 138, .ref 139, .ref 140, .ref 141, .ref 142, .ref 143, .int 0, .ref 144, .ref 145, .ref 146, .int 0, .ref 147, .ref 148, .ref 149, .ref 150, .ref 151, .ref 152, .ref 153, .ref 154, .ref 155, .ref 156, .int 10, .int 0, .ref 157, .ref 158, .ref 159, .ref 160, .ref 161, .int 0, .int 0, .ref 162, .ref 163, .ref 164, .ref 165, .null, .int 0, .null, .null, .null, .null]) := by rw [eg34]; exact hu_eq _ _ _
  have Ag34 : A10 165 g34 := A10_s Ag33 (by decide) rfl eg34
  clear eg34 Bg33 Ag33
  refine x_aload_n (q := 270) dX10_init_269 rfl rfl rfl ?_
  refine x_bipush (q := 272) (v := 36) dX10_init_270 rfl (by decide) ?_
  refine x_newai (q := 274) (N := 36) dX10_init_272 rfl q_newi (by decide) (by decide) (by decide) (by decide) (by decide) (kc' := 34) (ks' := 1497) rfl rfl ?_
  show Vg _ _ _ 274 _ [.ref 166, .ref 132] 166 (hu _ 166 _) 34 1497
  refine x_putF (q := 277) (a := 132) dX10_init_274 rfl f_X10_115 rfl ⟨TX10, 49, rfl⟩ ff_X10_115 ((hu_ne _ _ (by decide)).trans Bg34) (Nat.le_of_ble_eq_true rfl) rfl rfl (by decide) ?_
  refine Vg.nm (fun g35 eg35 => ?_)
  have Bg35 : g35 132 = .inr (10, [.int 0, .int 0, .ref 133, .ref 134, .int 0, .ref 135, .ref 136, .ref 137, .int 0, .ref 138, .ref 139, .ref 140, .ref 141, .ref 142, .ref 143, .int 0, .ref 144, .ref 145, .ref 146, .int 0, .ref 147, .ref 148, .ref 149, .ref 150, .ref 151, .ref 152, .ref 153, .ref 154, .ref 155, .ref 156, .int 10, .int 0, .ref 157, .ref 158, .ref 159, .ref 160, .ref 161, .int 0, .int 0, .ref 162, .ref 163, .ref 164, .ref 165, .ref 166, .int 0, .null, .null, .null, .null]) := by rw [eg35]; exact hu_eq _ _ _
  have Ag35 : A10 166 g35 := A10_s Ag34 (by decide) rfl eg35
  clear eg35 Bg34 Ag34
  refine x_aload_n (q := 278) dX10_init_277 rfl rfl rfl ?_
  refine x_bipush (q := 280) (v := 8) dX10_init_278 rfl (by decide) ?_
  refine x_newai (q := 282) (N := 8) dX10_init_280 rfl q_newi (by decide) (by decide) (by decide) (by decide) (by decide) (kc' := 35) (ks' := 1505) rfl rfl ?_
  show Vg _ _ _ 282 _ [.ref 167, .ref 132] 167 (hu _ 167 _) 35 1505
  refine x_putF (q := 285) (a := 132) dX10_init_282 rfl f_X10_118 rfl ⟨TX10, 49, rfl⟩ ff_X10_118 ((hu_ne _ _ (by decide)).trans Bg35) (Nat.le_of_ble_eq_true rfl) rfl rfl (by decide) ?_
  refine Vg.nm (fun g36 eg36 => ?_)
  have Bg36 : g36 132 = .inr (10, [.int 0, .int 0, .ref 133, .ref 134, .int 0, .ref 135, .ref 136, .ref 137, .int 0, .ref 138, .ref 139, .ref 140, .ref 141, .ref 142, .ref 143, .int 0, .ref 144, .ref 145, .ref 146, .int 0, .ref 147, .ref 148, .ref 149, .ref 150, .ref 151, .ref 152, .ref 153, .ref 154, .ref 155, .ref 156, .int 10, .int 0, .ref 157, .ref 158, .ref 159, .ref 160, .ref 161, .int 0, .int 0, .ref 162, .ref 163, .ref 164, .ref 165, .ref 166, .int 0, .ref 167, .null, .null, .null]) := by rw [eg36]; exact hu_eq _ _ _
  have Ag36 : A10 167 g36 := A10_s Ag35 (by decide) rfl eg36
  clear eg36 Bg35 Ag35
  refine x_aload_n (q := 286) dX10_init_285 rfl rfl rfl ?_
  refine x_sipush (q := 289) (v := 2304) dX10_init_286 rfl (by decide) ?_
  refine x_newai (q := 291) (N := 2304) dX10_init_289 rfl q_newi (by decide) (by decide) (by decide) (by decide) (by decide) (kc' := 36) (ks' := 3809) rfl rfl ?_
  show Vg _ _ _ 291 _ [.ref 168, .ref 132] 168 (hu _ 168 _) 36 3809
  refine x_putF (q := 294) (a := 132) dX10_init_291 rfl f_X10_121 rfl ⟨TX10, 49, rfl⟩ ff_X10_121 ((hu_ne _ _ (by decide)).trans Bg36) (Nat.le_of_ble_eq_true rfl) rfl rfl (by decide) ?_
  refine Vg.nm (fun g37 eg37 => ?_)
  have Bg37 : g37 132 = .inr (10, [.int 0, .int 0, .ref 133, .ref 134, .int 0, .ref 135, .ref 136, .ref 137, .int 0, .ref 138, .ref 139, .ref 140, .ref 141, .ref 142, .ref 143, .int 0, .ref 144, .ref 145, .ref 146, .int 0, .ref 147, .ref 148, .ref 149, .ref 150, .ref 151, .ref 152, .ref 153, .ref 154, .ref 155, .ref 156, .int 10, .int 0, .ref 157, .ref 158, .ref 159, .ref 160, .ref 161, .int 0, .int 0, .ref 162, .ref 163, .ref 164, .ref 165, .ref 166, .int 0, .ref 167, .ref 168, .null, .null]) := by rw [eg37]; exact hu_eq _ _ _
  have Ag37 : A10 168 g37 := A10_s Ag36 (by decide) rfl eg37
  clear eg37 Bg36 Ag36
  refine x_aload_n (q := 295) dX10_init_294 rfl rfl rfl ?_
  refine x_bipush (q := 297) (v := 8) dX10_init_295 rfl (by decide) ?_
  refine x_newai (q := 299) (N := 8) dX10_init_297 rfl q_newi (by decide) (by decide) (by decide) (by decide) (by decide) (kc' := 37) (ks' := 3817) rfl rfl ?_
  show Vg _ _ _ 299 _ [.ref 169, .ref 132] 169 (hu _ 169 _) 37 3817
  refine x_putF (q := 302) (a := 132) dX10_init_299 rfl f_X10_124 rfl ⟨TX10, 49, rfl⟩ ff_X10_124 ((hu_ne _ _ (by decide)).trans Bg37) (Nat.le_of_ble_eq_true rfl) rfl rfl (by decide) ?_
  refine Vg.nm (fun g38 eg38 => ?_)
  have Bg38 : g38 132 = .inr (10, [.int 0, .int 0, .ref 133, .ref 134, .int 0, .ref 135, .ref 136, .ref 137, .int 0, .ref 138, .ref 139, .ref 140, .ref 141, .ref 142, .ref 143, .int 0, .ref 144, .ref 145, .ref 146, .int 0, .ref 147, .ref 148, .ref 149, .ref 150, .ref 151, .ref 152, .ref 153, .ref 154, .ref 155, .ref 156, .int 10, .int 0, .ref 157, .ref 158, .ref 159, .ref 160, .ref 161, .int 0, .int 0, .ref 162, .ref 163, .ref 164, .ref 165, .ref 166, .int 0, .ref 167, .ref 168, .ref 169, .null]) := by rw [eg38]; exact hu_eq _ _ _
  have Ag38 : A10 169 g38 := A10_s Ag37 (by decide) rfl eg38
  clear eg38 Bg37 Ag37
  refine x_aload_n (q := 303) dX10_init_302 rfl rfl rfl ?_
  refine x_bipush (q := 305) (v := 8) dX10_init_303 rfl (by decide) ?_
  refine x_newai (q := 307) (N := 8) dX10_init_305 rfl q_newi (by decide) (by decide) (by decide) (by decide) (by decide) (kc' := 38) (ks' := 3825) rfl rfl ?_
  show Vg _ _ _ 307 _ [.ref 170, .ref 132] 170 (hu _ 170 _) 38 3825
  refine x_putF (q := 310) (a := 132) dX10_init_307 rfl f_X10_127 rfl ⟨TX10, 49, rfl⟩ ff_X10_127 ((hu_ne _ _ (by decide)).trans Bg38) (Nat.le_of_ble_eq_true rfl) rfl rfl (by decide) ?_
  refine Vg.nm (fun g39 eg39 => ?_)
  have Bg39 : g39 132 = .inr (10, [.int 0, .int 0, .ref 133, .ref 134, .int 0, .ref 135, .ref 136, .ref 137, .int 0, .ref 138, .ref 139, .ref 140, .ref 141, .ref 142, .ref 143, .int 0, .ref 144, .ref 145, .ref 146, .int 0, .ref 147, .ref 148, .ref 149, .ref 150, .ref 151, .ref 152, .ref 153, .ref 154, .ref 155, .ref 156, .int 10, .int 0, .ref 157, .ref 158, .ref 159, .ref 160, .ref 161, .int 0, .int 0, .ref 162, .ref 163, .ref 164, .ref 165, .ref 166, .int 0, .ref 167, .ref 168, .ref 169, .ref 170]) := by rw [eg39]; exact hu_eq _ _ _
  have Ag39 : A10 170 g39 := A10_s Ag38 (by decide) rfl eg39
  clear eg39 Bg38 Ag38
  have hR : R10 g39 := by
    intro j q1 q2 q3
    by_cases e : j = 132
    · rw [e, fs10]; exact Bg39
    · rw [Ag39 j q1 q2 e, U0, if_neg q3]
  refine x_iconst (q := 311) (v := 0) dX10_init_310 rfl (by decide) ?_
  refine x_istore_n (q := 312) dX10_init_311 rfl rfl (by decide) ?_
  exact lp_c10 5 0 g39 rfl (Ag39 149 (by decide) (by decide) (by decide)) hR
theorem shp_T {a : Nat} (h1 : 0 < a) (h2 : a ≤ 170) : shp (shT a) = shT a := by
  by_cases c1 : a ≤ 39
  · have hj : a = 1 ∨ a = 2 ∨ a = 3 ∨ a = 4 ∨ a = 5 ∨ a = 6 ∨ a = 7 ∨ a = 8 ∨ a = 9 ∨ a = 10 ∨ a = 11 ∨ a = 12 ∨ a = 13 ∨ a = 14 ∨ a = 15 ∨ a = 16 ∨ a = 17 ∨ a = 18 ∨ a = 19 ∨ a = 20 ∨ a = 21 ∨ a = 22 ∨ a = 23 ∨ a = 24 ∨ a = 25 ∨ a = 26 ∨ a = 27 ∨ a = 28 ∨ a = 29 ∨ a = 30 ∨ a = 31 ∨ a = 32 ∨ a = 33 ∨ a = 34 ∨ a = 35 ∨ a = 36 ∨ a = 37 ∨ a = 38 ∨ a = 39 := by omega
    rcases hj with rfl | rfl | rfl | rfl | rfl | rfl | rfl | rfl | rfl | rfl | rfl | rfl | rfl | rfl | rfl | rfl | rfl | rfl | rfl | rfl | rfl | rfl | rfl | rfl | rfl | rfl | rfl | rfl | rfl | rfl | rfl | rfl | rfl | rfl | rfl | rfl | rfl | rfl | rfl
    all_goals rfl
  · by_cases c2 : a ≤ 111
    · obtain ⟨k, hk, e⟩ : ∃ k, k < 24 ∧ (a = 40 + 3 * k ∨ a = 41 + 3 * k ∨ a = 42 + 3 * k) := ⟨(a - 40) / 3, by omega, by omega⟩
      obtain ⟨t1, t2, t3⟩ := shT_B hk
      rcases e with rfl | rfl | rfl
      · rw [t1]; rfl
      · rw [t2]; rfl
      · rw [t3]; rfl
    · by_cases c3 : a ≤ 131
      · obtain ⟨k, hk, e⟩ : ∃ k, k < 5 ∧ (a = 112 + 4 * k ∨ a = 113 + 4 * k ∨ a = 114 + 4 * k ∨ a = 115 + 4 * k) := ⟨(a - 112) / 4, by omega, by omega⟩
        obtain ⟨t1, t2, t3, t4⟩ := shT_K hk
        rcases e with rfl | rfl | rfl | rfl
        · rw [t1]; rfl
        · rw [t2]; rfl
        · rw [t3]; rfl
        · rw [t4]; rfl
      · have hj : a = 132 ∨ a = 133 ∨ a = 134 ∨ a = 135 ∨ a = 136 ∨ a = 137 ∨ a = 138 ∨ a = 139 ∨ a = 140 ∨ a = 141 ∨ a = 142 ∨ a = 143 ∨ a = 144 ∨ a = 145 ∨ a = 146 ∨ a = 147 ∨ a = 148 ∨ a = 149 ∨ a = 150 ∨ a = 151 ∨ a = 152 ∨ a = 153 ∨ a = 154 ∨ a = 155 ∨ a = 156 ∨ a = 157 ∨ a = 158 ∨ a = 159 ∨ a = 160 ∨ a = 161 ∨ a = 162 ∨ a = 163 ∨ a = 164 ∨ a = 165 ∨ a = 166 ∨ a = 167 ∨ a = 168 ∨ a = 169 ∨ a = 170 := by omega
        rcases hj with rfl | rfl | rfl | rfl | rfl | rfl | rfl | rfl | rfl | rfl | rfl | rfl | rfl | rfl | rfl | rfl | rfl | rfl | rfl | rfl | rfl | rfl | rfl | rfl | rfl | rfl | rfl | rfl | rfl | rfl | rfl | rfl | rfl | rfl | rfl | rfl | rfl | rfl | rfl
        all_goals rfl
theorem Sh_T0 : Sh T0 := by
  intro a h1 h2
  by_cases e1 : a = 1
  · subst e1; rfl
  · by_cases e2 : a = 132
    · subst e2; rfl
    · by_cases e3 : a = 149
      · subst e3; rfl
      · by_cases e4 : 112 ≤ a ∧ a < 132 ∧ a % 4 = 0
        · obtain ⟨k, hk, rfl⟩ : ∃ k, k < 5 ∧ a = 112 + 4 * k := ⟨(a - 112) / 4, by omega, by omega⟩
          rw [(T0_K hk).1, (shT_K hk).1]; rfl
        · rw [T0_o e1 e2 e3 e4]; exact shp_T h1 h2
theorem usum_0 {f : Nat → Int32} {k : Nat} (h : ∀ j, f j = 0) : ∀ n, usum f k n = 0
  | 0 => rfl
  | n + 1 => by rw [usum, usum_0 h n, h, Int32.add_zero]
theorem z32 : 0 ≤ (0 : Int32).toInt ∧ (0 : Int32).toInt ≤ 100 := by decide
theorem RdK_T0 {k : Nat} (hk : k < 24) : RdK T0 0 k := by
  obtain ⟨t1, t2, t3⟩ := T0_B hk
  have g1 : gi T0 (42 + 3 * k) = fun _ => 0 := by simp only [gi, t3]
  have g2 : gi T0 144 = fun _ => 0 := rfl
  have u : usum (gi T0 144) k 8 = 0 := usum_0 (fun j => by rw [g2]) 8
  refine RdK.of ?_ ?_ ?_ ?_ ?_ ?_ ?_ ?_
  · intro b hb; rw [g1, g2]
  · intro b hb; rw [u, show gi T0 144 (8 * k + b) = 0 from rfl]; exact ⟨by decide, by decide⟩
  · intro b hb _; rw [g2]
  · rw [u]; simp only [fI, t2]; rfl
  · rw [u]; decide
  · rw [show gl T0 145 k = 0 from rfl]; simp only [fJ, t2]; rfl
  · exact ⟨0, by omega, rfl⟩
  · rw [show gi T0 146 k = 0 from rfl]; simp only [fI, t1]; rfl
theorem RfK_T0 {t : Nat} (ht : t < 5) : RfK T0 0 t := by
  obtain ⟨t1, t2, t3, t4⟩ := T0_K ht
  have s9 : gi T0 149 t = 1000 := by
    show (if t < 5 then 1000 else 0) = (1000 : Int32)
    rw [if_pos ht]
  have s0 : gi T0 150 t = 0 := rfl
  refine RfK.of ?_ ?_ ?_ ?_ ?_ ?_ ?_ ?_ ?_ ?_ ?_ ?_ ?_ ?_ ?_
  · rw [s0]; simp only [fI, t1]; rfl
  · rw [s9]; simp only [fI, t1]; rfl
  · rw [show gi T0 155 t = 0 from rfl]; simp only [fI, t1]; rfl
  · rw [show gi T0 152 t = 0 from rfl]; simp only [fI, t1]; rfl
  · rw [show gi T0 151 t = 0 from rfl]; simp only [fI, t1]; rfl
  · intro d hd; rw [show gi T0 156 (3 * t + d) = 0 from rfl]; simp only [gi, t4]
  · intro d hd; rw [show gi T0 153 (8 * t + d) = 0 from rfl]; simp only [gi, t3]
  · intro d hd _; rfl
  · rw [show gl T0 154 t = 0 from rfl]; simp only [fJ, t2]; rfl
  · rw [s0]; decide
  · rw [s0, s9]; decide
  · rw [s9]; decide
  · intro _; rfl
  · exact ⟨0, by omega, rfl⟩
  · exact ⟨0, by omega, rfl⟩
theorem Rel_T0 : Rel T0 0 0 0 0 0 0 0 := by
  refine Rel.of Sh_T0 ?_ ?_ ?_ ?_ ?_ ?_ ?_ ?_
  · exact Ra.of rfl rfl (by omega) (fun b d _ _ => ⟨rfl, rfl⟩) (fun j _ => by rw [show gi T0 133 j = 0 from rfl, show gi T0 134 j = 0 from rfl]; decide)
  · exact Rb.of rfl rfl (by omega) rfl rfl rfl rfl (fun l hl => by omega) (fun l hl => by omega)
  · exact Rc.of rfl rfl (by omega) rfl rfl rfl rfl rfl (fun r hr => by omega) (fun j => by rw [show gi T0 141 j = 0 from rfl]; decide) (fun j _ => rfl) (fun j _ => rfl) (fun j => by rw [show gi T0 142 j = 0 from rfl]; decide)
  · exact Rd.of rfl rfl (by omega) (fun k hk => RdK_T0 hk)
  · exact Re.of rfl (fun b _ => rfl) (fun b _ => by rw [show gi T0 147 b = 0 from rfl]; decide) (fun _ b _ => rfl)
  · exact Rf.of rfl (by rw [show fI T0 132 30 = 10 from rfl]; decide) rfl (fun b _ => rfl) (fun t ht => RfK_T0 ht)
  · exact Rg.of rfl rfl (by omega) rfl rfl rfl rfl rfl (fun j => ⟨0, by omega, rfl⟩) (fun j => ⟨0, by omega, rfl⟩)
  · exact Rh.of rfl rfl (by omega) rfl rfl (by omega) rfl rfl rfl rfl rfl rfl (fun j hj => by omega) (fun j => by rw [show gi T0 163 j = 0 from rfl]; decide) (fun j => by rw [show gi T0 164 j = 0 from rfl]; decide)
