theorem c_X4_init {n : Nat} {h : HF} (hn : 0 < n) (h0 : h n = .inr (4, [.null, .int 0, .long 0])) : Mc mX4_init [.ref n] n h (fun r h' => r = none ∧ h' n = .inr (4, [.ref (n + 1), .int 0, .long 0]) ∧ h' (n + 1) = .inl (0, 8, .inl (fun _ => 0)) ∧ ∀ j, j < n → h' j = h j) := by
  refine Mc.of (by decide) rfl (Nat.le_of_ble_eq_true rfl) ?_
  refine x_aload_n (q := 1) dX4_init_0 rfl rfl rfl ?_
  refine x_obj (q := 4) dX4_init_1 rfl o_X4_3 q_obi q_obj (by decide) (by decide) ?_
  refine x_aload_n (q := 5) dX4_init_4 rfl rfl rfl ?_
  refine x_bipush (q := 7) (v := 8) dX4_init_5 rfl (by decide) ?_
  refine x_newai (q := 9) (N := 8) dX4_init_7 rfl q_newi (by decide) (by decide) (by decide) (by decide) (by decide) (kc' := 1) (ks' := 8) rfl rfl ?_
  refine x_putF (q := 12) (a := n) (fs := [.null, .int 0, .long 0]) dX4_init_9 rfl f_X4_9 rfl ⟨TX4, 3, rfl⟩ ff_X4_9 ((hu_ne _ _ (by omega)).trans h0) (Nat.le_of_ble_eq_true rfl) rfl rfl (by omega) ?_
  refine x_aload_n (q := 13) dX4_init_12 rfl rfl rfl ?_
  refine x_iconst (q := 14) (v := 0) dX4_init_13 rfl (by decide) ?_
  refine x_put (q := 17) (a := n) (fs := [.ref (n + 1), .int 0, .long 0]) dX4_init_14 rfl f_X4_15 (hu_eq _ _ _) (Nat.le_of_ble_eq_true rfl) rfl rfl (by omega) ?_
  refine x_aload_n (q := 18) dX4_init_17 rfl rfl rfl ?_
  refine x_lconst (q := 19) (v := 0) dX4_init_18 rfl (by decide) ?_
  refine x_put (q := 22) (a := n) (fs := [.ref (n + 1), .int 0, .long 0]) dX4_init_19 rfl f_X4_19 (hu_eq _ _ _) (Nat.le_of_ble_eq_true rfl) rfl rfl (by omega) ?_
  exact x_vret dX4_init_22 rfl rfl (by decide) rfl ⟨rfl, hu_eq _ _ _, (by simp (disch := omega) only [hu_eq, hu_ne]), (fun j hj => by simp (disch := omega) only [hu_ne])⟩
theorem c_X5_init {n : Nat} {h : HF} (hn : 0 < n) (h0 : h n = .inr (5, [.null, .null, .int 0])) : Mc mX5_init [.ref n] n h (fun r h' => r = none ∧ h' n = .inr (5, [.ref (n + 1), .ref (n + 1 + 1), .int 0]) ∧ h' (n + 1) = .inl (0, 24, .inl (fun _ => 0)) ∧ h' (n + 1 + 1) = .inl (0, 24, .inl (fun _ => 0)) ∧ ∀ j, j < n → h' j = h j) := by
  refine Mc.of (by decide) rfl (Nat.le_of_ble_eq_true rfl) ?_
  refine x_aload_n (q := 1) dX5_init_0 rfl rfl rfl ?_
  refine x_obj (q := 4) dX5_init_1 rfl o_X5_3 q_obi q_obj (by decide) (by decide) ?_
  refine x_aload_n (q := 5) dX5_init_4 rfl rfl rfl ?_
  refine x_bipush (q := 7) (v := 24) dX5_init_5 rfl (by decide) ?_
  refine x_newai (q := 9) (N := 24) dX5_init_7 rfl q_newi (by decide) (by decide) (by decide) (by decide) (by decide) (kc' := 1) (ks' := 24) rfl rfl ?_
  refine x_putF (q := 12) (a := n) (fs := [.null, .null, .int 0]) dX5_init_9 rfl f_X5_9 rfl ⟨TX5, 3, rfl⟩ ff_X5_9 ((hu_ne _ _ (by omega)).trans h0) (Nat.le_of_ble_eq_true rfl) rfl rfl (by omega) ?_
  refine x_aload_n (q := 13) dX5_init_12 rfl rfl rfl ?_
  refine x_bipush (q := 15) (v := 24) dX5_init_13 rfl (by decide) ?_
  refine x_newai (q := 17) (N := 24) dX5_init_15 rfl q_newi (by decide) (by decide) (by decide) (by decide) (by decide) (kc' := 2) (ks' := 48) rfl rfl ?_
  refine x_putF (q := 20) (a := n) (fs := [.ref (n + 1), .null, .int 0]) dX5_init_17 rfl f_X5_15 rfl ⟨TX5, 3, rfl⟩ ff_X5_15 ((hu_ne _ _ (by omega)).trans (hu_eq _ _ _)) (Nat.le_of_ble_eq_true rfl) rfl rfl (by omega) ?_
  refine x_aload_n (q := 21) dX5_init_20 rfl rfl rfl ?_
  refine x_iconst (q := 22) (v := 0) dX5_init_21 rfl (by decide) ?_
  refine x_put (q := 25) (a := n) (fs := [.ref (n + 1), .ref (n + 1 + 1), .int 0]) dX5_init_22 rfl f_X5_18 (hu_eq _ _ _) (Nat.le_of_ble_eq_true rfl) rfl rfl (by omega) ?_
  exact x_vret dX5_init_25 rfl rfl (by decide) rfl ⟨rfl, hu_eq _ _ _, (by simp (disch := omega) only [hu_eq, hu_ne]), (by simp (disch := omega) only [hu_eq, hu_ne]), (fun j hj => by simp (disch := omega) only [hu_ne])⟩
theorem c_X7_init {n : Nat} {h : HF} (hn : 0 < n) (h0 : h n = .inr (7, [.null, .null, .null, .int 0, .int 0])) : Mc mX7_init [.ref n] n h (fun r h' => r = none ∧ h' n = .inr (7, [.ref (n + 1), .ref (n + 1 + 1), .ref (n + 1 + 1 + 1), .int 0, .int 0]) ∧ h' (n + 1) = .inl (0, 40, .inl (fun _ => 0)) ∧ h' (n + 1 + 1) = .inl (0, 40, .inl (fun _ => 0)) ∧ h' (n + 1 + 1 + 1) = .inl (0, 40, .inl (fun _ => 0)) ∧ ∀ j, j < n → h' j = h j) := by
  refine Mc.of (by decide) rfl (Nat.le_of_ble_eq_true rfl) ?_
  refine x_aload_n (q := 1) dX7_init_0 rfl rfl rfl ?_
  refine x_obj (q := 4) dX7_init_1 rfl o_X7_3 q_obi q_obj (by decide) (by decide) ?_
  refine x_aload_n (q := 5) dX7_init_4 rfl rfl rfl ?_
  refine x_bipush (q := 7) (v := 40) dX7_init_5 rfl (by decide) ?_
  refine x_newai (q := 9) (N := 40) dX7_init_7 rfl q_newi (by decide) (by decide) (by decide) (by decide) (by decide) (kc' := 1) (ks' := 40) rfl rfl ?_
  refine x_putF (q := 12) (a := n) (fs := [.null, .null, .null, .int 0, .int 0]) dX7_init_9 rfl f_X7_9 rfl ⟨TX7, 5, rfl⟩ ff_X7_9 ((hu_ne _ _ (by omega)).trans h0) (Nat.le_of_ble_eq_true rfl) rfl rfl (by omega) ?_
  refine x_aload_n (q := 13) dX7_init_12 rfl rfl rfl ?_
  refine x_bipush (q := 15) (v := 40) dX7_init_13 rfl (by decide) ?_
  refine x_newai (q := 17) (N := 40) dX7_init_15 rfl q_newi (by decide) (by decide) (by decide) (by decide) (by decide) (kc' := 2) (ks' := 80) rfl rfl ?_
  refine x_putF (q := 20) (a := n) (fs := [.ref (n + 1), .null, .null, .int 0, .int 0]) dX7_init_17 rfl f_X7_15 rfl ⟨TX7, 5, rfl⟩ ff_X7_15 ((hu_ne _ _ (by omega)).trans (hu_eq _ _ _)) (Nat.le_of_ble_eq_true rfl) rfl rfl (by omega) ?_
  refine x_aload_n (q := 21) dX7_init_20 rfl rfl rfl ?_
  refine x_bipush (q := 23) (v := 40) dX7_init_21 rfl (by decide) ?_
  refine x_newai (q := 25) (N := 40) dX7_init_23 rfl q_newi (by decide) (by decide) (by decide) (by decide) (by decide) (kc' := 3) (ks' := 120) rfl rfl ?_
  refine x_putF (q := 28) (a := n) (fs := [.ref (n + 1), .ref (n + 1 + 1), .null, .int 0, .int 0]) dX7_init_25 rfl f_X7_18 rfl ⟨TX7, 5, rfl⟩ ff_X7_18 ((hu_ne _ _ (by omega)).trans (hu_eq _ _ _)) (Nat.le_of_ble_eq_true rfl) rfl rfl (by omega) ?_
  refine x_aload_n (q := 29) dX7_init_28 rfl rfl rfl ?_
  refine x_iconst (q := 30) (v := 0) dX7_init_29 rfl (by decide) ?_
  refine x_put (q := 33) (a := n) (fs := [.ref (n + 1), .ref (n + 1 + 1), .ref (n + 1 + 1 + 1), .int 0, .int 0]) dX7_init_30 rfl f_X7_21 (hu_eq _ _ _) (Nat.le_of_ble_eq_true rfl) rfl rfl (by omega) ?_
  refine x_aload_n (q := 34) dX7_init_33 rfl rfl rfl ?_
  refine x_iconst (q := 35) (v := 0) dX7_init_34 rfl (by decide) ?_
  refine x_put (q := 38) (a := n) (fs := [.ref (n + 1), .ref (n + 1 + 1), .ref (n + 1 + 1 + 1), .int 0, .int 0]) dX7_init_35 rfl f_X7_25 (hu_eq _ _ _) (Nat.le_of_ble_eq_true rfl) rfl rfl (by omega) ?_
  exact x_vret dX7_init_38 rfl rfl (by decide) rfl ⟨rfl, hu_eq _ _ _, (by simp (disch := omega) only [hu_eq, hu_ne]), (by simp (disch := omega) only [hu_eq, hu_ne]), (by simp (disch := omega) only [hu_eq, hu_ne]), (fun j hj => by simp (disch := omega) only [hu_ne])⟩
theorem c_X1_init {n : Nat} {h : HF} (hn : 0 < n) (h0 : h n = .inr (1, [.null, .null, .null, .null, .null, .null, .int 0])) : Mc mX1_init [.ref n] n h (fun r h' => r = none ∧ h' n = .inr (1, [.ref (n + 1), .ref (n + 1 + 1), .ref (n + 1 + 1 + 1), .ref (n + 1 + 1 + 1 + 1), .ref (n + 1 + 1 + 1 + 1 + 1), .ref (n + 1 + 1 + 1 + 1 + 1 + 1), .int 0]) ∧ h' (n + 1) = .inl (1, 72, .inl (fun _ => 0)) ∧ h' (n + 1 + 1) = .inl (0, 72, .inl (fun _ => 0)) ∧ h' (n + 1 + 1 + 1) = .inl (0, 72, .inl (fun _ => 0)) ∧ h' (n + 1 + 1 + 1 + 1) = .inl (0, 12, .inl (fun _ => 0)) ∧ h' (n + 1 + 1 + 1 + 1 + 1) = .inl (0, 96, .inl (fun _ => 0)) ∧ h' (n + 1 + 1 + 1 + 1 + 1 + 1) = .inl (0, 96, .inl (fun _ => 0)) ∧ ∀ j, j < n → h' j = h j) := by
  refine Mc.of (by decide) rfl (Nat.le_of_ble_eq_true rfl) ?_
  refine x_aload_n (q := 1) dX1_init_0 rfl rfl rfl ?_
  refine x_obj (q := 4) dX1_init_1 rfl o_X1_3 q_obi q_obj (by decide) (by decide) ?_
  refine x_aload_n (q := 5) dX1_init_4 rfl rfl rfl ?_
  refine x_bipush (q := 7) (v := 72) dX1_init_5 rfl (by decide) ?_
  refine x_newaz (q := 9) (N := 72) dX1_init_7 rfl q_newb (by decide) (by decide) (by decide) (by decide) (by decide) (kc' := 1) (ks' := 72) rfl rfl ?_
  refine x_putF (q := 12) (a := n) (fs := [.null, .null, .null, .null, .null, .null, .int 0]) dX1_init_9 rfl f_X1_9 rfl ⟨TX1, 7, rfl⟩ ff_X1_9 ((hu_ne _ _ (by omega)).trans h0) (Nat.le_of_ble_eq_true rfl) rfl rfl (by omega) ?_
  refine x_aload_n (q := 13) dX1_init_12 rfl rfl rfl ?_
  refine x_bipush (q := 15) (v := 72) dX1_init_13 rfl (by decide) ?_
  refine x_newai (q := 17) (N := 72) dX1_init_15 rfl q_newi (by decide) (by decide) (by decide) (by decide) (by decide) (kc' := 2) (ks' := 144) rfl rfl ?_
  refine x_putF (q := 20) (a := n) (fs := [.ref (n + 1), .null, .null, .null, .null, .null, .int 0]) dX1_init_17 rfl f_X1_15 rfl ⟨TX1, 7, rfl⟩ ff_X1_15 ((hu_ne _ _ (by omega)).trans (hu_eq _ _ _)) (Nat.le_of_ble_eq_true rfl) rfl rfl (by omega) ?_
  refine x_aload_n (q := 21) dX1_init_20 rfl rfl rfl ?_
  refine x_bipush (q := 23) (v := 72) dX1_init_21 rfl (by decide) ?_
  refine x_newai (q := 25) (N := 72) dX1_init_23 rfl q_newi (by decide) (by decide) (by decide) (by decide) (by decide) (kc' := 3) (ks' := 216) rfl rfl ?_
  refine x_putF (q := 28) (a := n) (fs := [.ref (n + 1), .ref (n + 1 + 1), .null, .null, .null, .null, .int 0]) dX1_init_25 rfl f_X1_19 rfl ⟨TX1, 7, rfl⟩ ff_X1_19 ((hu_ne _ _ (by omega)).trans (hu_eq _ _ _)) (Nat.le_of_ble_eq_true rfl) rfl rfl (by omega) ?_
  refine x_aload_n (q := 29) dX1_init_28 rfl rfl rfl ?_
  refine x_bipush (q := 31) (v := 12) dX1_init_29 rfl (by decide) ?_
  refine x_newai (q := 33) (N := 12) dX1_init_31 rfl q_newi (by decide) (by decide) (by decide) (by decide) (by decide) (kc' := 4) (ks' := 228) rfl rfl ?_
  refine x_putF (q := 36) (a := n) (fs := [.ref (n + 1), .ref (n + 1 + 1), .ref (n + 1 + 1 + 1), .null, .null, .null, .int 0]) dX1_init_33 rfl f_X1_22 rfl ⟨TX1, 7, rfl⟩ ff_X1_22 ((hu_ne _ _ (by omega)).trans (hu_eq _ _ _)) (Nat.le_of_ble_eq_true rfl) rfl rfl (by omega) ?_
  refine x_aload_n (q := 37) dX1_init_36 rfl rfl rfl ?_
  refine x_bipush (q := 39) (v := 96) dX1_init_37 rfl (by decide) ?_
  refine x_newai (q := 41) (N := 96) dX1_init_39 rfl q_newi (by decide) (by decide) (by decide) (by decide) (by decide) (kc' := 5) (ks' := 324) rfl rfl ?_
  refine x_putF (q := 44) (a := n) (fs := [.ref (n + 1), .ref (n + 1 + 1), .ref (n + 1 + 1 + 1), .ref (n + 1 + 1 + 1 + 1), .null, .null, .int 0]) dX1_init_41 rfl f_X1_25 rfl ⟨TX1, 7, rfl⟩ ff_X1_25 ((hu_ne _ _ (by omega)).trans (hu_eq _ _ _)) (Nat.le_of_ble_eq_true rfl) rfl rfl (by omega) ?_
  refine x_aload_n (q := 45) dX1_init_44 rfl rfl rfl ?_
  refine x_bipush (q := 47) (v := 96) dX1_init_45 rfl (by decide) ?_
  refine x_newai (q := 49) (N := 96) dX1_init_47 rfl q_newi (by decide) (by decide) (by decide) (by decide) (by decide) (kc' := 6) (ks' := 420) rfl rfl ?_
  refine x_putF (q := 52) (a := n) (fs := [.ref (n + 1), .ref (n + 1 + 1), .ref (n + 1 + 1 + 1), .ref (n + 1 + 1 + 1 + 1), .ref (n + 1 + 1 + 1 + 1 + 1), .null, .int 0]) dX1_init_49 rfl f_X1_28 rfl ⟨TX1, 7, rfl⟩ ff_X1_28 ((hu_ne _ _ (by omega)).trans (hu_eq _ _ _)) (Nat.le_of_ble_eq_true rfl) rfl rfl (by omega) ?_
  refine x_aload_n (q := 53) dX1_init_52 rfl rfl rfl ?_
  refine x_iconst (q := 54) (v := 0) dX1_init_53 rfl (by decide) ?_
  refine x_put (q := 57) (a := n) (fs := [.ref (n + 1), .ref (n + 1 + 1), .ref (n + 1 + 1 + 1), .ref (n + 1 + 1 + 1 + 1), .ref (n + 1 + 1 + 1 + 1 + 1), .ref (n + 1 + 1 + 1 + 1 + 1 + 1), .int 0]) dX1_init_54 rfl f_X1_31 (hu_eq _ _ _) (Nat.le_of_ble_eq_true rfl) rfl rfl (by omega) ?_
  exact x_vret dX1_init_57 rfl rfl (by decide) rfl ⟨rfl, hu_eq _ _ _, (by simp (disch := omega) only [hu_eq, hu_ne]), (by simp (disch := omega) only [hu_eq, hu_ne]), (by simp (disch := omega) only [hu_eq, hu_ne]), (by simp (disch := omega) only [hu_eq, hu_ne]), (by simp (disch := omega) only [hu_eq, hu_ne]), (by simp (disch := omega) only [hu_eq, hu_ne]), (fun j hj => by simp (disch := omega) only [hu_ne])⟩
theorem c_X2_init {n : Nat} {h : HF} (hn : 0 < n) (h0 : h n = .inr (2, [.null, .int 0, .int 0, .int 0, .null, .null, .null, .int 0, .int 0, .null, .null])) : Mc mX2_init [.ref n] n h (fun r h' => r = none ∧ h' n = .inr (2, [.ref (n + 1), .int 0, .int 0, .int 0, .ref (n + 1 + 1), .ref (n + 1 + 1 + 1), .ref (n + 1 + 1 + 1 + 1), .int 0, .int 0, .ref (n + 1 + 1 + 1 + 1 + 1), .ref (n + 1 + 1 + 1 + 1 + 1 + 1)]) ∧ h' (n + 1) = .inl (0, 8, .inl (fun _ => 0)) ∧ h' (n + 1 + 1) = .inl (0, 3, .inl (fun _ => 0)) ∧ h' (n + 1 + 1 + 1) = .inl (0, 8, .inl (fun _ => 0)) ∧ h' (n + 1 + 1 + 1 + 1) = .inl (0, 8, .inl (fun _ => 0)) ∧ h' (n + 1 + 1 + 1 + 1 + 1) = .inl (2, 3, .inr (.inl (fun _ => 0))) ∧ h' (n + 1 + 1 + 1 + 1 + 1 + 1) = .inl (2, 3, .inr (.inl (fun _ => 0))) ∧ ∀ j, j < n → h' j = h j) := by
  refine Mc.of (by decide) rfl (Nat.le_of_ble_eq_true rfl) ?_
  refine x_aload_n (q := 1) dX2_init_0 rfl rfl rfl ?_
  refine x_obj (q := 4) dX2_init_1 rfl o_X2_3 q_obi q_obj (by decide) (by decide) ?_
  refine x_aload_n (q := 5) dX2_init_4 rfl rfl rfl ?_
  refine x_bipush (q := 7) (v := 8) dX2_init_5 rfl (by decide) ?_
  refine x_newai (q := 9) (N := 8) dX2_init_7 rfl q_newi (by decide) (by decide) (by decide) (by decide) (by decide) (kc' := 1) (ks' := 8) rfl rfl ?_
  refine x_putF (q := 12) (a := n) (fs := [.null, .int 0, .int 0, .int 0, .null, .null, .null, .int 0, .int 0, .null, .null]) dX2_init_9 rfl f_X2_9 rfl ⟨TX2, 11, rfl⟩ ff_X2_9 ((hu_ne _ _ (by omega)).trans h0) (Nat.le_of_ble_eq_true rfl) rfl rfl (by omega) ?_
  refine x_aload_n (q := 13) dX2_init_12 rfl rfl rfl ?_
  refine x_iconst (q := 14) (v := 0) dX2_init_13 rfl (by decide) ?_
  refine x_put (q := 17) (a := n) (fs := [.ref (n + 1), .int 0, .int 0, .int 0, .null, .null, .null, .int 0, .int 0, .null, .null]) dX2_init_14 rfl f_X2_15 (hu_eq _ _ _) (Nat.le_of_ble_eq_true rfl) rfl rfl (by omega) ?_
  refine x_aload_n (q := 18) dX2_init_17 rfl rfl rfl ?_
  refine x_iconst (q := 19) (v := 0) dX2_init_18 rfl (by decide) ?_
  refine x_put (q := 22) (a := n) (fs := [.ref (n + 1), .int 0, .int 0, .int 0, .null, .null, .null, .int 0, .int 0, .null, .null]) dX2_init_19 rfl f_X2_19 (hu_eq _ _ _) (Nat.le_of_ble_eq_true rfl) rfl rfl (by omega) ?_
  refine x_aload_n (q := 23) dX2_init_22 rfl rfl rfl ?_
  refine x_iconst (q := 24) (v := 0) dX2_init_23 rfl (by decide) ?_
  refine x_put (q := 27) (a := n) (fs := [.ref (n + 1), .int 0, .int 0, .int 0, .null, .null, .null, .int 0, .int 0, .null, .null]) dX2_init_24 rfl f_X2_23 (hu_eq _ _ _) (Nat.le_of_ble_eq_true rfl) rfl rfl (by omega) ?_
  refine x_aload_n (q := 28) dX2_init_27 rfl rfl rfl ?_
  refine x_iconst (q := 29) (v := 3) dX2_init_28 rfl (by decide) ?_
  refine x_newai (q := 31) (N := 3) dX2_init_29 rfl q_newi (by decide) (by decide) (by decide) (by decide) (by decide) (kc' := 2) (ks' := 11) rfl rfl ?_
  refine x_putF (q := 34) (a := n) (fs := [.ref (n + 1), .int 0, .int 0, .int 0, .null, .null, .null, .int 0, .int 0, .null, .null]) dX2_init_31 rfl f_X2_26 rfl ⟨TX2, 11, rfl⟩ ff_X2_26 ((hu_ne _ _ (by omega)).trans (hu_eq _ _ _)) (Nat.le_of_ble_eq_true rfl) rfl rfl (by omega) ?_
  refine x_aload_n (q := 35) dX2_init_34 rfl rfl rfl ?_
  refine x_bipush (q := 37) (v := 8) dX2_init_35 rfl (by decide) ?_
  refine x_newai (q := 39) (N := 8) dX2_init_37 rfl q_newi (by decide) (by decide) (by decide) (by decide) (by decide) (kc' := 3) (ks' := 19) rfl rfl ?_
  refine x_putF (q := 42) (a := n) (fs := [.ref (n + 1), .int 0, .int 0, .int 0, .ref (n + 1 + 1), .null, .null, .int 0, .int 0, .null, .null]) dX2_init_39 rfl f_X2_29 rfl ⟨TX2, 11, rfl⟩ ff_X2_29 ((hu_ne _ _ (by omega)).trans (hu_eq _ _ _)) (Nat.le_of_ble_eq_true rfl) rfl rfl (by omega) ?_
  refine x_aload_n (q := 43) dX2_init_42 rfl rfl rfl ?_
  refine x_bipush (q := 45) (v := 8) dX2_init_43 rfl (by decide) ?_
  refine x_newai (q := 47) (N := 8) dX2_init_45 rfl q_newi (by decide) (by decide) (by decide) (by decide) (by decide) (kc' := 4) (ks' := 27) rfl rfl ?_
  refine x_putF (q := 50) (a := n) (fs := [.ref (n + 1), .int 0, .int 0, .int 0, .ref (n + 1 + 1), .ref (n + 1 + 1 + 1), .null, .int 0, .int 0, .null, .null]) dX2_init_47 rfl f_X2_32 rfl ⟨TX2, 11, rfl⟩ ff_X2_32 ((hu_ne _ _ (by omega)).trans (hu_eq _ _ _)) (Nat.le_of_ble_eq_true rfl) rfl rfl (by omega) ?_
  refine x_aload_n (q := 51) dX2_init_50 rfl rfl rfl ?_
  refine x_iconst (q := 52) (v := 0) dX2_init_51 rfl (by decide) ?_
  refine x_put (q := 55) (a := n) (fs := [.ref (n + 1), .int 0, .int 0, .int 0, .ref (n + 1 + 1), .ref (n + 1 + 1 + 1), .ref (n + 1 + 1 + 1 + 1), .int 0, .int 0, .null, .null]) dX2_init_52 rfl f_X2_35 (hu_eq _ _ _) (Nat.le_of_ble_eq_true rfl) rfl rfl (by omega) ?_
  refine x_aload_n (q := 56) dX2_init_55 rfl rfl rfl ?_
  refine x_iconst (q := 57) (v := 0) dX2_init_56 rfl (by decide) ?_
  refine x_put (q := 60) (a := n) (fs := [.ref (n + 1), .int 0, .int 0, .int 0, .ref (n + 1 + 1), .ref (n + 1 + 1 + 1), .ref (n + 1 + 1 + 1 + 1), .int 0, .int 0, .null, .null]) dX2_init_57 rfl f_X2_38 (hu_eq _ _ _) (Nat.le_of_ble_eq_true rfl) rfl rfl (by omega) ?_
  refine x_aload_n (q := 61) dX2_init_60 rfl rfl rfl ?_
  refine x_iconst (q := 62) (v := 3) dX2_init_61 rfl (by decide) ?_
  refine x_newal (q := 64) (N := 3) dX2_init_62 rfl q_newl (by decide) (by decide) (by decide) (by decide) (by decide) (kc' := 5) (ks' := 30) rfl rfl ?_
  refine x_putF (q := 67) (a := n) (fs := [.ref (n + 1), .int 0, .int 0, .int 0, .ref (n + 1 + 1), .ref (n + 1 + 1 + 1), .ref (n + 1 + 1 + 1 + 1), .int 0, .int 0, .null, .null]) dX2_init_64 rfl f_X2_41 rfl ⟨TX2, 11, rfl⟩ ff_X2_41 ((hu_ne _ _ (by omega)).trans (hu_eq _ _ _)) (Nat.le_of_ble_eq_true rfl) rfl rfl (by omega) ?_
  refine x_aload_n (q := 68) dX2_init_67 rfl rfl rfl ?_
  refine x_iconst (q := 69) (v := 3) dX2_init_68 rfl (by decide) ?_
  refine x_newal (q := 71) (N := 3) dX2_init_69 rfl q_newl (by decide) (by decide) (by decide) (by decide) (by decide) (kc' := 6) (ks' := 33) rfl rfl ?_
  refine x_putF (q := 74) (a := n) (fs := [.ref (n + 1), .int 0, .int 0, .int 0, .ref (n + 1 + 1), .ref (n + 1 + 1 + 1), .ref (n + 1 + 1 + 1 + 1), .int 0, .int 0, .ref (n + 1 + 1 + 1 + 1 + 1), .null]) dX2_init_71 rfl f_X2_45 rfl ⟨TX2, 11, rfl⟩ ff_X2_45 ((hu_ne _ _ (by omega)).trans (hu_eq _ _ _)) (Nat.le_of_ble_eq_true rfl) rfl rfl (by omega) ?_
  exact x_vret dX2_init_74 rfl rfl (by decide) rfl ⟨rfl, hu_eq _ _ _, (by simp (disch := omega) only [hu_eq, hu_ne]), (by simp (disch := omega) only [hu_eq, hu_ne]), (by simp (disch := omega) only [hu_eq, hu_ne]), (by simp (disch := omega) only [hu_eq, hu_ne]), (by simp (disch := omega) only [hu_eq, hu_ne]), (by simp (disch := omega) only [hu_eq, hu_ne]), (fun j hj => by simp (disch := omega) only [hu_ne])⟩
theorem c_X3_init {n : Nat} {h : HF} (hn : 0 < n) (h0 : h n = .inr (3, [.null, .null, .null, .null, .null, .int 0])) : Mc mX3_init [.ref n] n h (fun r h' => r = none ∧ h' n = .inr (3, [.ref (n + 1), .ref (n + 1 + 1), .ref (n + 1 + 1 + 1), .ref (n + 1 + 1 + 1 + 1), .ref (n + 1 + 1 + 1 + 1 + 1), .int 0]) ∧ h' (n + 1) = .inl (0, 100, .inl (fun _ => 0)) ∧ h' (n + 1 + 1) = .inl (0, 100, .inl (fun _ => 0)) ∧ h' (n + 1 + 1 + 1) = .inl (0, 100, .inl (fun _ => 0)) ∧ h' (n + 1 + 1 + 1 + 1) = .inl (0, 100, .inl (fun _ => 0)) ∧ h' (n + 1 + 1 + 1 + 1 + 1) = .inl (2, 100, .inr (.inl (fun _ => 0))) ∧ ∀ j, j < n → h' j = h j) := by
  refine Mc.of (by decide) rfl (Nat.le_of_ble_eq_true rfl) ?_
  refine x_aload_n (q := 1) dX3_init_0 rfl rfl rfl ?_
  refine x_obj (q := 4) dX3_init_1 rfl o_X3_3 q_obi q_obj (by decide) (by decide) ?_
  refine x_aload_n (q := 5) dX3_init_4 rfl rfl rfl ?_
  refine x_bipush (q := 7) (v := 100) dX3_init_5 rfl (by decide) ?_
  refine x_newai (q := 9) (N := 100) dX3_init_7 rfl q_newi (by decide) (by decide) (by decide) (by decide) (by decide) (kc' := 1) (ks' := 100) rfl rfl ?_
  refine x_putF (q := 12) (a := n) (fs := [.null, .null, .null, .null, .null, .int 0]) dX3_init_9 rfl f_X3_9 rfl ⟨TX3, 6, rfl⟩ ff_X3_9 ((hu_ne _ _ (by omega)).trans h0) (Nat.le_of_ble_eq_true rfl) rfl rfl (by omega) ?_
  refine x_aload_n (q := 13) dX3_init_12 rfl rfl rfl ?_
  refine x_bipush (q := 15) (v := 100) dX3_init_13 rfl (by decide) ?_
  refine x_newai (q := 17) (N := 100) dX3_init_15 rfl q_newi (by decide) (by decide) (by decide) (by decide) (by decide) (kc' := 2) (ks' := 200) rfl rfl ?_
  refine x_putF (q := 20) (a := n) (fs := [.ref (n + 1), .null, .null, .null, .null, .int 0]) dX3_init_17 rfl f_X3_15 rfl ⟨TX3, 6, rfl⟩ ff_X3_15 ((hu_ne _ _ (by omega)).trans (hu_eq _ _ _)) (Nat.le_of_ble_eq_true rfl) rfl rfl (by omega) ?_
  refine x_aload_n (q := 21) dX3_init_20 rfl rfl rfl ?_
  refine x_bipush (q := 23) (v := 100) dX3_init_21 rfl (by decide) ?_
  refine x_newai (q := 25) (N := 100) dX3_init_23 rfl q_newi (by decide) (by decide) (by decide) (by decide) (by decide) (kc' := 3) (ks' := 300) rfl rfl ?_
  refine x_putF (q := 28) (a := n) (fs := [.ref (n + 1), .ref (n + 1 + 1), .null, .null, .null, .int 0]) dX3_init_25 rfl f_X3_18 rfl ⟨TX3, 6, rfl⟩ ff_X3_18 ((hu_ne _ _ (by omega)).trans (hu_eq _ _ _)) (Nat.le_of_ble_eq_true rfl) rfl rfl (by omega) ?_
  refine x_aload_n (q := 29) dX3_init_28 rfl rfl rfl ?_
  refine x_bipush (q := 31) (v := 100) dX3_init_29 rfl (by decide) ?_
  refine x_newai (q := 33) (N := 100) dX3_init_31 rfl q_newi (by decide) (by decide) (by decide) (by decide) (by decide) (kc' := 4) (ks' := 400) rfl rfl ?_
  refine x_putF (q := 36) (a := n) (fs := [.ref (n + 1), .ref (n + 1 + 1), .ref (n + 1 + 1 + 1), .null, .null, .int 0]) dX3_init_33 rfl f_X3_21 rfl ⟨TX3, 6, rfl⟩ ff_X3_21 ((hu_ne _ _ (by omega)).trans (hu_eq _ _ _)) (Nat.le_of_ble_eq_true rfl) rfl rfl (by omega) ?_
  refine x_aload_n (q := 37) dX3_init_36 rfl rfl rfl ?_
  refine x_bipush (q := 39) (v := 100) dX3_init_37 rfl (by decide) ?_
  refine x_newal (q := 41) (N := 100) dX3_init_39 rfl q_newl (by decide) (by decide) (by decide) (by decide) (by decide) (kc' := 5) (ks' := 500) rfl rfl ?_
  refine x_putF (q := 44) (a := n) (fs := [.ref (n + 1), .ref (n + 1 + 1), .ref (n + 1 + 1 + 1), .ref (n + 1 + 1 + 1 + 1), .null, .int 0]) dX3_init_41 rfl f_X3_24 rfl ⟨TX3, 6, rfl⟩ ff_X3_24 ((hu_ne _ _ (by omega)).trans (hu_eq _ _ _)) (Nat.le_of_ble_eq_true rfl) rfl rfl (by omega) ?_
  refine x_aload_n (q := 45) dX3_init_44 rfl rfl rfl ?_
  refine x_iconst (q := 46) (v := 0) dX3_init_45 rfl (by decide) ?_
  refine x_put (q := 49) (a := n) (fs := [.ref (n + 1), .ref (n + 1 + 1), .ref (n + 1 + 1 + 1), .ref (n + 1 + 1 + 1 + 1), .ref (n + 1 + 1 + 1 + 1 + 1), .int 0]) dX3_init_46 rfl f_X3_28 (hu_eq _ _ _) (Nat.le_of_ble_eq_true rfl) rfl rfl (by omega) ?_
  exact x_vret dX3_init_49 rfl rfl (by decide) rfl ⟨rfl, hu_eq _ _ _, (by simp (disch := omega) only [hu_eq, hu_ne]), (by simp (disch := omega) only [hu_eq, hu_ne]), (by simp (disch := omega) only [hu_eq, hu_ne]), (by simp (disch := omega) only [hu_eq, hu_ne]), (by simp (disch := omega) only [hu_eq, hu_ne]), (fun j hj => by simp (disch := omega) only [hu_ne])⟩
theorem c_X6_init {n : Nat} {h : HF} (hn : 0 < n) (h0 : h n = .inr (6, [.null, .null, .null, .null, .int 0, .null, .null, .null, .int 0])) : Mc mX6_init [.ref n] n h (fun r h' => r = none ∧ h' n = .inr (6, [.ref (n + 1), .ref (n + 1 + 1), .ref (n + 1 + 1 + 1), .ref (n + 1 + 1 + 1 + 1), .int 0, .ref (n + 1 + 1 + 1 + 1 + 1), .ref (n + 1 + 1 + 1 + 1 + 1 + 1), .ref (n + 1 + 1 + 1 + 1 + 1 + 1 + 1), .int 0]) ∧ h' (n + 1) = .inl (0, 8, .inl (fun _ => 0)) ∧ h' (n + 1 + 1) = .inl (0, 8, .inl (fun _ => 0)) ∧ h' (n + 1 + 1 + 1) = .inl (0, 8, .inl (fun _ => 0)) ∧ h' (n + 1 + 1 + 1 + 1) = .inl (0, 8, .inl (fun _ => 0)) ∧ h' (n + 1 + 1 + 1 + 1 + 1) = .inl (0, 36, .inl (fun _ => 0)) ∧ h' (n + 1 + 1 + 1 + 1 + 1 + 1) = .inl (0, 1536, .inl (fun _ => 0)) ∧ h' (n + 1 + 1 + 1 + 1 + 1 + 1 + 1) = .inl (0, 8, .inl (fun _ => 0)) ∧ ∀ j, j < n → h' j = h j) := by
  refine Mc.of (by decide) rfl (Nat.le_of_ble_eq_true rfl) ?_
  refine x_aload_n (q := 1) dX6_init_0 rfl rfl rfl ?_
  refine x_obj (q := 4) dX6_init_1 rfl o_X6_3 q_obi q_obj (by decide) (by decide) ?_
  refine x_aload_n (q := 5) dX6_init_4 rfl rfl rfl ?_
  refine x_bipush (q := 7) (v := 8) dX6_init_5 rfl (by decide) ?_
  refine x_newai (q := 9) (N := 8) dX6_init_7 rfl q_newi (by decide) (by decide) (by decide) (by decide) (by decide) (kc' := 1) (ks' := 8) rfl rfl ?_
  refine x_putF (q := 12) (a := n) (fs := [.null, .null, .null, .null, .int 0, .null, .null, .null, .int 0]) dX6_init_9 rfl f_X6_9 rfl ⟨TX6, 9, rfl⟩ ff_X6_9 ((hu_ne _ _ (by omega)).trans h0) (Nat.le_of_ble_eq_true rfl) rfl rfl (by omega) ?_
  refine x_aload_n (q := 13) dX6_init_12 rfl rfl rfl ?_
  refine x_bipush (q := 15) (v := 8) dX6_init_13 rfl (by decide) ?_
  refine x_newai (q := 17) (N := 8) dX6_init_15 rfl q_newi (by decide) (by decide) (by decide) (by decide) (by decide) (kc' := 2) (ks' := 16) rfl rfl ?_
  refine x_putF (q := 20) (a := n) (fs := [.ref (n + 1), .null, .null, .null, .int 0, .null, .null, .null, .int 0]) dX6_init_17 rfl f_X6_15 rfl ⟨TX6, 9, rfl⟩ ff_X6_15 ((hu_ne _ _ (by omega)).trans (hu_eq _ _ _)) (Nat.le_of_ble_eq_true rfl) rfl rfl (by omega) ?_
  refine x_aload_n (q := 21) dX6_init_20 rfl rfl rfl ?_
  refine x_bipush (q := 23) (v := 8) dX6_init_21 rfl (by decide) ?_
  refine x_newai (q := 25) (N := 8) dX6_init_23 rfl q_newi (by decide) (by decide) (by decide) (by decide) (by decide) (kc' := 3) (ks' := 24) rfl rfl ?_
  refine x_putF (q := 28) (a := n) (fs := [.ref (n + 1), .ref (n + 1 + 1), .null, .null, .int 0, .null, .null, .null, .int 0]) dX6_init_25 rfl f_X6_18 rfl ⟨TX6, 9, rfl⟩ ff_X6_18 ((hu_ne _ _ (by omega)).trans (hu_eq _ _ _)) (Nat.le_of_ble_eq_true rfl) rfl rfl (by omega) ?_
  refine x_aload_n (q := 29) dX6_init_28 rfl rfl rfl ?_
  refine x_bipush (q := 31) (v := 8) dX6_init_29 rfl (by decide) ?_
  refine x_newai (q := 33) (N := 8) dX6_init_31 rfl q_newi (by decide) (by decide) (by decide) (by decide) (by decide) (kc' := 4) (ks' := 32) rfl rfl ?_
  refine x_putF (q := 36) (a := n) (fs := [.ref (n + 1), .ref (n + 1 + 1), .ref (n + 1 + 1 + 1), .null, .int 0, .null, .null, .null, .int 0]) dX6_init_33 rfl f_X6_21 rfl ⟨TX6, 9, rfl⟩ ff_X6_21 ((hu_ne _ _ (by omega)).trans (hu_eq _ _ _)) (Nat.le_of_ble_eq_true rfl) rfl rfl (by omega) ?_
  refine x_aload_n (q := 37) dX6_init_36 rfl rfl rfl ?_
  refine x_iconst (q := 38) (v := 0) dX6_init_37 rfl (by decide) ?_
  refine x_put (q := 41) (a := n) (fs := [.ref (n + 1), .ref (n + 1 + 1), .ref (n + 1 + 1 + 1), .ref (n + 1 + 1 + 1 + 1), .int 0, .null, .null, .null, .int 0]) dX6_init_38 rfl f_X6_24 (hu_eq _ _ _) (Nat.le_of_ble_eq_true rfl) rfl rfl (by omega) ?_
  refine x_aload_n (q := 42) dX6_init_41 rfl rfl rfl ?_
  refine x_bipush (q := 44) (v := 36) dX6_init_42 rfl (by decide) ?_
  refine x_newai (q := 46) (N := 36) dX6_init_44 rfl q_newi (by decide) (by decide) (by decide) (by decide) (by decide) (kc' := 5) (ks' := 68) rfl rfl ?_
  refine x_putF (q := 49) (a := n) (fs := [.ref (n + 1), .ref (n + 1 + 1), .ref (n + 1 + 1 + 1), .ref (n + 1 + 1 + 1 + 1), .int 0, .null, .null, .null, .int 0]) dX6_init_46 rfl f_X6_28 rfl ⟨TX6, 9, rfl⟩ ff_X6_28 ((hu_ne _ _ (by omega)).trans (hu_eq _ _ _)) (Nat.le_of_ble_eq_true rfl) rfl rfl (by omega) ?_
  refine x_aload_n (q := 50) dX6_init_49 rfl rfl rfl ?_
  refine x_sipush (q := 53) (v := 1536) dX6_init_50 rfl (by decide) ?_
  refine x_newai (q := 55) (N := 1536) dX6_init_53 rfl q_newi (by decide) (by decide) (by decide) (by decide) (by decide) (kc' := 6) (ks' := 1604) rfl rfl ?_
  refine x_putF (q := 58) (a := n) (fs := [.ref (n + 1), .ref (n + 1 + 1), .ref (n + 1 + 1 + 1), .ref (n + 1 + 1 + 1 + 1), .int 0, .ref (n + 1 + 1 + 1 + 1 + 1), .null, .null, .int 0]) dX6_init_55 rfl f_X6_31 rfl ⟨TX6, 9, rfl⟩ ff_X6_31 ((hu_ne _ _ (by omega)).trans (hu_eq _ _ _)) (Nat.le_of_ble_eq_true rfl) rfl rfl (by omega) ?_
  refine x_aload_n (q := 59) dX6_init_58 rfl rfl rfl ?_
  refine x_bipush (q := 61) (v := 8) dX6_init_59 rfl (by decide) ?_
  refine x_newai (q := 63) (N := 8) dX6_init_61 rfl q_newi (by decide) (by decide) (by decide) (by decide) (by decide) (kc' := 7) (ks' := 1612) rfl rfl ?_
  refine x_putF (q := 66) (a := n) (fs := [.ref (n + 1), .ref (n + 1 + 1), .ref (n + 1 + 1 + 1), .ref (n + 1 + 1 + 1 + 1), .int 0, .ref (n + 1 + 1 + 1 + 1 + 1), .ref (n + 1 + 1 + 1 + 1 + 1 + 1), .null, .int 0]) dX6_init_63 rfl f_X6_34 rfl ⟨TX6, 9, rfl⟩ ff_X6_34 ((hu_ne _ _ (by omega)).trans (hu_eq _ _ _)) (Nat.le_of_ble_eq_true rfl) rfl rfl (by omega) ?_
  refine x_aload_n (q := 67) dX6_init_66 rfl rfl rfl ?_
  refine x_iconst (q := 68) (v := 0) dX6_init_67 rfl (by decide) ?_
  refine x_put (q := 71) (a := n) (fs := [.ref (n + 1), .ref (n + 1 + 1), .ref (n + 1 + 1 + 1), .ref (n + 1 + 1 + 1 + 1), .int 0, .ref (n + 1 + 1 + 1 + 1 + 1), .ref (n + 1 + 1 + 1 + 1 + 1 + 1), .ref (n + 1 + 1 + 1 + 1 + 1 + 1 + 1), .int 0]) dX6_init_68 rfl f_X6_37 (hu_eq _ _ _) (Nat.le_of_ble_eq_true rfl) rfl rfl (by omega) ?_
  exact x_vret dX6_init_71 rfl rfl (by decide) rfl ⟨rfl, hu_eq _ _ _, (by simp (disch := omega) only [hu_eq, hu_ne]), (by simp (disch := omega) only [hu_eq, hu_ne]), (by simp (disch := omega) only [hu_eq, hu_ne]), (by simp (disch := omega) only [hu_eq, hu_ne]), (by simp (disch := omega) only [hu_eq, hu_ne]), (by simp (disch := omega) only [hu_eq, hu_ne]), (by simp (disch := omega) only [hu_eq, hu_ne]), (fun j hj => by simp (disch := omega) only [hu_ne])⟩
theorem c_X0_init {n : Nat} {h : HF} (hn : 0 < n) (h0 : h n = .inr (0, [.null, .int 0])) : Mc mX0_init [.ref n] n h (fun r h' => r = none ∧ h' n = .inr (0, [.ref (n + 1), .int 0]) ∧ h' (n + 1) = .inr (4, [.ref (n + 1 + 1), .int 0, .long 0]) ∧ h' (n + 1 + 1) = .inl (0, 8, .inl (fun _ => 0)) ∧ ∀ j, j < n → h' j = h j) := by
  refine Mc.of (by decide) rfl (Nat.le_of_ble_eq_true rfl) ?_
  refine x_aload_n (q := 1) dX0_init_0 rfl rfl rfl ?_
  refine x_obj (q := 4) dX0_init_1 rfl o_X0_1 q_obi q_obj (by decide) (by decide) ?_
  refine x_aload_n (q := 5) dX0_init_4 rfl rfl rfl ?_
  refine x_new (q := 8) dX0_init_5 rfl n_X0_7 (by decide) (by decide) (kc' := 1) (ks' := 3) rfl rfl ?_
  refine x_dup (q := 9) dX0_init_8 rfl rfl ?_
  refine x_ci (q := 12) (av := []) (rest := [.ref (n + 1), .ref n]) dX0_init_9 rfl l_X0_9 (c_X4_init (by omega) (hu_eq _ _ _)) rfl rfl (by omega) rfl rfl rfl rfl (fun rr h1 hp1 => ?_)
  obtain ⟨rfl, p1_0, p1_1, pf1⟩ := hp1
  show Vg _ _ _ 12 _ [.ref (n + 1), .ref n] _ _ 2 11
  refine x_putF (q := 15) (a := n) (fs := [.null, .int 0]) dX0_init_12 rfl f_X0_10 rfl ⟨TX0, 2, rfl⟩ ff_X0_10 ((pf1 _ (by omega)).trans ((hu_ne _ _ (by omega)).trans h0)) (Nat.le_of_ble_eq_true rfl) rfl rfl (by omega) ?_
  refine x_aload_n (q := 16) dX0_init_15 rfl rfl rfl ?_
  refine x_iconst (q := 17) (v := 0) dX0_init_16 rfl (by decide) ?_
  refine x_put (q := 20) (a := n) (fs := [.ref (n + 1), .int 0]) dX0_init_17 rfl f_X0_16 (hu_eq _ _ _) (Nat.le_of_ble_eq_true rfl) rfl rfl (by omega) ?_
  exact x_vret dX0_init_20 rfl rfl (by decide) rfl ⟨rfl, hu_eq _ _ _, (by (try simp (disch := omega) only [hu_ne]); exact p1_0), (by (try simp (disch := omega) only [hu_ne]); exact p1_1), (fun j hj => by (try simp (disch := omega) only [hu_ne]); rw [pf1 _ (by omega)]; simp (disch := omega) only [hu_ne])⟩
theorem c_X8_init {n : Nat} {h : HF} (hn : 0 < n) (h0 : h n = .inr (8, [.null, .null, .int 0, .int 0, .int 0, .int 0, .int 0])) : Mc mX8_init [.ref n] n h (fun r h' => r = none ∧ h' n = .inr (8, [.ref (n + 1), .ref (n + 1 + 1 + 1), .int 0, .int 1000, .int 0, .int 0, .int 0]) ∧ h' (n + 1) = .inr (4, [.ref (n + 1 + 1), .int 0, .long 0]) ∧ h' (n + 1 + 1) = .inl (0, 8, .inl (fun _ => 0)) ∧ h' (n + 1 + 1 + 1) = .inl (0, 3, .inl (fun _ => 0)) ∧ ∀ j, j < n → h' j = h j) := by
  refine Mc.of (by decide) rfl (Nat.le_of_ble_eq_true rfl) ?_
  refine x_aload_n (q := 1) dX8_init_0 rfl rfl rfl ?_
  refine x_obj (q := 4) dX8_init_1 rfl o_X8_3 q_obi q_obj (by decide) (by decide) ?_
  refine x_aload_n (q := 5) dX8_init_4 rfl rfl rfl ?_
  refine x_new (q := 8) dX8_init_5 rfl n_X8_9 (by decide) (by decide) (kc' := 1) (ks' := 3) rfl rfl ?_
  refine x_dup (q := 9) dX8_init_8 rfl rfl ?_
  refine x_ci (q := 12) (av := []) (rest := [.ref (n + 1), .ref n]) dX8_init_9 rfl l_X8_11 (c_X4_init (by omega) (hu_eq _ _ _)) rfl rfl (by omega) rfl rfl rfl rfl (fun rr h1 hp1 => ?_)
  obtain ⟨rfl, p1_0, p1_1, pf1⟩ := hp1
  show Vg _ _ _ 12 _ [.ref (n + 1), .ref n] _ _ 2 11
  refine x_putF (q := 15) (a := n) (fs := [.null, .null, .int 0, .int 0, .int 0, .int 0, .int 0]) dX8_init_12 rfl f_X8_12 rfl ⟨TX8, 7, rfl⟩ ff_X8_12 ((pf1 _ (by omega)).trans ((hu_ne _ _ (by omega)).trans h0)) (Nat.le_of_ble_eq_true rfl) rfl rfl (by omega) ?_
  refine x_aload_n (q := 16) dX8_init_15 rfl rfl rfl ?_
  refine x_iconst (q := 17) (v := 3) dX8_init_16 rfl (by decide) ?_
  refine x_newai (q := 19) (N := 3) dX8_init_17 rfl q_newi (by decide) (by decide) (by decide) (by decide) (by decide) (kc' := 3) (ks' := 14) rfl rfl ?_
  refine x_putF (q := 22) (a := n) (fs := [.ref (n + 1), .null, .int 0, .int 0, .int 0, .int 0, .int 0]) dX8_init_19 rfl f_X8_18 rfl ⟨TX8, 7, rfl⟩ ff_X8_18 ((hu_ne _ _ (by omega)).trans (hu_eq _ _ _)) (Nat.le_of_ble_eq_true rfl) rfl rfl (by omega) ?_
  refine x_aload_n (q := 23) dX8_init_22 rfl rfl rfl ?_
  refine x_iconst (q := 24) (v := 0) dX8_init_23 rfl (by decide) ?_
  refine x_put (q := 27) (a := n) (fs := [.ref (n + 1), .ref (n + 1 + 1 + 1), .int 0, .int 0, .int 0, .int 0, .int 0]) dX8_init_24 rfl f_X8_22 (hu_eq _ _ _) (Nat.le_of_ble_eq_true rfl) rfl rfl (by omega) ?_
  refine x_aload_n (q := 28) dX8_init_27 rfl rfl rfl ?_
  refine x_sipush (q := 31) (v := 1000) dX8_init_28 rfl (by decide) ?_
  refine x_put (q := 34) (a := n) (fs := [.ref (n + 1), .ref (n + 1 + 1 + 1), .int 0, .int 0, .int 0, .int 0, .int 0]) dX8_init_31 rfl f_X8_26 (hu_eq _ _ _) (Nat.le_of_ble_eq_true rfl) rfl rfl (by omega) ?_
  refine x_aload_n (q := 35) dX8_init_34 rfl rfl rfl ?_
  refine x_iconst (q := 36) (v := 0) dX8_init_35 rfl (by decide) ?_
  refine x_put (q := 39) (a := n) (fs := [.ref (n + 1), .ref (n + 1 + 1 + 1), .int 0, .int 1000, .int 0, .int 0, .int 0]) dX8_init_36 rfl f_X8_29 (hu_eq _ _ _) (Nat.le_of_ble_eq_true rfl) rfl rfl (by omega) ?_
  refine x_aload_n (q := 40) dX8_init_39 rfl rfl rfl ?_
  refine x_iconst (q := 41) (v := 0) dX8_init_40 rfl (by decide) ?_
  refine x_put (q := 44) (a := n) (fs := [.ref (n + 1), .ref (n + 1 + 1 + 1), .int 0, .int 1000, .int 0, .int 0, .int 0]) dX8_init_41 rfl f_X8_32 (hu_eq _ _ _) (Nat.le_of_ble_eq_true rfl) rfl rfl (by omega) ?_
  refine x_aload_n (q := 45) dX8_init_44 rfl rfl rfl ?_
  refine x_iconst (q := 46) (v := 0) dX8_init_45 rfl (by decide) ?_
  refine x_put (q := 49) (a := n) (fs := [.ref (n + 1), .ref (n + 1 + 1 + 1), .int 0, .int 1000, .int 0, .int 0, .int 0]) dX8_init_46 rfl f_X8_36 (hu_eq _ _ _) (Nat.le_of_ble_eq_true rfl) rfl rfl (by omega) ?_
  exact x_vret dX8_init_49 rfl rfl (by decide) rfl ⟨rfl, hu_eq _ _ _, (by (try simp (disch := omega) only [hu_ne]); exact p1_0), (by (try simp (disch := omega) only [hu_ne]); exact p1_1), (by simp (disch := omega) only [hu_eq, hu_ne]), (fun j hj => by (try simp (disch := omega) only [hu_ne]); rw [pf1 _ (by omega)]; simp (disch := omega) only [hu_ne])⟩
