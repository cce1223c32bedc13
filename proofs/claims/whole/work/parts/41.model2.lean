def ysum (f g A : Nat → Int32) (a d : Nat) : Nat → Int64
  | 0 => 0
  | n + 1 => ysum f g A a d n + (f (a + n) + g n).toInt64 * (A (8 * d + n)).toInt64
theorem lgcl {x y : Int64} : lg_cmp x y ≤ 0 ↔ ¬ y < x := by
  by_cases h1 : y < x
  · simp only [lg_cmp, h1, if_true, not_true, iff_false]; decide
  · by_cases h2 : x = y
    · subst h2; simp [lg_cmp]
    · simp only [lg_cmp, h1, h2, if_false, not_false_eq_true, iff_true]; decide
theorem shd_v {u l : Int64} (hl : ¬ l = 0) : shd u l = if 1000000 < 1000 * u / l then 1000000 else (1000 * u / l).toInt32 := by
  rw [shd, if_neg hl, minJ]
  by_cases h1 : 1000 * u / l < 1000000
  · rw [if_pos h1, if_neg (fun z => absurd (Int64.lt_trans h1 z) (Int64.lt_irrefl))]
  · rw [if_neg h1]
    by_cases h2 : 1000000 < 1000 * u / l
    · rw [if_pos h2]; rfl
    · rw [if_neg h2]
      have : 1000 * u / l = 1000000 := Int64.le_antisymm (Int64.not_lt.mp h2) (Int64.not_lt.mp h1)
      rw [this]
set_option maxHeartbeats 4000000 in
set_option maxRecDepth 100000 in
theorem lp_shd {h : HF} (hS : Sh h) {ra N rm : Nat} (hr0 : 0 < ra ∧ ra ≤ 170) (hrt : shT ra = .inl (0, N, .inl (fun _ => 0))) (hN : N < 2147483648) (hm0 : 0 < rm ∧ rm ≤ 170) (hmt : shT rm = .inl (0, 8, .inl (fun _ => 0))) (at0 d : Nat) (hat : at0 + 8 ≤ N) (hd : d < 3) : ∀ (k i : Nat), i + k = 8 → Vg mX10_shadeOf none (QM mX10_shadeOf 170 (RI (shd (ysum (gi h ra) (gi h rm) (gi h 133) at0 d 8) (ysum (gi h ra) (gi h rm) (gi h 134) at0 d 8)) h)) 9 [some (.ref 132), some (.ref ra), some (.int (nI at0)), some (.ref rm), some (.int (nI d)), some (.long (ysum (gi h ra) (gi h rm) (gi h 133) at0 d i)), none, some (.long (ysum (gi h ra) (gi h rm) (gi h 134) at0 d i)), none, some (.int (nI i)), none, none] [] 170 h 0 0 := by
  intro k
  induction k with
  | zero =>
    intro i hi
    obtain rfl : i = 8 := by omega
    refine x_iload (q := 11) dX10_shadeOf_9 rfl rfl ?_
    refine x_bipush (q := 13) (v := 8) dX10_shadeOf_11 rfl (by decide) ?_
    refine x_ic_ge (q := 16) (t := 80) dX10_shadeOf_13 rfl (by decide) (fun _ => ?_) (fun c_ => absurd (by decide) c_)
    refine x_lload (q := 82) dX10_shadeOf_80 rfl rfl ?_
    refine x_lconst (q := 83) (v := 0) dX10_shadeOf_82 rfl (by decide) ?_
    refine x_lcmp (q := 84) dX10_shadeOf_83 rfl ?_
    refine x_if_ne (q := 87) (t := 90) dX10_shadeOf_84 rfl (by decide) (fun c_84 => ?_) (fun c_84 => ?_)
    · have hne : ¬ (ysum (gi h ra) (gi h rm) (gi h 134) at0 d 8) = 0 := fun e => c_84 (lgc0.mpr e)
      refine x_ldc2 (q := 93) dX10_shadeOf_90 rfl v_X10_176 ?_
      refine x_lload (q := 95) dX10_shadeOf_93 rfl rfl ?_
      refine x_lmul (q := 96) dX10_shadeOf_95 rfl ?_
      refine x_lload (q := 98) dX10_shadeOf_96 rfl rfl ?_
      refine x_ldiv (q := 99) dX10_shadeOf_98 rfl hne ?_
      refine x_lstore (q := 101) dX10_shadeOf_99 rfl (by decide) ?_
      refine x_lload (q := 103) dX10_shadeOf_101 rfl rfl ?_
      refine x_ldc2 (q := 106) dX10_shadeOf_103 rfl v_X10_178 ?_
      refine x_lcmp (q := 107) dX10_shadeOf_106 rfl ?_
      refine x_if_le (q := 110) (t := 115) dX10_shadeOf_107 rfl (by decide) (fun c_107 => ?_) (fun c_107 => ?_)
      · refine x_lload (q := 117) dX10_shadeOf_115 rfl rfl ?_
        refine x_l2i (q := 118) dX10_shadeOf_117 rfl ?_
        exact x_iret dX10_shadeOf_118 ⟨_, rfl, by first | rfl | (split <;> rfl)⟩ rfl (Nat.le_refl _) rfl ⟨by first | (rw [shd_v hne, if_neg (lgcl.mp c_107)]; done) | (rw [shd_v hne, if_pos (Classical.byContradiction fun z => c_107 (lgcl.mpr z))]; done), rfl⟩
      · refine x_ldc (q := 112) dX10_shadeOf_110 rfl v_X10_175 ?_
        refine x_goto (q := 118) dX10_shadeOf_112 (by decide) ?_
        exact x_iret dX10_shadeOf_118 ⟨_, rfl, by first | rfl | (split <;> rfl)⟩ rfl (Nat.le_refl _) rfl ⟨by first | (rw [shd_v hne, if_neg (lgcl.mp c_107)]; done) | (rw [shd_v hne, if_pos (Classical.byContradiction fun z => c_107 (lgcl.mpr z))]; done), rfl⟩
    · refine x_ldc (q := 89) dX10_shadeOf_87 rfl v_X10_175 ?_
      exact x_iret dX10_shadeOf_89 ⟨_, rfl, by first | rfl | (split <;> rfl)⟩ rfl (Nat.le_refl _) rfl ⟨by rw [shd, if_pos (lgc0.mp c_84)], rfl⟩
  | succ k ih =>
    intro i hi
    refine x_iload (q := 11) dX10_shadeOf_9 rfl rfl ?_
    refine x_bipush (q := 13) (v := 8) dX10_shadeOf_11 rfl (by decide) ?_
    refine x_ic_ge (q := 16) (t := 80) dX10_shadeOf_13 rfl (by decide) (fun c_ => absurd c_ (nI_ge (b := 8) (by omega) (by decide))) (fun _ => ?_)
    refine x_aload_n (q := 17) dX10_shadeOf_16 rfl rfl rfl ?_
    refine x_iload_n (q := 18) dX10_shadeOf_17 rfl rfl rfl ?_
    refine x_iload (q := 20) dX10_shadeOf_18 rfl rfl ?_
    refine x_iadd (q := 21) dX10_shadeOf_20 rfl ?_
    rw [nI_add]
    refine z_iald (q := 22) (j := at0 + i) dX10_shadeOf_21 rfl (sh_i hS hr0 hrt) (by omega) hN hr0 ?_
    refine x_aload_n (q := 23) dX10_shadeOf_22 rfl rfl rfl ?_
    refine x_iload (q := 25) dX10_shadeOf_23 rfl rfl ?_
    refine z_iald (q := 26) (j := i) dX10_shadeOf_25 rfl (sh_i hS hm0 hmt) (by omega) (by decide) hm0 ?_
    refine x_iadd (q := 27) dX10_shadeOf_26 rfl ?_
    refine x_i2l (q := 28) dX10_shadeOf_27 rfl ?_
    refine x_lstore (q := 30) dX10_shadeOf_28 rfl (by decide) ?_
    refine x_lload (q := 32) dX10_shadeOf_30 rfl rfl ?_
    refine x_lload (q := 34) dX10_shadeOf_32 rfl rfl ?_
    refine x_aload_n (q := 35) dX10_shadeOf_34 rfl rfl rfl ?_
    refine x_get (q := 38) dX10_shadeOf_35 rfl f_X10_7 (cl_132 hS) rfl (by decide) ?_
    refine x_bipush (q := 40) (v := 8) dX10_shadeOf_38 rfl (by decide) ?_
    refine x_iload (q := 42) dX10_shadeOf_40 rfl rfl ?_
    refine x_imul (q := 43) dX10_shadeOf_42 rfl ?_
    refine x_iload (q := 45) dX10_shadeOf_43 rfl rfl ?_
    refine x_iadd (q := 46) dX10_shadeOf_45 rfl ?_
    rw [ux8]
    refine z_iald (q := 47) (j := 8 * d + i) dX10_shadeOf_46 rfl (cl_133 hS) (by omega) (by decide) (by decide) ?_
    refine x_i2l (q := 48) dX10_shadeOf_47 rfl ?_
    refine x_lmul (q := 49) dX10_shadeOf_48 rfl ?_
    refine x_ladd (q := 50) dX10_shadeOf_49 rfl ?_
    refine x_lstore (q := 52) dX10_shadeOf_50 rfl (by decide) ?_
    refine x_lload (q := 54) dX10_shadeOf_52 rfl rfl ?_
    refine x_lload (q := 56) dX10_shadeOf_54 rfl rfl ?_
    refine x_aload_n (q := 57) dX10_shadeOf_56 rfl rfl rfl ?_
    refine x_get (q := 60) dX10_shadeOf_57 rfl f_X10_13 (cl_132 hS) rfl (by decide) ?_
    refine x_bipush (q := 62) (v := 8) dX10_shadeOf_60 rfl (by decide) ?_
    refine x_iload (q := 64) dX10_shadeOf_62 rfl rfl ?_
    refine x_imul (q := 65) dX10_shadeOf_64 rfl ?_
    refine x_iload (q := 67) dX10_shadeOf_65 rfl rfl ?_
    refine x_iadd (q := 68) dX10_shadeOf_67 rfl ?_
    rw [ux8]
    refine z_iald (q := 69) (j := 8 * d + i) dX10_shadeOf_68 rfl (cl_134 hS) (by omega) (by decide) (by decide) ?_
    refine x_i2l (q := 70) dX10_shadeOf_69 rfl ?_
    refine x_lmul (q := 71) dX10_shadeOf_70 rfl ?_
    refine x_ladd (q := 72) dX10_shadeOf_71 rfl ?_
    refine x_lstore (q := 74) dX10_shadeOf_72 rfl (by decide) ?_
    refine x_iinc (q := 77) (v := nI (i + 1)) dX10_shadeOf_74 rfl rfl (nI_inc _) (by decide) ?_
    refine x_goto (q := 9) dX10_shadeOf_77 (by decide) ?_
    exact Vg.weak (ih (i + 1) (by omega)) (by repeat first | exact trivial | refine ⟨rfl, ?_⟩)

set_option maxHeartbeats 4000000 in
set_option maxRecDepth 100000 in
theorem c_X10_shadeOf {h : HF} (hS : Sh h) {ra N rm : Nat} (hr0 : 0 < ra ∧ ra ≤ 170) (hrt : shT ra = .inl (0, N, .inl (fun _ => 0))) (hN : N < 2147483648) (hm0 : 0 < rm ∧ rm ≤ 170) (hmt : shT rm = .inl (0, 8, .inl (fun _ => 0))) (at0 d : Nat) (hat : at0 + 8 ≤ N) (hd : d < 3) : Mc mX10_shadeOf [.ref 132, .ref ra, .int (nI at0), .ref rm, .int (nI d)] 170 h (RI (shd (ysum (gi h ra) (gi h rm) (gi h 133) at0 d 8) (ysum (gi h ra) (gi h rm) (gi h 134) at0 d 8)) h) := by
  refine Mc.of (by decide) rfl (Nat.le_of_ble_eq_true rfl) ?_
  refine x_lconst (q := 1) (v := 0) dX10_shadeOf_0 rfl (by decide) ?_
  refine x_lstore (q := 3) dX10_shadeOf_1 rfl (by decide) ?_
  refine x_lconst (q := 4) (v := 0) dX10_shadeOf_3 rfl (by decide) ?_
  refine x_lstore (q := 6) dX10_shadeOf_4 rfl (by decide) ?_
  refine x_iconst (q := 7) (v := 0) dX10_shadeOf_6 rfl (by decide) ?_
  refine x_istore (q := 9) dX10_shadeOf_7 rfl (by decide) ?_
  exact Vg.weak (lp_shd hS hr0 hrt hN hm0 hmt at0 d hat hd 8 0 (by omega)) (by repeat first | exact trivial | refine ⟨rfl, ?_⟩)

def ysh (f g A B : Nat → Int32) (a d : Nat) : Int32 := shd (ysum f g A a d 8) (ysum f g B a d 8)
theorem c_shB {h : HF} (hS : Sh h) {rm : Nat} (hm0 : 0 < rm ∧ rm ≤ 170) (hmt : shT rm = .inl (0, 8, .inl (fun _ => 0))) (t d : Nat) (ht : t < 24) (hd : d < 3) : Mc mX10_shadeOf [.ref 132, .ref 144, .int (8 * nI t), .ref rm, .int (nI d)] 170 h (RI (ysh (gi h 144) (gi h rm) (gi h 133) (gi h 134) (8 * t) d) h) := by
  rw [show (8 : Int32) * nI t = nI (8 * t) from pk_mul 8 t]
  exact c_X10_shadeOf hS (ra := 144) (N := 192) (by decide) rfl (by decide) hm0 hmt (8 * t) d (by omega) hd
theorem c_shT {h : HF} (hS : Sh h) (t d : Nat) (ht : t < 5) (hd : d < 3) : Mc mX10_shadeOf [.ref 132, .ref 153, .int (8 * nI t), .ref 169, .int (nI d)] 170 h (RI (ysh (gi h 153) (gi h 169) (gi h 133) (gi h 134) (8 * t) d) h) := by
  rw [show (8 : Int32) * nI t = nI (8 * t) from pk_mul 8 t]
  exact c_X10_shadeOf hS (ra := 153) (N := 40) (by decide) rfl (by decide) (by decide) rfl (8 * t) d (by omega) hd
set_option maxHeartbeats 4000000 in
set_option maxRecDepth 100000 in
theorem st_missOf0 {Q : QF} {h : HF} (hS : Sh h) {rm : Nat} (hm0 : 0 < rm ∧ rm ≤ 170) (hmt : shT rm = .inl (0, 8, .inl (fun _ => 0))) (t : Nat) (ht : t < 24) (x y z : Int32) (m : Int32) (K : Vg mX10_missOf none Q 6 [some (.ref 132), some (.int (nI t)), some (.ref rm), some (.int x), some (.int y), some (.int z), some (.int (maxI m (absI ((ysh (gi h 144) (gi h rm) (gi h 133) (gi h 134) (8 * t) 0) - x)))), some (.int 1), none] [] 170 h 0 0) : Vg mX10_missOf none Q 6 [some (.ref 132), some (.int (nI t)), some (.ref rm), some (.int x), some (.int y), some (.int z), some (.int m), some (.int 0), none] [] 170 h 0 0 := by
  refine x_iload (q := 8) dX10_missOf_6 rfl rfl ?_
  refine x_iconst (q := 9) (v := 3) dX10_missOf_8 rfl (by decide) ?_
  refine x_ic_ge (q := 12) (t := 89) dX10_missOf_9 rfl (by decide) (fun c_ => absurd c_ (by decide)) (fun _ => ?_)
  refine x_aload_n (q := 13) dX10_missOf_12 rfl rfl rfl ?_
  refine x_aload_n (q := 14) dX10_missOf_13 rfl rfl rfl ?_
  refine x_get (q := 17) dX10_missOf_14 rfl f_X10_44 (cl_132 hS) rfl (by decide) ?_
  refine x_bipush (q := 19) (v := 8) dX10_missOf_17 rfl (by decide) ?_
  refine x_iload_n (q := 20) dX10_missOf_19 rfl rfl rfl ?_
  refine x_imul (q := 21) dX10_missOf_20 rfl ?_
  refine x_aload_n (q := 22) dX10_missOf_21 rfl rfl rfl ?_
  refine x_iload (q := 24) dX10_missOf_22 rfl rfl ?_
  refine y_cvI (q := 27) dX10_missOf_24 rfl l_X10_180 (c_shB hS hm0 hmt t 0 ht (by decide)) rfl rfl (cl_132 hS) (by decide) rfl rfl rfl rfl ?_
  refine x_iload (q := 29) dX10_missOf_27 rfl rfl ?_
  refine x_if_ne (q := 32) (t := 36) dX10_missOf_29 rfl (by decide) (fun c_ => absurd c_ (by decide)) (fun _ => ?_)
  refine x_iload_n (q := 33) dX10_missOf_32 rfl rfl rfl ?_
  refine x_goto (q := 49) dX10_missOf_33 (by decide) ?_
  refine x_isub (q := 50) dX10_missOf_49 rfl ?_
  refine x_istore (q := 52) dX10_missOf_50 rfl (by decide) ?_
  refine x_iload (q := 54) dX10_missOf_52 rfl rfl ?_
  refine x_if_ge (q := 57) (t := 63) dX10_missOf_54 rfl (by decide) (fun c_54 => ?_) (fun c_54 => ?_)
  · refine x_iload (q := 65) dX10_missOf_63 rfl rfl ?_
    refine x_istore (q := 67) dX10_missOf_65 rfl (by decide) ?_
    refine x_iload (q := 69) dX10_missOf_67 rfl rfl ?_
    refine x_iload (q := 71) dX10_missOf_69 rfl rfl ?_
    refine x_ic_le (q := 74) (t := 79) dX10_missOf_71 rfl (by decide) (fun c_71 => ?_) (fun c_71 => ?_)
    · refine x_iload (q := 81) dX10_missOf_79 rfl rfl ?_
      refine x_istore (q := 83) dX10_missOf_81 rfl (by decide) ?_
      refine x_iinc (q := 86) (v := 1) dX10_missOf_83 rfl rfl (by decide) (by decide) ?_
      refine x_goto (q := 6) dX10_missOf_86 (by decide) ?_
      first | (rw [absI, if_pos c_54, maxI, if_neg (Int32.not_lt.mpr c_71)] at K; exact Vg.weak K (by repeat first | exact trivial | refine ⟨rfl, ?_⟩)) | (rw [absI, if_pos c_54, maxI, if_pos (Int32.not_le.mp c_71)] at K; exact Vg.weak K (by repeat first | exact trivial | refine ⟨rfl, ?_⟩)) | (rw [absI, if_neg c_54, maxI, if_neg (Int32.not_lt.mpr c_71)] at K; exact Vg.weak K (by repeat first | exact trivial | refine ⟨rfl, ?_⟩)) | (rw [absI, if_neg c_54, maxI, if_pos (Int32.not_le.mp c_71)] at K; exact Vg.weak K (by repeat first | exact trivial | refine ⟨rfl, ?_⟩))
    · refine x_iload (q := 76) dX10_missOf_74 rfl rfl ?_
      refine x_goto (q := 81) dX10_missOf_76 (by decide) ?_
      refine x_istore (q := 83) dX10_missOf_81 rfl (by decide) ?_
      refine x_iinc (q := 86) (v := 1) dX10_missOf_83 rfl rfl (by decide) (by decide) ?_
      refine x_goto (q := 6) dX10_missOf_86 (by decide) ?_
      first | (rw [absI, if_pos c_54, maxI, if_neg (Int32.not_lt.mpr c_71)] at K; exact Vg.weak K (by repeat first | exact trivial | refine ⟨rfl, ?_⟩)) | (rw [absI, if_pos c_54, maxI, if_pos (Int32.not_le.mp c_71)] at K; exact Vg.weak K (by repeat first | exact trivial | refine ⟨rfl, ?_⟩)) | (rw [absI, if_neg c_54, maxI, if_neg (Int32.not_lt.mpr c_71)] at K; exact Vg.weak K (by repeat first | exact trivial | refine ⟨rfl, ?_⟩)) | (rw [absI, if_neg c_54, maxI, if_pos (Int32.not_le.mp c_71)] at K; exact Vg.weak K (by repeat first | exact trivial | refine ⟨rfl, ?_⟩))
  · refine x_iload (q := 59) dX10_missOf_57 rfl rfl ?_
    refine x_ineg (q := 60) dX10_missOf_59 rfl ?_
    refine x_goto (q := 65) dX10_missOf_60 (by decide) ?_
    refine x_istore (q := 67) dX10_missOf_65 rfl (by decide) ?_
    refine x_iload (q := 69) dX10_missOf_67 rfl rfl ?_
    refine x_iload (q := 71) dX10_missOf_69 rfl rfl ?_
    refine x_ic_le (q := 74) (t := 79) dX10_missOf_71 rfl (by decide) (fun c_71 => ?_) (fun c_71 => ?_)
    · refine x_iload (q := 81) dX10_missOf_79 rfl rfl ?_
      refine x_istore (q := 83) dX10_missOf_81 rfl (by decide) ?_
      refine x_iinc (q := 86) (v := 1) dX10_missOf_83 rfl rfl (by decide) (by decide) ?_
      refine x_goto (q := 6) dX10_missOf_86 (by decide) ?_
      first | (rw [absI, if_pos c_54, maxI, if_neg (Int32.not_lt.mpr c_71)] at K; exact Vg.weak K (by repeat first | exact trivial | refine ⟨rfl, ?_⟩)) | (rw [absI, if_pos c_54, maxI, if_pos (Int32.not_le.mp c_71)] at K; exact Vg.weak K (by repeat first | exact trivial | refine ⟨rfl, ?_⟩)) | (rw [absI, if_neg c_54, maxI, if_neg (Int32.not_lt.mpr c_71)] at K; exact Vg.weak K (by repeat first | exact trivial | refine ⟨rfl, ?_⟩)) | (rw [absI, if_neg c_54, maxI, if_pos (Int32.not_le.mp c_71)] at K; exact Vg.weak K (by repeat first | exact trivial | refine ⟨rfl, ?_⟩))
    · refine x_iload (q := 76) dX10_missOf_74 rfl rfl ?_
      refine x_goto (q := 81) dX10_missOf_76 (by decide) ?_
      refine x_istore (q := 83) dX10_missOf_81 rfl (by decide) ?_
      refine x_iinc (q := 86) (v := 1) dX10_missOf_83 rfl rfl (by decide) (by decide) ?_
      refine x_goto (q := 6) dX10_missOf_86 (by decide) ?_
      first | (rw [absI, if_pos c_54, maxI, if_neg (Int32.not_lt.mpr c_71)] at K; exact Vg.weak K (by repeat first | exact trivial | refine ⟨rfl, ?_⟩)) | (rw [absI, if_pos c_54, maxI, if_pos (Int32.not_le.mp c_71)] at K; exact Vg.weak K (by repeat first | exact trivial | refine ⟨rfl, ?_⟩)) | (rw [absI, if_neg c_54, maxI, if_neg (Int32.not_lt.mpr c_71)] at K; exact Vg.weak K (by repeat first | exact trivial | refine ⟨rfl, ?_⟩)) | (rw [absI, if_neg c_54, maxI, if_pos (Int32.not_le.mp c_71)] at K; exact Vg.weak K (by repeat first | exact trivial | refine ⟨rfl, ?_⟩))
set_option maxHeartbeats 4000000 in
set_option maxRecDepth 100000 in
theorem st_missOf1 {Q : QF} {h : HF} (hS : Sh h) {rm : Nat} (hm0 : 0 < rm ∧ rm ≤ 170) (hmt : shT rm = .inl (0, 8, .inl (fun _ => 0))) (t : Nat) (ht : t < 24) (x y z : Int32) (m : Int32) (K : Vg mX10_missOf none Q 6 [some (.ref 132), some (.int (nI t)), some (.ref rm), some (.int x), some (.int y), some (.int z), some (.int (maxI m (absI ((ysh (gi h 144) (gi h rm) (gi h 133) (gi h 134) (8 * t) 1) - y)))), some (.int 2), none] [] 170 h 0 0) : Vg mX10_missOf none Q 6 [some (.ref 132), some (.int (nI t)), some (.ref rm), some (.int x), some (.int y), some (.int z), some (.int m), some (.int 1), none] [] 170 h 0 0 := by
  refine x_iload (q := 8) dX10_missOf_6 rfl rfl ?_
  refine x_iconst (q := 9) (v := 3) dX10_missOf_8 rfl (by decide) ?_
  refine x_ic_ge (q := 12) (t := 89) dX10_missOf_9 rfl (by decide) (fun c_ => absurd c_ (by decide)) (fun _ => ?_)
  refine x_aload_n (q := 13) dX10_missOf_12 rfl rfl rfl ?_
  refine x_aload_n (q := 14) dX10_missOf_13 rfl rfl rfl ?_
  refine x_get (q := 17) dX10_missOf_14 rfl f_X10_44 (cl_132 hS) rfl (by decide) ?_
  refine x_bipush (q := 19) (v := 8) dX10_missOf_17 rfl (by decide) ?_
  refine x_iload_n (q := 20) dX10_missOf_19 rfl rfl rfl ?_
  refine x_imul (q := 21) dX10_missOf_20 rfl ?_
  refine x_aload_n (q := 22) dX10_missOf_21 rfl rfl rfl ?_
  refine x_iload (q := 24) dX10_missOf_22 rfl rfl ?_
  refine y_cvI (q := 27) dX10_missOf_24 rfl l_X10_180 (c_shB hS hm0 hmt t 1 ht (by decide)) rfl rfl (cl_132 hS) (by decide) rfl rfl rfl rfl ?_
  refine x_iload (q := 29) dX10_missOf_27 rfl rfl ?_
  refine x_if_ne (q := 32) (t := 36) dX10_missOf_29 rfl (by decide) (fun _ => ?_) (fun c_ => absurd c_ (by decide))
  refine x_iload (q := 38) dX10_missOf_36 rfl rfl ?_
  refine x_iconst (q := 39) (v := 1) dX10_missOf_38 rfl (by decide) ?_
  refine x_ic_ne (q := 42) (t := 47) dX10_missOf_39 rfl (by decide) (fun c_ => absurd c_ (by decide)) (fun _ => ?_)
  refine x_iload (q := 44) dX10_missOf_42 rfl rfl ?_
  refine x_goto (q := 49) dX10_missOf_44 (by decide) ?_
  refine x_isub (q := 50) dX10_missOf_49 rfl ?_
  refine x_istore (q := 52) dX10_missOf_50 rfl (by decide) ?_
  refine x_iload (q := 54) dX10_missOf_52 rfl rfl ?_
  refine x_if_ge (q := 57) (t := 63) dX10_missOf_54 rfl (by decide) (fun c_54 => ?_) (fun c_54 => ?_)
  · refine x_iload (q := 65) dX10_missOf_63 rfl rfl ?_
    refine x_istore (q := 67) dX10_missOf_65 rfl (by decide) ?_
    refine x_iload (q := 69) dX10_missOf_67 rfl rfl ?_
    refine x_iload (q := 71) dX10_missOf_69 rfl rfl ?_
    refine x_ic_le (q := 74) (t := 79) dX10_missOf_71 rfl (by decide) (fun c_71 => ?_) (fun c_71 => ?_)
    · refine x_iload (q := 81) dX10_missOf_79 rfl rfl ?_
      refine x_istore (q := 83) dX10_missOf_81 rfl (by decide) ?_
      refine x_iinc (q := 86) (v := 2) dX10_missOf_83 rfl rfl (by decide) (by decide) ?_
      refine x_goto (q := 6) dX10_missOf_86 (by decide) ?_
      first | (rw [absI, if_pos c_54, maxI, if_neg (Int32.not_lt.mpr c_71)] at K; exact Vg.weak K (by repeat first | exact trivial | refine ⟨rfl, ?_⟩)) | (rw [absI, if_pos c_54, maxI, if_pos (Int32.not_le.mp c_71)] at K; exact Vg.weak K (by repeat first | exact trivial | refine ⟨rfl, ?_⟩)) | (rw [absI, if_neg c_54, maxI, if_neg (Int32.not_lt.mpr c_71)] at K; exact Vg.weak K (by repeat first | exact trivial | refine ⟨rfl, ?_⟩)) | (rw [absI, if_neg c_54, maxI, if_pos (Int32.not_le.mp c_71)] at K; exact Vg.weak K (by repeat first | exact trivial | refine ⟨rfl, ?_⟩))
    · refine x_iload (q := 76) dX10_missOf_74 rfl rfl ?_
      refine x_goto (q := 81) dX10_missOf_76 (by decide) ?_
      refine x_istore (q := 83) dX10_missOf_81 rfl (by decide) ?_
      refine x_iinc (q := 86) (v := 2) dX10_missOf_83 rfl rfl (by decide) (by decide) ?_
      refine x_goto (q := 6) dX10_missOf_86 (by decide) ?_
      first | (rw [absI, if_pos c_54, maxI, if_neg (Int32.not_lt.mpr c_71)] at K; exact Vg.weak K (by repeat first | exact trivial | refine ⟨rfl, ?_⟩)) | (rw [absI, if_pos c_54, maxI, if_pos (Int32.not_le.mp c_71)] at K; exact Vg.weak K (by repeat first | exact trivial | refine ⟨rfl, ?_⟩)) | (rw [absI, if_neg c_54, maxI, if_neg (Int32.not_lt.mpr c_71)] at K; exact Vg.weak K (by repeat first | exact trivial | refine ⟨rfl, ?_⟩)) | (rw [absI, if_neg c_54, maxI, if_pos (Int32.not_le.mp c_71)] at K; exact Vg.weak K (by repeat first | exact trivial | refine ⟨rfl, ?_⟩))
  · refine x_iload (q := 59) dX10_missOf_57 rfl rfl ?_
    refine x_ineg (q := 60) dX10_missOf_59 rfl ?_
    refine x_goto (q := 65) dX10_missOf_60 (by decide) ?_
    refine x_istore (q := 67) dX10_missOf_65 rfl (by decide) ?_
    refine x_iload (q := 69) dX10_missOf_67 rfl rfl ?_
    refine x_iload (q := 71) dX10_missOf_69 rfl rfl ?_
    refine x_ic_le (q := 74) (t := 79) dX10_missOf_71 rfl (by decide) (fun c_71 => ?_) (fun c_71 => ?_)
    · refine x_iload (q := 81) dX10_missOf_79 rfl rfl ?_
      refine x_istore (q := 83) dX10_missOf_81 rfl (by decide) ?_
      refine x_iinc (q := 86) (v := 2) dX10_missOf_83 rfl rfl (by decide) (by decide) ?_
      refine x_goto (q := 6) dX10_missOf_86 (by decide) ?_
      first | (rw [absI, if_pos c_54, maxI, if_neg (Int32.not_lt.mpr c_71)] at K; exact Vg.weak K (by repeat first | exact trivial | refine ⟨rfl, ?_⟩)) | (rw [absI, if_pos c_54, maxI, if_pos (Int32.not_le.mp c_71)] at K; exact Vg.weak K (by repeat first | exact trivial | refine ⟨rfl, ?_⟩)) | (rw [absI, if_neg c_54, maxI, if_neg (Int32.not_lt.mpr c_71)] at K; exact Vg.weak K (by repeat first | exact trivial | refine ⟨rfl, ?_⟩)) | (rw [absI, if_neg c_54, maxI, if_pos (Int32.not_le.mp c_71)] at K; exact Vg.weak K (by repeat first | exact trivial | refine ⟨rfl, ?_⟩))
    · refine x_iload (q := 76) dX10_missOf_74 rfl rfl ?_
      refine x_goto (q := 81) dX10_missOf_76 (by decide) ?_
      refine x_istore (q := 83) dX10_missOf_81 rfl (by decide) ?_
      refine x_iinc (q := 86) (v := 2) dX10_missOf_83 rfl rfl (by decide) (by decide) ?_
      refine x_goto (q := 6) dX10_missOf_86 (by decide) ?_
      first | (rw [absI, if_pos c_54, maxI, if_neg (Int32.not_lt.mpr c_71)] at K; exact Vg.weak K (by repeat first | exact trivial | refine ⟨rfl, ?_⟩)) | (rw [absI, if_pos c_54, maxI, if_pos (Int32.not_le.mp c_71)] at K; exact Vg.weak K (by repeat first | exact trivial | refine ⟨rfl, ?_⟩)) | (rw [absI, if_neg c_54, maxI, if_neg (Int32.not_lt.mpr c_71)] at K; exact Vg.weak K (by repeat first | exact trivial | refine ⟨rfl, ?_⟩)) | (rw [absI, if_neg c_54, maxI, if_pos (Int32.not_le.mp c_71)] at K; exact Vg.weak K (by repeat first | exact trivial | refine ⟨rfl, ?_⟩))
set_option maxHeartbeats 4000000 in
set_option maxRecDepth 100000 in
theorem st_missOf2 {Q : QF} {h : HF} (hS : Sh h) {rm : Nat} (hm0 : 0 < rm ∧ rm ≤ 170) (hmt : shT rm = .inl (0, 8, .inl (fun _ => 0))) (t : Nat) (ht : t < 24) (x y z : Int32) (m : Int32) (K : Vg mX10_missOf none Q 6 [some (.ref 132), some (.int (nI t)), some (.ref rm), some (.int x), some (.int y), some (.int z), some (.int (maxI m (absI ((ysh (gi h 144) (gi h rm) (gi h 133) (gi h 134) (8 * t) 2) - z)))), some (.int 3), none] [] 170 h 0 0) : Vg mX10_missOf none Q 6 [some (.ref 132), some (.int (nI t)), some (.ref rm), some (.int x), some (.int y), some (.int z), some (.int m), some (.int 2), none] [] 170 h 0 0 := by
  refine x_iload (q := 8) dX10_missOf_6 rfl rfl ?_
  refine x_iconst (q := 9) (v := 3) dX10_missOf_8 rfl (by decide) ?_
  refine x_ic_ge (q := 12) (t := 89) dX10_missOf_9 rfl (by decide) (fun c_ => absurd c_ (by decide)) (fun _ => ?_)
  refine x_aload_n (q := 13) dX10_missOf_12 rfl rfl rfl ?_
  refine x_aload_n (q := 14) dX10_missOf_13 rfl rfl rfl ?_
  refine x_get (q := 17) dX10_missOf_14 rfl f_X10_44 (cl_132 hS) rfl (by decide) ?_
  refine x_bipush (q := 19) (v := 8) dX10_missOf_17 rfl (by decide) ?_
  refine x_iload_n (q := 20) dX10_missOf_19 rfl rfl rfl ?_
  refine x_imul (q := 21) dX10_missOf_20 rfl ?_
  refine x_aload_n (q := 22) dX10_missOf_21 rfl rfl rfl ?_
  refine x_iload (q := 24) dX10_missOf_22 rfl rfl ?_
  refine y_cvI (q := 27) dX10_missOf_24 rfl l_X10_180 (c_shB hS hm0 hmt t 2 ht (by decide)) rfl rfl (cl_132 hS) (by decide) rfl rfl rfl rfl ?_
  refine x_iload (q := 29) dX10_missOf_27 rfl rfl ?_
  refine x_if_ne (q := 32) (t := 36) dX10_missOf_29 rfl (by decide) (fun _ => ?_) (fun c_ => absurd c_ (by decide))
  refine x_iload (q := 38) dX10_missOf_36 rfl rfl ?_
  refine x_iconst (q := 39) (v := 1) dX10_missOf_38 rfl (by decide) ?_
  refine x_ic_ne (q := 42) (t := 47) dX10_missOf_39 rfl (by decide) (fun _ => ?_) (fun c_ => absurd c_ (by decide))
  refine x_iload (q := 49) dX10_missOf_47 rfl rfl ?_
  refine x_isub (q := 50) dX10_missOf_49 rfl ?_
  refine x_istore (q := 52) dX10_missOf_50 rfl (by decide) ?_
  refine x_iload (q := 54) dX10_missOf_52 rfl rfl ?_
  refine x_if_ge (q := 57) (t := 63) dX10_missOf_54 rfl (by decide) (fun c_54 => ?_) (fun c_54 => ?_)
  · refine x_iload (q := 65) dX10_missOf_63 rfl rfl ?_
    refine x_istore (q := 67) dX10_missOf_65 rfl (by decide) ?_
    refine x_iload (q := 69) dX10_missOf_67 rfl rfl ?_
    refine x_iload (q := 71) dX10_missOf_69 rfl rfl ?_
    refine x_ic_le (q := 74) (t := 79) dX10_missOf_71 rfl (by decide) (fun c_71 => ?_) (fun c_71 => ?_)
    · refine x_iload (q := 81) dX10_missOf_79 rfl rfl ?_
      refine x_istore (q := 83) dX10_missOf_81 rfl (by decide) ?_
      refine x_iinc (q := 86) (v := 3) dX10_missOf_83 rfl rfl (by decide) (by decide) ?_
      refine x_goto (q := 6) dX10_missOf_86 (by decide) ?_
      first | (rw [absI, if_pos c_54, maxI, if_neg (Int32.not_lt.mpr c_71)] at K; exact Vg.weak K (by repeat first | exact trivial | refine ⟨rfl, ?_⟩)) | (rw [absI, if_pos c_54, maxI, if_pos (Int32.not_le.mp c_71)] at K; exact Vg.weak K (by repeat first | exact trivial | refine ⟨rfl, ?_⟩)) | (rw [absI, if_neg c_54, maxI, if_neg (Int32.not_lt.mpr c_71)] at K; exact Vg.weak K (by repeat first | exact trivial | refine ⟨rfl, ?_⟩)) | (rw [absI, if_neg c_54, maxI, if_pos (Int32.not_le.mp c_71)] at K; exact Vg.weak K (by repeat first | exact trivial | refine ⟨rfl, ?_⟩))
    · refine x_iload (q := 76) dX10_missOf_74 rfl rfl ?_
      refine x_goto (q := 81) dX10_missOf_76 (by decide) ?_
      refine x_istore (q := 83) dX10_missOf_81 rfl (by decide) ?_
      refine x_iinc (q := 86) (v := 3) dX10_missOf_83 rfl rfl (by decide) (by decide) ?_
      refine x_goto (q := 6) dX10_missOf_86 (by decide) ?_
      first | (rw [absI, if_pos c_54, maxI, if_neg (Int32.not_lt.mpr c_71)] at K; exact Vg.weak K (by repeat first | exact trivial | refine ⟨rfl, ?_⟩)) | (rw [absI, if_pos c_54, maxI, if_pos (Int32.not_le.mp c_71)] at K; exact Vg.weak K (by repeat first | exact trivial | refine ⟨rfl, ?_⟩)) | (rw [absI, if_neg c_54, maxI, if_neg (Int32.not_lt.mpr c_71)] at K; exact Vg.weak K (by repeat first | exact trivial | refine ⟨rfl, ?_⟩)) | (rw [absI, if_neg c_54, maxI, if_pos (Int32.not_le.mp c_71)] at K; exact Vg.weak K (by repeat first | exact trivial | refine ⟨rfl, ?_⟩))
  · refine x_iload (q := 59) dX10_missOf_57 rfl rfl ?_
    refine x_ineg (q := 60) dX10_missOf_59 rfl ?_
    refine x_goto (q := 65) dX10_missOf_60 (by decide) ?_
    refine x_istore (q := 67) dX10_missOf_65 rfl (by decide) ?_
    refine x_iload (q := 69) dX10_missOf_67 rfl rfl ?_
    refine x_iload (q := 71) dX10_missOf_69 rfl rfl ?_
    refine x_ic_le (q := 74) (t := 79) dX10_missOf_71 rfl (by decide) (fun c_71 => ?_) (fun c_71 => ?_)
    · refine x_iload (q := 81) dX10_missOf_79 rfl rfl ?_
      refine x_istore (q := 83) dX10_missOf_81 rfl (by decide) ?_
      refine x_iinc (q := 86) (v := 3) dX10_missOf_83 rfl rfl (by decide) (by decide) ?_
      refine x_goto (q := 6) dX10_missOf_86 (by decide) ?_
      first | (rw [absI, if_pos c_54, maxI, if_neg (Int32.not_lt.mpr c_71)] at K; exact Vg.weak K (by repeat first | exact trivial | refine ⟨rfl, ?_⟩)) | (rw [absI, if_pos c_54, maxI, if_pos (Int32.not_le.mp c_71)] at K; exact Vg.weak K (by repeat first | exact trivial | refine ⟨rfl, ?_⟩)) | (rw [absI, if_neg c_54, maxI, if_neg (Int32.not_lt.mpr c_71)] at K; exact Vg.weak K (by repeat first | exact trivial | refine ⟨rfl, ?_⟩)) | (rw [absI, if_neg c_54, maxI, if_pos (Int32.not_le.mp c_71)] at K; exact Vg.weak K (by repeat first | exact trivial | refine ⟨rfl, ?_⟩))
    · refine x_iload (q := 76) dX10_missOf_74 rfl rfl ?_
      refine x_goto (q := 81) dX10_missOf_76 (by decide) ?_
      refine x_istore (q := 83) dX10_missOf_81 rfl (by decide) ?_
      refine x_iinc (q := 86) (v := 3) dX10_missOf_83 rfl rfl (by decide) (by decide) ?_
      refine x_goto (q := 6) dX10_missOf_86 (by decide) ?_
      first | (rw [absI, if_pos c_54, maxI, if_neg (Int32.not_lt.mpr c_71)] at K; exact Vg.weak K (by repeat first | exact trivial | refine ⟨rfl, ?_⟩)) | (rw [absI, if_pos c_54, maxI, if_pos (Int32.not_le.mp c_71)] at K; exact Vg.weak K (by repeat first | exact trivial | refine ⟨rfl, ?_⟩)) | (rw [absI, if_neg c_54, maxI, if_neg (Int32.not_lt.mpr c_71)] at K; exact Vg.weak K (by repeat first | exact trivial | refine ⟨rfl, ?_⟩)) | (rw [absI, if_neg c_54, maxI, if_pos (Int32.not_le.mp c_71)] at K; exact Vg.weak K (by repeat first | exact trivial | refine ⟨rfl, ?_⟩))
def ymiss (s : Nat → Int32) (x y z : Int32) : Int32 := maxI (maxI (maxI 0 (absI (s 0 - x))) (absI (s 1 - y))) (absI (s 2 - z))
set_option maxHeartbeats 4000000 in
set_option maxRecDepth 100000 in
theorem st_missOf3 {h : HF} (hS : Sh h) {rm : Nat} (hm0 : 0 < rm ∧ rm ≤ 170) (hmt : shT rm = .inl (0, 8, .inl (fun _ => 0))) (t : Nat) (ht : t < 24) (x y z : Int32) : Vg mX10_missOf none (QM mX10_missOf 170 (RI (ymiss (fun d => ysh (gi h 144) (gi h rm) (gi h 133) (gi h 134) (8 * t) d) x y z) h)) 6 [some (.ref 132), some (.int (nI t)), some (.ref rm), some (.int x), some (.int y), some (.int z), some (.int (ymiss (fun d => ysh (gi h 144) (gi h rm) (gi h 133) (gi h 134) (8 * t) d) x y z)), some (.int 3), none] [] 170 h 0 0 := by
  refine x_iload (q := 8) dX10_missOf_6 rfl rfl ?_
  refine x_iconst (q := 9) (v := 3) dX10_missOf_8 rfl (by decide) ?_
  refine x_ic_ge (q := 12) (t := 89) dX10_missOf_9 rfl (by decide) (fun _ => ?_) (fun c_ => absurd (by decide) c_)
  refine x_iload (q := 91) dX10_missOf_89 rfl rfl ?_
  exact x_iret dX10_missOf_91 ⟨_, rfl, by first | rfl | (split <;> rfl)⟩ rfl (Nat.le_refl _) rfl ⟨rfl, rfl⟩
set_option maxHeartbeats 4000000 in
set_option maxRecDepth 100000 in
theorem c_X10_missOf {h : HF} (hS : Sh h) {rm : Nat} (hm0 : 0 < rm ∧ rm ≤ 170) (hmt : shT rm = .inl (0, 8, .inl (fun _ => 0))) (t : Nat) (ht : t < 24) (x y z : Int32) : Mc mX10_missOf [.ref 132, .int (nI t), .ref rm, .int x, .int y, .int z] 170 h (RI (ymiss (fun d => ysh (gi h 144) (gi h rm) (gi h 133) (gi h 134) (8 * t) d) x y z) h) := by
  refine Mc.of (by decide) rfl (Nat.le_of_ble_eq_true rfl) ?_
  refine x_iconst (q := 1) (v := 0) dX10_missOf_0 rfl (by decide) ?_
  refine x_istore (q := 3) dX10_missOf_1 rfl (by decide) ?_
  refine x_iconst (q := 4) (v := 0) dX10_missOf_3 rfl (by decide) ?_
  refine x_istore (q := 6) dX10_missOf_4 rfl (by decide) ?_
  exact Vg.weak (st_missOf0 hS hm0 hmt t ht x y z 0 (st_missOf1 hS hm0 hmt t ht x y z _ (st_missOf2 hS hm0 hmt t ht x y z _ (st_missOf3 hS hm0 hmt t ht x y z)))) (by repeat first | exact trivial | refine ⟨rfl, ?_⟩)

def mDropV (f : Nat → Int32) (hd : Int32) (b : Int32) (nb : Nat) : Int32 := if ltB b (nI nb) = true then if hd = 0 then 0 else f b.toNatClampNeg else -2
set_option maxHeartbeats 4000000 in
set_option maxRecDepth 100000 in
theorem c_X10_drop {h : HF} (hS : Sh h) (b : Int32) (nb : Nat) (hnb : fI h 132 1 = nI nb) (hnb8 : nb ≤ 8) : Mc mX10_drop [.ref 132, .int b] 170 h (RI (mDropV (gi h 147) (fI h 132 19) b nb) (h)) := by
  refine Mc.of (by decide) rfl (Nat.le_of_ble_eq_true rfl) ?_
  refine x_aload_n (q := 1) dX10_drop_0 rfl rfl rfl ?_
  refine x_iload_n (q := 2) dX10_drop_1 rfl rfl rfl ?_
  refine y_cvI (q := 5) dX10_drop_2 rfl l_X10_140 (c_X10_isBase hS _ nb hnb hnb8) rfl rfl (cl_132 hS) (by decide) rfl rfl rfl rfl ?_
  refine x_if_ne (q := 8) (t := 13) dX10_drop_5 rfl (by decide) (fun c_5 => ?_) (fun c_5 => ?_)
  · replace c_5 := b2y c_5
    refine x_aload_n (q := 14) dX10_drop_13 rfl rfl rfl ?_
    refine x_get (q := 17) dX10_drop_14 rfl f_X10_195 (cl_132 hS) rfl (by decide) ?_
    refine x_if_eq (q := 20) (t := 29) dX10_drop_17 rfl (by decide) (fun c_17 => ?_) (fun c_17 => ?_)
    · refine x_iconst (q := 30) (v := 0) dX10_drop_29 rfl (by decide) ?_
      exact x_iret dX10_drop_30 ⟨_, rfl, by first | rfl | (split <;> rfl)⟩ rfl (Nat.le_refl _) rfl ⟨by first | (simp [mDropV, c_5, c_17]; done) | (simp [mDropV, c_5, c_17, nI_clamp (show j < 2 ^ 31 by omega)]; done), rfl⟩
    · obtain ⟨j, hj, rfl⟩ := ltB_of (by omega) c_5
      refine x_aload_n (q := 21) dX10_drop_20 rfl rfl rfl ?_
      refine x_get (q := 24) dX10_drop_21 rfl f_X10_54 (cl_132 hS) rfl (by decide) ?_
      refine x_iload_n (q := 25) dX10_drop_24 rfl rfl rfl ?_
      refine z_iald (q := 26) (j := j) dX10_drop_25 rfl (cl_147 hS) (by omega) (by decide) (by decide) ?_
      refine x_goto (q := 30) dX10_drop_26 (by decide) ?_
      exact x_iret dX10_drop_30 ⟨_, rfl, by first | rfl | (split <;> rfl)⟩ rfl (Nat.le_refl _) rfl ⟨by first | (simp [mDropV, c_5, c_17]; done) | (simp [mDropV, c_5, c_17, nI_clamp (show j < 2 ^ 31 by omega)]; done), rfl⟩
  · replace c_5 := b2n c_5
    refine x_bipush (q := 10) (v := -2) dX10_drop_8 rfl (by decide) ?_
    refine x_goto (q := 30) dX10_drop_10 (by decide) ?_
    exact x_iret dX10_drop_30 ⟨_, rfl, by first | rfl | (split <;> rfl)⟩ rfl (Nat.le_refl _) rfl ⟨by first | (simp [mDropV, c_5]; done) | (simp [mDropV, c_5, nI_clamp (show j < 2 ^ 31 by omega)]; done), rfl⟩

set_option maxHeartbeats 4000000 in
set_option maxRecDepth 100000 in
theorem c_X10_amount {h : HF} (hS : Sh h) (t b : Int32) (nt : Nat) (hnt : fI h 132 15 = nI nt) (hnt24 : nt ≤ 24) (nb : Nat) (hnb : fI h 132 1 = nI nb) (hnb8 : nb ≤ 8) : Mc mX10_amount [.ref 132, .int t, .int b] 170 h (RI (vAmt (fun k j => gi h 144 (8 * k + j)) t b nt nb) (h)) := by
  refine Mc.of (by decide) rfl (Nat.le_of_ble_eq_true rfl) ?_
  refine x_aload_n (q := 1) dX10_amount_0 rfl rfl rfl ?_
  refine x_iload_n (q := 2) dX10_amount_1 rfl rfl rfl ?_
  refine y_cvI (q := 5) dX10_amount_2 rfl l_X10_165 (c_X10_isBatch hS _ nt hnt hnt24) rfl rfl (cl_132 hS) (by decide) rfl rfl rfl rfl ?_
  refine x_if_eq (q := 8) (t := 30) dX10_amount_5 rfl (by decide) (fun c_5 => ?_) (fun c_5 => ?_)
  · replace c_5 := b2n c_5
    refine x_bipush (q := 32) (v := -2) dX10_amount_30 rfl (by decide) ?_
    exact x_iret dX10_amount_32 ⟨_, rfl, by first | rfl | (split <;> rfl)⟩ rfl (Nat.le_refl _) rfl ⟨by first | (simp [vAmt, c_5]; done) | (simp [vAmt, c_5, nI_clamp (show j < 2 ^ 31 by omega), nI_clamp (show k < 2 ^ 31 by omega)]; done), rfl⟩
  · replace c_5 := b2y c_5
    refine x_aload_n (q := 9) dX10_amount_8 rfl rfl rfl ?_
    refine x_iload_n (q := 10) dX10_amount_9 rfl rfl rfl ?_
    refine y_cvI (q := 13) dX10_amount_10 rfl l_X10_140 (c_X10_isBase hS _ nb hnb hnb8) rfl rfl (cl_132 hS) (by decide) rfl rfl rfl rfl ?_
    refine x_if_eq (q := 16) (t := 30) dX10_amount_13 rfl (by decide) (fun c_13 => ?_) (fun c_13 => ?_)
    · replace c_13 := b2n c_13
      refine x_bipush (q := 32) (v := -2) dX10_amount_30 rfl (by decide) ?_
      exact x_iret dX10_amount_32 ⟨_, rfl, by first | rfl | (split <;> rfl)⟩ rfl (Nat.le_refl _) rfl ⟨by first | (simp [vAmt, c_5, c_13]; done) | (simp [vAmt, c_5, c_13, nI_clamp (show j < 2 ^ 31 by omega), nI_clamp (show k < 2 ^ 31 by omega)]; done), rfl⟩
    · replace c_13 := b2y c_13
      obtain ⟨k, hk0, rfl⟩ := ltB_of (by omega) c_5
      obtain ⟨j, hj, rfl⟩ := ltB_of (by omega) c_13
      refine x_aload_n (q := 17) dX10_amount_16 rfl rfl rfl ?_
      refine x_get (q := 20) dX10_amount_17 rfl f_X10_44 (cl_132 hS) rfl (by decide) ?_
      refine x_bipush (q := 22) (v := 8) dX10_amount_20 rfl (by decide) ?_
      refine x_iload_n (q := 23) dX10_amount_22 rfl rfl rfl ?_
      refine x_imul (q := 24) dX10_amount_23 rfl ?_
      refine x_iload_n (q := 25) dX10_amount_24 rfl rfl rfl ?_
      refine x_iadd (q := 26) dX10_amount_25 rfl ?_
      rw [ux8]
      refine z_iald (q := 27) (j := 8 * k + j) dX10_amount_26 rfl (cl_144 hS) (by omega) (by decide) (by decide) ?_
      refine x_goto (q := 32) dX10_amount_27 (by decide) ?_
      exact x_iret dX10_amount_32 ⟨_, rfl, by first | rfl | (split <;> rfl)⟩ rfl (Nat.le_refl _) rfl ⟨by first | (simp [vAmt, c_5, c_13]; done) | (simp [vAmt, c_5, c_13, nI_clamp (show j < 2 ^ 31 by omega), nI_clamp (show k < 2 ^ 31 by omega)]; done), rfl⟩

set_option maxHeartbeats 4000000 in
set_option maxRecDepth 100000 in
theorem c_X10_shade {h : HF} (hS : Sh h) (t d : Int32) (nt : Nat) (hnt : fI h 132 15 = nI nt) (hnt24 : nt ≤ 24) : Mc mX10_shade [.ref 132, .int t, .int d] 170 h (RI (vShade (fun k => usum (gi h 144) k 8) (fun k d => ysh (gi h 144) (gi h 169) (gi h 133) (gi h 134) (8 * k) d) t d nt) (h)) := by
  refine Mc.of (by decide) rfl (Nat.le_of_ble_eq_true rfl) ?_
  refine x_aload_n (q := 1) dX10_shade_0 rfl rfl rfl ?_
  refine x_iload_n (q := 2) dX10_shade_1 rfl rfl rfl ?_
  refine y_cvI (q := 5) dX10_shade_2 rfl l_X10_165 (c_X10_isBatch hS _ nt hnt hnt24) rfl rfl (cl_132 hS) (by decide) rfl rfl rfl rfl ?_
  refine x_if_eq (q := 8) (t := 17) dX10_shade_5 rfl (by decide) (fun c_5 => ?_) (fun c_5 => ?_)
  · replace c_5 := b2n c_5
    refine x_bipush (q := 19) (v := -2) dX10_shade_17 rfl (by decide) ?_
    exact x_iret dX10_shade_19 ⟨_, rfl, by first | rfl | (split <;> rfl)⟩ rfl (Nat.le_refl _) rfl ⟨by simp [vShade, c_5], rfl⟩
  · replace c_5 := b2y c_5
    refine x_iload_n (q := 9) dX10_shade_8 rfl rfl rfl ?_
    refine x_iconst (q := 10) (v := 0) dX10_shade_9 rfl (by decide) ?_
    refine x_iconst (q := 11) (v := 2) dX10_shade_10 rfl (by decide) ?_
    refine y_csI (q := 14) dX10_shade_11 rfl l_X10_133 (c_X10_in hS _ _ _) rfl rfl rfl rfl rfl rfl ?_
    refine x_if_ne (q := 17) (t := 20) dX10_shade_14 rfl (by decide) (fun c_14 => ?_) (fun c_14 => ?_)
    · replace c_14 := b2y c_14
      obtain ⟨k, hk0, rfl⟩ := ltB_of (by omega) c_5
      obtain ⟨j, hj, rfl⟩ := inB_of (n := 2) (by decide) c_14
      refine x_aload_n (q := 21) dX10_shade_20 rfl rfl rfl ?_
      refine x_iload_n (q := 22) dX10_shade_21 rfl rfl rfl ?_
      refine y_cvI (q := 25) dX10_shade_22 rfl l_X10_168 (c_X10_unitsOf hS k (by omega)) rfl rfl (cl_132 hS) (by decide) rfl rfl rfl rfl ?_
      refine x_if_ne (q := 28) (t := 33) dX10_shade_25 rfl (by decide) (fun c_25 => ?_) (fun c_25 => ?_)
      · refine x_aload_n (q := 34) dX10_shade_33 rfl rfl rfl ?_
        refine x_aload_n (q := 35) dX10_shade_34 rfl rfl rfl ?_
        refine x_get (q := 38) dX10_shade_35 rfl f_X10_44 (cl_132 hS) rfl (by decide) ?_
        refine x_bipush (q := 40) (v := 8) dX10_shade_38 rfl (by decide) ?_
        refine x_iload_n (q := 41) dX10_shade_40 rfl rfl rfl ?_
        refine x_imul (q := 42) dX10_shade_41 rfl ?_
        refine x_aload_n (q := 43) dX10_shade_42 rfl rfl rfl ?_
        refine x_get (q := 46) dX10_shade_43 rfl f_X10_124 (cl_132 hS) rfl (by decide) ?_
        refine x_iload_n (q := 47) dX10_shade_46 rfl rfl rfl ?_
        refine y_cvI (q := 50) dX10_shade_47 rfl l_X10_180 (c_shB hS (rm := 169) (by decide) rfl k j (by omega) (by omega)) rfl rfl (cl_132 hS) (by decide) rfl rfl rfl rfl ?_
        exact x_iret dX10_shade_50 ⟨_, rfl, by first | rfl | (split <;> rfl)⟩ rfl (Nat.le_refl _) rfl ⟨by first | (simp [vShade, c_5, c_14, c_25, nI_clamp (show j < 2 ^ 31 by omega), nI_clamp (show k < 2 ^ 31 by omega)]; done), rfl⟩
      · refine x_bipush (q := 30) (v := -4) dX10_shade_28 rfl (by decide) ?_
        refine x_goto (q := 50) dX10_shade_30 (by decide) ?_
        exact x_iret dX10_shade_50 ⟨_, rfl, by first | rfl | (split <;> rfl)⟩ rfl (Nat.le_refl _) rfl ⟨by first | (simp [vShade, c_5, c_14, c_25, nI_clamp (show j < 2 ^ 31 by omega), nI_clamp (show k < 2 ^ 31 by omega)]; done), rfl⟩
    · replace c_14 := b2n c_14
      refine x_bipush (q := 19) (v := -2) dX10_shade_17 rfl (by decide) ?_
      exact x_iret dX10_shade_19 ⟨_, rfl, by first | rfl | (split <;> rfl)⟩ rfl (Nat.le_refl _) rfl ⟨by simp [vShade, c_5, c_14], rfl⟩

def mMissV (u : Nat → Int32) (s : Nat → Nat → Int32) (t x y z : Int32) (nt : Nat) : Int32 := if ltB t (nI nt) = true then if aimB x y z = true then if u t.toNatClampNeg = 0 then -4 else ymiss (s t.toNatClampNeg) x y z else -3 else -2
set_option maxHeartbeats 4000000 in
set_option maxRecDepth 100000 in
theorem c_X10_miss {h : HF} (hS : Sh h) (t x y z : Int32) (nt : Nat) (hnt : fI h 132 15 = nI nt) (hnt24 : nt ≤ 24) : Mc mX10_miss [.ref 132, .int t, .int x, .int y, .int z] 170 h (RI (mMissV (fun k => usum (gi h 144) k 8) (fun k d => ysh (gi h 144) (gi h 169) (gi h 133) (gi h 134) (8 * k) d) t x y z nt) (h)) := by
  refine Mc.of (by decide) rfl (Nat.le_of_ble_eq_true rfl) ?_
  refine x_aload_n (q := 1) dX10_miss_0 rfl rfl rfl ?_
  refine x_iload_n (q := 2) dX10_miss_1 rfl rfl rfl ?_
  refine y_cvI (q := 5) dX10_miss_2 rfl l_X10_165 (c_X10_isBatch hS _ nt hnt hnt24) rfl rfl (cl_132 hS) (by decide) rfl rfl rfl rfl ?_
  refine x_if_ne (q := 8) (t := 11) dX10_miss_5 rfl (by decide) (fun c_5 => ?_) (fun c_5 => ?_)
  · replace c_5 := b2y c_5
    refine x_iload_n (q := 12) dX10_miss_11 rfl rfl rfl ?_
    refine x_iload_n (q := 13) dX10_miss_12 rfl rfl rfl ?_
    refine x_iload (q := 15) dX10_miss_13 rfl rfl ?_
    refine y_csI (q := 18) dX10_miss_15 rfl l_X10_184 (c_X10_isAim hS _ _ _) rfl rfl rfl rfl rfl rfl ?_
    refine x_if_ne (q := 21) (t := 24) dX10_miss_18 rfl (by decide) (fun c_18 => ?_) (fun c_18 => ?_)
    · replace c_18 := b2y c_18
      obtain ⟨k, hk0, rfl⟩ := ltB_of (by omega) c_5
      refine x_aload_n (q := 25) dX10_miss_24 rfl rfl rfl ?_
      refine x_iload_n (q := 26) dX10_miss_25 rfl rfl rfl ?_
      refine y_cvI (q := 29) dX10_miss_26 rfl l_X10_168 (c_X10_unitsOf hS k (by omega)) rfl rfl (cl_132 hS) (by decide) rfl rfl rfl rfl ?_
      refine x_if_ne (q := 32) (t := 37) dX10_miss_29 rfl (by decide) (fun c_29 => ?_) (fun c_29 => ?_)
      · refine x_aload_n (q := 38) dX10_miss_37 rfl rfl rfl ?_
        refine x_iload_n (q := 39) dX10_miss_38 rfl rfl rfl ?_
        refine x_aload_n (q := 40) dX10_miss_39 rfl rfl rfl ?_
        refine x_get (q := 43) dX10_miss_40 rfl f_X10_124 (cl_132 hS) rfl (by decide) ?_
        refine x_iload_n (q := 44) dX10_miss_43 rfl rfl rfl ?_
        refine x_iload_n (q := 45) dX10_miss_44 rfl rfl rfl ?_
        refine x_iload (q := 47) dX10_miss_45 rfl rfl ?_
        refine y_cvI (q := 50) dX10_miss_47 rfl l_X10_187 (c_X10_missOf hS (rm := 169) (by decide) rfl k (by omega) _ _ _) rfl rfl (cl_132 hS) (by decide) rfl rfl rfl rfl ?_
        exact x_iret dX10_miss_50 ⟨_, rfl, by first | rfl | (split <;> rfl)⟩ rfl (Nat.le_refl _) rfl ⟨by simp [mMissV, c_5, c_18, c_29, nI_clamp (show k < 2 ^ 31 by omega)], rfl⟩
      · refine x_bipush (q := 34) (v := -4) dX10_miss_32 rfl (by decide) ?_
        refine x_goto (q := 50) dX10_miss_34 (by decide) ?_
        exact x_iret dX10_miss_50 ⟨_, rfl, by first | rfl | (split <;> rfl)⟩ rfl (Nat.le_refl _) rfl ⟨by simp [mMissV, c_5, c_18, c_29, nI_clamp (show k < 2 ^ 31 by omega)], rfl⟩
    · replace c_18 := b2n c_18
      refine x_bipush (q := 23) (v := -3) dX10_miss_21 rfl (by decide) ?_
      exact x_iret dX10_miss_23 ⟨_, rfl, by first | rfl | (split <;> rfl)⟩ rfl (Nat.le_refl _) rfl ⟨by simp [mMissV, c_5, c_18], rfl⟩
  · replace c_5 := b2n c_5
    refine x_bipush (q := 10) (v := -2) dX10_miss_8 rfl (by decide) ?_
    exact x_iret dX10_miss_10 ⟨_, rfl, by first | rfl | (split <;> rfl)⟩ rfl (Nat.le_refl _) rfl ⟨by simp [mMissV, c_5], rfl⟩

