set_option maxHeartbeats 4000000 in
set_option maxRecDepth 100000 in
theorem lp_rc2 {h : HF} (hS : Sh h) (l : Nat) : ∀ (m i : Nat), i + m = 5 → Vg mX10_recall none (QM mX10_recall 170 (RI (fsum (fun d => if gi h 150 d = 0 then 0 else ((gl h 154 d >>> ((nI l).toInt64 &&& 63)) &&& 1).toInt32) 5) h)) 123 [some (.ref 132), some (.int (nI l)), some (.int 2), some (.int (fsum (fun d => if gi h 150 d = 0 then 0 else ((gl h 154 d >>> ((nI l).toInt64 &&& 63)) &&& 1).toInt32) i)), some (.int (nI i))] [] 170 h 0 0 := by
  intro m
  induction m with
  | zero =>
    intro i hi
    obtain rfl : i = 5 := by omega
    refine x_iload (q := 125) dX10_recall_123 rfl rfl ?_
    refine x_iconst (q := 126) (v := 5) dX10_recall_125 rfl (by decide) ?_
    refine x_ic_ge (q := 129) (t := 169) dX10_recall_126 rfl (by decide) (fun _ => ?_) (fun c_ => absurd (by decide) c_)
    refine x_iload_n (q := 170) dX10_recall_169 rfl rfl rfl ?_
    exact x_iret dX10_recall_170 ⟨_, rfl, by first | rfl | (split <;> rfl)⟩ rfl (Nat.le_refl _) rfl ⟨rfl, rfl⟩
  | succ m ih =>
    intro i hi
    refine x_iload (q := 125) dX10_recall_123 rfl rfl ?_
    refine x_iconst (q := 126) (v := 5) dX10_recall_125 rfl (by decide) ?_
    refine x_ic_ge (q := 129) (t := 169) dX10_recall_126 rfl (by decide) (fun c_ => absurd c_ (nI_ge (b := 5) (by omega) (by decide))) (fun _ => ?_)
    refine x_iload_n (q := 130) dX10_recall_129 rfl rfl rfl ?_
    refine x_iconst (q := 131) (v := 2) dX10_recall_130 rfl (by decide) ?_
    refine x_ic_ne (q := 134) (t := 169) dX10_recall_131 rfl (by decide) (fun c_ => absurd c_ (by decide)) (fun _ => ?_)
    refine x_iload_n (q := 135) dX10_recall_134 rfl rfl rfl ?_
    refine x_aload_n (q := 136) dX10_recall_135 rfl rfl rfl ?_
    refine x_get (q := 139) dX10_recall_136 rfl f_X10_63 (cl_132 hS) rfl (by decide) ?_
    refine x_iload (q := 141) dX10_recall_139 rfl rfl ?_
    refine z_iald (q := 142) (j := i) dX10_recall_141 rfl (cl_150 hS) (by omega) (by decide) (by decide) ?_
    refine x_if_ne (q := 145) (t := 149) dX10_recall_142 rfl (by decide) (fun c_142 => ?_) (fun c_142 => ?_)
    · refine x_aload_n (q := 150) dX10_recall_149 rfl rfl rfl ?_
      refine x_get (q := 153) dX10_recall_150 rfl f_X10_75 (cl_132 hS) rfl (by decide) ?_
      refine x_iload (q := 155) dX10_recall_153 rfl rfl ?_
      refine z_lald (q := 156) (j := i) dX10_recall_155 rfl (cl_154 hS) (by omega) (by decide) (by decide) ?_
      refine x_iload_n (q := 157) dX10_recall_156 rfl rfl rfl ?_
      refine x_lshr (q := 158) dX10_recall_157 rfl ?_
      refine x_lconst (q := 159) (v := 1) dX10_recall_158 rfl (by decide) ?_
      refine x_land (q := 160) dX10_recall_159 rfl ?_
      refine x_l2i (q := 161) dX10_recall_160 rfl ?_
      refine x_iadd (q := 162) dX10_recall_161 rfl ?_
      refine x_istore_n (q := 163) dX10_recall_162 rfl rfl (by decide) ?_
      refine x_iinc (q := 166) (v := nI (i + 1)) dX10_recall_163 rfl rfl (nI_inc _) (by decide) ?_
      refine x_goto (q := 123) dX10_recall_166 (by decide) ?_
      have t9 := ih (i + 1) (by omega)
      simp only [fsum] at t9
      first | (rw [if_pos c_142] at t9; exact Vg.weak t9 (by repeat first | exact trivial | refine ⟨rfl, ?_⟩)) | (rw [if_neg c_142] at t9; exact Vg.weak t9 (by repeat first | exact trivial | refine ⟨rfl, ?_⟩))
    · refine x_iconst (q := 146) (v := 0) dX10_recall_145 rfl (by decide) ?_
      refine x_goto (q := 161) dX10_recall_146 (by decide) ?_
      refine x_iadd (q := 162) dX10_recall_161 rfl ?_
      refine x_istore_n (q := 163) dX10_recall_162 rfl rfl (by decide) ?_
      refine x_iinc (q := 166) (v := nI (i + 1)) dX10_recall_163 rfl rfl (nI_inc _) (by decide) ?_
      refine x_goto (q := 123) dX10_recall_166 (by decide) ?_
      have t9 := ih (i + 1) (by omega)
      simp only [fsum] at t9
      first | (rw [if_pos c_142] at t9; exact Vg.weak t9 (by repeat first | exact trivial | refine ⟨rfl, ?_⟩)) | (rw [if_neg c_142] at t9; exact Vg.weak t9 (by repeat first | exact trivial | refine ⟨rfl, ?_⟩))

set_option maxHeartbeats 4000000 in
set_option maxRecDepth 100000 in
theorem lp_rc1 {h : HF} (hS : Sh h) (l : Nat) (nt : Nat) (hnt : fI h 132 15 = nI nt) (hnt24 : nt ≤ 24) : ∀ (m i : Nat), i + m = nt → Vg mX10_recall none (QM mX10_recall 170 (RI (fsum (fun d => if gi h 146 d = 0 then ((gl h 145 d >>> ((nI l).toInt64 &&& 63)) &&& 1).toInt32 else 0) nt) h)) 71 [some (.ref 132), some (.int (nI l)), some (.int 1), some (.int (fsum (fun d => if gi h 146 d = 0 then ((gl h 145 d >>> ((nI l).toInt64 &&& 63)) &&& 1).toInt32 else 0) i)), some (.int (nI i))] [] 170 h 0 0 := by
  intro m
  induction m with
  | zero =>
    intro i hi
    obtain rfl : i = nt := by omega
    refine x_iload (q := 73) dX10_recall_71 rfl rfl ?_
    refine x_aload_n (q := 74) dX10_recall_73 rfl rfl rfl ?_
    refine x_get (q := 77) dX10_recall_74 rfl f_X10_137 (cl_132 hS) rfl (by decide) ?_
    rw [hnt]
    refine x_ic_ge (q := 80) (t := 120) dX10_recall_77 rfl (by decide) (fun _ => ?_) (fun c_ => absurd (nI_le (Nat.le_refl _) (by omega)) c_)
    refine x_iconst (q := 121) (v := 0) dX10_recall_120 rfl (by decide) ?_
    refine x_istore (q := 123) dX10_recall_121 rfl (by decide) ?_
    refine x_iload (q := 125) dX10_recall_123 rfl rfl ?_
    refine x_iconst (q := 126) (v := 5) dX10_recall_125 rfl (by decide) ?_
    refine x_ic_ge (q := 129) (t := 169) dX10_recall_126 rfl (by decide) (fun c_ => absurd c_ (by decide)) (fun _ => ?_)
    refine x_iload_n (q := 130) dX10_recall_129 rfl rfl rfl ?_
    refine x_iconst (q := 131) (v := 2) dX10_recall_130 rfl (by decide) ?_
    refine x_ic_ne (q := 134) (t := 169) dX10_recall_131 rfl (by decide) (fun _ => ?_) (fun c_ => absurd c_ (by decide))
    refine x_iload_n (q := 170) dX10_recall_169 rfl rfl rfl ?_
    exact x_iret dX10_recall_170 ⟨_, rfl, by first | rfl | (split <;> rfl)⟩ rfl (Nat.le_refl _) rfl ⟨rfl, rfl⟩
  | succ m ih =>
    intro i hi
    refine x_iload (q := 73) dX10_recall_71 rfl rfl ?_
    refine x_aload_n (q := 74) dX10_recall_73 rfl rfl rfl ?_
    refine x_get (q := 77) dX10_recall_74 rfl f_X10_137 (cl_132 hS) rfl (by decide) ?_
    rw [hnt]
    refine x_ic_ge (q := 80) (t := 120) dX10_recall_77 rfl (by decide) (fun c_ => absurd c_ (nI_ge (by omega) (by omega))) (fun _ => ?_)
    refine x_iload_n (q := 81) dX10_recall_80 rfl rfl rfl ?_
    refine x_iconst (q := 82) (v := 1) dX10_recall_81 rfl (by decide) ?_
    refine x_ic_ne (q := 85) (t := 120) dX10_recall_82 rfl (by decide) (fun c_ => absurd c_ (by decide)) (fun _ => ?_)
    refine x_iload_n (q := 86) dX10_recall_85 rfl rfl rfl ?_
    refine x_aload_n (q := 87) dX10_recall_86 rfl rfl rfl ?_
    refine x_get (q := 90) dX10_recall_87 rfl f_X10_51 (cl_132 hS) rfl (by decide) ?_
    refine x_iload (q := 92) dX10_recall_90 rfl rfl ?_
    refine z_zald (q := 93) (j := i) dX10_recall_92 rfl (cl_146 hS) (by omega) (by decide) (by decide) ?_
    refine x_if_eq (q := 96) (t := 100) dX10_recall_93 rfl (by decide) (fun c_93 => ?_) (fun c_93 => ?_)
    · refine x_aload_n (q := 101) dX10_recall_100 rfl rfl rfl ?_
      refine x_get (q := 104) dX10_recall_101 rfl f_X10_47 (cl_132 hS) rfl (by decide) ?_
      refine x_iload (q := 106) dX10_recall_104 rfl rfl ?_
      refine z_lald (q := 107) (j := i) dX10_recall_106 rfl (cl_145 hS) (by omega) (by decide) (by decide) ?_
      refine x_iload_n (q := 108) dX10_recall_107 rfl rfl rfl ?_
      refine x_lshr (q := 109) dX10_recall_108 rfl ?_
      refine x_lconst (q := 110) (v := 1) dX10_recall_109 rfl (by decide) ?_
      refine x_land (q := 111) dX10_recall_110 rfl ?_
      refine x_l2i (q := 112) dX10_recall_111 rfl ?_
      refine x_iadd (q := 113) dX10_recall_112 rfl ?_
      refine x_istore_n (q := 114) dX10_recall_113 rfl rfl (by decide) ?_
      refine x_iinc (q := 117) (v := nI (i + 1)) dX10_recall_114 rfl rfl (nI_inc _) (by decide) ?_
      refine x_goto (q := 71) dX10_recall_117 (by decide) ?_
      have t9 := ih (i + 1) (by omega)
      simp only [fsum] at t9
      first | (rw [if_pos c_93] at t9; exact Vg.weak t9 (by repeat first | exact trivial | refine ⟨rfl, ?_⟩)) | (rw [if_neg c_93] at t9; exact Vg.weak t9 (by repeat first | exact trivial | refine ⟨rfl, ?_⟩))
    · refine x_iconst (q := 97) (v := 0) dX10_recall_96 rfl (by decide) ?_
      refine x_goto (q := 112) dX10_recall_97 (by decide) ?_
      refine x_iadd (q := 113) dX10_recall_112 rfl ?_
      refine x_istore_n (q := 114) dX10_recall_113 rfl rfl (by decide) ?_
      refine x_iinc (q := 117) (v := nI (i + 1)) dX10_recall_114 rfl rfl (nI_inc _) (by decide) ?_
      refine x_goto (q := 71) dX10_recall_117 (by decide) ?_
      have t9 := ih (i + 1) (by omega)
      simp only [fsum] at t9
      first | (rw [if_pos c_93] at t9; exact Vg.weak t9 (by repeat first | exact trivial | refine ⟨rfl, ?_⟩)) | (rw [if_neg c_93] at t9; exact Vg.weak t9 (by repeat first | exact trivial | refine ⟨rfl, ?_⟩))

set_option maxHeartbeats 4000000 in
set_option maxRecDepth 100000 in
theorem lp_rc0 {h : HF} (hS : Sh h) (l : Nat) (nt : Nat) (hnt : fI h 132 15 = nI nt) (hnt24 : nt ≤ 24) (nd : Nat) (hnd : fI h 132 31 = nI nd) (hnd100 : nd ≤ 100) : ∀ (m i : Nat), i + m = nd → Vg mX10_recall none (QM mX10_recall 170 (RI (fsum (fun d => ((gl h 160 d >>> ((nI l).toInt64 &&& 63)) &&& 1).toInt32) nd) h)) 34 [some (.ref 132), some (.int (nI l)), some (.int 0), some (.int (fsum (fun d => ((gl h 160 d >>> ((nI l).toInt64 &&& 63)) &&& 1).toInt32) i)), some (.int (nI i))] [] 170 h 0 0 := by
  intro m
  induction m with
  | zero =>
    intro i hi
    obtain rfl : i = nd := by omega
    refine x_iload (q := 36) dX10_recall_34 rfl rfl ?_
    refine x_aload_n (q := 37) dX10_recall_36 rfl rfl rfl ?_
    refine x_get (q := 40) dX10_recall_37 rfl f_X10_209 (cl_132 hS) rfl (by decide) ?_
    rw [hnd]
    refine x_ic_ge (q := 43) (t := 68) dX10_recall_40 rfl (by decide) (fun _ => ?_) (fun c_ => absurd (nI_le (Nat.le_refl _) (by omega)) c_)
    refine x_iconst (q := 69) (v := 0) dX10_recall_68 rfl (by decide) ?_
    refine x_istore (q := 71) dX10_recall_69 rfl (by decide) ?_
    refine x_iload (q := 73) dX10_recall_71 rfl rfl ?_
    refine x_aload_n (q := 74) dX10_recall_73 rfl rfl rfl ?_
    refine x_get (q := 77) dX10_recall_74 rfl f_X10_137 (cl_132 hS) rfl (by decide) ?_
    rw [hnt]
    refine x_ic_ge (q := 80) (t := 120) dX10_recall_77 rfl (by decide) (fun c_77 => ?_) (fun c_77 => ?_)
    · refine x_iconst (q := 121) (v := 0) dX10_recall_120 rfl (by decide) ?_
      refine x_istore (q := 123) dX10_recall_121 rfl (by decide) ?_
      refine x_iload (q := 125) dX10_recall_123 rfl rfl ?_
      refine x_iconst (q := 126) (v := 5) dX10_recall_125 rfl (by decide) ?_
      refine x_ic_ge (q := 129) (t := 169) dX10_recall_126 rfl (by decide) (fun c_ => absurd c_ (by decide)) (fun _ => ?_)
      refine x_iload_n (q := 130) dX10_recall_129 rfl rfl rfl ?_
      refine x_iconst (q := 131) (v := 2) dX10_recall_130 rfl (by decide) ?_
      refine x_ic_ne (q := 134) (t := 169) dX10_recall_131 rfl (by decide) (fun _ => ?_) (fun c_ => absurd c_ (by decide))
      refine x_iload_n (q := 170) dX10_recall_169 rfl rfl rfl ?_
      exact x_iret dX10_recall_170 ⟨_, rfl, by first | rfl | (split <;> rfl)⟩ rfl (Nat.le_refl _) rfl ⟨rfl, rfl⟩
    · refine x_iload_n (q := 81) dX10_recall_80 rfl rfl rfl ?_
      refine x_iconst (q := 82) (v := 1) dX10_recall_81 rfl (by decide) ?_
      refine x_ic_ne (q := 85) (t := 120) dX10_recall_82 rfl (by decide) (fun _ => ?_) (fun c_ => absurd c_ (by decide))
      refine x_iconst (q := 121) (v := 0) dX10_recall_120 rfl (by decide) ?_
      refine x_istore (q := 123) dX10_recall_121 rfl (by decide) ?_
      refine x_iload (q := 125) dX10_recall_123 rfl rfl ?_
      refine x_iconst (q := 126) (v := 5) dX10_recall_125 rfl (by decide) ?_
      refine x_ic_ge (q := 129) (t := 169) dX10_recall_126 rfl (by decide) (fun c_ => absurd c_ (by decide)) (fun _ => ?_)
      refine x_iload_n (q := 130) dX10_recall_129 rfl rfl rfl ?_
      refine x_iconst (q := 131) (v := 2) dX10_recall_130 rfl (by decide) ?_
      refine x_ic_ne (q := 134) (t := 169) dX10_recall_131 rfl (by decide) (fun _ => ?_) (fun c_ => absurd c_ (by decide))
      refine x_iload_n (q := 170) dX10_recall_169 rfl rfl rfl ?_
      exact x_iret dX10_recall_170 ⟨_, rfl, by first | rfl | (split <;> rfl)⟩ rfl (Nat.le_refl _) rfl ⟨rfl, rfl⟩
  | succ m ih =>
    intro i hi
    refine x_iload (q := 36) dX10_recall_34 rfl rfl ?_
    refine x_aload_n (q := 37) dX10_recall_36 rfl rfl rfl ?_
    refine x_get (q := 40) dX10_recall_37 rfl f_X10_209 (cl_132 hS) rfl (by decide) ?_
    rw [hnd]
    refine x_ic_ge (q := 43) (t := 68) dX10_recall_40 rfl (by decide) (fun c_ => absurd c_ (nI_ge (by omega) (by omega))) (fun _ => ?_)
    refine x_iload_n (q := 44) dX10_recall_43 rfl rfl rfl ?_
    refine x_if_ne (q := 47) (t := 68) dX10_recall_44 rfl (by decide) (fun c_ => absurd c_ (by decide)) (fun _ => ?_)
    refine x_iload_n (q := 48) dX10_recall_47 rfl rfl rfl ?_
    refine x_aload_n (q := 49) dX10_recall_48 rfl rfl rfl ?_
    refine x_get (q := 52) dX10_recall_49 rfl f_X10_97 (cl_132 hS) rfl (by decide) ?_
    refine x_iload (q := 54) dX10_recall_52 rfl rfl ?_
    refine z_lald (q := 55) (j := i) dX10_recall_54 rfl (cl_160 hS) (by omega) (by decide) (by decide) ?_
    refine x_iload_n (q := 56) dX10_recall_55 rfl rfl rfl ?_
    refine x_lshr (q := 57) dX10_recall_56 rfl ?_
    refine x_lconst (q := 58) (v := 1) dX10_recall_57 rfl (by decide) ?_
    refine x_land (q := 59) dX10_recall_58 rfl ?_
    refine x_l2i (q := 60) dX10_recall_59 rfl ?_
    refine x_iadd (q := 61) dX10_recall_60 rfl ?_
    refine x_istore_n (q := 62) dX10_recall_61 rfl rfl (by decide) ?_
    refine x_iinc (q := 65) (v := nI (i + 1)) dX10_recall_62 rfl rfl (nI_inc _) (by decide) ?_
    refine x_goto (q := 34) dX10_recall_65 (by decide) ?_
    exact Vg.weak (ih (i + 1) (by omega)) (by repeat first | exact trivial | refine ⟨rfl, ?_⟩)

set_option maxHeartbeats 4000000 in
set_option maxRecDepth 100000 in
theorem lp_rs1 {h : HF} (hS : Sh h) (l : Nat) (nt : Nat) (hnt : fI h 132 15 = nI nt) (hnt24 : nt ≤ 24) (nd : Nat) (hnd : fI h 132 31 = nI nd) (hnd100 : nd ≤ 100) : Vg mX10_recall none (QM mX10_recall 170 (RI (fsum (fun d => if gi h 146 d = 0 then ((gl h 145 d >>> ((nI l).toInt64 &&& 63)) &&& 1).toInt32 else 0) nt) h)) 34 [some (.ref 132), some (.int (nI l)), some (.int 1), some (.int 0), some (.int 0)] [] 170 h 0 0 := by
  refine x_iload (q := 36) dX10_recall_34 rfl rfl ?_
  refine x_aload_n (q := 37) dX10_recall_36 rfl rfl rfl ?_
  refine x_get (q := 40) dX10_recall_37 rfl f_X10_209 (cl_132 hS) rfl (by decide) ?_
  rw [hnd]
  refine x_ic_ge (q := 43) (t := 68) dX10_recall_40 rfl (by decide) (fun c_40 => ?_) (fun c_40 => ?_)
  · refine x_iconst (q := 69) (v := 0) dX10_recall_68 rfl (by decide) ?_
    refine x_istore (q := 71) dX10_recall_69 rfl (by decide) ?_
    exact Vg.weak (lp_rc1 hS l nt hnt hnt24 nt 0 (by omega)) (by repeat first | exact trivial | refine ⟨rfl, ?_⟩)
  · refine x_iload_n (q := 44) dX10_recall_43 rfl rfl rfl ?_
    refine x_if_ne (q := 47) (t := 68) dX10_recall_44 rfl (by decide) (fun _ => ?_) (fun c_ => absurd c_ (by decide))
    refine x_iconst (q := 69) (v := 0) dX10_recall_68 rfl (by decide) ?_
    refine x_istore (q := 71) dX10_recall_69 rfl (by decide) ?_
    exact Vg.weak (lp_rc1 hS l nt hnt hnt24 nt 0 (by omega)) (by repeat first | exact trivial | refine ⟨rfl, ?_⟩)
set_option maxHeartbeats 4000000 in
set_option maxRecDepth 100000 in
theorem lp_rs2 {h : HF} (hS : Sh h) (l : Nat) (nt : Nat) (hnt : fI h 132 15 = nI nt) (hnt24 : nt ≤ 24) (nd : Nat) (hnd : fI h 132 31 = nI nd) (hnd100 : nd ≤ 100) : Vg mX10_recall none (QM mX10_recall 170 (RI (fsum (fun d => if gi h 150 d = 0 then 0 else ((gl h 154 d >>> ((nI l).toInt64 &&& 63)) &&& 1).toInt32) 5) h)) 34 [some (.ref 132), some (.int (nI l)), some (.int 2), some (.int 0), some (.int 0)] [] 170 h 0 0 := by
  refine x_iload (q := 36) dX10_recall_34 rfl rfl ?_
  refine x_aload_n (q := 37) dX10_recall_36 rfl rfl rfl ?_
  refine x_get (q := 40) dX10_recall_37 rfl f_X10_209 (cl_132 hS) rfl (by decide) ?_
  rw [hnd]
  refine x_ic_ge (q := 43) (t := 68) dX10_recall_40 rfl (by decide) (fun c_40 => ?_) (fun c_40 => ?_)
  · refine x_iconst (q := 69) (v := 0) dX10_recall_68 rfl (by decide) ?_
    refine x_istore (q := 71) dX10_recall_69 rfl (by decide) ?_
    refine x_iload (q := 73) dX10_recall_71 rfl rfl ?_
    refine x_aload_n (q := 74) dX10_recall_73 rfl rfl rfl ?_
    refine x_get (q := 77) dX10_recall_74 rfl f_X10_137 (cl_132 hS) rfl (by decide) ?_
    rw [hnt]
    refine x_ic_ge (q := 80) (t := 120) dX10_recall_77 rfl (by decide) (fun c_77 => ?_) (fun c_77 => ?_)
    · refine x_iconst (q := 121) (v := 0) dX10_recall_120 rfl (by decide) ?_
      refine x_istore (q := 123) dX10_recall_121 rfl (by decide) ?_
      exact Vg.weak (lp_rc2 hS l 5 0 (by omega)) (by repeat first | exact trivial | refine ⟨rfl, ?_⟩)
    · refine x_iload_n (q := 81) dX10_recall_80 rfl rfl rfl ?_
      refine x_iconst (q := 82) (v := 1) dX10_recall_81 rfl (by decide) ?_
      refine x_ic_ne (q := 85) (t := 120) dX10_recall_82 rfl (by decide) (fun _ => ?_) (fun c_ => absurd c_ (by decide))
      refine x_iconst (q := 121) (v := 0) dX10_recall_120 rfl (by decide) ?_
      refine x_istore (q := 123) dX10_recall_121 rfl (by decide) ?_
      exact Vg.weak (lp_rc2 hS l 5 0 (by omega)) (by repeat first | exact trivial | refine ⟨rfl, ?_⟩)
  · refine x_iload_n (q := 44) dX10_recall_43 rfl rfl rfl ?_
    refine x_if_ne (q := 47) (t := 68) dX10_recall_44 rfl (by decide) (fun _ => ?_) (fun c_ => absurd c_ (by decide))
    refine x_iconst (q := 69) (v := 0) dX10_recall_68 rfl (by decide) ?_
    refine x_istore (q := 71) dX10_recall_69 rfl (by decide) ?_
    refine x_iload (q := 73) dX10_recall_71 rfl rfl ?_
    refine x_aload_n (q := 74) dX10_recall_73 rfl rfl rfl ?_
    refine x_get (q := 77) dX10_recall_74 rfl f_X10_137 (cl_132 hS) rfl (by decide) ?_
    rw [hnt]
    refine x_ic_ge (q := 80) (t := 120) dX10_recall_77 rfl (by decide) (fun c_77 => ?_) (fun c_77 => ?_)
    · refine x_iconst (q := 121) (v := 0) dX10_recall_120 rfl (by decide) ?_
      refine x_istore (q := 123) dX10_recall_121 rfl (by decide) ?_
      exact Vg.weak (lp_rc2 hS l 5 0 (by omega)) (by repeat first | exact trivial | refine ⟨rfl, ?_⟩)
    · refine x_iload_n (q := 81) dX10_recall_80 rfl rfl rfl ?_
      refine x_iconst (q := 82) (v := 1) dX10_recall_81 rfl (by decide) ?_
      refine x_ic_ne (q := 85) (t := 120) dX10_recall_82 rfl (by decide) (fun _ => ?_) (fun c_ => absurd c_ (by decide))
      refine x_iconst (q := 121) (v := 0) dX10_recall_120 rfl (by decide) ?_
      refine x_istore (q := 123) dX10_recall_121 rfl (by decide) ?_
      exact Vg.weak (lp_rc2 hS l 5 0 (by omega)) (by repeat first | exact trivial | refine ⟨rfl, ?_⟩)
theorem vRec_out {a b c : Nat → Int32} {l w : Int32} {nl : Nat} (h1 : ltB l (nI nl) = true) (h2 : inB w 0 2 = false) : vRec a b c l w nl = -3 := by
  have hw : ∀ k : Int32, inB k 0 2 = true → ¬ w = k := fun k hk e => by rw [e, hk] at h2; exact absurd h2 (by decide)
  rw [vRec, if_pos h1, if_neg (hw 0 rfl), if_neg (hw 1 rfl), if_neg (hw 2 rfl)]
set_option maxHeartbeats 4000000 in
set_option maxRecDepth 100000 in
theorem c_X10_recall {h : HF} (hS : Sh h) (x w : Int32) (nl : Nat) (hnl : fI h 132 4 = nI nl) (hnl40 : nl ≤ 40) (nt : Nat) (hnt : fI h 132 15 = nI nt) (hnt24 : nt ≤ 24) (nd : Nat) (hnd : fI h 132 31 = nI nd) (hnd100 : nd ≤ 100) : Mc mX10_recall [.ref 132, .int x, .int w] 170 h (RI (vRec (fun l => fsum (fun d => ((gl h 160 d >>> ((nI l).toInt64 &&& 63)) &&& 1).toInt32) nd) (fun l => fsum (fun d => if gi h 146 d = 0 then ((gl h 145 d >>> ((nI l).toInt64 &&& 63)) &&& 1).toInt32 else 0) nt) (fun l => fsum (fun d => if gi h 150 d = 0 then 0 else ((gl h 154 d >>> ((nI l).toInt64 &&& 63)) &&& 1).toInt32) 5) x w nl) (h)) := by
  refine Mc.of (by decide) rfl (Nat.le_of_ble_eq_true rfl) ?_
  refine x_iload_n (q := 1) dX10_recall_0 rfl rfl rfl ?_
  refine x_iconst (q := 2) (v := 0) dX10_recall_1 rfl (by decide) ?_
  refine x_aload_n (q := 3) dX10_recall_2 rfl rfl rfl ?_
  refine x_get (q := 6) dX10_recall_3 rfl f_X10_144 (cl_132 hS) rfl (by decide) ?_
  rw [hnl]
  refine x_iconst (q := 7) (v := 1) dX10_recall_6 rfl (by decide) ?_
  refine x_isub (q := 8) dX10_recall_7 rfl ?_
  refine y_csI (q := 11) dX10_recall_8 rfl l_X10_133 (c_X10_inL hS _ nl (by omega)) rfl rfl rfl rfl rfl rfl ?_
  refine x_if_ne (q := 14) (t := 17) dX10_recall_11 rfl (by decide) (fun c_11 => ?_) (fun c_11 => ?_)
  · replace c_11 := b2y c_11
    refine x_iload_n (q := 18) dX10_recall_17 rfl rfl rfl ?_
    refine x_iconst (q := 19) (v := 0) dX10_recall_18 rfl (by decide) ?_
    refine x_iconst (q := 20) (v := 2) dX10_recall_19 rfl (by decide) ?_
    refine y_csI (q := 23) dX10_recall_20 rfl l_X10_133 (c_X10_in hS _ _ _) rfl rfl rfl rfl rfl rfl ?_
    refine x_if_ne (q := 26) (t := 29) dX10_recall_23 rfl (by decide) (fun c_23 => ?_) (fun c_23 => ?_)
    · replace c_23 := b2y c_23
      obtain ⟨l, hl, rfl⟩ := ltB_of (by omega) c_11
      obtain ⟨j, hj, rfl⟩ := inB_of (n := 2) (by decide) c_23
      refine x_iconst (q := 30) (v := 0) dX10_recall_29 rfl (by decide) ?_
      refine x_istore_n (q := 31) dX10_recall_30 rfl rfl (by decide) ?_
      refine x_iconst (q := 32) (v := 0) dX10_recall_31 rfl (by decide) ?_
      refine x_istore (q := 34) dX10_recall_32 rfl (by decide) ?_
      obtain rfl | rfl | rfl : j = 0 ∨ j = 1 ∨ j = 2 := by omega
      · have e9 : vRec (fun l => fsum (fun d => ((gl h 160 d >>> ((nI l).toInt64 &&& 63)) &&& 1).toInt32) nd) (fun l => fsum (fun d => if gi h 146 d = 0 then ((gl h 145 d >>> ((nI l).toInt64 &&& 63)) &&& 1).toInt32 else 0) nt) (fun l => fsum (fun d => if gi h 150 d = 0 then 0 else ((gl h 154 d >>> ((nI l).toInt64 &&& 63)) &&& 1).toInt32) 5) (nI l) (nI 0) nl = fsum (fun d => ((gl h 160 d >>> ((nI l).toInt64 &&& 63)) &&& 1).toInt32) nd := by simp only [vRec, c_11, if_true, nI_clamp (show l < 2 ^ 31 by omega)]; exact if_pos rfl
        rw [e9]; exact Vg.weak (lp_rc0 hS l nt hnt hnt24 nd hnd hnd100 nd 0 (by omega)) (by repeat first | exact trivial | refine ⟨rfl, ?_⟩)
      · have e9 : vRec (fun l => fsum (fun d => ((gl h 160 d >>> ((nI l).toInt64 &&& 63)) &&& 1).toInt32) nd) (fun l => fsum (fun d => if gi h 146 d = 0 then ((gl h 145 d >>> ((nI l).toInt64 &&& 63)) &&& 1).toInt32 else 0) nt) (fun l => fsum (fun d => if gi h 150 d = 0 then 0 else ((gl h 154 d >>> ((nI l).toInt64 &&& 63)) &&& 1).toInt32) 5) (nI l) (nI 1) nl = fsum (fun d => if gi h 146 d = 0 then ((gl h 145 d >>> ((nI l).toInt64 &&& 63)) &&& 1).toInt32 else 0) nt := by simp only [vRec, c_11, if_true, nI_clamp (show l < 2 ^ 31 by omega)]; exact (if_neg (by decide)).trans (if_pos rfl)
        rw [e9]; exact Vg.weak (lp_rs1 hS l nt hnt hnt24 nd hnd hnd100) (by repeat first | exact trivial | refine ⟨rfl, ?_⟩)
      · have e9 : vRec (fun l => fsum (fun d => ((gl h 160 d >>> ((nI l).toInt64 &&& 63)) &&& 1).toInt32) nd) (fun l => fsum (fun d => if gi h 146 d = 0 then ((gl h 145 d >>> ((nI l).toInt64 &&& 63)) &&& 1).toInt32 else 0) nt) (fun l => fsum (fun d => if gi h 150 d = 0 then 0 else ((gl h 154 d >>> ((nI l).toInt64 &&& 63)) &&& 1).toInt32) 5) (nI l) (nI 2) nl = fsum (fun d => if gi h 150 d = 0 then 0 else ((gl h 154 d >>> ((nI l).toInt64 &&& 63)) &&& 1).toInt32) 5 := by simp only [vRec, c_11, if_true, nI_clamp (show l < 2 ^ 31 by omega)]; exact (if_neg (by decide)).trans ((if_neg (by decide)).trans (if_pos rfl))
        rw [e9]; exact Vg.weak (lp_rs2 hS l nt hnt hnt24 nd hnd hnd100) (by repeat first | exact trivial | refine ⟨rfl, ?_⟩)
    · replace c_23 := b2n c_23
      refine x_bipush (q := 28) (v := -3) dX10_recall_26 rfl (by decide) ?_
      exact x_iret dX10_recall_28 ⟨_, rfl, by first | rfl | (split <;> rfl)⟩ rfl (Nat.le_refl _) rfl ⟨by rw [vRec_out c_11 c_23], rfl⟩
  · replace c_11 := b2n c_11
    refine x_bipush (q := 16) (v := -2) dX10_recall_14 rfl (by decide) ?_
    exact x_iret dX10_recall_16 ⟨_, rfl, by first | rfl | (split <;> rfl)⟩ rfl (Nat.le_refl _) rfl ⟨by simp [vRec, c_11], rfl⟩

theorem sb_1 : ∀ (D : Fin 256) (i : Fin 8), ((nI D.val >>> (nI i.val &&& 31)) &&& 1 = 1) ↔ D.val.testBit i.val = true := by decide +kernel
theorem sb1 {D i : Nat} (hD : D < 256) (hi : i < 8) : ((nI D >>> (nI i &&& 31)) &&& 1 = 1) ↔ D.testBit i = true := sb_1 ⟨D, hD⟩ ⟨i, hi⟩
theorem sb_0 : ∀ (D : Fin 256) (i : Fin 8), ((nI D.val >>> (nI i.val &&& 31)) &&& 1 = 0) ↔ D.val.testBit i.val = false := by decide +kernel
theorem sb0 {D i : Nat} (hD : D < 256) (hi : i < 8) : ((nI D >>> (nI i &&& 31)) &&& 1 = 0) ↔ D.testBit i = false := sb_0 ⟨D, hD⟩ ⟨i, hi⟩
def mtS (T : Nat → Int32) (D j : Nat) : Nat → Int32
  | 0 => T j
  | n + 1 => if D.testBit n = true then mtS T D j n + T n else mtS T D j n
theorem mtS_t {T : Nat → Int32} {D j n : Nat} (e : D.testBit n = true) : mtS T D j (n + 1) = mtS T D j n + T n := if_pos e
theorem mtS_f {T : Nat → Int32} {D j n : Nat} (e : ¬ D.testBit n = true) : mtS T D j (n + 1) = mtS T D j n := if_neg e
def hM (h : HF) (j : Nat) : Nat := (gi h 162 j).toNatClampNeg
def okM (h : HF) (z : Nat) : Prop := ∀ j, j < z → gi h 162 j = nI (hM h j) ∧ hM h j < 6
def thF (h : HF) (z D u j : Nat) : Int32 := gi h 166 (6 * u + hM h j) + gi h 165 j * (if mtS (gi h 163) D j z ≤ gi h 164 j then 0 else mtS (gi h 163) D j z - gi h 164 j) + gi h 168 (9 * (D ||| 2 ^ j) + j)
set_option maxHeartbeats 4000000 in
set_option maxRecDepth 100000 in
theorem lp_th1 {h : HF} (hS : Sh h) (D u j : Nat) (hD : D < 256) (hu : u < 6) (hj : j < 8) (hw : gi h 162 j = nI (hM h j)) (hw6 : hM h j < 6) (nj : Nat) (hnj : fI h 132 38 = nI nj) (hnj8 : nj ≤ 8) : Vg mX10_through none (QM mX10_through 170 (RI (thF h nj D u j) h)) 52 [some (.ref 132), some (.int (nI D)), some (.int (nI u)), some (.int (nI j)), some (.int (mtS (gi h 163) D j nj)), none] [] 170 h 0 0 := by
  have hor := or_lt hD hj
  refine x_iload (q := 54) dX10_through_52 rfl rfl ?_
  refine x_aload_n (q := 55) dX10_through_54 rfl rfl rfl ?_
  refine x_get (q := 58) dX10_through_55 rfl f_X10_109 (cl_132 hS) rfl (by decide) ?_
  refine x_iload_n (q := 59) dX10_through_58 rfl rfl rfl ?_
  refine z_iald (q := 60) (j := j) dX10_through_59 rfl (cl_164 hS) (by omega) (by decide) (by decide) ?_
  refine x_ic_le (q := 63) (t := 75) dX10_through_60 rfl (by decide) (fun c_60 => ?_) (fun c_60 => ?_)
  · refine x_iconst (q := 76) (v := 0) dX10_through_75 rfl (by decide) ?_
    refine x_istore (q := 78) dX10_through_76 rfl (by decide) ?_
    refine x_aload_n (q := 79) dX10_through_78 rfl rfl rfl ?_
    refine x_get (q := 82) dX10_through_79 rfl f_X10_115 (cl_132 hS) rfl (by decide) ?_
    refine x_bipush (q := 84) (v := 6) dX10_through_82 rfl (by decide) ?_
    refine x_iload_n (q := 85) dX10_through_84 rfl rfl rfl ?_
    refine x_imul (q := 86) dX10_through_85 rfl ?_
    refine x_aload_n (q := 87) dX10_through_86 rfl rfl rfl ?_
    refine x_get (q := 90) dX10_through_87 rfl f_X10_103 (cl_132 hS) rfl (by decide) ?_
    refine x_iload_n (q := 91) dX10_through_90 rfl rfl rfl ?_
    refine z_iald (q := 92) (j := j) dX10_through_91 rfl (cl_162 hS) (by omega) (by decide) (by decide) ?_
    rw [hw]
    refine x_iadd (q := 93) dX10_through_92 rfl ?_
    rw [ux6]
    refine z_iald (q := 94) (j := 6 * u + hM h j) dX10_through_93 rfl (cl_166 hS) (by omega) (by decide) (by decide) ?_
    refine x_aload_n (q := 95) dX10_through_94 rfl rfl rfl ?_
    refine x_get (q := 98) dX10_through_95 rfl f_X10_112 (cl_132 hS) rfl (by decide) ?_
    refine x_iload_n (q := 99) dX10_through_98 rfl rfl rfl ?_
    refine z_iald (q := 100) (j := j) dX10_through_99 rfl (cl_165 hS) (by omega) (by decide) (by decide) ?_
    refine x_iload (q := 102) dX10_through_100 rfl rfl ?_
    refine x_imul (q := 103) dX10_through_102 rfl ?_
    refine x_iadd (q := 104) dX10_through_103 rfl ?_
    refine x_aload_n (q := 105) dX10_through_104 rfl rfl rfl ?_
    refine x_get (q := 108) dX10_through_105 rfl f_X10_121 (cl_132 hS) rfl (by decide) ?_
    refine x_bipush (q := 110) (v := 9) dX10_through_108 rfl (by decide) ?_
    refine x_iload_n (q := 111) dX10_through_110 rfl rfl rfl ?_
    refine x_iconst (q := 112) (v := 1) dX10_through_111 rfl (by decide) ?_
    refine x_iload_n (q := 113) dX10_through_112 rfl rfl rfl ?_
    refine x_ishl (q := 114) dX10_through_113 rfl ?_
    refine x_ior (q := 115) dX10_through_114 rfl ?_
    rw [or1 hD hj]
    refine x_imul (q := 116) dX10_through_115 rfl ?_
    refine x_iload_n (q := 117) dX10_through_116 rfl rfl rfl ?_
    refine x_iadd (q := 118) dX10_through_117 rfl ?_
    rw [ux9]
    refine z_iald (q := 119) (j := 9 * (D ||| 2 ^ j) + j) dX10_through_118 rfl (cl_168 hS) (by omega) (by decide) (by decide) ?_
    refine x_iadd (q := 120) dX10_through_119 rfl ?_
    exact x_iret dX10_through_120 ⟨_, rfl, by first | rfl | (split <;> rfl)⟩ rfl (Nat.le_refl _) rfl ⟨by first | (simp only [thF, if_pos c_60]; done) | (simp only [thF, if_neg c_60]; done), rfl⟩
  · refine x_iload (q := 65) dX10_through_63 rfl rfl ?_
    refine x_aload_n (q := 66) dX10_through_65 rfl rfl rfl ?_
    refine x_get (q := 69) dX10_through_66 rfl f_X10_109 (cl_132 hS) rfl (by decide) ?_
    refine x_iload_n (q := 70) dX10_through_69 rfl rfl rfl ?_
    refine z_iald (q := 71) (j := j) dX10_through_70 rfl (cl_164 hS) (by omega) (by decide) (by decide) ?_
    refine x_isub (q := 72) dX10_through_71 rfl ?_
    refine x_goto (q := 76) dX10_through_72 (by decide) ?_
    refine x_istore (q := 78) dX10_through_76 rfl (by decide) ?_
    refine x_aload_n (q := 79) dX10_through_78 rfl rfl rfl ?_
    refine x_get (q := 82) dX10_through_79 rfl f_X10_115 (cl_132 hS) rfl (by decide) ?_
    refine x_bipush (q := 84) (v := 6) dX10_through_82 rfl (by decide) ?_
    refine x_iload_n (q := 85) dX10_through_84 rfl rfl rfl ?_
    refine x_imul (q := 86) dX10_through_85 rfl ?_
    refine x_aload_n (q := 87) dX10_through_86 rfl rfl rfl ?_
    refine x_get (q := 90) dX10_through_87 rfl f_X10_103 (cl_132 hS) rfl (by decide) ?_
    refine x_iload_n (q := 91) dX10_through_90 rfl rfl rfl ?_
    refine z_iald (q := 92) (j := j) dX10_through_91 rfl (cl_162 hS) (by omega) (by decide) (by decide) ?_
    rw [hw]
    refine x_iadd (q := 93) dX10_through_92 rfl ?_
    rw [ux6]
    refine z_iald (q := 94) (j := 6 * u + hM h j) dX10_through_93 rfl (cl_166 hS) (by omega) (by decide) (by decide) ?_
    refine x_aload_n (q := 95) dX10_through_94 rfl rfl rfl ?_
    refine x_get (q := 98) dX10_through_95 rfl f_X10_112 (cl_132 hS) rfl (by decide) ?_
    refine x_iload_n (q := 99) dX10_through_98 rfl rfl rfl ?_
    refine z_iald (q := 100) (j := j) dX10_through_99 rfl (cl_165 hS) (by omega) (by decide) (by decide) ?_
    refine x_iload (q := 102) dX10_through_100 rfl rfl ?_
    refine x_imul (q := 103) dX10_through_102 rfl ?_
    refine x_iadd (q := 104) dX10_through_103 rfl ?_
    refine x_aload_n (q := 105) dX10_through_104 rfl rfl rfl ?_
    refine x_get (q := 108) dX10_through_105 rfl f_X10_121 (cl_132 hS) rfl (by decide) ?_
    refine x_bipush (q := 110) (v := 9) dX10_through_108 rfl (by decide) ?_
    refine x_iload_n (q := 111) dX10_through_110 rfl rfl rfl ?_
    refine x_iconst (q := 112) (v := 1) dX10_through_111 rfl (by decide) ?_
    refine x_iload_n (q := 113) dX10_through_112 rfl rfl rfl ?_
    refine x_ishl (q := 114) dX10_through_113 rfl ?_
    refine x_ior (q := 115) dX10_through_114 rfl ?_
    rw [or1 hD hj]
    refine x_imul (q := 116) dX10_through_115 rfl ?_
    refine x_iload_n (q := 117) dX10_through_116 rfl rfl rfl ?_
    refine x_iadd (q := 118) dX10_through_117 rfl ?_
    rw [ux9]
    refine z_iald (q := 119) (j := 9 * (D ||| 2 ^ j) + j) dX10_through_118 rfl (cl_168 hS) (by omega) (by decide) (by decide) ?_
    refine x_iadd (q := 120) dX10_through_119 rfl ?_
    exact x_iret dX10_through_120 ⟨_, rfl, by first | rfl | (split <;> rfl)⟩ rfl (Nat.le_refl _) rfl ⟨by first | (simp only [thF, if_pos c_60]; done) | (simp only [thF, if_neg c_60]; done), rfl⟩
set_option maxHeartbeats 4000000 in
set_option maxRecDepth 100000 in
theorem lp_th0 {h : HF} (hS : Sh h) (D u j : Nat) (hD : D < 256) (hu : u < 6) (hj : j < 8) (hw : gi h 162 j = nI (hM h j)) (hw6 : hM h j < 6) (nj : Nat) (hnj : fI h 132 38 = nI nj) (hnj8 : nj ≤ 8) : ∀ (k i : Nat), i + k = nj → Vg mX10_through none (QM mX10_through 170 (RI (thF h nj D u j) h)) 11 [some (.ref 132), some (.int (nI D)), some (.int (nI u)), some (.int (nI j)), some (.int (mtS (gi h 163) D j i)), some (.int (nI i))] [] 170 h 0 0 := by
  intro k
  induction k with
  | zero =>
    intro i hi
    obtain rfl : i = nj := by omega
    refine x_iload (q := 13) dX10_through_11 rfl rfl ?_
    refine x_aload_n (q := 14) dX10_through_13 rfl rfl rfl ?_
    refine x_get (q := 17) dX10_through_14 rfl f_X10_219 (cl_132 hS) rfl (by decide) ?_
    rw [hnj]
    refine x_ic_ge (q := 20) (t := 52) dX10_through_17 rfl (by decide) (fun _ => ?_) (fun c_ => absurd (nI_le (Nat.le_refl _) (by omega)) c_)
    exact Vg.weak (lp_th1 hS D u j hD hu hj hw hw6 i hnj hnj8) (by repeat first | exact trivial | refine ⟨rfl, ?_⟩)
  | succ k ih =>
    intro i hi
    refine x_iload (q := 13) dX10_through_11 rfl rfl ?_
    refine x_aload_n (q := 14) dX10_through_13 rfl rfl rfl ?_
    refine x_get (q := 17) dX10_through_14 rfl f_X10_219 (cl_132 hS) rfl (by decide) ?_
    rw [hnj]
    refine x_ic_ge (q := 20) (t := 52) dX10_through_17 rfl (by decide) (fun c_ => absurd c_ (nI_ge (by omega) (by omega))) (fun _ => ?_)
    refine x_iload (q := 22) dX10_through_20 rfl rfl ?_
    refine x_iload_n (q := 23) dX10_through_22 rfl rfl rfl ?_
    refine x_iload (q := 25) dX10_through_23 rfl rfl ?_
    refine x_ishr (q := 26) dX10_through_25 rfl ?_
    refine x_iconst (q := 27) (v := 1) dX10_through_26 rfl (by decide) ?_
    refine x_iand (q := 28) dX10_through_27 rfl ?_
    refine x_iconst (q := 29) (v := 1) dX10_through_28 rfl (by decide) ?_
    refine x_ic_ne (q := 32) (t := 42) dX10_through_29 rfl (by decide) (fun c_29 => ?_) (fun c_29 => ?_)
    · refine x_iconst (q := 43) (v := 0) dX10_through_42 rfl (by decide) ?_
      refine x_iadd (q := 44) dX10_through_43 rfl ?_
      refine x_istore (q := 46) dX10_through_44 rfl (by decide) ?_
      refine x_iinc (q := 49) (v := nI (i + 1)) dX10_through_46 rfl rfl (nI_inc _) (by decide) ?_
      refine x_goto (q := 11) dX10_through_49 (by decide) ?_
      have t9 := ih (i + 1) (by omega)
      rw [mtS_f (fun q => c_29 ((sb1 hD (by omega)).mpr q))] at t9
      rw [addz]
      exact Vg.weak t9 (by repeat first | exact trivial | refine ⟨rfl, ?_⟩)
    · refine x_aload_n (q := 33) dX10_through_32 rfl rfl rfl ?_
      refine x_get (q := 36) dX10_through_33 rfl f_X10_106 (cl_132 hS) rfl (by decide) ?_
      refine x_iload (q := 38) dX10_through_36 rfl rfl ?_
      refine z_iald (q := 39) (j := i) dX10_through_38 rfl (cl_163 hS) (by omega) (by decide) (by decide) ?_
      refine x_goto (q := 43) dX10_through_39 (by decide) ?_
      refine x_iadd (q := 44) dX10_through_43 rfl ?_
      refine x_istore (q := 46) dX10_through_44 rfl (by decide) ?_
      refine x_iinc (q := 49) (v := nI (i + 1)) dX10_through_46 rfl rfl (nI_inc _) (by decide) ?_
      refine x_goto (q := 11) dX10_through_49 (by decide) ?_
      have t9 := ih (i + 1) (by omega)
      rw [mtS_t ((sb1 hD (by omega)).mp c_29)] at t9
      exact Vg.weak t9 (by repeat first | exact trivial | refine ⟨rfl, ?_⟩)

set_option maxHeartbeats 4000000 in
set_option maxRecDepth 100000 in
theorem c_X10_through {h : HF} (hS : Sh h) (D u j : Nat) (hD : D < 256) (hu : u < 6) (hj : j < 8) (hw : gi h 162 j = nI (hM h j)) (hw6 : hM h j < 6) (nj : Nat) (hnj : fI h 132 38 = nI nj) (hnj8 : nj ≤ 8) : Mc mX10_through [.ref 132, .int (nI D), .int (nI u), .int (nI j)] 170 h (RI (thF h nj D u j) h) := by
  refine Mc.of (by decide) rfl (Nat.le_of_ble_eq_true rfl) ?_
  refine x_aload_n (q := 1) dX10_through_0 rfl rfl rfl ?_
  refine x_get (q := 4) dX10_through_1 rfl f_X10_106 (cl_132 hS) rfl (by decide) ?_
  refine x_iload_n (q := 5) dX10_through_4 rfl rfl rfl ?_
  refine z_iald (q := 6) (j := j) dX10_through_5 rfl (cl_163 hS) (by omega) (by decide) (by decide) ?_
  refine x_istore (q := 8) dX10_through_6 rfl (by decide) ?_
  refine x_iconst (q := 9) (v := 0) dX10_through_8 rfl (by decide) ?_
  refine x_istore (q := 11) dX10_through_9 rfl (by decide) ?_
  exact Vg.weak (lp_th0 hS D u j hD hu hj hw hw6 nj hnj hnj8 nj 0 (by omega)) (by repeat first | exact trivial | refine ⟨rfl, ?_⟩)

set_option maxHeartbeats 4000000 in
set_option maxRecDepth 100000 in
theorem lp_mbn {h : HF} (hS : Sh h) (D u : Nat) (hD : D < 256) (hu : u < 6) (nj : Nat) (hnj : fI h 132 38 = nI nj) (hnj8 : nj ≤ 8) (hok : okM h nj) : ∀ (k i : Nat), i + k = nj → Vg mX10_bestNext none (QM mX10_bestNext 170 (RI (oB (bnR (fun j => thF h nj D u j) D nj)) h)) 5 [some (.ref 132), some (.int (nI D)), some (.int (nI u)), some (.int (oB (bnR (fun j => thF h nj D u j) D i))), some (.int (nI i))] [] 170 h 0 0 := by
  intro k
  induction k with
  | zero =>
    intro i hi
    obtain rfl : i = nj := by omega
    refine x_iload (q := 7) dX10_bestNext_5 rfl rfl ?_
    refine x_aload_n (q := 8) dX10_bestNext_7 rfl rfl rfl ?_
    refine x_get (q := 11) dX10_bestNext_8 rfl f_X10_219 (cl_132 hS) rfl (by decide) ?_
    rw [hnj]
    refine x_ic_ge (q := 14) (t := 55) dX10_bestNext_11 rfl (by decide) (fun _ => ?_) (fun c_ => absurd (nI_le (Nat.le_refl _) (by omega)) c_)
    refine x_iload_n (q := 56) dX10_bestNext_55 rfl rfl rfl ?_
    exact x_iret dX10_bestNext_56 ⟨_, rfl, by first | rfl | (split <;> rfl)⟩ rfl (Nat.le_refl _) rfl ⟨rfl, rfl⟩
  | succ k ih =>
    intro i hi
    cases hn : (bnR (fun j => thF h nj D u j) D i) with
    | none =>
      refine x_iload (q := 7) dX10_bestNext_5 rfl rfl ?_
      refine x_aload_n (q := 8) dX10_bestNext_7 rfl rfl rfl ?_
      refine x_get (q := 11) dX10_bestNext_8 rfl f_X10_219 (cl_132 hS) rfl (by decide) ?_
      rw [hnj]
      refine x_ic_ge (q := 14) (t := 55) dX10_bestNext_11 rfl (by decide) (fun c_ => absurd c_ (nI_ge (by omega) (by omega))) (fun _ => ?_)
      refine x_iload_n (q := 15) dX10_bestNext_14 rfl rfl rfl ?_
      refine x_iload (q := 17) dX10_bestNext_15 rfl rfl ?_
      refine x_ishr (q := 18) dX10_bestNext_17 rfl ?_
      refine x_iconst (q := 19) (v := 1) dX10_bestNext_18 rfl (by decide) ?_
      refine x_iand (q := 20) dX10_bestNext_19 rfl ?_
      refine x_if_ne (q := 23) (t := 49) dX10_bestNext_20 rfl (by decide) (fun c_20 => ?_) (fun c_20 => ?_)
      · refine x_iinc (q := 52) (v := nI (i + 1)) dX10_bestNext_49 rfl rfl (nI_inc _) (by decide) ?_
        refine x_goto (q := 5) dX10_bestNext_52 (by decide) ?_
        have t9 := ih (i + 1) (by omega)
        rw [bnR_b (tb_t (fun q => c_20 ((sb0 hD (by omega)).mpr q))), hn] at t9; exact Vg.weak t9 (by repeat first | exact trivial | refine ⟨rfl, ?_⟩)
      · refine x_iload_n (q := 24) dX10_bestNext_23 rfl rfl rfl ?_
        refine x_iconst (q := 25) (v := -1) dX10_bestNext_24 rfl (by decide) ?_
        refine x_ic_eq (q := 28) (t := 46) dX10_bestNext_25 rfl (by decide) (fun _ => ?_) (fun c_ => absurd rfl c_)
        refine x_iload (q := 48) dX10_bestNext_46 rfl rfl ?_
        refine x_istore_n (q := 49) dX10_bestNext_48 rfl rfl (by decide) ?_
        refine x_iinc (q := 52) (v := nI (i + 1)) dX10_bestNext_49 rfl rfl (nI_inc _) (by decide) ?_
        refine x_goto (q := 5) dX10_bestNext_52 (by decide) ?_
        have t9 := ih (i + 1) (by omega)
        rw [bnR_n ((sb0 hD (by omega)).mp c_20) hn] at t9; exact Vg.weak t9 (by repeat first | exact trivial | refine ⟨rfl, ?_⟩)
    | some q =>
      obtain ⟨m, l⟩ := q
      obtain ⟨hmi, -, hl⟩ := bnR_lt hn
      refine x_iload (q := 7) dX10_bestNext_5 rfl rfl ?_
      refine x_aload_n (q := 8) dX10_bestNext_7 rfl rfl rfl ?_
      refine x_get (q := 11) dX10_bestNext_8 rfl f_X10_219 (cl_132 hS) rfl (by decide) ?_
      rw [hnj]
      refine x_ic_ge (q := 14) (t := 55) dX10_bestNext_11 rfl (by decide) (fun c_ => absurd c_ (nI_ge (by omega) (by omega))) (fun _ => ?_)
      refine x_iload_n (q := 15) dX10_bestNext_14 rfl rfl rfl ?_
      refine x_iload (q := 17) dX10_bestNext_15 rfl rfl ?_
      refine x_ishr (q := 18) dX10_bestNext_17 rfl ?_
      refine x_iconst (q := 19) (v := 1) dX10_bestNext_18 rfl (by decide) ?_
      refine x_iand (q := 20) dX10_bestNext_19 rfl ?_
      refine x_if_ne (q := 23) (t := 49) dX10_bestNext_20 rfl (by decide) (fun c_20 => ?_) (fun c_20 => ?_)
      · refine x_iinc (q := 52) (v := nI (i + 1)) dX10_bestNext_49 rfl rfl (nI_inc _) (by decide) ?_
        refine x_goto (q := 5) dX10_bestNext_52 (by decide) ?_
        have t9 := ih (i + 1) (by omega)
        rw [bnR_b (tb_t (fun q => c_20 ((sb0 hD (by omega)).mpr q))), hn] at t9; exact Vg.weak t9 (by repeat first | exact trivial | refine ⟨rfl, ?_⟩)
      · refine x_iload_n (q := 24) dX10_bestNext_23 rfl rfl rfl ?_
        refine x_iconst (q := 25) (v := -1) dX10_bestNext_24 rfl (by decide) ?_
        refine x_ic_eq (q := 28) (t := 46) dX10_bestNext_25 rfl (by decide) (fun c_ => absurd c_ (nI_m1 (by omega))) (fun _ => ?_)
        refine x_aload_n (q := 29) dX10_bestNext_28 rfl rfl rfl ?_
        refine x_iload_n (q := 30) dX10_bestNext_29 rfl rfl rfl ?_
        refine x_iload_n (q := 31) dX10_bestNext_30 rfl rfl rfl ?_
        refine x_iload (q := 33) dX10_bestNext_31 rfl rfl ?_
        refine y_cvI (q := 36) dX10_bestNext_33 rfl l_X10_222 (c_X10_through hS D u i hD hu (by omega) (hok i (by omega)).1 (hok i (by omega)).2 nj hnj hnj8) rfl rfl (cl_132 hS) (by decide) rfl rfl rfl rfl ?_
        refine x_aload_n (q := 37) dX10_bestNext_36 rfl rfl rfl ?_
        refine x_iload_n (q := 38) dX10_bestNext_37 rfl rfl rfl ?_
        refine x_iload_n (q := 39) dX10_bestNext_38 rfl rfl rfl ?_
        refine x_iload_n (q := 40) dX10_bestNext_39 rfl rfl rfl ?_
        refine y_cvI (q := 43) dX10_bestNext_40 rfl l_X10_222 (c_X10_through hS D u m hD hu (by omega) (hok m (by omega)).1 (hok m (by omega)).2 nj hnj hnj8) rfl rfl (cl_132 hS) (by decide) rfl rfl rfl rfl ?_
        refine x_ic_ge (q := 46) (t := 49) dX10_bestNext_43 rfl (by decide) (fun c_43 => ?_) (fun c_43 => ?_)
        · refine x_iinc (q := 52) (v := nI (i + 1)) dX10_bestNext_49 rfl rfl (nI_inc _) (by decide) ?_
          refine x_goto (q := 5) dX10_bestNext_52 (by decide) ?_
          have t9 := ih (i + 1) (by omega)
          rw [bnR_g ((sb0 hD (by omega)).mp c_20) hn (by rw [hl]; exact Int32.not_lt.mpr c_43)] at t9; exact Vg.weak t9 (by repeat first | exact trivial | refine ⟨rfl, ?_⟩)
        · refine x_iload (q := 48) dX10_bestNext_46 rfl rfl ?_
          refine x_istore_n (q := 49) dX10_bestNext_48 rfl rfl (by decide) ?_
          refine x_iinc (q := 52) (v := nI (i + 1)) dX10_bestNext_49 rfl rfl (nI_inc _) (by decide) ?_
          refine x_goto (q := 5) dX10_bestNext_52 (by decide) ?_
          have t9 := ih (i + 1) (by omega)
          rw [bnR_l ((sb0 hD (by omega)).mp c_20) hn (by rw [hl]; exact Int32.not_le.mp c_43)] at t9; exact Vg.weak t9 (by repeat first | exact trivial | refine ⟨rfl, ?_⟩)

set_option maxHeartbeats 4000000 in
set_option maxRecDepth 100000 in
theorem c_X10_bestNext {h : HF} (hS : Sh h) (D u : Nat) (hD : D < 256) (hu : u < 6) (nj : Nat) (hnj : fI h 132 38 = nI nj) (hnj8 : nj ≤ 8) (hok : okM h nj) : Mc mX10_bestNext [.ref 132, .int (nI D), .int (nI u)] 170 h (RI (oB (bnR (fun j => thF h nj D u j) D nj)) h) := by
  refine Mc.of (by decide) rfl (Nat.le_of_ble_eq_true rfl) ?_
  refine x_iconst (q := 1) (v := -1) dX10_bestNext_0 rfl (by decide) ?_
  refine x_istore_n (q := 2) dX10_bestNext_1 rfl rfl (by decide) ?_
  refine x_iconst (q := 3) (v := 0) dX10_bestNext_2 rfl (by decide) ?_
  refine x_istore (q := 5) dX10_bestNext_3 rfl (by decide) ?_
  exact Vg.weak (lp_mbn hS D u hD hu nj hnj hnj8 hok nj 0 (by omega)) (by repeat first | exact trivial | refine ⟨rfl, ?_⟩)

