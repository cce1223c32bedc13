def vmB2 (h : HF) (k r : Nat) (n : Int32) (nl : Nat) : Int32 := if gi h 146 k = 0 then if fsum (fun i => n * gi h 142 (8 * r + i)) 8 = 0 then -4 else if lkB (fun i => n * gi h 142 (8 * r + i)) (fun b => sU (gi h 135) (gi h 137) (gi h 136) (fI h 132 0) (nI b) nl) 8 = true then -5 else if usum (gi h 144) k 8 + fsum (fun i => n * gi h 142 (8 * r + i)) 8 ≤ 20000 then usum (gi (mtL k nl (fun i => gi h 142 (8 * r + i)) (fun i => n * gi h 142 (8 * r + i)) 8 h) 144) k 8 else -6 else -4
def umB2 (h : HF) (k r : Nat) (n : Int32) (nl : Nat) : HF := if gi h 146 k = 0 then if fsum (fun i => n * gi h 142 (8 * r + i)) 8 = 0 then h else if lkB (fun i => n * gi h 142 (8 * r + i)) (fun b => sU (gi h 135) (gi h 137) (gi h 136) (fI h 132 0) (nI b) nl) 8 = true then h else if usum (gi h 144) k 8 + fsum (fun i => n * gi h 142 (8 * r + i)) 8 ≤ 20000 then (mtL k nl (fun i => gi h 142 (8 * r + i)) (fun i => n * gi h 142 (8 * r + i)) 8 h) else h else h
set_option maxHeartbeats 4000000 in
set_option maxRecDepth 100000 in
theorem lp_br2 {h : HF} (hS : Sh h) (k r : Nat) (n : Int32) (hk : k < 24) (hr : r < 12) (nl : Nat) (hnl : fI h 132 4 = nI nl) (hnl40 : nl ≤ 40) (hps : PS (gi h 136) nl) (hw : ∀ i, i < 8 → -1000000000 ≤ ((fun i => n * gi h 142 (8 * r + i)) i).toInt ∧ ((fun i => n * gi h 142 (8 * r + i)) i).toInt ≤ 1000000000) (hlk : lkB (fun i => n * gi h 142 (8 * r + i)) (fun b => sU (gi h 135) (gi h 137) (gi h 136) (fI h 132 0) (nI b) nl) 8 = false) : ∀ (m i : Nat), i + m = 8 → Vg mX10_brew none (QM mX10_brew 170 (RI (usum (gi (mtL k nl (fun i => gi h 142 (8 * r + i)) (fun i => n * gi h 142 (8 * r + i)) 8 h) 144) k 8) (mtL k nl (fun i => gi h 142 (8 * r + i)) (fun i => n * gi h 142 (8 * r + i)) 8 h))) 156 [some (.ref 132), some (.int (nI k)), some (.int (nI r)), some (.int n), none, none, some (.int (nI i)), none] [] 170 (mtL k nl (fun i => gi h 142 (8 * r + i)) (fun i => n * gi h 142 (8 * r + i)) i h) 0 0 := by
  intro m
  induction m with
  | zero =>
    intro i hi
    obtain rfl : i = 8 := by omega
    refine x_iload (q := 158) dX10_brew_156 rfl rfl ?_
    refine x_bipush (q := 160) (v := 8) dX10_brew_158 rfl (by decide) ?_
    refine x_ic_ge (q := 163) (t := 205) dX10_brew_160 rfl (by decide) (fun _ => ?_) (fun c_ => absurd (by decide) c_)
    refine x_aload_n (q := 206) dX10_brew_205 rfl rfl rfl ?_
    refine x_iload_n (q := 207) dX10_brew_206 rfl rfl rfl ?_
    refine y_cvI (q := 210) dX10_brew_207 rfl l_X10_168 (c_X10_unitsOf (Sh_mtL k nl _ _ 8 hS) k hk) rfl rfl (cl_132 (Sh_mtL k nl _ _ 8 hS)) (by decide) rfl rfl rfl rfl ?_
    exact x_iret dX10_brew_210 ⟨_, rfl, by first | rfl | (split <;> rfl)⟩ rfl (Nat.le_refl _) rfl ⟨rfl, rfl⟩
  | succ m ih =>
    intro i hi
    have g142 : gi (mtL k nl (fun i => gi h 142 (8 * r + i)) (fun i => n * gi h 142 (8 * r + i)) i h) 142 = gi h 142 := mtL_gi (by decide) (by decide) i h
    have hz9 : fI (mtL k nl (fun i => gi h 142 (8 * r + i)) (fun i => n * gi h 142 (8 * r + i)) i h) 132 4 = nI nl := by rw [mtL_fI]; exact hnl
    obtain ⟨p1, p2⟩ := mtL_ok (t := k) (c := (fun i => gi h 142 (8 * r + i))) (w := (fun i => n * gi h 142 (8 * r + i))) hS hps hw i (by omega)
    have ho9 : tkok (gi (mtL k nl (fun i => gi h 142 (8 * r + i)) (fun i => n * gi h 142 (8 * r + i)) i h) 135) (gi (mtL k nl (fun i => gi h 142 (8 * r + i)) (fun i => n * gi h 142 (8 * r + i)) i h) 137) (fI (mtL k nl (fun i => gi h 142 (8 * r + i)) (fun i => n * gi h 142 (8 * r + i)) i h) 132 0) (nI i) nl nl (n * gi h 142 (8 * r + i)) (gi (mtL k nl (fun i => gi h 142 (8 * r + i)) (fun i => n * gi h 142 (8 * r + i)) i h) 136) := by
      rw [mtL_gi (by decide) (by decide), mtL_gi (by decide) (by decide), mtL_fI]
      rcases lkB_no hlk i (by omega) with q | q
      · exact tkok_sU hnl40 p1 (hw i (by omega)).1 (by rw [p2 i (Nat.le_refl _) (by omega)]; exact q)
      · exact tkok_le _ _ _ q
    refine x_iload (q := 158) dX10_brew_156 rfl rfl ?_
    refine x_bipush (q := 160) (v := 8) dX10_brew_158 rfl (by decide) ?_
    refine x_ic_ge (q := 163) (t := 205) dX10_brew_160 rfl (by decide) (fun c_ => absurd c_ (nI_ge (b := 8) (by omega) (by decide))) (fun _ => ?_)
    refine x_aload_n (q := 164) dX10_brew_163 rfl rfl rfl ?_
    refine x_get (q := 167) dX10_brew_164 rfl f_X10_38 (cl_132 (Sh_mtL k nl _ _ i hS)) rfl (by decide) ?_
    refine x_bipush (q := 169) (v := 8) dX10_brew_167 rfl (by decide) ?_
    refine x_iload_n (q := 170) dX10_brew_169 rfl rfl rfl ?_
    refine x_imul (q := 171) dX10_brew_170 rfl ?_
    refine x_iload (q := 173) dX10_brew_171 rfl rfl ?_
    refine x_iadd (q := 174) dX10_brew_173 rfl ?_
    rw [ux8]
    refine z_iald (q := 175) (j := 8 * r + i) dX10_brew_174 rfl (cl_142 (Sh_mtL k nl _ _ i hS)) (by omega) (by decide) (by decide) ?_
    rw [g142]
    refine x_if_le (q := 178) (t := 199) dX10_brew_175 rfl (by decide) (fun c_175 => ?_) (fun c_175 => ?_)
    · refine x_iinc (q := 202) (v := nI (i + 1)) dX10_brew_199 rfl rfl (nI_inc _) (by decide) ?_
      refine x_goto (q := 156) dX10_brew_202 (by decide) ?_
      have e9 : mtL k nl (fun i => gi h 142 (8 * r + i)) (fun i => n * gi h 142 (8 * r + i)) (i + 1) h = (mtL k nl (fun i => gi h 142 (8 * r + i)) (fun i => n * gi h 142 (8 * r + i)) i h) := by rw [mtL, if_neg (Int32.not_lt.mpr c_175)]
      have t9 := ih (i + 1) (by omega)
      rw [e9] at t9; exact t9
    · refine x_aload_n (q := 179) dX10_brew_178 rfl rfl rfl ?_
      refine x_iload_n (q := 180) dX10_brew_179 rfl rfl rfl ?_
      refine x_iload (q := 182) dX10_brew_180 rfl rfl ?_
      refine x_iload_n (q := 183) dX10_brew_182 rfl rfl rfl ?_
      refine x_aload_n (q := 184) dX10_brew_183 rfl rfl rfl ?_
      refine x_get (q := 187) dX10_brew_184 rfl f_X10_38 (cl_132 (Sh_mtL k nl _ _ i hS)) rfl (by decide) ?_
      refine x_bipush (q := 189) (v := 8) dX10_brew_187 rfl (by decide) ?_
      refine x_iload_n (q := 190) dX10_brew_189 rfl rfl rfl ?_
      refine x_imul (q := 191) dX10_brew_190 rfl ?_
      refine x_iload (q := 193) dX10_brew_191 rfl rfl ?_
      refine x_iadd (q := 194) dX10_brew_193 rfl ?_
      rw [ux8]
      refine z_iald (q := 195) (j := 8 * r + i) dX10_brew_194 rfl (cl_142 (Sh_mtL k nl _ _ i hS)) (by omega) (by decide) (by decide) ?_
      rw [g142]
      refine x_imul (q := 196) dX10_brew_195 rfl ?_
      refine y_cvV (q := 199) dX10_brew_196 rfl l_X10_171 (c_X10_take (Sh_mtL k nl _ _ i hS) k i _ hk (by omega) nl hz9 hnl40 nl ho9) rfl rfl (cl_132 (Sh_mtL k nl _ _ i hS)) (by decide) rfl rfl rfl rfl ?_
      refine Vg.nm (fun h1 eh1 => ?_)
      have hS1 : Sh h1 := by rw [eh1]; exact (Sh_mtL k nl _ _ i hS).mTk k i _ nl
      refine x_iinc (q := 202) (v := nI (i + 1)) dX10_brew_199 rfl rfl (nI_inc _) (by decide) ?_
      refine x_goto (q := 156) dX10_brew_202 (by decide) ?_
      have e9 : h1 = mtL k nl (fun i => gi h 142 (8 * r + i)) (fun i => n * gi h 142 (8 * r + i)) (i + 1) h := by rw [mtL, if_pos (Int32.not_le.mp c_175)]; exact eh1
      rw [e9]; exact ih (i + 1) (by omega)

set_option maxHeartbeats 4000000 in
set_option maxRecDepth 100000 in
theorem lp_br1 {h : HF} (hS : Sh h) (k r : Nat) (n : Int32) (hk : k < 24) (hr : r < 12) (nl : Nat) (hnl : fI h 132 4 = nI nl) (hnl40 : nl ≤ 40) (hps : PS (gi h 136) nl) (hw : ∀ i, i < 8 → -1000000000 ≤ ((fun i => n * gi h 142 (8 * r + i)) i).toInt ∧ ((fun i => n * gi h 142 (8 * r + i)) i).toInt ≤ 1000000000) : Vg mX10_brew none (QM mX10_brew 170 (RI (vmB2 h k r n nl) (umB2 h k r n nl))) 111 [some (.ref 132), some (.int (nI k)), some (.int (nI r)), some (.int n), some (.int (fsum (fun i => n * gi h 142 (8 * r + i)) 8)), some (.int (b2 (lkB (fun i => n * gi h 142 (8 * r + i)) (fun b => sU (gi h 135) (gi h 137) (gi h 136) (fI h 132 0) (nI b) nl) 8))), none, none] [] 170 h 0 0 := by
  refine x_aload_n (q := 112) dX10_brew_111 rfl rfl rfl ?_
  refine x_get (q := 115) dX10_brew_112 rfl f_X10_51 (cl_132 hS) rfl (by decide) ?_
  refine x_iload_n (q := 116) dX10_brew_115 rfl rfl rfl ?_
  refine z_zald (q := 117) (j := k) dX10_brew_116 rfl (cl_146 hS) (by omega) (by decide) (by decide) ?_
  refine x_if_ne (q := 120) (t := 125) dX10_brew_117 rfl (by decide) (fun c_117 => ?_) (fun c_117 => ?_)
  · refine x_bipush (q := 127) (v := -4) dX10_brew_125 rfl (by decide) ?_
    exact x_iret dX10_brew_127 ⟨_, rfl, by first | rfl | (split <;> rfl)⟩ rfl (Nat.le_refl _) rfl ⟨by simp [vmB2, c_117], by simp [umB2, c_117]⟩
  · refine x_iload (q := 122) dX10_brew_120 rfl rfl ?_
    refine x_if_ne (q := 125) (t := 128) dX10_brew_122 rfl (by decide) (fun c_122 => ?_) (fun c_122 => ?_)
    · refine x_iload (q := 130) dX10_brew_128 rfl rfl ?_
      refine x_if_eq (q := 133) (t := 136) dX10_brew_130 rfl (by decide) (fun c_130 => ?_) (fun c_130 => ?_)
      · replace c_130 := b2n c_130
        refine x_aload_n (q := 137) dX10_brew_136 rfl rfl rfl ?_
        refine x_iload_n (q := 138) dX10_brew_137 rfl rfl rfl ?_
        refine y_cvI (q := 141) dX10_brew_138 rfl l_X10_168 (c_X10_unitsOf hS k hk) rfl rfl (cl_132 hS) (by decide) rfl rfl rfl rfl ?_
        refine x_iload (q := 143) dX10_brew_141 rfl rfl ?_
        refine x_iadd (q := 144) dX10_brew_143 rfl ?_
        refine x_sipush (q := 147) (v := 20000) dX10_brew_144 rfl (by decide) ?_
        refine x_ic_le (q := 150) (t := 153) dX10_brew_147 rfl (by decide) (fun c_147 => ?_) (fun c_147 => ?_)
        · refine x_iconst (q := 154) (v := 0) dX10_brew_153 rfl (by decide) ?_
          refine x_istore (q := 156) dX10_brew_154 rfl (by decide) ?_
          have e1 : vmB2 h k r n nl = usum (gi (mtL k nl (fun i => gi h 142 (8 * r + i)) (fun i => n * gi h 142 (8 * r + i)) 8 h) 144) k 8 := by simp only [vmB2, if_pos c_117, if_neg c_122, c_130, Bool.false_eq_true, if_false, if_pos c_147]
          have e2 : umB2 h k r n nl = (mtL k nl (fun i => gi h 142 (8 * r + i)) (fun i => n * gi h 142 (8 * r + i)) 8 h) := by simp only [umB2, if_pos c_117, if_neg c_122, c_130, Bool.false_eq_true, if_false, if_pos c_147]
          rw [e1, e2]; exact Vg.weak (lp_br2 hS k r n hk hr nl hnl hnl40 hps hw c_130 8 0 (by omega)) (by repeat first | exact trivial | refine ⟨rfl, ?_⟩)
        · refine x_bipush (q := 152) (v := -6) dX10_brew_150 rfl (by decide) ?_
          exact x_iret dX10_brew_152 ⟨_, rfl, by first | rfl | (split <;> rfl)⟩ rfl (Nat.le_refl _) rfl ⟨by simp [vmB2, c_117, c_122, c_130, c_147], by simp [umB2, c_117, c_122, c_130, c_147]⟩
      · replace c_130 := b2y c_130
        refine x_bipush (q := 135) (v := -5) dX10_brew_133 rfl (by decide) ?_
        exact x_iret dX10_brew_135 ⟨_, rfl, by first | rfl | (split <;> rfl)⟩ rfl (Nat.le_refl _) rfl ⟨by simp [vmB2, c_117, c_122, c_130], by simp [umB2, c_117, c_122, c_130]⟩
    · refine x_bipush (q := 127) (v := -4) dX10_brew_125 rfl (by decide) ?_
      exact x_iret dX10_brew_127 ⟨_, rfl, by first | rfl | (split <;> rfl)⟩ rfl (Nat.le_refl _) rfl ⟨by simp [vmB2, c_117, c_122], by simp [umB2, c_117, c_122]⟩
set_option maxHeartbeats 4000000 in
set_option maxRecDepth 100000 in
theorem lp_br0 {h : HF} (hS : Sh h) (k r : Nat) (n : Int32) (hk : k < 24) (hr : r < 12) (nl : Nat) (hnl : fI h 132 4 = nI nl) (hnl40 : nl ≤ 40) (hps : PS (gi h 136) nl) (hw : ∀ i, i < 8 → -1000000000 ≤ ((fun i => n * gi h 142 (8 * r + i)) i).toInt ∧ ((fun i => n * gi h 142 (8 * r + i)) i).toInt ≤ 1000000000) : ∀ (m i : Nat), i + m = 8 → Vg mX10_brew none (QM mX10_brew 170 (RI (vmB2 h k r n nl) (umB2 h k r n nl))) 47 [some (.ref 132), some (.int (nI k)), some (.int (nI r)), some (.int n), some (.int (fsum (fun i => n * gi h 142 (8 * r + i)) i)), some (.int (b2 (lkB (fun i => n * gi h 142 (8 * r + i)) (fun b => sU (gi h 135) (gi h 137) (gi h 136) (fI h 132 0) (nI b) nl) i))), some (.int (nI i)), none] [] 170 h 0 0 := by
  intro m
  induction m with
  | zero =>
    intro i hi
    obtain rfl : i = 8 := by omega
    refine x_iload (q := 49) dX10_brew_47 rfl rfl ?_
    refine x_bipush (q := 51) (v := 8) dX10_brew_49 rfl (by decide) ?_
    refine x_ic_ge (q := 54) (t := 111) dX10_brew_51 rfl (by decide) (fun _ => ?_) (fun c_ => absurd (by decide) c_)
    exact Vg.weak (lp_br1 hS k r n hk hr nl hnl hnl40 hps hw) (by repeat first | exact trivial | refine ⟨rfl, ?_⟩)
  | succ m ih =>
    intro i hi
    cases hl : lkB (fun i => n * gi h 142 (8 * r + i)) (fun b => sU (gi h 135) (gi h 137) (gi h 136) (fI h 132 0) (nI b) nl) i with
    | true =>
      refine x_iload (q := 49) dX10_brew_47 rfl rfl ?_
      refine x_bipush (q := 51) (v := 8) dX10_brew_49 rfl (by decide) ?_
      refine x_ic_ge (q := 54) (t := 111) dX10_brew_51 rfl (by decide) (fun c_ => absurd c_ (nI_ge (b := 8) (by omega) (by decide))) (fun _ => ?_)
      refine x_iload_n (q := 55) dX10_brew_54 rfl rfl rfl ?_
      refine x_aload_n (q := 56) dX10_brew_55 rfl rfl rfl ?_
      refine x_get (q := 59) dX10_brew_56 rfl f_X10_38 (cl_132 hS) rfl (by decide) ?_
      refine x_bipush (q := 61) (v := 8) dX10_brew_59 rfl (by decide) ?_
      refine x_iload_n (q := 62) dX10_brew_61 rfl rfl rfl ?_
      refine x_imul (q := 63) dX10_brew_62 rfl ?_
      refine x_iload (q := 65) dX10_brew_63 rfl rfl ?_
      refine x_iadd (q := 66) dX10_brew_65 rfl ?_
      rw [ux8]
      refine z_iald (q := 67) (j := 8 * r + i) dX10_brew_66 rfl (cl_142 hS) (by omega) (by decide) (by decide) ?_
      refine x_imul (q := 68) dX10_brew_67 rfl ?_
      refine x_istore (q := 70) dX10_brew_68 rfl (by decide) ?_
      refine x_iload (q := 72) dX10_brew_70 rfl rfl ?_
      refine x_iload (q := 74) dX10_brew_72 rfl rfl ?_
      refine x_iadd (q := 75) dX10_brew_74 rfl ?_
      refine x_istore (q := 77) dX10_brew_75 rfl (by decide) ?_
      refine x_iload (q := 79) dX10_brew_77 rfl rfl ?_
      refine x_if_ne (q := 82) (t := 98) dX10_brew_79 rfl (by decide) (fun _ => ?_) (fun c_ => absurd c_ (by decide))
      refine x_iconst (q := 99) (v := 1) dX10_brew_98 rfl (by decide) ?_
      refine x_goto (q := 103) dX10_brew_99 (by decide) ?_
      refine x_istore (q := 105) dX10_brew_103 rfl (by decide) ?_
      refine x_iinc (q := 108) (v := nI (i + 1)) dX10_brew_105 rfl rfl (nI_inc _) (by decide) ?_
      refine x_goto (q := 47) dX10_brew_108 (by decide) ?_
      have t9 := ih (i + 1) (by omega)
      rw [lkB_mono (i := i) (by omega) hl] at t9
      exact Vg.weak t9 (by repeat first | exact trivial | refine ⟨rfl, ?_⟩)
    | false =>
      refine x_iload (q := 49) dX10_brew_47 rfl rfl ?_
      refine x_bipush (q := 51) (v := 8) dX10_brew_49 rfl (by decide) ?_
      refine x_ic_ge (q := 54) (t := 111) dX10_brew_51 rfl (by decide) (fun c_ => absurd c_ (nI_ge (b := 8) (by omega) (by decide))) (fun _ => ?_)
      refine x_iload_n (q := 55) dX10_brew_54 rfl rfl rfl ?_
      refine x_aload_n (q := 56) dX10_brew_55 rfl rfl rfl ?_
      refine x_get (q := 59) dX10_brew_56 rfl f_X10_38 (cl_132 hS) rfl (by decide) ?_
      refine x_bipush (q := 61) (v := 8) dX10_brew_59 rfl (by decide) ?_
      refine x_iload_n (q := 62) dX10_brew_61 rfl rfl rfl ?_
      refine x_imul (q := 63) dX10_brew_62 rfl ?_
      refine x_iload (q := 65) dX10_brew_63 rfl rfl ?_
      refine x_iadd (q := 66) dX10_brew_65 rfl ?_
      rw [ux8]
      refine z_iald (q := 67) (j := 8 * r + i) dX10_brew_66 rfl (cl_142 hS) (by omega) (by decide) (by decide) ?_
      refine x_imul (q := 68) dX10_brew_67 rfl ?_
      refine x_istore (q := 70) dX10_brew_68 rfl (by decide) ?_
      refine x_iload (q := 72) dX10_brew_70 rfl rfl ?_
      refine x_iload (q := 74) dX10_brew_72 rfl rfl ?_
      refine x_iadd (q := 75) dX10_brew_74 rfl ?_
      refine x_istore (q := 77) dX10_brew_75 rfl (by decide) ?_
      refine x_iload (q := 79) dX10_brew_77 rfl rfl ?_
      refine x_if_ne (q := 82) (t := 98) dX10_brew_79 rfl (by decide) (fun c_ => absurd c_ (fun z => z rfl)) (fun _ => ?_)
      refine x_iload (q := 84) dX10_brew_82 rfl rfl ?_
      refine x_if_le (q := 87) (t := 102) dX10_brew_84 rfl (by decide) (fun c_84 => ?_) (fun c_84 => ?_)
      · refine x_iconst (q := 103) (v := 0) dX10_brew_102 rfl (by decide) ?_
        refine x_istore (q := 105) dX10_brew_103 rfl (by decide) ?_
        refine x_iinc (q := 108) (v := nI (i + 1)) dX10_brew_105 rfl rfl (nI_inc _) (by decide) ?_
        refine x_goto (q := 47) dX10_brew_108 (by decide) ?_
        have t9 := ih (i + 1) (by omega)
        by_cases q9 : 0 < n * gi h 142 (8 * r + i) ∧ sU (gi h 135) (gi h 137) (gi h 136) (fI h 132 0) (nI i) nl < n * gi h 142 (8 * r + i)
        · have e9 : lkB (fun i => n * gi h 142 (8 * r + i)) (fun b => sU (gi h 135) (gi h 137) (gi h 136) (fI h 132 0) (nI b) nl) (i + 1) = true := by simp only [lkB, Bool.or_eq_true, Bool.and_eq_true, decide_eq_true_eq]; exact Or.inr q9
          rw [e9] at t9
          first | exact absurd q9.1 (Int32.not_lt.mpr c_84) | exact absurd q9.2 (Int32.not_lt.mpr c_95) | exact Vg.weak t9 (by repeat first | exact trivial | refine ⟨rfl, ?_⟩)
        · have e9 : lkB (fun i => n * gi h 142 (8 * r + i)) (fun b => sU (gi h 135) (gi h 137) (gi h 136) (fI h 132 0) (nI b) nl) (i + 1) = false := by
            cases z9 : lkB (fun i => n * gi h 142 (8 * r + i)) (fun b => sU (gi h 135) (gi h 137) (gi h 136) (fI h 132 0) (nI b) nl) (i + 1) with
            | false => rfl
            | true => simp only [lkB, hl, Bool.false_or, Bool.and_eq_true, decide_eq_true_eq] at z9; exact absurd z9 q9
          rw [e9] at t9
          first | (have z9 := Int32.not_le.mp c_84; have z8 := Int32.not_le.mp c_95; exact absurd ⟨z9, z8⟩ q9) | exact Vg.weak t9 (by repeat first | exact trivial | refine ⟨rfl, ?_⟩)
      · refine x_aload_n (q := 88) dX10_brew_87 rfl rfl rfl ?_
        refine x_iload (q := 90) dX10_brew_88 rfl rfl ?_
        refine y_cvI (q := 93) dX10_brew_90 rfl l_X10_154 (c_X10_mayOf hS (nI i) nl hnl hnl40) rfl rfl (cl_132 hS) (by decide) rfl rfl rfl rfl ?_
        refine x_iload (q := 95) dX10_brew_93 rfl rfl ?_
        refine x_ic_ge (q := 98) (t := 102) dX10_brew_95 rfl (by decide) (fun c_95 => ?_) (fun c_95 => ?_)
        · refine x_iconst (q := 103) (v := 0) dX10_brew_102 rfl (by decide) ?_
          refine x_istore (q := 105) dX10_brew_103 rfl (by decide) ?_
          refine x_iinc (q := 108) (v := nI (i + 1)) dX10_brew_105 rfl rfl (nI_inc _) (by decide) ?_
          refine x_goto (q := 47) dX10_brew_108 (by decide) ?_
          have t9 := ih (i + 1) (by omega)
          by_cases q9 : 0 < n * gi h 142 (8 * r + i) ∧ sU (gi h 135) (gi h 137) (gi h 136) (fI h 132 0) (nI i) nl < n * gi h 142 (8 * r + i)
          · have e9 : lkB (fun i => n * gi h 142 (8 * r + i)) (fun b => sU (gi h 135) (gi h 137) (gi h 136) (fI h 132 0) (nI b) nl) (i + 1) = true := by simp only [lkB, Bool.or_eq_true, Bool.and_eq_true, decide_eq_true_eq]; exact Or.inr q9
            rw [e9] at t9
            first | exact absurd q9.1 (Int32.not_lt.mpr c_84) | exact absurd q9.2 (Int32.not_lt.mpr c_95) | exact Vg.weak t9 (by repeat first | exact trivial | refine ⟨rfl, ?_⟩)
          · have e9 : lkB (fun i => n * gi h 142 (8 * r + i)) (fun b => sU (gi h 135) (gi h 137) (gi h 136) (fI h 132 0) (nI b) nl) (i + 1) = false := by
              cases z9 : lkB (fun i => n * gi h 142 (8 * r + i)) (fun b => sU (gi h 135) (gi h 137) (gi h 136) (fI h 132 0) (nI b) nl) (i + 1) with
              | false => rfl
              | true => simp only [lkB, hl, Bool.false_or, Bool.and_eq_true, decide_eq_true_eq] at z9; exact absurd z9 q9
            rw [e9] at t9
            first | (have z9 := Int32.not_le.mp c_84; have z8 := Int32.not_le.mp c_95; exact absurd ⟨z9, z8⟩ q9) | exact Vg.weak t9 (by repeat first | exact trivial | refine ⟨rfl, ?_⟩)
        · refine x_iconst (q := 99) (v := 1) dX10_brew_98 rfl (by decide) ?_
          refine x_goto (q := 103) dX10_brew_99 (by decide) ?_
          refine x_istore (q := 105) dX10_brew_103 rfl (by decide) ?_
          refine x_iinc (q := 108) (v := nI (i + 1)) dX10_brew_105 rfl rfl (nI_inc _) (by decide) ?_
          refine x_goto (q := 47) dX10_brew_108 (by decide) ?_
          have t9 := ih (i + 1) (by omega)
          by_cases q9 : 0 < n * gi h 142 (8 * r + i) ∧ sU (gi h 135) (gi h 137) (gi h 136) (fI h 132 0) (nI i) nl < n * gi h 142 (8 * r + i)
          · have e9 : lkB (fun i => n * gi h 142 (8 * r + i)) (fun b => sU (gi h 135) (gi h 137) (gi h 136) (fI h 132 0) (nI b) nl) (i + 1) = true := by simp only [lkB, Bool.or_eq_true, Bool.and_eq_true, decide_eq_true_eq]; exact Or.inr q9
            rw [e9] at t9
            first | exact absurd q9.1 (Int32.not_lt.mpr c_84) | exact absurd q9.2 (Int32.not_lt.mpr c_95) | exact Vg.weak t9 (by repeat first | exact trivial | refine ⟨rfl, ?_⟩)
          · have e9 : lkB (fun i => n * gi h 142 (8 * r + i)) (fun b => sU (gi h 135) (gi h 137) (gi h 136) (fI h 132 0) (nI b) nl) (i + 1) = false := by
              cases z9 : lkB (fun i => n * gi h 142 (8 * r + i)) (fun b => sU (gi h 135) (gi h 137) (gi h 136) (fI h 132 0) (nI b) nl) (i + 1) with
              | false => rfl
              | true => simp only [lkB, hl, Bool.false_or, Bool.and_eq_true, decide_eq_true_eq] at z9; exact absurd z9 q9
            rw [e9] at t9
            first | (have z9 := Int32.not_le.mp c_84; have z8 := Int32.not_le.mp c_95; exact absurd ⟨z9, z8⟩ q9) | exact Vg.weak t9 (by repeat first | exact trivial | refine ⟨rfl, ?_⟩)

def vmBr (h : HF) (t r n : Int32) (nt nr nl : Nat) : Int32 := if ltB t (nI nt) = true then if ltB r (nI nr) = true then if inB n 1 100 = true then vmB2 h t.toNatClampNeg r.toNatClampNeg n nl else -3 else -2 else -2
def umBr (h : HF) (t r n : Int32) (nt nr nl : Nat) : HF := if ltB t (nI nt) = true then if ltB r (nI nr) = true then if inB n 1 100 = true then umB2 h t.toNatClampNeg r.toNatClampNeg n nl else h else h else h
set_option maxHeartbeats 4000000 in
set_option maxRecDepth 100000 in
theorem c_X10_brew {h : HF} (hS : Sh h) (t b n : Int32) (nt : Nat) (hnt : fI h 132 15 = nI nt) (hnt24 : nt ≤ 24) (nr : Nat) (hnr : fI h 132 8 = nI nr) (hnr12 : nr ≤ 12) (nl : Nat) (hnl : fI h 132 4 = nI nl) (hnl40 : nl ≤ 40) (hps : PS (gi h 136) nl) (hw : ∀ r i, r < nr → i < 8 → inB n 1 100 = true → -1000000000 ≤ (n * gi h 142 (8 * r + i)).toInt ∧ (n * gi h 142 (8 * r + i)).toInt ≤ 1000000000) : Mc mX10_brew [.ref 132, .int t, .int b, .int n] 170 h (RI (vmBr h t b n nt nr nl) (umBr h t b n nt nr nl)) := by
  refine Mc.of (by decide) rfl (Nat.le_of_ble_eq_true rfl) ?_
  refine x_aload_n (q := 1) dX10_brew_0 rfl rfl rfl ?_
  refine x_iload_n (q := 2) dX10_brew_1 rfl rfl rfl ?_
  refine y_cvI (q := 5) dX10_brew_2 rfl l_X10_165 (c_X10_isBatch hS _ nt hnt hnt24) rfl rfl (cl_132 hS) (by decide) rfl rfl rfl rfl ?_
  refine x_if_eq (q := 8) (t := 22) dX10_brew_5 rfl (by decide) (fun c_5 => ?_) (fun c_5 => ?_)
  · replace c_5 := b2n c_5
    refine x_bipush (q := 24) (v := -2) dX10_brew_22 rfl (by decide) ?_
    exact x_iret dX10_brew_24 ⟨_, rfl, by first | rfl | (split <;> rfl)⟩ rfl (Nat.le_refl _) rfl ⟨by simp [vmBr, c_5], by simp [umBr, c_5]⟩
  · replace c_5 := b2y c_5
    refine x_iload_n (q := 9) dX10_brew_8 rfl rfl rfl ?_
    refine x_iconst (q := 10) (v := 0) dX10_brew_9 rfl (by decide) ?_
    refine x_aload_n (q := 11) dX10_brew_10 rfl rfl rfl ?_
    refine x_get (q := 14) dX10_brew_11 rfl f_X10_158 (cl_132 hS) rfl (by decide) ?_
    rw [hnr]
    refine x_iconst (q := 15) (v := 1) dX10_brew_14 rfl (by decide) ?_
    refine x_isub (q := 16) dX10_brew_15 rfl ?_
    refine y_csI (q := 19) dX10_brew_16 rfl l_X10_133 (c_X10_inL hS _ nr (by omega)) rfl rfl rfl rfl rfl rfl ?_
    refine x_if_ne (q := 22) (t := 25) dX10_brew_19 rfl (by decide) (fun c_19 => ?_) (fun c_19 => ?_)
    · replace c_19 := b2y c_19
      refine x_iload_n (q := 26) dX10_brew_25 rfl rfl rfl ?_
      refine x_iconst (q := 27) (v := 1) dX10_brew_26 rfl (by decide) ?_
      refine x_bipush (q := 29) (v := 100) dX10_brew_27 rfl (by decide) ?_
      refine y_csI (q := 32) dX10_brew_29 rfl l_X10_133 (c_X10_in hS _ _ _) rfl rfl rfl rfl rfl rfl ?_
      refine x_if_ne (q := 35) (t := 38) dX10_brew_32 rfl (by decide) (fun c_32 => ?_) (fun c_32 => ?_)
      · replace c_32 := b2y c_32
        obtain ⟨k, hk, rfl⟩ := ltB_of (by omega) c_5
        obtain ⟨j, hj, rfl⟩ := ltB_of (by omega) c_19
        refine x_iconst (q := 39) (v := 0) dX10_brew_38 rfl (by decide) ?_
        refine x_istore (q := 41) dX10_brew_39 rfl (by decide) ?_
        refine x_iconst (q := 42) (v := 0) dX10_brew_41 rfl (by decide) ?_
        refine x_istore (q := 44) dX10_brew_42 rfl (by decide) ?_
        refine x_iconst (q := 45) (v := 0) dX10_brew_44 rfl (by decide) ?_
        refine x_istore (q := 47) dX10_brew_45 rfl (by decide) ?_
        have e1 : vmBr h (nI k) (nI j) n nt nr nl = vmB2 h k j n nl := by simp only [vmBr, c_5, c_19, c_32, nI_clamp (show j < 2 ^ 31 by omega), nI_clamp (show k < 2 ^ 31 by omega), if_true]
        have e2 : umBr h (nI k) (nI j) n nt nr nl = umB2 h k j n nl := by simp only [umBr, c_5, c_19, c_32, nI_clamp (show j < 2 ^ 31 by omega), nI_clamp (show k < 2 ^ 31 by omega), if_true]
        rw [e1, e2]; exact Vg.weak (lp_br0 hS k j n (by omega) (by omega) nl hnl hnl40 hps (fun i hi => hw j i hj hi c_32) 8 0 (by omega)) (by repeat first | exact trivial | refine ⟨rfl, ?_⟩)
      · replace c_32 := b2n c_32
        refine x_bipush (q := 37) (v := -3) dX10_brew_35 rfl (by decide) ?_
        exact x_iret dX10_brew_37 ⟨_, rfl, by first | rfl | (split <;> rfl)⟩ rfl (Nat.le_refl _) rfl ⟨by simp [vmBr, c_5, c_19, c_32], by simp [umBr, c_5, c_19, c_32]⟩
    · replace c_19 := b2n c_19
      refine x_bipush (q := 24) (v := -2) dX10_brew_22 rfl (by decide) ?_
      exact x_iret dX10_brew_24 ⟨_, rfl, by first | rfl | (split <;> rfl)⟩ rfl (Nat.le_refl _) rfl ⟨by simp [vmBr, c_5, c_19], by simp [umBr, c_5, c_19]⟩

