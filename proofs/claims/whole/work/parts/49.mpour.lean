def rowF (g : Nat → Int32) (a : Nat) (s : Nat → Int32) (n : Nat) : Nat → Int32 := fun j => if a ≤ j ∧ j < a + n then s (j - a) else g j
theorem rowF_0 (g : Nat → Int32) (a : Nat) (s : Nat → Int32) : rowF g a s 0 = g := by funext j; simp only [rowF]; rw [if_neg (by omega)]
theorem rowF_s (g : Nat → Int32) (a : Nat) (s : Nat → Int32) (i : Nat) : upd (rowF g a s i) (a + i) (s i) = rowF g a s (i + 1) := by
  funext j
  simp only [upd, rowF]
  by_cases h1 : j = a + i
  · subst h1; rw [if_pos rfl, if_pos (by omega), show a + i - a = i by omega]
  · rw [if_neg h1]
    by_cases h2 : a ≤ j ∧ j < a + i
    · rw [if_pos h2, if_pos (by omega)]
    · rw [if_neg h2, if_neg (by omega)]
theorem rowF_at (g : Nat → Int32) (a : Nat) (s : Nat → Int32) (i : Nat) : rowF g a s i (a + i) = g (a + i) := by simp only [rowF]; rw [if_neg (by omega)]
def mpO (h : HF) (k t d : Nat) : Int32 := if gi h 150 t ≤ 0 then 0 else (ysh (gi h 153) (gi h 169) (gi h 133) (gi h 134) (8 * t) d) - (ysh (gi h 144) (gi h 169) (gi h 133) (gi h 134) (8 * k) d)
def mpD (h : HF) (k t d : Nat) : Bool := decide (absI (mpO h k t d) ≤ fI h 132 30) && (decide (¬ gi h 150 t ≤ 0) || decide (gi h 156 (3 * t + d) ≤ (ysh (gi h 144) (gi h 169) (gi h 133) (gi h 134) (8 * k) d)))
def mpA (h : HF) (k t : Nat) : Nat → Bool
  | 0 => true
  | d + 1 => mpA h k t d && mpD h k t d
def mpX (h : HF) (k t : Nat) : Bool := if gi h 150 t = 0 ∧ gi h 151 t = 0 then true else if ¬ gi h 150 t ≤ 0 ∧ ¬ gi h 152 t = 0 then false else mpA h k t 3
theorem mpD_t {h : HF} {k t d : Nat} (ea : absI (mpO h k t d) ≤ fI h 132 30) (eb : ¬ gi h 150 t ≤ 0 ∨ gi h 156 (3 * t + d) ≤ (ysh (gi h 144) (gi h 169) (gi h 133) (gi h 134) (8 * k) d)) : mpD h k t d = true := by
  simp only [mpD, Bool.and_eq_true, Bool.or_eq_true, decide_eq_true_eq]; exact ⟨ea, eb⟩
theorem mpD_f {h : HF} {k t d : Nat} (e : absI (mpO h k t d) ≤ fI h 132 30 → (¬ gi h 150 t ≤ 0 ∨ gi h 156 (3 * t + d) ≤ (ysh (gi h 144) (gi h 169) (gi h 133) (gi h 134) (8 * k) d)) → False) : mpD h k t d = false := by
  cases z : mpD h k t d with
  | false => rfl
  | true => simp only [mpD, Bool.and_eq_true, Bool.or_eq_true, decide_eq_true_eq] at z; exact (e z.1 z.2).elim
set_option maxHeartbeats 4000000 in
set_option maxRecDepth 100000 in
theorem lp_mp {h : HF} (hS : Sh h) (k t : Nat) (hk : k < 24) (ht : t < 5) : ∀ (m i : Nat), i + m = 3 → Vg mX10_mayPour none (QM mX10_mayPour 170 (RI (b2 (mpA h k t 3)) h)) 45 [some (.ref 132), some (.int (nI k)), some (.int (nI t)), some (.int (b2 (mpA h k t i))), some (.int (nI i)), none, none] [] 170 h 0 0 := by
  intro m
  induction m with
  | zero =>
    intro i hi
    obtain rfl : i = 3 := by omega
    refine x_iload (q := 47) dX10_mayPour_45 rfl rfl ?_
    refine x_iconst (q := 48) (v := 3) dX10_mayPour_47 rfl (by decide) ?_
    refine x_ic_ge (q := 51) (t := 172) dX10_mayPour_48 rfl (by decide) (fun _ => ?_) (fun c_ => absurd (by decide) c_)
    refine x_iload_n (q := 173) dX10_mayPour_172 rfl rfl rfl ?_
    exact x_iret dX10_mayPour_173 ⟨_, rfl, nb2 _⟩ rfl (Nat.le_refl _) rfl ⟨rfl, rfl⟩
  | succ m ih =>
    intro i hi
    cases hl : mpA h k t i with
    | true =>
      refine x_iload (q := 47) dX10_mayPour_45 rfl rfl ?_
      refine x_iconst (q := 48) (v := 3) dX10_mayPour_47 rfl (by decide) ?_
      refine x_ic_ge (q := 51) (t := 172) dX10_mayPour_48 rfl (by decide) (fun c_ => absurd c_ (nI_ge (b := 3) (by omega) (by decide))) (fun _ => ?_)
      refine x_aload_n (q := 52) dX10_mayPour_51 rfl rfl rfl ?_
      refine x_aload_n (q := 53) dX10_mayPour_52 rfl rfl rfl ?_
      refine x_get (q := 56) dX10_mayPour_53 rfl f_X10_44 (cl_132 hS) rfl (by decide) ?_
      refine x_bipush (q := 58) (v := 8) dX10_mayPour_56 rfl (by decide) ?_
      refine x_iload_n (q := 59) dX10_mayPour_58 rfl rfl rfl ?_
      refine x_imul (q := 60) dX10_mayPour_59 rfl ?_
      refine x_aload_n (q := 61) dX10_mayPour_60 rfl rfl rfl ?_
      refine x_get (q := 64) dX10_mayPour_61 rfl f_X10_124 (cl_132 hS) rfl (by decide) ?_
      refine x_iload (q := 66) dX10_mayPour_64 rfl rfl ?_
      refine y_cvI (q := 69) dX10_mayPour_66 rfl l_X10_180 (c_shB hS (rm := 169) (by decide) rfl k i hk (by omega)) rfl rfl (cl_132 hS) (by decide) rfl rfl rfl rfl ?_
      refine x_istore (q := 71) dX10_mayPour_69 rfl (by decide) ?_
      refine x_aload_n (q := 72) dX10_mayPour_71 rfl rfl rfl ?_
      refine x_get (q := 75) dX10_mayPour_72 rfl f_X10_63 (cl_132 hS) rfl (by decide) ?_
      refine x_iload_n (q := 76) dX10_mayPour_75 rfl rfl rfl ?_
      refine z_iald (q := 77) (j := t) dX10_mayPour_76 rfl (cl_150 hS) (by omega) (by decide) (by decide) ?_
      refine x_if_le (q := 80) (t := 104) dX10_mayPour_77 rfl (by decide) (fun c_77 => ?_) (fun c_77 => ?_)
      · refine x_iconst (q := 105) (v := 0) dX10_mayPour_104 rfl (by decide) ?_
        refine x_istore (q := 107) dX10_mayPour_105 rfl (by decide) ?_
        refine x_iload (q := 109) dX10_mayPour_107 rfl rfl ?_
        refine x_if_ge (q := 112) (t := 118) dX10_mayPour_109 rfl (by decide) (fun _ => ?_) (fun c_ => absurd (by decide) c_)
        refine x_iload (q := 120) dX10_mayPour_118 rfl rfl ?_
        refine x_istore (q := 122) dX10_mayPour_120 rfl (by decide) ?_
        refine x_iload_n (q := 123) dX10_mayPour_122 rfl rfl rfl ?_
        refine x_if_eq (q := 126) (t := 164) dX10_mayPour_123 rfl (by decide) (fun c_ => absurd c_ (by decide)) (fun _ => ?_)
        refine x_iload (q := 128) dX10_mayPour_126 rfl rfl ?_
        refine x_aload_n (q := 129) dX10_mayPour_128 rfl rfl rfl ?_
        refine x_get (q := 132) dX10_mayPour_129 rfl f_X10_84 (cl_132 hS) rfl (by decide) ?_
        refine x_ic_gt (q := 135) (t := 164) dX10_mayPour_132 rfl (by decide) (fun c_132 => ?_) (fun c_132 => ?_)
        · refine x_iconst (q := 165) (v := 0) dX10_mayPour_164 rfl (by decide) ?_
          refine x_istore_n (q := 166) dX10_mayPour_165 rfl rfl (by decide) ?_
          refine x_iinc (q := 169) (v := nI (i + 1)) dX10_mayPour_166 rfl rfl (nI_inc _) (by decide) ?_
          refine x_goto (q := 45) dX10_mayPour_169 (by decide) ?_
          have t9 := ih (i + 1) (by omega)
          have eo : mpO h k t i = _ := if_pos c_77
          have ea : absI (mpO h k t i) = 0 := (congrArg absI eo).trans (by decide)
          have e9 : mpA h k t (i + 1) = false := by rw [mpA, hl, mpD_f (fun q _ => by rw [ea] at q; exact Int32.not_le.mpr c_132 q)]; rfl
          rw [e9] at t9; exact Vg.weak t9 (by repeat first | exact trivial | refine ⟨rfl, ?_⟩)
        · refine x_aload_n (q := 136) dX10_mayPour_135 rfl rfl rfl ?_
          refine x_get (q := 139) dX10_mayPour_136 rfl f_X10_63 (cl_132 hS) rfl (by decide) ?_
          refine x_iload_n (q := 140) dX10_mayPour_139 rfl rfl rfl ?_
          refine z_iald (q := 141) (j := t) dX10_mayPour_140 rfl (cl_150 hS) (by omega) (by decide) (by decide) ?_
          refine x_if_gt (q := 144) (t := 160) dX10_mayPour_141 rfl (by decide) (fun c_ => absurd c_ (Int32.not_lt.mpr c_77)) (fun _ => ?_)
          refine x_iload (q := 146) dX10_mayPour_144 rfl rfl ?_
          refine x_aload_n (q := 147) dX10_mayPour_146 rfl rfl rfl ?_
          refine x_get (q := 150) dX10_mayPour_147 rfl f_X10_81 (cl_132 hS) rfl (by decide) ?_
          refine x_iconst (q := 151) (v := 3) dX10_mayPour_150 rfl (by decide) ?_
          refine x_iload_n (q := 152) dX10_mayPour_151 rfl rfl rfl ?_
          refine x_imul (q := 153) dX10_mayPour_152 rfl ?_
          refine x_iload (q := 155) dX10_mayPour_153 rfl rfl ?_
          refine x_iadd (q := 156) dX10_mayPour_155 rfl ?_
          rw [ux3]
          refine z_iald (q := 157) (j := 3 * t + i) dX10_mayPour_156 rfl (cl_156 hS) (by omega) (by decide) (by decide) ?_
          refine x_ic_lt (q := 160) (t := 164) dX10_mayPour_157 rfl (by decide) (fun c_157 => ?_) (fun c_157 => ?_)
          · refine x_iconst (q := 165) (v := 0) dX10_mayPour_164 rfl (by decide) ?_
            refine x_istore_n (q := 166) dX10_mayPour_165 rfl rfl (by decide) ?_
            refine x_iinc (q := 169) (v := nI (i + 1)) dX10_mayPour_166 rfl rfl (nI_inc _) (by decide) ?_
            refine x_goto (q := 45) dX10_mayPour_169 (by decide) ?_
            have t9 := ih (i + 1) (by omega)
            have eo : mpO h k t i = _ := if_pos c_77
            have ea : absI (mpO h k t i) = 0 := (congrArg absI eo).trans (by decide)
            have e9 : mpA h k t (i + 1) = false := by rw [mpA, hl, mpD_f (fun _ q => q.elim (fun q => q c_77) (fun q => Int32.not_le.mpr c_157 q))]; rfl
            rw [e9] at t9; exact Vg.weak t9 (by repeat first | exact trivial | refine ⟨rfl, ?_⟩)
          · refine x_iconst (q := 161) (v := 1) dX10_mayPour_160 rfl (by decide) ?_
            refine x_goto (q := 165) dX10_mayPour_161 (by decide) ?_
            refine x_istore_n (q := 166) dX10_mayPour_165 rfl rfl (by decide) ?_
            refine x_iinc (q := 169) (v := nI (i + 1)) dX10_mayPour_166 rfl rfl (nI_inc _) (by decide) ?_
            refine x_goto (q := 45) dX10_mayPour_169 (by decide) ?_
            have t9 := ih (i + 1) (by omega)
            have eo : mpO h k t i = _ := if_pos c_77
            have ea : absI (mpO h k t i) = 0 := (congrArg absI eo).trans (by decide)
            have e9 : mpA h k t (i + 1) = true := by rw [mpA, hl, mpD_t (by rw [ea]; exact Int32.not_lt.mp c_132) (Or.inr (Int32.not_lt.mp c_157))]; rfl
            rw [e9] at t9; exact Vg.weak t9 (by repeat first | exact trivial | refine ⟨rfl, ?_⟩)
      · refine x_aload_n (q := 81) dX10_mayPour_80 rfl rfl rfl ?_
        refine x_aload_n (q := 82) dX10_mayPour_81 rfl rfl rfl ?_
        refine x_get (q := 85) dX10_mayPour_82 rfl f_X10_72 (cl_132 hS) rfl (by decide) ?_
        refine x_bipush (q := 87) (v := 8) dX10_mayPour_85 rfl (by decide) ?_
        refine x_iload_n (q := 88) dX10_mayPour_87 rfl rfl rfl ?_
        refine x_imul (q := 89) dX10_mayPour_88 rfl ?_
        refine x_aload_n (q := 90) dX10_mayPour_89 rfl rfl rfl ?_
        refine x_get (q := 93) dX10_mayPour_90 rfl f_X10_124 (cl_132 hS) rfl (by decide) ?_
        refine x_iload (q := 95) dX10_mayPour_93 rfl rfl ?_
        refine y_cvI (q := 98) dX10_mayPour_95 rfl l_X10_180 (c_shT hS t i ht (by omega)) rfl rfl (cl_132 hS) (by decide) rfl rfl rfl rfl ?_
        refine x_iload (q := 100) dX10_mayPour_98 rfl rfl ?_
        refine x_isub (q := 101) dX10_mayPour_100 rfl ?_
        refine x_goto (q := 105) dX10_mayPour_101 (by decide) ?_
        refine x_istore (q := 107) dX10_mayPour_105 rfl (by decide) ?_
        refine x_iload (q := 109) dX10_mayPour_107 rfl rfl ?_
        refine x_if_ge (q := 112) (t := 118) dX10_mayPour_109 rfl (by decide) (fun c_109 => ?_) (fun c_109 => ?_)
        · refine x_iload (q := 120) dX10_mayPour_118 rfl rfl ?_
          refine x_istore (q := 122) dX10_mayPour_120 rfl (by decide) ?_
          refine x_iload_n (q := 123) dX10_mayPour_122 rfl rfl rfl ?_
          refine x_if_eq (q := 126) (t := 164) dX10_mayPour_123 rfl (by decide) (fun c_ => absurd c_ (by decide)) (fun _ => ?_)
          refine x_iload (q := 128) dX10_mayPour_126 rfl rfl ?_
          refine x_aload_n (q := 129) dX10_mayPour_128 rfl rfl rfl ?_
          refine x_get (q := 132) dX10_mayPour_129 rfl f_X10_84 (cl_132 hS) rfl (by decide) ?_
          refine x_ic_gt (q := 135) (t := 164) dX10_mayPour_132 rfl (by decide) (fun c_132 => ?_) (fun c_132 => ?_)
          · refine x_iconst (q := 165) (v := 0) dX10_mayPour_164 rfl (by decide) ?_
            refine x_istore_n (q := 166) dX10_mayPour_165 rfl rfl (by decide) ?_
            refine x_iinc (q := 169) (v := nI (i + 1)) dX10_mayPour_166 rfl rfl (nI_inc _) (by decide) ?_
            refine x_goto (q := 45) dX10_mayPour_169 (by decide) ?_
            have t9 := ih (i + 1) (by omega)
            have eo : mpO h k t i = _ := if_neg c_77
            have ea : absI (mpO h k t i) = _ := (congrArg absI eo).trans (if_pos c_109)
            have e9 : mpA h k t (i + 1) = false := by rw [mpA, hl, mpD_f (fun q _ => by rw [ea] at q; exact Int32.not_le.mpr c_132 q)]; rfl
            rw [e9] at t9; exact Vg.weak t9 (by repeat first | exact trivial | refine ⟨rfl, ?_⟩)
          · refine x_aload_n (q := 136) dX10_mayPour_135 rfl rfl rfl ?_
            refine x_get (q := 139) dX10_mayPour_136 rfl f_X10_63 (cl_132 hS) rfl (by decide) ?_
            refine x_iload_n (q := 140) dX10_mayPour_139 rfl rfl rfl ?_
            refine z_iald (q := 141) (j := t) dX10_mayPour_140 rfl (cl_150 hS) (by omega) (by decide) (by decide) ?_
            refine x_if_gt (q := 144) (t := 160) dX10_mayPour_141 rfl (by decide) (fun _ => ?_) (fun c_ => absurd (Int32.not_le.mp c_77) c_)
            refine x_iconst (q := 161) (v := 1) dX10_mayPour_160 rfl (by decide) ?_
            refine x_goto (q := 165) dX10_mayPour_161 (by decide) ?_
            refine x_istore_n (q := 166) dX10_mayPour_165 rfl rfl (by decide) ?_
            refine x_iinc (q := 169) (v := nI (i + 1)) dX10_mayPour_166 rfl rfl (nI_inc _) (by decide) ?_
            refine x_goto (q := 45) dX10_mayPour_169 (by decide) ?_
            have t9 := ih (i + 1) (by omega)
            have eo : mpO h k t i = _ := if_neg c_77
            have ea : absI (mpO h k t i) = _ := (congrArg absI eo).trans (if_pos c_109)
            have e9 : mpA h k t (i + 1) = true := by rw [mpA, hl, mpD_t (by rw [ea]; exact Int32.not_lt.mp c_132) (Or.inl c_77)]; rfl
            rw [e9] at t9; exact Vg.weak t9 (by repeat first | exact trivial | refine ⟨rfl, ?_⟩)
        · refine x_iload (q := 114) dX10_mayPour_112 rfl rfl ?_
          refine x_ineg (q := 115) dX10_mayPour_114 rfl ?_
          refine x_goto (q := 120) dX10_mayPour_115 (by decide) ?_
          refine x_istore (q := 122) dX10_mayPour_120 rfl (by decide) ?_
          refine x_iload_n (q := 123) dX10_mayPour_122 rfl rfl rfl ?_
          refine x_if_eq (q := 126) (t := 164) dX10_mayPour_123 rfl (by decide) (fun c_ => absurd c_ (by decide)) (fun _ => ?_)
          refine x_iload (q := 128) dX10_mayPour_126 rfl rfl ?_
          refine x_aload_n (q := 129) dX10_mayPour_128 rfl rfl rfl ?_
          refine x_get (q := 132) dX10_mayPour_129 rfl f_X10_84 (cl_132 hS) rfl (by decide) ?_
          refine x_ic_gt (q := 135) (t := 164) dX10_mayPour_132 rfl (by decide) (fun c_132 => ?_) (fun c_132 => ?_)
          · refine x_iconst (q := 165) (v := 0) dX10_mayPour_164 rfl (by decide) ?_
            refine x_istore_n (q := 166) dX10_mayPour_165 rfl rfl (by decide) ?_
            refine x_iinc (q := 169) (v := nI (i + 1)) dX10_mayPour_166 rfl rfl (nI_inc _) (by decide) ?_
            refine x_goto (q := 45) dX10_mayPour_169 (by decide) ?_
            have t9 := ih (i + 1) (by omega)
            have eo : mpO h k t i = _ := if_neg c_77
            have ea : absI (mpO h k t i) = _ := (congrArg absI eo).trans (if_neg (fun q => c_109 q))
            have e9 : mpA h k t (i + 1) = false := by rw [mpA, hl, mpD_f (fun q _ => by rw [ea] at q; exact Int32.not_le.mpr c_132 q)]; rfl
            rw [e9] at t9; exact Vg.weak t9 (by repeat first | exact trivial | refine ⟨rfl, ?_⟩)
          · refine x_aload_n (q := 136) dX10_mayPour_135 rfl rfl rfl ?_
            refine x_get (q := 139) dX10_mayPour_136 rfl f_X10_63 (cl_132 hS) rfl (by decide) ?_
            refine x_iload_n (q := 140) dX10_mayPour_139 rfl rfl rfl ?_
            refine z_iald (q := 141) (j := t) dX10_mayPour_140 rfl (cl_150 hS) (by omega) (by decide) (by decide) ?_
            refine x_if_gt (q := 144) (t := 160) dX10_mayPour_141 rfl (by decide) (fun _ => ?_) (fun c_ => absurd (Int32.not_le.mp c_77) c_)
            refine x_iconst (q := 161) (v := 1) dX10_mayPour_160 rfl (by decide) ?_
            refine x_goto (q := 165) dX10_mayPour_161 (by decide) ?_
            refine x_istore_n (q := 166) dX10_mayPour_165 rfl rfl (by decide) ?_
            refine x_iinc (q := 169) (v := nI (i + 1)) dX10_mayPour_166 rfl rfl (nI_inc _) (by decide) ?_
            refine x_goto (q := 45) dX10_mayPour_169 (by decide) ?_
            have t9 := ih (i + 1) (by omega)
            have eo : mpO h k t i = _ := if_neg c_77
            have ea : absI (mpO h k t i) = _ := (congrArg absI eo).trans (if_neg (fun q => c_109 q))
            have e9 : mpA h k t (i + 1) = true := by rw [mpA, hl, mpD_t (by rw [ea]; exact Int32.not_lt.mp c_132) (Or.inl c_77)]; rfl
            rw [e9] at t9; exact Vg.weak t9 (by repeat first | exact trivial | refine ⟨rfl, ?_⟩)
    | false =>
      have e9 : mpA h k t (i + 1) = false := by rw [mpA, hl]; rfl
      have t9 := ih (i + 1) (by omega)
      rw [e9] at t9
      refine x_iload (q := 47) dX10_mayPour_45 rfl rfl ?_
      refine x_iconst (q := 48) (v := 3) dX10_mayPour_47 rfl (by decide) ?_
      refine x_ic_ge (q := 51) (t := 172) dX10_mayPour_48 rfl (by decide) (fun c_ => absurd c_ (nI_ge (b := 3) (by omega) (by decide))) (fun _ => ?_)
      refine x_aload_n (q := 52) dX10_mayPour_51 rfl rfl rfl ?_
      refine x_aload_n (q := 53) dX10_mayPour_52 rfl rfl rfl ?_
      refine x_get (q := 56) dX10_mayPour_53 rfl f_X10_44 (cl_132 hS) rfl (by decide) ?_
      refine x_bipush (q := 58) (v := 8) dX10_mayPour_56 rfl (by decide) ?_
      refine x_iload_n (q := 59) dX10_mayPour_58 rfl rfl rfl ?_
      refine x_imul (q := 60) dX10_mayPour_59 rfl ?_
      refine x_aload_n (q := 61) dX10_mayPour_60 rfl rfl rfl ?_
      refine x_get (q := 64) dX10_mayPour_61 rfl f_X10_124 (cl_132 hS) rfl (by decide) ?_
      refine x_iload (q := 66) dX10_mayPour_64 rfl rfl ?_
      refine y_cvI (q := 69) dX10_mayPour_66 rfl l_X10_180 (c_shB hS (rm := 169) (by decide) rfl k i hk (by omega)) rfl rfl (cl_132 hS) (by decide) rfl rfl rfl rfl ?_
      refine x_istore (q := 71) dX10_mayPour_69 rfl (by decide) ?_
      refine x_aload_n (q := 72) dX10_mayPour_71 rfl rfl rfl ?_
      refine x_get (q := 75) dX10_mayPour_72 rfl f_X10_63 (cl_132 hS) rfl (by decide) ?_
      refine x_iload_n (q := 76) dX10_mayPour_75 rfl rfl rfl ?_
      refine z_iald (q := 77) (j := t) dX10_mayPour_76 rfl (cl_150 hS) (by omega) (by decide) (by decide) ?_
      refine x_if_le (q := 80) (t := 104) dX10_mayPour_77 rfl (by decide) (fun c_77 => ?_) (fun c_77 => ?_)
      · refine x_iconst (q := 105) (v := 0) dX10_mayPour_104 rfl (by decide) ?_
        refine x_istore (q := 107) dX10_mayPour_105 rfl (by decide) ?_
        refine x_iload (q := 109) dX10_mayPour_107 rfl rfl ?_
        refine x_if_ge (q := 112) (t := 118) dX10_mayPour_109 rfl (by decide) (fun _ => ?_) (fun c_ => absurd (by decide) c_)
        refine x_iload (q := 120) dX10_mayPour_118 rfl rfl ?_
        refine x_istore (q := 122) dX10_mayPour_120 rfl (by decide) ?_
        refine x_iload_n (q := 123) dX10_mayPour_122 rfl rfl rfl ?_
        refine x_if_eq (q := 126) (t := 164) dX10_mayPour_123 rfl (by decide) (fun _ => ?_) (fun c_ => absurd (by decide) c_)
        refine x_iconst (q := 165) (v := 0) dX10_mayPour_164 rfl (by decide) ?_
        refine x_istore_n (q := 166) dX10_mayPour_165 rfl rfl (by decide) ?_
        refine x_iinc (q := 169) (v := nI (i + 1)) dX10_mayPour_166 rfl rfl (nI_inc _) (by decide) ?_
        refine x_goto (q := 45) dX10_mayPour_169 (by decide) ?_
        exact Vg.weak t9 (by repeat first | exact trivial | refine ⟨rfl, ?_⟩)
      · refine x_aload_n (q := 81) dX10_mayPour_80 rfl rfl rfl ?_
        refine x_aload_n (q := 82) dX10_mayPour_81 rfl rfl rfl ?_
        refine x_get (q := 85) dX10_mayPour_82 rfl f_X10_72 (cl_132 hS) rfl (by decide) ?_
        refine x_bipush (q := 87) (v := 8) dX10_mayPour_85 rfl (by decide) ?_
        refine x_iload_n (q := 88) dX10_mayPour_87 rfl rfl rfl ?_
        refine x_imul (q := 89) dX10_mayPour_88 rfl ?_
        refine x_aload_n (q := 90) dX10_mayPour_89 rfl rfl rfl ?_
        refine x_get (q := 93) dX10_mayPour_90 rfl f_X10_124 (cl_132 hS) rfl (by decide) ?_
        refine x_iload (q := 95) dX10_mayPour_93 rfl rfl ?_
        refine y_cvI (q := 98) dX10_mayPour_95 rfl l_X10_180 (c_shT hS t i ht (by omega)) rfl rfl (cl_132 hS) (by decide) rfl rfl rfl rfl ?_
        refine x_iload (q := 100) dX10_mayPour_98 rfl rfl ?_
        refine x_isub (q := 101) dX10_mayPour_100 rfl ?_
        refine x_goto (q := 105) dX10_mayPour_101 (by decide) ?_
        refine x_istore (q := 107) dX10_mayPour_105 rfl (by decide) ?_
        refine x_iload (q := 109) dX10_mayPour_107 rfl rfl ?_
        refine x_if_ge (q := 112) (t := 118) dX10_mayPour_109 rfl (by decide) (fun c_109 => ?_) (fun c_109 => ?_)
        · refine x_iload (q := 120) dX10_mayPour_118 rfl rfl ?_
          refine x_istore (q := 122) dX10_mayPour_120 rfl (by decide) ?_
          refine x_iload_n (q := 123) dX10_mayPour_122 rfl rfl rfl ?_
          refine x_if_eq (q := 126) (t := 164) dX10_mayPour_123 rfl (by decide) (fun _ => ?_) (fun c_ => absurd (by decide) c_)
          refine x_iconst (q := 165) (v := 0) dX10_mayPour_164 rfl (by decide) ?_
          refine x_istore_n (q := 166) dX10_mayPour_165 rfl rfl (by decide) ?_
          refine x_iinc (q := 169) (v := nI (i + 1)) dX10_mayPour_166 rfl rfl (nI_inc _) (by decide) ?_
          refine x_goto (q := 45) dX10_mayPour_169 (by decide) ?_
          exact Vg.weak t9 (by repeat first | exact trivial | refine ⟨rfl, ?_⟩)
        · refine x_iload (q := 114) dX10_mayPour_112 rfl rfl ?_
          refine x_ineg (q := 115) dX10_mayPour_114 rfl ?_
          refine x_goto (q := 120) dX10_mayPour_115 (by decide) ?_
          refine x_istore (q := 122) dX10_mayPour_120 rfl (by decide) ?_
          refine x_iload_n (q := 123) dX10_mayPour_122 rfl rfl rfl ?_
          refine x_if_eq (q := 126) (t := 164) dX10_mayPour_123 rfl (by decide) (fun _ => ?_) (fun c_ => absurd (by decide) c_)
          refine x_iconst (q := 165) (v := 0) dX10_mayPour_164 rfl (by decide) ?_
          refine x_istore_n (q := 166) dX10_mayPour_165 rfl rfl (by decide) ?_
          refine x_iinc (q := 169) (v := nI (i + 1)) dX10_mayPour_166 rfl rfl (nI_inc _) (by decide) ?_
          refine x_goto (q := 45) dX10_mayPour_169 (by decide) ?_
          exact Vg.weak t9 (by repeat first | exact trivial | refine ⟨rfl, ?_⟩)

set_option maxHeartbeats 4000000 in
set_option maxRecDepth 100000 in
theorem c_X10_mayPour {h : HF} (hS : Sh h) (k t : Nat) (hk : k < 24) (ht : t < 5) : Mc mX10_mayPour [.ref 132, .int (nI k), .int (nI t)] 170 h (RI (b2 (mpX h k t)) h) := by
  refine Mc.of (by decide) rfl (Nat.le_of_ble_eq_true rfl) ?_
  refine x_aload_n (q := 1) dX10_mayPour_0 rfl rfl rfl ?_
  refine x_get (q := 4) dX10_mayPour_1 rfl f_X10_63 (cl_132 hS) rfl (by decide) ?_
  refine x_iload_n (q := 5) dX10_mayPour_4 rfl rfl rfl ?_
  refine z_iald (q := 6) (j := t) dX10_mayPour_5 rfl (cl_150 hS) (by omega) (by decide) (by decide) ?_
  refine x_if_ne (q := 9) (t := 20) dX10_mayPour_6 rfl (by decide) (fun c_6 => ?_) (fun c_6 => ?_)
  · refine x_aload_n (q := 21) dX10_mayPour_20 rfl rfl rfl ?_
    refine x_get (q := 24) dX10_mayPour_21 rfl f_X10_63 (cl_132 hS) rfl (by decide) ?_
    refine x_iload_n (q := 25) dX10_mayPour_24 rfl rfl rfl ?_
    refine z_iald (q := 26) (j := t) dX10_mayPour_25 rfl (cl_150 hS) (by omega) (by decide) (by decide) ?_
    refine x_if_le (q := 29) (t := 40) dX10_mayPour_26 rfl (by decide) (fun c_26 => ?_) (fun c_26 => ?_)
    · refine x_iconst (q := 41) (v := 1) dX10_mayPour_40 rfl (by decide) ?_
      refine x_istore_n (q := 42) dX10_mayPour_41 rfl rfl (by decide) ?_
      refine x_iconst (q := 43) (v := 0) dX10_mayPour_42 rfl (by decide) ?_
      refine x_istore (q := 45) dX10_mayPour_43 rfl (by decide) ?_
      have e1 : mpX h k t = mpA h k t 3 := by
        rw [mpX]
        rw [if_neg (by first | exact (fun q => c_6 q.1) | exact (fun q => c_15 q.2)), if_neg (by first | exact (fun q => q.1 c_26) | exact (fun q => q.2 c_35))]
      rw [e1]
      exact Vg.weak (lp_mp hS k t hk ht 3 0 (by omega)) (by repeat first | exact trivial | refine ⟨rfl, ?_⟩)
    · refine x_aload_n (q := 30) dX10_mayPour_29 rfl rfl rfl ?_
      refine x_get (q := 33) dX10_mayPour_30 rfl f_X10_69 (cl_132 hS) rfl (by decide) ?_
      refine x_iload_n (q := 34) dX10_mayPour_33 rfl rfl rfl ?_
      refine z_zald (q := 35) (j := t) dX10_mayPour_34 rfl (cl_152 hS) (by omega) (by decide) (by decide) ?_
      refine x_if_eq (q := 38) (t := 40) dX10_mayPour_35 rfl (by decide) (fun c_35 => ?_) (fun c_35 => ?_)
      · refine x_iconst (q := 41) (v := 1) dX10_mayPour_40 rfl (by decide) ?_
        refine x_istore_n (q := 42) dX10_mayPour_41 rfl rfl (by decide) ?_
        refine x_iconst (q := 43) (v := 0) dX10_mayPour_42 rfl (by decide) ?_
        refine x_istore (q := 45) dX10_mayPour_43 rfl (by decide) ?_
        have e1 : mpX h k t = mpA h k t 3 := by
          rw [mpX]
          rw [if_neg (by first | exact (fun q => c_6 q.1) | exact (fun q => c_15 q.2)), if_neg (by first | exact (fun q => q.1 c_26) | exact (fun q => q.2 c_35))]
        rw [e1]
        exact Vg.weak (lp_mp hS k t hk ht 3 0 (by omega)) (by repeat first | exact trivial | refine ⟨rfl, ?_⟩)
      · refine x_iconst (q := 39) (v := 0) dX10_mayPour_38 rfl (by decide) ?_
        exact x_iret dX10_mayPour_39 ⟨_, rfl, by first | rfl | (split <;> rfl)⟩ rfl (Nat.le_refl _) rfl ⟨by rw [mpX, if_neg (fun q => c_26 (by rw [q.1]; decide)), if_pos ⟨c_26, c_35⟩]; rfl, rfl⟩
  · refine x_aload_n (q := 10) dX10_mayPour_9 rfl rfl rfl ?_
    refine x_get (q := 13) dX10_mayPour_10 rfl f_X10_66 (cl_132 hS) rfl (by decide) ?_
    refine x_iload_n (q := 14) dX10_mayPour_13 rfl rfl rfl ?_
    refine z_zald (q := 15) (j := t) dX10_mayPour_14 rfl (cl_151 hS) (by omega) (by decide) (by decide) ?_
    refine x_if_ne (q := 18) (t := 20) dX10_mayPour_15 rfl (by decide) (fun c_15 => ?_) (fun c_15 => ?_)
    · refine x_aload_n (q := 21) dX10_mayPour_20 rfl rfl rfl ?_
      refine x_get (q := 24) dX10_mayPour_21 rfl f_X10_63 (cl_132 hS) rfl (by decide) ?_
      refine x_iload_n (q := 25) dX10_mayPour_24 rfl rfl rfl ?_
      refine z_iald (q := 26) (j := t) dX10_mayPour_25 rfl (cl_150 hS) (by omega) (by decide) (by decide) ?_
      refine x_if_le (q := 29) (t := 40) dX10_mayPour_26 rfl (by decide) (fun c_26 => ?_) (fun c_26 => ?_)
      · refine x_iconst (q := 41) (v := 1) dX10_mayPour_40 rfl (by decide) ?_
        refine x_istore_n (q := 42) dX10_mayPour_41 rfl rfl (by decide) ?_
        refine x_iconst (q := 43) (v := 0) dX10_mayPour_42 rfl (by decide) ?_
        refine x_istore (q := 45) dX10_mayPour_43 rfl (by decide) ?_
        have e1 : mpX h k t = mpA h k t 3 := by
          rw [mpX]
          rw [if_neg (by first | exact (fun q => c_6 q.1) | exact (fun q => c_15 q.2)), if_neg (by first | exact (fun q => q.1 c_26) | exact (fun q => q.2 c_35))]
        rw [e1]
        exact Vg.weak (lp_mp hS k t hk ht 3 0 (by omega)) (by repeat first | exact trivial | refine ⟨rfl, ?_⟩)
      · refine x_aload_n (q := 30) dX10_mayPour_29 rfl rfl rfl ?_
        refine x_get (q := 33) dX10_mayPour_30 rfl f_X10_69 (cl_132 hS) rfl (by decide) ?_
        refine x_iload_n (q := 34) dX10_mayPour_33 rfl rfl rfl ?_
        refine z_zald (q := 35) (j := t) dX10_mayPour_34 rfl (cl_152 hS) (by omega) (by decide) (by decide) ?_
        refine x_if_eq (q := 38) (t := 40) dX10_mayPour_35 rfl (by decide) (fun c_35 => ?_) (fun c_35 => ?_)
        · refine x_iconst (q := 41) (v := 1) dX10_mayPour_40 rfl (by decide) ?_
          refine x_istore_n (q := 42) dX10_mayPour_41 rfl rfl (by decide) ?_
          refine x_iconst (q := 43) (v := 0) dX10_mayPour_42 rfl (by decide) ?_
          refine x_istore (q := 45) dX10_mayPour_43 rfl (by decide) ?_
          have e1 : mpX h k t = mpA h k t 3 := by
            rw [mpX]
            rw [if_neg (by first | exact (fun q => c_6 q.1) | exact (fun q => c_15 q.2)), if_neg (by first | exact (fun q => q.1 c_26) | exact (fun q => q.2 c_35))]
          rw [e1]
          exact Vg.weak (lp_mp hS k t hk ht 3 0 (by omega)) (by repeat first | exact trivial | refine ⟨rfl, ?_⟩)
        · refine x_iconst (q := 39) (v := 0) dX10_mayPour_38 rfl (by decide) ?_
          exact x_iret dX10_mayPour_39 ⟨_, rfl, by first | rfl | (split <;> rfl)⟩ rfl (Nat.le_refl _) rfl ⟨by rw [mpX, if_neg (fun q => c_26 (by rw [q.1]; decide)), if_pos ⟨c_26, c_35⟩]; rfl, rfl⟩
    · refine x_iconst (q := 19) (v := 1) dX10_mayPour_18 rfl (by decide) ?_
      exact x_iret dX10_mayPour_19 ⟨_, rfl, by first | rfl | (split <;> rfl)⟩ rfl (Nat.le_refl _) rfl ⟨by rw [mpX, if_pos ⟨c_6, c_15⟩]; rfl, rfl⟩

def mp0 (h : HF) (t : Nat) : HF := si (si (sl h 154 (vp_updL (gl h 154) t 0)) 155 (upd (gi h 155) t 0)) 152 (upd (gi h 152) t 0)
def mp2 (h : HF) (k t : Nat) (u : Int32) : HF := si (si (si (sl (si (si h 153 (rowF (gi h 153) (8 * t) (fun b => (if gi h 150 t = 0 then 0 else gi h 153 (8 * t + b)) + gi h 144 (8 * k + b)) 8)) 151 (upd (gi h 151) t 0)) 154 (vp_updL (gl h 154) t (gl h 154 t ||| gl h 145 k))) 155 (upd (gi h 155) t (gi h 155 t ||| 1 <<< (nI k &&& 31)))) 150 (upd (gi h 150) t (gi h 150 t + u))) 146 (upd (gi h 146) k 1)
def mpR (h : HF) (k t : Nat) (u : Int32) : HF := if gi h 150 t = 0 then mp2 (mp0 h t) k t u else mp2 h k t u
theorem Sh.mp0 {h : HF} (hS : Sh h) (t : Nat) : Sh (mp0 h t) := ((hS.sl _ _).si _ _).si _ _
theorem Sh.mp2 {h : HF} (hS : Sh h) (k t : Nat) (u : Int32) : Sh (mp2 h k t u) := (((((hS.si _ _).si _ _).sl _ _).si _ _).si _ _).si _ _
set_option maxHeartbeats 4000000 in
set_option maxRecDepth 100000 in
theorem lp_po {h : HF} (hS : Sh h) (k t : Nat) (hk : k < 24) (ht : t < 5) (u : Int32) : ∀ (m i : Nat), i + m = 8 → Vg mX10_pour none (QM mX10_pour 170 (RI (gi (mp2 h k t u) 150 t) (mp2 h k t u))) 102 [some (.ref 132), some (.int (nI k)), some (.int (nI t)), some (.int u), some (.int (nI i))] [] 170 (si h 153 (rowF (gi h 153) (8 * t) (fun b => (if gi h 150 t = 0 then 0 else gi h 153 (8 * t + b)) + gi h 144 (8 * k + b)) i)) 0 0 := by
  intro m
  induction m with
  | zero =>
    intro i hi
    obtain rfl : i = 8 := by omega
    refine x_iload (q := 104) dX10_pour_102 rfl rfl ?_
    refine x_bipush (q := 106) (v := 8) dX10_pour_104 rfl (by decide) ?_
    refine x_ic_ge (q := 109) (t := 165) dX10_pour_106 rfl (by decide) (fun _ => ?_) (fun c_ => absurd (by decide) c_)
    refine x_aload_n (q := 166) dX10_pour_165 rfl rfl rfl ?_
    refine x_get (q := 169) dX10_pour_166 rfl f_X10_66 (cl_132 (hS.si 153 _)) rfl (by decide) ?_
    refine x_iload_n (q := 170) dX10_pour_169 rfl rfl rfl ?_
    refine x_iconst (q := 171) (v := 0) dX10_pour_170 rfl (by decide) ?_
    refine z_zast (q := 172) (j := t) dX10_pour_171 rfl (cl_151 (hS.si 153 _)) (by omega) (by decide) (by first | assumption | decide) (by decide) ?_
    refine Vg.nm (fun h1 eh1 => ?_)
    have hS1 : Sh h1 := by rw [eh1]; exact (hS.si 153 _).si _ _
    refine x_aload_n (q := 173) dX10_pour_172 rfl rfl rfl ?_
    refine x_get (q := 176) dX10_pour_173 rfl f_X10_75 (cl_132 hS1) rfl (by decide) ?_
    refine x_iload_n (q := 177) dX10_pour_176 rfl rfl rfl ?_
    refine x_aload_n (q := 178) dX10_pour_177 rfl rfl rfl ?_
    refine x_get (q := 181) dX10_pour_178 rfl f_X10_75 (cl_132 hS1) rfl (by decide) ?_
    refine x_iload_n (q := 182) dX10_pour_181 rfl rfl rfl ?_
    refine z_lald (q := 183) (j := t) dX10_pour_182 rfl (cl_154 hS1) (by omega) (by decide) (by decide) ?_
    refine x_aload_n (q := 184) dX10_pour_183 rfl rfl rfl ?_
    refine x_get (q := 187) dX10_pour_184 rfl f_X10_47 (cl_132 hS1) rfl (by decide) ?_
    refine x_iload_n (q := 188) dX10_pour_187 rfl rfl rfl ?_
    refine z_lald (q := 189) (j := k) dX10_pour_188 rfl (cl_145 hS1) (by omega) (by decide) (by decide) ?_
    refine x_lor (q := 190) dX10_pour_189 rfl ?_
    refine z_last (q := 191) (j := t) dX10_pour_190 rfl (cl_154 hS1) (by omega) (by decide) (by decide) ?_
    refine Vg.nm (fun h2 eh2 => ?_)
    have hS2 : Sh h2 := by rw [eh2]; exact hS1.sl _ _
    refine x_aload_n (q := 192) dX10_pour_191 rfl rfl rfl ?_
    refine x_get (q := 195) dX10_pour_192 rfl f_X10_78 (cl_132 hS2) rfl (by decide) ?_
    refine x_iload_n (q := 196) dX10_pour_195 rfl rfl rfl ?_
    refine x_aload_n (q := 197) dX10_pour_196 rfl rfl rfl ?_
    refine x_get (q := 200) dX10_pour_197 rfl f_X10_78 (cl_132 hS2) rfl (by decide) ?_
    refine x_iload_n (q := 201) dX10_pour_200 rfl rfl rfl ?_
    refine z_iald (q := 202) (j := t) dX10_pour_201 rfl (cl_155 hS2) (by omega) (by decide) (by decide) ?_
    refine x_iconst (q := 203) (v := 1) dX10_pour_202 rfl (by decide) ?_
    refine x_iload_n (q := 204) dX10_pour_203 rfl rfl rfl ?_
    refine x_ishl (q := 205) dX10_pour_204 rfl ?_
    refine x_ior (q := 206) dX10_pour_205 rfl ?_
    refine z_iast (q := 207) (j := t) dX10_pour_206 rfl (cl_155 hS2) (by omega) (by decide) (by decide) ?_
    refine Vg.nm (fun h3 eh3 => ?_)
    have hS3 : Sh h3 := by rw [eh3]; exact hS2.si _ _
    refine x_aload_n (q := 208) dX10_pour_207 rfl rfl rfl ?_
    refine x_get (q := 211) dX10_pour_208 rfl f_X10_63 (cl_132 hS3) rfl (by decide) ?_
    refine x_iload_n (q := 212) dX10_pour_211 rfl rfl rfl ?_
    refine x_dup2 (q := 213) dX10_pour_212 rfl rfl rfl ?_
    refine z_iald (q := 214) (j := t) dX10_pour_213 rfl (cl_150 hS3) (by omega) (by decide) (by decide) ?_
    refine x_iload_n (q := 215) dX10_pour_214 rfl rfl rfl ?_
    refine x_iadd (q := 216) dX10_pour_215 rfl ?_
    refine z_iast (q := 217) (j := t) dX10_pour_216 rfl (cl_150 hS3) (by omega) (by decide) (by decide) ?_
    refine Vg.nm (fun h4 eh4 => ?_)
    have hS4 : Sh h4 := by rw [eh4]; exact hS3.si _ _
    refine x_aload_n (q := 218) dX10_pour_217 rfl rfl rfl ?_
    refine x_get (q := 221) dX10_pour_218 rfl f_X10_51 (cl_132 hS4) rfl (by decide) ?_
    refine x_iload_n (q := 222) dX10_pour_221 rfl rfl rfl ?_
    refine x_iconst (q := 223) (v := 1) dX10_pour_222 rfl (by decide) ?_
    refine z_zast (q := 224) (j := k) dX10_pour_223 rfl (cl_146 hS4) (by omega) (by decide) (by first | assumption | decide) (by decide) ?_
    refine Vg.nm (fun h5 eh5 => ?_)
    have hS5 : Sh h5 := by rw [eh5]; exact hS4.si _ _
    refine x_aload_n (q := 225) dX10_pour_224 rfl rfl rfl ?_
    refine x_get (q := 228) dX10_pour_225 rfl f_X10_63 (cl_132 hS5) rfl (by decide) ?_
    refine x_iload_n (q := 229) dX10_pour_228 rfl rfl rfl ?_
    refine z_iald (q := 230) (j := t) dX10_pour_229 rfl (cl_150 hS5) (by omega) (by decide) (by decide) ?_
    exact x_iret dX10_pour_230 ⟨_, rfl, by first | rfl | (split <;> rfl)⟩ rfl (Nat.le_refl _) rfl (by
      have e9 : h5 = mp2 h k t u := by subst_vars; simp (disch := decide) only [mp2, gi_si_ne, gi_sl, gl_si, gl_sl_ne]
      exact ⟨by rw [e9], e9⟩)
  | succ m ih =>
    intro i hi
    refine x_iload (q := 104) dX10_pour_102 rfl rfl ?_
    refine x_bipush (q := 106) (v := 8) dX10_pour_104 rfl (by decide) ?_
    refine x_ic_ge (q := 109) (t := 165) dX10_pour_106 rfl (by decide) (fun c_ => absurd c_ (nI_ge (b := 8) (by omega) (by decide))) (fun _ => ?_)
    refine x_aload_n (q := 110) dX10_pour_109 rfl rfl rfl ?_
    refine x_get (q := 113) dX10_pour_110 rfl f_X10_72 (cl_132 (hS.si 153 _)) rfl (by decide) ?_
    refine x_bipush (q := 115) (v := 8) dX10_pour_113 rfl (by decide) ?_
    refine x_iload_n (q := 116) dX10_pour_115 rfl rfl rfl ?_
    refine x_imul (q := 117) dX10_pour_116 rfl ?_
    refine x_iload (q := 119) dX10_pour_117 rfl rfl ?_
    refine x_iadd (q := 120) dX10_pour_119 rfl ?_
    rw [ux8]
    refine x_aload_n (q := 121) dX10_pour_120 rfl rfl rfl ?_
    refine x_get (q := 124) dX10_pour_121 rfl f_X10_63 (cl_132 (hS.si 153 _)) rfl (by decide) ?_
    refine x_iload_n (q := 125) dX10_pour_124 rfl rfl rfl ?_
    refine z_iald (q := 126) (j := t) dX10_pour_125 rfl (cl_150 (hS.si 153 _)) (by omega) (by decide) (by decide) ?_
    rw [gi_si_ne (show (150 : Nat) ≠ 153 by decide)]
    refine x_if_ne (q := 129) (t := 133) dX10_pour_126 rfl (by decide) (fun c_126 => ?_) (fun c_126 => ?_)
    · refine x_aload_n (q := 134) dX10_pour_133 rfl rfl rfl ?_
      refine x_get (q := 137) dX10_pour_134 rfl f_X10_72 (cl_132 (hS.si 153 _)) rfl (by decide) ?_
      refine x_bipush (q := 139) (v := 8) dX10_pour_137 rfl (by decide) ?_
      refine x_iload_n (q := 140) dX10_pour_139 rfl rfl rfl ?_
      refine x_imul (q := 141) dX10_pour_140 rfl ?_
      refine x_iload (q := 143) dX10_pour_141 rfl rfl ?_
      refine x_iadd (q := 144) dX10_pour_143 rfl ?_
      rw [ux8]
      refine z_iald (q := 145) (j := 8 * t + i) dX10_pour_144 rfl (cl_153 (hS.si 153 _)) (by omega) (by decide) (by decide) ?_
      rw [gi_si_eq hS (by decide) (by decide) rfl, rowF_at]
      refine x_aload_n (q := 146) dX10_pour_145 rfl rfl rfl ?_
      refine x_get (q := 149) dX10_pour_146 rfl f_X10_44 (cl_132 (hS.si 153 _)) rfl (by decide) ?_
      refine x_bipush (q := 151) (v := 8) dX10_pour_149 rfl (by decide) ?_
      refine x_iload_n (q := 152) dX10_pour_151 rfl rfl rfl ?_
      refine x_imul (q := 153) dX10_pour_152 rfl ?_
      refine x_iload (q := 155) dX10_pour_153 rfl rfl ?_
      refine x_iadd (q := 156) dX10_pour_155 rfl ?_
      rw [ux8]
      refine z_iald (q := 157) (j := 8 * k + i) dX10_pour_156 rfl (cl_144 (hS.si 153 _)) (by omega) (by decide) (by decide) ?_
      rw [gi_si_ne (show (144 : Nat) ≠ 153 by decide)]
      refine x_iadd (q := 158) dX10_pour_157 rfl ?_
      refine z_iast (q := 159) (j := 8 * t + i) dX10_pour_158 rfl (cl_153 (hS.si 153 _)) (by omega) (by decide) (by decide) ?_
      refine Vg.nm (fun h1 eh1 => ?_)
      have hS1 : Sh h1 := by rw [eh1]; exact (hS.si 153 _).si _ _
      refine x_iinc (q := 162) (v := nI (i + 1)) dX10_pour_159 rfl rfl (nI_inc _) (by decide) ?_
      refine x_goto (q := 102) dX10_pour_162 (by decide) ?_
      have e9 : h1 = (si h 153 (rowF (gi h 153) (8 * t) (fun b => (if gi h 150 t = 0 then 0 else gi h 153 (8 * t + b)) + gi h 144 (8 * k + b)) (i + 1))) := by
        rw [eh1, si_si, gi_si_eq hS (by decide) (by decide) rfl, ← rowF_s]
        simp only [if_neg c_126]
      rw [e9]; exact Vg.weak (ih (i + 1) (by omega)) (by repeat first | exact trivial | refine ⟨rfl, ?_⟩)
    · refine x_iconst (q := 130) (v := 0) dX10_pour_129 rfl (by decide) ?_
      refine x_goto (q := 145) dX10_pour_130 (by decide) ?_
      refine x_aload_n (q := 146) dX10_pour_145 rfl rfl rfl ?_
      refine x_get (q := 149) dX10_pour_146 rfl f_X10_44 (cl_132 (hS.si 153 _)) rfl (by decide) ?_
      refine x_bipush (q := 151) (v := 8) dX10_pour_149 rfl (by decide) ?_
      refine x_iload_n (q := 152) dX10_pour_151 rfl rfl rfl ?_
      refine x_imul (q := 153) dX10_pour_152 rfl ?_
      refine x_iload (q := 155) dX10_pour_153 rfl rfl ?_
      refine x_iadd (q := 156) dX10_pour_155 rfl ?_
      rw [ux8]
      refine z_iald (q := 157) (j := 8 * k + i) dX10_pour_156 rfl (cl_144 (hS.si 153 _)) (by omega) (by decide) (by decide) ?_
      rw [gi_si_ne (show (144 : Nat) ≠ 153 by decide)]
      refine x_iadd (q := 158) dX10_pour_157 rfl ?_
      refine z_iast (q := 159) (j := 8 * t + i) dX10_pour_158 rfl (cl_153 (hS.si 153 _)) (by omega) (by decide) (by decide) ?_
      refine Vg.nm (fun h2 eh2 => ?_)
      have hS2 : Sh h2 := by rw [eh2]; exact (hS.si 153 _).si _ _
      refine x_iinc (q := 162) (v := nI (i + 1)) dX10_pour_159 rfl rfl (nI_inc _) (by decide) ?_
      refine x_goto (q := 102) dX10_pour_162 (by decide) ?_
      have e9 : h2 = (si h 153 (rowF (gi h 153) (8 * t) (fun b => (if gi h 150 t = 0 then 0 else gi h 153 (8 * t + b)) + gi h 144 (8 * k + b)) (i + 1))) := by
        rw [eh2, si_si, gi_si_eq hS (by decide) (by decide) rfl, ← rowF_s]
        simp only [if_pos c_126]
      rw [e9]; exact Vg.weak (ih (i + 1) (by omega)) (by repeat first | exact trivial | refine ⟨rfl, ?_⟩)

def vmP2 (h : HF) (k t : Nat) : Int32 := if gi h 146 k = 0 then if usum (gi h 144) k 8 = 0 then -4 else if mpX h k t = true then if gi h 150 t + usum (gi h 144) k 8 ≤ gi h 149 t then gi (mpR h k t (usum (gi h 144) k 8)) 150 t else -6 else -4 else -4
def umP2 (h : HF) (k t : Nat) : HF := if gi h 146 k = 0 then if usum (gi h 144) k 8 = 0 then h else if mpX h k t = true then if gi h 150 t + usum (gi h 144) k 8 ≤ gi h 149 t then mpR h k t (usum (gi h 144) k 8) else h else h else h
def vmPo (h : HF) (a b : Int32) (nt : Nat) : Int32 := if ltB a (nI nt) = true then if inB b 0 4 = true then vmP2 h a.toNatClampNeg b.toNatClampNeg else -2 else -2
def umPo (h : HF) (a b : Int32) (nt : Nat) : HF := if ltB a (nI nt) = true then if inB b 0 4 = true then umP2 h a.toNatClampNeg b.toNatClampNeg else h else h
set_option maxHeartbeats 4000000 in
set_option maxRecDepth 100000 in
theorem c_X10_pour {h : HF} (hS : Sh h) (a b : Int32) (nt : Nat) (hnt : fI h 132 15 = nI nt) (hnt24 : nt ≤ 24) : Mc mX10_pour [.ref 132, .int a, .int b] 170 h (RI (vmPo h a b nt) (umPo h a b nt)) := by
  refine Mc.of (by decide) rfl (Nat.le_of_ble_eq_true rfl) ?_
  refine x_aload_n (q := 1) dX10_pour_0 rfl rfl rfl ?_
  refine x_iload_n (q := 2) dX10_pour_1 rfl rfl rfl ?_
  refine y_cvI (q := 5) dX10_pour_2 rfl l_X10_165 (c_X10_isBatch hS _ nt hnt hnt24) rfl rfl (cl_132 hS) (by decide) rfl rfl rfl rfl ?_
  refine x_if_eq (q := 8) (t := 15) dX10_pour_5 rfl (by decide) (fun c_5 => ?_) (fun c_5 => ?_)
  · replace c_5 := b2n c_5
    refine x_bipush (q := 17) (v := -2) dX10_pour_15 rfl (by decide) ?_
    exact x_iret dX10_pour_17 ⟨_, rfl, by first | rfl | (split <;> rfl)⟩ rfl (Nat.le_refl _) rfl ⟨by simp [vmPo, c_5], by simp [umPo, c_5]⟩
  · replace c_5 := b2y c_5
    refine x_iload_n (q := 9) dX10_pour_8 rfl rfl rfl ?_
    refine y_csI (q := 12) dX10_pour_9 rfl l_X10_199 (c_X10_isTank hS _) rfl rfl rfl rfl rfl rfl ?_
    refine x_if_ne (q := 15) (t := 18) dX10_pour_12 rfl (by decide) (fun c_12 => ?_) (fun c_12 => ?_)
    · replace c_12 := b2y c_12
      obtain ⟨k, hk, rfl⟩ := ltB_of (by omega) c_5
      obtain ⟨t, ht, rfl⟩ := inB_of (n := 4) (by decide) c_12
      refine x_aload_n (q := 19) dX10_pour_18 rfl rfl rfl ?_
      refine x_iload_n (q := 20) dX10_pour_19 rfl rfl rfl ?_
      refine y_cvI (q := 23) dX10_pour_20 rfl l_X10_168 (c_X10_unitsOf hS k (by omega)) rfl rfl (cl_132 hS) (by decide) rfl rfl rfl rfl ?_
      refine x_istore_n (q := 24) dX10_pour_23 rfl rfl (by decide) ?_
      refine x_aload_n (q := 25) dX10_pour_24 rfl rfl rfl ?_
      refine x_get (q := 28) dX10_pour_25 rfl f_X10_51 (cl_132 hS) rfl (by decide) ?_
      refine x_iload_n (q := 29) dX10_pour_28 rfl rfl rfl ?_
      refine z_zald (q := 30) (j := k) dX10_pour_29 rfl (cl_146 hS) (by omega) (by decide) (by decide) ?_
      refine x_if_ne (q := 33) (t := 46) dX10_pour_30 rfl (by decide) (fun c_30 => ?_) (fun c_30 => ?_)
      · refine x_bipush (q := 48) (v := -4) dX10_pour_46 rfl (by decide) ?_
        exact x_iret dX10_pour_48 ⟨_, rfl, by first | rfl | (split <;> rfl)⟩ rfl (Nat.le_refl _) rfl ⟨by simp [vmPo, vmP2, c_5, c_12, c_30, nI_clamp (show k < 2 ^ 31 by omega), nI_clamp (show t < 2 ^ 31 by omega)], by simp [umPo, umP2, c_5, c_12, c_30, nI_clamp (show k < 2 ^ 31 by omega), nI_clamp (show t < 2 ^ 31 by omega)]⟩
      · refine x_iload_n (q := 34) dX10_pour_33 rfl rfl rfl ?_
        refine x_if_eq (q := 37) (t := 46) dX10_pour_34 rfl (by decide) (fun c_34 => ?_) (fun c_34 => ?_)
        · refine x_bipush (q := 48) (v := -4) dX10_pour_46 rfl (by decide) ?_
          exact x_iret dX10_pour_48 ⟨_, rfl, by first | rfl | (split <;> rfl)⟩ rfl (Nat.le_refl _) rfl ⟨by simp [vmPo, vmP2, c_5, c_12, c_30, c_34, nI_clamp (show k < 2 ^ 31 by omega), nI_clamp (show t < 2 ^ 31 by omega)], by simp [umPo, umP2, c_5, c_12, c_30, c_34, nI_clamp (show k < 2 ^ 31 by omega), nI_clamp (show t < 2 ^ 31 by omega)]⟩
        · refine x_aload_n (q := 38) dX10_pour_37 rfl rfl rfl ?_
          refine x_iload_n (q := 39) dX10_pour_38 rfl rfl rfl ?_
          refine x_iload_n (q := 40) dX10_pour_39 rfl rfl rfl ?_
          refine y_cvI (q := 43) dX10_pour_40 rfl l_X10_203 (c_X10_mayPour hS k t (by omega) (by omega)) rfl rfl (cl_132 hS) (by decide) rfl rfl rfl rfl ?_
          refine x_if_ne (q := 46) (t := 49) dX10_pour_43 rfl (by decide) (fun c_43 => ?_) (fun c_43 => ?_)
          · replace c_43 := b2y c_43
            refine x_aload_n (q := 50) dX10_pour_49 rfl rfl rfl ?_
            refine x_get (q := 53) dX10_pour_50 rfl f_X10_63 (cl_132 hS) rfl (by decide) ?_
            refine x_iload_n (q := 54) dX10_pour_53 rfl rfl rfl ?_
            refine z_iald (q := 55) (j := t) dX10_pour_54 rfl (cl_150 hS) (by omega) (by decide) (by decide) ?_
            refine x_iload_n (q := 56) dX10_pour_55 rfl rfl rfl ?_
            refine x_iadd (q := 57) dX10_pour_56 rfl ?_
            refine x_aload_n (q := 58) dX10_pour_57 rfl rfl rfl ?_
            refine x_get (q := 61) dX10_pour_58 rfl f_X10_60 (cl_132 hS) rfl (by decide) ?_
            refine x_iload_n (q := 62) dX10_pour_61 rfl rfl rfl ?_
            refine z_iald (q := 63) (j := t) dX10_pour_62 rfl (cl_149 hS) (by omega) (by decide) (by decide) ?_
            refine x_ic_le (q := 66) (t := 69) dX10_pour_63 rfl (by decide) (fun c_63 => ?_) (fun c_63 => ?_)
            · refine x_aload_n (q := 70) dX10_pour_69 rfl rfl rfl ?_
              refine x_get (q := 73) dX10_pour_70 rfl f_X10_63 (cl_132 hS) rfl (by decide) ?_
              refine x_iload_n (q := 74) dX10_pour_73 rfl rfl rfl ?_
              refine z_iald (q := 75) (j := t) dX10_pour_74 rfl (cl_150 hS) (by omega) (by decide) (by decide) ?_
              refine x_if_ne (q := 78) (t := 99) dX10_pour_75 rfl (by decide) (fun c_75 => ?_) (fun c_75 => ?_)
              · refine x_iconst (q := 100) (v := 0) dX10_pour_99 rfl (by decide) ?_
                refine x_istore (q := 102) dX10_pour_100 rfl (by decide) ?_
                have e0 : mpR h k t (usum (gi h 144) k 8) = mp2 h k t (usum (gi h 144) k 8) := by
                  rw [mpR, if_neg c_75]
                have e1 : vmPo h (nI k) (nI t) nt = gi (mp2 h k t (usum (gi h 144) k 8)) 150 t := by simp only [vmPo, vmP2, c_5, c_12, nI_clamp (show k < 2 ^ 31 by omega), nI_clamp (show t < 2 ^ 31 by omega), if_true, if_pos c_30, if_neg c_34, c_43, if_pos c_63, e0]
                have e2 : umPo h (nI k) (nI t) nt = mp2 h k t (usum (gi h 144) k 8) := by simp only [umPo, umP2, c_5, c_12, nI_clamp (show k < 2 ^ 31 by omega), nI_clamp (show t < 2 ^ 31 by omega), if_true, if_pos c_30, if_neg c_34, c_43, if_pos c_63, e0]
                rw [e1, e2]
                have t9 := lp_po hS k t (by omega) (by omega) (usum (gi h 144) k 8) 8 0 (by omega)
                rw [rowF_0, si_gi] at t9
                exact Vg.weak t9 (by repeat first | exact trivial | refine ⟨rfl, ?_⟩)
              · refine x_aload_n (q := 79) dX10_pour_78 rfl rfl rfl ?_
                refine x_get (q := 82) dX10_pour_79 rfl f_X10_75 (cl_132 hS) rfl (by decide) ?_
                refine x_iload_n (q := 83) dX10_pour_82 rfl rfl rfl ?_
                refine x_lconst (q := 84) (v := 0) dX10_pour_83 rfl (by decide) ?_
                refine z_last (q := 85) (j := t) dX10_pour_84 rfl (cl_154 hS) (by omega) (by decide) (by decide) ?_
                refine Vg.nm (fun h1 eh1 => ?_)
                have hS1 : Sh h1 := by rw [eh1]; exact hS.sl _ _
                refine x_aload_n (q := 86) dX10_pour_85 rfl rfl rfl ?_
                refine x_get (q := 89) dX10_pour_86 rfl f_X10_78 (cl_132 hS1) rfl (by decide) ?_
                refine x_iload_n (q := 90) dX10_pour_89 rfl rfl rfl ?_
                refine x_iconst (q := 91) (v := 0) dX10_pour_90 rfl (by decide) ?_
                refine z_iast (q := 92) (j := t) dX10_pour_91 rfl (cl_155 hS1) (by omega) (by decide) (by decide) ?_
                refine Vg.nm (fun h2 eh2 => ?_)
                have hS2 : Sh h2 := by rw [eh2]; exact hS1.si _ _
                refine x_aload_n (q := 93) dX10_pour_92 rfl rfl rfl ?_
                refine x_get (q := 96) dX10_pour_93 rfl f_X10_69 (cl_132 hS2) rfl (by decide) ?_
                refine x_iload_n (q := 97) dX10_pour_96 rfl rfl rfl ?_
                refine x_iconst (q := 98) (v := 0) dX10_pour_97 rfl (by decide) ?_
                refine z_zast (q := 99) (j := t) dX10_pour_98 rfl (cl_152 hS2) (by omega) (by decide) (by first | assumption | decide) (by decide) ?_
                refine Vg.nm (fun h3 eh3 => ?_)
                have hS3 : Sh h3 := by rw [eh3]; exact hS2.si _ _
                refine x_iconst (q := 100) (v := 0) dX10_pour_99 rfl (by decide) ?_
                refine x_istore (q := 102) dX10_pour_100 rfl (by decide) ?_
                have e0 : mpR h k t (usum (gi h 144) k 8) = mp2 h3 k t (usum (gi h 144) k 8) := by
                  rw [mpR, if_pos c_75]
                  rw [show h3 = mp0 h t by subst_vars; simp (disch := decide) only [mp0, gi_si_ne, gi_sl, gl_si, gl_sl_ne]]
                have e1 : vmPo h (nI k) (nI t) nt = gi (mp2 h3 k t (usum (gi h 144) k 8)) 150 t := by simp only [vmPo, vmP2, c_5, c_12, nI_clamp (show k < 2 ^ 31 by omega), nI_clamp (show t < 2 ^ 31 by omega), if_true, if_pos c_30, if_neg c_34, c_43, if_pos c_63, e0]
                have e2 : umPo h (nI k) (nI t) nt = mp2 h3 k t (usum (gi h 144) k 8) := by simp only [umPo, umP2, c_5, c_12, nI_clamp (show k < 2 ^ 31 by omega), nI_clamp (show t < 2 ^ 31 by omega), if_true, if_pos c_30, if_neg c_34, c_43, if_pos c_63, e0]
                rw [e1, e2]
                have t9 := lp_po hS3 k t (by omega) (by omega) (usum (gi h 144) k 8) 8 0 (by omega)
                rw [rowF_0, si_gi] at t9
                exact Vg.weak t9 (by repeat first | exact trivial | refine ⟨rfl, ?_⟩)
            · refine x_bipush (q := 68) (v := -6) dX10_pour_66 rfl (by decide) ?_
              exact x_iret dX10_pour_68 ⟨_, rfl, by first | rfl | (split <;> rfl)⟩ rfl (Nat.le_refl _) rfl ⟨by simp [vmPo, vmP2, c_5, c_12, c_30, c_34, c_43, c_63, nI_clamp (show k < 2 ^ 31 by omega), nI_clamp (show t < 2 ^ 31 by omega)], by simp [umPo, umP2, c_5, c_12, c_30, c_34, c_43, c_63, nI_clamp (show k < 2 ^ 31 by omega), nI_clamp (show t < 2 ^ 31 by omega)]⟩
          · replace c_43 := b2n c_43
            refine x_bipush (q := 48) (v := -4) dX10_pour_46 rfl (by decide) ?_
            exact x_iret dX10_pour_48 ⟨_, rfl, by first | rfl | (split <;> rfl)⟩ rfl (Nat.le_refl _) rfl ⟨by simp [vmPo, vmP2, c_5, c_12, c_30, c_34, c_43, nI_clamp (show k < 2 ^ 31 by omega), nI_clamp (show t < 2 ^ 31 by omega)], by simp [umPo, umP2, c_5, c_12, c_30, c_34, c_43, nI_clamp (show k < 2 ^ 31 by omega), nI_clamp (show t < 2 ^ 31 by omega)]⟩
    · replace c_12 := b2n c_12
      refine x_bipush (q := 17) (v := -2) dX10_pour_15 rfl (by decide) ?_
      exact x_iret dX10_pour_17 ⟨_, rfl, by first | rfl | (split <;> rfl)⟩ rfl (Nat.le_refl _) rfl ⟨by simp [vmPo, c_5, c_12], by simp [umPo, c_5, c_12]⟩

def mfA (h : HF) (t nd : Nat) (n : Int32) : HF := sI (si (sl (si (si (si h 157 (upd (gi h 157) nd n)) 158 (upd (gi h 158) nd (nI t))) 159 (upd (gi h 159) nd (fI h 132 0))) 160 (vp_updL (gl h 160) nd (gl h 154 t))) 161 (upd (gi h 161) nd (gi h 155 t))) 132 31 (nI (nd + 1))
def mfB (h : HF) (t : Nat) (n : Int32) : HF := si (si h 150 (upd (gi h 150) t (gi h 150 t - n))) 152 (upd (gi h 152) t 1)
def mfC (h : HF) (t : Nat) : HF := si (si h 151 (upd (gi h 151) t 1)) 156 (rowF (gi h 156) (3 * t) (fun d => ysh (gi h 153) (gi h 169) (gi h 133) (gi h 134) (8 * t) d) 3)
theorem Sh.mfA {h : HF} (hS : Sh h) (t nd : Nat) (n : Int32) : Sh (mfA h t nd n) := (((((hS.si _ _).si _ _).si _ _).sl _ _).si _ _).sI _ _ _
theorem Sh.mfB {h : HF} (hS : Sh h) (t : Nat) (n : Int32) : Sh (mfB h t n) := (hS.si _ _).si _ _
theorem Sh.mfC {h : HF} (hS : Sh h) (t : Nat) : Sh (mfC h t) := (hS.si _ _).si _ _
def mfD (h : HF) (t nd : Nat) (n : Int32) : HF := if gi h 150 t - n = 0 then mfC (mfB (mfA h t nd n) t n) t else mfB (mfA h t nd n) t n
def mFill (h : HF) (t n : Int32) (nd : Nat) : HF := if inB t 0 4 = true then if inB n 1 1000 = true then if n ≤ gi h 150 t.toNatClampNeg then (if nd < 100 then mfD h t.toNatClampNeg nd n else h) else h else h else h
set_option maxHeartbeats 4000000 in
set_option maxRecDepth 100000 in
theorem lp_fi {h : HF} (hS : Sh h) (t : Nat) (ht : t < 5) (nd : Nat) (hnd : fI h 132 31 = nI (nd + 1)) : ∀ (m i : Nat), i + m = 3 → Vg mX10_fill none (QM mX10_fill 170 (RI (nI nd) (si h 156 (rowF (gi h 156) (3 * t) (fun d => ysh (gi h 153) (gi h 169) (gi h 133) (gi h 134) (8 * t) d) 3)))) 157 [some (.ref 132), some (.int (nI t)), none, some (.int (nI i))] [] 170 (si h 156 (rowF (gi h 156) (3 * t) (fun d => ysh (gi h 153) (gi h 169) (gi h 133) (gi h 134) (8 * t) d) i)) 0 0 := by
  intro m
  induction m with
  | zero =>
    intro i hi
    obtain rfl : i = 3 := by omega
    have hd9 : fI (si h 156 (rowF (gi h 156) (3 * t) (fun d => ysh (gi h 153) (gi h 169) (gi h 133) (gi h 134) (8 * t) d) 3)) 132 31 = nI (nd + 1) := by rw [fI_si]; exact hnd
    refine x_iload_n (q := 158) dX10_fill_157 rfl rfl rfl ?_
    refine x_iconst (q := 159) (v := 3) dX10_fill_158 rfl (by decide) ?_
    refine x_ic_ge (q := 162) (t := 195) dX10_fill_159 rfl (by decide) (fun _ => ?_) (fun c_ => absurd (by decide) c_)
    refine x_aload_n (q := 196) dX10_fill_195 rfl rfl rfl ?_
    refine x_get (q := 199) dX10_fill_196 rfl f_X10_209 (cl_132 (hS.si 156 _)) rfl (by decide) ?_
    rw [hd9]
    refine x_iconst (q := 200) (v := 1) dX10_fill_199 rfl (by decide) ?_
    refine x_isub (q := 201) dX10_fill_200 rfl ?_
    rw [nI_pred (nd)]
    exact x_iret dX10_fill_201 ⟨_, rfl, by first | rfl | (split <;> rfl)⟩ rfl (Nat.le_refl _) rfl ⟨rfl, rfl⟩
  | succ m ih =>
    intro i hi
    have hc9 := c_shT (h := (si h 156 (rowF (gi h 156) (3 * t) (fun d => ysh (gi h 153) (gi h 169) (gi h 133) (gi h 134) (8 * t) d) i))) (hS.si 156 _) t i ht (by omega)
    rw [gi_si_ne (show (153 : Nat) ≠ 156 by decide), gi_si_ne (show (169 : Nat) ≠ 156 by decide), gi_si_ne (show (133 : Nat) ≠ 156 by decide), gi_si_ne (show (134 : Nat) ≠ 156 by decide)] at hc9
    refine x_iload_n (q := 158) dX10_fill_157 rfl rfl rfl ?_
    refine x_iconst (q := 159) (v := 3) dX10_fill_158 rfl (by decide) ?_
    refine x_ic_ge (q := 162) (t := 195) dX10_fill_159 rfl (by decide) (fun c_ => absurd c_ (nI_ge (b := 3) (by omega) (by decide))) (fun _ => ?_)
    refine x_aload_n (q := 163) dX10_fill_162 rfl rfl rfl ?_
    refine x_get (q := 166) dX10_fill_163 rfl f_X10_81 (cl_132 (hS.si 156 _)) rfl (by decide) ?_
    refine x_iconst (q := 167) (v := 3) dX10_fill_166 rfl (by decide) ?_
    refine x_iload_n (q := 168) dX10_fill_167 rfl rfl rfl ?_
    refine x_imul (q := 169) dX10_fill_168 rfl ?_
    refine x_iload_n (q := 170) dX10_fill_169 rfl rfl rfl ?_
    refine x_iadd (q := 171) dX10_fill_170 rfl ?_
    rw [ux3]
    refine x_aload_n (q := 172) dX10_fill_171 rfl rfl rfl ?_
    refine x_aload_n (q := 173) dX10_fill_172 rfl rfl rfl ?_
    refine x_get (q := 176) dX10_fill_173 rfl f_X10_72 (cl_132 (hS.si 156 _)) rfl (by decide) ?_
    refine x_bipush (q := 178) (v := 8) dX10_fill_176 rfl (by decide) ?_
    refine x_iload_n (q := 179) dX10_fill_178 rfl rfl rfl ?_
    refine x_imul (q := 180) dX10_fill_179 rfl ?_
    refine x_aload_n (q := 181) dX10_fill_180 rfl rfl rfl ?_
    refine x_get (q := 184) dX10_fill_181 rfl f_X10_124 (cl_132 (hS.si 156 _)) rfl (by decide) ?_
    refine x_iload_n (q := 185) dX10_fill_184 rfl rfl rfl ?_
    refine y_cvI (q := 188) dX10_fill_185 rfl l_X10_180 hc9 rfl rfl (cl_132 (hS.si 156 _)) (by decide) rfl rfl rfl rfl ?_
    refine z_iast (q := 189) (j := 3 * t + i) dX10_fill_188 rfl (cl_156 (hS.si 156 _)) (by omega) (by decide) (by decide) ?_
    refine Vg.nm (fun h1 eh1 => ?_)
    have hS1 : Sh h1 := by rw [eh1]; exact (hS.si 156 _).si _ _
    refine x_iinc (q := 192) (v := nI (i + 1)) dX10_fill_189 rfl rfl (nI_inc _) (by decide) ?_
    refine x_goto (q := 157) dX10_fill_192 (by decide) ?_
    have e9 : h1 = (si h 156 (rowF (gi h 156) (3 * t) (fun d => ysh (gi h 153) (gi h 169) (gi h 133) (gi h 134) (8 * t) d) (i + 1))) := by rw [eh1, si_si, gi_si_eq hS (by decide) (by decide) rfl, ← rowF_s]
    rw [e9]; exact Vg.weak (ih (i + 1) (by omega)) (by repeat first | exact trivial | refine ⟨rfl, ?_⟩)

set_option maxHeartbeats 4000000 in
set_option maxRecDepth 100000 in
theorem c_X10_fill_full {h : HF} (hS : Sh h) (t n : Int32) (hnd : fI h 132 31 = nI 100) : Mc mX10_fill [.ref 132, .int t, .int n] 170 h (RI (vFill (gi h 150) t n 100) (mFill h t n 100)) := by
  refine Mc.of (by decide) rfl (Nat.le_of_ble_eq_true rfl) ?_
  refine x_iload_n (q := 1) dX10_fill_0 rfl rfl rfl ?_
  refine y_csI (q := 4) dX10_fill_1 rfl l_X10_199 (c_X10_isTank hS _) rfl rfl rfl rfl rfl rfl ?_
  refine x_if_ne (q := 7) (t := 10) dX10_fill_4 rfl (by decide) (fun c_4 => ?_) (fun c_4 => ?_)
  · replace c_4 := b2y c_4
    refine x_iload_n (q := 11) dX10_fill_10 rfl rfl rfl ?_
    refine x_iconst (q := 12) (v := 1) dX10_fill_11 rfl (by decide) ?_
    refine x_sipush (q := 15) (v := 1000) dX10_fill_12 rfl (by decide) ?_
    refine y_csI (q := 18) dX10_fill_15 rfl l_X10_133 (c_X10_in hS _ _ _) rfl rfl rfl rfl rfl rfl ?_
    refine x_if_ne (q := 21) (t := 24) dX10_fill_18 rfl (by decide) (fun c_18 => ?_) (fun c_18 => ?_)
    · replace c_18 := b2y c_18
      obtain ⟨t, ht, rfl⟩ := inB_of (n := 4) (by decide) c_4
      refine x_aload_n (q := 25) dX10_fill_24 rfl rfl rfl ?_
      refine x_get (q := 28) dX10_fill_25 rfl f_X10_63 (cl_132 hS) rfl (by decide) ?_
      refine x_iload_n (q := 29) dX10_fill_28 rfl rfl rfl ?_
      refine z_iald (q := 30) (j := t) dX10_fill_29 rfl (cl_150 hS) (by omega) (by decide) (by decide) ?_
      refine x_iload_n (q := 31) dX10_fill_30 rfl rfl rfl ?_
      refine x_ic_ge (q := 34) (t := 37) dX10_fill_31 rfl (by decide) (fun c_31 => ?_) (fun c_31 => ?_)
      · refine x_aload_n (q := 38) dX10_fill_37 rfl rfl rfl ?_
        refine x_get (q := 41) dX10_fill_38 rfl f_X10_209 (cl_132 hS) rfl (by decide) ?_
        rw [hnd]
        refine x_bipush (q := 43) (v := 100) dX10_fill_41 rfl (by decide) ?_
        refine x_ic_ne (q := 46) (t := 49) dX10_fill_43 rfl (by decide) (fun c_ => absurd c_ (fun z => z rfl)) (fun _ => ?_)
        refine x_bipush (q := 48) (v := -6) dX10_fill_46 rfl (by decide) ?_
        exact x_iret dX10_fill_48 ⟨_, rfl, by first | rfl | (split <;> rfl)⟩ rfl (Nat.le_refl _) rfl ⟨by simp [vFill, c_4, c_18, c_31, nI_clamp (show t < 2 ^ 31 by omega)], by simp [mFill, c_4, c_18, c_31, nI_clamp (show t < 2 ^ 31 by omega)]⟩
      · refine x_bipush (q := 36) (v := -4) dX10_fill_34 rfl (by decide) ?_
        exact x_iret dX10_fill_36 ⟨_, rfl, by first | rfl | (split <;> rfl)⟩ rfl (Nat.le_refl _) rfl ⟨by simp [vFill, c_4, c_18, c_31, nI_clamp (show t < 2 ^ 31 by omega)], by simp [mFill, c_4, c_18, c_31, nI_clamp (show t < 2 ^ 31 by omega)]⟩
    · replace c_18 := b2n c_18
      refine x_bipush (q := 23) (v := -3) dX10_fill_21 rfl (by decide) ?_
      exact x_iret dX10_fill_23 ⟨_, rfl, by first | rfl | (split <;> rfl)⟩ rfl (Nat.le_refl _) rfl ⟨by simp [vFill, c_4, c_18], by simp [mFill, c_4, c_18]⟩
  · replace c_4 := b2n c_4
    refine x_bipush (q := 9) (v := -2) dX10_fill_7 rfl (by decide) ?_
    exact x_iret dX10_fill_9 ⟨_, rfl, by first | rfl | (split <;> rfl)⟩ rfl (Nat.le_refl _) rfl ⟨by simp [vFill, c_4], by simp [mFill, c_4]⟩

set_option maxHeartbeats 4000000 in
set_option maxRecDepth 100000 in
theorem c_X10_fill {h : HF} (hS : Sh h) (t n : Int32) (nd : Nat) (hnd : fI h 132 31 = nI nd) (hlt : nd < 100) : Mc mX10_fill [.ref 132, .int t, .int n] 170 h (RI (vFill (gi h 150) t n nd) (mFill h t n nd)) := by
  refine Mc.of (by decide) rfl (Nat.le_of_ble_eq_true rfl) ?_
  refine x_iload_n (q := 1) dX10_fill_0 rfl rfl rfl ?_
  refine y_csI (q := 4) dX10_fill_1 rfl l_X10_199 (c_X10_isTank hS _) rfl rfl rfl rfl rfl rfl ?_
  refine x_if_ne (q := 7) (t := 10) dX10_fill_4 rfl (by decide) (fun c_4 => ?_) (fun c_4 => ?_)
  · replace c_4 := b2y c_4
    refine x_iload_n (q := 11) dX10_fill_10 rfl rfl rfl ?_
    refine x_iconst (q := 12) (v := 1) dX10_fill_11 rfl (by decide) ?_
    refine x_sipush (q := 15) (v := 1000) dX10_fill_12 rfl (by decide) ?_
    refine y_csI (q := 18) dX10_fill_15 rfl l_X10_133 (c_X10_in hS _ _ _) rfl rfl rfl rfl rfl rfl ?_
    refine x_if_ne (q := 21) (t := 24) dX10_fill_18 rfl (by decide) (fun c_18 => ?_) (fun c_18 => ?_)
    · replace c_18 := b2y c_18
      obtain ⟨t, ht, rfl⟩ := inB_of (n := 4) (by decide) c_4
      refine x_aload_n (q := 25) dX10_fill_24 rfl rfl rfl ?_
      refine x_get (q := 28) dX10_fill_25 rfl f_X10_63 (cl_132 hS) rfl (by decide) ?_
      refine x_iload_n (q := 29) dX10_fill_28 rfl rfl rfl ?_
      refine z_iald (q := 30) (j := t) dX10_fill_29 rfl (cl_150 hS) (by omega) (by decide) (by decide) ?_
      refine x_iload_n (q := 31) dX10_fill_30 rfl rfl rfl ?_
      refine x_ic_ge (q := 34) (t := 37) dX10_fill_31 rfl (by decide) (fun c_31 => ?_) (fun c_31 => ?_)
      · refine x_aload_n (q := 38) dX10_fill_37 rfl rfl rfl ?_
        refine x_get (q := 41) dX10_fill_38 rfl f_X10_209 (cl_132 hS) rfl (by decide) ?_
        rw [hnd]
        refine x_bipush (q := 43) (v := 100) dX10_fill_41 rfl (by decide) ?_
        refine x_ic_ne (q := 46) (t := 49) dX10_fill_43 rfl (by decide) (fun _ => ?_) (fun c_ => absurd c_ (show ¬ nI nd = nI 100 from fun q => absurd ((nI_eq (by omega) (by omega)).mp q) (by omega)))
        refine x_aload_n (q := 50) dX10_fill_49 rfl rfl rfl ?_
        refine x_get (q := 53) dX10_fill_50 rfl f_X10_88 (cl_132 hS) rfl (by decide) ?_
        refine x_aload_n (q := 54) dX10_fill_53 rfl rfl rfl ?_
        refine x_get (q := 57) dX10_fill_54 rfl f_X10_209 (cl_132 hS) rfl (by decide) ?_
        rw [hnd]
        refine x_iload_n (q := 58) dX10_fill_57 rfl rfl rfl ?_
        refine z_iast (q := 59) (j := nd) dX10_fill_58 rfl (cl_157 hS) (by omega) (by decide) (by decide) ?_
        refine Vg.nm (fun h1 eh1 => ?_)
        have hS1 : Sh h1 := by rw [eh1]; exact hS.si _ _
        have hc1_132_31 : fI h1 132 31 = nI (nd) := by rw [eh1]; first | (simp only [fI_si, fI_sl, fI_sJ]; exact hnd) | (rw [fI_sI_ne (by omega)]; exact hnd) | (rw [fI_sI_k (by decide)]; exact hnd) | (simp (disch := omega) only [mixAdd, fI_si, fI_sl, fI_sJ, fI_sI_ne, fI_sI_k]; exact hnd)
        refine x_aload_n (q := 60) dX10_fill_59 rfl rfl rfl ?_
        refine x_get (q := 63) dX10_fill_60 rfl f_X10_91 (cl_132 hS1) rfl (by decide) ?_
        refine x_aload_n (q := 64) dX10_fill_63 rfl rfl rfl ?_
        refine x_get (q := 67) dX10_fill_64 rfl f_X10_209 (cl_132 hS1) rfl (by decide) ?_
        rw [hc1_132_31]
        refine x_iload_n (q := 68) dX10_fill_67 rfl rfl rfl ?_
        refine z_iast (q := 69) (j := nd) dX10_fill_68 rfl (cl_158 hS1) (by omega) (by decide) (by decide) ?_
        refine Vg.nm (fun h2 eh2 => ?_)
        have hS2 : Sh h2 := by rw [eh2]; exact hS1.si _ _
        have hc2_132_31 : fI h2 132 31 = nI (nd) := by rw [eh2]; first | (simp only [fI_si, fI_sl, fI_sJ]; exact hc1_132_31) | (rw [fI_sI_ne (by omega)]; exact hc1_132_31) | (rw [fI_sI_k (by decide)]; exact hc1_132_31) | (simp (disch := omega) only [mixAdd, fI_si, fI_sl, fI_sJ, fI_sI_ne, fI_sI_k]; exact hc1_132_31)
        refine x_aload_n (q := 70) dX10_fill_69 rfl rfl rfl ?_
        refine x_get (q := 73) dX10_fill_70 rfl f_X10_94 (cl_132 hS2) rfl (by decide) ?_
        refine x_aload_n (q := 74) dX10_fill_73 rfl rfl rfl ?_
        refine x_get (q := 77) dX10_fill_74 rfl f_X10_209 (cl_132 hS2) rfl (by decide) ?_
        rw [hc2_132_31]
        refine x_aload_n (q := 78) dX10_fill_77 rfl rfl rfl ?_
        refine x_get (q := 81) dX10_fill_78 rfl f_X10_147 (cl_132 hS2) rfl (by decide) ?_
        refine z_iast (q := 82) (j := nd) dX10_fill_81 rfl (cl_159 hS2) (by omega) (by decide) (by decide) ?_
        refine Vg.nm (fun h3 eh3 => ?_)
        have hS3 : Sh h3 := by rw [eh3]; exact hS2.si _ _
        have hc3_132_31 : fI h3 132 31 = nI (nd) := by rw [eh3]; first | (simp only [fI_si, fI_sl, fI_sJ]; exact hc2_132_31) | (rw [fI_sI_ne (by omega)]; exact hc2_132_31) | (rw [fI_sI_k (by decide)]; exact hc2_132_31) | (simp (disch := omega) only [mixAdd, fI_si, fI_sl, fI_sJ, fI_sI_ne, fI_sI_k]; exact hc2_132_31)
        refine x_aload_n (q := 83) dX10_fill_82 rfl rfl rfl ?_
        refine x_get (q := 86) dX10_fill_83 rfl f_X10_97 (cl_132 hS3) rfl (by decide) ?_
        refine x_aload_n (q := 87) dX10_fill_86 rfl rfl rfl ?_
        refine x_get (q := 90) dX10_fill_87 rfl f_X10_209 (cl_132 hS3) rfl (by decide) ?_
        rw [hc3_132_31]
        refine x_aload_n (q := 91) dX10_fill_90 rfl rfl rfl ?_
        refine x_get (q := 94) dX10_fill_91 rfl f_X10_75 (cl_132 hS3) rfl (by decide) ?_
        refine x_iload_n (q := 95) dX10_fill_94 rfl rfl rfl ?_
        refine z_lald (q := 96) (j := t) dX10_fill_95 rfl (cl_154 hS3) (by omega) (by decide) (by decide) ?_
        refine z_last (q := 97) (j := nd) dX10_fill_96 rfl (cl_160 hS3) (by omega) (by decide) (by decide) ?_
        refine Vg.nm (fun h4 eh4 => ?_)
        have hS4 : Sh h4 := by rw [eh4]; exact hS3.sl _ _
        have hc4_132_31 : fI h4 132 31 = nI (nd) := by rw [eh4]; first | (simp only [fI_si, fI_sl, fI_sJ]; exact hc3_132_31) | (rw [fI_sI_ne (by omega)]; exact hc3_132_31) | (rw [fI_sI_k (by decide)]; exact hc3_132_31) | (simp (disch := omega) only [mixAdd, fI_si, fI_sl, fI_sJ, fI_sI_ne, fI_sI_k]; exact hc3_132_31)
        refine x_aload_n (q := 98) dX10_fill_97 rfl rfl rfl ?_
        refine x_get (q := 101) dX10_fill_98 rfl f_X10_100 (cl_132 hS4) rfl (by decide) ?_
        refine x_aload_n (q := 102) dX10_fill_101 rfl rfl rfl ?_
        refine x_get (q := 105) dX10_fill_102 rfl f_X10_209 (cl_132 hS4) rfl (by decide) ?_
        rw [hc4_132_31]
        refine x_aload_n (q := 106) dX10_fill_105 rfl rfl rfl ?_
        refine x_get (q := 109) dX10_fill_106 rfl f_X10_78 (cl_132 hS4) rfl (by decide) ?_
        refine x_iload_n (q := 110) dX10_fill_109 rfl rfl rfl ?_
        refine z_iald (q := 111) (j := t) dX10_fill_110 rfl (cl_155 hS4) (by omega) (by decide) (by decide) ?_
        refine z_iast (q := 112) (j := nd) dX10_fill_111 rfl (cl_161 hS4) (by omega) (by decide) (by decide) ?_
        refine Vg.nm (fun h5 eh5 => ?_)
        have hS5 : Sh h5 := by rw [eh5]; exact hS4.si _ _
        have hc5_132_31 : fI h5 132 31 = nI (nd) := by rw [eh5]; first | (simp only [fI_si, fI_sl, fI_sJ]; exact hc4_132_31) | (rw [fI_sI_ne (by omega)]; exact hc4_132_31) | (rw [fI_sI_k (by decide)]; exact hc4_132_31) | (simp (disch := omega) only [mixAdd, fI_si, fI_sl, fI_sJ, fI_sI_ne, fI_sI_k]; exact hc4_132_31)
        refine x_aload_n (q := 113) dX10_fill_112 rfl rfl rfl ?_
        refine x_dup (q := 114) dX10_fill_113 rfl rfl ?_
        refine x_get (q := 117) dX10_fill_114 rfl f_X10_209 (cl_132 hS5) rfl (by decide) ?_
        rw [hc5_132_31]
        refine x_iconst (q := 118) (v := 1) dX10_fill_117 rfl (by decide) ?_
        refine x_iadd (q := 119) dX10_fill_118 rfl ?_
        rw [nI_1 (nd)]
        refine y_put (q := 122) dX10_fill_119 rfl f_X10_209 (cl_132 hS5) rfl (by first | rfl | decide) (by first | rfl | decide) (by decide) ?_
        refine Vg.nm (fun h6 eh6 => ?_)
        have hS6 : Sh h6 := by rw [eh6]; exact hS5.sI _ _ _
        have hc6_132_31 : fI h6 132 31 = nI (nd + 1) := by rw [eh6]; exact fI_sI_eq hS5 (by decide) (by decide) rfl _
        refine x_aload_n (q := 123) dX10_fill_122 rfl rfl rfl ?_
        refine x_get (q := 126) dX10_fill_123 rfl f_X10_63 (cl_132 hS6) rfl (by decide) ?_
        refine x_iload_n (q := 127) dX10_fill_126 rfl rfl rfl ?_
        refine x_dup2 (q := 128) dX10_fill_127 rfl rfl rfl ?_
        refine z_iald (q := 129) (j := t) dX10_fill_128 rfl (cl_150 hS6) (by omega) (by decide) (by decide) ?_
        refine x_iload_n (q := 130) dX10_fill_129 rfl rfl rfl ?_
        refine x_isub (q := 131) dX10_fill_130 rfl ?_
        refine z_iast (q := 132) (j := t) dX10_fill_131 rfl (cl_150 hS6) (by omega) (by decide) (by decide) ?_
        refine Vg.nm (fun h7 eh7 => ?_)
        have hS7 : Sh h7 := by rw [eh7]; exact hS6.si _ _
        have hc7_132_31 : fI h7 132 31 = nI (nd + 1) := by rw [eh7]; first | (simp only [fI_si, fI_sl, fI_sJ]; exact hc6_132_31) | (rw [fI_sI_ne (by omega)]; exact hc6_132_31) | (rw [fI_sI_k (by decide)]; exact hc6_132_31) | (simp (disch := omega) only [mixAdd, fI_si, fI_sl, fI_sJ, fI_sI_ne, fI_sI_k]; exact hc6_132_31)
        refine x_aload_n (q := 133) dX10_fill_132 rfl rfl rfl ?_
        refine x_get (q := 136) dX10_fill_133 rfl f_X10_69 (cl_132 hS7) rfl (by decide) ?_
        refine x_iload_n (q := 137) dX10_fill_136 rfl rfl rfl ?_
        refine x_iconst (q := 138) (v := 1) dX10_fill_137 rfl (by decide) ?_
        refine z_zast (q := 139) (j := t) dX10_fill_138 rfl (cl_152 hS7) (by omega) (by decide) (by first | assumption | decide) (by decide) ?_
        refine Vg.nm (fun h8 eh8 => ?_)
        have hS8 : Sh h8 := by rw [eh8]; exact hS7.si _ _
        have hc8_132_31 : fI h8 132 31 = nI (nd + 1) := by rw [eh8]; first | (simp only [fI_si, fI_sl, fI_sJ]; exact hc7_132_31) | (rw [fI_sI_ne (by omega)]; exact hc7_132_31) | (rw [fI_sI_k (by decide)]; exact hc7_132_31) | (simp (disch := omega) only [mixAdd, fI_si, fI_sl, fI_sJ, fI_sI_ne, fI_sI_k]; exact hc7_132_31)
        refine x_aload_n (q := 140) dX10_fill_139 rfl rfl rfl ?_
        refine x_get (q := 143) dX10_fill_140 rfl f_X10_63 (cl_132 hS8) rfl (by decide) ?_
        refine x_iload_n (q := 144) dX10_fill_143 rfl rfl rfl ?_
        refine z_iald (q := 145) (j := t) dX10_fill_144 rfl (cl_150 hS8) (by omega) (by decide) (by decide) ?_
        have e8 : gi h8 150 t = gi h 150 t - n := by subst_vars; simp (disch := decide) only [gi_si_ne, gi_sl, gi_sI]; rw [gi_si_eq (by repeat first | exact hS | apply Sh.si | apply Sh.sl | apply Sh.sI) (by decide) (by decide) rfl]; simp only [upd, if_true]
        rw [e8]
        refine x_if_ne (q := 148) (t := 195) dX10_fill_145 rfl (by decide) (fun c_145 => ?_) (fun c_145 => ?_)
        · have z8 := c_145
          refine x_aload_n (q := 196) dX10_fill_195 rfl rfl rfl ?_
          refine x_get (q := 199) dX10_fill_196 rfl f_X10_209 (cl_132 hS8) rfl (by decide) ?_
          rw [hc8_132_31]
          refine x_iconst (q := 200) (v := 1) dX10_fill_199 rfl (by decide) ?_
          refine x_isub (q := 201) dX10_fill_200 rfl ?_
          rw [nI_pred (nd)]
          exact x_iret dX10_fill_201 ⟨_, rfl, by first | rfl | (split <;> rfl)⟩ rfl (Nat.le_refl _) rfl (by
        have e9 : h8 = mfB (mfA h t nd n) t n := by subst_vars; simp (disch := decide) only [mfA, mfB, gi_si_ne, gi_sl, gi_sI, gl_si, gl_sl_ne, gl_sI, fI_si, fI_sl]
        have z9 : ¬ gi h 150 t - n = 0 := z8
        exact ⟨by simp [vFill, c_4, c_18, c_31, c_145, hlt, nI_clamp (show t < 2 ^ 31 by omega)], by rw [e9]; simp only [mFill, c_4, c_18, c_31, c_145, hlt, nI_clamp (show t < 2 ^ 31 by omega), if_true, mfD, if_neg z9, if_false]⟩)
        · have z8 := c_145
          refine x_aload_n (q := 149) dX10_fill_148 rfl rfl rfl ?_
          refine x_get (q := 152) dX10_fill_149 rfl f_X10_66 (cl_132 hS8) rfl (by decide) ?_
          refine x_iload_n (q := 153) dX10_fill_152 rfl rfl rfl ?_
          refine x_iconst (q := 154) (v := 1) dX10_fill_153 rfl (by decide) ?_
          refine z_zast (q := 155) (j := t) dX10_fill_154 rfl (cl_151 hS8) (by omega) (by decide) (by first | assumption | decide) (by decide) ?_
          refine Vg.nm (fun h9 eh9 => ?_)
          have hS9 : Sh h9 := by rw [eh9]; exact hS8.si _ _
          have hc9_132_31 : fI h9 132 31 = nI (nd + 1) := by rw [eh9]; first | (simp only [fI_si, fI_sl, fI_sJ]; exact hc8_132_31) | (rw [fI_sI_ne (by omega)]; exact hc8_132_31) | (rw [fI_sI_k (by decide)]; exact hc8_132_31) | (simp (disch := omega) only [mixAdd, fI_si, fI_sl, fI_sJ, fI_sI_ne, fI_sI_k]; exact hc8_132_31)
          refine x_iconst (q := 156) (v := 0) dX10_fill_155 rfl (by decide) ?_
          refine x_istore_n (q := 157) dX10_fill_156 rfl rfl (by decide) ?_
          have e9 : h9 = si (mfB (mfA h t nd n) t n) 151 (upd (gi (mfB (mfA h t nd n) t n) 151) t 1) := by subst_vars; simp (disch := decide) only [mfA, mfB, gi_si_ne, gi_sl, gi_sI, gl_si, gl_sl_ne, gl_sI, fI_si, fI_sl]
          have e1 : vFill (gi h 150) (nI t) n nd = nI nd := by simp only [vFill, c_4, c_18, if_pos c_31, hlt, nI_clamp (show t < 2 ^ 31 by omega), if_true]
          have e2 : mFill h (nI t) n nd = mfC (mfB (mfA h t nd n) t n) t := by simp only [mFill, c_4, c_18, if_pos c_31, hlt, nI_clamp (show t < 2 ^ 31 by omega), if_true, mfD, if_pos z8]
          have t9 := lp_fi hS9 t (by omega) nd hc9_132_31 3 0 (by omega)
          rw [rowF_0, si_gi] at t9
          have e3 : mfC (mfB (mfA h t nd n) t n) t = si h9 156 (rowF (gi h9 156) (3 * t) (fun d => ysh (gi h9 153) (gi h9 169) (gi h9 133) (gi h9 134) (8 * t) d) 3) := by rw [e9, mfC, gi_si_ne (show (153 : Nat) ≠ 151 by decide), gi_si_ne (show (169 : Nat) ≠ 151 by decide), gi_si_ne (show (133 : Nat) ≠ 151 by decide), gi_si_ne (show (134 : Nat) ≠ 151 by decide), gi_si_ne (show (156 : Nat) ≠ 151 by decide)]
          rw [e1, e2, e3]
          exact Vg.weak t9 (by repeat first | exact trivial | refine ⟨rfl, ?_⟩)
      · refine x_bipush (q := 36) (v := -4) dX10_fill_34 rfl (by decide) ?_
        exact x_iret dX10_fill_36 ⟨_, rfl, by first | rfl | (split <;> rfl)⟩ rfl (Nat.le_refl _) rfl ⟨by simp [vFill, c_4, c_18, c_31, nI_clamp (show t < 2 ^ 31 by omega)], by simp [mFill, c_4, c_18, c_31, nI_clamp (show t < 2 ^ 31 by omega)]⟩
    · replace c_18 := b2n c_18
      refine x_bipush (q := 23) (v := -3) dX10_fill_21 rfl (by decide) ?_
      exact x_iret dX10_fill_23 ⟨_, rfl, by first | rfl | (split <;> rfl)⟩ rfl (Nat.le_refl _) rfl ⟨by simp [vFill, hlt, c_4, c_18], by simp [mFill, hlt, c_4, c_18]⟩
  · replace c_4 := b2n c_4
    refine x_bipush (q := 9) (v := -2) dX10_fill_7 rfl (by decide) ?_
    exact x_iret dX10_fill_9 ⟨_, rfl, by first | rfl | (split <;> rfl)⟩ rfl (Nat.le_refl _) rfl ⟨by simp [vFill, hlt, c_4], by simp [mFill, hlt, c_4]⟩

