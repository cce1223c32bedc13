theorem vx6 (i d : Nat) : 6 * nI i + nI d = nI (i * 6 + d) := by rw [ux6, Nat.mul_comm]
theorem vx8 (i d : Nat) : 8 * nI i + nI d = nI (i * 8 + d) := by rw [ux8, Nat.mul_comm]
def fnN (E P T f : Nat → Int32) (r b : Nat) : Nat → Int32
  | 0 => 0
  | i + 1 => fnN E P T f r b i + (if E (r * 6 + i) = 0 then (if P (r * 6 + i) = nI b then T (r * 6 + i) else 0) else T (r * 6 + i) * f ((P (r * 6 + i)).toNatClampNeg * 8 + b))
def fnR (E P T f : Nat → Int32) (r c : Nat) : Nat → Nat → Int32
  | 0 => f
  | b + 1 => upd (fnR E P T f r c b) (r * 8 + b) (fnN E P T (fnR E P T f r c b) r b c)
def fnS (E P T f : Nat → Int32) (r c : Nat) : Nat → Int32
  | 0 => 0
  | b + 1 => fnS E P T f r c b + fnN E P T (fnR E P T f r c b) r b c
def fnA (E P T C : Nat → Int32) : Nat → Nat → (Nat → Int32) → Bool × (Nat → Int32)
  | 0, _, f => (true, f)
  | k + 1, i, f => if 20000 < fnS E P T f i (C i).toNatClampNeg 8 then (false, fnR E P T f i (C i).toNatClampNeg 8) else fnA E P T C k (i + 1) (fnR E P T f i (C i).toNatClampNeg 8)
theorem fnA_f {E P T C : Nat → Int32} {k i c : Nat} {f : Nat → Int32} (hc : C i = nI c) (hc6 : c ≤ 6) (e : 20000 < fnS E P T f i c 8) : fnA E P T C (k + 1) i f = (false, fnR E P T f i c 8) := by
  simp only [fnA, hc, nI_clamp (show c < 2 ^ 31 by omega), if_pos e]
theorem fnA_t {E P T C : Nat → Int32} {k i c : Nat} {f : Nat → Int32} (hc : C i = nI c) (hc6 : c ≤ 6) (e : ¬ 20000 < fnS E P T f i c 8) : fnA E P T C (k + 1) i f = fnA E P T C k (i + 1) (fnR E P T f i c 8) := by
  simp only [fnA, hc, nI_clamp (show c < 2 ^ 31 by omega), if_neg e]
set_option maxHeartbeats 4000000 in
set_option maxRecDepth 100000 in
theorem lp_fn0 {Q : QF} {h : HF} (hS : Sh h) (r b c : Nat) (all : Int32) (hr : r < 12) (hb : b < 8) (hc6 : c ≤ 6) (hc : gi h 138 r = nI c) (hok : ∀ i, i < c → okp (gi h 139) (gi h 140) r (r * 6 + i)) (K : Vg mX10_findNeeds none Q 117 [some (.ref 132), some (.int (nI r)), some (.int all), some (.int (nI b)), some (.int (fnN (gi h 139) (gi h 140) (gi h 141) (gi h 143) r b c)), none, none] [] 170 h 0 0) : ∀ (k i : Nat), i + k = c → Vg mX10_findNeeds none Q 26 [some (.ref 132), some (.int (nI r)), some (.int all), some (.int (nI b)), some (.int (fnN (gi h 139) (gi h 140) (gi h 141) (gi h 143) r b i)), some (.int (nI i)), none] [] 170 h 0 0 := by
  intro k
  induction k with
  | zero =>
    intro i hi
    obtain rfl : i = c := by omega
    refine x_iload (q := 28) dX10_findNeeds_26 rfl rfl ?_
    refine x_aload_n (q := 29) dX10_findNeeds_28 rfl rfl rfl ?_
    refine x_get (q := 32) dX10_findNeeds_29 rfl f_X10_25 (cl_132 hS) rfl (by decide) ?_
    refine x_iload_n (q := 33) dX10_findNeeds_32 rfl rfl rfl ?_
    refine z_iald (q := 34) (j := r) dX10_findNeeds_33 rfl (cl_138 hS) (by omega) (by decide) (by decide) ?_
    rw [hc]
    refine x_ic_ge (q := 37) (t := 117) dX10_findNeeds_34 rfl (by decide) (fun _ => ?_) (fun c_ => absurd (nI_le (Nat.le_refl _) (by omega)) c_)
    exact Vg.weak K (by repeat first | exact trivial | refine ⟨rfl, ?_⟩)
  | succ k ih =>
    intro i hi
    obtain ⟨s, hs, s0, s1⟩ := hok i (by omega)
    refine x_iload (q := 28) dX10_findNeeds_26 rfl rfl ?_
    refine x_aload_n (q := 29) dX10_findNeeds_28 rfl rfl rfl ?_
    refine x_get (q := 32) dX10_findNeeds_29 rfl f_X10_25 (cl_132 hS) rfl (by decide) ?_
    refine x_iload_n (q := 33) dX10_findNeeds_32 rfl rfl rfl ?_
    refine z_iald (q := 34) (j := r) dX10_findNeeds_33 rfl (cl_138 hS) (by omega) (by decide) (by decide) ?_
    rw [hc]
    refine x_ic_ge (q := 37) (t := 117) dX10_findNeeds_34 rfl (by decide) (fun c_ => absurd c_ (nI_ge (by omega) (by omega))) (fun _ => ?_)
    refine x_bipush (q := 39) (v := 6) dX10_findNeeds_37 rfl (by decide) ?_
    refine x_iload_n (q := 40) dX10_findNeeds_39 rfl rfl rfl ?_
    refine x_imul (q := 41) dX10_findNeeds_40 rfl ?_
    refine x_iload (q := 43) dX10_findNeeds_41 rfl rfl ?_
    refine x_iadd (q := 44) dX10_findNeeds_43 rfl ?_
    rw [vx6]
    refine x_istore (q := 46) dX10_findNeeds_44 rfl (by decide) ?_
    refine x_iload (q := 48) dX10_findNeeds_46 rfl rfl ?_
    refine x_aload_n (q := 49) dX10_findNeeds_48 rfl rfl rfl ?_
    refine x_get (q := 52) dX10_findNeeds_49 rfl f_X10_28 (cl_132 hS) rfl (by decide) ?_
    refine x_iload (q := 54) dX10_findNeeds_52 rfl rfl ?_
    refine z_zald (q := 55) (j := r * 6 + i) dX10_findNeeds_54 rfl (cl_139 hS) (by omega) (by decide) (by decide) ?_
    refine x_if_eq (q := 58) (t := 86) dX10_findNeeds_55 rfl (by decide) (fun c_55 => ?_) (fun c_55 => ?_)
    · refine x_aload_n (q := 87) dX10_findNeeds_86 rfl rfl rfl ?_
      refine x_get (q := 90) dX10_findNeeds_87 rfl f_X10_32 (cl_132 hS) rfl (by decide) ?_
      refine x_iload (q := 92) dX10_findNeeds_90 rfl rfl ?_
      refine z_iald (q := 93) (j := r * 6 + i) dX10_findNeeds_92 rfl (cl_140 hS) (by omega) (by decide) (by decide) ?_
      refine x_iload_n (q := 94) dX10_findNeeds_93 rfl rfl rfl ?_
      refine x_ic_ne (q := 97) (t := 107) dX10_findNeeds_94 rfl (by decide) (fun c_94 => ?_) (fun c_94 => ?_)
      · refine x_iconst (q := 108) (v := 0) dX10_findNeeds_107 rfl (by decide) ?_
        refine x_iadd (q := 109) dX10_findNeeds_108 rfl ?_
        refine x_istore (q := 111) dX10_findNeeds_109 rfl (by decide) ?_
        refine x_iinc (q := 114) (v := nI (i + 1)) dX10_findNeeds_111 rfl rfl (nI_inc _) (by decide) ?_
        refine x_goto (q := 26) dX10_findNeeds_114 (by decide) ?_
        have t9 := ih (i + 1) (by omega)
        rw [fnN, if_pos c_55, if_neg c_94] at t9; exact Vg.weak t9 (by repeat first | exact trivial | refine ⟨rfl, ?_⟩)
      · refine x_aload_n (q := 98) dX10_findNeeds_97 rfl rfl rfl ?_
        refine x_get (q := 101) dX10_findNeeds_98 rfl f_X10_35 (cl_132 hS) rfl (by decide) ?_
        refine x_iload (q := 103) dX10_findNeeds_101 rfl rfl ?_
        refine z_iald (q := 104) (j := r * 6 + i) dX10_findNeeds_103 rfl (cl_141 hS) (by omega) (by decide) (by decide) ?_
        refine x_goto (q := 108) dX10_findNeeds_104 (by decide) ?_
        refine x_iadd (q := 109) dX10_findNeeds_108 rfl ?_
        refine x_istore (q := 111) dX10_findNeeds_109 rfl (by decide) ?_
        refine x_iinc (q := 114) (v := nI (i + 1)) dX10_findNeeds_111 rfl rfl (nI_inc _) (by decide) ?_
        refine x_goto (q := 26) dX10_findNeeds_114 (by decide) ?_
        have t9 := ih (i + 1) (by omega)
        rw [fnN, if_pos c_55, if_pos c_94] at t9; exact Vg.weak t9 (by repeat first | exact trivial | refine ⟨rfl, ?_⟩)
    · have hs1 := s1 c_55
      
      refine x_aload_n (q := 59) dX10_findNeeds_58 rfl rfl rfl ?_
      refine x_get (q := 62) dX10_findNeeds_59 rfl f_X10_35 (cl_132 hS) rfl (by decide) ?_
      refine x_iload (q := 64) dX10_findNeeds_62 rfl rfl ?_
      refine z_iald (q := 65) (j := r * 6 + i) dX10_findNeeds_64 rfl (cl_141 hS) (by omega) (by decide) (by decide) ?_
      refine x_aload_n (q := 66) dX10_findNeeds_65 rfl rfl rfl ?_
      refine x_get (q := 69) dX10_findNeeds_66 rfl f_X10_41 (cl_132 hS) rfl (by decide) ?_
      refine x_bipush (q := 71) (v := 8) dX10_findNeeds_69 rfl (by decide) ?_
      refine x_aload_n (q := 72) dX10_findNeeds_71 rfl rfl rfl ?_
      refine x_get (q := 75) dX10_findNeeds_72 rfl f_X10_32 (cl_132 hS) rfl (by decide) ?_
      refine x_iload (q := 77) dX10_findNeeds_75 rfl rfl ?_
      refine z_iald (q := 78) (j := r * 6 + i) dX10_findNeeds_77 rfl (cl_140 hS) (by omega) (by decide) (by decide) ?_
      rw [hs]
      refine x_imul (q := 79) dX10_findNeeds_78 rfl ?_
      refine x_iload_n (q := 80) dX10_findNeeds_79 rfl rfl rfl ?_
      refine x_iadd (q := 81) dX10_findNeeds_80 rfl ?_
      rw [vx8]
      refine z_iald (q := 82) (j := s * 8 + b) dX10_findNeeds_81 rfl (cl_143 hS) (by omega) (by decide) (by decide) ?_
      refine x_imul (q := 83) dX10_findNeeds_82 rfl ?_
      refine x_goto (q := 108) dX10_findNeeds_83 (by decide) ?_
      refine x_iadd (q := 109) dX10_findNeeds_108 rfl ?_
      refine x_istore (q := 111) dX10_findNeeds_109 rfl (by decide) ?_
      refine x_iinc (q := 114) (v := nI (i + 1)) dX10_findNeeds_111 rfl rfl (nI_inc _) (by decide) ?_
      refine x_goto (q := 26) dX10_findNeeds_114 (by decide) ?_
      have t9 := ih (i + 1) (by omega)
      rw [fnN, if_neg c_55, hs, nI_clamp (show s < 2 ^ 31 by omega)] at t9; exact Vg.weak t9 (by repeat first | exact trivial | refine ⟨rfl, ?_⟩)

set_option maxHeartbeats 4000000 in
set_option maxRecDepth 100000 in
theorem lp_fn1 {Q : QF} {h : HF} (hS : Sh h) (r c : Nat) (f : Nat → Int32) (hr : r < 12) (hc6 : c ≤ 6) (hc : gi h 138 r = nI c) (hok : ∀ i, i < c → okp (gi h 139) (gi h 140) r (r * 6 + i)) (K : Vg mX10_findNeeds none Q 141 [some (.ref 132), some (.int (nI r)), some (.int (fnS (gi h 139) (gi h 140) (gi h 141) f r c 8)), none, none, none, none] [] 170 (si h 143 (fnR (gi h 139) (gi h 140) (gi h 141) f r c 8)) 0 0) : ∀ (k b : Nat), b + k = 8 → Vg mX10_findNeeds none Q 14 [some (.ref 132), some (.int (nI r)), some (.int (fnS (gi h 139) (gi h 140) (gi h 141) f r c b)), some (.int (nI b)), none, none, none] [] 170 (si h 143 (fnR (gi h 139) (gi h 140) (gi h 141) f r c b)) 0 0 := by
  intro k
  induction k with
  | zero =>
    intro b hi
    obtain rfl : b = 8 := by omega
    refine x_iload_n (q := 15) dX10_findNeeds_14 rfl rfl rfl ?_
    refine x_bipush (q := 17) (v := 8) dX10_findNeeds_15 rfl (by decide) ?_
    refine x_ic_ge (q := 20) (t := 141) dX10_findNeeds_17 rfl (by decide) (fun _ => ?_) (fun c_ => absurd (by decide) c_)
    exact Vg.weak K (by repeat first | exact trivial | refine ⟨rfl, ?_⟩)
  | succ k ih =>
    intro b hi
    refine x_iload_n (q := 15) dX10_findNeeds_14 rfl rfl rfl ?_
    refine x_bipush (q := 17) (v := 8) dX10_findNeeds_15 rfl (by decide) ?_
    refine x_ic_ge (q := 20) (t := 141) dX10_findNeeds_17 rfl (by decide) (fun c_ => absurd c_ (nI_ge (b := 8) (by omega) (by decide))) (fun _ => ?_)
    refine x_iconst (q := 21) (v := 0) dX10_findNeeds_20 rfl (by decide) ?_
    refine x_istore (q := 23) dX10_findNeeds_21 rfl (by decide) ?_
    refine x_iconst (q := 24) (v := 0) dX10_findNeeds_23 rfl (by decide) ?_
    refine x_istore (q := 26) dX10_findNeeds_24 rfl (by decide) ?_
    refine Vg.weak (lp_fn0 (hS.si 143 _) r b c _ hr (by omega) hc6 (by rw [gi_si_ne (show (138 : Nat) ≠ 143 by decide)]; exact hc) (by rw [gi_si_ne (show (139 : Nat) ≠ 143 by decide), gi_si_ne (show (140 : Nat) ≠ 143 by decide)]; exact hok) ?_ c 0 (by omega)) (by repeat first | exact trivial | refine ⟨rfl, ?_⟩)
    rw [gi_si_ne (show (139 : Nat) ≠ 143 by decide), gi_si_ne (show (140 : Nat) ≠ 143 by decide), gi_si_ne (show (141 : Nat) ≠ 143 by decide), gi_si_eq hS (by decide) (by decide) rfl]
    refine x_aload_n (q := 118) dX10_findNeeds_117 rfl rfl rfl ?_
    refine x_get (q := 121) dX10_findNeeds_118 rfl f_X10_41 (cl_132 (hS.si 143 _)) rfl (by decide) ?_
    refine x_bipush (q := 123) (v := 8) dX10_findNeeds_121 rfl (by decide) ?_
    refine x_iload_n (q := 124) dX10_findNeeds_123 rfl rfl rfl ?_
    refine x_imul (q := 125) dX10_findNeeds_124 rfl ?_
    refine x_iload_n (q := 126) dX10_findNeeds_125 rfl rfl rfl ?_
    refine x_iadd (q := 127) dX10_findNeeds_126 rfl ?_
    rw [vx8]
    refine x_iload (q := 129) dX10_findNeeds_127 rfl rfl ?_
    refine z_iast (q := 130) (j := r * 8 + b) dX10_findNeeds_129 rfl (cl_143 (hS.si 143 _)) (by omega) (by decide) (by decide) ?_
    refine Vg.nm (fun h1 eh1 => ?_)
    have hS1 : Sh h1 := by rw [eh1]; exact (hS.si 143 _).si _ _
    refine x_iload_n (q := 131) dX10_findNeeds_130 rfl rfl rfl ?_
    refine x_iload (q := 133) dX10_findNeeds_131 rfl rfl ?_
    refine x_iadd (q := 134) dX10_findNeeds_133 rfl ?_
    refine x_istore_n (q := 135) dX10_findNeeds_134 rfl rfl (by decide) ?_
    refine x_iinc (q := 138) (v := nI (b + 1)) dX10_findNeeds_135 rfl rfl (nI_inc _) (by decide) ?_
    refine x_goto (q := 14) dX10_findNeeds_138 (by decide) ?_
    have e9 : h1 = (si h 143 (fnR (gi h 139) (gi h 140) (gi h 141) f r c (b + 1))) := by rw [eh1, si_si, gi_si_eq hS (by decide) (by decide) rfl]; rfl
    rw [e9]; exact Vg.weak (ih (b + 1) (by omega)) (by repeat first | exact trivial | refine ⟨rfl, ?_⟩)

set_option maxHeartbeats 4000000 in
set_option maxRecDepth 100000 in
theorem lp_fn2 {h : HF} (hS : Sh h) (z : Nat) (hz : fI h 132 8 = nI z) (hz12 : z ≤ 12) (hok : okA (gi h 139) (gi h 140) (gi h 138) z) : ∀ (k i : Nat) (f : Nat → Int32), i + k = z → Vg mX10_findNeeds none (QM mX10_findNeeds 170 (RI (b2 (fnA (gi h 139) (gi h 140) (gi h 141) (gi h 138) k i f).1) (si h 143 (fnA (gi h 139) (gi h 140) (gi h 141) (gi h 138) k i f).2))) 2 [some (.ref 132), some (.int (nI i)), none, none, none, none, none] [] 170 (si h 143 f) 0 0 := by
  intro k
  induction k with
  | zero =>
    intro i f hi
    obtain rfl : i = z := by omega
    refine x_iload_n (q := 3) dX10_findNeeds_2 rfl rfl rfl ?_
    refine x_aload_n (q := 4) dX10_findNeeds_3 rfl rfl rfl ?_
    refine x_get (q := 7) dX10_findNeeds_4 rfl f_X10_158 (cl_132 (hS.si 143 f)) rfl (by decide) ?_
    rw [fI_si, hz]
    refine x_ic_ge (q := 10) (t := 156) dX10_findNeeds_7 rfl (by decide) (fun _ => ?_) (fun c_ => absurd (nI_le (Nat.le_refl _) (by omega)) c_)
    refine x_iconst (q := 157) (v := 1) dX10_findNeeds_156 rfl (by decide) ?_
    exact x_iret dX10_findNeeds_157 ⟨_, rfl, by first | rfl | (split <;> rfl)⟩ rfl (Nat.le_refl _) rfl ⟨rfl, rfl⟩
  | succ k ih =>
    intro i f hi
    obtain ⟨c, hc6, hc, hoc⟩ := hok i (by omega)
    refine x_iload_n (q := 3) dX10_findNeeds_2 rfl rfl rfl ?_
    refine x_aload_n (q := 4) dX10_findNeeds_3 rfl rfl rfl ?_
    refine x_get (q := 7) dX10_findNeeds_4 rfl f_X10_158 (cl_132 (hS.si 143 f)) rfl (by decide) ?_
    rw [fI_si, hz]
    refine x_ic_ge (q := 10) (t := 156) dX10_findNeeds_7 rfl (by decide) (fun c_ => absurd c_ (nI_ge (by omega) (by omega))) (fun _ => ?_)
    refine x_iconst (q := 11) (v := 0) dX10_findNeeds_10 rfl (by decide) ?_
    refine x_istore_n (q := 12) dX10_findNeeds_11 rfl rfl (by decide) ?_
    refine x_iconst (q := 13) (v := 0) dX10_findNeeds_12 rfl (by decide) ?_
    refine x_istore_n (q := 14) dX10_findNeeds_13 rfl rfl (by decide) ?_
    refine Vg.weak (lp_fn1 hS i c f (by omega) hc6 hc hoc ?_ 8 0 (by omega)) (by repeat first | exact trivial | refine ⟨rfl, ?_⟩)
    refine x_iload_n (q := 142) dX10_findNeeds_141 rfl rfl rfl ?_
    refine x_sipush (q := 145) (v := 20000) dX10_findNeeds_142 rfl (by decide) ?_
    refine x_ic_le (q := 148) (t := 150) dX10_findNeeds_145 rfl (by decide) (fun c_145 => ?_) (fun c_145 => ?_)
    · refine x_iinc (q := 153) (v := nI (i + 1)) dX10_findNeeds_150 rfl rfl (nI_inc _) (by decide) ?_
      refine x_goto (q := 2) dX10_findNeeds_153 (by decide) ?_
      rw [fnA_t hc hc6 (Int32.not_lt.mpr c_145)]
      exact Vg.weak (ih (i + 1) _ (by omega)) (by repeat first | exact trivial | refine ⟨rfl, ?_⟩)
    · refine x_iconst (q := 149) (v := 0) dX10_findNeeds_148 rfl (by decide) ?_
      exact x_iret dX10_findNeeds_149 ⟨_, rfl, by first | rfl | (split <;> rfl)⟩ rfl (Nat.le_refl _) rfl ⟨by rw [fnA_f hc hc6 (Int32.not_le.mp c_145)]; rfl, by rw [fnA_f hc hc6 (Int32.not_le.mp c_145)]⟩

set_option maxHeartbeats 4000000 in
set_option maxRecDepth 100000 in
theorem c_X10_findNeeds {h : HF} (hS : Sh h) (z : Nat) (hz : fI h 132 8 = nI z) (hz12 : z ≤ 12) (hok : okA (gi h 139) (gi h 140) (gi h 138) z) : Mc mX10_findNeeds [.ref 132] 170 h (RI (b2 (fnA (gi h 139) (gi h 140) (gi h 141) (gi h 138) z 0 (gi h 143)).1) (si h 143 (fnA (gi h 139) (gi h 140) (gi h 141) (gi h 138) z 0 (gi h 143)).2)) := by
  refine Mc.of (by decide) rfl (Nat.le_of_ble_eq_true rfl) ?_
  refine x_iconst (q := 1) (v := 0) dX10_findNeeds_0 rfl (by decide) ?_
  refine x_istore_n (q := 2) dX10_findNeeds_1 rfl rfl (by decide) ?_
  have t9 := lp_fn2 hS z hz hz12 hok z 0 (gi h 143) (by omega)
  rw [si_gi] at t9; exact Vg.weak t9 (by repeat first | exact trivial | refine ⟨rfl, ?_⟩)

def mpH (h : HF) (r c : Nat) (e v n : Int32) : HF := si (si (si (si h 139 (upd (gi h 139) (r * 6 + c) e)) 140 (upd (gi h 140) (r * 6 + c) v)) 141 (upd (gi h 141) (r * 6 + c) n)) 138 (upd (gi h 138) r (nI (c + 1)))
theorem Sh.mpH {h : HF} (hS : Sh h) (r c : Nat) (e v n : Int32) : Sh (mpH h r c e v n) := (((hS.si _ _).si _ _).si _ _).si _ _
def vmP (h : HF) (r c : Nat) (e v n : Int32) (z : Nat) : Int32 := if c < 6 then if (fnA (upd (gi h 139) (r * 6 + c) e) (upd (gi h 140) (r * 6 + c) v) (upd (gi h 141) (r * 6 + c) n) (upd (gi h 138) r (nI (c + 1))) z 0 (gi h 143)).1 = true then nI (c + 1) else -6 else -6
def umP (h : HF) (r c : Nat) (e v n : Int32) (z : Nat) : HF := if c < 6 then if (fnA (upd (gi h 139) (r * 6 + c) e) (upd (gi h 140) (r * 6 + c) v) (upd (gi h 141) (r * 6 + c) n) (upd (gi h 138) r (nI (c + 1))) z 0 (gi h 143)).1 = true then si (si (mpH h r c e v n) 143 (fnA (upd (gi h 139) (r * 6 + c) e) (upd (gi h 140) (r * 6 + c) v) (upd (gi h 141) (r * 6 + c) n) (upd (gi h 138) r (nI (c + 1))) z 0 (gi h 143)).2) 142 (capF (gi h 142) (fnA (upd (gi h 139) (r * 6 + c) e) (upd (gi h 140) (r * 6 + c) v) (upd (gi h 141) (r * 6 + c) n) (upd (gi h 138) r (nI (c + 1))) z 0 (gi h 143)).2 96) else si (si (mpH h r c e v n) 143 (fnA (upd (gi h 139) (r * 6 + c) e) (upd (gi h 140) (r * 6 + c) v) (upd (gi h 141) (r * 6 + c) n) (upd (gi h 138) r (nI (c + 1))) z 0 (gi h 143)).2) 138 (upd (upd (gi h 138) r (nI (c + 1))) r (nI c)) else h
set_option maxHeartbeats 4000000 in
set_option maxRecDepth 100000 in
theorem lp_pc {h : HF} (hS : Sh h) (r : Nat) (v : Int32) (hr : r < 12) (hv : gi h 138 r = v) : ∀ (k i : Nat), i + k = 96 → Vg mX10_part none (QM mX10_part 170 (RI v (si h 142 (capF (gi h 142) (gi h 143) 96)))) 154 [some (.ref 132), some (.int (nI r)), none, none, none, none, some (.int (nI i))] [] 170 (si h 142 (capF (gi h 142) (gi h 143) i)) 0 0 := by
  intro k
  induction k with
  | zero =>
    intro i hi
    obtain rfl : i = 96 := by omega
    refine x_iload (q := 156) dX10_part_154 rfl rfl ?_
    refine x_bipush (q := 158) (v := 96) dX10_part_156 rfl (by decide) ?_
    refine x_ic_ge (q := 161) (t := 181) dX10_part_158 rfl (by decide) (fun _ => ?_) (fun c_ => absurd (by decide) c_)
    refine x_aload_n (q := 182) dX10_part_181 rfl rfl rfl ?_
    refine x_get (q := 185) dX10_part_182 rfl f_X10_25 (cl_132 (hS.si 142 _)) rfl (by decide) ?_
    refine x_iload_n (q := 186) dX10_part_185 rfl rfl rfl ?_
    refine z_iald (q := 187) (j := r) dX10_part_186 rfl (cl_138 (hS.si 142 _)) (by omega) (by decide) (by decide) ?_
    rw [gi_si_ne (show (138 : Nat) ≠ 142 by decide), hv]
    exact x_iret dX10_part_187 ⟨_, rfl, by first | rfl | (split <;> rfl)⟩ rfl (Nat.le_refl _) rfl ⟨rfl, rfl⟩
  | succ k ih =>
    intro i hi
    refine x_iload (q := 156) dX10_part_154 rfl rfl ?_
    refine x_bipush (q := 158) (v := 96) dX10_part_156 rfl (by decide) ?_
    refine x_ic_ge (q := 161) (t := 181) dX10_part_158 rfl (by decide) (fun c_ => absurd c_ (nI_ge (b := 96) (by omega) (by decide))) (fun _ => ?_)
    refine x_aload_n (q := 162) dX10_part_161 rfl rfl rfl ?_
    refine x_get (q := 165) dX10_part_162 rfl f_X10_38 (cl_132 (hS.si 142 _)) rfl (by decide) ?_
    refine x_iload (q := 167) dX10_part_165 rfl rfl ?_
    refine x_aload_n (q := 168) dX10_part_167 rfl rfl rfl ?_
    refine x_get (q := 171) dX10_part_168 rfl f_X10_41 (cl_132 (hS.si 142 _)) rfl (by decide) ?_
    refine x_iload (q := 173) dX10_part_171 rfl rfl ?_
    refine z_iald (q := 174) (j := i) dX10_part_173 rfl (cl_143 (hS.si 142 _)) (by omega) (by decide) (by decide) ?_
    refine z_iast (q := 175) (j := i) dX10_part_174 rfl (cl_142 (hS.si 142 _)) (by omega) (by decide) (by decide) ?_
    refine Vg.nm (fun h1 eh1 => ?_)
    have hS1 : Sh h1 := by rw [eh1]; exact (hS.si 142 _).si _ _
    refine x_iinc (q := 178) (v := nI (i + 1)) dX10_part_175 rfl rfl (nI_inc _) (by decide) ?_
    refine x_goto (q := 154) dX10_part_178 (by decide) ?_
    have e9 : h1 = (si h 142 (capF (gi h 142) (gi h 143) (i + 1))) := by rw [eh1, si_si, gi_si_eq hS (by decide) (by decide) rfl, gi_si_ne (show (143 : Nat) ≠ 142 by decide), capF_s]
    rw [e9]; exact Vg.weak (ih (i + 1) (by omega)) (by repeat first | exact trivial | refine ⟨rfl, ?_⟩)

set_option maxHeartbeats 4000000 in
set_option maxRecDepth 100000 in
theorem lp_pt {h : HF} (hS : Sh h) (r c : Nat) (e v n : Int32) (hr : r < 12) (hc : c < 6) (hpc : gi h 138 r = nI c) (he : vp_nar .boolean e = e) (z : Nat) (hz : fI h 132 8 = nI z) (hz12 : z ≤ 12) (hok : okA (upd (gi h 139) (r * 6 + c) e) (upd (gi h 140) (r * 6 + c) v) (upd (gi h 138) r (nI (c + 1))) z) : Vg mX10_part none (QM mX10_part 170 (RI (vmP h r c e v n z) (umP h r c e v n z))) 69 [some (.ref 132), some (.int (nI r)), some (.int e), some (.int v), some (.int n), none, none] [] 170 h 0 0 := by
  refine x_aload_n (q := 70) dX10_part_69 rfl rfl rfl ?_
  refine x_get (q := 73) dX10_part_70 rfl f_X10_25 (cl_132 hS) rfl (by decide) ?_
  refine x_iload_n (q := 74) dX10_part_73 rfl rfl rfl ?_
  refine z_iald (q := 75) (j := r) dX10_part_74 rfl (cl_138 hS) (by omega) (by decide) (by decide) ?_
  rw [hpc]
  refine x_bipush (q := 77) (v := 6) dX10_part_75 rfl (by decide) ?_
  refine x_ic_ne (q := 80) (t := 83) dX10_part_77 rfl (by decide) (fun _ => ?_) (fun c_ => absurd c_ (show ¬ nI c = nI 6 from fun q => absurd ((nI_eq (by omega) (by omega)).mp q) (by omega)))
  refine x_bipush (q := 85) (v := 6) dX10_part_83 rfl (by decide) ?_
  refine x_iload_n (q := 86) dX10_part_85 rfl rfl rfl ?_
  refine x_imul (q := 87) dX10_part_86 rfl ?_
  refine x_aload_n (q := 88) dX10_part_87 rfl rfl rfl ?_
  refine x_get (q := 91) dX10_part_88 rfl f_X10_25 (cl_132 hS) rfl (by decide) ?_
  refine x_iload_n (q := 92) dX10_part_91 rfl rfl rfl ?_
  skip
  refine z_iald (q := 93) (j := r) dX10_part_92 rfl (cl_138 hS) (by omega) (by decide) (by decide) ?_
  refine x_iadd (q := 94) dX10_part_93 rfl ?_
  rw [hpc, vx6]
  refine x_istore (q := 96) dX10_part_94 rfl (by decide) ?_
  refine x_aload_n (q := 97) dX10_part_96 rfl rfl rfl ?_
  refine x_get (q := 100) dX10_part_97 rfl f_X10_28 (cl_132 hS) rfl (by decide) ?_
  refine x_iload (q := 102) dX10_part_100 rfl rfl ?_
  refine x_iload_n (q := 103) dX10_part_102 rfl rfl rfl ?_
  refine z_zast (q := 104) (j := r * 6 + c) dX10_part_103 rfl (cl_139 hS) (by omega) (by decide) (by first | assumption | decide) (by decide) ?_
  refine Vg.nm (fun h1 eh1 => ?_)
  have hS1 : Sh h1 := by rw [eh1]; exact hS.si _ _
  have hc1_132_8 : fI h1 132 8 = nI (z) := by rw [eh1]; first | (simp only [fI_si, fI_sl, fI_sJ]; exact hz) | (rw [fI_sI_ne (by omega)]; exact hz) | (rw [fI_sI_k (by decide)]; exact hz) | (simp (disch := omega) only [mixAdd, fI_si, fI_sl, fI_sJ, fI_sI_ne, fI_sI_k]; exact hz)
  refine x_aload_n (q := 105) dX10_part_104 rfl rfl rfl ?_
  refine x_get (q := 108) dX10_part_105 rfl f_X10_32 (cl_132 hS1) rfl (by decide) ?_
  refine x_iload (q := 110) dX10_part_108 rfl rfl ?_
  refine x_iload_n (q := 111) dX10_part_110 rfl rfl rfl ?_
  refine z_iast (q := 112) (j := r * 6 + c) dX10_part_111 rfl (cl_140 hS1) (by omega) (by decide) (by decide) ?_
  refine Vg.nm (fun h2 eh2 => ?_)
  have hS2 : Sh h2 := by rw [eh2]; exact hS1.si _ _
  have hc2_132_8 : fI h2 132 8 = nI (z) := by rw [eh2]; first | (simp only [fI_si, fI_sl, fI_sJ]; exact hc1_132_8) | (rw [fI_sI_ne (by omega)]; exact hc1_132_8) | (rw [fI_sI_k (by decide)]; exact hc1_132_8) | (simp (disch := omega) only [mixAdd, fI_si, fI_sl, fI_sJ, fI_sI_ne, fI_sI_k]; exact hc1_132_8)
  refine x_aload_n (q := 113) dX10_part_112 rfl rfl rfl ?_
  refine x_get (q := 116) dX10_part_113 rfl f_X10_35 (cl_132 hS2) rfl (by decide) ?_
  refine x_iload (q := 118) dX10_part_116 rfl rfl ?_
  refine x_iload (q := 120) dX10_part_118 rfl rfl ?_
  refine z_iast (q := 121) (j := r * 6 + c) dX10_part_120 rfl (cl_141 hS2) (by omega) (by decide) (by decide) ?_
  refine Vg.nm (fun h3 eh3 => ?_)
  have hS3 : Sh h3 := by rw [eh3]; exact hS2.si _ _
  have hc3_132_8 : fI h3 132 8 = nI (z) := by rw [eh3]; first | (simp only [fI_si, fI_sl, fI_sJ]; exact hc2_132_8) | (rw [fI_sI_ne (by omega)]; exact hc2_132_8) | (rw [fI_sI_k (by decide)]; exact hc2_132_8) | (simp (disch := omega) only [mixAdd, fI_si, fI_sl, fI_sJ, fI_sI_ne, fI_sI_k]; exact hc2_132_8)
  refine x_aload_n (q := 122) dX10_part_121 rfl rfl rfl ?_
  refine x_get (q := 125) dX10_part_122 rfl f_X10_25 (cl_132 hS3) rfl (by decide) ?_
  refine x_iload_n (q := 126) dX10_part_125 rfl rfl rfl ?_
  refine x_dup2 (q := 127) dX10_part_126 rfl rfl rfl ?_
  skip
  refine z_iald (q := 128) (j := r) dX10_part_127 rfl (cl_138 hS3) (by omega) (by decide) (by decide) ?_
  rw [show gi h3 138 r = nI c by rw [eh3, gi_si_ne (by decide), eh2, gi_si_ne (by decide), eh1, gi_si_ne (by decide)]; exact hpc]
  refine x_iconst (q := 129) (v := 1) dX10_part_128 rfl (by decide) ?_
  refine x_iadd (q := 130) dX10_part_129 rfl ?_
  rw [nI_1 (c)]
  refine z_iast (q := 131) (j := r) dX10_part_130 rfl (cl_138 hS3) (by omega) (by decide) (by decide) ?_
  refine Vg.nm (fun h4 eh4 => ?_)
  have hS4 : Sh h4 := by rw [eh4]; exact hS3.si _ _
  have hc4_132_8 : fI h4 132 8 = nI (z) := by rw [eh4]; first | (simp only [fI_si, fI_sl, fI_sJ]; exact hc3_132_8) | (rw [fI_sI_ne (by omega)]; exact hc3_132_8) | (rw [fI_sI_k (by decide)]; exact hc3_132_8) | (simp (disch := omega) only [mixAdd, fI_si, fI_sl, fI_sJ, fI_sI_ne, fI_sI_k]; exact hc3_132_8)
  refine x_aload_n (q := 132) dX10_part_131 rfl rfl rfl ?_
  have g10 : gi h4 139 = (upd (gi h 139) (r * 6 + c) e) := by rw [eh4, gi_si_ne (by decide), eh3, gi_si_ne (by decide), eh2, gi_si_ne (by decide), eh1, gi_si_eq hS (by decide) (by decide) rfl]
  have g11 : gi h4 140 = (upd (gi h 140) (r * 6 + c) v) := by rw [eh4, gi_si_ne (by decide), eh3, gi_si_ne (by decide), eh2, gi_si_eq hS1 (by decide) (by decide) rfl, eh1, gi_si_ne (by decide)]
  have g12 : gi h4 141 = (upd (gi h 141) (r * 6 + c) n) := by rw [eh4, gi_si_ne (by decide), eh3, gi_si_eq hS2 (by decide) (by decide) rfl, eh2, gi_si_ne (by decide), eh1, gi_si_ne (by decide)]
  have g13 : gi h4 138 = (upd (gi h 138) r (nI (c + 1))) := by rw [eh4, gi_si_eq hS3 (by decide) (by decide) rfl, eh3, gi_si_ne (by decide), eh2, gi_si_ne (by decide), eh1, gi_si_ne (by decide)]
  have g15 : gi h4 143 = gi h 143 := by rw [eh4, gi_si_ne (by decide), eh3, gi_si_ne (by decide), eh2, gi_si_ne (by decide), eh1, gi_si_ne (by decide)]
  have g14 : gi h4 142 = gi h 142 := by rw [eh4, gi_si_ne (by decide), eh3, gi_si_ne (by decide), eh2, gi_si_ne (by decide), eh1, gi_si_ne (by decide)]
  have e44 : h4 = mpH h r c e v n := by subst_vars; simp (disch := decide) only [mpH, gi_si_ne]
  have hra9 := c_X10_findNeeds hS4 z hc4_132_8 hz12 (by rw [g10, g11, g13]; exact hok)
  rw [g10, g11, g12, g13, g15] at hra9
  refine y_cvI (q := 135) dX10_part_132 rfl l_X10_161 hra9 rfl rfl (cl_132 hS4) (by decide) rfl rfl rfl rfl ?_
  refine Vg.nm (fun h5 eh5 => ?_)
  have hS5 : Sh h5 := by rw [eh5]; exact hS4.si _ _
  have hc5_132_8 : fI h5 132 8 = nI (z) := by rw [eh5]; first | (simp only [fI_si, fI_sl, fI_sJ]; exact hc4_132_8) | (rw [fI_sI_ne (by omega)]; exact hc4_132_8) | (rw [fI_sI_k (by decide)]; exact hc4_132_8) | (simp (disch := omega) only [mixAdd, fI_si, fI_sl, fI_sJ, fI_sI_ne, fI_sI_k]; exact hc4_132_8)
  refine x_if_ne (q := 138) (t := 151) dX10_part_135 rfl (by decide) (fun c_135 => ?_) (fun c_135 => ?_)
  · replace c_135 := b2y c_135
    refine x_iconst (q := 152) (v := 0) dX10_part_151 rfl (by decide) ?_
    refine x_istore (q := 154) dX10_part_152 rfl (by decide) ?_
    have e1 : vmP h r c e v n z = nI (c + 1) := by rw [vmP, if_pos hc, if_pos c_135]
    have e2 : umP h r c e v n z = si h5 142 (capF (gi h5 142) (gi h5 143) 96) := by rw [umP, if_pos hc, if_pos c_135, eh5, gi_si_eq hS4 (by decide) (by decide) rfl, gi_si_ne (by decide), g14, e44]
    have t9 := lp_pc hS5 r (nI (c + 1)) hr (by rw [eh5, gi_si_ne (by decide), g13]; simp [upd]) 96 0 (by omega)
    rw [capF_0, si_gi] at t9
    rw [e1, e2]; exact Vg.weak t9 (by repeat first | exact trivial | refine ⟨rfl, ?_⟩)
  · replace c_135 := b2n c_135
    refine x_aload_n (q := 139) dX10_part_138 rfl rfl rfl ?_
    refine x_get (q := 142) dX10_part_139 rfl f_X10_25 (cl_132 hS5) rfl (by decide) ?_
    refine x_iload_n (q := 143) dX10_part_142 rfl rfl rfl ?_
    refine x_dup2 (q := 144) dX10_part_143 rfl rfl rfl ?_
    refine z_iald (q := 145) (j := r) dX10_part_144 rfl (cl_138 hS5) (by omega) (by decide) (by decide) ?_
    rw [show gi h5 138 r = nI (c + 1) by rw [eh5, gi_si_ne (by decide), g13]; simp [upd]]
    refine x_iconst (q := 146) (v := 1) dX10_part_145 rfl (by decide) ?_
    refine x_isub (q := 147) dX10_part_146 rfl ?_
    rw [nI_pred (c)]
    refine z_iast (q := 148) (j := r) dX10_part_147 rfl (cl_138 hS5) (by omega) (by decide) (by decide) ?_
    refine Vg.nm (fun h6 eh6 => ?_)
    have hS6 : Sh h6 := by rw [eh6]; exact hS5.si _ _
    have hc6_132_8 : fI h6 132 8 = nI (z) := by rw [eh6]; first | (simp only [fI_si, fI_sl, fI_sJ]; exact hc5_132_8) | (rw [fI_sI_ne (by omega)]; exact hc5_132_8) | (rw [fI_sI_k (by decide)]; exact hc5_132_8) | (simp (disch := omega) only [mixAdd, fI_si, fI_sl, fI_sJ, fI_sI_ne, fI_sI_k]; exact hc5_132_8)
    refine x_bipush (q := 150) (v := -6) dX10_part_148 rfl (by decide) ?_
    exact x_iret dX10_part_150 ⟨_, rfl, by first | rfl | (split <;> rfl)⟩ rfl (Nat.le_refl _) rfl ⟨by rw [vmP, if_pos hc, if_neg (by rw [c_135]; decide)], by rw [umP, if_pos hc, if_neg (by rw [c_135]; decide), eh6, eh5, gi_si_ne (by decide), g13, e44]⟩
set_option maxHeartbeats 4000000 in
set_option maxRecDepth 100000 in
theorem lp_pt6 {h : HF} (hS : Sh h) (r : Nat) (e v n : Int32) (hr : r < 12) (hpc : gi h 138 r = nI 6) (z : Nat) : Vg mX10_part none (QM mX10_part 170 (RI (vmP h r 6 e v n z) (umP h r 6 e v n z))) 69 [some (.ref 132), some (.int (nI r)), some (.int e), some (.int v), some (.int n), none, none] [] 170 h 0 0 := by
  refine x_aload_n (q := 70) dX10_part_69 rfl rfl rfl ?_
  refine x_get (q := 73) dX10_part_70 rfl f_X10_25 (cl_132 hS) rfl (by decide) ?_
  refine x_iload_n (q := 74) dX10_part_73 rfl rfl rfl ?_
  refine z_iald (q := 75) (j := r) dX10_part_74 rfl (cl_138 hS) (by omega) (by decide) (by decide) ?_
  rw [hpc]
  refine x_bipush (q := 77) (v := 6) dX10_part_75 rfl (by decide) ?_
  refine x_ic_ne (q := 80) (t := 83) dX10_part_77 rfl (by decide) (fun c_ => absurd c_ (fun q => q rfl)) (fun _ => ?_)
  refine x_bipush (q := 82) (v := -6) dX10_part_80 rfl (by decide) ?_
  exact x_iret dX10_part_82 ⟨_, rfl, by first | rfl | (split <;> rfl)⟩ rfl (Nat.le_refl _) rfl ⟨rfl, rfl⟩
theorem lp_ptb {h : HF} (hS : Sh h) (r s : Nat) (e n : Int32) (z : Nat) (hz : fI h 132 8 = nI z) (hz12 : z ≤ 12) (hr : r < z) (he : vp_nar .boolean e = e) (hok : okA (gi h 139) (gi h 140) (gi h 138) z) (h0 : e = 0 → s < 8) (h1 : ¬ e = 0 → s < r) : Vg mX10_part none (QM mX10_part 170 (RI (vmP h r (gi h 138 r).toNatClampNeg e (nI s) n z) (umP h r (gi h 138 r).toNatClampNeg e (nI s) n z))) 69 [some (.ref 132), some (.int (nI r)), some (.int e), some (.int (nI s)), some (.int n), none, none] [] 170 h 0 0 := by
  obtain ⟨c, c6, hc, -⟩ := hok r hr
  rw [hc, nI_clamp (show c < 2 ^ 31 by omega)]
  by_cases hlt : c < 6
  · exact lp_pt hS r c e (nI s) n (by omega) hlt hc he z hz hz12 (okA_add (v := nI s) hok hr hc hlt (okp_new h0 h1))
  · obtain rfl : c = 6 := by omega
    exact lp_pt6 hS r e (nI s) n (by omega) hc z
set_option maxHeartbeats 4000000 in
set_option maxRecDepth 100000 in
theorem c_X10_part {h : HF} (hS : Sh h) (a e w n : Int32) (he : vp_nar .boolean e = e) (nr : Nat) (hnr : fI h 132 8 = nI nr) (hnr12 : nr ≤ 12) (nb : Nat) (hnb : fI h 132 1 = nI nb) (hnb8 : nb ≤ 8) (hok : okA (gi h 139) (gi h 140) (gi h 138) nr) : Mc mX10_part [.ref 132, .int a, .int e, .int w, .int n] 170 h (RI (prt e w n a nr nb (vmP h a.toNatClampNeg (gi h 138 a.toNatClampNeg).toNatClampNeg e w n nr)) (prtH e w n a nr nb h (umP h a.toNatClampNeg (gi h 138 a.toNatClampNeg).toNatClampNeg e w n nr))) := by
  refine Mc.of (by decide) rfl (Nat.le_of_ble_eq_true rfl) ?_
  refine x_iload_n (q := 1) dX10_part_0 rfl rfl rfl ?_
  refine x_iconst (q := 2) (v := 0) dX10_part_1 rfl (by decide) ?_
  refine x_aload_n (q := 3) dX10_part_2 rfl rfl rfl ?_
  refine x_get (q := 6) dX10_part_3 rfl f_X10_158 (cl_132 hS) rfl (by decide) ?_
  rw [hnr]
  refine x_iconst (q := 7) (v := 1) dX10_part_6 rfl (by decide) ?_
  refine x_isub (q := 8) dX10_part_7 rfl ?_
  refine y_csI (q := 11) dX10_part_8 rfl l_X10_133 (c_X10_inL hS _ nr (by omega)) rfl rfl rfl rfl rfl rfl ?_
  refine x_if_eq (q := 14) (t := 43) dX10_part_11 rfl (by decide) (fun c_11 => ?_) (fun c_11 => ?_)
  · replace c_11 := b2n c_11
    refine x_bipush (q := 45) (v := -2) dX10_part_43 rfl (by decide) ?_
    exact x_iret dX10_part_45 ⟨_, rfl, by first | rfl | (split <;> rfl)⟩ rfl (Nat.le_refl _) rfl ⟨by simp [prt, c_11], by simp [prtH, c_11]⟩
  · replace c_11 := b2y c_11
    refine x_iload_n (q := 15) dX10_part_14 rfl rfl rfl ?_
    refine x_if_eq (q := 18) (t := 35) dX10_part_15 rfl (by decide) (fun c_15 => ?_) (fun c_15 => ?_)
    · refine x_aload_n (q := 36) dX10_part_35 rfl rfl rfl ?_
      refine x_iload_n (q := 37) dX10_part_36 rfl rfl rfl ?_
      refine y_cvI (q := 40) dX10_part_37 rfl l_X10_140 (c_X10_isBase hS _ nb hnb hnb8) rfl rfl (cl_132 hS) (by decide) rfl rfl rfl rfl ?_
      refine x_if_ne (q := 43) (t := 46) dX10_part_40 rfl (by decide) (fun c_40 => ?_) (fun c_40 => ?_)
      · replace c_40 := b2y c_40
        refine x_iload (q := 48) dX10_part_46 rfl rfl ?_
        refine x_iconst (q := 49) (v := 1) dX10_part_48 rfl (by decide) ?_
        refine x_bipush (q := 51) (v := 100) dX10_part_49 rfl (by decide) ?_
        refine y_csI (q := 54) dX10_part_51 rfl l_X10_133 (c_X10_in hS _ _ _) rfl rfl rfl rfl rfl rfl ?_
        refine x_if_eq (q := 57) (t := 66) dX10_part_54 rfl (by decide) (fun c_54 => ?_) (fun c_54 => ?_)
        · replace c_54 := b2n c_54
          refine x_bipush (q := 68) (v := -3) dX10_part_66 rfl (by decide) ?_
          exact x_iret dX10_part_68 ⟨_, rfl, by first | rfl | (split <;> rfl)⟩ rfl (Nat.le_refl _) rfl ⟨by simp [prt, c_11, c_15, c_40, c_54], by simp [prtH, c_11, c_15, c_40, c_54]⟩
        · replace c_54 := b2y c_54
          refine x_iload_n (q := 58) dX10_part_57 rfl rfl rfl ?_
          refine x_if_eq (q := 61) (t := 69) dX10_part_58 rfl (by decide) (fun _ => ?_) (fun c_ => absurd c_15 c_)
          obtain ⟨r, hr, rfl⟩ := ltB_of (by omega) c_11
          obtain ⟨s, hs, rfl⟩ := ltB_of (by omega) c_40
          have e1 : prt e (nI s) n (nI r) nr nb (vmP h (nI r).toNatClampNeg (gi h 138 (nI r).toNatClampNeg).toNatClampNeg e (nI s) n nr) = vmP h r (gi h 138 r).toNatClampNeg e (nI s) n nr := by simp only [prt, c_11, if_pos c_15, c_40, c_54, if_true, nI_clamp (show r < 2 ^ 31 by omega)]
          have e2 : prtH e (nI s) n (nI r) nr nb h (umP h (nI r).toNatClampNeg (gi h 138 (nI r).toNatClampNeg).toNatClampNeg e (nI s) n nr) = umP h r (gi h 138 r).toNatClampNeg e (nI s) n nr := by simp only [prtH, c_11, if_pos c_15, c_40, c_54, if_true, nI_clamp (show r < 2 ^ 31 by omega)]
          rw [e1, e2]; exact Vg.weak (lp_ptb hS r s e n nr hnr hnr12 hr he hok (fun _ => by omega) (fun z => absurd c_15 z)) (by repeat first | exact trivial | refine ⟨rfl, ?_⟩)
      · replace c_40 := b2n c_40
        refine x_bipush (q := 45) (v := -2) dX10_part_43 rfl (by decide) ?_
        exact x_iret dX10_part_45 ⟨_, rfl, by first | rfl | (split <;> rfl)⟩ rfl (Nat.le_refl _) rfl ⟨by simp [prt, c_11, c_15, c_40], by simp [prtH, c_11, c_15, c_40]⟩
    · refine x_iload_n (q := 19) dX10_part_18 rfl rfl rfl ?_
      refine x_iconst (q := 20) (v := 0) dX10_part_19 rfl (by decide) ?_
      refine x_aload_n (q := 21) dX10_part_20 rfl rfl rfl ?_
      refine x_get (q := 24) dX10_part_21 rfl f_X10_158 (cl_132 hS) rfl (by decide) ?_
      rw [hnr]
      refine x_iconst (q := 25) (v := 1) dX10_part_24 rfl (by decide) ?_
      refine x_isub (q := 26) dX10_part_25 rfl ?_
      refine y_csI (q := 29) dX10_part_26 rfl l_X10_133 (c_X10_inL hS _ nr (by omega)) rfl rfl rfl rfl rfl rfl ?_
      refine x_if_ne (q := 32) (t := 46) dX10_part_29 rfl (by decide) (fun c_29 => ?_) (fun c_29 => ?_)
      · replace c_29 := b2y c_29
        refine x_iload (q := 48) dX10_part_46 rfl rfl ?_
        refine x_iconst (q := 49) (v := 1) dX10_part_48 rfl (by decide) ?_
        refine x_bipush (q := 51) (v := 100) dX10_part_49 rfl (by decide) ?_
        refine y_csI (q := 54) dX10_part_51 rfl l_X10_133 (c_X10_in hS _ _ _) rfl rfl rfl rfl rfl rfl ?_
        refine x_if_eq (q := 57) (t := 66) dX10_part_54 rfl (by decide) (fun c_54 => ?_) (fun c_54 => ?_)
        · replace c_54 := b2n c_54
          refine x_bipush (q := 68) (v := -3) dX10_part_66 rfl (by decide) ?_
          exact x_iret dX10_part_68 ⟨_, rfl, by first | rfl | (split <;> rfl)⟩ rfl (Nat.le_refl _) rfl ⟨by simp [prt, c_11, c_15, c_29, c_54], by simp [prtH, c_11, c_15, c_29, c_54]⟩
        · replace c_54 := b2y c_54
          refine x_iload_n (q := 58) dX10_part_57 rfl rfl rfl ?_
          refine x_if_eq (q := 61) (t := 69) dX10_part_58 rfl (by decide) (fun c_ => absurd c_ c_15) (fun _ => ?_)
          refine x_iload_n (q := 62) dX10_part_61 rfl rfl rfl ?_
          refine x_iload_n (q := 63) dX10_part_62 rfl rfl rfl ?_
          refine x_ic_lt (q := 66) (t := 69) dX10_part_63 rfl (by decide) (fun c_63 => ?_) (fun c_63 => ?_)
          · obtain ⟨r, hr, rfl⟩ := ltB_of (by omega) c_11
            obtain ⟨s, hs, rfl⟩ := ltB_of (by omega) c_29
            have hsr := (nI_ltI (by omega) (by omega)).mp c_63
            have e1 : prt e (nI s) n (nI r) nr nb (vmP h (nI r).toNatClampNeg (gi h 138 (nI r).toNatClampNeg).toNatClampNeg e (nI s) n nr) = vmP h r (gi h 138 r).toNatClampNeg e (nI s) n nr := by simp only [prt, c_11, if_neg c_15, c_29, c_54, if_pos c_63, if_true, nI_clamp (show r < 2 ^ 31 by omega)]
            have e2 : prtH e (nI s) n (nI r) nr nb h (umP h (nI r).toNatClampNeg (gi h 138 (nI r).toNatClampNeg).toNatClampNeg e (nI s) n nr) = umP h r (gi h 138 r).toNatClampNeg e (nI s) n nr := by simp only [prtH, c_11, if_neg c_15, c_29, c_54, if_pos c_63, if_true, nI_clamp (show r < 2 ^ 31 by omega)]
            rw [e1, e2]; exact Vg.weak (lp_ptb hS r s e n nr hnr hnr12 hr he hok (fun z => absurd z c_15) (fun _ => hsr)) (by repeat first | exact trivial | refine ⟨rfl, ?_⟩)
          · refine x_bipush (q := 68) (v := -3) dX10_part_66 rfl (by decide) ?_
            exact x_iret dX10_part_68 ⟨_, rfl, by first | rfl | (split <;> rfl)⟩ rfl (Nat.le_refl _) rfl ⟨by simp [prt, c_11, c_15, c_29, c_54, c_63], by simp [prtH, c_11, c_15, c_29, c_54, c_63]⟩
      · replace c_29 := b2n c_29
        refine x_goto (q := 43) dX10_part_32 (by decide) ?_
        refine x_bipush (q := 45) (v := -2) dX10_part_43 rfl (by decide) ?_
        exact x_iret dX10_part_45 ⟨_, rfl, by first | rfl | (split <;> rfl)⟩ rfl (Nat.le_refl _) rfl ⟨by simp [prt, c_11, c_15, c_29], by simp [prtH, c_11, c_15, c_29]⟩

