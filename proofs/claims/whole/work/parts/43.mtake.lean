def tkP (B L : Nat → Int32) (day b : Int32) (z : Nat) : Nat → Int32 → (Nat → Int32) → Int64 → (Nat → Int32) × Int64
  | 0, _, S, x => (S, x)
  | k + 1, m, S, x => if m ≤ 0 then (S, x) else match nxo B L S day b z with
    | none => (S, x)
    | some j => tkP B L day b z k (m - minI (S j) m) (upd S j (S j - minI (S j) m)) (x ||| (1 : Int64) <<< ((nI j).toInt64 &&& 63))
def tkok (B L : Nat → Int32) (day b : Int32) (z : Nat) : Nat → Int32 → (Nat → Int32) → Prop
  | 0, m, _ => m ≤ 0
  | k + 1, m, S => m ≤ 0 ∨ ∃ j : Nat, nxo B L S day b z = some j ∧ tkok B L day b z k (m - minI (S j) m) (upd S j (S j - minI (S j) m))
theorem minI_alt {x y : Int32} : (if x < y then x else y) = minI x y := by
  rw [minI]
  by_cases h1 : x < y
  · rw [if_pos h1, if_neg (fun z => absurd (Int32.lt_trans h1 z) Int32.lt_irrefl)]
  · rw [if_neg h1]
    by_cases h2 : y < x
    · rw [if_pos h2]
    · rw [if_neg h2]; exact (Int32.le_antisymm (Int32.not_lt.mp h2) (Int32.not_lt.mp h1)).symm ▸ rfl
def hT (h : HF) (t : Nat) (S : Nat → Int32) (x : Int64) : HF := sl (si h 136 S) 145 (vp_updL (gl h 145) t x)
theorem Sh.hT {h : HF} (hS : Sh h) (t : Nat) (S : Nat → Int32) (x : Int64) : Sh (hT h t S x) := (hS.si _ _).sl _ _
theorem hT_136 {h : HF} (hS : Sh h) (t : Nat) (S : Nat → Int32) (x : Int64) : gi (hT h t S x) 136 = S := by rw [hT, gi_sl, gi_si_eq hS (by decide) (by decide) rfl]
theorem hT_gi {h : HF} {a : Nat} (ha : a ≠ 136) (t : Nat) (S : Nat → Int32) (x : Int64) : gi (hT h t S x) a = gi h a := by rw [hT, gi_sl, gi_si_ne ha]
theorem hT_fI (h : HF) (a k t : Nat) (S : Nat → Int32) (x : Int64) : fI (hT h t S x) a k = fI h a k := by rw [hT, fI_sl, fI_si]
theorem hT_145 {h : HF} (hS : Sh h) (t : Nat) (S : Nat → Int32) (x : Int64) : gl (hT h t S x) 145 = vp_updL (gl h 145) t x := by rw [hT, gl_sl_eq (hS.si _ _) (by decide) (by decide) rfl]
theorem updL_updL (f : Nat → Int64) (t : Nat) (x y : Int64) : vp_updL (vp_updL f t x) t y = vp_updL f t y := by funext j; simp only [vp_updL]; split <;> rfl
theorem updL_self (f : Nat → Int64) (t : Nat) : vp_updL f t (f t) = f := by funext j; simp only [vp_updL]; split <;> simp_all
theorem hT_hT {h : HF} (hS : Sh h) (t : Nat) (S S' : Nat → Int32) (x y : Int64) : sl (si (hT h t S x) 136 S') 145 (vp_updL (gl (hT h t S x) 145) t y) = hT h t S' y := by
  rw [hT_145 hS, hT, sl_si_comm (show (145 : Nat) ≠ 136 by decide), si_si, sl_sl, updL_updL]; rfl
theorem hT_0 (h : HF) (t : Nat) : hT h t (gi h 136) (gl h 145 t) = h := by rw [hT, si_gi, updL_self, sl_gl]
set_option maxHeartbeats 4000000 in
set_option maxRecDepth 100000 in
theorem lp_tk0 {Q : QF} {h : HF} (hS : Sh h) (t b : Nat) (n m : Int32) (nl : Nat) (hnl : fI h 132 4 = nI nl) (hnl40 : nl ≤ 40) (K : Vg mX10_take none Q 71 [some (.ref 132), some (.int (nI t)), some (.int (nI b)), some (.int n), some (.int m), some (.int (oI (nxo (gi h 135) (gi h 137) (gi h 136) (fI h 132 0) (nI b) nl))), none] [] 170 h 0 0) : ∀ (k i : Nat), i + k = nl → Vg mX10_take none Q 14 [some (.ref 132), some (.int (nI t)), some (.int (nI b)), some (.int n), some (.int m), some (.int (oI (nxo (gi h 135) (gi h 137) (gi h 136) (fI h 132 0) (nI b) i))), some (.int (nI i))] [] 170 h 0 0 := by
  intro k
  induction k with
  | zero =>
    intro i hi
    obtain rfl : i = nl := by omega
    refine x_iload (q := 16) dX10_take_14 rfl rfl ?_
    refine x_aload_n (q := 17) dX10_take_16 rfl rfl rfl ?_
    refine x_get (q := 20) dX10_take_17 rfl f_X10_144 (cl_132 hS) rfl (by decide) ?_
    rw [hnl]
    refine x_ic_ge (q := 23) (t := 71) dX10_take_20 rfl (by decide) (fun _ => ?_) (fun c_ => absurd (nI_le (Nat.le_refl _) (by omega)) c_)
    exact Vg.weak K (by repeat first | exact trivial | refine ⟨rfl, ?_⟩)
  | succ k ih =>
    intro i hi
    cases hn : nxo (gi h 135) (gi h 137) (gi h 136) (fI h 132 0) (nI b) i with
    | none =>
      refine x_iload (q := 16) dX10_take_14 rfl rfl ?_
      refine x_aload_n (q := 17) dX10_take_16 rfl rfl rfl ?_
      refine x_get (q := 20) dX10_take_17 rfl f_X10_144 (cl_132 hS) rfl (by decide) ?_
      rw [hnl]
      refine x_ic_ge (q := 23) (t := 71) dX10_take_20 rfl (by decide) (fun c_ => absurd c_ (nI_ge (by omega) (by omega))) (fun _ => ?_)
      refine x_aload_n (q := 24) dX10_take_23 rfl rfl rfl ?_
      refine x_iload (q := 26) dX10_take_24 rfl rfl ?_
      refine x_iload_n (q := 27) dX10_take_26 rfl rfl rfl ?_
      refine y_cvI (q := 30) dX10_take_27 rfl l_X10_150 (c_X10_mayTake hS i _ (by omega)) rfl rfl (cl_132 hS) (by decide) rfl rfl rfl rfl ?_
      refine x_if_eq (q := 33) (t := 61) dX10_take_30 rfl (by decide) (fun c_30 => ?_) (fun c_30 => ?_)
      · refine x_iload (q := 63) dX10_take_61 rfl rfl ?_
        refine x_istore (q := 65) dX10_take_63 rfl (by decide) ?_
        refine x_iinc (q := 68) (v := nI (i + 1)) dX10_take_65 rfl rfl (nI_inc _) (by decide) ?_
        refine x_goto (q := 14) dX10_take_68 (by decide) ?_
        have t9 := ih (i + 1) (by omega)
        simp only [nxo, hn] at t9
        first | (simp only [if_neg (ifn c_30)] at t9; exact t9) | (simp only [if_pos (ify c_30)] at t9; exact t9)
      · refine x_iload (q := 35) dX10_take_33 rfl rfl ?_
        refine x_iconst (q := 36) (v := -1) dX10_take_35 rfl (by decide) ?_
        refine x_ic_eq (q := 39) (t := 56) dX10_take_36 rfl (by decide) (fun _ => ?_) (fun c_ => absurd rfl c_)
        refine x_iload (q := 58) dX10_take_56 rfl rfl ?_
        refine x_goto (q := 63) dX10_take_58 (by decide) ?_
        refine x_istore (q := 65) dX10_take_63 rfl (by decide) ?_
        refine x_iinc (q := 68) (v := nI (i + 1)) dX10_take_65 rfl rfl (nI_inc _) (by decide) ?_
        refine x_goto (q := 14) dX10_take_68 (by decide) ?_
        have t9 := ih (i + 1) (by omega)
        simp only [nxo, hn] at t9
        first | (simp only [if_neg (ifn c_30)] at t9; exact t9) | (simp only [if_pos (ify c_30)] at t9; exact t9)
    | some j =>
      have hmi := (nxo_lt hn).1
      refine x_iload (q := 16) dX10_take_14 rfl rfl ?_
      refine x_aload_n (q := 17) dX10_take_16 rfl rfl rfl ?_
      refine x_get (q := 20) dX10_take_17 rfl f_X10_144 (cl_132 hS) rfl (by decide) ?_
      rw [hnl]
      refine x_ic_ge (q := 23) (t := 71) dX10_take_20 rfl (by decide) (fun c_ => absurd c_ (nI_ge (by omega) (by omega))) (fun _ => ?_)
      refine x_aload_n (q := 24) dX10_take_23 rfl rfl rfl ?_
      refine x_iload (q := 26) dX10_take_24 rfl rfl ?_
      refine x_iload_n (q := 27) dX10_take_26 rfl rfl rfl ?_
      refine y_cvI (q := 30) dX10_take_27 rfl l_X10_150 (c_X10_mayTake hS i _ (by omega)) rfl rfl (cl_132 hS) (by decide) rfl rfl rfl rfl ?_
      refine x_if_eq (q := 33) (t := 61) dX10_take_30 rfl (by decide) (fun c_30 => ?_) (fun c_30 => ?_)
      · refine x_iload (q := 63) dX10_take_61 rfl rfl ?_
        refine x_istore (q := 65) dX10_take_63 rfl (by decide) ?_
        refine x_iinc (q := 68) (v := nI (i + 1)) dX10_take_65 rfl rfl (nI_inc _) (by decide) ?_
        refine x_goto (q := 14) dX10_take_68 (by decide) ?_
        have t9 := ih (i + 1) (by omega)
        first | (rw [nxo_sf hn (fun z => ifn c_30 z.1)] at t9; exact t9) | (rw [nxo_sf hn (fun z => Int32.not_le.mpr z.2 c_53)] at t9; exact t9) | (rw [nxo_st hn (And.intro (ify c_30) (Int32.not_le.mp c_53))] at t9; exact t9)
      · refine x_iload (q := 35) dX10_take_33 rfl rfl ?_
        refine x_iconst (q := 36) (v := -1) dX10_take_35 rfl (by decide) ?_
        refine x_ic_eq (q := 39) (t := 56) dX10_take_36 rfl (by decide) (fun c_ => absurd c_ (nI_m1 (by omega))) (fun _ => ?_)
        refine x_aload_n (q := 40) dX10_take_39 rfl rfl rfl ?_
        refine x_get (q := 43) dX10_take_40 rfl f_X10_22 (cl_132 hS) rfl (by decide) ?_
        refine x_iload (q := 45) dX10_take_43 rfl rfl ?_
        refine z_iald (q := 46) (j := i) dX10_take_45 rfl (cl_137 hS) (by omega) (by decide) (by decide) ?_
        refine x_aload_n (q := 47) dX10_take_46 rfl rfl rfl ?_
        refine x_get (q := 50) dX10_take_47 rfl f_X10_22 (cl_132 hS) rfl (by decide) ?_
        refine x_iload (q := 52) dX10_take_50 rfl rfl ?_
        refine z_iald (q := 53) (j := j) dX10_take_52 rfl (cl_137 hS) (by omega) (by decide) (by decide) ?_
        refine x_ic_ge (q := 56) (t := 61) dX10_take_53 rfl (by decide) (fun c_53 => ?_) (fun c_53 => ?_)
        · refine x_iload (q := 63) dX10_take_61 rfl rfl ?_
          refine x_istore (q := 65) dX10_take_63 rfl (by decide) ?_
          refine x_iinc (q := 68) (v := nI (i + 1)) dX10_take_65 rfl rfl (nI_inc _) (by decide) ?_
          refine x_goto (q := 14) dX10_take_68 (by decide) ?_
          have t9 := ih (i + 1) (by omega)
          first | (rw [nxo_sf hn (fun z => ifn c_30 z.1)] at t9; exact t9) | (rw [nxo_sf hn (fun z => Int32.not_le.mpr z.2 c_53)] at t9; exact t9) | (rw [nxo_st hn (And.intro (ify c_30) (Int32.not_le.mp c_53))] at t9; exact t9)
        · refine x_iload (q := 58) dX10_take_56 rfl rfl ?_
          refine x_goto (q := 63) dX10_take_58 (by decide) ?_
          refine x_istore (q := 65) dX10_take_63 rfl (by decide) ?_
          refine x_iinc (q := 68) (v := nI (i + 1)) dX10_take_65 rfl rfl (nI_inc _) (by decide) ?_
          refine x_goto (q := 14) dX10_take_68 (by decide) ?_
          have t9 := ih (i + 1) (by omega)
          first | (rw [nxo_sf hn (fun z => ifn c_30 z.1)] at t9; exact t9) | (rw [nxo_sf hn (fun z => Int32.not_le.mpr z.2 c_53)] at t9; exact t9) | (rw [nxo_st hn (And.intro (ify c_30) (Int32.not_le.mp c_53))] at t9; exact t9)

set_option maxHeartbeats 4000000 in
set_option maxRecDepth 100000 in
theorem lp_tk1 {h : HF} (hS : Sh h) (t b : Nat) (n : Int32) (ht : t < 24) (hb : b < 8) (nl : Nat) (hnl : fI h 132 4 = nI nl) (hnl40 : nl ≤ 40) : ∀ (k : Nat) (m : Int32) (S : Nat → Int32) (x : Int64), tkok (gi h 135) (gi h 137) (fI h 132 0) (nI b) nl k m S → Vg mX10_take none (QM mX10_take 170 (RV (si (hT h t (tkP (gi h 135) (gi h 137) (fI h 132 0) (nI b) nl k m S x).1 (tkP (gi h 135) (gi h 137) (fI h 132 0) (nI b) nl k m S x).2) 144 (upd (gi h 144) (8 * t + b) (gi h 144 (8 * t + b) + n))))) 3 [some (.ref 132), some (.int (nI t)), some (.int (nI b)), some (.int n), some (.int m), none, none] [] 170 (hT h t S x) 0 0 := by
  intro k
  induction k with
  | zero =>
    intro m S x ho
    refine x_iload (q := 5) dX10_take_3 rfl rfl ?_
    refine x_if_le (q := 8) (t := 136) dX10_take_5 rfl (by decide) (fun _ => ?_) (fun c_ => absurd ho c_)
    refine x_aload_n (q := 137) dX10_take_136 rfl rfl rfl ?_
    refine x_get (q := 140) dX10_take_137 rfl f_X10_44 (cl_132 (hS.hT t S x)) rfl (by decide) ?_
    refine x_bipush (q := 142) (v := 8) dX10_take_140 rfl (by decide) ?_
    refine x_iload_n (q := 143) dX10_take_142 rfl rfl rfl ?_
    refine x_imul (q := 144) dX10_take_143 rfl ?_
    refine x_iload_n (q := 145) dX10_take_144 rfl rfl rfl ?_
    refine x_iadd (q := 146) dX10_take_145 rfl ?_
    rw [ux8]
    refine x_dup2 (q := 147) dX10_take_146 rfl rfl rfl ?_
    refine z_iald (q := 148) (j := 8 * t + b) dX10_take_147 rfl (cl_144 (hS.hT t S x)) (by omega) (by decide) (by decide) ?_
    refine x_iload_n (q := 149) dX10_take_148 rfl rfl rfl ?_
    refine x_iadd (q := 150) dX10_take_149 rfl ?_
    refine z_iast (q := 151) (j := 8 * t + b) dX10_take_150 rfl (cl_144 (hS.hT t S x)) (by omega) (by decide) (by decide) ?_
    refine Vg.nm (fun h1 eh1 => ?_)
    have hS1 : Sh h1 := by rw [eh1]; exact (hS.hT t S x).si _ _
    exact x_vret dX10_take_151 rfl rfl (Nat.le_refl _) rfl ⟨rfl, by rw [eh1, hT_gi (show (144 : Nat) ≠ 136 by decide)]; rfl⟩
  | succ k ih =>
    intro m S x ho
    by_cases hm : m ≤ 0
    case' pos =>
      have EQ9 : tkP (gi h 135) (gi h 137) (fI h 132 0) (nI b) nl (k + 1) m S x = (S, x) := by rw [tkP, if_pos hm]
      rw [EQ9]
      refine x_iload (q := 5) dX10_take_3 rfl rfl ?_
      refine x_if_le (q := 8) (t := 136) dX10_take_5 rfl (by decide) (fun _ => ?_) (fun c_ => absurd hm c_)
      refine x_aload_n (q := 137) dX10_take_136 rfl rfl rfl ?_
      refine x_get (q := 140) dX10_take_137 rfl f_X10_44 (cl_132 (hS.hT t S x)) rfl (by decide) ?_
      refine x_bipush (q := 142) (v := 8) dX10_take_140 rfl (by decide) ?_
      refine x_iload_n (q := 143) dX10_take_142 rfl rfl rfl ?_
      refine x_imul (q := 144) dX10_take_143 rfl ?_
      refine x_iload_n (q := 145) dX10_take_144 rfl rfl rfl ?_
      refine x_iadd (q := 146) dX10_take_145 rfl ?_
      rw [ux8]
      refine x_dup2 (q := 147) dX10_take_146 rfl rfl rfl ?_
      refine z_iald (q := 148) (j := 8 * t + b) dX10_take_147 rfl (cl_144 (hS.hT t S x)) (by omega) (by decide) (by decide) ?_
      refine x_iload_n (q := 149) dX10_take_148 rfl rfl rfl ?_
      refine x_iadd (q := 150) dX10_take_149 rfl ?_
      refine z_iast (q := 151) (j := 8 * t + b) dX10_take_150 rfl (cl_144 (hS.hT t S x)) (by omega) (by decide) (by decide) ?_
      refine Vg.nm (fun h1 eh1 => ?_)
      have hS1 : Sh h1 := by rw [eh1]; exact (hS.hT t S x).si _ _
      exact x_vret dX10_take_151 rfl rfl (Nat.le_refl _) rfl ⟨rfl, by rw [eh1, hT_gi (show (144 : Nat) ≠ 136 by decide)]⟩
    obtain ⟨j, hn, ho2⟩ := ho.resolve_left hm
    have hjz := (nxo_lt hn).1
    have EQ9 : tkP (gi h 135) (gi h 137) (fI h 132 0) (nI b) nl (k + 1) m S x = tkP (gi h 135) (gi h 137) (fI h 132 0) (nI b) nl k (m - minI (S j) m) (upd S j (S j - minI (S j) m)) (x ||| (1 : Int64) <<< ((nI j).toInt64 &&& 63)) := by rw [tkP, if_neg hm, hn]
    rw [EQ9]
    refine x_iload (q := 5) dX10_take_3 rfl rfl ?_
    refine x_if_le (q := 8) (t := 136) dX10_take_5 rfl (by decide) (fun c_ => absurd c_ hm) (fun _ => ?_)
    refine x_iconst (q := 9) (v := -1) dX10_take_8 rfl (by decide) ?_
    refine x_istore (q := 11) dX10_take_9 rfl (by decide) ?_
    refine x_iconst (q := 12) (v := 0) dX10_take_11 rfl (by decide) ?_
    refine x_istore (q := 14) dX10_take_12 rfl (by decide) ?_
    refine Vg.weak (lp_tk0 (hS.hT t S x) t b n m nl (by rw [hT_fI]; exact hnl) hnl40 ?_ nl 0 (by omega)) (by repeat first | exact trivial | refine ⟨rfl, ?_⟩)
    rw [hT_gi (show (135 : Nat) ≠ 136 by decide), hT_gi (show (137 : Nat) ≠ 136 by decide), hT_136 hS, hT_fI, hn, show oI (some j) = nI j from rfl]
    refine x_aload_n (q := 72) dX10_take_71 rfl rfl rfl ?_
    refine x_get (q := 75) dX10_take_72 rfl f_X10_19 (cl_132 (hS.hT t S x)) rfl (by decide) ?_
    refine x_iload (q := 77) dX10_take_75 rfl rfl ?_
    refine z_iald (q := 78) (j := j) dX10_take_77 rfl (cl_136 (hS.hT t S x)) (by omega) (by decide) (by decide) ?_
    refine x_iload (q := 80) dX10_take_78 rfl rfl ?_
    rw [hT_136 hS] 
    refine x_ic_ge (q := 83) (t := 93) dX10_take_80 rfl (by decide) (fun c_80 => ?_) (fun c_80 => ?_)
    · refine x_iload (q := 95) dX10_take_93 rfl rfl ?_
      skip
      refine x_istore (q := 97) dX10_take_95 rfl (by decide) ?_
      refine x_aload_n (q := 98) dX10_take_97 rfl rfl rfl ?_
      refine x_get (q := 101) dX10_take_98 rfl f_X10_19 (cl_132 (hS.hT t S x)) rfl (by decide) ?_
      refine x_iload (q := 103) dX10_take_101 rfl rfl ?_
      refine x_dup2 (q := 104) dX10_take_103 rfl rfl rfl ?_
      refine z_iald (q := 105) (j := j) dX10_take_104 rfl (cl_136 (hS.hT t S x)) (by omega) (by decide) (by decide) ?_
      rw [hT_136 hS]
      refine x_iload (q := 107) dX10_take_105 rfl rfl ?_
      refine x_isub (q := 108) dX10_take_107 rfl ?_
      refine z_iast (q := 109) (j := j) dX10_take_108 rfl (cl_136 (hS.hT t S x)) (by omega) (by decide) (by decide) ?_
      refine Vg.nm (fun h1 eh1 => ?_)
      have hS1 : Sh h1 := by rw [eh1]; exact (hS.hT t S x).si _ _
      refine x_iload (q := 111) dX10_take_109 rfl rfl ?_
      refine x_iload (q := 113) dX10_take_111 rfl rfl ?_
      refine x_isub (q := 114) dX10_take_113 rfl ?_
      refine x_istore (q := 116) dX10_take_114 rfl (by decide) ?_
      refine x_aload_n (q := 117) dX10_take_116 rfl rfl rfl ?_
      refine x_get (q := 120) dX10_take_117 rfl f_X10_47 (cl_132 hS1) rfl (by decide) ?_
      refine x_iload_n (q := 121) dX10_take_120 rfl rfl rfl ?_
      refine x_aload_n (q := 122) dX10_take_121 rfl rfl rfl ?_
      refine x_get (q := 125) dX10_take_122 rfl f_X10_47 (cl_132 hS1) rfl (by decide) ?_
      refine x_iload_n (q := 126) dX10_take_125 rfl rfl rfl ?_
      refine z_lald (q := 127) (j := t) dX10_take_126 rfl (cl_145 hS1) (by omega) (by decide) (by decide) ?_
      refine x_lconst (q := 128) (v := 1) dX10_take_127 rfl (by decide) ?_
      refine x_iload (q := 130) dX10_take_128 rfl rfl ?_
      refine x_lshl (q := 131) dX10_take_130 rfl ?_
      refine x_lor (q := 132) dX10_take_131 rfl ?_
      refine z_last (q := 133) (j := t) dX10_take_132 rfl (cl_145 hS1) (by omega) (by decide) (by decide) ?_
      refine Vg.nm (fun h2 eh2 => ?_)
      have hS2 : Sh h2 := by rw [eh2]; exact hS1.sl _ _
      refine x_goto (q := 3) dX10_take_133 (by decide) ?_
      have e9 : h2 = hT h t (upd S j (S j - minI (S j) m)) (x ||| (1 : Int64) <<< ((nI j).toInt64 &&& 63)) := by
        rw [eh2, eh1]
        have hl9 : gl (hT h t S x) 145 t = x := by rw [hT_145 hS]; simp [vp_updL]
        rw [gl_si, hl9, hT_136 hS, hT_hT hS]
        first | rw [← minI_alt, if_neg (Int32.not_lt.mpr c_80)] | rw [← minI_alt, if_pos (Int32.not_le.mp c_80)]
      rw [e9]
      have t9 := ih (m - minI (S j) m) (upd S j (S j - minI (S j) m)) (x ||| (1 : Int64) <<< ((nI j).toInt64 &&& 63)) ho2
      have hg9 : (if S j < m then S j else m) = minI (S j) m := minI_alt
      first | (rw [if_neg (Int32.not_lt.mpr c_80)] at hg9; rw [← hg9] at t9 ⊢; exact Vg.weak t9 (by repeat first | exact trivial | refine ⟨rfl, ?_⟩)) | (rw [if_pos (Int32.not_le.mp c_80)] at hg9; rw [← hg9] at t9 ⊢; exact Vg.weak t9 (by repeat first | exact trivial | refine ⟨rfl, ?_⟩))
    · refine x_aload_n (q := 84) dX10_take_83 rfl rfl rfl ?_
      refine x_get (q := 87) dX10_take_84 rfl f_X10_19 (cl_132 (hS.hT t S x)) rfl (by decide) ?_
      refine x_iload (q := 89) dX10_take_87 rfl rfl ?_
      refine z_iald (q := 90) (j := j) dX10_take_89 rfl (cl_136 (hS.hT t S x)) (by omega) (by decide) (by decide) ?_
      refine x_goto (q := 95) dX10_take_90 (by decide) ?_
      skip
      refine x_istore (q := 97) dX10_take_95 rfl (by decide) ?_
      refine x_aload_n (q := 98) dX10_take_97 rfl rfl rfl ?_
      refine x_get (q := 101) dX10_take_98 rfl f_X10_19 (cl_132 (hS.hT t S x)) rfl (by decide) ?_
      refine x_iload (q := 103) dX10_take_101 rfl rfl ?_
      refine x_dup2 (q := 104) dX10_take_103 rfl rfl rfl ?_
      refine z_iald (q := 105) (j := j) dX10_take_104 rfl (cl_136 (hS.hT t S x)) (by omega) (by decide) (by decide) ?_
      rw [hT_136 hS]
      refine x_iload (q := 107) dX10_take_105 rfl rfl ?_
      refine x_isub (q := 108) dX10_take_107 rfl ?_
      refine z_iast (q := 109) (j := j) dX10_take_108 rfl (cl_136 (hS.hT t S x)) (by omega) (by decide) (by decide) ?_
      refine Vg.nm (fun h3 eh3 => ?_)
      have hS3 : Sh h3 := by rw [eh3]; exact (hS.hT t S x).si _ _
      refine x_iload (q := 111) dX10_take_109 rfl rfl ?_
      refine x_iload (q := 113) dX10_take_111 rfl rfl ?_
      refine x_isub (q := 114) dX10_take_113 rfl ?_
      refine x_istore (q := 116) dX10_take_114 rfl (by decide) ?_
      refine x_aload_n (q := 117) dX10_take_116 rfl rfl rfl ?_
      refine x_get (q := 120) dX10_take_117 rfl f_X10_47 (cl_132 hS3) rfl (by decide) ?_
      refine x_iload_n (q := 121) dX10_take_120 rfl rfl rfl ?_
      refine x_aload_n (q := 122) dX10_take_121 rfl rfl rfl ?_
      refine x_get (q := 125) dX10_take_122 rfl f_X10_47 (cl_132 hS3) rfl (by decide) ?_
      refine x_iload_n (q := 126) dX10_take_125 rfl rfl rfl ?_
      refine z_lald (q := 127) (j := t) dX10_take_126 rfl (cl_145 hS3) (by omega) (by decide) (by decide) ?_
      refine x_lconst (q := 128) (v := 1) dX10_take_127 rfl (by decide) ?_
      refine x_iload (q := 130) dX10_take_128 rfl rfl ?_
      refine x_lshl (q := 131) dX10_take_130 rfl ?_
      refine x_lor (q := 132) dX10_take_131 rfl ?_
      refine z_last (q := 133) (j := t) dX10_take_132 rfl (cl_145 hS3) (by omega) (by decide) (by decide) ?_
      refine Vg.nm (fun h4 eh4 => ?_)
      have hS4 : Sh h4 := by rw [eh4]; exact hS3.sl _ _
      refine x_goto (q := 3) dX10_take_133 (by decide) ?_
      have e9 : h4 = hT h t (upd S j (S j - minI (S j) m)) (x ||| (1 : Int64) <<< ((nI j).toInt64 &&& 63)) := by
        rw [eh4, eh3]
        have hl9 : gl (hT h t S x) 145 t = x := by rw [hT_145 hS]; simp [vp_updL]
        rw [gl_si, hl9, hT_136 hS, hT_hT hS]
        first | rw [← minI_alt, if_neg (Int32.not_lt.mpr c_80)] | rw [← minI_alt, if_pos (Int32.not_le.mp c_80)]
      rw [e9]
      have t9 := ih (m - minI (S j) m) (upd S j (S j - minI (S j) m)) (x ||| (1 : Int64) <<< ((nI j).toInt64 &&& 63)) ho2
      have hg9 : (if S j < m then S j else m) = minI (S j) m := minI_alt
      first | (rw [if_neg (Int32.not_lt.mpr c_80)] at hg9; rw [← hg9] at t9 ⊢; exact Vg.weak t9 (by repeat first | exact trivial | refine ⟨rfl, ?_⟩)) | (rw [if_pos (Int32.not_le.mp c_80)] at hg9; rw [← hg9] at t9 ⊢; exact Vg.weak t9 (by repeat first | exact trivial | refine ⟨rfl, ?_⟩))

theorem mtk_x : True := trivial
set_option maxHeartbeats 4000000 in
set_option maxRecDepth 100000 in
theorem c_X10_take {h : HF} (hS : Sh h) (t b : Nat) (n : Int32) (ht : t < 24) (hb : b < 8) (nl : Nat) (hnl : fI h 132 4 = nI nl) (hnl40 : nl ≤ 40) (k : Nat) (ho : tkok (gi h 135) (gi h 137) (fI h 132 0) (nI b) nl k n (gi h 136)) : Mc mX10_take [.ref 132, .int (nI t), .int (nI b), .int n] 170 h (RV (si (hT h t (tkP (gi h 135) (gi h 137) (fI h 132 0) (nI b) nl k n (gi h 136) (gl h 145 t)).1 (tkP (gi h 135) (gi h 137) (fI h 132 0) (nI b) nl k n (gi h 136) (gl h 145 t)).2) 144 (upd (gi h 144) (8 * t + b) (gi h 144 (8 * t + b) + n)))) := by
  refine Mc.of (by decide) rfl (Nat.le_of_ble_eq_true rfl) ?_
  refine x_iload_n (q := 1) dX10_take_0 rfl rfl rfl ?_
  refine x_istore (q := 3) dX10_take_1 rfl (by decide) ?_
  have t9 := lp_tk1 hS t b n ht hb nl hnl hnl40 k n (gi h 136) (gl h 145 t) ho
  rw [hT_0] at t9
  exact Vg.weak t9 (by repeat first | exact trivial | refine ⟨rfl, ?_⟩)

