def hnR (cap : Nat → Int32) (most : Int32) : Nat → Int32 → (Nat → Int32) → Bool × (Nat → Int32)
  | 0, _, f => (false, f)
  | b + 1, all, f => if all < most ∧ f b < cap b then (true, upd f b (f b + 1)) else hnR cap most b (all - f b) (upd f b 0)
theorem hnR_t {cap : Nat → Int32} {most : Int32} {b : Nat} {all : Int32} {f : Nat → Int32} (e : all < most ∧ f b < cap b) : hnR cap most (b + 1) all f = (true, upd f b (f b + 1)) := if_pos e
theorem hnR_f {cap : Nat → Int32} {most : Int32} {b : Nat} {all : Int32} {f : Nat → Int32} (e : ¬ (all < most ∧ f b < cap b)) : hnR cap most (b + 1) all f = hnR cap most b (all - f b) (upd f b 0) := if_neg e
def hnx (cap : Nat → Int32) (most : Int32) (nb : Nat) (f : Nat → Int32) : Bool × (Nat → Int32) := hnR cap most nb (fsum f nb) f
def hnok (cap : Nat → Int32) (most : Int32) (nb : Nat) : Nat → (Nat → Int32) → Prop
  | 0, f => (hnx cap most nb f).1 = false
  | k + 1, f => (hnx cap most nb f).1 = false ∨ hnok cap most nb k (hnx cap most nb f).2
/-- the model's search: what is best, its units, its drops, the trial -/
def mdJ (mf : (Nat → Int32) → Int32) (b m : Int32) (D f : Nat → Int32) : Int32 × Int32 × (Nat → Int32) := if b = -1 ∨ mf f < b ∨ (mf f = b ∧ fsum f 8 < m) then (mf f, fsum f 8, capF D f 8) else (b, m, D)
def mdR (mf : (Nat → Int32) → Int32) (cap : Nat → Int32) (most : Int32) (nb : Nat) : Nat → Int32 → Int32 → (Nat → Int32) → (Nat → Int32) → Int32 × (Nat → Int32) × (Nat → Int32)
  | 0, b, m, D, f => ((mdJ mf b m D f).1, (mdJ mf b m D f).2.2, (hnx cap most nb f).2)
  | k + 1, b, m, D, f => if (hnx cap most nb f).1 = true then mdR mf cap most nb k (mdJ mf b m D f).1 (mdJ mf b m D f).2.1 (mdJ mf b m D f).2.2 (hnx cap most nb f).2 else ((mdJ mf b m D f).1, (mdJ mf b m D f).2.2, (hnx cap most nb f).2)
theorem mdR_end {mf : (Nat → Int32) → Int32} {cap : Nat → Int32} {most : Int32} {nb : Nat} {k : Nat} {b m : Int32} {D f : Nat → Int32} (e : (hnx cap most nb f).1 = false) : mdR mf cap most nb k b m D f = ((mdJ mf b m D f).1, (mdJ mf b m D f).2.2, (hnx cap most nb f).2) := by
  cases k with
  | zero => rfl
  | succ k => rw [mdR, if_neg (by rw [e]; decide)]
set_option maxHeartbeats 4000000 in
set_option maxRecDepth 100000 in
theorem lp_hn1 {h : HF} (hS : Sh h) (most : Int32) : ∀ (i : Nat) (all : Int32) (f : Nat → Int32), i ≤ 8 → Vg mX10_hasNext none (QM mX10_hasNext 170 (RI (b2 (hnR (gi h 170) most i all f).1) (si h 148 (hnR (gi h 170) most i all f).2))) 38 [some (.ref 132), some (.ref 170), some (.int most), some (.int all), some (.int (nI i - 1))] [] 170 (si h 148 f) 0 0 := by
  intro i
  induction i with
  | zero =>
    intro all f hi
    refine x_iload (q := 40) dX10_hasNext_38 rfl rfl ?_
    refine x_if_lt (q := 43) (t := 99) dX10_hasNext_40 rfl (by decide) (fun _ => ?_) (fun c_ => absurd (by decide) c_)
    refine x_iconst (q := 100) (v := 0) dX10_hasNext_99 rfl (by decide) ?_
    exact x_iret dX10_hasNext_100 ⟨_, rfl, by first | rfl | (split <;> rfl)⟩ rfl (Nat.le_refl _) rfl ⟨rfl, rfl⟩
  | succ i ih =>
    intro all f hi
    rw [nI_pred]
    refine x_iload (q := 40) dX10_hasNext_38 rfl rfl ?_
    refine x_if_lt (q := 43) (t := 99) dX10_hasNext_40 rfl (by decide) (fun c_ => absurd c_ (nI_pos (by omega))) (fun _ => ?_)
    refine x_iload_n (q := 44) dX10_hasNext_43 rfl rfl rfl ?_
    refine x_iload_n (q := 45) dX10_hasNext_44 rfl rfl rfl ?_
    refine x_ic_ge (q := 48) (t := 75) dX10_hasNext_45 rfl (by decide) (fun c_45 => ?_) (fun c_45 => ?_)
    · refine x_iload_n (q := 76) dX10_hasNext_75 rfl rfl rfl ?_
      refine x_aload_n (q := 77) dX10_hasNext_76 rfl rfl rfl ?_
      refine x_get (q := 80) dX10_hasNext_77 rfl f_X10_57 (cl_132 (hS.si 148 f)) rfl (by decide) ?_
      refine x_iload (q := 82) dX10_hasNext_80 rfl rfl ?_
      refine z_iald (q := 83) (j := i) dX10_hasNext_82 rfl (cl_148 (hS.si 148 f)) (by omega) (by decide) (by decide) ?_
      rw [gi_si_eq hS (by decide) (by decide) rfl]
      refine x_isub (q := 84) dX10_hasNext_83 rfl ?_
      refine x_istore_n (q := 85) dX10_hasNext_84 rfl rfl (by decide) ?_
      refine x_aload_n (q := 86) dX10_hasNext_85 rfl rfl rfl ?_
      refine x_get (q := 89) dX10_hasNext_86 rfl f_X10_57 (cl_132 (hS.si 148 f)) rfl (by decide) ?_
      refine x_iload (q := 91) dX10_hasNext_89 rfl rfl ?_
      refine x_iconst (q := 92) (v := 0) dX10_hasNext_91 rfl (by decide) ?_
      refine z_iast (q := 93) (j := i) dX10_hasNext_92 rfl (cl_148 (hS.si 148 f)) (by omega) (by decide) (by decide) ?_
      refine Vg.nm (fun h1 eh1 => ?_)
      have hS1 : Sh h1 := by rw [eh1]; exact (hS.si 148 f).si _ _
      refine x_iinc (q := 96) dX10_hasNext_93 rfl rfl rfl (by decide) ?_
      refine x_goto (q := 38) dX10_hasNext_96 (by decide) ?_
      rw [nI_dec]
      have e9 : h1 = si h 148 (upd f i 0) := by rw [eh1, gi_si_eq hS (by decide) (by decide) rfl, si_si]
      rw [e9]
      first | (rw [hnR_f (fun z => Int32.not_le.mpr z.1 c_45)]; exact ih _ _ (by omega)) | (rw [hnR_f (fun z => Int32.not_le.mpr z.2 c_59)]; exact ih _ _ (by omega))
    · refine x_aload_n (q := 49) dX10_hasNext_48 rfl rfl rfl ?_
      refine x_get (q := 52) dX10_hasNext_49 rfl f_X10_57 (cl_132 (hS.si 148 f)) rfl (by decide) ?_
      refine x_iload (q := 54) dX10_hasNext_52 rfl rfl ?_
      refine z_iald (q := 55) (j := i) dX10_hasNext_54 rfl (cl_148 (hS.si 148 f)) (by omega) (by decide) (by decide) ?_
      rw [gi_si_eq hS (by decide) (by decide) rfl]
      refine x_aload_n (q := 56) dX10_hasNext_55 rfl rfl rfl ?_
      refine x_iload (q := 58) dX10_hasNext_56 rfl rfl ?_
      refine z_iald (q := 59) (j := i) dX10_hasNext_58 rfl (cl_170 (hS.si 148 f)) (by omega) (by decide) (by decide) ?_
      rw [gi_si_ne (show (170 : Nat) ≠ 148 by decide)]
      refine x_ic_ge (q := 62) (t := 75) dX10_hasNext_59 rfl (by decide) (fun c_59 => ?_) (fun c_59 => ?_)
      · refine x_iload_n (q := 76) dX10_hasNext_75 rfl rfl rfl ?_
        refine x_aload_n (q := 77) dX10_hasNext_76 rfl rfl rfl ?_
        refine x_get (q := 80) dX10_hasNext_77 rfl f_X10_57 (cl_132 (hS.si 148 f)) rfl (by decide) ?_
        refine x_iload (q := 82) dX10_hasNext_80 rfl rfl ?_
        refine z_iald (q := 83) (j := i) dX10_hasNext_82 rfl (cl_148 (hS.si 148 f)) (by omega) (by decide) (by decide) ?_
        rw [gi_si_eq hS (by decide) (by decide) rfl]
        refine x_isub (q := 84) dX10_hasNext_83 rfl ?_
        refine x_istore_n (q := 85) dX10_hasNext_84 rfl rfl (by decide) ?_
        refine x_aload_n (q := 86) dX10_hasNext_85 rfl rfl rfl ?_
        refine x_get (q := 89) dX10_hasNext_86 rfl f_X10_57 (cl_132 (hS.si 148 f)) rfl (by decide) ?_
        refine x_iload (q := 91) dX10_hasNext_89 rfl rfl ?_
        refine x_iconst (q := 92) (v := 0) dX10_hasNext_91 rfl (by decide) ?_
        refine z_iast (q := 93) (j := i) dX10_hasNext_92 rfl (cl_148 (hS.si 148 f)) (by omega) (by decide) (by decide) ?_
        refine Vg.nm (fun h2 eh2 => ?_)
        have hS2 : Sh h2 := by rw [eh2]; exact (hS.si 148 f).si _ _
        refine x_iinc (q := 96) dX10_hasNext_93 rfl rfl rfl (by decide) ?_
        refine x_goto (q := 38) dX10_hasNext_96 (by decide) ?_
        rw [nI_dec]
        have e9 : h2 = si h 148 (upd f i 0) := by rw [eh2, gi_si_eq hS (by decide) (by decide) rfl, si_si]
        rw [e9]
        first | (rw [hnR_f (fun z => Int32.not_le.mpr z.1 c_45)]; exact ih _ _ (by omega)) | (rw [hnR_f (fun z => Int32.not_le.mpr z.2 c_59)]; exact ih _ _ (by omega))
      · refine x_aload_n (q := 63) dX10_hasNext_62 rfl rfl rfl ?_
        refine x_get (q := 66) dX10_hasNext_63 rfl f_X10_57 (cl_132 (hS.si 148 f)) rfl (by decide) ?_
        refine x_iload (q := 68) dX10_hasNext_66 rfl rfl ?_
        refine x_dup2 (q := 69) dX10_hasNext_68 rfl rfl rfl ?_
        refine z_iald (q := 70) (j := i) dX10_hasNext_69 rfl (cl_148 (hS.si 148 f)) (by omega) (by decide) (by decide) ?_
        rw [gi_si_eq hS (by decide) (by decide) rfl]
        refine x_iconst (q := 71) (v := 1) dX10_hasNext_70 rfl (by decide) ?_
        refine x_iadd (q := 72) dX10_hasNext_71 rfl ?_
        refine z_iast (q := 73) (j := i) dX10_hasNext_72 rfl (cl_148 (hS.si 148 f)) (by omega) (by decide) (by decide) ?_
        refine Vg.nm (fun h3 eh3 => ?_)
        have hS3 : Sh h3 := by rw [eh3]; exact (hS.si 148 f).si _ _
        refine x_iconst (q := 74) (v := 1) dX10_hasNext_73 rfl (by decide) ?_
        exact x_iret dX10_hasNext_74 ⟨_, rfl, by first | rfl | (split <;> rfl)⟩ rfl (Nat.le_refl _) rfl ⟨by rw [hnR_t ⟨Int32.not_le.mp c_45, Int32.not_le.mp c_59⟩]; rfl, by rw [hnR_t ⟨Int32.not_le.mp c_45, Int32.not_le.mp c_59⟩, eh3, gi_si_eq hS (by decide) (by decide) rfl, si_si]⟩

set_option maxHeartbeats 4000000 in
set_option maxRecDepth 100000 in
theorem lp_hn0 {h : HF} (hS : Sh h) (most : Int32) (nb : Nat) (hnb : fI h 132 1 = nI nb) (hnb8 : nb ≤ 8) : ∀ (k i : Nat), i + k = nb → Vg mX10_hasNext none (QM mX10_hasNext 170 (RI (b2 (hnx (gi h 170) most nb (gi h 148)).1) (si h 148 (hnx (gi h 170) most nb (gi h 148)).2))) 5 [some (.ref 132), some (.ref 170), some (.int most), some (.int (fsum (gi h 148) i)), some (.int (nI i))] [] 170 h 0 0 := by
  intro k
  induction k with
  | zero =>
    intro i hi
    obtain rfl : i = nb := by omega
    refine x_iload (q := 7) dX10_hasNext_5 rfl rfl ?_
    refine x_aload_n (q := 8) dX10_hasNext_7 rfl rfl rfl ?_
    refine x_get (q := 11) dX10_hasNext_8 rfl f_X10_130 (cl_132 hS) rfl (by decide) ?_
    rw [hnb]
    refine x_ic_ge (q := 14) (t := 30) dX10_hasNext_11 rfl (by decide) (fun _ => ?_) (fun c_ => absurd (nI_le (Nat.le_refl _) (by omega)) c_)
    refine x_aload_n (q := 31) dX10_hasNext_30 rfl rfl rfl ?_
    refine x_get (q := 34) dX10_hasNext_31 rfl f_X10_130 (cl_132 hS) rfl (by decide) ?_
    rw [hnb]
    refine x_iconst (q := 35) (v := 1) dX10_hasNext_34 rfl (by decide) ?_
    refine x_isub (q := 36) dX10_hasNext_35 rfl ?_
    refine x_istore (q := 38) dX10_hasNext_36 rfl (by decide) ?_
    have t9 := lp_hn1 hS most i (fsum (gi h 148) i) (gi h 148) hnb8
    rw [si_gi] at t9; exact Vg.weak t9 (by repeat first | exact trivial | refine ⟨rfl, ?_⟩)
  | succ k ih =>
    intro i hi
    refine x_iload (q := 7) dX10_hasNext_5 rfl rfl ?_
    refine x_aload_n (q := 8) dX10_hasNext_7 rfl rfl rfl ?_
    refine x_get (q := 11) dX10_hasNext_8 rfl f_X10_130 (cl_132 hS) rfl (by decide) ?_
    rw [hnb]
    refine x_ic_ge (q := 14) (t := 30) dX10_hasNext_11 rfl (by decide) (fun c_ => absurd c_ (nI_ge (by omega) (by omega))) (fun _ => ?_)
    refine x_iload_n (q := 15) dX10_hasNext_14 rfl rfl rfl ?_
    refine x_aload_n (q := 16) dX10_hasNext_15 rfl rfl rfl ?_
    refine x_get (q := 19) dX10_hasNext_16 rfl f_X10_57 (cl_132 hS) rfl (by decide) ?_
    refine x_iload (q := 21) dX10_hasNext_19 rfl rfl ?_
    refine z_iald (q := 22) (j := i) dX10_hasNext_21 rfl (cl_148 hS) (by omega) (by decide) (by decide) ?_
    refine x_iadd (q := 23) dX10_hasNext_22 rfl ?_
    refine x_istore_n (q := 24) dX10_hasNext_23 rfl rfl (by decide) ?_
    refine x_iinc (q := 27) (v := nI (i + 1)) dX10_hasNext_24 rfl rfl (nI_inc _) (by decide) ?_
    refine x_goto (q := 5) dX10_hasNext_27 (by decide) ?_
    exact Vg.weak (ih (i + 1) (by omega)) (by repeat first | exact trivial | refine ⟨rfl, ?_⟩)

set_option maxHeartbeats 4000000 in
set_option maxRecDepth 100000 in
theorem c_X10_hasNext {h : HF} (hS : Sh h) (most : Int32) (nb : Nat) (hnb : fI h 132 1 = nI nb) (hnb8 : nb ≤ 8) : Mc mX10_hasNext [.ref 132, .ref 170, .int most] 170 h (RI (b2 (hnx (gi h 170) most nb (gi h 148)).1) (si h 148 (hnx (gi h 170) most nb (gi h 148)).2)) := by
  refine Mc.of (by decide) rfl (Nat.le_of_ble_eq_true rfl) ?_
  refine x_iconst (q := 1) (v := 0) dX10_hasNext_0 rfl (by decide) ?_
  refine x_istore_n (q := 2) dX10_hasNext_1 rfl rfl (by decide) ?_
  refine x_iconst (q := 3) (v := 0) dX10_hasNext_2 rfl (by decide) ?_
  refine x_istore (q := 5) dX10_hasNext_3 rfl (by decide) ?_
  exact Vg.weak (lp_hn0 hS most nb hnb hnb8 nb 0 (by omega)) (by repeat first | exact trivial | refine ⟨rfl, ?_⟩)

set_option maxHeartbeats 4000000 in
set_option maxRecDepth 100000 in
theorem lp_dr1 {Q : QF} {h : HF} (hS : Sh h) (t : Nat) (x y z room best bm miss : Int32) (K : Vg mX10_drops none Q 192 [some (.ref 132), some (.int (nI t)), none, some (.int x), some (.int y), some (.int z), none, some (.int room), some (.int best), some (.int bm), none, some (.int miss), some (.int (fsum (gi h 148) 8)), none] [] 170 h 0 0) : ∀ (k i : Nat), i + k = 8 → Vg mX10_drops none Q 167 [some (.ref 132), some (.int (nI t)), none, some (.int x), some (.int y), some (.int z), none, some (.int room), some (.int best), some (.int bm), none, some (.int miss), some (.int (fsum (gi h 148) i)), some (.int (nI i))] [] 170 h 0 0 := by
  intro k
  induction k with
  | zero =>
    intro i hi
    obtain rfl : i = 8 := by omega
    refine x_iload (q := 169) dX10_drops_167 rfl rfl ?_
    refine x_bipush (q := 171) (v := 8) dX10_drops_169 rfl (by decide) ?_
    refine x_ic_ge (q := 174) (t := 192) dX10_drops_171 rfl (by decide) (fun _ => ?_) (fun c_ => absurd (by decide) c_)
    exact Vg.weak K (by repeat first | exact trivial | refine ⟨rfl, ?_⟩)
  | succ k ih =>
    intro i hi
    refine x_iload (q := 169) dX10_drops_167 rfl rfl ?_
    refine x_bipush (q := 171) (v := 8) dX10_drops_169 rfl (by decide) ?_
    refine x_ic_ge (q := 174) (t := 192) dX10_drops_171 rfl (by decide) (fun c_ => absurd c_ (nI_ge (b := 8) (by omega) (by decide))) (fun _ => ?_)
    refine x_iload (q := 176) dX10_drops_174 rfl rfl ?_
    refine x_aload_n (q := 177) dX10_drops_176 rfl rfl rfl ?_
    refine x_get (q := 180) dX10_drops_177 rfl f_X10_57 (cl_132 hS) rfl (by decide) ?_
    refine x_iload (q := 182) dX10_drops_180 rfl rfl ?_
    refine z_iald (q := 183) (j := i) dX10_drops_182 rfl (cl_148 hS) (by omega) (by decide) (by decide) ?_
    refine x_iadd (q := 184) dX10_drops_183 rfl ?_
    refine x_istore (q := 186) dX10_drops_184 rfl (by decide) ?_
    refine x_iinc (q := 189) (v := nI (i + 1)) dX10_drops_186 rfl rfl (nI_inc _) (by decide) ?_
    refine x_goto (q := 167) dX10_drops_189 (by decide) ?_
    exact Vg.weak (ih (i + 1) (by omega)) (by repeat first | exact trivial | refine ⟨rfl, ?_⟩)

set_option maxHeartbeats 4000000 in
set_option maxRecDepth 100000 in
theorem lp_dr2 {Q : QF} {h : HF} (hS : Sh h) (t : Nat) (x y z room best bm : Int32) (K : Vg mX10_drops none Q 257 [some (.ref 132), some (.int (nI t)), none, some (.int x), some (.int y), some (.int z), none, some (.int room), some (.int best), some (.int bm), none, none, none, none] [] 170 (si h 147 (capF (gi h 147) (gi h 148) 8)) 0 0) : ∀ (k i : Nat), i + k = 8 → Vg mX10_drops none Q 230 [some (.ref 132), some (.int (nI t)), none, some (.int x), some (.int y), some (.int z), none, some (.int room), some (.int best), some (.int bm), none, none, none, some (.int (nI i))] [] 170 (si h 147 (capF (gi h 147) (gi h 148) i)) 0 0 := by
  intro k
  induction k with
  | zero =>
    intro i hi
    obtain rfl : i = 8 := by omega
    refine x_iload (q := 232) dX10_drops_230 rfl rfl ?_
    refine x_bipush (q := 234) (v := 8) dX10_drops_232 rfl (by decide) ?_
    refine x_ic_ge (q := 237) (t := 257) dX10_drops_234 rfl (by decide) (fun _ => ?_) (fun c_ => absurd (by decide) c_)
    exact Vg.weak K (by repeat first | exact trivial | refine ⟨rfl, ?_⟩)
  | succ k ih =>
    intro i hi
    refine x_iload (q := 232) dX10_drops_230 rfl rfl ?_
    refine x_bipush (q := 234) (v := 8) dX10_drops_232 rfl (by decide) ?_
    refine x_ic_ge (q := 237) (t := 257) dX10_drops_234 rfl (by decide) (fun c_ => absurd c_ (nI_ge (b := 8) (by omega) (by decide))) (fun _ => ?_)
    refine x_aload_n (q := 238) dX10_drops_237 rfl rfl rfl ?_
    refine x_get (q := 241) dX10_drops_238 rfl f_X10_54 (cl_132 (hS.si 147 _)) rfl (by decide) ?_
    refine x_iload (q := 243) dX10_drops_241 rfl rfl ?_
    refine x_aload_n (q := 244) dX10_drops_243 rfl rfl rfl ?_
    refine x_get (q := 247) dX10_drops_244 rfl f_X10_57 (cl_132 (hS.si 147 _)) rfl (by decide) ?_
    refine x_iload (q := 249) dX10_drops_247 rfl rfl ?_
    refine z_iald (q := 250) (j := i) dX10_drops_249 rfl (cl_148 (hS.si 147 _)) (by omega) (by decide) (by decide) ?_
    refine z_iast (q := 251) (j := i) dX10_drops_250 rfl (cl_147 (hS.si 147 _)) (by omega) (by decide) (by decide) ?_
    refine Vg.nm (fun h1 eh1 => ?_)
    have hS1 : Sh h1 := by rw [eh1]; exact (hS.si 147 _).si _ _
    refine x_iinc (q := 254) (v := nI (i + 1)) dX10_drops_251 rfl rfl (nI_inc _) (by decide) ?_
    refine x_goto (q := 230) dX10_drops_254 (by decide) ?_
    have e9 : h1 = (si h 147 (capF (gi h 147) (gi h 148) (i + 1))) := by rw [eh1, si_si, gi_si_eq hS (by decide) (by decide) rfl, gi_si_ne (show (148 : Nat) ≠ 147 by decide), capF_s]
    rw [e9]; exact Vg.weak (ih (i + 1) (by omega)) (by repeat first | exact trivial | refine ⟨rfl, ?_⟩)

theorem dr_147 {h : HF} (hS : Sh h) (D f : Nat → Int32) : gi (si (si h 147 D) 148 f) 147 = D := by rw [gi_si_ne (by decide), gi_si_eq hS (by decide) (by decide) rfl]
theorem dr_148 {h : HF} (hS : Sh h) (D f : Nat → Int32) : gi (si (si h 147 D) 148 f) 148 = f := by rw [gi_si_eq (hS.si _ _) (by decide) (by decide) rfl]
theorem dr_o {h : HF} {a : Nat} (h1 : a ≠ 147) (h2 : a ≠ 148) (D f : Nat → Int32) : gi (si (si h 147 D) 148 f) a = gi h a := by rw [gi_si_ne h2, gi_si_ne h1]
theorem dr_c {h : HF} (D f E : Nat → Int32) : si (si (si h 147 D) 148 f) 147 E = si (si h 147 E) 148 f := by rw [si_si_comm (show (148 : Nat) ≠ 147 by decide), si_si]
set_option maxHeartbeats 4000000 in
set_option maxRecDepth 100000 in
theorem lp_dr3 {Q : QF} {h : HF} (hS : Sh h) (t : Nat) (x y z room best bm : Int32) (D f : Nat → Int32) (nb : Nat) (hnb : fI h 132 1 = nI nb) (hnb8 : nb ≤ 8) (K : Vg mX10_drops none Q 140 [some (.ref 132), some (.int (nI t)), none, some (.int x), some (.int y), some (.int z), none, some (.int room), some (.int best), some (.int bm), some (.int (b2 (hnx (gi h 170) room nb f).1)), none, none, none] [] 170 (si (si h 147 D) 148 (hnx (gi h 170) room nb f).2) 0 0) : Vg mX10_drops none Q 257 [some (.ref 132), some (.int (nI t)), none, some (.int x), some (.int y), some (.int z), none, some (.int room), some (.int best), some (.int bm), none, none, none, none] [] 170 (si (si h 147 D) 148 f) 0 0 := by
  refine x_aload_n (q := 258) dX10_drops_257 rfl rfl rfl ?_
  refine x_aload_n (q := 259) dX10_drops_258 rfl rfl rfl ?_
  refine x_get (q := 262) dX10_drops_259 rfl f_X10_127 (cl_132 ((hS.si 147 D).si 148 f)) rfl (by decide) ?_
  refine x_iload (q := 264) dX10_drops_262 rfl rfl ?_
  have hc9 := c_X10_hasNext ((hS.si 147 D).si 148 f) room nb (by rw [fI_si, fI_si]; exact hnb) hnb8
  rw [dr_148 hS, dr_o (show (170 : Nat) ≠ 147 by decide) (show (170 : Nat) ≠ 148 by decide), si_si] at hc9
  refine y_cvI (q := 267) dX10_drops_264 rfl l_X10_191 hc9 rfl rfl (cl_132 ((hS.si 147 D).si 148 f)) (by decide) rfl rfl rfl rfl ?_
  refine Vg.nm (fun h1 eh1 => ?_)
  have hS1 : Sh h1 := by rw [eh1]; exact (hS.si _ _).si _ _
  refine x_istore (q := 269) dX10_drops_267 rfl (by decide) ?_
  refine x_goto (q := 140) dX10_drops_269 (by decide) ?_
  rw [eh1]; exact Vg.weak K (by repeat first | exact trivial | refine ⟨rfl, ?_⟩)
set_option maxHeartbeats 4000000 in
set_option maxRecDepth 100000 in
theorem lp_dr4 {Q : QF} {h : HF} (hS : Sh h) (t : Nat) (ht : t < 24) (x y z room best bm : Int32) (D f : Nat → Int32) (nb : Nat) (hnb : fI h 132 1 = nI nb) (hnb8 : nb ≤ 8) (K : Vg mX10_drops none Q 140 [some (.ref 132), some (.int (nI t)), none, some (.int x), some (.int y), some (.int z), none, some (.int room), some (.int (mdJ (fun f => ymiss (fun d => ysh (gi h 144) f (gi h 133) (gi h 134) (8 * t) d) x y z) best bm D f).1), some (.int (mdJ (fun f => ymiss (fun d => ysh (gi h 144) f (gi h 133) (gi h 134) (8 * t) d) x y z) best bm D f).2.1), some (.int (b2 (hnx (gi h 170) room nb f).1)), none, none, none] [] 170 (si (si h 147 (mdJ (fun f => ymiss (fun d => ysh (gi h 144) f (gi h 133) (gi h 134) (8 * t) d) x y z) best bm D f).2.2) 148 (hnx (gi h 170) room nb f).2) 0 0) : Vg mX10_drops none Q 140 [some (.ref 132), some (.int (nI t)), none, some (.int x), some (.int y), some (.int z), none, some (.int room), some (.int best), some (.int bm), some (.int 1), none, none, none] [] 170 (si (si h 147 D) 148 f) 0 0 := by
  refine x_iload (q := 142) dX10_drops_140 rfl rfl ?_
  refine x_if_eq (q := 145) (t := 272) dX10_drops_142 rfl (by decide) (fun c_ => absurd c_ (by decide)) (fun _ => ?_)
  refine x_aload_n (q := 146) dX10_drops_145 rfl rfl rfl ?_
  refine x_iload_n (q := 147) dX10_drops_146 rfl rfl rfl ?_
  refine x_aload_n (q := 148) dX10_drops_147 rfl rfl rfl ?_
  refine x_get (q := 151) dX10_drops_148 rfl f_X10_57 (cl_132 ((hS.si 147 D).si 148 f)) rfl (by decide) ?_
  refine x_iload_n (q := 152) dX10_drops_151 rfl rfl rfl ?_
  refine x_iload (q := 154) dX10_drops_152 rfl rfl ?_
  refine x_iload (q := 156) dX10_drops_154 rfl rfl ?_
  have hc9 := c_X10_missOf ((hS.si 147 D).si 148 f) (rm := 148) (by decide) rfl t ht x y z
  rw [dr_148 hS, dr_o (show (144 : Nat) ≠ 147 by decide) (show (144 : Nat) ≠ 148 by decide), dr_o (show (133 : Nat) ≠ 147 by decide) (show (133 : Nat) ≠ 148 by decide), dr_o (show (134 : Nat) ≠ 147 by decide) (show (134 : Nat) ≠ 148 by decide)] at hc9
  refine y_cvI (q := 159) dX10_drops_156 rfl l_X10_187 hc9 rfl rfl (cl_132 ((hS.si 147 D).si 148 f)) (by decide) rfl rfl rfl rfl ?_
  refine x_istore (q := 161) dX10_drops_159 rfl (by decide) ?_
  refine x_iconst (q := 162) (v := 0) dX10_drops_161 rfl (by decide) ?_
  refine x_istore (q := 164) dX10_drops_162 rfl (by decide) ?_
  refine x_iconst (q := 165) (v := 0) dX10_drops_164 rfl (by decide) ?_
  refine x_istore (q := 167) dX10_drops_165 rfl (by decide) ?_
  refine Vg.weak (lp_dr1 ((hS.si 147 D).si 148 f) t x y z room best bm ((fun f => ymiss (fun d => ysh (gi h 144) f (gi h 133) (gi h 134) (8 * t) d) x y z) f) ?_ 8 0 (by omega)) (by repeat first | exact trivial | refine ⟨rfl, ?_⟩)
  rw [dr_148 hS]
  refine x_iload (q := 194) dX10_drops_192 rfl rfl ?_
  refine x_iconst (q := 195) (v := -1) dX10_drops_194 rfl (by decide) ?_
  refine x_ic_eq (q := 198) (t := 219) dX10_drops_195 rfl (by decide) (fun c_195 => ?_) (fun c_195 => ?_)
  · refine x_iload (q := 221) dX10_drops_219 rfl rfl ?_
    refine x_istore (q := 223) dX10_drops_221 rfl (by decide) ?_
    refine x_iload (q := 225) dX10_drops_223 rfl rfl ?_
    refine x_istore (q := 227) dX10_drops_225 rfl (by decide) ?_
    refine x_iconst (q := 228) (v := 0) dX10_drops_227 rfl (by decide) ?_
    refine x_istore (q := 230) dX10_drops_228 rfl (by decide) ?_
    have e9 : (mdJ (fun f => ymiss (fun d => ysh (gi h 144) f (gi h 133) (gi h 134) (8 * t) d) x y z) best bm D f) = ((fun f => ymiss (fun d => ysh (gi h 144) f (gi h 133) (gi h 134) (8 * t) d) x y z) f, fsum f 8, capF D f 8) := by rw [mdJ, if_pos (by first | exact Or.inl c_195 | exact Or.inr (Or.inl c_202) | exact Or.inr (Or.inr (And.intro c_209 (Int32.not_le.mp c_216))))]
    rw [e9] at K
    have t9 := lp_dr2 ((hS.si 147 D).si 148 f) t x y z room ((fun f => ymiss (fun d => ysh (gi h 144) f (gi h 133) (gi h 134) (8 * t) d) x y z) f) (fsum f 8) (Q := Q) (by
      rw [dr_c, dr_147 hS, dr_148 hS]
      exact Vg.weak (lp_dr3 hS t x y z room ((fun f => ymiss (fun d => ysh (gi h 144) f (gi h 133) (gi h 134) (8 * t) d) x y z) f) (fsum f 8) (capF D f 8) f nb hnb hnb8 K) (by repeat first | exact trivial | refine ⟨rfl, ?_⟩)) 8 0 (by omega)
    rw [dr_c, dr_147 hS, dr_148 hS, capF_0] at t9
    exact Vg.weak t9 (by repeat first | exact trivial | refine ⟨rfl, ?_⟩)
  · refine x_iload (q := 200) dX10_drops_198 rfl rfl ?_
    refine x_iload (q := 202) dX10_drops_200 rfl rfl ?_
    refine x_ic_lt (q := 205) (t := 219) dX10_drops_202 rfl (by decide) (fun c_202 => ?_) (fun c_202 => ?_)
    · refine x_iload (q := 221) dX10_drops_219 rfl rfl ?_
      refine x_istore (q := 223) dX10_drops_221 rfl (by decide) ?_
      refine x_iload (q := 225) dX10_drops_223 rfl rfl ?_
      refine x_istore (q := 227) dX10_drops_225 rfl (by decide) ?_
      refine x_iconst (q := 228) (v := 0) dX10_drops_227 rfl (by decide) ?_
      refine x_istore (q := 230) dX10_drops_228 rfl (by decide) ?_
      have e9 : (mdJ (fun f => ymiss (fun d => ysh (gi h 144) f (gi h 133) (gi h 134) (8 * t) d) x y z) best bm D f) = ((fun f => ymiss (fun d => ysh (gi h 144) f (gi h 133) (gi h 134) (8 * t) d) x y z) f, fsum f 8, capF D f 8) := by rw [mdJ, if_pos (by first | exact Or.inl c_195 | exact Or.inr (Or.inl c_202) | exact Or.inr (Or.inr (And.intro c_209 (Int32.not_le.mp c_216))))]
      rw [e9] at K
      have t9 := lp_dr2 ((hS.si 147 D).si 148 f) t x y z room ((fun f => ymiss (fun d => ysh (gi h 144) f (gi h 133) (gi h 134) (8 * t) d) x y z) f) (fsum f 8) (Q := Q) (by
        rw [dr_c, dr_147 hS, dr_148 hS]
        exact Vg.weak (lp_dr3 hS t x y z room ((fun f => ymiss (fun d => ysh (gi h 144) f (gi h 133) (gi h 134) (8 * t) d) x y z) f) (fsum f 8) (capF D f 8) f nb hnb hnb8 K) (by repeat first | exact trivial | refine ⟨rfl, ?_⟩)) 8 0 (by omega)
      rw [dr_c, dr_147 hS, dr_148 hS, capF_0] at t9
      exact Vg.weak t9 (by repeat first | exact trivial | refine ⟨rfl, ?_⟩)
    · refine x_iload (q := 207) dX10_drops_205 rfl rfl ?_
      refine x_iload (q := 209) dX10_drops_207 rfl rfl ?_
      refine x_ic_ne (q := 212) (t := 257) dX10_drops_209 rfl (by decide) (fun c_209 => ?_) (fun c_209 => ?_)
      · have e9 : (mdJ (fun f => ymiss (fun d => ysh (gi h 144) f (gi h 133) (gi h 134) (8 * t) d) x y z) best bm D f) = (best, bm, D) := by rw [mdJ, if_neg (by first | exact (fun q => q.elim c_195 (fun q => q.elim c_202 (fun q => c_209 q.1))) | exact (fun q => q.elim c_195 (fun q => q.elim c_202 (fun q => Int32.not_le.mpr q.2 c_216))))]
        rw [e9] at K
        exact Vg.weak (lp_dr3 hS t x y z room best bm D f nb hnb hnb8 K) (by repeat first | exact trivial | refine ⟨rfl, ?_⟩)
      · refine x_iload (q := 214) dX10_drops_212 rfl rfl ?_
        refine x_iload (q := 216) dX10_drops_214 rfl rfl ?_
        refine x_ic_ge (q := 219) (t := 257) dX10_drops_216 rfl (by decide) (fun c_216 => ?_) (fun c_216 => ?_)
        · have e9 : (mdJ (fun f => ymiss (fun d => ysh (gi h 144) f (gi h 133) (gi h 134) (8 * t) d) x y z) best bm D f) = (best, bm, D) := by rw [mdJ, if_neg (by first | exact (fun q => q.elim c_195 (fun q => q.elim c_202 (fun q => c_209 q.1))) | exact (fun q => q.elim c_195 (fun q => q.elim c_202 (fun q => Int32.not_le.mpr q.2 c_216))))]
          rw [e9] at K
          exact Vg.weak (lp_dr3 hS t x y z room best bm D f nb hnb hnb8 K) (by repeat first | exact trivial | refine ⟨rfl, ?_⟩)
        · refine x_iload (q := 221) dX10_drops_219 rfl rfl ?_
          refine x_istore (q := 223) dX10_drops_221 rfl (by decide) ?_
          refine x_iload (q := 225) dX10_drops_223 rfl rfl ?_
          refine x_istore (q := 227) dX10_drops_225 rfl (by decide) ?_
          refine x_iconst (q := 228) (v := 0) dX10_drops_227 rfl (by decide) ?_
          refine x_istore (q := 230) dX10_drops_228 rfl (by decide) ?_
          have e9 : (mdJ (fun f => ymiss (fun d => ysh (gi h 144) f (gi h 133) (gi h 134) (8 * t) d) x y z) best bm D f) = ((fun f => ymiss (fun d => ysh (gi h 144) f (gi h 133) (gi h 134) (8 * t) d) x y z) f, fsum f 8, capF D f 8) := by rw [mdJ, if_pos (by first | exact Or.inl c_195 | exact Or.inr (Or.inl c_202) | exact Or.inr (Or.inr (And.intro c_209 (Int32.not_le.mp c_216))))]
          rw [e9] at K
          have t9 := lp_dr2 ((hS.si 147 D).si 148 f) t x y z room ((fun f => ymiss (fun d => ysh (gi h 144) f (gi h 133) (gi h 134) (8 * t) d) x y z) f) (fsum f 8) (Q := Q) (by
            rw [dr_c, dr_147 hS, dr_148 hS]
            exact Vg.weak (lp_dr3 hS t x y z room ((fun f => ymiss (fun d => ysh (gi h 144) f (gi h 133) (gi h 134) (8 * t) d) x y z) f) (fsum f 8) (capF D f 8) f nb hnb hnb8 K) (by repeat first | exact trivial | refine ⟨rfl, ?_⟩)) 8 0 (by omega)
          rw [dr_c, dr_147 hS, dr_148 hS, capF_0] at t9
          exact Vg.weak t9 (by repeat first | exact trivial | refine ⟨rfl, ?_⟩)
set_option maxHeartbeats 4000000 in
set_option maxRecDepth 100000 in
theorem lp_dr5 {h : HF} (hS : Sh h) (t : Nat) (x y z room best bm : Int32) : Vg mX10_drops none (QM mX10_drops 170 (RI best (sI h 132 19 1))) 140 [some (.ref 132), some (.int (nI t)), none, some (.int x), some (.int y), some (.int z), none, some (.int room), some (.int best), some (.int bm), some (.int 0), none, none, none] [] 170 h 0 0 := by
  refine x_iload (q := 142) dX10_drops_140 rfl rfl ?_
  refine x_if_eq (q := 145) (t := 272) dX10_drops_142 rfl (by decide) (fun _ => ?_) (fun c_ => absurd (by decide) c_)
  refine x_aload_n (q := 273) dX10_drops_272 rfl rfl rfl ?_
  refine x_iconst (q := 274) (v := 1) dX10_drops_273 rfl (by decide) ?_
  refine y_put (q := 277) dX10_drops_274 rfl f_X10_195 (cl_132 hS) rfl (by first | rfl | decide) (by first | rfl | decide) (by decide) ?_
  refine Vg.nm (fun h1 eh1 => ?_)
  have hS1 : Sh h1 := by rw [eh1]; exact hS.sI _ _ _
  have hc1_132_19 : fI h1 132 19 = nI (1) := by rw [eh1]; exact fI_sI_eq hS (by decide) (by decide) rfl _
  refine x_iload (q := 279) dX10_drops_277 rfl rfl ?_
  exact x_iret dX10_drops_279 ⟨_, rfl, by first | rfl | (split <;> rfl)⟩ rfl (Nat.le_refl _) rfl ⟨rfl, eh1⟩
set_option maxHeartbeats 4000000 in
set_option maxRecDepth 100000 in
theorem lp_dr6 {h : HF} (hS : Sh h) (t : Nat) (ht : t < 24) (x y z room : Int32) (nb : Nat) (hnb : fI h 132 1 = nI nb) (hnb8 : nb ≤ 8) : ∀ (k : Nat) (best bm : Int32) (D f : Nat → Int32), hnok (gi h 170) room nb k f → Vg mX10_drops none (QM mX10_drops 170 (RI (mdR (fun f => ymiss (fun d => ysh (gi h 144) f (gi h 133) (gi h 134) (8 * t) d) x y z) (gi h 170) room nb k best bm D f).1 (sI (si (si h 147 (mdR (fun f => ymiss (fun d => ysh (gi h 144) f (gi h 133) (gi h 134) (8 * t) d) x y z) (gi h 170) room nb k best bm D f).2.1) 148 (mdR (fun f => ymiss (fun d => ysh (gi h 144) f (gi h 133) (gi h 134) (8 * t) d) x y z) (gi h 170) room nb k best bm D f).2.2) 132 19 1))) 140 [some (.ref 132), some (.int (nI t)), none, some (.int x), some (.int y), some (.int z), none, some (.int room), some (.int best), some (.int bm), some (.int 1), none, none, none] [] 170 (si (si h 147 D) 148 f) 0 0 := by
  intro k
  induction k with
  | zero =>
    intro best bm D f hk
    refine lp_dr4 hS t ht x y z room best bm D f nb hnb hnb8 ?_
    rw [show (hnx (gi h 170) room nb f).1 = false from hk]
    exact lp_dr5 ((hS.si _ _).si _ _) t x y z room _ _
  | succ k ih =>
    intro best bm D f hk
    refine lp_dr4 hS t ht x y z room best bm D f nb hnb hnb8 ?_
    cases e : (hnx (gi h 170) room nb f).1 with
    | false =>
      rw [mdR_end e]
      exact lp_dr5 ((hS.si _ _).si _ _) t x y z room _ _
    | true =>
      rw [mdR, if_pos e]
      exact ih _ _ _ _ (hk.resolve_left (by rw [e]; decide))
def drC (h : HF) (nb nl : Nat) : Nat → Int32 := capF (gi h 170) (fun j => if j < nb then sU (gi h 135) (gi h 137) (gi h 136) (fI h 132 0) (nI j) nl else 0) 8
def drZ (h : HF) : Nat → Int32 := filF (gi h 148) 0 8
def drG (h : HF) (nb nl : Nat) : HF := si (si h 170 (drC h nb nl)) 148 (drZ h)
set_option maxHeartbeats 4000000 in
set_option maxRecDepth 100000 in
theorem lp_dr7 {Q : QF} {h : HF} (hS : Sh h) (t : Nat) (x y z room : Int32) (nb : Nat) (hnb : fI h 132 1 = nI nb) (hnb8 : nb ≤ 8) (nl : Nat) (hnl : fI h 132 4 = nI nl) (hnl40 : nl ≤ 40) (K : Vg mX10_drops none Q 131 [some (.ref 132), some (.int (nI t)), none, some (.int x), some (.int y), some (.int z), none, some (.int room), none, none, none, none, none, none] [] 170 (drG h nb nl) 0 0) : ∀ (k i : Nat), i + k = 8 → Vg mX10_drops none Q 84 [some (.ref 132), some (.int (nI t)), none, some (.int x), some (.int y), some (.int z), none, some (.int room), some (.int (nI i)), none, none, none, none, none] [] 170 (si (si h 170 (capF (gi h 170) (fun j => if j < nb then sU (gi h 135) (gi h 137) (gi h 136) (fI h 132 0) (nI j) nl else 0) i)) 148 (filF (gi h 148) 0 i)) 0 0 := by
  intro k
  induction k with
  | zero =>
    intro i hi
    obtain rfl : i = 8 := by omega
    refine x_iload (q := 86) dX10_drops_84 rfl rfl ?_
    refine x_bipush (q := 88) (v := 8) dX10_drops_86 rfl (by decide) ?_
    refine x_ic_ge (q := 91) (t := 131) dX10_drops_88 rfl (by decide) (fun _ => ?_) (fun c_ => absurd (by decide) c_)
    exact Vg.weak K (by repeat first | exact trivial | refine ⟨rfl, ?_⟩)
  | succ k ih =>
    intro i hi
    have hb9 : fI (si (si h 170 (capF (gi h 170) (fun j => if j < nb then sU (gi h 135) (gi h 137) (gi h 136) (fI h 132 0) (nI j) nl else 0) i)) 148 (filF (gi h 148) 0 i)) 132 1 = nI nb := by rw [fI_si, fI_si]; exact hnb
    have hc9 := c_X10_mayOf (h := (si (si h 170 (capF (gi h 170) (fun j => if j < nb then sU (gi h 135) (gi h 137) (gi h 136) (fI h 132 0) (nI j) nl else 0) i)) 148 (filF (gi h 148) 0 i))) ((hS.si 170 _).si 148 _) (nI i) nl (by rw [fI_si, fI_si]; exact hnl) hnl40
    rw [gi_si_ne (show (135 : Nat) ≠ 148 by decide), gi_si_ne (show (135 : Nat) ≠ 170 by decide), gi_si_ne (show (136 : Nat) ≠ 148 by decide), gi_si_ne (show (136 : Nat) ≠ 170 by decide), gi_si_ne (show (137 : Nat) ≠ 148 by decide), gi_si_ne (show (137 : Nat) ≠ 170 by decide), fI_si, fI_si] at hc9
    refine x_iload (q := 86) dX10_drops_84 rfl rfl ?_
    refine x_bipush (q := 88) (v := 8) dX10_drops_86 rfl (by decide) ?_
    refine x_ic_ge (q := 91) (t := 131) dX10_drops_88 rfl (by decide) (fun c_ => absurd c_ (nI_ge (b := 8) (by omega) (by decide))) (fun _ => ?_)
    refine x_aload_n (q := 92) dX10_drops_91 rfl rfl rfl ?_
    refine x_get (q := 95) dX10_drops_92 rfl f_X10_127 (cl_132 ((hS.si 170 _).si 148 _)) rfl (by decide) ?_
    refine x_iload (q := 97) dX10_drops_95 rfl rfl ?_
    refine x_iload (q := 99) dX10_drops_97 rfl rfl ?_
    refine x_aload_n (q := 100) dX10_drops_99 rfl rfl rfl ?_
    refine x_get (q := 103) dX10_drops_100 rfl f_X10_130 (cl_132 ((hS.si 170 _).si 148 _)) rfl (by decide) ?_
    rw [hb9]
    refine x_ic_ge (q := 106) (t := 115) dX10_drops_103 rfl (by decide) (fun c_103 => ?_) (fun c_103 => ?_)
    · refine x_iconst (q := 116) (v := 0) dX10_drops_115 rfl (by decide) ?_
      refine z_iast (q := 117) (j := i) dX10_drops_116 rfl (cl_170 ((hS.si 170 _).si 148 _)) (by omega) (by decide) (by decide) ?_
      refine Vg.nm (fun h1 eh1 => ?_)
      have hS1 : Sh h1 := by rw [eh1]; exact ((hS.si 170 _).si 148 _).si _ _
      have hc1_132_1 : fI h1 132 1 = nI (nb) := by rw [eh1]; first | (simp only [fI_si, fI_sl, fI_sJ]; exact hb9) | (rw [fI_sI_ne (by omega)]; exact hb9) | (rw [fI_sI_k (by decide)]; exact hb9) | (simp (disch := omega) only [mixAdd, fI_si, fI_sl, fI_sJ, fI_sI_ne, fI_sI_k]; exact hb9)
      refine x_aload_n (q := 118) dX10_drops_117 rfl rfl rfl ?_
      refine x_get (q := 121) dX10_drops_118 rfl f_X10_57 (cl_132 hS1) rfl (by decide) ?_
      refine x_iload (q := 123) dX10_drops_121 rfl rfl ?_
      refine x_iconst (q := 124) (v := 0) dX10_drops_123 rfl (by decide) ?_
      refine z_iast (q := 125) (j := i) dX10_drops_124 rfl (cl_148 hS1) (by omega) (by decide) (by decide) ?_
      refine Vg.nm (fun h2 eh2 => ?_)
      have hS2 : Sh h2 := by rw [eh2]; exact hS1.si _ _
      have hc2_132_1 : fI h2 132 1 = nI (nb) := by rw [eh2]; first | (simp only [fI_si, fI_sl, fI_sJ]; exact hc1_132_1) | (rw [fI_sI_ne (by omega)]; exact hc1_132_1) | (rw [fI_sI_k (by decide)]; exact hc1_132_1) | (simp (disch := omega) only [mixAdd, fI_si, fI_sl, fI_sJ, fI_sI_ne, fI_sI_k]; exact hc1_132_1)
      refine x_iinc (q := 128) (v := nI (i + 1)) dX10_drops_125 rfl rfl (nI_inc _) (by decide) ?_
      refine x_goto (q := 84) dX10_drops_128 (by decide) ?_
      have e9 : h2 = (si (si h 170 (capF (gi h 170) (fun j => if j < nb then sU (gi h 135) (gi h 137) (gi h 136) (fI h 132 0) (nI j) nl else 0) (i + 1))) 148 (filF (gi h 148) 0 (i + 1))) := by
        rw [eh2, eh1, ← capF_s (gi h 170) (fun j => if j < nb then sU (gi h 135) (gi h 137) (gi h 136) (fI h 132 0) (nI j) nl else 0) i, ← filF_s (gi h 148) 0 i, (if_neg (show ¬ i < nb from fun q => absurd ((nI_ltI (by omega) (by omega)).mpr q) (Int32.not_lt.mpr c_103)))]
        rw [gi_si_ne (show (148 : Nat) ≠ 170 by decide), gi_si_eq (hS.si _ _) (by decide) (by decide) rfl, gi_si_ne (show (170 : Nat) ≠ 148 by decide), gi_si_eq hS (by decide) (by decide) rfl, si_si_comm (show (148 : Nat) ≠ 170 by decide), si_si, si_si]
      rw [e9]; exact Vg.weak (ih (i + 1) (by omega)) (by repeat first | exact trivial | refine ⟨rfl, ?_⟩)
    · refine x_aload_n (q := 107) dX10_drops_106 rfl rfl rfl ?_
      refine x_iload (q := 109) dX10_drops_107 rfl rfl ?_
      refine y_cvI (q := 112) dX10_drops_109 rfl l_X10_154 hc9 rfl rfl (cl_132 ((hS.si 170 _).si 148 _)) (by decide) rfl rfl rfl rfl ?_
      refine x_goto (q := 116) dX10_drops_112 (by decide) ?_
      refine z_iast (q := 117) (j := i) dX10_drops_116 rfl (cl_170 ((hS.si 170 _).si 148 _)) (by omega) (by decide) (by decide) ?_
      refine Vg.nm (fun h3 eh3 => ?_)
      have hS3 : Sh h3 := by rw [eh3]; exact ((hS.si 170 _).si 148 _).si _ _
      have hc3_132_1 : fI h3 132 1 = nI (nb) := by rw [eh3]; first | (simp only [fI_si, fI_sl, fI_sJ]; exact hb9) | (rw [fI_sI_ne (by omega)]; exact hb9) | (rw [fI_sI_k (by decide)]; exact hb9) | (simp (disch := omega) only [mixAdd, fI_si, fI_sl, fI_sJ, fI_sI_ne, fI_sI_k]; exact hb9)
      refine x_aload_n (q := 118) dX10_drops_117 rfl rfl rfl ?_
      refine x_get (q := 121) dX10_drops_118 rfl f_X10_57 (cl_132 hS3) rfl (by decide) ?_
      refine x_iload (q := 123) dX10_drops_121 rfl rfl ?_
      refine x_iconst (q := 124) (v := 0) dX10_drops_123 rfl (by decide) ?_
      refine z_iast (q := 125) (j := i) dX10_drops_124 rfl (cl_148 hS3) (by omega) (by decide) (by decide) ?_
      refine Vg.nm (fun h4 eh4 => ?_)
      have hS4 : Sh h4 := by rw [eh4]; exact hS3.si _ _
      have hc4_132_1 : fI h4 132 1 = nI (nb) := by rw [eh4]; first | (simp only [fI_si, fI_sl, fI_sJ]; exact hc3_132_1) | (rw [fI_sI_ne (by omega)]; exact hc3_132_1) | (rw [fI_sI_k (by decide)]; exact hc3_132_1) | (simp (disch := omega) only [mixAdd, fI_si, fI_sl, fI_sJ, fI_sI_ne, fI_sI_k]; exact hc3_132_1)
      refine x_iinc (q := 128) (v := nI (i + 1)) dX10_drops_125 rfl rfl (nI_inc _) (by decide) ?_
      refine x_goto (q := 84) dX10_drops_128 (by decide) ?_
      have e9 : h4 = (si (si h 170 (capF (gi h 170) (fun j => if j < nb then sU (gi h 135) (gi h 137) (gi h 136) (fI h 132 0) (nI j) nl else 0) (i + 1))) 148 (filF (gi h 148) 0 (i + 1))) := by
        rw [eh4, eh3, ← capF_s (gi h 170) (fun j => if j < nb then sU (gi h 135) (gi h 137) (gi h 136) (fI h 132 0) (nI j) nl else 0) i, ← filF_s (gi h 148) 0 i, (if_pos (show i < nb from (nI_ltI (by omega) (by omega)).mp (Int32.not_le.mp c_103)))]
        rw [gi_si_ne (show (148 : Nat) ≠ 170 by decide), gi_si_eq (hS.si _ _) (by decide) (by decide) rfl, gi_si_ne (show (170 : Nat) ≠ 148 by decide), gi_si_eq hS (by decide) (by decide) rfl, si_si_comm (show (148 : Nat) ≠ 170 by decide), si_si, si_si]
      rw [e9]; exact Vg.weak (ih (i + 1) (by omega)) (by repeat first | exact trivial | refine ⟨rfl, ?_⟩)

def vmDr2 (h : HF) (t : Nat) (m x y z : Int32) (nb nl K : Nat) : Int32 := if gi h 146 t = 0 then if usum (gi h 144) t 8 = 0 then -4 else (mdR (fun f => ymiss (fun d => ysh (gi h 144) f (gi h 133) (gi h 134) (8 * t) d) x y z) (drC h nb nl) (minI m (20000 - usum (gi h 144) t 8)) nb K (-1) 0 (gi h 147) (drZ h)).1 else -4
def umDr2 (h : HF) (t : Nat) (m x y z : Int32) (nb nl K : Nat) : HF := if gi h 146 t = 0 then if usum (gi h 144) t 8 = 0 then h else sI (si (si (drG h nb nl) 147 (mdR (fun f => ymiss (fun d => ysh (gi h 144) f (gi h 133) (gi h 134) (8 * t) d) x y z) (drC h nb nl) (minI m (20000 - usum (gi h 144) t 8)) nb K (-1) 0 (gi h 147) (drZ h)).2.1) 148 (mdR (fun f => ymiss (fun d => ysh (gi h 144) f (gi h 133) (gi h 134) (8 * t) d) x y z) (drC h nb nl) (minI m (20000 - usum (gi h 144) t 8)) nb K (-1) 0 (gi h 147) (drZ h)).2.2) 132 19 1 else h
def vmDr (h : HF) (t m x y z : Int32) (nt nb nl K : Nat) : Int32 := if ltB t (nI nt) = true then if inB m 0 8 = true then if aimB x y z = true then vmDr2 h t.toNatClampNeg m x y z nb nl K else -3 else -3 else -2
def umDr (h : HF) (t m x y z : Int32) (nt nb nl K : Nat) : HF := if ltB t (nI nt) = true then if inB m 0 8 = true then if aimB x y z = true then umDr2 h t.toNatClampNeg m x y z nb nl K else h else h else h
theorem drG_170 {h : HF} (hS : Sh h) (nb nl : Nat) : gi (drG h nb nl) 170 = drC h nb nl := by rw [drG, gi_si_ne (by decide), gi_si_eq hS (by decide) (by decide) rfl]
theorem drG_148 {h : HF} (hS : Sh h) (nb nl : Nat) : gi (drG h nb nl) 148 = drZ h := by rw [drG, gi_si_eq (hS.si _ _) (by decide) (by decide) rfl]
theorem drG_o {h : HF} {a : Nat} (h1 : a ≠ 170) (h2 : a ≠ 148) (nb nl : Nat) : gi (drG h nb nl) a = gi h a := by rw [drG, gi_si_ne h2, gi_si_ne h1]
theorem minI_le1 {m u : Int32} {b : Int32} (h : m ≤ b) : minI m u ≤ b := by
  rw [minI]
  split
  · rename_i q; exact Int32.le_trans (Int32.le_of_lt q) h
  · exact h
set_option maxHeartbeats 4000000 in
set_option maxRecDepth 100000 in
theorem c_X10_drops {h : HF} (hS : Sh h) (t m x y z : Int32) (nt : Nat) (hnt : fI h 132 15 = nI nt) (hnt24 : nt ≤ 24) (nb : Nat) (hnb : fI h 132 1 = nI nb) (hnb8 : nb ≤ 8) (nl : Nat) (hnl : fI h 132 4 = nI nl) (hnl40 : nl ≤ 40) (K : Nat) (hko : ∀ room : Int32, room ≤ 8 → hnok (drC h nb nl) room nb K (drZ h)) : Mc mX10_drops [.ref 132, .int t, .int m, .int x, .int y, .int z] 170 h (RI (vmDr h t m x y z nt nb nl K) (umDr h t m x y z nt nb nl K)) := by
  refine Mc.of (by decide) rfl (Nat.le_of_ble_eq_true rfl) ?_
  refine x_aload_n (q := 1) dX10_drops_0 rfl rfl rfl ?_
  refine x_iload_n (q := 2) dX10_drops_1 rfl rfl rfl ?_
  refine y_cvI (q := 5) dX10_drops_2 rfl l_X10_165 (c_X10_isBatch hS _ nt hnt hnt24) rfl rfl (cl_132 hS) (by decide) rfl rfl rfl rfl ?_
  refine x_if_ne (q := 8) (t := 11) dX10_drops_5 rfl (by decide) (fun c_5 => ?_) (fun c_5 => ?_)
  · replace c_5 := b2y c_5
    refine x_iload_n (q := 12) dX10_drops_11 rfl rfl rfl ?_
    refine x_iconst (q := 13) (v := 0) dX10_drops_12 rfl (by decide) ?_
    refine x_bipush (q := 15) (v := 8) dX10_drops_13 rfl (by decide) ?_
    refine y_csI (q := 18) dX10_drops_15 rfl l_X10_133 (c_X10_in hS _ _ _) rfl rfl rfl rfl rfl rfl ?_
    refine x_if_eq (q := 21) (t := 32) dX10_drops_18 rfl (by decide) (fun c_18 => ?_) (fun c_18 => ?_)
    · replace c_18 := b2n c_18
      refine x_bipush (q := 34) (v := -3) dX10_drops_32 rfl (by decide) ?_
      exact x_iret dX10_drops_34 ⟨_, rfl, by first | rfl | (split <;> rfl)⟩ rfl (Nat.le_refl _) rfl ⟨by simp [vmDr, c_5, c_18], by simp [umDr, c_5, c_18]⟩
    · replace c_18 := b2y c_18
      refine x_iload_n (q := 22) dX10_drops_21 rfl rfl rfl ?_
      refine x_iload (q := 24) dX10_drops_22 rfl rfl ?_
      refine x_iload (q := 26) dX10_drops_24 rfl rfl ?_
      refine y_csI (q := 29) dX10_drops_26 rfl l_X10_184 (c_X10_isAim hS _ _ _) rfl rfl rfl rfl rfl rfl ?_
      refine x_if_ne (q := 32) (t := 35) dX10_drops_29 rfl (by decide) (fun c_29 => ?_) (fun c_29 => ?_)
      · replace c_29 := b2y c_29
        obtain ⟨k, hk, rfl⟩ := ltB_of (by omega) c_5
        refine x_aload_n (q := 36) dX10_drops_35 rfl rfl rfl ?_
        refine x_iload_n (q := 37) dX10_drops_36 rfl rfl rfl ?_
        refine y_cvI (q := 40) dX10_drops_37 rfl l_X10_168 (c_X10_unitsOf hS k (by omega)) rfl rfl (cl_132 hS) (by decide) rfl rfl rfl rfl ?_
        refine x_istore (q := 42) dX10_drops_40 rfl (by decide) ?_
        refine x_aload_n (q := 43) dX10_drops_42 rfl rfl rfl ?_
        refine x_get (q := 46) dX10_drops_43 rfl f_X10_51 (cl_132 hS) rfl (by decide) ?_
        refine x_iload_n (q := 47) dX10_drops_46 rfl rfl rfl ?_
        refine z_zald (q := 48) (j := k) dX10_drops_47 rfl (cl_146 hS) (by omega) (by decide) (by decide) ?_
        refine x_if_ne (q := 51) (t := 56) dX10_drops_48 rfl (by decide) (fun c_48 => ?_) (fun c_48 => ?_)
        · refine x_bipush (q := 58) (v := -4) dX10_drops_56 rfl (by decide) ?_
          exact x_iret dX10_drops_58 ⟨_, rfl, by first | rfl | (split <;> rfl)⟩ rfl (Nat.le_refl _) rfl ⟨by simp [vmDr, vmDr2, c_5, c_18, c_29, c_48, nI_clamp (show k < 2 ^ 31 by omega)], by simp [umDr, umDr2, c_5, c_18, c_29, c_48, nI_clamp (show k < 2 ^ 31 by omega)]⟩
        · refine x_iload (q := 53) dX10_drops_51 rfl rfl ?_
          refine x_if_ne (q := 56) (t := 59) dX10_drops_53 rfl (by decide) (fun c_53 => ?_) (fun c_53 => ?_)
          · refine x_sipush (q := 62) (v := 20000) dX10_drops_59 rfl (by decide) ?_
            refine x_iload (q := 64) dX10_drops_62 rfl rfl ?_
            refine x_isub (q := 65) dX10_drops_64 rfl ?_
            refine x_iload_n (q := 66) dX10_drops_65 rfl rfl rfl ?_
            refine x_ic_ge (q := 69) (t := 78) dX10_drops_66 rfl (by decide) (fun c_66 => ?_) (fun c_66 => ?_)
            · refine x_iload_n (q := 79) dX10_drops_78 rfl rfl rfl ?_
              refine x_istore (q := 81) dX10_drops_79 rfl (by decide) ?_
              refine x_iconst (q := 82) (v := 0) dX10_drops_81 rfl (by decide) ?_
              refine x_istore (q := 84) dX10_drops_82 rfl (by decide) ?_
              have e0 : (minI m (20000 - usum (gi h 144) k 8)) = _ := (if_neg (Int32.not_lt.mpr c_66))
              have e1 : vmDr h (nI k) m x y z nt nb nl K = vmDr2 h k m x y z nb nl K := by simp only [vmDr, c_5, c_18, c_29, nI_clamp (show k < 2 ^ 31 by omega), if_true]
              have e2 : umDr h (nI k) m x y z nt nb nl K = umDr2 h k m x y z nb nl K := by simp only [umDr, c_5, c_18, c_29, nI_clamp (show k < 2 ^ 31 by omega), if_true]
              rw [e1, e2, vmDr2, umDr2, if_pos c_48, if_pos c_48, if_neg c_53, if_neg c_53, e0]
              have hG : Sh (drG h nb nl) := (hS.si _ _).si _ _
              have hk9 : hnok (gi (drG h nb nl) 170) (minI m (20000 - usum (gi h 144) k 8)) nb K (drZ h) := by rw [drG_170 hS]; exact hko _ (minI_le1 (decide_eq_true_eq.mp (Bool.and_eq_true _ _ ▸ c_18 : _ ∧ _).2))
              have t9 := lp_dr6 hG k (by omega) x y z (minI m (20000 - usum (gi h 144) k 8)) nb (by rw [drG, fI_si, fI_si]; exact hnb) hnb8 K (-1) 0 (gi h 147) (drZ h) hk9
              rw [drG_170 hS, drG_o (show (144 : Nat) ≠ 170 by decide) (by decide), drG_o (show (133 : Nat) ≠ 170 by decide) (by decide), drG_o (show (134 : Nat) ≠ 170 by decide) (by decide)] at t9
              have ez : si (si (drG h nb nl) 147 (gi h 147)) 148 (drZ h) = (drG h nb nl) := by
                rw [← drG_o (h := h) (a := 147) (by decide) (by decide) nb nl, si_gi, ← drG_148 hS nb nl, si_gi]
              rw [ez, e0] at t9
              have t8 := lp_dr7 hS k x y z _ nb hnb hnb8 nl hnl hnl40 (Q := QM mX10_drops 170 _) (by
                refine x_iconst (q := 132) (v := -1) dX10_drops_131 rfl (by decide) ?_
                refine x_istore (q := 134) dX10_drops_132 rfl (by decide) ?_
                refine x_iconst (q := 135) (v := 0) dX10_drops_134 rfl (by decide) ?_
                refine x_istore (q := 137) dX10_drops_135 rfl (by decide) ?_
                refine x_iconst (q := 138) (v := 1) dX10_drops_137 rfl (by decide) ?_
                refine x_istore (q := 140) dX10_drops_138 rfl (by decide) ?_
                exact Vg.weak t9 (by repeat first | exact trivial | refine ⟨rfl, ?_⟩)) 8 0 (by omega)
              rw [capF_0, filF_0, si_gi, si_gi] at t8
              exact Vg.weak t8 (by repeat first | exact trivial | refine ⟨rfl, ?_⟩)
            · refine x_sipush (q := 72) (v := 20000) dX10_drops_69 rfl (by decide) ?_
              refine x_iload (q := 74) dX10_drops_72 rfl rfl ?_
              refine x_isub (q := 75) dX10_drops_74 rfl ?_
              refine x_goto (q := 79) dX10_drops_75 (by decide) ?_
              refine x_istore (q := 81) dX10_drops_79 rfl (by decide) ?_
              refine x_iconst (q := 82) (v := 0) dX10_drops_81 rfl (by decide) ?_
              refine x_istore (q := 84) dX10_drops_82 rfl (by decide) ?_
              have e0 : (minI m (20000 - usum (gi h 144) k 8)) = _ := (if_pos (Int32.not_le.mp c_66))
              have e1 : vmDr h (nI k) m x y z nt nb nl K = vmDr2 h k m x y z nb nl K := by simp only [vmDr, c_5, c_18, c_29, nI_clamp (show k < 2 ^ 31 by omega), if_true]
              have e2 : umDr h (nI k) m x y z nt nb nl K = umDr2 h k m x y z nb nl K := by simp only [umDr, c_5, c_18, c_29, nI_clamp (show k < 2 ^ 31 by omega), if_true]
              rw [e1, e2, vmDr2, umDr2, if_pos c_48, if_pos c_48, if_neg c_53, if_neg c_53, e0]
              have hG : Sh (drG h nb nl) := (hS.si _ _).si _ _
              have hk9 : hnok (gi (drG h nb nl) 170) (minI m (20000 - usum (gi h 144) k 8)) nb K (drZ h) := by rw [drG_170 hS]; exact hko _ (minI_le1 (decide_eq_true_eq.mp (Bool.and_eq_true _ _ ▸ c_18 : _ ∧ _).2))
              have t9 := lp_dr6 hG k (by omega) x y z (minI m (20000 - usum (gi h 144) k 8)) nb (by rw [drG, fI_si, fI_si]; exact hnb) hnb8 K (-1) 0 (gi h 147) (drZ h) hk9
              rw [drG_170 hS, drG_o (show (144 : Nat) ≠ 170 by decide) (by decide), drG_o (show (133 : Nat) ≠ 170 by decide) (by decide), drG_o (show (134 : Nat) ≠ 170 by decide) (by decide)] at t9
              have ez : si (si (drG h nb nl) 147 (gi h 147)) 148 (drZ h) = (drG h nb nl) := by
                rw [← drG_o (h := h) (a := 147) (by decide) (by decide) nb nl, si_gi, ← drG_148 hS nb nl, si_gi]
              rw [ez, e0] at t9
              have t8 := lp_dr7 hS k x y z _ nb hnb hnb8 nl hnl hnl40 (Q := QM mX10_drops 170 _) (by
                refine x_iconst (q := 132) (v := -1) dX10_drops_131 rfl (by decide) ?_
                refine x_istore (q := 134) dX10_drops_132 rfl (by decide) ?_
                refine x_iconst (q := 135) (v := 0) dX10_drops_134 rfl (by decide) ?_
                refine x_istore (q := 137) dX10_drops_135 rfl (by decide) ?_
                refine x_iconst (q := 138) (v := 1) dX10_drops_137 rfl (by decide) ?_
                refine x_istore (q := 140) dX10_drops_138 rfl (by decide) ?_
                exact Vg.weak t9 (by repeat first | exact trivial | refine ⟨rfl, ?_⟩)) 8 0 (by omega)
              rw [capF_0, filF_0, si_gi, si_gi] at t8
              exact Vg.weak t8 (by repeat first | exact trivial | refine ⟨rfl, ?_⟩)
          · refine x_bipush (q := 58) (v := -4) dX10_drops_56 rfl (by decide) ?_
            exact x_iret dX10_drops_58 ⟨_, rfl, by first | rfl | (split <;> rfl)⟩ rfl (Nat.le_refl _) rfl ⟨by simp [vmDr, vmDr2, c_5, c_18, c_29, c_48, c_53, nI_clamp (show k < 2 ^ 31 by omega)], by simp [umDr, umDr2, c_5, c_18, c_29, c_48, c_53, nI_clamp (show k < 2 ^ 31 by omega)]⟩
      · replace c_29 := b2n c_29
        refine x_bipush (q := 34) (v := -3) dX10_drops_32 rfl (by decide) ?_
        exact x_iret dX10_drops_34 ⟨_, rfl, by first | rfl | (split <;> rfl)⟩ rfl (Nat.le_refl _) rfl ⟨by simp [vmDr, c_5, c_18, c_29], by simp [umDr, c_5, c_18, c_29]⟩
  · replace c_5 := b2n c_5
    refine x_bipush (q := 10) (v := -2) dX10_drops_8 rfl (by decide) ?_
    exact x_iret dX10_drops_10 ⟨_, rfl, by first | rfl | (split <;> rfl)⟩ rfl (Nat.le_refl _) rfl ⟨by simp [vmDr, c_5], by simp [umDr, c_5]⟩

