set_option maxHeartbeats 4000000 in
set_option maxRecDepth 100000 in
theorem c_X1_need {h : HF} (hS : Sh h) (r b : Nat) (hr : r < 12) (hb : b < 8) : Mc mX1_need [.ref 9, .int (nI r), .int (nI b)] 170 h (RI (gi h 14 (r * 8 + b)) h) := by
  refine Mc.of (by decide) rfl (Nat.le_of_ble_eq_true rfl) ?_
  refine x_aload_n (q := 1) dX1_need_0 rfl rfl rfl ?_
  refine x_get (q := 4) dX1_need_1 rfl f_X1_25 (cl_9 hS) rfl (by decide) ?_
  refine x_iload_n (q := 5) dX1_need_4 rfl rfl rfl ?_
  refine x_bipush (q := 7) (v := 8) dX1_need_5 rfl (by decide) ?_
  refine x_imul (q := 8) dX1_need_7 rfl ?_
  refine x_iload_n (q := 9) dX1_need_8 rfl rfl rfl ?_
  refine x_iadd (q := 10) dX1_need_9 rfl ?_
  rw [ix8]
  refine z_iald (q := 11) (j := r * 8 + b) dX1_need_10 rfl (cl_14 hS) (by omega) (by decide) (by decide) ?_
  exact x_iret dX1_need_11 ⟨_, rfl, by first | rfl | (split <;> rfl)⟩ rfl (Nat.le_refl _) rfl ⟨rfl, rfl⟩

def apN (f : Nat → Int32) (r s : Nat) (t : Int32) : Nat → Int32 := upd f (r * 8 + s) (f (r * 8 + s) + t)
def apE (f : Nat → Int32) (r s : Nat) (t : Int32) (i : Nat) : Nat → Int32 := fun j => if r * 8 ≤ j ∧ j < r * 8 + i then f j + t * f (s * 8 + (j - r * 8)) else f j
theorem apE_0 (f : Nat → Int32) (r s : Nat) (t : Int32) : apE f r s t 0 = f := by
  funext j; simp only [apE]; rw [if_neg (by omega)]
theorem apE_s (f : Nat → Int32) (r s : Nat) (t : Int32) (i : Nat) (hs : s < r) (hi : i < 8) : upd (apE f r s t i) (r * 8 + i) (apE f r s t i (r * 8 + i) + t * apE f r s t i (s * 8 + i)) = apE f r s t (i + 1) := by
  funext j
  have e1 : apE f r s t i (r * 8 + i) = f (r * 8 + i) := by simp only [apE]; rw [if_neg (by omega)]
  have e2 : apE f r s t i (s * 8 + i) = f (s * 8 + i) := by simp only [apE]; rw [if_neg (by omega)]
  rw [e1, e2]
  simp only [upd, apE]
  by_cases h1 : j = r * 8 + i
  · subst h1
    rw [if_pos rfl, if_pos (by omega), show r * 8 + i - r * 8 = i by omega]
  · rw [if_neg h1]
    by_cases h2 : r * 8 ≤ j ∧ j < r * 8 + i
    · rw [if_pos h2, if_pos (by omega)]
    · rw [if_neg h2, if_neg (by omega)]
set_option maxHeartbeats 4000000 in
set_option maxRecDepth 100000 in
theorem c_X1_apN {h : HF} (hS : Sh h) (r p s : Nat) (hr : r < 12) (hp : p < 72) (hsrc : gi h 11 p = nI s) (hs : s < 8) (he : gi h 10 p = 0) : Mc mX1_addPartToTrial [.ref 9, .int (nI r), .int (nI p)] 170 h (RV (si h 15 (apN (gi h 15) r s (gi h 12 p)))) := by
  refine Mc.of (by decide) rfl (Nat.le_of_ble_eq_true rfl) ?_
  refine x_iload_n (q := 1) dX1_addPartToTrial_0 rfl rfl rfl ?_
  refine x_bipush (q := 3) (v := 8) dX1_addPartToTrial_1 rfl (by decide) ?_
  refine x_imul (q := 4) dX1_addPartToTrial_3 rfl ?_
  rw [show nI r * 8 = nI (r * 8) from pk_mul r 8]
  refine x_istore_n (q := 5) dX1_addPartToTrial_4 rfl rfl (by decide) ?_
  refine x_aload_n (q := 6) dX1_addPartToTrial_5 rfl rfl rfl ?_
  refine x_get (q := 9) dX1_addPartToTrial_6 rfl f_X1_9 (cl_9 hS) rfl (by decide) ?_
  refine x_iload_n (q := 10) dX1_addPartToTrial_9 rfl rfl rfl ?_
  refine z_zald (q := 11) (j := p) dX1_addPartToTrial_10 rfl (cl_10 hS) (by omega) (by decide) (by decide) ?_
  refine x_if_ne (q := 14) (t := 37) dX1_addPartToTrial_11 rfl (by decide) (fun c_ => absurd c_ (fun z => z he)) (fun _ => ?_)
  refine x_aload_n (q := 15) dX1_addPartToTrial_14 rfl rfl rfl ?_
  refine x_get (q := 18) dX1_addPartToTrial_15 rfl f_X1_28 (cl_9 hS) rfl (by decide) ?_
  refine x_iload_n (q := 19) dX1_addPartToTrial_18 rfl rfl rfl ?_
  refine x_aload_n (q := 20) dX1_addPartToTrial_19 rfl rfl rfl ?_
  refine x_get (q := 23) dX1_addPartToTrial_20 rfl f_X1_15 (cl_9 hS) rfl (by decide) ?_
  refine x_iload_n (q := 24) dX1_addPartToTrial_23 rfl rfl rfl ?_
  refine z_iald (q := 25) (j := p) dX1_addPartToTrial_24 rfl (cl_11 hS) (by omega) (by decide) (by decide) ?_
  rw [hsrc]
  refine x_iadd (q := 26) dX1_addPartToTrial_25 rfl ?_
  rw [nI_add]
  refine x_dup2 (q := 27) dX1_addPartToTrial_26 rfl rfl rfl ?_
  refine z_iald (q := 28) (j := r * 8 + s) dX1_addPartToTrial_27 rfl (cl_15 hS) (by omega) (by decide) (by decide) ?_
  refine x_aload_n (q := 29) dX1_addPartToTrial_28 rfl rfl rfl ?_
  refine x_get (q := 32) dX1_addPartToTrial_29 rfl f_X1_19 (cl_9 hS) rfl (by decide) ?_
  refine x_iload_n (q := 33) dX1_addPartToTrial_32 rfl rfl rfl ?_
  refine z_iald (q := 34) (j := p) dX1_addPartToTrial_33 rfl (cl_12 hS) (by omega) (by decide) (by decide) ?_
  refine x_iadd (q := 35) dX1_addPartToTrial_34 rfl ?_
  refine z_iast (q := 36) (j := r * 8 + s) dX1_addPartToTrial_35 rfl (cl_15 hS) (by omega) (by decide) (by decide) ?_
  refine Vg.nm (fun h1 eh1 => ?_)
  have hS1 : Sh h1 := by rw [eh1]; exact hS.si _ _
  exact x_vret dX1_addPartToTrial_36 rfl rfl (Nat.le_refl _) rfl ⟨rfl, by subst_vars; rfl⟩

set_option maxHeartbeats 4000000 in
set_option maxRecDepth 100000 in
theorem lp_apE {h : HF} (hS : Sh h) (r p s : Nat) (hr : r < 12) (hp : p < 72) (hsrc : gi h 11 p = nI s) (hs : s < r) : ∀ (k i : Nat), i + k = 8 → Vg mX1_addPartToTrial none (QM mX1_addPartToTrial 170 (RV (si h 15 (apE (gi h 15) r s (gi h 12 p) 8)))) 40 [some (.ref 9), some (.int (nI r)), some (.int (nI p)), some (.int (nI (r * 8))), some (.int (nI i))] [] 170 (si h 15 (apE (gi h 15) r s (gi h 12 p) i)) 0 0 := by
  intro k
  induction k with
  | zero =>
    intro i hi
    obtain rfl : i = 8 := by omega
    refine x_iload (q := 42) dX1_addPartToTrial_40 rfl rfl ?_
    refine x_bipush (q := 44) (v := 8) dX1_addPartToTrial_42 rfl (by decide) ?_
    refine x_ic_ge (q := 47) (t := 89) dX1_addPartToTrial_44 rfl (by decide) (fun _ => ?_) (fun c_ => absurd (by decide) c_)
    exact x_vret dX1_addPartToTrial_89 rfl rfl (Nat.le_refl _) rfl ⟨rfl, rfl⟩
  | succ k ih =>
    intro i hi
    refine x_iload (q := 42) dX1_addPartToTrial_40 rfl rfl ?_
    refine x_bipush (q := 44) (v := 8) dX1_addPartToTrial_42 rfl (by decide) ?_
    refine x_ic_ge (q := 47) (t := 89) dX1_addPartToTrial_44 rfl (by decide) (fun c_ => absurd c_ (nI_ge (b := 8) (by omega) (by decide))) (fun _ => ?_)
    refine x_aload_n (q := 48) dX1_addPartToTrial_47 rfl rfl rfl ?_
    refine x_get (q := 51) dX1_addPartToTrial_48 rfl f_X1_28 (cl_9 (hS.si 15 _)) rfl (by decide) ?_
    refine x_iload_n (q := 52) dX1_addPartToTrial_51 rfl rfl rfl ?_
    refine x_iload (q := 54) dX1_addPartToTrial_52 rfl rfl ?_
    refine x_iadd (q := 55) dX1_addPartToTrial_54 rfl ?_
    rw [nI_add]
    refine x_dup2 (q := 56) dX1_addPartToTrial_55 rfl rfl rfl ?_
    refine z_iald (q := 57) (j := r * 8 + i) dX1_addPartToTrial_56 rfl (cl_15 (hS.si 15 _)) (by omega) (by decide) (by decide) ?_
    refine x_aload_n (q := 58) dX1_addPartToTrial_57 rfl rfl rfl ?_
    refine x_get (q := 61) dX1_addPartToTrial_58 rfl f_X1_19 (cl_9 (hS.si 15 _)) rfl (by decide) ?_
    refine x_iload_n (q := 62) dX1_addPartToTrial_61 rfl rfl rfl ?_
    refine z_iald (q := 63) (j := p) dX1_addPartToTrial_62 rfl (cl_12 (hS.si 15 _)) (by omega) (by decide) (by decide) ?_
    refine x_aload_n (q := 64) dX1_addPartToTrial_63 rfl rfl rfl ?_
    refine x_get (q := 67) dX1_addPartToTrial_64 rfl f_X1_28 (cl_9 (hS.si 15 _)) rfl (by decide) ?_
    refine x_aload_n (q := 68) dX1_addPartToTrial_67 rfl rfl rfl ?_
    refine x_get (q := 71) dX1_addPartToTrial_68 rfl f_X1_15 (cl_9 (hS.si 15 _)) rfl (by decide) ?_
    refine x_iload_n (q := 72) dX1_addPartToTrial_71 rfl rfl rfl ?_
    refine z_iald (q := 73) (j := p) dX1_addPartToTrial_72 rfl (cl_11 (hS.si 15 _)) (by omega) (by decide) (by decide) ?_
    rw [gi_si_ne (show (11 : Nat) ≠ 15 by decide), hsrc]
    refine x_bipush (q := 75) (v := 8) dX1_addPartToTrial_73 rfl (by decide) ?_
    refine x_imul (q := 76) dX1_addPartToTrial_75 rfl ?_
    refine x_iload (q := 78) dX1_addPartToTrial_76 rfl rfl ?_
    refine x_iadd (q := 79) dX1_addPartToTrial_78 rfl ?_
    rw [ix8]
    refine z_iald (q := 80) (j := s * 8 + i) dX1_addPartToTrial_79 rfl (cl_15 (hS.si 15 _)) (by omega) (by decide) (by decide) ?_
    refine x_imul (q := 81) dX1_addPartToTrial_80 rfl ?_
    refine x_iadd (q := 82) dX1_addPartToTrial_81 rfl ?_
    refine z_iast (q := 83) (j := r * 8 + i) dX1_addPartToTrial_82 rfl (cl_15 (hS.si 15 _)) (by omega) (by decide) (by decide) ?_
    refine Vg.nm (fun h1 eh1 => ?_)
    have hS1 : Sh h1 := by rw [eh1]; exact (hS.si 15 _).si _ _
    refine x_iinc (q := 86) (v := nI (i + 1)) dX1_addPartToTrial_83 rfl rfl (nI_inc _) (by decide) ?_
    refine x_goto (q := 40) dX1_addPartToTrial_86 (by decide) ?_
    have e9 : h1 = (si h 15 (apE (gi h 15) r s (gi h 12 p) (i + 1))) := by rw [eh1, si_si, gi_si_eq hS (by decide) (by decide) rfl, gi_si_ne (show (12 : Nat) ≠ 15 by decide), apE_s _ _ _ _ _ hs (by omega)]
    rw [e9]; exact ih (i + 1) (by omega)

set_option maxHeartbeats 4000000 in
set_option maxRecDepth 100000 in
theorem c_X1_apE {h : HF} (hS : Sh h) (r p s : Nat) (hr : r < 12) (hp : p < 72) (hsrc : gi h 11 p = nI s) (hs : s < r) (he : ¬ gi h 10 p = 0) : Mc mX1_addPartToTrial [.ref 9, .int (nI r), .int (nI p)] 170 h (RV (si h 15 (apE (gi h 15) r s (gi h 12 p) 8))) := by
  refine Mc.of (by decide) rfl (Nat.le_of_ble_eq_true rfl) ?_
  refine x_iload_n (q := 1) dX1_addPartToTrial_0 rfl rfl rfl ?_
  refine x_bipush (q := 3) (v := 8) dX1_addPartToTrial_1 rfl (by decide) ?_
  refine x_imul (q := 4) dX1_addPartToTrial_3 rfl ?_
  rw [show nI r * 8 = nI (r * 8) from pk_mul r 8]
  refine x_istore_n (q := 5) dX1_addPartToTrial_4 rfl rfl (by decide) ?_
  refine x_aload_n (q := 6) dX1_addPartToTrial_5 rfl rfl rfl ?_
  refine x_get (q := 9) dX1_addPartToTrial_6 rfl f_X1_9 (cl_9 hS) rfl (by decide) ?_
  refine x_iload_n (q := 10) dX1_addPartToTrial_9 rfl rfl rfl ?_
  refine z_zald (q := 11) (j := p) dX1_addPartToTrial_10 rfl (cl_10 hS) (by omega) (by decide) (by decide) ?_
  refine x_if_ne (q := 14) (t := 37) dX1_addPartToTrial_11 rfl (by decide) (fun _ => ?_) (fun c_ => absurd c_ he)
  refine x_iconst (q := 38) (v := 0) dX1_addPartToTrial_37 rfl (by decide) ?_
  refine x_istore (q := 40) dX1_addPartToTrial_38 rfl (by decide) ?_
  have t9 := lp_apE hS r p s hr hp hsrc hs 8 0 (by omega)
  rw [apE_0, si_gi] at t9
  exact t9

def apP (E S T : Nat → Int32) (r : Nat) (f : Nat → Int32) (p : Nat) : Nat → Int32 := if E p = 0 then apN f r (S p).toNatClampNeg (T p) else apE f r (S p).toNatClampNeg (T p) 8
/-- the parts of a recipe are of bases or of elder recipes -/
def okp (E S : Nat → Int32) (r p : Nat) : Prop := ∃ s : Nat, S p = nI s ∧ (E p = 0 → s < 8) ∧ (¬ E p = 0 → s < r)
theorem c_X1_apP {h : HF} (hS : Sh h) (r p : Nat) (hr : r < 12) (hp : p < 72) (ho : okp (gi h 10) (gi h 11) r p) : Mc mX1_addPartToTrial [.ref 9, .int (nI r), .int (nI p)] 170 h (RV (si h 15 (apP (gi h 10) (gi h 11) (gi h 12) r (gi h 15) p))) := by
  obtain ⟨s, e1, e2, e3⟩ := ho
  by_cases he : gi h 10 p = 0
  · have := c_X1_apN hS r p s hr hp e1 (e2 he) he
    simp only [apP, if_pos he, e1, nI_clamp (show s < 2 ^ 31 by have := e2 he; omega)]
    exact this
  · have := c_X1_apE hS r p s hr hp e1 (e3 he) he
    simp only [apP, if_neg he, e1, nI_clamp (show s < 2 ^ 31 by have := e3 he; omega)]
    exact this
def rrP (E S T : Nat → Int32) (r : Nat) (f : Nat → Int32) : Nat → Nat → Int32
  | 0 => f
  | i + 1 => apP E S T r (rrP E S T r f i) (r * 6 + i)
def rsum (f : Nat → Int32) (r : Nat) : Nat → Int32
  | 0 => 0
  | i + 1 => rsum f r i + f (r * 8 + i)
set_option maxHeartbeats 4000000 in
set_option maxRecDepth 100000 in
theorem lp_rr1 {h : HF} (hS : Sh h) (r c : Nat) (hr : r < 12) (hc : c ≤ 6) (hpc : gi h 13 r = nI c) (hok : ∀ i, i < c → okp (gi h 10) (gi h 11) r (r * 6 + i)) : ∀ (k i : Nat), i + k = 8 → Vg mX1_resolveInTrial none (QM mX1_resolveInTrial 170 (RI (rsum (rrP (gi h 10) (gi h 11) (gi h 12) r (gi h 15) c) r 8) (si h 15 (rrP (gi h 10) (gi h 11) (gi h 12) r (gi h 15) c)))) 33 [some (.ref 9), some (.int (nI r)), some (.int (rsum (rrP (gi h 10) (gi h 11) (gi h 12) r (gi h 15) c) r i)), some (.int (nI i))] [] 170 (si h 15 (rrP (gi h 10) (gi h 11) (gi h 12) r (gi h 15) c)) 0 0 := by
  intro k
  induction k with
  | zero =>
    intro i hi
    obtain rfl : i = 8 := by omega
    refine x_iload_n (q := 34) dX1_resolveInTrial_33 rfl rfl rfl ?_
    refine x_bipush (q := 36) (v := 8) dX1_resolveInTrial_34 rfl (by decide) ?_
    refine x_ic_ge (q := 39) (t := 59) dX1_resolveInTrial_36 rfl (by decide) (fun _ => ?_) (fun c_ => absurd (by decide) c_)
    refine x_iload_n (q := 60) dX1_resolveInTrial_59 rfl rfl rfl ?_
    exact x_iret dX1_resolveInTrial_60 ⟨_, rfl, by first | rfl | (split <;> rfl)⟩ rfl (Nat.le_refl _) rfl ⟨rfl, rfl⟩
  | succ k ih =>
    intro i hi
    refine x_iload_n (q := 34) dX1_resolveInTrial_33 rfl rfl rfl ?_
    refine x_bipush (q := 36) (v := 8) dX1_resolveInTrial_34 rfl (by decide) ?_
    refine x_ic_ge (q := 39) (t := 59) dX1_resolveInTrial_36 rfl (by decide) (fun c_ => absurd c_ (nI_ge (b := 8) (by omega) (by decide))) (fun _ => ?_)
    refine x_iload_n (q := 40) dX1_resolveInTrial_39 rfl rfl rfl ?_
    refine x_aload_n (q := 41) dX1_resolveInTrial_40 rfl rfl rfl ?_
    refine x_get (q := 44) dX1_resolveInTrial_41 rfl f_X1_28 (cl_9 (hS.si 15 _)) rfl (by decide) ?_
    refine x_iload_n (q := 45) dX1_resolveInTrial_44 rfl rfl rfl ?_
    refine x_bipush (q := 47) (v := 8) dX1_resolveInTrial_45 rfl (by decide) ?_
    refine x_imul (q := 48) dX1_resolveInTrial_47 rfl ?_
    refine x_iload_n (q := 49) dX1_resolveInTrial_48 rfl rfl rfl ?_
    refine x_iadd (q := 50) dX1_resolveInTrial_49 rfl ?_
    rw [ix8]
    refine z_iald (q := 51) (j := r * 8 + i) dX1_resolveInTrial_50 rfl (cl_15 (hS.si 15 _)) (by omega) (by decide) (by decide) ?_
    rw [gi_si_eq hS (by decide) (by decide) rfl]
    refine x_iadd (q := 52) dX1_resolveInTrial_51 rfl ?_
    refine x_istore_n (q := 53) dX1_resolveInTrial_52 rfl rfl (by decide) ?_
    refine x_iinc (q := 56) (v := nI (i + 1)) dX1_resolveInTrial_53 rfl rfl (nI_inc _) (by decide) ?_
    refine x_goto (q := 33) dX1_resolveInTrial_56 (by decide) ?_
    exact ih (i + 1) (by omega)

set_option maxHeartbeats 4000000 in
set_option maxRecDepth 100000 in
theorem lp_rr0 {h : HF} (hS : Sh h) (r c : Nat) (hr : r < 12) (hc : c ≤ 6) (hpc : gi h 13 r = nI c) (hok : ∀ i, i < c → okp (gi h 10) (gi h 11) r (r * 6 + i)) : ∀ (k i : Nat), i + k = c → Vg mX1_resolveInTrial none (QM mX1_resolveInTrial 170 (RI (rsum (rrP (gi h 10) (gi h 11) (gi h 12) r (gi h 15) c) r 8) (si h 15 (rrP (gi h 10) (gi h 11) (gi h 12) r (gi h 15) c)))) 2 [some (.ref 9), some (.int (nI r)), some (.int (nI i)), none] [] 170 (si h 15 (rrP (gi h 10) (gi h 11) (gi h 12) r (gi h 15) i)) 0 0 := by
  intro k
  induction k with
  | zero =>
    intro i hi
    obtain rfl : i = c := by omega
    refine x_iload_n (q := 3) dX1_resolveInTrial_2 rfl rfl rfl ?_
    refine x_aload_n (q := 4) dX1_resolveInTrial_3 rfl rfl rfl ?_
    refine x_get (q := 7) dX1_resolveInTrial_4 rfl f_X1_22 (cl_9 (hS.si 15 _)) rfl (by decide) ?_
    refine x_iload_n (q := 8) dX1_resolveInTrial_7 rfl rfl rfl ?_
    refine z_iald (q := 9) (j := r) dX1_resolveInTrial_8 rfl (cl_13 (hS.si 15 _)) (by omega) (by decide) (by decide) ?_
    rw [gi_si_ne (show (13 : Nat) ≠ 15 by decide), hpc]
    refine x_ic_ge (q := 12) (t := 29) dX1_resolveInTrial_9 rfl (by decide) (fun _ => ?_) (fun c_ => absurd (nI_le (Nat.le_refl _) (by omega)) c_)
    refine x_iconst (q := 30) (v := 0) dX1_resolveInTrial_29 rfl (by decide) ?_
    refine x_istore_n (q := 31) dX1_resolveInTrial_30 rfl rfl (by decide) ?_
    refine x_iconst (q := 32) (v := 0) dX1_resolveInTrial_31 rfl (by decide) ?_
    refine x_istore_n (q := 33) dX1_resolveInTrial_32 rfl rfl (by decide) ?_
    exact lp_rr1 hS r i hr hc hpc hok 8 0 (by omega)
  | succ k ih =>
    intro i hi
    refine x_iload_n (q := 3) dX1_resolveInTrial_2 rfl rfl rfl ?_
    refine x_aload_n (q := 4) dX1_resolveInTrial_3 rfl rfl rfl ?_
    refine x_get (q := 7) dX1_resolveInTrial_4 rfl f_X1_22 (cl_9 (hS.si 15 _)) rfl (by decide) ?_
    refine x_iload_n (q := 8) dX1_resolveInTrial_7 rfl rfl rfl ?_
    refine z_iald (q := 9) (j := r) dX1_resolveInTrial_8 rfl (cl_13 (hS.si 15 _)) (by omega) (by decide) (by decide) ?_
    rw [gi_si_ne (show (13 : Nat) ≠ 15 by decide), hpc]
    refine x_ic_ge (q := 12) (t := 29) dX1_resolveInTrial_9 rfl (by decide) (fun c_ => absurd c_ (nI_ge (by omega) (by omega))) (fun _ => ?_)
    refine x_aload_n (q := 13) dX1_resolveInTrial_12 rfl rfl rfl ?_
    refine x_iload_n (q := 14) dX1_resolveInTrial_13 rfl rfl rfl ?_
    refine x_iload_n (q := 15) dX1_resolveInTrial_14 rfl rfl rfl ?_
    refine x_bipush (q := 17) (v := 6) dX1_resolveInTrial_15 rfl (by decide) ?_
    refine x_imul (q := 18) dX1_resolveInTrial_17 rfl ?_
    refine x_iload_n (q := 19) dX1_resolveInTrial_18 rfl rfl rfl ?_
    refine x_iadd (q := 20) dX1_resolveInTrial_19 rfl ?_
    rw [ix6]
    refine y_cvV (q := 23) dX1_resolveInTrial_20 rfl l_X1_55 (c_X1_apP (hS.si 15 _) r (r * 6 + i) hr (by omega) (by rw [gi_si_ne (show (10 : Nat) ≠ 15 by decide), gi_si_ne (show (11 : Nat) ≠ 15 by decide)]; exact hok i (by omega))) rfl rfl (cl_9 (hS.si 15 _)) (by decide) rfl rfl rfl rfl ?_
    refine Vg.nm (fun h1 eh1 => ?_)
    have hS1 : Sh h1 := by rw [eh1]; exact ((hS.si 15 _)).si 15 _
    refine x_iinc (q := 26) (v := nI (i + 1)) dX1_resolveInTrial_23 rfl rfl (nI_inc _) (by decide) ?_
    refine x_goto (q := 2) dX1_resolveInTrial_26 (by decide) ?_
    have e9 : h1 = (si h 15 (rrP (gi h 10) (gi h 11) (gi h 12) r (gi h 15) (i + 1))) := by rw [eh1, si_si, gi_si_eq hS (by decide) (by decide) rfl, gi_si_ne (show (10 : Nat) ≠ 15 by decide), gi_si_ne (show (11 : Nat) ≠ 15 by decide), gi_si_ne (show (12 : Nat) ≠ 15 by decide)]; rfl
    rw [e9]; exact ih (i + 1) (by omega)

set_option maxHeartbeats 4000000 in
set_option maxRecDepth 100000 in
theorem c_X1_resolveInTrial {h : HF} (hS : Sh h) (r c : Nat) (hr : r < 12) (hc : c ≤ 6) (hpc : gi h 13 r = nI c) (hok : ∀ i, i < c → okp (gi h 10) (gi h 11) r (r * 6 + i)) : Mc mX1_resolveInTrial [.ref 9, .int (nI r)] 170 h (RI (rsum (rrP (gi h 10) (gi h 11) (gi h 12) r (gi h 15) c) r 8) (si h 15 (rrP (gi h 10) (gi h 11) (gi h 12) r (gi h 15) c))) := by
  refine Mc.of (by decide) rfl (Nat.le_of_ble_eq_true rfl) ?_
  refine x_iconst (q := 1) (v := 0) dX1_resolveInTrial_0 rfl (by decide) ?_
  refine x_istore_n (q := 2) dX1_resolveInTrial_1 rfl rfl (by decide) ?_
  have t9 := lp_rr0 hS r c hr hc hpc hok c 0 (by omega)
  rw [show (rrP (gi h 10) (gi h 11) (gi h 12) r (gi h 15) 0) = gi h 15 from rfl, si_gi] at t9
  exact t9

