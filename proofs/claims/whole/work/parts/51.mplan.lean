def cntb (D : Nat) : Nat → Nat
  | 0 => 0
  | n + 1 => cntb D n + (if D.testBit n = true then 1 else 0)
theorem cntb_or0 : ∀ (D : Fin 256) (n : Fin 9) (m : Fin 8), m.val < n.val → D.val.testBit m.val = false → cntb (D.val ||| 2 ^ m.val) n.val = cntb D.val n.val + 1 := by decide +kernel
theorem cntb_or {D n m : Nat} (hD : D < 256) (hn : n ≤ 8) (hm : m < n) (hb : D.testBit m = false) : cntb (D ||| 2 ^ m) n = cntb D n + 1 := cntb_or0 ⟨D, hD⟩ ⟨n, by omega⟩ ⟨m, by omega⟩ hm hb
theorem cntb_free {D : Nat} : ∀ {n : Nat}, cntb D n < n → ∃ m, m < n ∧ D.testBit m = false
  | 0, h => by omega
  | n + 1, h => by
    by_cases hb : D.testBit n = true
    · rw [cntb, if_pos hb] at h
      obtain ⟨m, h1, h2⟩ := cntb_free (D := D) (n := n) (by omega)
      exact ⟨m, by omega, h2⟩
    · exact ⟨n, by omega, Bool.eq_false_iff.mpr hb⟩
theorem bnR_free {cost : Nat → Int32} {D : Nat} : ∀ {n m : Nat}, m < n → D.testBit m = false → ∃ q, bnR cost D n = some q
  | 0, m, h, _ => by omega
  | n + 1, m, h, hb => by
    by_cases ht : D.testBit n = true
    · rw [bnR_b ht]
      have : m ≠ n := fun e => by rw [e, ht] at hb; exact absurd hb (by decide)
      exact bnR_free (by omega) hb
    · have ht := Bool.eq_false_iff.mpr ht
      cases hn : bnR cost D n with
      | none => exact ⟨_, bnR_n ht hn⟩
      | some q =>
        by_cases hc : cost n < q.2
        · exact ⟨_, bnR_l ht (m := q.1) (l := q.2) hn hc⟩
        · exact ⟨_, bnR_g ht (m := q.1) (l := q.2) hn hc⟩
theorem bnR_full {cost : Nat → Int32} {D : Nat} : ∀ {n : Nat}, (∀ m, m < n → D.testBit m = true) → bnR cost D n = none
  | 0, _ => rfl
  | n + 1, h => by rw [bnR_b (h n (by omega))]; exact bnR_full (fun m hm => h m (by omega))
def mvV (h : HF) (z D u : Nat) : Int32 := match bnR (fun j => thF h z D u j) D z with
  | none => 0
  | some q => thF h z D u q.1
def mvL (h : HF) (z D l : Nat) : Int32 := if D.testBit l = true then mvV h z D (hM h l) else 0
def mvC (h : HF) (z D l : Nat) : HF := si h 168 (upd (gi h 168) (9 * D + l) (mvL h z D l))
def mvU (z D : Nat) : Nat → Nat → HF → HF
  | 0, _, h => h
  | k + 1, l, h => mvU z D k (l + 1) (mvC h z D l)
def mvD (z : Nat) : Nat → HF → HF
  | 0, h => h
  | k + 1, h => mvD z k (mvU z k z 0 h)
def moR (z : Nat) : Nat → Nat → Nat → Nat → HF → HF
  | 0, _, _, _, h => h
  | k + 1, i, D, u, h => match bnR (fun j => thF h z D u j) D z with
    | none => h
    | some q => moR z k (i + 1) (D ||| 2 ^ q.1) (hM h q.1) (si h 167 (upd (gi h 167) i (nI q.1)))
theorem Sh.mvC {h : HF} (hS : Sh h) (z D l : Nat) : Sh (mvC h z D l) := hS.si _ _
theorem Sh_mvU (z D : Nat) : ∀ (k l : Nat) {h : HF}, Sh h → Sh (mvU z D k l h)
  | 0, _, _, hS => hS
  | k + 1, l, _, hS => Sh_mvU z D k (l + 1) (hS.mvC _ _ _)
theorem Sh_mvD (z : Nat) : ∀ (k : Nat) {h : HF}, Sh h → Sh (mvD z k h)
  | 0, _, hS => hS
  | k + 1, _, hS => Sh_mvD z k (Sh_mvU z k z 0 hS)
theorem Sh_moR (z : Nat) : ∀ (k i D u : Nat) {h : HF}, Sh h → Sh (moR z k i D u h)
  | 0, _, _, _, _, hS => hS
  | k + 1, i, D, u, h, hS => by
    unfold moR
    split
    · exact hS
    · exact Sh_moR z k _ _ _ (hS.si _ _)
theorem fI_mvU (z D a j : Nat) : ∀ (k l : Nat) (h : HF), fI (mvU z D k l h) a j = fI h a j
  | 0, _, _ => rfl
  | k + 1, l, h => by rw [mvU, fI_mvU z D a j k, mvC, fI_si]
theorem gi_mvU (z D : Nat) {a : Nat} (ha : a ≠ 168) : ∀ (k l : Nat) (h : HF), gi (mvU z D k l h) a = gi h a
  | 0, _, _ => rfl
  | k + 1, l, h => by rw [mvU, gi_mvU z D ha k, mvC, gi_si_ne ha]
theorem fI_mvD (z a j : Nat) : ∀ (k : Nat) (h : HF), fI (mvD z k h) a j = fI h a j
  | 0, _ => rfl
  | k + 1, h => by rw [mvD, fI_mvD z a j k, fI_mvU]
theorem gi_mvD (z : Nat) {a : Nat} (ha : a ≠ 168) : ∀ (k : Nat) (h : HF), gi (mvD z k h) a = gi h a
  | 0, _ => rfl
  | k + 1, h => by rw [mvD, gi_mvD z ha k, gi_mvU z _ ha]
theorem okM_of {h h' : HF} {z : Nat} (e : gi h' 162 = gi h 162) (hok : okM h z) : okM h' z := by
  intro j hj
  simp only [hM, e]; exact hok j hj
set_option maxHeartbeats 4000000 in
set_option maxRecDepth 100000 in
theorem lp_pl0 {Q : QF} (u z D : Nat) (hD : D < 256) (hz8 : z ≤ 8) : ∀ (k l : Nat) (h : HF), Sh h → fI h 132 38 = nI z → okM h z → l + k = z → Vg mX10_plan none Q 107 [some (.ref 132), some (.int (nI u)), none, some (.int (nI D)), none, none, none, none] [] 170 (mvU z D k l h) 0 0 → Vg mX10_plan none Q 28 [some (.ref 132), some (.int (nI u)), none, some (.int (nI D)), some (.int (nI l)), none, none, none] [] 170 h 0 0 := by
  intro k
  induction k with
  | zero =>
    intro l h hS hz hok hl K
    obtain rfl : l = z := by omega
    refine x_iload (q := 30) dX10_plan_28 rfl rfl ?_
    refine x_aload_n (q := 31) dX10_plan_30 rfl rfl rfl ?_
    refine x_get (q := 34) dX10_plan_31 rfl f_X10_219 (cl_132 hS) rfl (by decide) ?_
    rw [hz]
    refine x_ic_ge (q := 37) (t := 107) dX10_plan_34 rfl (by decide) (fun _ => ?_) (fun c_ => absurd (nI_le (Nat.le_refl _) (by omega)) c_)
    exact Vg.weak K (by repeat first | exact trivial | refine ⟨rfl, ?_⟩)
  | succ k ih =>
    intro l h hS hz hok hl K
    by_cases hb : D.testBit l = true
    case' neg =>
      refine x_iload (q := 30) dX10_plan_28 rfl rfl ?_
      refine x_aload_n (q := 31) dX10_plan_30 rfl rfl rfl ?_
      refine x_get (q := 34) dX10_plan_31 rfl f_X10_219 (cl_132 hS) rfl (by decide) ?_
      rw [hz]
      refine x_ic_ge (q := 37) (t := 107) dX10_plan_34 rfl (by decide) (fun c_ => absurd c_ (nI_ge (by omega) (by omega))) (fun _ => ?_)
      refine x_iload_n (q := 38) dX10_plan_37 rfl rfl rfl ?_
      refine x_iload (q := 40) dX10_plan_38 rfl rfl ?_
      refine x_ishr (q := 41) dX10_plan_40 rfl ?_
      refine x_iconst (q := 42) (v := 1) dX10_plan_41 rfl (by decide) ?_
      refine x_iand (q := 43) dX10_plan_42 rfl ?_
      refine x_iconst (q := 44) (v := 1) dX10_plan_43 rfl (by decide) ?_
      refine x_ic_ne (q := 47) (t := 62) dX10_plan_44 rfl (by decide) (fun _ => ?_) (fun c_ => absurd c_ (fun q => hb ((sb1 hD (by omega)).mp q)))
      refine x_iconst (q := 63) (v := -1) dX10_plan_62 rfl (by decide) ?_
      refine x_istore (q := 65) dX10_plan_63 rfl (by decide) ?_
      refine x_aload_n (q := 66) dX10_plan_65 rfl rfl rfl ?_
      refine x_get (q := 69) dX10_plan_66 rfl f_X10_121 (cl_132 hS) rfl (by decide) ?_
      refine x_bipush (q := 71) (v := 9) dX10_plan_69 rfl (by decide) ?_
      refine x_iload_n (q := 72) dX10_plan_71 rfl rfl rfl ?_
      refine x_imul (q := 73) dX10_plan_72 rfl ?_
      refine x_iload (q := 75) dX10_plan_73 rfl rfl ?_
      refine x_iadd (q := 76) dX10_plan_75 rfl ?_
      rw [ux9]
      refine x_iload (q := 78) dX10_plan_76 rfl rfl ?_
      refine x_iconst (q := 79) (v := -1) dX10_plan_78 rfl (by decide) ?_
      refine x_ic_ne (q := 82) (t := 86) dX10_plan_79 rfl (by decide) (fun c_ => absurd c_ (by decide)) (fun _ => ?_)
      refine x_iconst (q := 83) (v := 0) dX10_plan_82 rfl (by decide) ?_
      refine x_goto (q := 100) dX10_plan_83 (by decide) ?_
      refine z_iast (q := 101) (j := 9 * D + l) dX10_plan_100 rfl (cl_168 hS) (by omega) (by decide) (by decide) ?_
      refine Vg.nm (fun h1 eh1 => ?_)
      have hS1 : Sh h1 := by rw [eh1]; exact hS.si _ _
      have hc1_132_38 : fI h1 132 38 = nI (z) := by rw [eh1]; first | (simp only [fI_si, fI_sl, fI_sJ]; exact hz) | (rw [fI_sI_ne (by omega)]; exact hz) | (rw [fI_sI_k (by decide)]; exact hz) | (simp (disch := omega) only [mixAdd, fI_si, fI_sl, fI_sJ, fI_sI_ne, fI_sI_k]; exact hz)
      refine x_iinc (q := 104) (v := nI (l + 1)) dX10_plan_101 rfl rfl (nI_inc _) (by decide) ?_
      refine x_goto (q := 28) dX10_plan_104 (by decide) ?_
      have e9 : h1 = mvC h z D l := by rw [eh1, mvC, mvL, if_neg hb]
      rw [mvU, ← e9] at K
      exact Vg.weak (ih (l + 1) h1 hS1 (by rw [eh1, fI_si]; exact hz) (okM_of (by rw [eh1, gi_si_ne (by decide)]) hok) (by omega) K) (by repeat first | exact trivial | refine ⟨rfl, ?_⟩)
    cases hn : bnR (fun j => thF h z D (hM h l) j) D z with
    | none =>
      refine x_iload (q := 30) dX10_plan_28 rfl rfl ?_
      refine x_aload_n (q := 31) dX10_plan_30 rfl rfl rfl ?_
      refine x_get (q := 34) dX10_plan_31 rfl f_X10_219 (cl_132 hS) rfl (by decide) ?_
      rw [hz]
      refine x_ic_ge (q := 37) (t := 107) dX10_plan_34 rfl (by decide) (fun c_ => absurd c_ (nI_ge (by omega) (by omega))) (fun _ => ?_)
      refine x_iload_n (q := 38) dX10_plan_37 rfl rfl rfl ?_
      refine x_iload (q := 40) dX10_plan_38 rfl rfl ?_
      refine x_ishr (q := 41) dX10_plan_40 rfl ?_
      refine x_iconst (q := 42) (v := 1) dX10_plan_41 rfl (by decide) ?_
      refine x_iand (q := 43) dX10_plan_42 rfl ?_
      refine x_iconst (q := 44) (v := 1) dX10_plan_43 rfl (by decide) ?_
      refine x_ic_ne (q := 47) (t := 62) dX10_plan_44 rfl (by decide) (fun c_ => absurd c_ (fun q => q ((sb1 hD (by omega)).mpr hb))) (fun _ => ?_)
      refine x_aload_n (q := 48) dX10_plan_47 rfl rfl rfl ?_
      refine x_iload_n (q := 49) dX10_plan_48 rfl rfl rfl ?_
      refine x_aload_n (q := 50) dX10_plan_49 rfl rfl rfl ?_
      refine x_get (q := 53) dX10_plan_50 rfl f_X10_103 (cl_132 hS) rfl (by decide) ?_
      refine x_iload (q := 55) dX10_plan_53 rfl rfl ?_
      refine z_iald (q := 56) (j := l) dX10_plan_55 rfl (cl_162 hS) (by omega) (by decide) (by decide) ?_
      rw [(hok l (by omega)).1]
      refine y_cvI (q := 59) dX10_plan_56 rfl l_X10_226 (c_X10_bestNext hS D (hM h l) hD (hok l (by omega)).2 z hz hz8 hok) rfl rfl (cl_132 hS) (by decide) rfl rfl rfl rfl ?_
      refine x_goto (q := 63) dX10_plan_59 (by decide) ?_
      rw [hn]
      refine x_istore (q := 65) dX10_plan_63 rfl (by decide) ?_
      refine x_aload_n (q := 66) dX10_plan_65 rfl rfl rfl ?_
      refine x_get (q := 69) dX10_plan_66 rfl f_X10_121 (cl_132 hS) rfl (by decide) ?_
      refine x_bipush (q := 71) (v := 9) dX10_plan_69 rfl (by decide) ?_
      refine x_iload_n (q := 72) dX10_plan_71 rfl rfl rfl ?_
      refine x_imul (q := 73) dX10_plan_72 rfl ?_
      refine x_iload (q := 75) dX10_plan_73 rfl rfl ?_
      refine x_iadd (q := 76) dX10_plan_75 rfl ?_
      rw [ux9]
      refine x_iload (q := 78) dX10_plan_76 rfl rfl ?_
      refine x_iconst (q := 79) (v := -1) dX10_plan_78 rfl (by decide) ?_
      refine x_ic_ne (q := 82) (t := 86) dX10_plan_79 rfl (by decide) (fun c_ => absurd c_ (fun q => q rfl)) (fun _ => ?_)
      refine x_iconst (q := 83) (v := 0) dX10_plan_82 rfl (by decide) ?_
      refine x_goto (q := 100) dX10_plan_83 (by decide) ?_
      refine z_iast (q := 101) (j := 9 * D + l) dX10_plan_100 rfl (cl_168 hS) (by omega) (by decide) (by decide) ?_
      refine Vg.nm (fun h1 eh1 => ?_)
      have hS1 : Sh h1 := by rw [eh1]; exact hS.si _ _
      have hc1_132_38 : fI h1 132 38 = nI (z) := by rw [eh1]; first | (simp only [fI_si, fI_sl, fI_sJ]; exact hz) | (rw [fI_sI_ne (by omega)]; exact hz) | (rw [fI_sI_k (by decide)]; exact hz) | (simp (disch := omega) only [mixAdd, fI_si, fI_sl, fI_sJ, fI_sI_ne, fI_sI_k]; exact hz)
      refine x_iinc (q := 104) (v := nI (l + 1)) dX10_plan_101 rfl rfl (nI_inc _) (by decide) ?_
      refine x_goto (q := 28) dX10_plan_104 (by decide) ?_
      have e9 : h1 = mvC h z D l := by rw [eh1, mvC, mvL, if_pos hb, mvV, hn]
      rw [mvU, ← e9] at K
      exact Vg.weak (ih (l + 1) h1 hS1 (by rw [eh1, fI_si]; exact hz) (okM_of (by rw [eh1, gi_si_ne (by decide)]) hok) (by omega) K) (by repeat first | exact trivial | refine ⟨rfl, ?_⟩)
    | some q =>
      obtain ⟨j, c⟩ := q
      have hjz := (bnR_lt hn).1
      refine x_iload (q := 30) dX10_plan_28 rfl rfl ?_
      refine x_aload_n (q := 31) dX10_plan_30 rfl rfl rfl ?_
      refine x_get (q := 34) dX10_plan_31 rfl f_X10_219 (cl_132 hS) rfl (by decide) ?_
      rw [hz]
      refine x_ic_ge (q := 37) (t := 107) dX10_plan_34 rfl (by decide) (fun c_ => absurd c_ (nI_ge (by omega) (by omega))) (fun _ => ?_)
      refine x_iload_n (q := 38) dX10_plan_37 rfl rfl rfl ?_
      refine x_iload (q := 40) dX10_plan_38 rfl rfl ?_
      refine x_ishr (q := 41) dX10_plan_40 rfl ?_
      refine x_iconst (q := 42) (v := 1) dX10_plan_41 rfl (by decide) ?_
      refine x_iand (q := 43) dX10_plan_42 rfl ?_
      refine x_iconst (q := 44) (v := 1) dX10_plan_43 rfl (by decide) ?_
      refine x_ic_ne (q := 47) (t := 62) dX10_plan_44 rfl (by decide) (fun c_ => absurd c_ (fun q => q ((sb1 hD (by omega)).mpr hb))) (fun _ => ?_)
      refine x_aload_n (q := 48) dX10_plan_47 rfl rfl rfl ?_
      refine x_iload_n (q := 49) dX10_plan_48 rfl rfl rfl ?_
      refine x_aload_n (q := 50) dX10_plan_49 rfl rfl rfl ?_
      refine x_get (q := 53) dX10_plan_50 rfl f_X10_103 (cl_132 hS) rfl (by decide) ?_
      refine x_iload (q := 55) dX10_plan_53 rfl rfl ?_
      refine z_iald (q := 56) (j := l) dX10_plan_55 rfl (cl_162 hS) (by omega) (by decide) (by decide) ?_
      rw [(hok l (by omega)).1]
      refine y_cvI (q := 59) dX10_plan_56 rfl l_X10_226 (c_X10_bestNext hS D (hM h l) hD (hok l (by omega)).2 z hz hz8 hok) rfl rfl (cl_132 hS) (by decide) rfl rfl rfl rfl ?_
      refine x_goto (q := 63) dX10_plan_59 (by decide) ?_
      rw [hn, show oB (some (j, c)) = nI j from rfl]
      refine x_istore (q := 65) dX10_plan_63 rfl (by decide) ?_
      refine x_aload_n (q := 66) dX10_plan_65 rfl rfl rfl ?_
      refine x_get (q := 69) dX10_plan_66 rfl f_X10_121 (cl_132 hS) rfl (by decide) ?_
      refine x_bipush (q := 71) (v := 9) dX10_plan_69 rfl (by decide) ?_
      refine x_iload_n (q := 72) dX10_plan_71 rfl rfl rfl ?_
      refine x_imul (q := 73) dX10_plan_72 rfl ?_
      refine x_iload (q := 75) dX10_plan_73 rfl rfl ?_
      refine x_iadd (q := 76) dX10_plan_75 rfl ?_
      rw [ux9]
      refine x_iload (q := 78) dX10_plan_76 rfl rfl ?_
      refine x_iconst (q := 79) (v := -1) dX10_plan_78 rfl (by decide) ?_
      refine x_ic_ne (q := 82) (t := 86) dX10_plan_79 rfl (by decide) (fun _ => ?_) (fun c_ => absurd c_ (nI_m1 (by omega)))
      refine x_aload_n (q := 87) dX10_plan_86 rfl rfl rfl ?_
      refine x_iload_n (q := 88) dX10_plan_87 rfl rfl rfl ?_
      refine x_aload_n (q := 89) dX10_plan_88 rfl rfl rfl ?_
      refine x_get (q := 92) dX10_plan_89 rfl f_X10_103 (cl_132 hS) rfl (by decide) ?_
      refine x_iload (q := 94) dX10_plan_92 rfl rfl ?_
      refine z_iald (q := 95) (j := l) dX10_plan_94 rfl (cl_162 hS) (by omega) (by decide) (by decide) ?_
      rw [(hok l (by omega)).1]
      refine x_iload (q := 97) dX10_plan_95 rfl rfl ?_
      refine y_cvI (q := 100) dX10_plan_97 rfl l_X10_222 (c_X10_through hS D (hM h l) j hD (hok l (by omega)).2 (by omega) (hok j hjz).1 (hok j hjz).2 z hz hz8) rfl rfl (cl_132 hS) (by decide) rfl rfl rfl rfl ?_
      refine z_iast (q := 101) (j := 9 * D + l) dX10_plan_100 rfl (cl_168 hS) (by omega) (by decide) (by decide) ?_
      refine Vg.nm (fun h1 eh1 => ?_)
      have hS1 : Sh h1 := by rw [eh1]; exact hS.si _ _
      have hc1_132_38 : fI h1 132 38 = nI (z) := by rw [eh1]; first | (simp only [fI_si, fI_sl, fI_sJ]; exact hz) | (rw [fI_sI_ne (by omega)]; exact hz) | (rw [fI_sI_k (by decide)]; exact hz) | (simp (disch := omega) only [mixAdd, fI_si, fI_sl, fI_sJ, fI_sI_ne, fI_sI_k]; exact hz)
      refine x_iinc (q := 104) (v := nI (l + 1)) dX10_plan_101 rfl rfl (nI_inc _) (by decide) ?_
      refine x_goto (q := 28) dX10_plan_104 (by decide) ?_
      have e9 : h1 = mvC h z D l := by rw [eh1, mvC, mvL, if_pos hb, mvV, hn]
      rw [mvU, ← e9] at K
      exact Vg.weak (ih (l + 1) h1 hS1 (by rw [eh1, fI_si]; exact hz) (okM_of (by rw [eh1, gi_si_ne (by decide)]) hok) (by omega) K) (by repeat first | exact trivial | refine ⟨rfl, ?_⟩)

set_option maxHeartbeats 4000000 in
set_option maxRecDepth 100000 in
theorem lp_pl2 (f cost : Int32) (z : Nat) (hz8 : z ≤ 8) : ∀ (k i D u : Nat) (h : HF), Sh h → fI h 132 38 = nI z → okM h z → D < 256 → cntb D z = i → u < 6 → i + k = z → Vg mX10_plan none (QM mX10_plan 170 (RI cost (sI (moR z k i D u h) 132 44 (nI z)))) 146 [some (.ref 132), some (.int f), none, some (.int (nI D)), some (.int (nI u)), some (.int cost), some (.int (nI i)), none] [] 170 h 0 0 := by
  intro k
  induction k with
  | zero =>
    intro i D u h hS hz hok hD hci hu hi
    obtain rfl : i = z := by omega
    refine x_iload (q := 148) dX10_plan_146 rfl rfl ?_
    refine x_aload_n (q := 149) dX10_plan_148 rfl rfl rfl ?_
    refine x_get (q := 152) dX10_plan_149 rfl f_X10_219 (cl_132 hS) rfl (by decide) ?_
    rw [hz]
    refine x_ic_ge (q := 155) (t := 195) dX10_plan_152 rfl (by decide) (fun _ => ?_) (fun c_ => absurd (nI_le (Nat.le_refl _) (by omega)) c_)
    refine x_aload_n (q := 196) dX10_plan_195 rfl rfl rfl ?_
    refine x_aload_n (q := 197) dX10_plan_196 rfl rfl rfl ?_
    refine x_get (q := 200) dX10_plan_197 rfl f_X10_219 (cl_132 hS) rfl (by decide) ?_
    rw [hz]
    refine y_put (q := 203) dX10_plan_200 rfl f_X10_230 (cl_132 hS) rfl (by first | rfl | decide) (by first | rfl | decide) (by decide) ?_
    refine Vg.nm (fun h1 eh1 => ?_)
    have hS1 : Sh h1 := by rw [eh1]; exact hS.sI _ _ _
    have hc1_132_38 : fI h1 132 38 = nI (i) := by rw [eh1]; first | (simp only [fI_si, fI_sl, fI_sJ]; exact hz) | (rw [fI_sI_ne (by omega)]; exact hz) | (rw [fI_sI_k (by decide)]; exact hz) | (simp (disch := omega) only [mixAdd, fI_si, fI_sl, fI_sJ, fI_sI_ne, fI_sI_k]; exact hz)
    have hc1_132_44 : fI h1 132 44 = nI (i) := by rw [eh1]; exact fI_sI_eq hS (by decide) (by decide) rfl _
    refine x_iload (q := 205) dX10_plan_203 rfl rfl ?_
    exact x_iret dX10_plan_205 ⟨_, rfl, by first | rfl | (split <;> rfl)⟩ rfl (Nat.le_refl _) rfl ⟨rfl, eh1⟩
  | succ k ih =>
    intro i D u h hS hz hok hD hci hu hi
    obtain ⟨m, hm1, hm2⟩ := cntb_free (D := D) (n := z) (by omega)
    obtain ⟨q, hn⟩ := bnR_free (cost := fun j => thF h z D u j) hm1 hm2
    obtain ⟨j, l⟩ := q
    obtain ⟨hjz, hjb, -⟩ := bnR_lt hn
    have hor := or_lt hD (show j < 8 by omega)
    refine x_iload (q := 148) dX10_plan_146 rfl rfl ?_
    refine x_aload_n (q := 149) dX10_plan_148 rfl rfl rfl ?_
    refine x_get (q := 152) dX10_plan_149 rfl f_X10_219 (cl_132 hS) rfl (by decide) ?_
    rw [hz]
    refine x_ic_ge (q := 155) (t := 195) dX10_plan_152 rfl (by decide) (fun c_ => absurd c_ (nI_ge (by omega) (by omega))) (fun _ => ?_)
    refine x_aload_n (q := 156) dX10_plan_155 rfl rfl rfl ?_
    refine x_iload_n (q := 157) dX10_plan_156 rfl rfl rfl ?_
    refine x_iload (q := 159) dX10_plan_157 rfl rfl ?_
    refine y_cvI (q := 162) dX10_plan_159 rfl l_X10_226 (c_X10_bestNext hS D u hD hu z hz hz8 hok) rfl rfl (cl_132 hS) (by decide) rfl rfl rfl rfl ?_
    rw [hn, show oB (some (j, l)) = nI j from rfl]
    refine x_istore (q := 164) dX10_plan_162 rfl (by decide) ?_
    refine x_aload_n (q := 165) dX10_plan_164 rfl rfl rfl ?_
    refine x_get (q := 168) dX10_plan_165 rfl f_X10_118 (cl_132 hS) rfl (by decide) ?_
    refine x_iload (q := 170) dX10_plan_168 rfl rfl ?_
    refine x_iload (q := 172) dX10_plan_170 rfl rfl ?_
    refine z_iast (q := 173) (j := i) dX10_plan_172 rfl (cl_167 hS) (by omega) (by decide) (by decide) ?_
    refine Vg.nm (fun h1 eh1 => ?_)
    have hS1 : Sh h1 := by rw [eh1]; exact hS.si _ _
    have hc1_132_38 : fI h1 132 38 = nI (z) := by rw [eh1]; first | (simp only [fI_si, fI_sl, fI_sJ]; exact hz) | (rw [fI_sI_ne (by omega)]; exact hz) | (rw [fI_sI_k (by decide)]; exact hz) | (simp (disch := omega) only [mixAdd, fI_si, fI_sl, fI_sJ, fI_sI_ne, fI_sI_k]; exact hz)
    refine x_iload_n (q := 174) dX10_plan_173 rfl rfl rfl ?_
    refine x_iconst (q := 175) (v := 1) dX10_plan_174 rfl (by decide) ?_
    refine x_iload (q := 177) dX10_plan_175 rfl rfl ?_
    refine x_ishl (q := 178) dX10_plan_177 rfl ?_
    refine x_ior (q := 179) dX10_plan_178 rfl ?_
    rw [or1 hD (show j < 8 by omega)]
    refine x_istore_n (q := 180) dX10_plan_179 rfl rfl (by decide) ?_
    refine x_aload_n (q := 181) dX10_plan_180 rfl rfl rfl ?_
    refine x_get (q := 184) dX10_plan_181 rfl f_X10_103 (cl_132 hS1) rfl (by decide) ?_
    refine x_iload (q := 186) dX10_plan_184 rfl rfl ?_
    refine z_iald (q := 187) (j := j) dX10_plan_186 rfl (cl_162 hS1) (by omega) (by decide) (by decide) ?_
    rw [show gi h1 162 j = nI (hM h j) by rw [eh1, gi_si_ne (by decide)]; exact (hok j hjz).1]
    refine x_istore (q := 189) dX10_plan_187 rfl (by decide) ?_
    refine x_iinc (q := 192) (v := nI (i + 1)) dX10_plan_189 rfl rfl (nI_inc _) (by decide) ?_
    refine x_goto (q := 146) dX10_plan_192 (by decide) ?_
    have t9 := ih (i + 1) (D ||| 2 ^ j) (hM h j) h1 hS1 hc1_132_38 (okM_of (by rw [eh1, gi_si_ne (by decide)]) hok) hor (by rw [cntb_or hD hz8 hjz hjb, hci]) (hok j hjz).2 (by omega)
    have e9 : moR z (k + 1) i D u h = moR z k (i + 1) (D ||| 2 ^ j) (hM h j) h1 := by rw [moR, hn, eh1]
    rw [e9]; exact Vg.weak t9 (by repeat first | exact trivial | refine ⟨rfl, ?_⟩)

theorem cntb_0 : ∀ n : Nat, cntb 0 n = 0
  | 0 => rfl
  | n + 1 => by rw [cntb, cntb_0 n]; simp
set_option maxHeartbeats 4000000 in
set_option maxRecDepth 100000 in
theorem lp_pl3 {h : HF} (hS : Sh h) (u : Nat) (hu : u < 6) (z : Nat) (hz : fI h 132 38 = nI z) (hz8 : z ≤ 8) (hok : okM h z) : Vg mX10_plan none (QM mX10_plan 170 (RI (mvV h z 0 u) (sI (moR z z 0 0 u h) 132 44 (nI z)))) 113 [some (.ref 132), some (.int (nI u)), none, none, none, none, none, none] [] 170 h 0 0 := by
  by_cases hz0 : z = 0
  · subst hz0
    refine x_iconst (q := 114) (v := 0) dX10_plan_113 rfl (by decide) ?_
    refine x_istore_n (q := 115) dX10_plan_114 rfl rfl (by decide) ?_
    refine x_iload_n (q := 116) dX10_plan_115 rfl rfl rfl ?_
    refine x_istore (q := 118) dX10_plan_116 rfl (by decide) ?_
    refine x_aload_n (q := 119) dX10_plan_118 rfl rfl rfl ?_
    refine x_get (q := 122) dX10_plan_119 rfl f_X10_219 (cl_132 hS) rfl (by decide) ?_
    rw [hz]
    refine x_if_ne (q := 125) (t := 129) dX10_plan_122 rfl (by decide) (fun c_ => absurd c_ (fun q => q rfl)) (fun _ => ?_)
    refine x_iconst (q := 126) (v := 0) dX10_plan_125 rfl (by decide) ?_
    refine x_goto (q := 141) dX10_plan_126 (by decide) ?_
    refine x_istore (q := 143) dX10_plan_141 rfl (by decide) ?_
    refine x_iconst (q := 144) (v := 0) dX10_plan_143 rfl (by decide) ?_
    refine x_istore (q := 146) dX10_plan_144 rfl (by decide) ?_
    have e9 : mvV h 0 0 u = 0 := rfl
    rw [e9]; exact Vg.weak (lp_pl2 (nI u) 0 0 (by decide) 0 0 0 u h hS hz hok (by decide) rfl hu (by omega)) (by repeat first | exact trivial | refine ⟨rfl, ?_⟩)
  · obtain ⟨q, hn⟩ := bnR_free (cost := fun j => thF h z 0 u j) (D := 0) (n := z) (m := 0) (by omega) rfl
    obtain ⟨j, l⟩ := q
    have hjz := (bnR_lt hn).1
    refine x_iconst (q := 114) (v := 0) dX10_plan_113 rfl (by decide) ?_
    refine x_istore_n (q := 115) dX10_plan_114 rfl rfl (by decide) ?_
    refine x_iload_n (q := 116) dX10_plan_115 rfl rfl rfl ?_
    refine x_istore (q := 118) dX10_plan_116 rfl (by decide) ?_
    refine x_aload_n (q := 119) dX10_plan_118 rfl rfl rfl ?_
    refine x_get (q := 122) dX10_plan_119 rfl f_X10_219 (cl_132 hS) rfl (by decide) ?_
    rw [hz]
    refine x_if_ne (q := 125) (t := 129) dX10_plan_122 rfl (by decide) (fun _ => ?_) (fun c_ => absurd c_ (show ¬ nI z = nI 0 from fun q => absurd ((nI_eq (by omega) (by omega)).mp q) (by omega)))
    refine x_aload_n (q := 130) dX10_plan_129 rfl rfl rfl ?_
    refine x_iconst (q := 131) (v := 0) dX10_plan_130 rfl (by decide) ?_
    refine x_iload_n (q := 132) dX10_plan_131 rfl rfl rfl ?_
    refine x_aload_n (q := 133) dX10_plan_132 rfl rfl rfl ?_
    refine x_iconst (q := 134) (v := 0) dX10_plan_133 rfl (by decide) ?_
    refine x_iload_n (q := 135) dX10_plan_134 rfl rfl rfl ?_
    refine y_cvI (q := 138) dX10_plan_135 rfl l_X10_226 (c_X10_bestNext hS 0 u (by decide) hu z hz hz8 hok) rfl rfl (cl_132 hS) (by decide) rfl rfl rfl rfl ?_
    rw [hn, show oB (some (j, l)) = nI j from rfl]
    refine y_cvI (q := 141) dX10_plan_138 rfl l_X10_222 (c_X10_through hS 0 u j (by decide) hu (by omega) (hok j hjz).1 (hok j hjz).2 z hz hz8) rfl rfl (cl_132 hS) (by decide) rfl rfl rfl rfl ?_
    refine x_istore (q := 143) dX10_plan_141 rfl (by decide) ?_
    refine x_iconst (q := 144) (v := 0) dX10_plan_143 rfl (by decide) ?_
    refine x_istore (q := 146) dX10_plan_144 rfl (by decide) ?_
    have e9 : mvV h z 0 u = thF h z 0 u j := by rw [mvV, hn]
    rw [e9]; exact Vg.weak (lp_pl2 (nI u) (thF h z 0 u j) z hz8 z 0 0 u h hS hz hok (by decide) (cntb_0 z) hu (by omega)) (by repeat first | exact trivial | refine ⟨rfl, ?_⟩)
set_option maxHeartbeats 4000000 in
set_option maxRecDepth 100000 in
theorem lp_pl1 (u z : Nat) (hu : u < 6) (hz8 : z ≤ 8) : ∀ (k : Nat) (h : HF), Sh h → fI h 132 38 = nI z → okM h z → k ≤ 256 → Vg mX10_plan none (QM mX10_plan 170 (RI (mvV (mvD z k h) z 0 u) (sI (moR z z 0 0 u (mvD z k h)) 132 44 (nI z)))) 21 [some (.ref 132), some (.int (nI u)), none, some (.int (nI k - 1)), none, none, none, none] [] 170 h 0 0 := by
  intro k
  induction k with
  | zero =>
    intro h hS hz hok hk
    refine x_iload_n (q := 22) dX10_plan_21 rfl rfl rfl ?_
    refine x_if_lt (q := 25) (t := 113) dX10_plan_22 rfl (by decide) (fun _ => ?_) (fun c_ => absurd (by decide) c_)
    exact Vg.weak (lp_pl3 hS u hu z hz hz8 hok) (by repeat first | exact trivial | refine ⟨rfl, ?_⟩)
  | succ k ih =>
    intro h hS hz hok hk
    rw [nI_pred]
    refine x_iload_n (q := 22) dX10_plan_21 rfl rfl rfl ?_
    refine x_if_lt (q := 25) (t := 113) dX10_plan_22 rfl (by decide) (fun c_ => absurd c_ (nI_pos (by omega))) (fun _ => ?_)
    refine x_iconst (q := 26) (v := 0) dX10_plan_25 rfl (by decide) ?_
    refine x_istore (q := 28) dX10_plan_26 rfl (by decide) ?_
    refine Vg.weak (lp_pl0 u z k (by omega) hz8 z 0 h hS hz hok (by omega) ?_) (by repeat first | exact trivial | refine ⟨rfl, ?_⟩)
    have hS9 := Sh_mvU z k z 0 hS
    refine x_iinc (q := 110) dX10_plan_107 rfl rfl (nI_dec k) (by decide) ?_
    refine x_goto (q := 21) dX10_plan_110 (by decide) ?_
    rw [mvD]; exact Vg.weak (ih _ hS9 (by rw [fI_mvU]; exact hz) (okM_of (gi_mvU _ _ (by decide) z 0 h) hok) (by omega)) (by repeat first | exact trivial | refine ⟨rfl, ?_⟩)

def mpH2 (h : HF) (z u : Nat) : HF := sI (moR z z 0 0 u (mvD z (2 ^ z) h)) 132 44 (nI z)
def vmPl (h : HF) (u : Int32) (nj : Nat) : Int32 := if inB u 0 5 = true then mvV (mvD nj (2 ^ nj) h) nj 0 u.toNatClampNeg else -2
def umPl (h : HF) (u : Int32) (nj : Nat) : HF := if inB u 0 5 = true then mpH2 h nj u.toNatClampNeg else h
set_option maxHeartbeats 4000000 in
set_option maxRecDepth 100000 in
theorem c_X10_plan {h : HF} (hS : Sh h) (u : Int32) (nj : Nat) (hnj : fI h 132 38 = nI nj) (hnj8 : nj ≤ 8) (hok : okM h nj) : Mc mX10_plan [.ref 132, .int u] 170 h (RI (vmPl h u nj) (umPl h u nj)) := by
  refine Mc.of (by decide) rfl (Nat.le_of_ble_eq_true rfl) ?_
  refine x_iload_n (q := 1) dX10_plan_0 rfl rfl rfl ?_
  refine y_csI (q := 4) dX10_plan_1 rfl l_X10_216 (c_X10_isHue hS _) rfl rfl rfl rfl rfl rfl ?_
  refine x_if_ne (q := 7) (t := 10) dX10_plan_4 rfl (by decide) (fun c_4 => ?_) (fun c_4 => ?_)
  · replace c_4 := b2y c_4
    obtain ⟨j, hj, rfl⟩ := inB_of (n := 5) (by decide) c_4
    refine x_iconst (q := 11) (v := 1) dX10_plan_10 rfl (by decide) ?_
    refine x_aload_n (q := 12) dX10_plan_11 rfl rfl rfl ?_
    refine x_get (q := 15) dX10_plan_12 rfl f_X10_219 (cl_132 hS) rfl (by decide) ?_
    rw [hnj]
    refine x_ishl (q := 16) dX10_plan_15 rfl ?_
    rw [shl1 hnj8]
    refine x_iconst (q := 17) (v := 1) dX10_plan_16 rfl (by decide) ?_
    refine x_isub (q := 18) dX10_plan_17 rfl ?_
    refine x_istore_n (q := 19) dX10_plan_18 rfl rfl (by decide) ?_
    refine x_iload_n (q := 20) dX10_plan_19 rfl rfl rfl ?_
    refine x_istore_n (q := 21) dX10_plan_20 rfl rfl (by decide) ?_
    have e1 : vmPl h (nI j) nj = mvV (mvD nj (2 ^ nj) h) nj 0 j := by simp only [vmPl, c_4, nI_clamp (show j < 2 ^ 31 by omega), if_true]
    have e2 : umPl h (nI j) nj = mpH2 h nj j := by simp only [umPl, c_4, nI_clamp (show j < 2 ^ 31 by omega), if_true]
    rw [e1, e2, mpH2]; exact Vg.weak (lp_pl1 j nj (by omega) hnj8 (2 ^ nj) h hS hnj hok (Nat.pow_le_pow_right (n := 2) (by decide) hnj8)) (by repeat first | exact trivial | refine ⟨rfl, ?_⟩)
  · replace c_4 := b2n c_4
    refine x_bipush (q := 9) (v := -2) dX10_plan_7 rfl (by decide) ?_
    exact x_iret dX10_plan_9 ⟨_, rfl, by first | rfl | (split <;> rfl)⟩ rfl (Nat.le_refl _) rfl ⟨by simp [vmPl, c_4], by simp [umPl, c_4]⟩

