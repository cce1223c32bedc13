def woR (z : Nat) : Nat → Nat → Nat → Nat → Int32 → HF → HF
  | 0, _, _, _, _, h => h
  | k + 1, i, D, u, c, h => match bnR (fun j => cwF h j D u c) D z with
    | none => h
    | some q => woR z k (i + 1) (D ||| 2 ^ q.1) (hN h q.1) (c + gi h 33 q.1) (si h 38 (upd (gi h 38) i (nI q.1)))
theorem Sh_woR (z : Nat) : ∀ (k i D u : Nat) (c : Int32) {h : HF}, Sh h → Sh (woR z k i D u c h)
  | 0, _, _, _, _, _, hS => hS
  | k + 1, i, D, u, c, h, hS => by
    unfold woR
    split
    · exact hS
    · exact Sh_woR z k _ _ _ _ (hS.si _ _)
theorem hN_si {h : HF} {a : Nat} (ha : 32 ≠ a) (g : Nat → Int32) (j : Nat) : hN (si h a g) j = hN h j := by simp only [hN, gi_si_ne ha]
theorem okH_si {h : HF} {a z : Nat} (ha : 32 ≠ a) (g : Nat → Int32) (hok : okH h z) : okH (si h a g) z := by
  intro j hj
  rw [hN_si ha, gi_si_ne ha]; exact hok j hj
theorem okH_sI {h : HF} {a k z : Nat} (v : Int32) (hok : okH h z) : okH (sI h a k v) z := by
  intro j hj
  simp only [hN, gi_sI]; exact hok j hj
set_option maxHeartbeats 4000000 in
set_option maxRecDepth 100000 in
theorem lp_wo (f : Int32) (z : Nat) (hz8 : z ≤ 8) : ∀ (k i D u : Nat) (c : Int32) (h : HF), Sh h → fI h 31 4 = nI z → okH h z → D < 256 → u < 6 → i + k = z → Vg mX6_writeOrder none (QM mX6_writeOrder 170 (RV (woR z k i D u c h))) 18 [some (.ref 31), some (.int f), some (.int (nI D)), some (.int (nI u)), some (.int c), some (.int (nI i)), none] [] 170 h 0 0 := by
  intro k
  induction k with
  | zero =>
    intro i D u c h hS hz hok hD hu hi
    obtain rfl : i = z := by omega
    refine x_iload (q := 20) dX6_writeOrder_18 rfl rfl ?_
    refine x_aload_n (q := 21) dX6_writeOrder_20 rfl rfl rfl ?_
    refine x_get (q := 24) dX6_writeOrder_21 rfl f_X6_24 (cl_31 hS) rfl (by decide) ?_
    rw [hz]
    refine x_ic_ge (q := 27) (t := 86) dX6_writeOrder_24 rfl (by decide) (fun _ => ?_) (fun c_ => absurd (nI_le (Nat.le_refl _) (by omega)) c_)
    exact x_vret dX6_writeOrder_86 rfl rfl (Nat.le_refl _) rfl ⟨rfl, rfl⟩
  | succ k ih =>
    intro i D u c h hS hz hok hD hu hi
    cases hn : bnR (fun j => cwF h j D u c) D z with
    | none =>
      refine x_iload (q := 20) dX6_writeOrder_18 rfl rfl ?_
      refine x_aload_n (q := 21) dX6_writeOrder_20 rfl rfl rfl ?_
      refine x_get (q := 24) dX6_writeOrder_21 rfl f_X6_24 (cl_31 hS) rfl (by decide) ?_
      rw [hz]
      refine x_ic_ge (q := 27) (t := 86) dX6_writeOrder_24 rfl (by decide) (fun c_ => absurd c_ (nI_ge (by omega) (by omega))) (fun _ => ?_)
      refine x_aload_n (q := 28) dX6_writeOrder_27 rfl rfl rfl ?_
      refine x_iload_n (q := 29) dX6_writeOrder_28 rfl rfl rfl ?_
      refine x_iload_n (q := 30) dX6_writeOrder_29 rfl rfl rfl ?_
      refine x_iload (q := 32) dX6_writeOrder_30 rfl rfl ?_
      refine y_cvI (q := 35) dX6_writeOrder_32 rfl l_X6_44 (c_X6_bestNext hS D u c hD hu z hz hz8 hok) rfl rfl (cl_31 hS) (by decide) rfl rfl rfl rfl ?_
      rw [hn]
      refine x_istore (q := 37) dX6_writeOrder_35 rfl (by decide) ?_
      refine x_iload (q := 39) dX6_writeOrder_37 rfl rfl ?_
      refine x_iconst (q := 40) (v := -1) dX6_writeOrder_39 rfl (by decide) ?_
      refine x_ic_ne (q := 43) (t := 44) dX6_writeOrder_40 rfl (by decide) (fun c_ => absurd c_ (fun z => z rfl)) (fun _ => ?_)
      exact x_vret dX6_writeOrder_43 rfl rfl (Nat.le_refl _) rfl ⟨rfl, by rw [woR, hn]⟩
    | some q =>
      obtain ⟨j, l⟩ := q
      have hjz := (bnR_lt hn).1
      have hor := or_lt hD (show j < 8 by omega)
      refine x_iload (q := 20) dX6_writeOrder_18 rfl rfl ?_
      refine x_aload_n (q := 21) dX6_writeOrder_20 rfl rfl rfl ?_
      refine x_get (q := 24) dX6_writeOrder_21 rfl f_X6_24 (cl_31 hS) rfl (by decide) ?_
      rw [hz]
      refine x_ic_ge (q := 27) (t := 86) dX6_writeOrder_24 rfl (by decide) (fun c_ => absurd c_ (nI_ge (by omega) (by omega))) (fun _ => ?_)
      refine x_aload_n (q := 28) dX6_writeOrder_27 rfl rfl rfl ?_
      refine x_iload_n (q := 29) dX6_writeOrder_28 rfl rfl rfl ?_
      refine x_iload_n (q := 30) dX6_writeOrder_29 rfl rfl rfl ?_
      refine x_iload (q := 32) dX6_writeOrder_30 rfl rfl ?_
      refine y_cvI (q := 35) dX6_writeOrder_32 rfl l_X6_44 (c_X6_bestNext hS D u c hD hu z hz hz8 hok) rfl rfl (cl_31 hS) (by decide) rfl rfl rfl rfl ?_
      rw [hn, show oB (some (j, l)) = nI j from rfl]
      refine x_istore (q := 37) dX6_writeOrder_35 rfl (by decide) ?_
      refine x_iload (q := 39) dX6_writeOrder_37 rfl rfl ?_
      refine x_iconst (q := 40) (v := -1) dX6_writeOrder_39 rfl (by decide) ?_
      refine x_ic_ne (q := 43) (t := 44) dX6_writeOrder_40 rfl (by decide) (fun _ => ?_) (fun c_ => absurd c_ (nI_m1 (by omega)))
      refine x_aload_n (q := 45) dX6_writeOrder_44 rfl rfl rfl ?_
      refine x_get (q := 48) dX6_writeOrder_45 rfl f_X6_34 (cl_31 hS) rfl (by decide) ?_
      refine x_iload (q := 50) dX6_writeOrder_48 rfl rfl ?_
      refine x_iload (q := 52) dX6_writeOrder_50 rfl rfl ?_
      refine z_iast (q := 53) (j := i) dX6_writeOrder_52 rfl (cl_38 hS) (by omega) (by decide) (by decide) ?_
      refine Vg.nm (fun h1 eh1 => ?_)
      have hS1 : Sh h1 := by rw [eh1]; exact hS.si _ _
      have hc1_31_4 : fI h1 31 4 = nI (z) := by rw [eh1]; first | (simp only [fI_si, fI_sl, fI_sJ]; exact hz) | (rw [fI_sI_ne (by omega)]; exact hz) | (rw [fI_sI_k (by decide)]; exact hz) | (simp (disch := omega) only [mixAdd, fI_si, fI_sl, fI_sJ, fI_sI_ne, fI_sI_k]; exact hz)
      refine x_iload_n (q := 54) dX6_writeOrder_53 rfl rfl rfl ?_
      refine x_iconst (q := 55) (v := 1) dX6_writeOrder_54 rfl (by decide) ?_
      refine x_iload (q := 57) dX6_writeOrder_55 rfl rfl ?_
      refine x_ishl (q := 58) dX6_writeOrder_57 rfl ?_
      refine x_ior (q := 59) dX6_writeOrder_58 rfl ?_
      rw [or1 hD (show j < 8 by omega)]
      refine x_istore_n (q := 60) dX6_writeOrder_59 rfl rfl (by decide) ?_
      refine x_aload_n (q := 61) dX6_writeOrder_60 rfl rfl rfl ?_
      refine x_get (q := 64) dX6_writeOrder_61 rfl f_X6_9 (cl_31 hS1) rfl (by decide) ?_
      refine x_iload (q := 66) dX6_writeOrder_64 rfl rfl ?_
      refine z_iald (q := 67) (j := j) dX6_writeOrder_66 rfl (cl_32 hS1) (by omega) (by decide) (by decide) ?_
      rw [show gi h1 32 j = nI (hN h j) by rw [eh1, gi_si_ne (by decide)]; exact (hok j hjz).1]
      refine x_istore_n (q := 68) dX6_writeOrder_67 rfl rfl (by decide) ?_
      refine x_iload (q := 70) dX6_writeOrder_68 rfl rfl ?_
      refine x_aload_n (q := 71) dX6_writeOrder_70 rfl rfl rfl ?_
      refine x_get (q := 74) dX6_writeOrder_71 rfl f_X6_15 (cl_31 hS1) rfl (by decide) ?_
      refine x_iload (q := 76) dX6_writeOrder_74 rfl rfl ?_
      refine z_iald (q := 77) (j := j) dX6_writeOrder_76 rfl (cl_33 hS1) (by omega) (by decide) (by decide) ?_
      refine x_iadd (q := 78) dX6_writeOrder_77 rfl ?_
      refine x_istore (q := 80) dX6_writeOrder_78 rfl (by decide) ?_
      refine x_iinc (q := 83) (v := nI (i + 1)) dX6_writeOrder_80 rfl rfl (nI_inc _) (by decide) ?_
      refine x_goto (q := 18) dX6_writeOrder_83 (by decide) ?_
      have t9 := ih (i + 1) (D ||| 2 ^ j) (hN h j) (c + gi h 33 j) h1 hS1 hc1_31_4 (by rw [eh1]; exact okH_si (by decide) _ hok) hor (hok j hjz).2 (by omega)
      have e9 : woR z (k + 1) i D u c h = woR z k (i + 1) (D ||| 2 ^ j) (hN h j) (c + gi h 33 j) h1 := by rw [woR, hn, eh1]
      rw [e9, show gi h1 33 j = gi h 33 j by rw [eh1, gi_si_ne (by decide)]]; exact Vg.weak t9 (by repeat first | exact trivial | refine ⟨rfl, ?_⟩)

set_option maxHeartbeats 4000000 in
set_option maxRecDepth 100000 in
theorem c_X6_writeOrder {h : HF} (hS : Sh h) (f : Nat) (hf : f < 6) (z : Nat) (hz : fI h 31 4 = nI z) (hz8 : z ≤ 8) (hok : okH h z) : Mc mX6_writeOrder [.ref 31, .int (nI f)] 170 h (RV (woR z z 0 0 f 0 (sI h 31 8 (nI z)))) := by
  refine Mc.of (by decide) rfl (Nat.le_of_ble_eq_true rfl) ?_
  refine x_iconst (q := 1) (v := 0) dX6_writeOrder_0 rfl (by decide) ?_
  refine x_istore_n (q := 2) dX6_writeOrder_1 rfl rfl (by decide) ?_
  refine x_iload_n (q := 3) dX6_writeOrder_2 rfl rfl rfl ?_
  refine x_istore_n (q := 4) dX6_writeOrder_3 rfl rfl (by decide) ?_
  refine x_iconst (q := 5) (v := 0) dX6_writeOrder_4 rfl (by decide) ?_
  refine x_istore (q := 7) dX6_writeOrder_5 rfl (by decide) ?_
  refine x_aload_n (q := 8) dX6_writeOrder_7 rfl rfl rfl ?_
  refine x_aload_n (q := 9) dX6_writeOrder_8 rfl rfl rfl ?_
  refine x_get (q := 12) dX6_writeOrder_9 rfl f_X6_24 (cl_31 hS) rfl (by decide) ?_
  rw [hz]
  refine y_put (q := 15) dX6_writeOrder_12 rfl f_X6_37 (cl_31 hS) rfl (by first | rfl | decide) (by first | rfl | decide) (by decide) ?_
  refine Vg.nm (fun h1 eh1 => ?_)
  have hS1 : Sh h1 := by rw [eh1]; exact hS.sI _ _ _
  have hc1_31_4 : fI h1 31 4 = nI (z) := by rw [eh1]; first | (simp only [fI_si, fI_sl, fI_sJ]; exact hz) | (rw [fI_sI_ne (by omega)]; exact hz) | (rw [fI_sI_k (by decide)]; exact hz) | (simp (disch := omega) only [mixAdd, fI_si, fI_sl, fI_sJ, fI_sI_ne, fI_sI_k]; exact hz)
  have hc1_31_8 : fI h1 31 8 = nI (z) := by rw [eh1]; exact fI_sI_eq hS (by decide) (by decide) rfl _
  refine x_iconst (q := 16) (v := 0) dX6_writeOrder_15 rfl (by decide) ?_
  refine x_istore (q := 18) dX6_writeOrder_16 rfl (by decide) ?_
  rw [← eh1]; exact Vg.weak (lp_wo (nI f) z hz8 z 0 0 f 0 h1 hS1 hc1_31_4 (by rw [eh1]; exact okH_sI _ hok) (by decide) hf (by omega)) (by repeat first | exact trivial | refine ⟨rfl, ?_⟩)

def arV (h : HF) (z D u : Nat) (c : Int32) : Int32 := match bnR (fun j => cwF h j D u c) D z with
  | none => 0
  | some q => cwF h q.1 D u c
def arC (h : HF) (z D u : Nat) (c : Int32) : HF := si h 37 (upd (gi h 37) (D * 6 + u) (arV h z D u c))
def arU (z D : Nat) (c : Int32) : Nat → Nat → HF → HF
  | 0, _, h => h
  | k + 1, u, h => arU z D c k (u + 1) (arC h z D u c)
def arD (z : Nat) : Nat → HF → HF
  | 0, h => h
  | k + 1, h => arD z k (arU z k (tsum (gi h 33) k z) 6 0 h)
theorem Sh.arC {h : HF} (hS : Sh h) (z D u : Nat) (c : Int32) : Sh (arC h z D u c) := hS.si _ _
theorem Sh_arU (z D : Nat) (c : Int32) : ∀ (k u : Nat) {h : HF}, Sh h → Sh (arU z D c k u h)
  | 0, _, _, hS => hS
  | k + 1, u, _, hS => Sh_arU z D c k (u + 1) (hS.arC _ _ _ _)
theorem Sh_arD (z : Nat) : ∀ (k : Nat) {h : HF}, Sh h → Sh (arD z k h)
  | 0, _, hS => hS
  | k + 1, _, hS => Sh_arD z k (Sh_arU z k _ 6 0 hS)
theorem fI_arU (z D : Nat) (c : Int32) (a j : Nat) : ∀ (k u : Nat) (h : HF), fI (arU z D c k u h) a j = fI h a j
  | 0, _, _ => rfl
  | k + 1, u, h => by rw [arU, fI_arU z D c a j k, arC, fI_si]
theorem gi_arU (z D : Nat) (c : Int32) {a : Nat} (ha : a ≠ 37) : ∀ (k u : Nat) (h : HF), gi (arU z D c k u h) a = gi h a
  | 0, _, _ => rfl
  | k + 1, u, h => by rw [arU, gi_arU z D c ha k, arC, gi_si_ne ha]
theorem fI_arD (z a j : Nat) : ∀ (k : Nat) (h : HF), fI (arD z k h) a j = fI h a j
  | 0, _ => rfl
  | k + 1, h => by rw [arD, fI_arD z a j k, fI_arU]
theorem gi_arD (z : Nat) {a : Nat} (ha : a ≠ 37) : ∀ (k : Nat) (h : HF), gi (arD z k h) a = gi h a
  | 0, _ => rfl
  | k + 1, h => by rw [arD, gi_arD z ha k, gi_arU z _ _ ha]
theorem okH_of {h h' : HF} {z : Nat} (e : gi h' 32 = gi h 32) (hok : okH h z) : okH h' z := by
  intro j hj
  simp only [hN, e]; exact hok j hj
def arrH (h : HF) (z f : Nat) : HF := woR z z 0 0 f 0 (sI (arD z (2 ^ z) h) 31 8 (nI z))
theorem Sh_arrH {h : HF} (hS : Sh h) (z f : Nat) : Sh (arrH h z f) := Sh_woR z z 0 0 f 0 ((Sh_arD z _ hS).sI _ _ _)
set_option maxHeartbeats 4000000 in
set_option maxRecDepth 100000 in
theorem lp_ar2 {h : HF} (hS : Sh h) (f : Nat) (hf : f < 6) (z : Nat) (hz : fI h 31 4 = nI z) (hz8 : z ≤ 8) (hok : okH h z) : Vg mX6_arrange none (QM mX6_arrange 170 (RI (gi (woR z z 0 0 f 0 (sI h 31 8 (nI z))) 37 f) (woR z z 0 0 f 0 (sI h 31 8 (nI z))))) 88 [some (.ref 31), some (.int (nI f)), none, none, none, none, none] [] 170 h 0 0 := by
  refine x_aload_n (q := 89) dX6_arrange_88 rfl rfl rfl ?_
  refine x_iload_n (q := 90) dX6_arrange_89 rfl rfl rfl ?_
  refine y_cvV (q := 93) dX6_arrange_90 rfl l_X6_52 (c_X6_writeOrder hS f hf z hz hz8 hok) rfl rfl (cl_31 hS) (by decide) rfl rfl rfl rfl ?_
  refine Vg.nm (fun h1 eh1 => ?_)
  have hS1 : Sh h1 := by rw [eh1]; exact Sh_woR z z 0 0 f 0 (hS.sI _ _ _)
  refine x_aload_n (q := 94) dX6_arrange_93 rfl rfl rfl ?_
  refine x_get (q := 97) dX6_arrange_94 rfl f_X6_31 (cl_31 hS1) rfl (by decide) ?_
  refine x_iload_n (q := 98) dX6_arrange_97 rfl rfl rfl ?_
  refine z_iald (q := 99) (j := f) dX6_arrange_98 rfl (cl_37 hS1) (by omega) (by decide) (by decide) ?_
  exact x_iret dX6_arrange_99 ⟨_, rfl, by first | rfl | (split <;> rfl)⟩ rfl (Nat.le_refl _) rfl ⟨by rw [eh1], eh1⟩
set_option maxHeartbeats 4000000 in
set_option maxRecDepth 100000 in
theorem lp_ar0 {Q : QF} (f z D : Nat) (c : Int32) (hD : D < 256) (hz8 : z ≤ 8) : ∀ (k u : Nat) (h : HF), Sh h → fI h 31 4 = nI z → okH h z → u + k = 6 → Vg mX6_arrange none Q 82 [some (.ref 31), some (.int (nI f)), none, some (.int (nI D)), none, none, none] [] 170 (arU z D c k u h) 0 0 → Vg mX6_arrange none Q 25 [some (.ref 31), some (.int (nI f)), none, some (.int (nI D)), some (.int c), some (.int (nI u)), none] [] 170 h 0 0 := by
  intro k
  induction k with
  | zero =>
    intro u h hS hz hok hu K
    obtain rfl : u = 6 := by omega
    refine x_iload (q := 27) dX6_arrange_25 rfl rfl ?_
    refine x_bipush (q := 29) (v := 6) dX6_arrange_27 rfl (by decide) ?_
    refine x_ic_ge (q := 32) (t := 82) dX6_arrange_29 rfl (by decide) (fun _ => ?_) (fun c_ => absurd (by decide) c_)
    exact Vg.weak K (by repeat first | exact trivial | refine ⟨rfl, ?_⟩)
  | succ k ih =>
    intro u h hS hz hok hu K
    cases hn : bnR (fun j => cwF h j D u c) D z with
    | none =>
      refine x_iload (q := 27) dX6_arrange_25 rfl rfl ?_
      refine x_bipush (q := 29) (v := 6) dX6_arrange_27 rfl (by decide) ?_
      refine x_ic_ge (q := 32) (t := 82) dX6_arrange_29 rfl (by decide) (fun c_ => absurd c_ (nI_ge (b := 6) (by omega) (by decide))) (fun _ => ?_)
      refine x_aload_n (q := 33) dX6_arrange_32 rfl rfl rfl ?_
      refine x_iload_n (q := 34) dX6_arrange_33 rfl rfl rfl ?_
      refine x_iload (q := 36) dX6_arrange_34 rfl rfl ?_
      refine x_iload (q := 38) dX6_arrange_36 rfl rfl ?_
      refine y_cvI (q := 41) dX6_arrange_38 rfl l_X6_44 (c_X6_bestNext hS D u c (by omega) (by omega) z hz hz8 hok) rfl rfl (cl_31 hS) (by decide) rfl rfl rfl rfl ?_
      rw [hn]
      refine x_istore (q := 43) dX6_arrange_41 rfl (by decide) ?_
      refine x_aload_n (q := 44) dX6_arrange_43 rfl rfl rfl ?_
      refine x_get (q := 47) dX6_arrange_44 rfl f_X6_31 (cl_31 hS) rfl (by decide) ?_
      refine x_iload_n (q := 48) dX6_arrange_47 rfl rfl rfl ?_
      refine x_bipush (q := 50) (v := 6) dX6_arrange_48 rfl (by decide) ?_
      refine x_imul (q := 51) dX6_arrange_50 rfl ?_
      refine x_iload (q := 53) dX6_arrange_51 rfl rfl ?_
      refine x_iadd (q := 54) dX6_arrange_53 rfl ?_
      rw [ix6]
      refine x_iload (q := 56) dX6_arrange_54 rfl rfl ?_
      refine x_iconst (q := 57) (v := -1) dX6_arrange_56 rfl (by decide) ?_
      refine x_ic_ne (q := 60) (t := 64) dX6_arrange_57 rfl (by decide) (fun c_ => absurd c_ (fun z => z rfl)) (fun _ => ?_)
      refine x_iconst (q := 61) (v := 0) dX6_arrange_60 rfl (by decide) ?_
      refine x_goto (q := 75) dX6_arrange_61 (by decide) ?_
      refine z_iast (q := 76) (j := D * 6 + u) dX6_arrange_75 rfl (cl_37 hS) (by omega) (by decide) (by decide) ?_
      refine Vg.nm (fun h1 eh1 => ?_)
      have hS1 : Sh h1 := by rw [eh1]; exact hS.si _ _
      refine x_iinc (q := 79) (v := nI (u + 1)) dX6_arrange_76 rfl rfl (nI_inc _) (by decide) ?_
      refine x_goto (q := 25) dX6_arrange_79 (by decide) ?_
      have e9 : h1 = arC h z D u c := by rw [eh1, arC, arV, hn]
      rw [arU, ← e9] at K
      exact Vg.weak (ih (u + 1) h1 hS1 (by rw [eh1, fI_si]; exact hz) (by rw [eh1]; exact okH_si (by decide) _ hok) (by omega) K) (by repeat first | exact trivial | refine ⟨rfl, ?_⟩)
    | some q =>
      obtain ⟨j, l⟩ := q
      have hjz := (bnR_lt hn).1
      refine x_iload (q := 27) dX6_arrange_25 rfl rfl ?_
      refine x_bipush (q := 29) (v := 6) dX6_arrange_27 rfl (by decide) ?_
      refine x_ic_ge (q := 32) (t := 82) dX6_arrange_29 rfl (by decide) (fun c_ => absurd c_ (nI_ge (b := 6) (by omega) (by decide))) (fun _ => ?_)
      refine x_aload_n (q := 33) dX6_arrange_32 rfl rfl rfl ?_
      refine x_iload_n (q := 34) dX6_arrange_33 rfl rfl rfl ?_
      refine x_iload (q := 36) dX6_arrange_34 rfl rfl ?_
      refine x_iload (q := 38) dX6_arrange_36 rfl rfl ?_
      refine y_cvI (q := 41) dX6_arrange_38 rfl l_X6_44 (c_X6_bestNext hS D u c (by omega) (by omega) z hz hz8 hok) rfl rfl (cl_31 hS) (by decide) rfl rfl rfl rfl ?_
      rw [hn, show oB (some (j, l)) = nI j from rfl]
      refine x_istore (q := 43) dX6_arrange_41 rfl (by decide) ?_
      refine x_aload_n (q := 44) dX6_arrange_43 rfl rfl rfl ?_
      refine x_get (q := 47) dX6_arrange_44 rfl f_X6_31 (cl_31 hS) rfl (by decide) ?_
      refine x_iload_n (q := 48) dX6_arrange_47 rfl rfl rfl ?_
      refine x_bipush (q := 50) (v := 6) dX6_arrange_48 rfl (by decide) ?_
      refine x_imul (q := 51) dX6_arrange_50 rfl ?_
      refine x_iload (q := 53) dX6_arrange_51 rfl rfl ?_
      refine x_iadd (q := 54) dX6_arrange_53 rfl ?_
      rw [ix6]
      refine x_iload (q := 56) dX6_arrange_54 rfl rfl ?_
      refine x_iconst (q := 57) (v := -1) dX6_arrange_56 rfl (by decide) ?_
      refine x_ic_ne (q := 60) (t := 64) dX6_arrange_57 rfl (by decide) (fun _ => ?_) (fun c_ => absurd c_ (nI_m1 (by omega)))
      refine x_aload_n (q := 65) dX6_arrange_64 rfl rfl rfl ?_
      refine x_iload (q := 67) dX6_arrange_65 rfl rfl ?_
      refine x_iload_n (q := 68) dX6_arrange_67 rfl rfl rfl ?_
      refine x_iload (q := 70) dX6_arrange_68 rfl rfl ?_
      refine x_iload (q := 72) dX6_arrange_70 rfl rfl ?_
      refine y_cvI (q := 75) dX6_arrange_72 rfl l_X6_48 (c_X6_costWith hS j D u c (by omega) (by omega) (by omega) (hok j hjz).1 (hok j hjz).2) rfl rfl (cl_31 hS) (by decide) rfl rfl rfl rfl ?_
      refine z_iast (q := 76) (j := D * 6 + u) dX6_arrange_75 rfl (cl_37 hS) (by omega) (by decide) (by decide) ?_
      refine Vg.nm (fun h1 eh1 => ?_)
      have hS1 : Sh h1 := by rw [eh1]; exact hS.si _ _
      refine x_iinc (q := 79) (v := nI (u + 1)) dX6_arrange_76 rfl rfl (nI_inc _) (by decide) ?_
      refine x_goto (q := 25) dX6_arrange_79 (by decide) ?_
      have e9 : h1 = arC h z D u c := by rw [eh1, arC, arV, hn]
      rw [arU, ← e9] at K
      exact Vg.weak (ih (u + 1) h1 hS1 (by rw [eh1, fI_si]; exact hz) (by rw [eh1]; exact okH_si (by decide) _ hok) (by omega) K) (by repeat first | exact trivial | refine ⟨rfl, ?_⟩)

set_option maxHeartbeats 4000000 in
set_option maxRecDepth 100000 in
theorem lp_ar1 (f z : Nat) (hf : f < 6) (hz8 : z ≤ 8) : ∀ (k : Nat) (h : HF), Sh h → fI h 31 4 = nI z → okH h z → k ≤ 256 → Vg mX6_arrange none (QM mX6_arrange 170 (RI (gi (woR z z 0 0 f 0 (sI (arD z k h) 31 8 (nI z))) 37 f) (woR z z 0 0 f 0 (sI (arD z k h) 31 8 (nI z))))) 11 [some (.ref 31), some (.int (nI f)), none, some (.int (nI k - 1)), none, none, none] [] 170 h 0 0 := by
  intro k
  induction k with
  | zero =>
    intro h hS hz hok hk
    refine x_iload_n (q := 12) dX6_arrange_11 rfl rfl rfl ?_
    refine x_if_lt (q := 15) (t := 88) dX6_arrange_12 rfl (by decide) (fun _ => ?_) (fun c_ => absurd (by decide) c_)
    exact Vg.weak (lp_ar2 hS f hf z hz hz8 hok) (by repeat first | exact trivial | refine ⟨rfl, ?_⟩)
  | succ k ih =>
    intro h hS hz hok hk
    rw [nI_pred]
    refine x_iload_n (q := 12) dX6_arrange_11 rfl rfl rfl ?_
    refine x_if_lt (q := 15) (t := 88) dX6_arrange_12 rfl (by decide) (fun c_ => absurd c_ (nI_pos (by omega))) (fun _ => ?_)
    refine x_aload_n (q := 16) dX6_arrange_15 rfl rfl rfl ?_
    refine x_iload_n (q := 17) dX6_arrange_16 rfl rfl rfl ?_
    refine y_cvI (q := 20) dX6_arrange_17 rfl l_X6_40 (c_X6_timeOfSet hS k (by omega) z hz hz8) rfl rfl (cl_31 hS) (by decide) rfl rfl rfl rfl ?_
    refine x_istore (q := 22) dX6_arrange_20 rfl (by decide) ?_
    refine x_iconst (q := 23) (v := 0) dX6_arrange_22 rfl (by decide) ?_
    refine x_istore (q := 25) dX6_arrange_23 rfl (by decide) ?_
    refine Vg.weak (lp_ar0 f z k (tsum (gi h 33) k z) (by omega) hz8 6 0 h hS hz hok (by omega) ?_) (by repeat first | exact trivial | refine ⟨rfl, ?_⟩)
    have hS9 := Sh_arU z k (tsum (gi h 33) k z) 6 0 hS
    refine x_iinc (q := 85) dX6_arrange_82 rfl rfl (nI_dec k) (by decide) ?_
    refine x_goto (q := 11) dX6_arrange_85 (by decide) ?_
    rw [arD]; exact Vg.weak (ih _ hS9 (by rw [fI_arU]; exact hz) (okH_of (gi_arU _ _ _ (by decide) 6 0 h) hok) (by omega)) (by repeat first | exact trivial | refine ⟨rfl, ?_⟩)

set_option maxHeartbeats 4000000 in
set_option maxRecDepth 100000 in
theorem c_X6_arrange {h : HF} (hS : Sh h) (f : Nat) (hf : f < 6) (z : Nat) (hz : fI h 31 4 = nI z) (hz8 : z ≤ 8) (hok : okH h z) : Mc mX6_arrange [.ref 31, .int (nI f)] 170 h (RI (gi (arrH h z f) 37 f) (arrH h z f)) := by
  refine Mc.of (by decide) rfl (Nat.le_of_ble_eq_true rfl) ?_
  refine x_iconst (q := 1) (v := 1) dX6_arrange_0 rfl (by decide) ?_
  refine x_aload_n (q := 2) dX6_arrange_1 rfl rfl rfl ?_
  refine x_get (q := 5) dX6_arrange_2 rfl f_X6_24 (cl_31 hS) rfl (by decide) ?_
  rw [hz]
  refine x_ishl (q := 6) dX6_arrange_5 rfl ?_
  rw [shl1 hz8]
  refine x_iconst (q := 7) (v := 1) dX6_arrange_6 rfl (by decide) ?_
  refine x_isub (q := 8) dX6_arrange_7 rfl ?_
  refine x_istore_n (q := 9) dX6_arrange_8 rfl rfl (by decide) ?_
  refine x_iload_n (q := 10) dX6_arrange_9 rfl rfl rfl ?_
  refine x_istore_n (q := 11) dX6_arrange_10 rfl rfl (by decide) ?_
  exact Vg.weak (lp_ar1 f z hf hz8 (2 ^ z) h hS hz hok (Nat.pow_le_pow_right (by decide) hz8)) (by repeat first | exact trivial | refine ⟨rfl, ?_⟩)

