theorem fs_0 {f : Nat → Int32} : ∀ {n : Nat}, (∀ j, j < n → f j = 0) → fsum f n = 0
  | 0, _ => rfl
  | n + 1, h => by rw [fsum, fs_0 (n := n) (fun j hj => h j (by omega)), h n (by omega), Int32.add_zero]
theorem ns_0 {f : Nat → Int32} : ∀ {n : Nat}, (∀ j, j < n → f j = 0) → nsum (tr f) n = 0
  | 0, _ => by rw [nsum]
  | n + 1, h => by rw [nsum, ns_0 (n := n) (fun j hj => h j (by omega)), tr, h n (by omega), Int32.toInt_zero, Int.toNat_zero]
theorem drZ_0 (h : HF) : ∀ j, j < 8 → drZ h j = 0 := fun j hj => by rw [drZ, filF, if_pos hj]
theorem wsum_y {h : HF} {nb nl nr nt nd nj np : Nat} (r : Rel h nb nl nr nt nd nj np) {k d : Nat} (hk : k < 24) (hd : d < 3) : wsum (gi h (41 + 3 * k + 1)) (gi h 3) d nb = ysum (gi h 144) (drZ h) (gi h 133) (8 * k) d 8 ∧ wsum (gi h (41 + 3 * k + 1)) (gi h 4) d nb = ysum (gi h 144) (drZ h) (gi h 134) (8 * k) d 8 := by
  have D := r.d.K k hk
  rw [show 41 + 3 * k + 1 = 42 + 3 * k by omega]
  have hz' : ∀ b, nb ≤ b → b < 8 → gi h (42 + 3 * k) b = 0 := fun b h1 h2 => by rw [D.am b h2]; exact D.zr b h2 h1
  rw [← wsum_beyond (A := gi h 3) r.a.le hz', ← wsum_beyond (A := gi h 4) r.a.le hz', wsum_ysum (nb := nb) D.am (fun b hb => (r.a.A b d hb hd).1) _ (drZ_0 h), wsum_ysum (nb := nb) D.am (fun b hb => (r.a.A b d hb hd).2) _ (drZ_0 h)]
  exact ⟨rfl, rfl⟩
theorem drops_c {h : HF} {nb nl nr nt nd nj np : Nat} (r : Rel h nb nl nr nt nd nj np) {k : Nat} (hk : k < 24) (m x y z : Int32) (hm : m ≤ 8) (hxyz : aimB x y z = true) : ∃ g0 : HF, sI (sI (stF (aimF h x y z) (41 + 3 * k) m nl nb) 17 1 1) 17 2 1000001 = g0 ∧ (Sh g0) ∧ (∀ j, j ≠ 19 → j ≠ 20 → j ≠ 21 → gi g0 j = gi h j) ∧ (∀ j, j ≠ 22 → j ≠ 23 → gl g0 j = gl h j) ∧ (∀ j i, ¬ (j = 17 ∧ i = 8) → ¬ (j = 17 ∧ i = 7) → ¬ (j = 17 ∧ i = 1) → ¬ (j = 17 ∧ i = 2) → fI g0 j i = fI h j i) ∧ (∀ j i, fJ g0 j i = fJ h j i) ∧ fI g0 17 1 = 1 ∧ fI g0 17 2 = 1000001 ∧ CB g0 (gi h 144) (gi h 133) (gi h 134) (drC h nb nl) (8 * k) nb x y z (minI m (20000 - usum (gi h 144) k 8)) ∧ CA g0 g0 (gi h 144) (gi h 133) (gi h 134) (drC h nb nl) (8 * k) nb x y z (minI m (20000 - usum (gi h 144) k 8)) (drZ h) := by
  have D := r.d.K k hk
  obtain ⟨g0, eg0⟩ : ∃ zz : HF, zz = sI (sI (stF (aimF h x y z) (41 + 3 * k) m nl nb) 17 1 1) 17 2 1000001 := ⟨_, rfl⟩
  have Sg0 : Sh g0 := by rw [eg0]; unfold stF stC dS stB stA aimF aS; (repeat (first | exact r.S | apply Sh.si | apply Sh.sI | apply Sh.sJ | apply Sh.sl))
  have Gg0 : ∀ x, x ≠ 19 → x ≠ 20 → x ≠ 21 → gi g0 x = gi h x := by
    intro x q0 q1 q2; rw [eg0]; unfold stF stC dS stB stA aimF aS; (try simp (disch := first | assumption | omega) only [gi_si_ne, gi_sI, gi_sJ, gi_sl, gl_sl_ne, gl_si, gl_sI, gl_sJ, fI_si, fI_sl, fI_sJ, fI_sI_ne, fI_sI_k, fJ_si, fJ_sl, fJ_sI, fJ_sJ_ne])
  have Lg0 : ∀ x, x ≠ 22 → x ≠ 23 → gl g0 x = gl h x := by
    intro x q0 q1; rw [eg0]; unfold stF stC dS stB stA aimF aS; (try simp (disch := first | assumption | omega) only [gi_si_ne, gi_sI, gi_sJ, gi_sl, gl_sl_ne, gl_si, gl_sI, gl_sJ, fI_si, fI_sl, fI_sJ, fI_sI_ne, fI_sI_k, fJ_si, fJ_sl, fJ_sI, fJ_sJ_ne])
  have Fg0 : ∀ x kk, ¬ (x = 17 ∧ kk = 8) → ¬ (x = 17 ∧ kk = 7) → ¬ (x = 17 ∧ kk = 1) → ¬ (x = 17 ∧ kk = 2) → fI g0 x kk = fI h x kk := by
    intro x kk q0 q1 q2 q3; rw [eg0]; unfold stF stC dS stB stA aimF aS; first | rfl | (simp (disch := first | assumption | omega) only [fI_si, fI_sl, fI_sJ, fI_sI_o])
  have Jg0 : ∀ x kk, fJ g0 x kk = fJ h x kk := by
    intro x kk ; rw [eg0]; unfold stF stC dS stB stA aimF aS; first | rfl | (simp (disch := first | assumption | omega) only [fJ_si, fJ_sl, fJ_sI, fJ_sJ_o])
  have v21 : gi g0 21 = filF (gi h 21) 0 8 := by
    rw [eg0]; unfold stF stC dS stB stA aimF aS; simp (disch := first | omega | ((repeat (first | exact r.S | apply Sh.si | apply Sh.sI | apply Sh.sJ | apply Sh.sl)); done) | decide | exact kF_K ‹_› (by omega) | exact kI_of (shT_B ‹_›).2.2 | exact kI_of (shT_K ‹_›).2.2.1 | exact kI_of (shT_K ‹_›).2.2.2 | exact kFB ‹_› | exact kFM ‹_› | exact kJM ‹_› | exact kFN ‹_› | exact kJN ‹_› | rfl) only [fI_sI_o, gi_si_ne, gi_sI, gi_sJ, gi_sl, gl_sl_ne, gl_si, gl_sI, gl_sJ, fI_si, fI_sl, fI_sJ, fI_sI_ne, fI_sI_k, fJ_si, fJ_sl, fJ_sI, fJ_sJ_ne, gi_si_eq, gl_sl_eq, fI_sI_eq, fJ_sJ_eq]
  have v20 : gi g0 20 = capF (gi h 20) (fun j => sU (gi h 6) (gi h 8) (gi h 7) (fI h 5 4) (nI j) nl) 8 := by
    rw [eg0]; unfold stF stC dS stB stA aimF aS; simp (disch := first | omega | ((repeat (first | exact r.S | apply Sh.si | apply Sh.sI | apply Sh.sJ | apply Sh.sl)); done) | decide | exact kF_K ‹_› (by omega) | exact kI_of (shT_B ‹_›).2.2 | exact kI_of (shT_K ‹_›).2.2.1 | exact kI_of (shT_K ‹_›).2.2.2 | exact kFB ‹_› | exact kFM ‹_› | exact kJM ‹_› | exact kFN ‹_› | exact kJN ‹_› | rfl) only [fI_sI_o, gi_si_ne, gi_sI, gi_sJ, gi_sl, gl_sl_ne, gl_si, gl_sI, gl_sJ, fI_si, fI_sl, fI_sJ, fI_sI_ne, fI_sI_k, fJ_si, fJ_sl, fJ_sI, fJ_sJ_ne, gi_si_eq, gl_sl_eq, fI_sI_eq, fJ_sJ_eq]
  have v19 : gi g0 19 = upd (upd (upd (gi h 19) 0 x) 1 y) 2 z := by
    rw [eg0]; unfold stF stC dS stB stA aimF aS; simp (disch := first | omega | ((repeat (first | exact r.S | apply Sh.si | apply Sh.sI | apply Sh.sJ | apply Sh.sl)); done) | decide | exact kF_K ‹_› (by omega) | exact kI_of (shT_B ‹_›).2.2 | exact kI_of (shT_K ‹_›).2.2.1 | exact kI_of (shT_K ‹_›).2.2.2 | exact kFB ‹_› | exact kFM ‹_› | exact kJM ‹_› | exact kFN ‹_› | exact kJN ‹_› | rfl) only [fI_sI_o, gi_si_ne, gi_sI, gi_sJ, gi_sl, gl_sl_ne, gl_si, gl_sI, gl_sJ, fI_si, fI_sl, fI_sJ, fI_sI_ne, fI_sI_k, fJ_si, fJ_sl, fJ_sI, fJ_sJ_ne, gi_si_eq, gl_sl_eq, fI_sI_eq, fJ_sJ_eq]
  have v7 : fI g0 17 7 = 0 := by
    rw [eg0]; unfold stF stC dS stB stA aimF aS; simp (disch := first | omega | ((repeat (first | exact r.S | apply Sh.si | apply Sh.sI | apply Sh.sJ | apply Sh.sl)); done) | decide | exact kF_K ‹_› (by omega) | exact kI_of (shT_B ‹_›).2.2 | exact kI_of (shT_K ‹_›).2.2.1 | exact kI_of (shT_K ‹_›).2.2.2 | exact kFB ‹_› | exact kFM ‹_› | exact kJM ‹_› | exact kFN ‹_› | exact kJN ‹_› | rfl) only [fI_sI_o, gi_si_ne, gi_sI, gi_sJ, gi_sl, gl_sl_ne, gl_si, gl_sI, gl_sJ, fI_si, fI_sl, fI_sJ, fI_sI_ne, fI_sI_k, fJ_si, fJ_sl, fJ_sI, fJ_sJ_ne, gi_si_eq, gl_sl_eq, fI_sI_eq, fJ_sJ_eq]
  have v8 : fI g0 17 8 = minI m (20000 - fI h (41 + 3 * k) 1) := by
    rw [eg0]; unfold stF stC dS stB stA aimF aS; simp (disch := first | omega | ((repeat (first | exact r.S | apply Sh.si | apply Sh.sI | apply Sh.sJ | apply Sh.sl)); done) | decide | exact kF_K ‹_› (by omega) | exact kI_of (shT_B ‹_›).2.2 | exact kI_of (shT_K ‹_›).2.2.1 | exact kI_of (shT_K ‹_›).2.2.2 | exact kFB ‹_› | exact kFM ‹_› | exact kJM ‹_› | exact kFN ‹_› | exact kJN ‹_› | rfl) only [fI_sI_o, gi_si_ne, gi_sI, gi_sJ, gi_sl, gl_sl_ne, gl_si, gl_sI, gl_sJ, fI_si, fI_sl, fI_sJ, fI_sI_ne, fI_sI_k, fJ_si, fJ_sl, fJ_sI, fJ_sJ_ne, gi_si_eq, gl_sl_eq, fI_sI_eq, fJ_sJ_eq]
  have v1 : fI g0 17 1 = 1 := by
    rw [eg0]; unfold stF stC dS stB stA aimF aS; simp (disch := first | omega | ((repeat (first | exact r.S | apply Sh.si | apply Sh.sI | apply Sh.sJ | apply Sh.sl)); done) | decide | exact kF_K ‹_› (by omega) | exact kI_of (shT_B ‹_›).2.2 | exact kI_of (shT_K ‹_›).2.2.1 | exact kI_of (shT_K ‹_›).2.2.2 | exact kFB ‹_› | exact kFM ‹_› | exact kJM ‹_› | exact kFN ‹_› | exact kJN ‹_› | rfl) only [fI_sI_o, gi_si_ne, gi_sI, gi_sJ, gi_sl, gl_sl_ne, gl_si, gl_sI, gl_sJ, fI_si, fI_sl, fI_sJ, fI_sI_ne, fI_sI_k, fJ_si, fJ_sl, fJ_sI, fJ_sJ_ne, gi_si_eq, gl_sl_eq, fI_sI_eq, fJ_sJ_eq]
  have v2 : fI g0 17 2 = 1000001 := by
    rw [eg0]; unfold stF stC dS stB stA aimF aS; simp (disch := first | omega | ((repeat (first | exact r.S | apply Sh.si | apply Sh.sI | apply Sh.sJ | apply Sh.sl)); done) | decide | exact kF_K ‹_› (by omega) | exact kI_of (shT_B ‹_›).2.2 | exact kI_of (shT_K ‹_›).2.2.1 | exact kI_of (shT_K ‹_›).2.2.2 | exact kFB ‹_› | exact kFM ‹_› | exact kJM ‹_› | exact kFN ‹_› | exact kJN ‹_› | rfl) only [fI_sI_o, gi_si_ne, gi_sI, gi_sJ, gi_sl, gl_sl_ne, gl_si, gl_sI, gl_sJ, fI_si, fI_sl, fI_sJ, fI_sI_ne, fI_sI_k, fJ_si, fJ_sl, fJ_sI, fJ_sJ_ne, gi_si_eq, gl_sl_eq, fI_sI_eq, fJ_sJ_eq]
  have v22 : gl g0 22 = vp_updL (vp_updL (vp_updL (gl h 22) 0 (wsum (gi h (41 + 3 * k + 1)) (gi h 3) 0 nb)) 1 (wsum (gi h (41 + 3 * k + 1)) (gi h 3) 1 nb)) 2 (wsum (gi h (41 + 3 * k + 1)) (gi h 3) 2 nb) := by
    rw [eg0]; unfold stF stC dS stB stA aimF aS; simp (disch := first | omega | ((repeat (first | exact r.S | apply Sh.si | apply Sh.sI | apply Sh.sJ | apply Sh.sl)); done) | decide | exact kF_K ‹_› (by omega) | exact kI_of (shT_B ‹_›).2.2 | exact kI_of (shT_K ‹_›).2.2.1 | exact kI_of (shT_K ‹_›).2.2.2 | exact kFB ‹_› | exact kFM ‹_› | exact kJM ‹_› | exact kFN ‹_› | exact kJN ‹_› | rfl) only [fI_sI_o, gi_si_ne, gi_sI, gi_sJ, gi_sl, gl_sl_ne, gl_si, gl_sI, gl_sJ, fI_si, fI_sl, fI_sJ, fI_sI_ne, fI_sI_k, fJ_si, fJ_sl, fJ_sI, fJ_sJ_ne, gi_si_eq, gl_sl_eq, fI_sI_eq, fJ_sJ_eq]
  have v23 : gl g0 23 = vp_updL (vp_updL (vp_updL (gl h 23) 0 (wsum (gi h (41 + 3 * k + 1)) (gi h 4) 0 nb)) 1 (wsum (gi h (41 + 3 * k + 1)) (gi h 4) 1 nb)) 2 (wsum (gi h (41 + 3 * k + 1)) (gi h 4) 2 nb) := by
    rw [eg0]; unfold stF stC dS stB stA aimF aS; simp (disch := first | omega | ((repeat (first | exact r.S | apply Sh.si | apply Sh.sI | apply Sh.sJ | apply Sh.sl)); done) | decide | exact kF_K ‹_› (by omega) | exact kI_of (shT_B ‹_›).2.2 | exact kI_of (shT_K ‹_›).2.2.1 | exact kI_of (shT_K ‹_›).2.2.2 | exact kFB ‹_› | exact kFM ‹_› | exact kJM ‹_› | exact kFN ‹_› | exact kJN ‹_› | rfl) only [fI_sI_o, gi_si_ne, gi_sI, gi_sJ, gi_sl, gl_sl_ne, gl_si, gl_sI, gl_sJ, fI_si, fI_sl, fI_sJ, fI_sI_ne, fI_sI_k, fJ_si, fJ_sl, fJ_sI, fJ_sJ_ne, gi_si_eq, gl_sl_eq, fI_sI_eq, fJ_sJ_eq]
  have hul := D.ul
  refine ⟨g0, eg0.symm, Sg0, Gg0, Lg0, Fg0, Jg0, v1, v2, ⟨r.a.le, minI_le1 hm, ?_, r.a.P, ?_, ?_, ?_, ?_, aimB_of hxyz⟩, ⟨Sg0, fun _ _ _ => rfl, fun _ _ _ => rfl, fun _ _ _ _ _ => rfl, fun _ _ => rfl, ?_, ?_, ?_, ⟨?_, ?_⟩, ?_⟩⟩
  · intro b d hb hd
    rw [Gg0 3 (by omega) (by omega) (by omega), Gg0 4 (by omega) (by omega) (by omega)]; exact r.a.A b d hb hd
  · intro b hb
    have := D.bd b hb; omega
  · intro b hb
    have := r.a.le
    rw [v20, capF, if_pos (by omega), drC, capF, if_pos (by omega), if_pos hb, r.b.B, r.b.L, r.b.S, r.b.day]
  · rw [v8, D.un]
  · rw [v19]; exact ⟨by simp [upd], by simp [upd], by simp [upd]⟩
  · intro j hj
    rw [v21, filF, if_pos hj, drZ_0 h j hj]
  · rw [v7, fs_0 (fun j hj => drZ_0 h j (by have := r.a.le; omega))]
  · intro d hd
    obtain ⟨q1, q2⟩ := wsum_y r hk hd
    rw [v22, v23, ← q1, ← q2]
    obtain rfl | rfl | rfl : d = 0 ∨ d = 1 ∨ d = 2 := by omega
    all_goals simp [vp_updL]
  · intro j hj
    rw [drZ_0 h j (by have := r.a.le; omega)]; decide
  · rw [ns_0 (fun j hj => drZ_0 h j (by have := r.a.le; omega))]; omega
  · intro j _ hj
    exact drZ_0 h j hj
theorem J_drops {h : HF} {nb nl nr nt nd nj np : Nat} (r : Rel h nb nl nr nt nd nj np) (t m x y z : Int32) : JJ mX9_drops mX10_drops [.ref 1, .int t, .int m, .int x, .int y, .int z] [.ref 132, .int t, .int m, .int x, .int y, .int z] h := by
  have c := c_X9_drops r.S t m x y z nt r.d.c r.d.le nl r.b.c r.b.le nb r.a.c r.a.le
  have hko : ∀ g : HF, ∀ room : Int32, room ≤ 8 → hnok (drC g nb nl) room nb 12869 (drZ g) := fun g room hr => hnok_0 hr r.a.le (drZ_0 g)
  have m0 := c_X10_drops r.S t m x y z nt r.d.m r.d.le nb r.a.m r.a.le nl r.b.m r.b.le 12869 (hko h)
  by_cases g0 : ltB t (nI nt) = true
  · by_cases g1 : inB m 0 8 = true
    · by_cases g2 : aimB x y z = true
      · have hk : t.toNatClampNeg < 24 := by have := ltB_cl (by have := r.d.le; omega) g0; have := r.d.le; omega
        have D := r.d.K _ hk
        simp only [uDrs, vDrs, if_pos g0, if_pos g1, if_pos g2, D.po, D.un] at c
        by_cases g3 : gi h 146 t.toNatClampNeg = 0
        · by_cases g4 : usum (gi h 144) t.toNatClampNeg 8 = 0
          · simp only [if_pos g3, if_pos g4] at c
            simp only [umDr, vmDr, if_pos g0, if_pos g1, if_pos g2, umDr2, vmDr2, if_pos g3, if_pos g4] at m0
            exact JJ_upd c m0 rfl r
          · simp only [if_pos g3, if_neg g4] at c
            have hm8 : m ≤ 8 := by simp only [inB, Bool.and_eq_true, decide_eq_true_eq] at g1; exact g1.2
            obtain ⟨g, eg, Sg, G0, L0, F0, J0, k1, k2, kB, kA⟩ := drops_c r hk m x y z hm8 g2
            rw [hR0, eg] at c
            obtain ⟨⟨f', S1, G1, L1, F1, J1, _⟩, vv, bb⟩ := run_sim kB 12869 g (-1) 0 (gi h 147) (drZ h) kA (Or.inl ⟨rfl, k2⟩)
            simp only [Nat.reduceAdd] at S1 G1 L1 F1 J1 vv bb
            obtain ⟨h1, eh1⟩ : ∃ q, q = runH nb 12870 g := ⟨_, rfl⟩
            rw [← eh1] at c S1 G1 L1 F1 J1 vv bb
            obtain ⟨o, ho⟩ : ∃ q, q = mdR (fun f => ymiss (fun d => ysh (gi h 144) f (gi h 133) (gi h 134) (8 * t.toNatClampNeg) d) x y z) (drC h nb nl) (minI m (20000 - usum (gi h 144) t.toNatClampNeg 8)) nb 12869 (-1) 0 (gi h 147) (drZ h) := ⟨_, rfl⟩
            rw [← ho] at vv bb
            have GG : ∀ j, 132 ≤ j → gi h1 j = gi h j := fun j hj => by rw [G1 j (by omega) (by omega), G0 j (by omega) (by omega) (by omega)]
            have FF : ∀ i, fI h1 132 i = fI h 132 i := fun i => by rw [F1 132 i (by omega) (by omega) (by omega), F0 132 i (by omega) (by omega) (by omega) (by omega)]
            have eC : drC h1 nb nl = drC h nb nl := by rw [drC, drC, GG 170 (by omega), GG 135 (by omega), GG 136 (by omega), GG 137 (by omega), FF]
            have eZ : drZ h1 = drZ h := by rw [drZ, drZ, GG 148 (by omega)]
            have mm := c_X10_drops S1 t m x y z nt (by rw [FF]; exact r.d.m) r.d.le nb (by rw [FF]; exact r.a.m) r.a.le nl (by rw [FF]; exact r.b.m) r.b.le 12869 (hko h1)
            simp only [umDr, vmDr, if_pos g0, if_pos g1, if_pos g2, umDr2, vmDr2, drG, GG 146 (by omega), GG 144 (by omega), GG 133 (by omega), GG 134 (by omega), GG 147 (by omega), eC, eZ, if_pos g3, if_neg g4, ← ho] at mm
            obtain ⟨h2, eh2⟩ : ∃ zz : HF, zz = sI (si (si (si (si h1 170 (drC h nb nl)) 148 (drZ h)) 147 o.2.1) 148 o.2.2) 132 19 1 := ⟨_, rfl⟩
            replace mm := Mc_h eh2 mm
            have Sh2 : Sh h2 := by rw [eh2]; (repeat (first | exact S1 | apply Sh.si | apply Sh.sI | apply Sh.sJ | apply Sh.sl))
            have Gh2 : ∀ x, x ≠ 170 → x ≠ 148 → x ≠ 147 → gi h2 x = gi h1 x := by
              intro x q0 q1 q2; rw [eh2]; (try simp (disch := first | assumption | omega) only [gi_si_ne, gi_sI, gi_sJ, gi_sl, gl_sl_ne, gl_si, gl_sI, gl_sJ, fI_si, fI_sl, fI_sJ, fI_sI_ne, fI_sI_k, fJ_si, fJ_sl, fJ_sI, fJ_sJ_ne])
            have Lh2 : ∀ x, gl h2 x = gl h1 x := by
              intro x ; rw [eh2]; (try simp (disch := first | assumption | omega) only [gi_si_ne, gi_sI, gi_sJ, gi_sl, gl_sl_ne, gl_si, gl_sI, gl_sJ, fI_si, fI_sl, fI_sJ, fI_sI_ne, fI_sI_k, fJ_si, fJ_sl, fJ_sI, fJ_sJ_ne])
            have Fh2 : ∀ x kk, ¬ (x = 132 ∧ kk = 19) → fI h2 x kk = fI h1 x kk := by
              intro x kk q0; rw [eh2]; first | rfl | (simp (disch := first | assumption | omega) only [fI_si, fI_sl, fI_sJ, fI_sI_o])
            have Jh2 : ∀ x kk, fJ h2 x kk = fJ h1 x kk := by
              intro x kk ; rw [eh2]; first | rfl | (simp (disch := first | assumption | omega) only [fJ_si, fJ_sl, fJ_sI, fJ_sJ_o])
            have w147 : gi h2 147 = o.2.1 := by
              rw [eh2]; simp (disch := first | omega | ((repeat (first | exact S1 | apply Sh.si | apply Sh.sI | apply Sh.sJ | apply Sh.sl)); done) | decide | exact kF_K ‹_› (by omega) | exact kI_of (shT_B ‹_›).2.2 | exact kI_of (shT_K ‹_›).2.2.1 | exact kI_of (shT_K ‹_›).2.2.2 | exact kFB ‹_› | exact kFM ‹_› | exact kJM ‹_› | exact kFN ‹_› | exact kJN ‹_› | rfl) only [gi_si_ne, gi_sI, gi_sJ, gi_sl, gl_sl_ne, gl_si, gl_sI, gl_sJ, fI_si, fI_sl, fI_sJ, fI_sI_ne, fI_sI_k, fJ_si, fJ_sl, fJ_sI, fJ_sJ_ne, gi_si_eq, gl_sl_eq, fI_sI_eq, fJ_sJ_eq]
            have w19 : fI h2 132 19 = 1 := by
              rw [eh2]; simp (disch := first | omega | ((repeat (first | exact S1 | apply Sh.si | apply Sh.sI | apply Sh.sJ | apply Sh.sl)); done) | decide | exact kF_K ‹_› (by omega) | exact kI_of (shT_B ‹_›).2.2 | exact kI_of (shT_K ‹_›).2.2.1 | exact kI_of (shT_K ‹_›).2.2.2 | exact kFB ‹_› | exact kFM ‹_› | exact kJM ‹_› | exact kFN ‹_› | exact kJN ‹_› | rfl) only [gi_si_ne, gi_sI, gi_sJ, gi_sl, gl_sl_ne, gl_si, gl_sI, gl_sJ, fI_si, fI_sl, fI_sJ, fI_sI_ne, fI_sI_k, fJ_si, fJ_sl, fJ_sI, fJ_sJ_ne, gi_si_eq, gl_sl_eq, fI_sI_eq, fJ_sJ_eq]
            exact JJ_upd c mm vv (Rel.of (Sh2)
    (Ra.of (by (try simp (disch := omega) only [Gh2, Lh2, Fh2, Jh2, G1, L1, F1, J1, G0, L0, F0, J0]); exact r.a.c)
    (by (try simp (disch := omega) only [Gh2, Lh2, Fh2, Jh2, G1, L1, F1, J1, G0, L0, F0, J0]); exact r.a.m)
    (by (try simp (disch := omega) only [Gh2, Lh2, Fh2, Jh2, G1, L1, F1, J1, G0, L0, F0, J0]); exact r.a.le)
    (by (try simp (disch := omega) only [Gh2, Lh2, Fh2, Jh2, G1, L1, F1, J1, G0, L0, F0, J0]); exact r.a.A)
    (by (try simp (disch := omega) only [Gh2, Lh2, Fh2, Jh2, G1, L1, F1, J1, G0, L0, F0, J0]); exact r.a.P))
    (Rb.of (by (try simp (disch := omega) only [Gh2, Lh2, Fh2, Jh2, G1, L1, F1, J1, G0, L0, F0, J0]); exact r.b.c)
    (by (try simp (disch := omega) only [Gh2, Lh2, Fh2, Jh2, G1, L1, F1, J1, G0, L0, F0, J0]); exact r.b.m)
    (by (try simp (disch := omega) only [Gh2, Lh2, Fh2, Jh2, G1, L1, F1, J1, G0, L0, F0, J0]); exact r.b.le)
    (by (try simp (disch := omega) only [Gh2, Lh2, Fh2, Jh2, G1, L1, F1, J1, G0, L0, F0, J0]); exact r.b.day)
    (by (try simp (disch := omega) only [Gh2, Lh2, Fh2, Jh2, G1, L1, F1, J1, G0, L0, F0, J0]); exact r.b.B)
    (by (try simp (disch := omega) only [Gh2, Lh2, Fh2, Jh2, G1, L1, F1, J1, G0, L0, F0, J0]); exact r.b.S)
    (by (try simp (disch := omega) only [Gh2, Lh2, Fh2, Jh2, G1, L1, F1, J1, G0, L0, F0, J0]); exact r.b.L)
    (by (try simp (disch := omega) only [Gh2, Lh2, Fh2, Jh2, G1, L1, F1, J1, G0, L0, F0, J0]); exact r.b.P)
    (by (try simp (disch := omega) only [Gh2, Lh2, Fh2, Jh2, G1, L1, F1, J1, G0, L0, F0, J0]); exact r.b.lb))
    (Rc.of (by (try simp (disch := omega) only [Gh2, Lh2, Fh2, Jh2, G1, L1, F1, J1, G0, L0, F0, J0]); exact r.c.c)
    (by (try simp (disch := omega) only [Gh2, Lh2, Fh2, Jh2, G1, L1, F1, J1, G0, L0, F0, J0]); exact r.c.m)
    (by (try simp (disch := omega) only [Gh2, Lh2, Fh2, Jh2, G1, L1, F1, J1, G0, L0, F0, J0]); exact r.c.le)
    (by (try simp (disch := omega) only [Gh2, Lh2, Fh2, Jh2, G1, L1, F1, J1, G0, L0, F0, J0]); exact r.c.E)
    (by (try simp (disch := omega) only [Gh2, Lh2, Fh2, Jh2, G1, L1, F1, J1, G0, L0, F0, J0]); exact r.c.S)
    (by (try simp (disch := omega) only [Gh2, Lh2, Fh2, Jh2, G1, L1, F1, J1, G0, L0, F0, J0]); exact r.c.T)
    (by (try simp (disch := omega) only [Gh2, Lh2, Fh2, Jh2, G1, L1, F1, J1, G0, L0, F0, J0]); exact r.c.C)
    (by (try simp (disch := omega) only [Gh2, Lh2, Fh2, Jh2, G1, L1, F1, J1, G0, L0, F0, J0]); exact r.c.N)
    (by (try simp (disch := omega) only [Gh2, Lh2, Fh2, Jh2, G1, L1, F1, J1, G0, L0, F0, J0]); exact r.c.ok)
    (by (try simp (disch := omega) only [Gh2, Lh2, Fh2, Jh2, G1, L1, F1, J1, G0, L0, F0, J0]); exact r.c.tm)
    (by (try simp (disch := omega) only [Gh2, Lh2, Fh2, Jh2, G1, L1, F1, J1, G0, L0, F0, J0]); exact r.c.tz)
    (by (try simp (disch := omega) only [Gh2, Lh2, Fh2, Jh2, G1, L1, F1, J1, G0, L0, F0, J0]); exact r.c.cz)
    (by (try simp (disch := omega) only [Gh2, Lh2, Fh2, Jh2, G1, L1, F1, J1, G0, L0, F0, J0]); exact r.c.nn))
    (Rd.of (by (try simp (disch := omega) only [Gh2, Lh2, Fh2, Jh2, G1, L1, F1, J1, G0, L0, F0, J0]); exact r.d.c)
    (by (try simp (disch := omega) only [Gh2, Lh2, Fh2, Jh2, G1, L1, F1, J1, G0, L0, F0, J0]); exact r.d.m)
    (by (try simp (disch := omega) only [Gh2, Lh2, Fh2, Jh2, G1, L1, F1, J1, G0, L0, F0, J0]); exact r.d.le)
    (fun k hk => RdK.of (by (try simp (disch := omega) only [Gh2, Lh2, Fh2, Jh2, G1, L1, F1, J1, G0, L0, F0, J0]); exact (r.d.K k hk).am)
      (by (try simp (disch := omega) only [Gh2, Lh2, Fh2, Jh2, G1, L1, F1, J1, G0, L0, F0, J0]); exact (r.d.K k hk).bd)
      (by (try simp (disch := omega) only [Gh2, Lh2, Fh2, Jh2, G1, L1, F1, J1, G0, L0, F0, J0]); exact (r.d.K k hk).zr)
      (by (try simp (disch := omega) only [Gh2, Lh2, Fh2, Jh2, G1, L1, F1, J1, G0, L0, F0, J0]); exact (r.d.K k hk).un)
      (by (try simp (disch := omega) only [Gh2, Lh2, Fh2, Jh2, G1, L1, F1, J1, G0, L0, F0, J0]); exact (r.d.K k hk).ul)
      (by (try simp (disch := omega) only [Gh2, Lh2, Fh2, Jh2, G1, L1, F1, J1, G0, L0, F0, J0]); exact (r.d.K k hk).lo)
      (by (try simp (disch := omega) only [Gh2, Lh2, Fh2, Jh2, G1, L1, F1, J1, G0, L0, F0, J0]); exact (r.d.K k hk).lb)
      (by (try simp (disch := omega) only [Gh2, Lh2, Fh2, Jh2, G1, L1, F1, J1, G0, L0, F0, J0]); exact (r.d.K k hk).po)))
    (Re.of (by rw [Fh2 _ _ (by omega), F1 _ _ (by omega) (by omega) (by omega), k1, w19])
    (fun b hb => by rw [Gh2 18 (by omega) (by omega) (by omega), w147]; exact (bb b hb).1)
    (fun b hb => by rw [w147]; exact (bb b hb).2)
    (fun q => absurd q (by rw [w19]; decide)))
    (Rf.of (by (try simp (disch := omega) only [Gh2, Lh2, Fh2, Jh2, G1, L1, F1, J1, G0, L0, F0, J0]); exact r.f.lim)
    (by (try simp (disch := omega) only [Gh2, Lh2, Fh2, Jh2, G1, L1, F1, J1, G0, L0, F0, J0]); exact r.f.l0)
    (by (try simp (disch := omega) only [Gh2, Lh2, Fh2, Jh2, G1, L1, F1, J1, G0, L0, F0, J0]); exact r.f.cl)
    (by (try simp (disch := omega) only [Gh2, Lh2, Fh2, Jh2, G1, L1, F1, J1, G0, L0, F0, J0]); exact r.f.no)
    (fun t ht => RfK.of (by (try simp (disch := omega) only [Gh2, Lh2, Fh2, Jh2, G1, L1, F1, J1, G0, L0, F0, J0]); exact (r.f.K t ht).ins)
      (by (try simp (disch := omega) only [Gh2, Lh2, Fh2, Jh2, G1, L1, F1, J1, G0, L0, F0, J0]); exact (r.f.K t ht).siz)
      (by (try simp (disch := omega) only [Gh2, Lh2, Fh2, Jh2, G1, L1, F1, J1, G0, L0, F0, J0]); exact (r.f.K t ht).bat)
      (by (try simp (disch := omega) only [Gh2, Lh2, Fh2, Jh2, G1, L1, F1, J1, G0, L0, F0, J0]); exact (r.f.K t ht).tap)
      (by (try simp (disch := omega) only [Gh2, Lh2, Fh2, Jh2, G1, L1, F1, J1, G0, L0, F0, J0]); exact (r.f.K t ht).stn)
      (by (try simp (disch := omega) only [Gh2, Lh2, Fh2, Jh2, G1, L1, F1, J1, G0, L0, F0, J0]); exact (r.f.K t ht).sta)
      (by (try simp (disch := omega) only [Gh2, Lh2, Fh2, Jh2, G1, L1, F1, J1, G0, L0, F0, J0]); exact (r.f.K t ht).am)
      (by (try simp (disch := omega) only [Gh2, Lh2, Fh2, Jh2, G1, L1, F1, J1, G0, L0, F0, J0]); exact (r.f.K t ht).zr)
      (by (try simp (disch := omega) only [Gh2, Lh2, Fh2, Jh2, G1, L1, F1, J1, G0, L0, F0, J0]); exact (r.f.K t ht).lo)
      (by (try simp (disch := omega) only [Gh2, Lh2, Fh2, Jh2, G1, L1, F1, J1, G0, L0, F0, J0]); exact (r.f.K t ht).h0)
      (by (try simp (disch := omega) only [Gh2, Lh2, Fh2, Jh2, G1, L1, F1, J1, G0, L0, F0, J0]); exact (r.f.K t ht).hr)
      (by (try simp (disch := omega) only [Gh2, Lh2, Fh2, Jh2, G1, L1, F1, J1, G0, L0, F0, J0]); exact (r.f.K t ht).r6)
      (by (try simp (disch := omega) only [Gh2, Lh2, Fh2, Jh2, G1, L1, F1, J1, G0, L0, F0, J0]); exact (r.f.K t ht).hs)
      (by (try simp (disch := omega) only [Gh2, Lh2, Fh2, Jh2, G1, L1, F1, J1, G0, L0, F0, J0]); exact (r.f.K t ht).lb)
      (by (try simp (disch := omega) only [Gh2, Lh2, Fh2, Jh2, G1, L1, F1, J1, G0, L0, F0, J0]); exact (r.f.K t ht).bb)))
    (Rg.of (by (try simp (disch := omega) only [Gh2, Lh2, Fh2, Jh2, G1, L1, F1, J1, G0, L0, F0, J0]); exact r.g.c)
    (by (try simp (disch := omega) only [Gh2, Lh2, Fh2, Jh2, G1, L1, F1, J1, G0, L0, F0, J0]); exact r.g.m)
    (by (try simp (disch := omega) only [Gh2, Lh2, Fh2, Jh2, G1, L1, F1, J1, G0, L0, F0, J0]); exact r.g.le)
    (by (try simp (disch := omega) only [Gh2, Lh2, Fh2, Jh2, G1, L1, F1, J1, G0, L0, F0, J0]); exact r.g.u)
    (by (try simp (disch := omega) only [Gh2, Lh2, Fh2, Jh2, G1, L1, F1, J1, G0, L0, F0, J0]); exact r.g.t)
    (by (try simp (disch := omega) only [Gh2, Lh2, Fh2, Jh2, G1, L1, F1, J1, G0, L0, F0, J0]); exact r.g.d)
    (by (try simp (disch := omega) only [Gh2, Lh2, Fh2, Jh2, G1, L1, F1, J1, G0, L0, F0, J0]); exact r.g.b)
    (by (try simp (disch := omega) only [Gh2, Lh2, Fh2, Jh2, G1, L1, F1, J1, G0, L0, F0, J0]); exact r.g.l)
    (by (try simp (disch := omega) only [Gh2, Lh2, Fh2, Jh2, G1, L1, F1, J1, G0, L0, F0, J0]); exact r.g.bb)
    (by (try simp (disch := omega) only [Gh2, Lh2, Fh2, Jh2, G1, L1, F1, J1, G0, L0, F0, J0]); exact r.g.lb))
    (Rh.of (by (try simp (disch := omega) only [Gh2, Lh2, Fh2, Jh2, G1, L1, F1, J1, G0, L0, F0, J0]); exact r.j.c)
    (by (try simp (disch := omega) only [Gh2, Lh2, Fh2, Jh2, G1, L1, F1, J1, G0, L0, F0, J0]); exact r.j.m)
    (by (try simp (disch := omega) only [Gh2, Lh2, Fh2, Jh2, G1, L1, F1, J1, G0, L0, F0, J0]); exact r.j.le)
    (by (try simp (disch := omega) only [Gh2, Lh2, Fh2, Jh2, G1, L1, F1, J1, G0, L0, F0, J0]); exact r.j.pc)
    (by (try simp (disch := omega) only [Gh2, Lh2, Fh2, Jh2, G1, L1, F1, J1, G0, L0, F0, J0]); exact r.j.pm)
    (by (try simp (disch := omega) only [Gh2, Lh2, Fh2, Jh2, G1, L1, F1, J1, G0, L0, F0, J0]); exact r.j.pl)
    (by (try simp (disch := omega) only [Gh2, Lh2, Fh2, Jh2, G1, L1, F1, J1, G0, L0, F0, J0]); exact r.j.hu)
    (by (try simp (disch := omega) only [Gh2, Lh2, Fh2, Jh2, G1, L1, F1, J1, G0, L0, F0, J0]); exact r.j.ti)
    (by (try simp (disch := omega) only [Gh2, Lh2, Fh2, Jh2, G1, L1, F1, J1, G0, L0, F0, J0]); exact r.j.du)
    (by (try simp (disch := omega) only [Gh2, Lh2, Fh2, Jh2, G1, L1, F1, J1, G0, L0, F0, J0]); exact r.j.pr)
    (by (try simp (disch := omega) only [Gh2, Lh2, Fh2, Jh2, G1, L1, F1, J1, G0, L0, F0, J0]); exact r.j.ch)
    (by (try simp (disch := omega) only [Gh2, Lh2, Fh2, Jh2, G1, L1, F1, J1, G0, L0, F0, J0]); exact r.j.od)
    (by (try simp (disch := omega) only [Gh2, Lh2, Fh2, Jh2, G1, L1, F1, J1, G0, L0, F0, J0]); exact r.j.ok)
    (by (try simp (disch := omega) only [Gh2, Lh2, Fh2, Jh2, G1, L1, F1, J1, G0, L0, F0, J0]); exact r.j.tb)
    (by (try simp (disch := omega) only [Gh2, Lh2, Fh2, Jh2, G1, L1, F1, J1, G0, L0, F0, J0]); exact r.j.db)))
        · simp only [if_neg g3] at c
          simp only [umDr, vmDr, if_pos g0, if_pos g1, if_pos g2, umDr2, vmDr2, if_neg g3] at m0
          exact JJ_upd c m0 rfl r
      · simp only [uDrs, vDrs, if_pos g0, if_pos g1, if_neg g2] at c
        simp only [umDr, vmDr, if_pos g0, if_pos g1, if_neg g2] at m0
        exact JJ_upd c m0 rfl r
    · simp only [uDrs, vDrs, if_pos g0, if_neg g1] at c
      simp only [umDr, vmDr, if_pos g0, if_neg g1] at m0
      exact JJ_upd c m0 rfl r
  · simp only [uDrs, vDrs, if_neg g0] at c
    simp only [umDr, vmDr, if_neg g0] at m0
    exact JJ_upd c m0 rfl r
