theorem J_fill {h : HF} {nb nl nr nt nd nj np : Nat} (r : Rel h nb nl nr nt nd nj np) (t n : Int32) : JJ mX9_fill mX10_fill [.ref 1, .int t, .int n] [.ref 132, .int t, .int n] h := by
  have ev : ∀ z, vFill (fun t => fI h (112 + 4 * t) 2) t n z = vFill (gi h 150) t n z := by
    intro z
    unfold vFill
    refine if_same (fun q => ?_)
    simp only [(r.f.K _ (inB_cl (n := 4) (by decide) q)).ins]
  by_cases g0 : nd < 100
  · have c := c_X9_fill r.S t n nd r.g.c g0 nb r.a.c r.a.le
    have m0 := c_X10_fill r.S t n nd r.g.m g0
    replace ev := ev nd
    by_cases g1 : inB t 0 4 = true
    · obtain ⟨t, ht, rfl⟩ := inB_of (n := 4) (by decide) g1
      replace ht : t < 5 := by omega
      have K := r.f.K t ht
      by_cases g2 : inB n 1 1000 = true
      · by_cases g3 : n ≤ gi h 150 t
        · have gn := inB_i g2
          simp only [Int32.reduceToInt] at gn
          have g3i := Int32.le_iff_toInt_le.mp g3
          have hr := K.hr
          have r6 := K.r6
          have sn : (gi h 150 t - n).toInt = (gi h 150 t).toInt - n.toInt := tI_sub (by omega) (by omega) (by omega) (by omega)
          simp only [uFill, if_pos g0, if_pos g1, if_pos g2, nI_clamp (show t < 2147483648 by omega), K.ins, if_pos g3] at c
          by_cases gz : gi h 150 t - n = 0
          · obtain ⟨hy, ehy⟩ : ∃ zz : HF, zz = sI (sl (si (si (si (si h 26 (upd (gi h 26) nd n)) 27 (upd (gi h 27) nd (nI t))) 28 (upd (gi h 28) nd (fI h 5 4))) 29 (upd (gi h 29) nd (fI h (112 + 4 * t) 4))) 30 (vp_updL (gl h 30) nd (fJ h (113 + 4 * t) 2))) 25 5 (nI (nd + 1)) := ⟨_, rfl⟩
            have Shy : Sh hy := by rw [ehy]; (repeat (first | exact r.S | apply Sh.si | apply Sh.sI | apply Sh.sJ | apply Sh.sl))
            have Ghy : ∀ x, x ≠ 26 → x ≠ 27 → x ≠ 28 → x ≠ 29 → gi hy x = gi h x := by
              intro x q0 q1 q2 q3; rw [ehy]; (try simp (disch := first | assumption | omega) only [gi_si_ne, gi_sI, gi_sJ, gi_sl, gl_sl_ne, gl_si, gl_sI, gl_sJ, fI_si, fI_sl, fI_sJ, fI_sI_ne, fI_sI_k, fJ_si, fJ_sl, fJ_sI, fJ_sJ_ne])
            have Lhy : ∀ x, x ≠ 30 → gl hy x = gl h x := by
              intro x q0; rw [ehy]; (try simp (disch := first | assumption | omega) only [gi_si_ne, gi_sI, gi_sJ, gi_sl, gl_sl_ne, gl_si, gl_sI, gl_sJ, fI_si, fI_sl, fI_sJ, fI_sI_ne, fI_sI_k, fJ_si, fJ_sl, fJ_sI, fJ_sJ_ne])
            have Fhy : ∀ x kk, ¬ (x = 25 ∧ kk = 5) → fI hy x kk = fI h x kk := by
              intro x kk q0; rw [ehy]; first | rfl | (simp (disch := first | assumption | omega) only [fI_si, fI_sl, fI_sJ, fI_sI_o])
            have Jhy : ∀ x kk, fJ hy x kk = fJ h x kk := by
              intro x kk ; rw [ehy]; first | rfl | (simp (disch := first | assumption | omega) only [fJ_si, fJ_sl, fJ_sI, fJ_sJ_o])
            have e0 : yadF h t nd n (nI t) (fI h 5 4) = hy := by
              rw [ehy, yadF]
            have y26 : gi hy 26 = upd (gi h 26) nd n := by
              rw [ehy]; simp (disch := first | omega | ((repeat (first | exact r.S | apply Sh.si | apply Sh.sI | apply Sh.sJ | apply Sh.sl)); done) | decide | exact kF_K ‹_› (by omega) | exact kI_of (shT_B ‹_›).2.2 | exact kI_of (shT_K ‹_›).2.2.1 | exact kI_of (shT_K ‹_›).2.2.2 | exact kFB ‹_› | exact kFM ‹_› | exact kJM ‹_› | exact kFN ‹_› | exact kJN ‹_› | rfl) only [gi_si_ne, gi_sI, gi_sJ, gi_sl, gl_sl_ne, gl_si, gl_sI, gl_sJ, fI_si, fI_sl, fI_sJ, fI_sI_ne, fI_sI_k, fJ_si, fJ_sl, fJ_sI, fJ_sJ_ne, gi_si_eq, gl_sl_eq, fI_sI_eq, fJ_sJ_eq]
            have y27 : gi hy 27 = upd (gi h 27) nd (nI t) := by
              rw [ehy]; simp (disch := first | omega | ((repeat (first | exact r.S | apply Sh.si | apply Sh.sI | apply Sh.sJ | apply Sh.sl)); done) | decide | exact kF_K ‹_› (by omega) | exact kI_of (shT_B ‹_›).2.2 | exact kI_of (shT_K ‹_›).2.2.1 | exact kI_of (shT_K ‹_›).2.2.2 | exact kFB ‹_› | exact kFM ‹_› | exact kJM ‹_› | exact kFN ‹_› | exact kJN ‹_› | rfl) only [gi_si_ne, gi_sI, gi_sJ, gi_sl, gl_sl_ne, gl_si, gl_sI, gl_sJ, fI_si, fI_sl, fI_sJ, fI_sI_ne, fI_sI_k, fJ_si, fJ_sl, fJ_sI, fJ_sJ_ne, gi_si_eq, gl_sl_eq, fI_sI_eq, fJ_sJ_eq]
            have y28 : gi hy 28 = upd (gi h 28) nd (fI h 5 4) := by
              rw [ehy]; simp (disch := first | omega | ((repeat (first | exact r.S | apply Sh.si | apply Sh.sI | apply Sh.sJ | apply Sh.sl)); done) | decide | exact kF_K ‹_› (by omega) | exact kI_of (shT_B ‹_›).2.2 | exact kI_of (shT_K ‹_›).2.2.1 | exact kI_of (shT_K ‹_›).2.2.2 | exact kFB ‹_› | exact kFM ‹_› | exact kJM ‹_› | exact kFN ‹_› | exact kJN ‹_› | rfl) only [gi_si_ne, gi_sI, gi_sJ, gi_sl, gl_sl_ne, gl_si, gl_sI, gl_sJ, fI_si, fI_sl, fI_sJ, fI_sI_ne, fI_sI_k, fJ_si, fJ_sl, fJ_sI, fJ_sJ_ne, gi_si_eq, gl_sl_eq, fI_sI_eq, fJ_sJ_eq]
            have y29 : gi hy 29 = upd (gi h 29) nd (fI h (112 + 4 * t) 4) := by
              rw [ehy]; simp (disch := first | omega | ((repeat (first | exact r.S | apply Sh.si | apply Sh.sI | apply Sh.sJ | apply Sh.sl)); done) | decide | exact kF_K ‹_› (by omega) | exact kI_of (shT_B ‹_›).2.2 | exact kI_of (shT_K ‹_›).2.2.1 | exact kI_of (shT_K ‹_›).2.2.2 | exact kFB ‹_› | exact kFM ‹_› | exact kJM ‹_› | exact kFN ‹_› | exact kJN ‹_› | rfl) only [gi_si_ne, gi_sI, gi_sJ, gi_sl, gl_sl_ne, gl_si, gl_sI, gl_sJ, fI_si, fI_sl, fI_sJ, fI_sI_ne, fI_sI_k, fJ_si, fJ_sl, fJ_sI, fJ_sJ_ne, gi_si_eq, gl_sl_eq, fI_sI_eq, fJ_sJ_eq]
            have y30 : gl hy 30 = vp_updL (gl h 30) nd (fJ h (113 + 4 * t) 2) := by
              rw [ehy]; simp (disch := first | omega | ((repeat (first | exact r.S | apply Sh.si | apply Sh.sI | apply Sh.sJ | apply Sh.sl)); done) | decide | exact kF_K ‹_› (by omega) | exact kI_of (shT_B ‹_›).2.2 | exact kI_of (shT_K ‹_›).2.2.1 | exact kI_of (shT_K ‹_›).2.2.2 | exact kFB ‹_› | exact kFM ‹_› | exact kJM ‹_› | exact kFN ‹_› | exact kJN ‹_› | rfl) only [gi_si_ne, gi_sI, gi_sJ, gi_sl, gl_sl_ne, gl_si, gl_sI, gl_sJ, fI_si, fI_sl, fI_sJ, fI_sI_ne, fI_sI_k, fJ_si, fJ_sl, fJ_sI, fJ_sJ_ne, gi_si_eq, gl_sl_eq, fI_sI_eq, fJ_sJ_eq]
            have y25 : fI hy 25 5 = nI (nd + 1) := by
              rw [ehy]; simp (disch := first | omega | ((repeat (first | exact r.S | apply Sh.si | apply Sh.sI | apply Sh.sJ | apply Sh.sl)); done) | decide | exact kF_K ‹_› (by omega) | exact kI_of (shT_B ‹_›).2.2 | exact kI_of (shT_K ‹_›).2.2.1 | exact kI_of (shT_K ‹_›).2.2.2 | exact kFB ‹_› | exact kFM ‹_› | exact kJM ‹_› | exact kFN ‹_› | exact kJN ‹_› | rfl) only [gi_si_ne, gi_sI, gi_sJ, gi_sl, gl_sl_ne, gl_si, gl_sI, gl_sJ, fI_si, fI_sl, fI_sJ, fI_sI_ne, fI_sI_k, fJ_si, fJ_sl, fJ_sI, fJ_sJ_ne, gi_si_eq, gl_sl_eq, fI_sI_eq, fJ_sJ_eq]
            have yi : fI hy (112 + 4 * t) 2 = gi h 150 t := by rw [Fhy _ _ (by omega)]; exact K.ins
            have e1 : drwH hy t n nb = si (si (si (sI (sI (sI hy (112 + 4 * t) 2 (gi h 150 t - n)) (112 + 4 * t) 5 1) (112 + 4 * t) 6 1) (115 + 4 * t) (upd (gi hy (115 + 4 * t)) 0 (shof (gi hy (114 + 4 * t)) (gi hy 3) (gi hy 4) 0 nb))) (115 + 4 * t) (upd (upd (gi hy (115 + 4 * t)) 0 (shof (gi hy (114 + 4 * t)) (gi hy 3) (gi hy 4) 0 nb)) 1 (shof (gi hy (114 + 4 * t)) (gi hy 3) (gi hy 4) 1 nb))) (115 + 4 * t) (upd (upd (upd (gi hy (115 + 4 * t)) 0 (shof (gi hy (114 + 4 * t)) (gi hy 3) (gi hy 4) 0 nb)) 1 (shof (gi hy (114 + 4 * t)) (gi hy 3) (gi hy 4) 1 nb)) 2 (shof (gi hy (114 + 4 * t)) (gi hy 3) (gi hy 4) 2 nb)) := by
              rw [drwH, if_pos (by rw [yi, gz]; decide), drwF]
              unfold stS drw0
              rw [yi, show 113 + 4 * t + 1 = 114 + 4 * t by omega]
              simp (disch := first | omega | ((repeat (first | exact Shy | apply Sh.si | apply Sh.sI | apply Sh.sJ | apply Sh.sl)); done) | exact kI_of (shT_K ht).2.2.2) only [gi_si_eq, gi_sI]
            obtain ⟨h1, eh1⟩ : ∃ zz : HF, zz = si (si (si (sI (sI (sI hy (112 + 4 * t) 2 (gi h 150 t - n)) (112 + 4 * t) 5 1) (112 + 4 * t) 6 1) (115 + 4 * t) (upd (gi hy (115 + 4 * t)) 0 (shof (gi hy (114 + 4 * t)) (gi hy 3) (gi hy 4) 0 nb))) (115 + 4 * t) (upd (upd (gi hy (115 + 4 * t)) 0 (shof (gi hy (114 + 4 * t)) (gi hy 3) (gi hy 4) 0 nb)) 1 (shof (gi hy (114 + 4 * t)) (gi hy 3) (gi hy 4) 1 nb))) (115 + 4 * t) (upd (upd (upd (gi hy (115 + 4 * t)) 0 (shof (gi hy (114 + 4 * t)) (gi hy 3) (gi hy 4) 0 nb)) 1 (shof (gi hy (114 + 4 * t)) (gi hy 3) (gi hy 4) 1 nb)) 2 (shof (gi hy (114 + 4 * t)) (gi hy 3) (gi hy 4) 2 nb)) := ⟨_, rfl⟩
            have Sh1 : Sh h1 := by rw [eh1]; (repeat (first | exact Shy | apply Sh.si | apply Sh.sI | apply Sh.sJ | apply Sh.sl))
            have Gh1 : ∀ x, x ≠ 115 + 4 * t → gi h1 x = gi hy x := by
              intro x q0; rw [eh1]; (try simp (disch := first | assumption | omega) only [gi_si_ne, gi_sI, gi_sJ, gi_sl, gl_sl_ne, gl_si, gl_sI, gl_sJ, fI_si, fI_sl, fI_sJ, fI_sI_ne, fI_sI_k, fJ_si, fJ_sl, fJ_sI, fJ_sJ_ne])
            have Lh1 : ∀ x, gl h1 x = gl hy x := by
              intro x ; rw [eh1]; (try simp (disch := first | assumption | omega) only [gi_si_ne, gi_sI, gi_sJ, gi_sl, gl_sl_ne, gl_si, gl_sI, gl_sJ, fI_si, fI_sl, fI_sJ, fI_sI_ne, fI_sI_k, fJ_si, fJ_sl, fJ_sI, fJ_sJ_ne])
            have Fh1 : ∀ x kk, ¬ (x = 112 + 4 * t ∧ kk = 2) → ¬ (x = 112 + 4 * t ∧ kk = 5) → ¬ (x = 112 + 4 * t ∧ kk = 6) → fI h1 x kk = fI hy x kk := by
              intro x kk q0 q1 q2; rw [eh1]; first | rfl | (simp (disch := first | assumption | omega) only [fI_si, fI_sl, fI_sJ, fI_sI_o])
            have Jh1 : ∀ x kk, fJ h1 x kk = fJ hy x kk := by
              intro x kk ; rw [eh1]; first | rfl | (simp (disch := first | assumption | omega) only [fJ_si, fJ_sl, fJ_sI, fJ_sJ_o])
            have c1 : gi h1 (115 + 4 * t) = upd (upd (upd (gi hy (115 + 4 * t)) 0 (shof (gi hy (114 + 4 * t)) (gi hy 3) (gi hy 4) 0 nb)) 1 (shof (gi hy (114 + 4 * t)) (gi hy 3) (gi hy 4) 1 nb)) 2 (shof (gi hy (114 + 4 * t)) (gi hy 3) (gi hy 4) 2 nb) := by
              rw [eh1]; simp (disch := first | omega | ((repeat (first | exact Shy | apply Sh.si | apply Sh.sI | apply Sh.sJ | apply Sh.sl)); done) | decide | exact kF_K ‹_› (by omega) | exact kI_of (shT_B ‹_›).2.2 | exact kI_of (shT_K ‹_›).2.2.1 | exact kI_of (shT_K ‹_›).2.2.2 | exact kFB ‹_› | exact kFM ‹_› | exact kJM ‹_› | exact kFN ‹_› | exact kJN ‹_› | rfl) only [gi_si_ne, gi_sI, gi_sJ, gi_sl, gl_sl_ne, gl_si, gl_sI, gl_sJ, fI_si, fI_sl, fI_sJ, fI_sI_ne, fI_sI_k, fJ_si, fJ_sl, fJ_sI, fJ_sJ_ne, gi_si_eq, gl_sl_eq, fI_sI_eq, fJ_sJ_eq]
            have c2 : fI h1 (112 + 4 * t) 2 = gi h 150 t - n := by
              rw [eh1]; simp (disch := first | omega | ((repeat (first | exact Shy | apply Sh.si | apply Sh.sI | apply Sh.sJ | apply Sh.sl)); done) | decide | exact kF_K ‹_› (by omega) | exact kI_of (shT_B ‹_›).2.2 | exact kI_of (shT_K ‹_›).2.2.1 | exact kI_of (shT_K ‹_›).2.2.2 | exact kFB ‹_› | exact kFM ‹_› | exact kJM ‹_› | exact kFN ‹_› | exact kJN ‹_› | rfl) only [fI_sI_o, gi_si_ne, gi_sI, gi_sJ, gi_sl, gl_sl_ne, gl_si, gl_sI, gl_sJ, fI_si, fI_sl, fI_sJ, fI_sI_ne, fI_sI_k, fJ_si, fJ_sl, fJ_sI, fJ_sJ_ne, gi_si_eq, gl_sl_eq, fI_sI_eq, fJ_sJ_eq]
            have c5 : fI h1 (112 + 4 * t) 5 = 1 := by
              rw [eh1]; simp (disch := first | omega | ((repeat (first | exact Shy | apply Sh.si | apply Sh.sI | apply Sh.sJ | apply Sh.sl)); done) | decide | exact kF_K ‹_› (by omega) | exact kI_of (shT_B ‹_›).2.2 | exact kI_of (shT_K ‹_›).2.2.1 | exact kI_of (shT_K ‹_›).2.2.2 | exact kFB ‹_› | exact kFM ‹_› | exact kJM ‹_› | exact kFN ‹_› | exact kJN ‹_› | rfl) only [fI_sI_o, gi_si_ne, gi_sI, gi_sJ, gi_sl, gl_sl_ne, gl_si, gl_sI, gl_sJ, fI_si, fI_sl, fI_sJ, fI_sI_ne, fI_sI_k, fJ_si, fJ_sl, fJ_sI, fJ_sJ_ne, gi_si_eq, gl_sl_eq, fI_sI_eq, fJ_sJ_eq]
            have c6 : fI h1 (112 + 4 * t) 6 = 1 := by
              rw [eh1]; simp (disch := first | omega | ((repeat (first | exact Shy | apply Sh.si | apply Sh.sI | apply Sh.sJ | apply Sh.sl)); done) | decide | exact kF_K ‹_› (by omega) | exact kI_of (shT_B ‹_›).2.2 | exact kI_of (shT_K ‹_›).2.2.1 | exact kI_of (shT_K ‹_›).2.2.2 | exact kFB ‹_› | exact kFM ‹_› | exact kJM ‹_› | exact kFN ‹_› | exact kJN ‹_› | rfl) only [fI_sI_o, gi_si_ne, gi_sI, gi_sJ, gi_sl, gl_sl_ne, gl_si, gl_sI, gl_sJ, fI_si, fI_sl, fI_sJ, fI_sI_ne, fI_sI_k, fJ_si, fJ_sl, fJ_sI, fJ_sJ_ne, gi_si_eq, gl_sl_eq, fI_sI_eq, fJ_sJ_eq]
            rw [e0, e1, ← eh1] at c
            have m := c_X10_fill Sh1 (nI t) n nd (by rw [Fh1 _ _ (by omega) (by omega) (by omega), Fhy _ _ (by omega)]; exact r.g.m) g0
            rw [(show gi h1 150 = gi h 150 by rw [Gh1 150 (by omega), Ghy 150 (by omega) (by omega) (by omega) (by omega)])] at m
            simp only [mFill, if_pos g0, if_pos g1, if_pos g2, nI_clamp (show t < 2147483648 by omega), (show gi h1 150 = gi h 150 by rw [Gh1 150 (by omega), Ghy 150 (by omega) (by omega) (by omega) (by omega)]), if_pos g3] at m
            obtain ⟨hz, ehz⟩ : ∃ zz : HF, zz = sI (si (sl (si (si (si h1 157 (upd (gi h1 157) nd n)) 158 (upd (gi h1 158) nd (nI t))) 159 (upd (gi h1 159) nd (fI h1 132 0))) 160 (vp_updL (gl h1 160) nd (gl h1 154 t))) 161 (upd (gi h1 161) nd (gi h1 155 t))) 132 31 (nI (nd + 1)) := ⟨_, rfl⟩
            have Shz : Sh hz := by rw [ehz]; (repeat (first | exact Sh1 | apply Sh.si | apply Sh.sI | apply Sh.sJ | apply Sh.sl))
            have Ghz : ∀ x, x ≠ 157 → x ≠ 158 → x ≠ 159 → x ≠ 161 → gi hz x = gi h1 x := by
              intro x q0 q1 q2 q3; rw [ehz]; (try simp (disch := first | assumption | omega) only [gi_si_ne, gi_sI, gi_sJ, gi_sl, gl_sl_ne, gl_si, gl_sI, gl_sJ, fI_si, fI_sl, fI_sJ, fI_sI_ne, fI_sI_k, fJ_si, fJ_sl, fJ_sI, fJ_sJ_ne])
            have Lhz : ∀ x, x ≠ 160 → gl hz x = gl h1 x := by
              intro x q0; rw [ehz]; (try simp (disch := first | assumption | omega) only [gi_si_ne, gi_sI, gi_sJ, gi_sl, gl_sl_ne, gl_si, gl_sI, gl_sJ, fI_si, fI_sl, fI_sJ, fI_sI_ne, fI_sI_k, fJ_si, fJ_sl, fJ_sI, fJ_sJ_ne])
            have Fhz : ∀ x kk, ¬ (x = 132 ∧ kk = 31) → fI hz x kk = fI h1 x kk := by
              intro x kk q0; rw [ehz]; first | rfl | (simp (disch := first | assumption | omega) only [fI_si, fI_sl, fI_sJ, fI_sI_o])
            have Jhz : ∀ x kk, fJ hz x kk = fJ h1 x kk := by
              intro x kk ; rw [ehz]; first | rfl | (simp (disch := first | assumption | omega) only [fJ_si, fJ_sl, fJ_sI, fJ_sJ_o])
            have z0 : mfA h1 t nd n = hz := by
              rw [ehz, mfA]; try simp (disch := omega) only [gi_si_ne, gi_sI, gi_sJ, gi_sl, gl_sl_ne, gl_si, gl_sI, gl_sJ, fI_si, fI_sl, fI_sJ, fI_sI_ne, fI_sI_k, fJ_si, fJ_sl, fJ_sI, fJ_sJ_ne]
            have z157 : gi hz 157 = upd (gi h1 157) nd n := by
              rw [ehz]; simp (disch := first | omega | ((repeat (first | exact Sh1 | apply Sh.si | apply Sh.sI | apply Sh.sJ | apply Sh.sl)); done) | decide | exact kF_K ‹_› (by omega) | exact kI_of (shT_B ‹_›).2.2 | exact kI_of (shT_K ‹_›).2.2.1 | exact kI_of (shT_K ‹_›).2.2.2 | exact kFB ‹_› | exact kFM ‹_› | exact kJM ‹_› | exact kFN ‹_› | exact kJN ‹_› | rfl) only [gi_si_ne, gi_sI, gi_sJ, gi_sl, gl_sl_ne, gl_si, gl_sI, gl_sJ, fI_si, fI_sl, fI_sJ, fI_sI_ne, fI_sI_k, fJ_si, fJ_sl, fJ_sI, fJ_sJ_ne, gi_si_eq, gl_sl_eq, fI_sI_eq, fJ_sJ_eq]
            have z158 : gi hz 158 = upd (gi h1 158) nd (nI t) := by
              rw [ehz]; simp (disch := first | omega | ((repeat (first | exact Sh1 | apply Sh.si | apply Sh.sI | apply Sh.sJ | apply Sh.sl)); done) | decide | exact kF_K ‹_› (by omega) | exact kI_of (shT_B ‹_›).2.2 | exact kI_of (shT_K ‹_›).2.2.1 | exact kI_of (shT_K ‹_›).2.2.2 | exact kFB ‹_› | exact kFM ‹_› | exact kJM ‹_› | exact kFN ‹_› | exact kJN ‹_› | rfl) only [gi_si_ne, gi_sI, gi_sJ, gi_sl, gl_sl_ne, gl_si, gl_sI, gl_sJ, fI_si, fI_sl, fI_sJ, fI_sI_ne, fI_sI_k, fJ_si, fJ_sl, fJ_sI, fJ_sJ_ne, gi_si_eq, gl_sl_eq, fI_sI_eq, fJ_sJ_eq]
            have z159 : gi hz 159 = upd (gi h1 159) nd (fI h1 132 0) := by
              rw [ehz]; simp (disch := first | omega | ((repeat (first | exact Sh1 | apply Sh.si | apply Sh.sI | apply Sh.sJ | apply Sh.sl)); done) | decide | exact kF_K ‹_› (by omega) | exact kI_of (shT_B ‹_›).2.2 | exact kI_of (shT_K ‹_›).2.2.1 | exact kI_of (shT_K ‹_›).2.2.2 | exact kFB ‹_› | exact kFM ‹_› | exact kJM ‹_› | exact kFN ‹_› | exact kJN ‹_› | rfl) only [gi_si_ne, gi_sI, gi_sJ, gi_sl, gl_sl_ne, gl_si, gl_sI, gl_sJ, fI_si, fI_sl, fI_sJ, fI_sI_ne, fI_sI_k, fJ_si, fJ_sl, fJ_sI, fJ_sJ_ne, gi_si_eq, gl_sl_eq, fI_sI_eq, fJ_sJ_eq]
            have z161 : gi hz 161 = upd (gi h1 161) nd (gi h1 155 t) := by
              rw [ehz]; simp (disch := first | omega | ((repeat (first | exact Sh1 | apply Sh.si | apply Sh.sI | apply Sh.sJ | apply Sh.sl)); done) | decide | exact kF_K ‹_› (by omega) | exact kI_of (shT_B ‹_›).2.2 | exact kI_of (shT_K ‹_›).2.2.1 | exact kI_of (shT_K ‹_›).2.2.2 | exact kFB ‹_› | exact kFM ‹_› | exact kJM ‹_› | exact kFN ‹_› | exact kJN ‹_› | rfl) only [gi_si_ne, gi_sI, gi_sJ, gi_sl, gl_sl_ne, gl_si, gl_sI, gl_sJ, fI_si, fI_sl, fI_sJ, fI_sI_ne, fI_sI_k, fJ_si, fJ_sl, fJ_sI, fJ_sJ_ne, gi_si_eq, gl_sl_eq, fI_sI_eq, fJ_sJ_eq]
            have z160 : gl hz 160 = vp_updL (gl h1 160) nd (gl h1 154 t) := by
              rw [ehz]; simp (disch := first | omega | ((repeat (first | exact Sh1 | apply Sh.si | apply Sh.sI | apply Sh.sJ | apply Sh.sl)); done) | decide | exact kF_K ‹_› (by omega) | exact kI_of (shT_B ‹_›).2.2 | exact kI_of (shT_K ‹_›).2.2.1 | exact kI_of (shT_K ‹_›).2.2.2 | exact kFB ‹_› | exact kFM ‹_› | exact kJM ‹_› | exact kFN ‹_› | exact kJN ‹_› | rfl) only [gi_si_ne, gi_sI, gi_sJ, gi_sl, gl_sl_ne, gl_si, gl_sI, gl_sJ, fI_si, fI_sl, fI_sJ, fI_sI_ne, fI_sI_k, fJ_si, fJ_sl, fJ_sI, fJ_sJ_ne, gi_si_eq, gl_sl_eq, fI_sI_eq, fJ_sJ_eq]
            have z31 : fI hz 132 31 = nI (nd + 1) := by
              rw [ehz]; simp (disch := first | omega | ((repeat (first | exact Sh1 | apply Sh.si | apply Sh.sI | apply Sh.sJ | apply Sh.sl)); done) | decide | exact kF_K ‹_› (by omega) | exact kI_of (shT_B ‹_›).2.2 | exact kI_of (shT_K ‹_›).2.2.1 | exact kI_of (shT_K ‹_›).2.2.2 | exact kFB ‹_› | exact kFM ‹_› | exact kJM ‹_› | exact kFN ‹_› | exact kJN ‹_› | rfl) only [gi_si_ne, gi_sI, gi_sJ, gi_sl, gl_sl_ne, gl_si, gl_sI, gl_sJ, fI_si, fI_sl, fI_sJ, fI_sI_ne, fI_sI_k, fJ_si, fJ_sl, fJ_sI, fJ_sJ_ne, gi_si_eq, gl_sl_eq, fI_sI_eq, fJ_sJ_eq]
            have n150 : gi h1 150 = gi h 150 := (show gi h1 150 = gi h 150 by rw [Gh1 150 (by omega), Ghy 150 (by omega) (by omega) (by omega) (by omega)])
            have zi : gi hz 150 t = gi h 150 t := by rw [Ghz 150 (by omega) (by omega) (by omega) (by omega), n150]
            have z1 : mfD h1 t nd n = si (si (si (si hz 150 (upd (gi hz 150) t (gi h 150 t - n))) 152 (upd (gi hz 152) t 1)) 151 (upd (gi hz 151) t 1)) 156 (rowF (gi hz 156) (3 * t) (fun d => ysh (gi hz 153) (gi hz 169) (gi hz 133) (gi hz 134) (8 * t) d) 3) := by
              rw [mfD, n150, if_pos gz, z0]
              unfold mfC mfB
              rw [zi]
              simp (disch := omega) only [gi_si_ne, gi_sI, gi_sJ, gi_sl, gl_sl_ne, gl_si, gl_sI, gl_sJ, fI_si, fI_sl, fI_sJ, fI_sI_ne, fI_sI_k, fJ_si, fJ_sl, fJ_sI, fJ_sJ_ne]
            rw [z1] at m
            obtain ⟨h2, eh2⟩ : ∃ zz : HF, zz = si (si (si (si hz 150 (upd (gi hz 150) t (gi h 150 t - n))) 152 (upd (gi hz 152) t 1)) 151 (upd (gi hz 151) t 1)) 156 (rowF (gi hz 156) (3 * t) (fun d => ysh (gi hz 153) (gi hz 169) (gi hz 133) (gi hz 134) (8 * t) d) 3) := ⟨_, rfl⟩
            replace m := Mc_h eh2 m
            have Sh2 : Sh h2 := by rw [eh2]; (repeat (first | exact Shz | apply Sh.si | apply Sh.sI | apply Sh.sJ | apply Sh.sl))
            have Gh2 : ∀ x, x ≠ 150 → x ≠ 152 → x ≠ 151 → x ≠ 156 → gi h2 x = gi hz x := by
              intro x q0 q1 q2 q3; rw [eh2]; (try simp (disch := first | assumption | omega) only [gi_si_ne, gi_sI, gi_sJ, gi_sl, gl_sl_ne, gl_si, gl_sI, gl_sJ, fI_si, fI_sl, fI_sJ, fI_sI_ne, fI_sI_k, fJ_si, fJ_sl, fJ_sI, fJ_sJ_ne])
            have Lh2 : ∀ x, gl h2 x = gl hz x := by
              intro x ; rw [eh2]; (try simp (disch := first | assumption | omega) only [gi_si_ne, gi_sI, gi_sJ, gi_sl, gl_sl_ne, gl_si, gl_sI, gl_sJ, fI_si, fI_sl, fI_sJ, fI_sI_ne, fI_sI_k, fJ_si, fJ_sl, fJ_sI, fJ_sJ_ne])
            have Fh2 : ∀ x kk, fI h2 x kk = fI hz x kk := by
              intro x kk ; rw [eh2]; first | rfl | (simp (disch := first | assumption | omega) only [fI_si, fI_sl, fI_sJ, fI_sI_o])
            have Jh2 : ∀ x kk, fJ h2 x kk = fJ hz x kk := by
              intro x kk ; rw [eh2]; first | rfl | (simp (disch := first | assumption | omega) only [fJ_si, fJ_sl, fJ_sI, fJ_sJ_o])
            have m151 : gi h2 151 = upd (gi hz 151) t 1 := by
              rw [eh2]; simp (disch := first | omega | ((repeat (first | exact Shz | apply Sh.si | apply Sh.sI | apply Sh.sJ | apply Sh.sl)); done) | decide | exact kF_K ‹_› (by omega) | exact kI_of (shT_B ‹_›).2.2 | exact kI_of (shT_K ‹_›).2.2.1 | exact kI_of (shT_K ‹_›).2.2.2 | exact kFB ‹_› | exact kFM ‹_› | exact kJM ‹_› | exact kFN ‹_› | exact kJN ‹_› | rfl) only [gi_si_ne, gi_sI, gi_sJ, gi_sl, gl_sl_ne, gl_si, gl_sI, gl_sJ, fI_si, fI_sl, fI_sJ, fI_sI_ne, fI_sI_k, fJ_si, fJ_sl, fJ_sI, fJ_sJ_ne, gi_si_eq, gl_sl_eq, fI_sI_eq, fJ_sJ_eq]
            have m156 : gi h2 156 = rowF (gi hz 156) (3 * t) (fun d => ysh (gi hz 153) (gi hz 169) (gi hz 133) (gi hz 134) (8 * t) d) 3 := by
              rw [eh2]; simp (disch := first | omega | ((repeat (first | exact Shz | apply Sh.si | apply Sh.sI | apply Sh.sJ | apply Sh.sl)); done) | decide | exact kF_K ‹_› (by omega) | exact kI_of (shT_B ‹_›).2.2 | exact kI_of (shT_K ‹_›).2.2.1 | exact kI_of (shT_K ‹_›).2.2.2 | exact kFB ‹_› | exact kFM ‹_› | exact kJM ‹_› | exact kFN ‹_› | exact kJN ‹_› | rfl) only [gi_si_ne, gi_sI, gi_sJ, gi_sl, gl_sl_ne, gl_si, gl_sI, gl_sJ, fI_si, fI_sl, fI_sJ, fI_sI_ne, fI_sI_k, fJ_si, fJ_sl, fJ_sI, fJ_sJ_ne, gi_si_eq, gl_sl_eq, fI_sI_eq, fJ_sJ_eq]
            have m150 : gi h2 150 = upd (gi hz 150) t (gi h 150 t - n) := by
              rw [eh2]; simp (disch := first | omega | ((repeat (first | exact Shz | apply Sh.si | apply Sh.sI | apply Sh.sJ | apply Sh.sl)); done) | decide | exact kF_K ‹_› (by omega) | exact kI_of (shT_B ‹_›).2.2 | exact kI_of (shT_K ‹_›).2.2.1 | exact kI_of (shT_K ‹_›).2.2.2 | exact kFB ‹_› | exact kFM ‹_› | exact kJM ‹_› | exact kFN ‹_› | exact kJN ‹_› | rfl) only [gi_si_ne, gi_sI, gi_sJ, gi_sl, gl_sl_ne, gl_si, gl_sI, gl_sJ, fI_si, fI_sl, fI_sJ, fI_sI_ne, fI_sI_k, fJ_si, fJ_sl, fJ_sI, fJ_sJ_ne, gi_si_eq, gl_sl_eq, fI_sI_eq, fJ_sJ_eq]
            have m152 : gi h2 152 = upd (gi hz 152) t 1 := by
              rw [eh2]; simp (disch := first | omega | ((repeat (first | exact Shz | apply Sh.si | apply Sh.sI | apply Sh.sJ | apply Sh.sl)); done) | decide | exact kF_K ‹_› (by omega) | exact kI_of (shT_B ‹_›).2.2 | exact kI_of (shT_K ‹_›).2.2.1 | exact kI_of (shT_K ‹_›).2.2.2 | exact kFB ‹_› | exact kFM ‹_› | exact kJM ‹_› | exact kFN ‹_› | exact kJN ‹_› | rfl) only [gi_si_ne, gi_sI, gi_sJ, gi_sl, gl_sl_ne, gl_si, gl_sI, gl_sJ, fI_si, fI_sl, fI_sJ, fI_sI_ne, fI_sI_k, fJ_si, fJ_sl, fJ_sI, fJ_sJ_ne, gi_si_eq, gl_sl_eq, fI_sI_eq, fJ_sJ_eq]
            exact JJ_upd c m ev (nd := nd + 1) (Rel.of (Sh2)
                (Ra.of (by (try simp (disch := omega) only [Gh2, Lh2, Fh2, Jh2, Ghz, Lhz, Fhz, Jhz, Gh1, Lh1, Fh1, Jh1, Ghy, Lhy, Fhy, Jhy]); exact r.a.c)
                (by (try simp (disch := omega) only [Gh2, Lh2, Fh2, Jh2, Ghz, Lhz, Fhz, Jhz, Gh1, Lh1, Fh1, Jh1, Ghy, Lhy, Fhy, Jhy]); exact r.a.m)
                (by (try simp (disch := omega) only [Gh2, Lh2, Fh2, Jh2, Ghz, Lhz, Fhz, Jhz, Gh1, Lh1, Fh1, Jh1, Ghy, Lhy, Fhy, Jhy]); exact r.a.le)
                (by (try simp (disch := omega) only [Gh2, Lh2, Fh2, Jh2, Ghz, Lhz, Fhz, Jhz, Gh1, Lh1, Fh1, Jh1, Ghy, Lhy, Fhy, Jhy]); exact r.a.A)
                (by (try simp (disch := omega) only [Gh2, Lh2, Fh2, Jh2, Ghz, Lhz, Fhz, Jhz, Gh1, Lh1, Fh1, Jh1, Ghy, Lhy, Fhy, Jhy]); exact r.a.P))
                (Rb.of (by (try simp (disch := omega) only [Gh2, Lh2, Fh2, Jh2, Ghz, Lhz, Fhz, Jhz, Gh1, Lh1, Fh1, Jh1, Ghy, Lhy, Fhy, Jhy]); exact r.b.c)
                (by (try simp (disch := omega) only [Gh2, Lh2, Fh2, Jh2, Ghz, Lhz, Fhz, Jhz, Gh1, Lh1, Fh1, Jh1, Ghy, Lhy, Fhy, Jhy]); exact r.b.m)
                (by (try simp (disch := omega) only [Gh2, Lh2, Fh2, Jh2, Ghz, Lhz, Fhz, Jhz, Gh1, Lh1, Fh1, Jh1, Ghy, Lhy, Fhy, Jhy]); exact r.b.le)
                (by (try simp (disch := omega) only [Gh2, Lh2, Fh2, Jh2, Ghz, Lhz, Fhz, Jhz, Gh1, Lh1, Fh1, Jh1, Ghy, Lhy, Fhy, Jhy]); exact r.b.day)
                (by (try simp (disch := omega) only [Gh2, Lh2, Fh2, Jh2, Ghz, Lhz, Fhz, Jhz, Gh1, Lh1, Fh1, Jh1, Ghy, Lhy, Fhy, Jhy]); exact r.b.B)
                (by (try simp (disch := omega) only [Gh2, Lh2, Fh2, Jh2, Ghz, Lhz, Fhz, Jhz, Gh1, Lh1, Fh1, Jh1, Ghy, Lhy, Fhy, Jhy]); exact r.b.S)
                (by (try simp (disch := omega) only [Gh2, Lh2, Fh2, Jh2, Ghz, Lhz, Fhz, Jhz, Gh1, Lh1, Fh1, Jh1, Ghy, Lhy, Fhy, Jhy]); exact r.b.L)
                (by (try simp (disch := omega) only [Gh2, Lh2, Fh2, Jh2, Ghz, Lhz, Fhz, Jhz, Gh1, Lh1, Fh1, Jh1, Ghy, Lhy, Fhy, Jhy]); exact r.b.P)
                (by (try simp (disch := omega) only [Gh2, Lh2, Fh2, Jh2, Ghz, Lhz, Fhz, Jhz, Gh1, Lh1, Fh1, Jh1, Ghy, Lhy, Fhy, Jhy]); exact r.b.lb))
                (Rc.of (by (try simp (disch := omega) only [Gh2, Lh2, Fh2, Jh2, Ghz, Lhz, Fhz, Jhz, Gh1, Lh1, Fh1, Jh1, Ghy, Lhy, Fhy, Jhy]); exact r.c.c)
                (by (try simp (disch := omega) only [Gh2, Lh2, Fh2, Jh2, Ghz, Lhz, Fhz, Jhz, Gh1, Lh1, Fh1, Jh1, Ghy, Lhy, Fhy, Jhy]); exact r.c.m)
                (by (try simp (disch := omega) only [Gh2, Lh2, Fh2, Jh2, Ghz, Lhz, Fhz, Jhz, Gh1, Lh1, Fh1, Jh1, Ghy, Lhy, Fhy, Jhy]); exact r.c.le)
                (by (try simp (disch := omega) only [Gh2, Lh2, Fh2, Jh2, Ghz, Lhz, Fhz, Jhz, Gh1, Lh1, Fh1, Jh1, Ghy, Lhy, Fhy, Jhy]); exact r.c.E)
                (by (try simp (disch := omega) only [Gh2, Lh2, Fh2, Jh2, Ghz, Lhz, Fhz, Jhz, Gh1, Lh1, Fh1, Jh1, Ghy, Lhy, Fhy, Jhy]); exact r.c.S)
                (by (try simp (disch := omega) only [Gh2, Lh2, Fh2, Jh2, Ghz, Lhz, Fhz, Jhz, Gh1, Lh1, Fh1, Jh1, Ghy, Lhy, Fhy, Jhy]); exact r.c.T)
                (by (try simp (disch := omega) only [Gh2, Lh2, Fh2, Jh2, Ghz, Lhz, Fhz, Jhz, Gh1, Lh1, Fh1, Jh1, Ghy, Lhy, Fhy, Jhy]); exact r.c.C)
                (by (try simp (disch := omega) only [Gh2, Lh2, Fh2, Jh2, Ghz, Lhz, Fhz, Jhz, Gh1, Lh1, Fh1, Jh1, Ghy, Lhy, Fhy, Jhy]); exact r.c.N)
                (by (try simp (disch := omega) only [Gh2, Lh2, Fh2, Jh2, Ghz, Lhz, Fhz, Jhz, Gh1, Lh1, Fh1, Jh1, Ghy, Lhy, Fhy, Jhy]); exact r.c.ok)
                (by (try simp (disch := omega) only [Gh2, Lh2, Fh2, Jh2, Ghz, Lhz, Fhz, Jhz, Gh1, Lh1, Fh1, Jh1, Ghy, Lhy, Fhy, Jhy]); exact r.c.tm)
                (by (try simp (disch := omega) only [Gh2, Lh2, Fh2, Jh2, Ghz, Lhz, Fhz, Jhz, Gh1, Lh1, Fh1, Jh1, Ghy, Lhy, Fhy, Jhy]); exact r.c.tz)
                (by (try simp (disch := omega) only [Gh2, Lh2, Fh2, Jh2, Ghz, Lhz, Fhz, Jhz, Gh1, Lh1, Fh1, Jh1, Ghy, Lhy, Fhy, Jhy]); exact r.c.cz)
                (by (try simp (disch := omega) only [Gh2, Lh2, Fh2, Jh2, Ghz, Lhz, Fhz, Jhz, Gh1, Lh1, Fh1, Jh1, Ghy, Lhy, Fhy, Jhy]); exact r.c.nn))
                (Rd.of (by (try simp (disch := omega) only [Gh2, Lh2, Fh2, Jh2, Ghz, Lhz, Fhz, Jhz, Gh1, Lh1, Fh1, Jh1, Ghy, Lhy, Fhy, Jhy]); exact r.d.c)
                (by (try simp (disch := omega) only [Gh2, Lh2, Fh2, Jh2, Ghz, Lhz, Fhz, Jhz, Gh1, Lh1, Fh1, Jh1, Ghy, Lhy, Fhy, Jhy]); exact r.d.m)
                (by (try simp (disch := omega) only [Gh2, Lh2, Fh2, Jh2, Ghz, Lhz, Fhz, Jhz, Gh1, Lh1, Fh1, Jh1, Ghy, Lhy, Fhy, Jhy]); exact r.d.le)
                (fun k hk => RdK.of (by (try simp (disch := omega) only [Gh2, Lh2, Fh2, Jh2, Ghz, Lhz, Fhz, Jhz, Gh1, Lh1, Fh1, Jh1, Ghy, Lhy, Fhy, Jhy]); exact (r.d.K k hk).am)
                  (by (try simp (disch := omega) only [Gh2, Lh2, Fh2, Jh2, Ghz, Lhz, Fhz, Jhz, Gh1, Lh1, Fh1, Jh1, Ghy, Lhy, Fhy, Jhy]); exact (r.d.K k hk).bd)
                  (by (try simp (disch := omega) only [Gh2, Lh2, Fh2, Jh2, Ghz, Lhz, Fhz, Jhz, Gh1, Lh1, Fh1, Jh1, Ghy, Lhy, Fhy, Jhy]); exact (r.d.K k hk).zr)
                  (by (try simp (disch := omega) only [Gh2, Lh2, Fh2, Jh2, Ghz, Lhz, Fhz, Jhz, Gh1, Lh1, Fh1, Jh1, Ghy, Lhy, Fhy, Jhy]); exact (r.d.K k hk).un)
                  (by (try simp (disch := omega) only [Gh2, Lh2, Fh2, Jh2, Ghz, Lhz, Fhz, Jhz, Gh1, Lh1, Fh1, Jh1, Ghy, Lhy, Fhy, Jhy]); exact (r.d.K k hk).ul)
                  (by (try simp (disch := omega) only [Gh2, Lh2, Fh2, Jh2, Ghz, Lhz, Fhz, Jhz, Gh1, Lh1, Fh1, Jh1, Ghy, Lhy, Fhy, Jhy]); exact (r.d.K k hk).lo)
                  (by (try simp (disch := omega) only [Gh2, Lh2, Fh2, Jh2, Ghz, Lhz, Fhz, Jhz, Gh1, Lh1, Fh1, Jh1, Ghy, Lhy, Fhy, Jhy]); exact (r.d.K k hk).lb)
                  (by (try simp (disch := omega) only [Gh2, Lh2, Fh2, Jh2, Ghz, Lhz, Fhz, Jhz, Gh1, Lh1, Fh1, Jh1, Ghy, Lhy, Fhy, Jhy]); exact (r.d.K k hk).po)))
                (Re.of (by (try simp (disch := omega) only [Gh2, Lh2, Fh2, Jh2, Ghz, Lhz, Fhz, Jhz, Gh1, Lh1, Fh1, Jh1, Ghy, Lhy, Fhy, Jhy]); exact r.e.fd)
                (by (try simp (disch := omega) only [Gh2, Lh2, Fh2, Jh2, Ghz, Lhz, Fhz, Jhz, Gh1, Lh1, Fh1, Jh1, Ghy, Lhy, Fhy, Jhy]); exact r.e.be)
                (by (try simp (disch := omega) only [Gh2, Lh2, Fh2, Jh2, Ghz, Lhz, Fhz, Jhz, Gh1, Lh1, Fh1, Jh1, Ghy, Lhy, Fhy, Jhy]); exact r.e.bb)
                (by (try simp (disch := omega) only [Gh2, Lh2, Fh2, Jh2, Ghz, Lhz, Fhz, Jhz, Gh1, Lh1, Fh1, Jh1, Ghy, Lhy, Fhy, Jhy]); exact r.e.z))
                (Rf.of (by (try simp (disch := omega) only [Gh2, Lh2, Fh2, Jh2, Ghz, Lhz, Fhz, Jhz, Gh1, Lh1, Fh1, Jh1, Ghy, Lhy, Fhy, Jhy]); exact r.f.lim)
                (by (try simp (disch := omega) only [Gh2, Lh2, Fh2, Jh2, Ghz, Lhz, Fhz, Jhz, Gh1, Lh1, Fh1, Jh1, Ghy, Lhy, Fhy, Jhy]); exact r.f.l0)
                (by (try simp (disch := omega) only [Gh2, Lh2, Fh2, Jh2, Ghz, Lhz, Fhz, Jhz, Gh1, Lh1, Fh1, Jh1, Ghy, Lhy, Fhy, Jhy]); exact r.f.cl)
                (by (try simp (disch := omega) only [Gh2, Lh2, Fh2, Jh2, Ghz, Lhz, Fhz, Jhz, Gh1, Lh1, Fh1, Jh1, Ghy, Lhy, Fhy, Jhy]); exact r.f.no)
                (by
                intro t' ht'
                by_cases e : t' = t
                · subst e
                  have v150 : gi h2 150 t' = gi h 150 t' - n := by rw [m150]; simp only [upd, if_pos]
                  have v152 : gi h2 152 t' = 1 := by rw [m152]; simp only [upd, if_pos]
                  have v151 : gi h2 151 t' = 1 := by rw [m151]; simp only [upd, if_pos]
                  exact RfK.of (by rw [Fh2, Fhz _ _ (by omega), c2, v150])
                    (by (try simp (disch := omega) only [Gh2, Lh2, Fh2, Jh2, Ghz, Lhz, Fhz, Jhz, Gh1, Lh1, Fh1, Jh1, Ghy, Lhy, Fhy, Jhy]); exact K.siz)
                    (by (try simp (disch := omega) only [Gh2, Lh2, Fh2, Jh2, Ghz, Lhz, Fhz, Jhz, Gh1, Lh1, Fh1, Jh1, Ghy, Lhy, Fhy, Jhy]); exact K.bat)
                    (by rw [Fh2, Fhz _ _ (by omega), c5, v152])
                    (by rw [Fh2, Fhz _ _ (by omega), c6, v151])
                    (by
                      intro d hd
                      rw [Gh2 _ (by omega) (by omega) (by omega) (by omega), Ghz _ (by omega) (by omega) (by omega) (by omega), c1, m156, rowF, if_pos (by omega), show 3 * t' + d - 3 * t' = d by omega]
                      have q := shade_t r ht hd
                      rw [show 113 + 4 * t' + 1 = 114 + 4 * t' by omega] at q
                      rw [Ghz 153 (by omega) (by omega) (by omega) (by omega), Gh1 153 (by omega), Ghy 153 (by omega) (by omega) (by omega) (by omega), Ghz 169 (by omega) (by omega) (by omega) (by omega), Gh1 169 (by omega), Ghy 169 (by omega) (by omega) (by omega) (by omega), Ghz 133 (by omega) (by omega) (by omega) (by omega), Gh1 133 (by omega), Ghy 133 (by omega) (by omega) (by omega) (by omega), Ghz 134 (by omega) (by omega) (by omega) (by omega), Gh1 134 (by omega), Ghy 134 (by omega) (by omega) (by omega) (by omega), ← q, Ghy (114 + 4 * t') (by omega) (by omega) (by omega) (by omega), Ghy 3 (by omega) (by omega) (by omega) (by omega), Ghy 4 (by omega) (by omega) (by omega) (by omega)]
                      obtain rfl | rfl | rfl : d = 0 ∨ d = 1 ∨ d = 2 := by omega
                      all_goals simp [upd])
                    (by (try simp (disch := omega) only [Gh2, Lh2, Fh2, Jh2, Ghz, Lhz, Fhz, Jhz, Gh1, Lh1, Fh1, Jh1, Ghy, Lhy, Fhy, Jhy]); exact K.am)
                    (by (try simp (disch := omega) only [Gh2, Lh2, Fh2, Jh2, Ghz, Lhz, Fhz, Jhz, Gh1, Lh1, Fh1, Jh1, Ghy, Lhy, Fhy, Jhy]); exact K.zr)
                    (by (try simp (disch := omega) only [Gh2, Lh2, Fh2, Jh2, Ghz, Lhz, Fhz, Jhz, Gh1, Lh1, Fh1, Jh1, Ghy, Lhy, Fhy, Jhy]); exact K.lo)
                    (by rw [v150, sn]; omega)
                    (by rw [v150, sn]; (try simp (disch := omega) only [Gh2, Lh2, Fh2, Jh2, Ghz, Lhz, Fhz, Jhz, Gh1, Lh1, Fh1, Jh1, Ghy, Lhy, Fhy, Jhy]); have := K.hr; omega)
                    (by (try simp (disch := omega) only [Gh2, Lh2, Fh2, Jh2, Ghz, Lhz, Fhz, Jhz, Gh1, Lh1, Fh1, Jh1, Ghy, Lhy, Fhy, Jhy]); exact K.r6)
                    (fun q => absurd q (by rw [v150, gz]; decide))
                    (by (try simp (disch := omega) only [Gh2, Lh2, Fh2, Jh2, Ghz, Lhz, Fhz, Jhz, Gh1, Lh1, Fh1, Jh1, Ghy, Lhy, Fhy, Jhy]); exact K.lb)
                    (by (try simp (disch := omega) only [Gh2, Lh2, Fh2, Jh2, Ghz, Lhz, Fhz, Jhz, Gh1, Lh1, Fh1, Jh1, Ghy, Lhy, Fhy, Jhy]); exact K.bb)
                · have K' := r.f.K t' ht'
                  have v150 : gi h2 150 t' = gi h 150 t' := by rw [m150, Ghz 150 (by omega) (by omega) (by omega) (by omega), n150]; simp only [upd, if_neg e]
                  have v152 : gi h2 152 t' = gi h 152 t' := by rw [m152, Ghz 152 (by omega) (by omega) (by omega) (by omega), Gh1 152 (by omega), Ghy 152 (by omega) (by omega) (by omega) (by omega)]; simp only [upd, if_neg e]
                  have v151 : gi h2 151 t' = gi h 151 t' := by rw [m151, Ghz 151 (by omega) (by omega) (by omega) (by omega), Gh1 151 (by omega), Ghy 151 (by omega) (by omega) (by omega) (by omega)]; simp only [upd, if_neg e]
                  have v156 : ∀ d, d < 3 → gi h2 156 (3 * t' + d) = gi h 156 (3 * t' + d) := fun d hd => by rw [m156, rowF, if_neg (by omega), Ghz 156 (by omega) (by omega) (by omega) (by omega), Gh1 156 (by omega), Ghy 156 (by omega) (by omega) (by omega) (by omega)]
                  exact RfK.of (by (try simp (disch := omega) only [v150, v152, v151, Gh2, Lh2, Fh2, Jh2, Ghz, Lhz, Fhz, Jhz, Gh1, Lh1, Fh1, Jh1, Ghy, Lhy, Fhy, Jhy]); exact K'.ins)
                    (by (try simp (disch := omega) only [v150, v152, v151, Gh2, Lh2, Fh2, Jh2, Ghz, Lhz, Fhz, Jhz, Gh1, Lh1, Fh1, Jh1, Ghy, Lhy, Fhy, Jhy]); exact K'.siz)
                    (by (try simp (disch := omega) only [v150, v152, v151, Gh2, Lh2, Fh2, Jh2, Ghz, Lhz, Fhz, Jhz, Gh1, Lh1, Fh1, Jh1, Ghy, Lhy, Fhy, Jhy]); exact K'.bat)
                    (by (try simp (disch := omega) only [v150, v152, v151, Gh2, Lh2, Fh2, Jh2, Ghz, Lhz, Fhz, Jhz, Gh1, Lh1, Fh1, Jh1, Ghy, Lhy, Fhy, Jhy]); exact K'.tap)
                    (by (try simp (disch := omega) only [v150, v152, v151, Gh2, Lh2, Fh2, Jh2, Ghz, Lhz, Fhz, Jhz, Gh1, Lh1, Fh1, Jh1, Ghy, Lhy, Fhy, Jhy]); exact K'.stn)
                    (fun d hd => by rw [v156 d hd]; (try simp (disch := omega) only [Gh2, Lh2, Fh2, Jh2, Ghz, Lhz, Fhz, Jhz, Gh1, Lh1, Fh1, Jh1, Ghy, Lhy, Fhy, Jhy]); exact K'.sta d hd)
                    (by (try simp (disch := omega) only [v150, v152, v151, Gh2, Lh2, Fh2, Jh2, Ghz, Lhz, Fhz, Jhz, Gh1, Lh1, Fh1, Jh1, Ghy, Lhy, Fhy, Jhy]); exact K'.am)
                    (by (try simp (disch := omega) only [v150, v152, v151, Gh2, Lh2, Fh2, Jh2, Ghz, Lhz, Fhz, Jhz, Gh1, Lh1, Fh1, Jh1, Ghy, Lhy, Fhy, Jhy]); exact K'.zr)
                    (by (try simp (disch := omega) only [v150, v152, v151, Gh2, Lh2, Fh2, Jh2, Ghz, Lhz, Fhz, Jhz, Gh1, Lh1, Fh1, Jh1, Ghy, Lhy, Fhy, Jhy]); exact K'.lo)
                    (by (try simp (disch := omega) only [v150, v152, v151, Gh2, Lh2, Fh2, Jh2, Ghz, Lhz, Fhz, Jhz, Gh1, Lh1, Fh1, Jh1, Ghy, Lhy, Fhy, Jhy]); exact K'.h0)
                    (by (try simp (disch := omega) only [v150, v152, v151, Gh2, Lh2, Fh2, Jh2, Ghz, Lhz, Fhz, Jhz, Gh1, Lh1, Fh1, Jh1, Ghy, Lhy, Fhy, Jhy]); exact K'.hr)
                    (by (try simp (disch := omega) only [v150, v152, v151, Gh2, Lh2, Fh2, Jh2, Ghz, Lhz, Fhz, Jhz, Gh1, Lh1, Fh1, Jh1, Ghy, Lhy, Fhy, Jhy]); exact K'.r6)
                    (by (try simp (disch := omega) only [v150, v152, v151, Gh2, Lh2, Fh2, Jh2, Ghz, Lhz, Fhz, Jhz, Gh1, Lh1, Fh1, Jh1, Ghy, Lhy, Fhy, Jhy]); exact K'.hs)
                    (by (try simp (disch := omega) only [v150, v152, v151, Gh2, Lh2, Fh2, Jh2, Ghz, Lhz, Fhz, Jhz, Gh1, Lh1, Fh1, Jh1, Ghy, Lhy, Fhy, Jhy]); exact K'.lb)
                    (by (try simp (disch := omega) only [v150, v152, v151, Gh2, Lh2, Fh2, Jh2, Ghz, Lhz, Fhz, Jhz, Gh1, Lh1, Fh1, Jh1, Ghy, Lhy, Fhy, Jhy]); exact K'.bb)))
                (Rg.of (by rw [Fh2, Fhz _ _ (by omega), Fh1 _ _ (by omega) (by omega) (by omega)]; exact y25)
                (by rw [Fh2]; exact z31)
                (by omega)
                (by rw [Gh2 26 (by omega) (by omega) (by omega) (by omega), Ghz 26 (by omega) (by omega) (by omega) (by omega), Gh1 26 (by omega), y26, Gh2 157 (by omega) (by omega) (by omega) (by omega), z157, Gh1 157 (by omega), Ghy 157 (by omega) (by omega) (by omega) (by omega), r.g.u])
                (by rw [Gh2 27 (by omega) (by omega) (by omega) (by omega), Ghz 27 (by omega) (by omega) (by omega) (by omega), Gh1 27 (by omega), y27, Gh2 158 (by omega) (by omega) (by omega) (by omega), z158, Gh1 158 (by omega), Ghy 158 (by omega) (by omega) (by omega) (by omega), r.g.t])
                (by rw [Gh2 28 (by omega) (by omega) (by omega) (by omega), Ghz 28 (by omega) (by omega) (by omega) (by omega), Gh1 28 (by omega), y28, Gh2 159 (by omega) (by omega) (by omega) (by omega), z159, Gh1 159 (by omega), Ghy 159 (by omega) (by omega) (by omega) (by omega), Fh1 132 0 (by omega) (by omega) (by omega), Fhy 132 0 (by omega), r.b.day, r.g.d])
                (by rw [Gh2 29 (by omega) (by omega) (by omega) (by omega), Ghz 29 (by omega) (by omega) (by omega) (by omega), Gh1 29 (by omega), y29, Gh2 161 (by omega) (by omega) (by omega) (by omega), z161, Gh1 161 (by omega), Ghy 161 (by omega) (by omega) (by omega) (by omega), Gh1 155 (by omega), Ghy 155 (by omega) (by omega) (by omega) (by omega), K.bat, r.g.b])
                (by rw [Lh2, Lhz 30 (by omega), Lh1, y30, Lh2, z160, Lh1 160, Lhy 160 (by omega), Lh1 154, Lhy 154 (by omega), K.lo, r.g.l])
                (by
                intro j
                rw [Gh2 161 (by omega) (by omega) (by omega) (by omega), z161, Gh1 161 (by omega), Ghy 161 (by omega) (by omega) (by omega) (by omega), Gh1 155 (by omega), Ghy 155 (by omega) (by omega) (by omega) (by omega)]
                simp only [upd]
                split
                · exact K.bb
                · exact r.g.bb j)
                (by
                intro j
                rw [Lh2, z160, Lh1 160, Lhy 160 (by omega), Lh1 154, Lhy 154 (by omega)]
                simp only [vp_updL]
                split
                · exact K.lb
                · exact r.g.lb j))
                (Rh.of (by (try simp (disch := omega) only [Gh2, Lh2, Fh2, Jh2, Ghz, Lhz, Fhz, Jhz, Gh1, Lh1, Fh1, Jh1, Ghy, Lhy, Fhy, Jhy]); exact r.j.c)
                (by (try simp (disch := omega) only [Gh2, Lh2, Fh2, Jh2, Ghz, Lhz, Fhz, Jhz, Gh1, Lh1, Fh1, Jh1, Ghy, Lhy, Fhy, Jhy]); exact r.j.m)
                (by (try simp (disch := omega) only [Gh2, Lh2, Fh2, Jh2, Ghz, Lhz, Fhz, Jhz, Gh1, Lh1, Fh1, Jh1, Ghy, Lhy, Fhy, Jhy]); exact r.j.le)
                (by (try simp (disch := omega) only [Gh2, Lh2, Fh2, Jh2, Ghz, Lhz, Fhz, Jhz, Gh1, Lh1, Fh1, Jh1, Ghy, Lhy, Fhy, Jhy]); exact r.j.pc)
                (by (try simp (disch := omega) only [Gh2, Lh2, Fh2, Jh2, Ghz, Lhz, Fhz, Jhz, Gh1, Lh1, Fh1, Jh1, Ghy, Lhy, Fhy, Jhy]); exact r.j.pm)
                (by (try simp (disch := omega) only [Gh2, Lh2, Fh2, Jh2, Ghz, Lhz, Fhz, Jhz, Gh1, Lh1, Fh1, Jh1, Ghy, Lhy, Fhy, Jhy]); exact r.j.pl)
                (by (try simp (disch := omega) only [Gh2, Lh2, Fh2, Jh2, Ghz, Lhz, Fhz, Jhz, Gh1, Lh1, Fh1, Jh1, Ghy, Lhy, Fhy, Jhy]); exact r.j.hu)
                (by (try simp (disch := omega) only [Gh2, Lh2, Fh2, Jh2, Ghz, Lhz, Fhz, Jhz, Gh1, Lh1, Fh1, Jh1, Ghy, Lhy, Fhy, Jhy]); exact r.j.ti)
                (by (try simp (disch := omega) only [Gh2, Lh2, Fh2, Jh2, Ghz, Lhz, Fhz, Jhz, Gh1, Lh1, Fh1, Jh1, Ghy, Lhy, Fhy, Jhy]); exact r.j.du)
                (by (try simp (disch := omega) only [Gh2, Lh2, Fh2, Jh2, Ghz, Lhz, Fhz, Jhz, Gh1, Lh1, Fh1, Jh1, Ghy, Lhy, Fhy, Jhy]); exact r.j.pr)
                (by (try simp (disch := omega) only [Gh2, Lh2, Fh2, Jh2, Ghz, Lhz, Fhz, Jhz, Gh1, Lh1, Fh1, Jh1, Ghy, Lhy, Fhy, Jhy]); exact r.j.ch)
                (by (try simp (disch := omega) only [Gh2, Lh2, Fh2, Jh2, Ghz, Lhz, Fhz, Jhz, Gh1, Lh1, Fh1, Jh1, Ghy, Lhy, Fhy, Jhy]); exact r.j.od)
                (by (try simp (disch := omega) only [Gh2, Lh2, Fh2, Jh2, Ghz, Lhz, Fhz, Jhz, Gh1, Lh1, Fh1, Jh1, Ghy, Lhy, Fhy, Jhy]); exact r.j.ok)
                (by (try simp (disch := omega) only [Gh2, Lh2, Fh2, Jh2, Ghz, Lhz, Fhz, Jhz, Gh1, Lh1, Fh1, Jh1, Ghy, Lhy, Fhy, Jhy]); exact r.j.tb)
                (by (try simp (disch := omega) only [Gh2, Lh2, Fh2, Jh2, Ghz, Lhz, Fhz, Jhz, Gh1, Lh1, Fh1, Jh1, Ghy, Lhy, Fhy, Jhy]); exact r.j.db)))
          · obtain ⟨hy, ehy⟩ : ∃ zz : HF, zz = sI (sl (si (si (si (si h 26 (upd (gi h 26) nd n)) 27 (upd (gi h 27) nd (nI t))) 28 (upd (gi h 28) nd (fI h 5 4))) 29 (upd (gi h 29) nd (fI h (112 + 4 * t) 4))) 30 (vp_updL (gl h 30) nd (fJ h (113 + 4 * t) 2))) 25 5 (nI (nd + 1)) := ⟨_, rfl⟩
            have Shy : Sh hy := by rw [ehy]; (repeat (first | exact r.S | apply Sh.si | apply Sh.sI | apply Sh.sJ | apply Sh.sl))
            have Ghy : ∀ x, x ≠ 26 → x ≠ 27 → x ≠ 28 → x ≠ 29 → gi hy x = gi h x := by
              intro x q0 q1 q2 q3; rw [ehy]; (try simp (disch := first | assumption | omega) only [gi_si_ne, gi_sI, gi_sJ, gi_sl, gl_sl_ne, gl_si, gl_sI, gl_sJ, fI_si, fI_sl, fI_sJ, fI_sI_ne, fI_sI_k, fJ_si, fJ_sl, fJ_sI, fJ_sJ_ne])
            have Lhy : ∀ x, x ≠ 30 → gl hy x = gl h x := by
              intro x q0; rw [ehy]; (try simp (disch := first | assumption | omega) only [gi_si_ne, gi_sI, gi_sJ, gi_sl, gl_sl_ne, gl_si, gl_sI, gl_sJ, fI_si, fI_sl, fI_sJ, fI_sI_ne, fI_sI_k, fJ_si, fJ_sl, fJ_sI, fJ_sJ_ne])
            have Fhy : ∀ x kk, ¬ (x = 25 ∧ kk = 5) → fI hy x kk = fI h x kk := by
              intro x kk q0; rw [ehy]; first | rfl | (simp (disch := first | assumption | omega) only [fI_si, fI_sl, fI_sJ, fI_sI_o])
            have Jhy : ∀ x kk, fJ hy x kk = fJ h x kk := by
              intro x kk ; rw [ehy]; first | rfl | (simp (disch := first | assumption | omega) only [fJ_si, fJ_sl, fJ_sI, fJ_sJ_o])
            have e0 : yadF h t nd n (nI t) (fI h 5 4) = hy := by
              rw [ehy, yadF]
            have y26 : gi hy 26 = upd (gi h 26) nd n := by
              rw [ehy]; simp (disch := first | omega | ((repeat (first | exact r.S | apply Sh.si | apply Sh.sI | apply Sh.sJ | apply Sh.sl)); done) | decide | exact kF_K ‹_› (by omega) | exact kI_of (shT_B ‹_›).2.2 | exact kI_of (shT_K ‹_›).2.2.1 | exact kI_of (shT_K ‹_›).2.2.2 | exact kFB ‹_› | exact kFM ‹_› | exact kJM ‹_› | exact kFN ‹_› | exact kJN ‹_› | rfl) only [gi_si_ne, gi_sI, gi_sJ, gi_sl, gl_sl_ne, gl_si, gl_sI, gl_sJ, fI_si, fI_sl, fI_sJ, fI_sI_ne, fI_sI_k, fJ_si, fJ_sl, fJ_sI, fJ_sJ_ne, gi_si_eq, gl_sl_eq, fI_sI_eq, fJ_sJ_eq]
            have y27 : gi hy 27 = upd (gi h 27) nd (nI t) := by
              rw [ehy]; simp (disch := first | omega | ((repeat (first | exact r.S | apply Sh.si | apply Sh.sI | apply Sh.sJ | apply Sh.sl)); done) | decide | exact kF_K ‹_› (by omega) | exact kI_of (shT_B ‹_›).2.2 | exact kI_of (shT_K ‹_›).2.2.1 | exact kI_of (shT_K ‹_›).2.2.2 | exact kFB ‹_› | exact kFM ‹_› | exact kJM ‹_› | exact kFN ‹_› | exact kJN ‹_› | rfl) only [gi_si_ne, gi_sI, gi_sJ, gi_sl, gl_sl_ne, gl_si, gl_sI, gl_sJ, fI_si, fI_sl, fI_sJ, fI_sI_ne, fI_sI_k, fJ_si, fJ_sl, fJ_sI, fJ_sJ_ne, gi_si_eq, gl_sl_eq, fI_sI_eq, fJ_sJ_eq]
            have y28 : gi hy 28 = upd (gi h 28) nd (fI h 5 4) := by
              rw [ehy]; simp (disch := first | omega | ((repeat (first | exact r.S | apply Sh.si | apply Sh.sI | apply Sh.sJ | apply Sh.sl)); done) | decide | exact kF_K ‹_› (by omega) | exact kI_of (shT_B ‹_›).2.2 | exact kI_of (shT_K ‹_›).2.2.1 | exact kI_of (shT_K ‹_›).2.2.2 | exact kFB ‹_› | exact kFM ‹_› | exact kJM ‹_› | exact kFN ‹_› | exact kJN ‹_› | rfl) only [gi_si_ne, gi_sI, gi_sJ, gi_sl, gl_sl_ne, gl_si, gl_sI, gl_sJ, fI_si, fI_sl, fI_sJ, fI_sI_ne, fI_sI_k, fJ_si, fJ_sl, fJ_sI, fJ_sJ_ne, gi_si_eq, gl_sl_eq, fI_sI_eq, fJ_sJ_eq]
            have y29 : gi hy 29 = upd (gi h 29) nd (fI h (112 + 4 * t) 4) := by
              rw [ehy]; simp (disch := first | omega | ((repeat (first | exact r.S | apply Sh.si | apply Sh.sI | apply Sh.sJ | apply Sh.sl)); done) | decide | exact kF_K ‹_› (by omega) | exact kI_of (shT_B ‹_›).2.2 | exact kI_of (shT_K ‹_›).2.2.1 | exact kI_of (shT_K ‹_›).2.2.2 | exact kFB ‹_› | exact kFM ‹_› | exact kJM ‹_› | exact kFN ‹_› | exact kJN ‹_› | rfl) only [gi_si_ne, gi_sI, gi_sJ, gi_sl, gl_sl_ne, gl_si, gl_sI, gl_sJ, fI_si, fI_sl, fI_sJ, fI_sI_ne, fI_sI_k, fJ_si, fJ_sl, fJ_sI, fJ_sJ_ne, gi_si_eq, gl_sl_eq, fI_sI_eq, fJ_sJ_eq]
            have y30 : gl hy 30 = vp_updL (gl h 30) nd (fJ h (113 + 4 * t) 2) := by
              rw [ehy]; simp (disch := first | omega | ((repeat (first | exact r.S | apply Sh.si | apply Sh.sI | apply Sh.sJ | apply Sh.sl)); done) | decide | exact kF_K ‹_› (by omega) | exact kI_of (shT_B ‹_›).2.2 | exact kI_of (shT_K ‹_›).2.2.1 | exact kI_of (shT_K ‹_›).2.2.2 | exact kFB ‹_› | exact kFM ‹_› | exact kJM ‹_› | exact kFN ‹_› | exact kJN ‹_› | rfl) only [gi_si_ne, gi_sI, gi_sJ, gi_sl, gl_sl_ne, gl_si, gl_sI, gl_sJ, fI_si, fI_sl, fI_sJ, fI_sI_ne, fI_sI_k, fJ_si, fJ_sl, fJ_sI, fJ_sJ_ne, gi_si_eq, gl_sl_eq, fI_sI_eq, fJ_sJ_eq]
            have y25 : fI hy 25 5 = nI (nd + 1) := by
              rw [ehy]; simp (disch := first | omega | ((repeat (first | exact r.S | apply Sh.si | apply Sh.sI | apply Sh.sJ | apply Sh.sl)); done) | decide | exact kF_K ‹_› (by omega) | exact kI_of (shT_B ‹_›).2.2 | exact kI_of (shT_K ‹_›).2.2.1 | exact kI_of (shT_K ‹_›).2.2.2 | exact kFB ‹_› | exact kFM ‹_› | exact kJM ‹_› | exact kFN ‹_› | exact kJN ‹_› | rfl) only [gi_si_ne, gi_sI, gi_sJ, gi_sl, gl_sl_ne, gl_si, gl_sI, gl_sJ, fI_si, fI_sl, fI_sJ, fI_sI_ne, fI_sI_k, fJ_si, fJ_sl, fJ_sI, fJ_sJ_ne, gi_si_eq, gl_sl_eq, fI_sI_eq, fJ_sJ_eq]
            have yi : fI hy (112 + 4 * t) 2 = gi h 150 t := by rw [Fhy _ _ (by omega)]; exact K.ins
            have e1 : drwH hy t n nb = sI (sI hy (112 + 4 * t) 2 (gi h 150 t - n)) (112 + 4 * t) 5 1 := by
              rw [drwH, if_neg (by rw [yi, tI_le0, sn]; rw [tI_eq0, sn] at gz; omega), drw0, yi]
            obtain ⟨h1, eh1⟩ : ∃ zz : HF, zz = sI (sI hy (112 + 4 * t) 2 (gi h 150 t - n)) (112 + 4 * t) 5 1 := ⟨_, rfl⟩
            have Sh1 : Sh h1 := by rw [eh1]; (repeat (first | exact Shy | apply Sh.si | apply Sh.sI | apply Sh.sJ | apply Sh.sl))
            have Gh1 : ∀ x, gi h1 x = gi hy x := by
              intro x ; rw [eh1]; (try simp (disch := first | assumption | omega) only [gi_si_ne, gi_sI, gi_sJ, gi_sl, gl_sl_ne, gl_si, gl_sI, gl_sJ, fI_si, fI_sl, fI_sJ, fI_sI_ne, fI_sI_k, fJ_si, fJ_sl, fJ_sI, fJ_sJ_ne])
            have Lh1 : ∀ x, gl h1 x = gl hy x := by
              intro x ; rw [eh1]; (try simp (disch := first | assumption | omega) only [gi_si_ne, gi_sI, gi_sJ, gi_sl, gl_sl_ne, gl_si, gl_sI, gl_sJ, fI_si, fI_sl, fI_sJ, fI_sI_ne, fI_sI_k, fJ_si, fJ_sl, fJ_sI, fJ_sJ_ne])
            have Fh1 : ∀ x kk, ¬ (x = 112 + 4 * t ∧ kk = 2) → ¬ (x = 112 + 4 * t ∧ kk = 5) → fI h1 x kk = fI hy x kk := by
              intro x kk q0 q1; rw [eh1]; first | rfl | (simp (disch := first | assumption | omega) only [fI_si, fI_sl, fI_sJ, fI_sI_o])
            have Jh1 : ∀ x kk, fJ h1 x kk = fJ hy x kk := by
              intro x kk ; rw [eh1]; first | rfl | (simp (disch := first | assumption | omega) only [fJ_si, fJ_sl, fJ_sI, fJ_sJ_o])
            have c2 : fI h1 (112 + 4 * t) 2 = gi h 150 t - n := by
              rw [eh1]; simp (disch := first | omega | ((repeat (first | exact Shy | apply Sh.si | apply Sh.sI | apply Sh.sJ | apply Sh.sl)); done) | decide | exact kF_K ‹_› (by omega) | exact kI_of (shT_B ‹_›).2.2 | exact kI_of (shT_K ‹_›).2.2.1 | exact kI_of (shT_K ‹_›).2.2.2 | exact kFB ‹_› | exact kFM ‹_› | exact kJM ‹_› | exact kFN ‹_› | exact kJN ‹_› | rfl) only [fI_sI_o, gi_si_ne, gi_sI, gi_sJ, gi_sl, gl_sl_ne, gl_si, gl_sI, gl_sJ, fI_si, fI_sl, fI_sJ, fI_sI_ne, fI_sI_k, fJ_si, fJ_sl, fJ_sI, fJ_sJ_ne, gi_si_eq, gl_sl_eq, fI_sI_eq, fJ_sJ_eq]
            have c5 : fI h1 (112 + 4 * t) 5 = 1 := by
              rw [eh1]; simp (disch := first | omega | ((repeat (first | exact Shy | apply Sh.si | apply Sh.sI | apply Sh.sJ | apply Sh.sl)); done) | decide | exact kF_K ‹_› (by omega) | exact kI_of (shT_B ‹_›).2.2 | exact kI_of (shT_K ‹_›).2.2.1 | exact kI_of (shT_K ‹_›).2.2.2 | exact kFB ‹_› | exact kFM ‹_› | exact kJM ‹_› | exact kFN ‹_› | exact kJN ‹_› | rfl) only [fI_sI_o, gi_si_ne, gi_sI, gi_sJ, gi_sl, gl_sl_ne, gl_si, gl_sI, gl_sJ, fI_si, fI_sl, fI_sJ, fI_sI_ne, fI_sI_k, fJ_si, fJ_sl, fJ_sI, fJ_sJ_ne, gi_si_eq, gl_sl_eq, fI_sI_eq, fJ_sJ_eq]
            rw [e0, e1, ← eh1] at c
            have m := c_X10_fill Sh1 (nI t) n nd (by rw [Fh1 _ _ (by omega) (by omega), Fhy _ _ (by omega)]; exact r.g.m) g0
            rw [(show gi h1 150 = gi h 150 by rw [Gh1 150 , Ghy 150 (by omega) (by omega) (by omega) (by omega)])] at m
            simp only [mFill, if_pos g0, if_pos g1, if_pos g2, nI_clamp (show t < 2147483648 by omega), (show gi h1 150 = gi h 150 by rw [Gh1 150 , Ghy 150 (by omega) (by omega) (by omega) (by omega)]), if_pos g3] at m
            obtain ⟨hz, ehz⟩ : ∃ zz : HF, zz = sI (si (sl (si (si (si h1 157 (upd (gi h1 157) nd n)) 158 (upd (gi h1 158) nd (nI t))) 159 (upd (gi h1 159) nd (fI h1 132 0))) 160 (vp_updL (gl h1 160) nd (gl h1 154 t))) 161 (upd (gi h1 161) nd (gi h1 155 t))) 132 31 (nI (nd + 1)) := ⟨_, rfl⟩
            have Shz : Sh hz := by rw [ehz]; (repeat (first | exact Sh1 | apply Sh.si | apply Sh.sI | apply Sh.sJ | apply Sh.sl))
            have Ghz : ∀ x, x ≠ 157 → x ≠ 158 → x ≠ 159 → x ≠ 161 → gi hz x = gi h1 x := by
              intro x q0 q1 q2 q3; rw [ehz]; (try simp (disch := first | assumption | omega) only [gi_si_ne, gi_sI, gi_sJ, gi_sl, gl_sl_ne, gl_si, gl_sI, gl_sJ, fI_si, fI_sl, fI_sJ, fI_sI_ne, fI_sI_k, fJ_si, fJ_sl, fJ_sI, fJ_sJ_ne])
            have Lhz : ∀ x, x ≠ 160 → gl hz x = gl h1 x := by
              intro x q0; rw [ehz]; (try simp (disch := first | assumption | omega) only [gi_si_ne, gi_sI, gi_sJ, gi_sl, gl_sl_ne, gl_si, gl_sI, gl_sJ, fI_si, fI_sl, fI_sJ, fI_sI_ne, fI_sI_k, fJ_si, fJ_sl, fJ_sI, fJ_sJ_ne])
            have Fhz : ∀ x kk, ¬ (x = 132 ∧ kk = 31) → fI hz x kk = fI h1 x kk := by
              intro x kk q0; rw [ehz]; first | rfl | (simp (disch := first | assumption | omega) only [fI_si, fI_sl, fI_sJ, fI_sI_o])
            have Jhz : ∀ x kk, fJ hz x kk = fJ h1 x kk := by
              intro x kk ; rw [ehz]; first | rfl | (simp (disch := first | assumption | omega) only [fJ_si, fJ_sl, fJ_sI, fJ_sJ_o])
            have z0 : mfA h1 t nd n = hz := by
              rw [ehz, mfA]; try simp (disch := omega) only [gi_si_ne, gi_sI, gi_sJ, gi_sl, gl_sl_ne, gl_si, gl_sI, gl_sJ, fI_si, fI_sl, fI_sJ, fI_sI_ne, fI_sI_k, fJ_si, fJ_sl, fJ_sI, fJ_sJ_ne]
            have z157 : gi hz 157 = upd (gi h1 157) nd n := by
              rw [ehz]; simp (disch := first | omega | ((repeat (first | exact Sh1 | apply Sh.si | apply Sh.sI | apply Sh.sJ | apply Sh.sl)); done) | decide | exact kF_K ‹_› (by omega) | exact kI_of (shT_B ‹_›).2.2 | exact kI_of (shT_K ‹_›).2.2.1 | exact kI_of (shT_K ‹_›).2.2.2 | exact kFB ‹_› | exact kFM ‹_› | exact kJM ‹_› | exact kFN ‹_› | exact kJN ‹_› | rfl) only [gi_si_ne, gi_sI, gi_sJ, gi_sl, gl_sl_ne, gl_si, gl_sI, gl_sJ, fI_si, fI_sl, fI_sJ, fI_sI_ne, fI_sI_k, fJ_si, fJ_sl, fJ_sI, fJ_sJ_ne, gi_si_eq, gl_sl_eq, fI_sI_eq, fJ_sJ_eq]
            have z158 : gi hz 158 = upd (gi h1 158) nd (nI t) := by
              rw [ehz]; simp (disch := first | omega | ((repeat (first | exact Sh1 | apply Sh.si | apply Sh.sI | apply Sh.sJ | apply Sh.sl)); done) | decide | exact kF_K ‹_› (by omega) | exact kI_of (shT_B ‹_›).2.2 | exact kI_of (shT_K ‹_›).2.2.1 | exact kI_of (shT_K ‹_›).2.2.2 | exact kFB ‹_› | exact kFM ‹_› | exact kJM ‹_› | exact kFN ‹_› | exact kJN ‹_› | rfl) only [gi_si_ne, gi_sI, gi_sJ, gi_sl, gl_sl_ne, gl_si, gl_sI, gl_sJ, fI_si, fI_sl, fI_sJ, fI_sI_ne, fI_sI_k, fJ_si, fJ_sl, fJ_sI, fJ_sJ_ne, gi_si_eq, gl_sl_eq, fI_sI_eq, fJ_sJ_eq]
            have z159 : gi hz 159 = upd (gi h1 159) nd (fI h1 132 0) := by
              rw [ehz]; simp (disch := first | omega | ((repeat (first | exact Sh1 | apply Sh.si | apply Sh.sI | apply Sh.sJ | apply Sh.sl)); done) | decide | exact kF_K ‹_› (by omega) | exact kI_of (shT_B ‹_›).2.2 | exact kI_of (shT_K ‹_›).2.2.1 | exact kI_of (shT_K ‹_›).2.2.2 | exact kFB ‹_› | exact kFM ‹_› | exact kJM ‹_› | exact kFN ‹_› | exact kJN ‹_› | rfl) only [gi_si_ne, gi_sI, gi_sJ, gi_sl, gl_sl_ne, gl_si, gl_sI, gl_sJ, fI_si, fI_sl, fI_sJ, fI_sI_ne, fI_sI_k, fJ_si, fJ_sl, fJ_sI, fJ_sJ_ne, gi_si_eq, gl_sl_eq, fI_sI_eq, fJ_sJ_eq]
            have z161 : gi hz 161 = upd (gi h1 161) nd (gi h1 155 t) := by
              rw [ehz]; simp (disch := first | omega | ((repeat (first | exact Sh1 | apply Sh.si | apply Sh.sI | apply Sh.sJ | apply Sh.sl)); done) | decide | exact kF_K ‹_› (by omega) | exact kI_of (shT_B ‹_›).2.2 | exact kI_of (shT_K ‹_›).2.2.1 | exact kI_of (shT_K ‹_›).2.2.2 | exact kFB ‹_› | exact kFM ‹_› | exact kJM ‹_› | exact kFN ‹_› | exact kJN ‹_› | rfl) only [gi_si_ne, gi_sI, gi_sJ, gi_sl, gl_sl_ne, gl_si, gl_sI, gl_sJ, fI_si, fI_sl, fI_sJ, fI_sI_ne, fI_sI_k, fJ_si, fJ_sl, fJ_sI, fJ_sJ_ne, gi_si_eq, gl_sl_eq, fI_sI_eq, fJ_sJ_eq]
            have z160 : gl hz 160 = vp_updL (gl h1 160) nd (gl h1 154 t) := by
              rw [ehz]; simp (disch := first | omega | ((repeat (first | exact Sh1 | apply Sh.si | apply Sh.sI | apply Sh.sJ | apply Sh.sl)); done) | decide | exact kF_K ‹_› (by omega) | exact kI_of (shT_B ‹_›).2.2 | exact kI_of (shT_K ‹_›).2.2.1 | exact kI_of (shT_K ‹_›).2.2.2 | exact kFB ‹_› | exact kFM ‹_› | exact kJM ‹_› | exact kFN ‹_› | exact kJN ‹_› | rfl) only [gi_si_ne, gi_sI, gi_sJ, gi_sl, gl_sl_ne, gl_si, gl_sI, gl_sJ, fI_si, fI_sl, fI_sJ, fI_sI_ne, fI_sI_k, fJ_si, fJ_sl, fJ_sI, fJ_sJ_ne, gi_si_eq, gl_sl_eq, fI_sI_eq, fJ_sJ_eq]
            have z31 : fI hz 132 31 = nI (nd + 1) := by
              rw [ehz]; simp (disch := first | omega | ((repeat (first | exact Sh1 | apply Sh.si | apply Sh.sI | apply Sh.sJ | apply Sh.sl)); done) | decide | exact kF_K ‹_› (by omega) | exact kI_of (shT_B ‹_›).2.2 | exact kI_of (shT_K ‹_›).2.2.1 | exact kI_of (shT_K ‹_›).2.2.2 | exact kFB ‹_› | exact kFM ‹_› | exact kJM ‹_› | exact kFN ‹_› | exact kJN ‹_› | rfl) only [gi_si_ne, gi_sI, gi_sJ, gi_sl, gl_sl_ne, gl_si, gl_sI, gl_sJ, fI_si, fI_sl, fI_sJ, fI_sI_ne, fI_sI_k, fJ_si, fJ_sl, fJ_sI, fJ_sJ_ne, gi_si_eq, gl_sl_eq, fI_sI_eq, fJ_sJ_eq]
            have n150 : gi h1 150 = gi h 150 := (show gi h1 150 = gi h 150 by rw [Gh1 150 , Ghy 150 (by omega) (by omega) (by omega) (by omega)])
            have zi : gi hz 150 t = gi h 150 t := by rw [Ghz 150 (by omega) (by omega) (by omega) (by omega), n150]
            have z1 : mfD h1 t nd n = si (si hz 150 (upd (gi hz 150) t (gi h 150 t - n))) 152 (upd (gi hz 152) t 1) := by
              rw [mfD, n150, if_neg gz, z0]
              unfold mfB
              rw [zi]
              try simp (disch := omega) only [gi_si_ne, gi_sI, gi_sJ, gi_sl, gl_sl_ne, gl_si, gl_sI, gl_sJ, fI_si, fI_sl, fI_sJ, fI_sI_ne, fI_sI_k, fJ_si, fJ_sl, fJ_sI, fJ_sJ_ne]
            rw [z1] at m
            obtain ⟨h2, eh2⟩ : ∃ zz : HF, zz = si (si hz 150 (upd (gi hz 150) t (gi h 150 t - n))) 152 (upd (gi hz 152) t 1) := ⟨_, rfl⟩
            replace m := Mc_h eh2 m
            have Sh2 : Sh h2 := by rw [eh2]; (repeat (first | exact Shz | apply Sh.si | apply Sh.sI | apply Sh.sJ | apply Sh.sl))
            have Gh2 : ∀ x, x ≠ 150 → x ≠ 152 → gi h2 x = gi hz x := by
              intro x q0 q1; rw [eh2]; (try simp (disch := first | assumption | omega) only [gi_si_ne, gi_sI, gi_sJ, gi_sl, gl_sl_ne, gl_si, gl_sI, gl_sJ, fI_si, fI_sl, fI_sJ, fI_sI_ne, fI_sI_k, fJ_si, fJ_sl, fJ_sI, fJ_sJ_ne])
            have Lh2 : ∀ x, gl h2 x = gl hz x := by
              intro x ; rw [eh2]; (try simp (disch := first | assumption | omega) only [gi_si_ne, gi_sI, gi_sJ, gi_sl, gl_sl_ne, gl_si, gl_sI, gl_sJ, fI_si, fI_sl, fI_sJ, fI_sI_ne, fI_sI_k, fJ_si, fJ_sl, fJ_sI, fJ_sJ_ne])
            have Fh2 : ∀ x kk, fI h2 x kk = fI hz x kk := by
              intro x kk ; rw [eh2]; first | rfl | (simp (disch := first | assumption | omega) only [fI_si, fI_sl, fI_sJ, fI_sI_o])
            have Jh2 : ∀ x kk, fJ h2 x kk = fJ hz x kk := by
              intro x kk ; rw [eh2]; first | rfl | (simp (disch := first | assumption | omega) only [fJ_si, fJ_sl, fJ_sI, fJ_sJ_o])
            have m150 : gi h2 150 = upd (gi hz 150) t (gi h 150 t - n) := by
              rw [eh2]; simp (disch := first | omega | ((repeat (first | exact Shz | apply Sh.si | apply Sh.sI | apply Sh.sJ | apply Sh.sl)); done) | decide | exact kF_K ‹_› (by omega) | exact kI_of (shT_B ‹_›).2.2 | exact kI_of (shT_K ‹_›).2.2.1 | exact kI_of (shT_K ‹_›).2.2.2 | exact kFB ‹_› | exact kFM ‹_› | exact kJM ‹_› | exact kFN ‹_› | exact kJN ‹_› | rfl) only [gi_si_ne, gi_sI, gi_sJ, gi_sl, gl_sl_ne, gl_si, gl_sI, gl_sJ, fI_si, fI_sl, fI_sJ, fI_sI_ne, fI_sI_k, fJ_si, fJ_sl, fJ_sI, fJ_sJ_ne, gi_si_eq, gl_sl_eq, fI_sI_eq, fJ_sJ_eq]
            have m152 : gi h2 152 = upd (gi hz 152) t 1 := by
              rw [eh2]; simp (disch := first | omega | ((repeat (first | exact Shz | apply Sh.si | apply Sh.sI | apply Sh.sJ | apply Sh.sl)); done) | decide | exact kF_K ‹_› (by omega) | exact kI_of (shT_B ‹_›).2.2 | exact kI_of (shT_K ‹_›).2.2.1 | exact kI_of (shT_K ‹_›).2.2.2 | exact kFB ‹_› | exact kFM ‹_› | exact kJM ‹_› | exact kFN ‹_› | exact kJN ‹_› | rfl) only [gi_si_ne, gi_sI, gi_sJ, gi_sl, gl_sl_ne, gl_si, gl_sI, gl_sJ, fI_si, fI_sl, fI_sJ, fI_sI_ne, fI_sI_k, fJ_si, fJ_sl, fJ_sI, fJ_sJ_ne, gi_si_eq, gl_sl_eq, fI_sI_eq, fJ_sJ_eq]
            exact JJ_upd c m ev (nd := nd + 1) (Rel.of (Sh2)
                (Ra.of (by (try simp (disch := omega) only [Gh2, Lh2, Fh2, Jh2, Ghz, Lhz, Fhz, Jhz, Gh1, Lh1, Fh1, Jh1, Ghy, Lhy, Fhy, Jhy]); exact r.a.c)
                (by (try simp (disch := omega) only [Gh2, Lh2, Fh2, Jh2, Ghz, Lhz, Fhz, Jhz, Gh1, Lh1, Fh1, Jh1, Ghy, Lhy, Fhy, Jhy]); exact r.a.m)
                (by (try simp (disch := omega) only [Gh2, Lh2, Fh2, Jh2, Ghz, Lhz, Fhz, Jhz, Gh1, Lh1, Fh1, Jh1, Ghy, Lhy, Fhy, Jhy]); exact r.a.le)
                (by (try simp (disch := omega) only [Gh2, Lh2, Fh2, Jh2, Ghz, Lhz, Fhz, Jhz, Gh1, Lh1, Fh1, Jh1, Ghy, Lhy, Fhy, Jhy]); exact r.a.A)
                (by (try simp (disch := omega) only [Gh2, Lh2, Fh2, Jh2, Ghz, Lhz, Fhz, Jhz, Gh1, Lh1, Fh1, Jh1, Ghy, Lhy, Fhy, Jhy]); exact r.a.P))
                (Rb.of (by (try simp (disch := omega) only [Gh2, Lh2, Fh2, Jh2, Ghz, Lhz, Fhz, Jhz, Gh1, Lh1, Fh1, Jh1, Ghy, Lhy, Fhy, Jhy]); exact r.b.c)
                (by (try simp (disch := omega) only [Gh2, Lh2, Fh2, Jh2, Ghz, Lhz, Fhz, Jhz, Gh1, Lh1, Fh1, Jh1, Ghy, Lhy, Fhy, Jhy]); exact r.b.m)
                (by (try simp (disch := omega) only [Gh2, Lh2, Fh2, Jh2, Ghz, Lhz, Fhz, Jhz, Gh1, Lh1, Fh1, Jh1, Ghy, Lhy, Fhy, Jhy]); exact r.b.le)
                (by (try simp (disch := omega) only [Gh2, Lh2, Fh2, Jh2, Ghz, Lhz, Fhz, Jhz, Gh1, Lh1, Fh1, Jh1, Ghy, Lhy, Fhy, Jhy]); exact r.b.day)
                (by (try simp (disch := omega) only [Gh2, Lh2, Fh2, Jh2, Ghz, Lhz, Fhz, Jhz, Gh1, Lh1, Fh1, Jh1, Ghy, Lhy, Fhy, Jhy]); exact r.b.B)
                (by (try simp (disch := omega) only [Gh2, Lh2, Fh2, Jh2, Ghz, Lhz, Fhz, Jhz, Gh1, Lh1, Fh1, Jh1, Ghy, Lhy, Fhy, Jhy]); exact r.b.S)
                (by (try simp (disch := omega) only [Gh2, Lh2, Fh2, Jh2, Ghz, Lhz, Fhz, Jhz, Gh1, Lh1, Fh1, Jh1, Ghy, Lhy, Fhy, Jhy]); exact r.b.L)
                (by (try simp (disch := omega) only [Gh2, Lh2, Fh2, Jh2, Ghz, Lhz, Fhz, Jhz, Gh1, Lh1, Fh1, Jh1, Ghy, Lhy, Fhy, Jhy]); exact r.b.P)
                (by (try simp (disch := omega) only [Gh2, Lh2, Fh2, Jh2, Ghz, Lhz, Fhz, Jhz, Gh1, Lh1, Fh1, Jh1, Ghy, Lhy, Fhy, Jhy]); exact r.b.lb))
                (Rc.of (by (try simp (disch := omega) only [Gh2, Lh2, Fh2, Jh2, Ghz, Lhz, Fhz, Jhz, Gh1, Lh1, Fh1, Jh1, Ghy, Lhy, Fhy, Jhy]); exact r.c.c)
                (by (try simp (disch := omega) only [Gh2, Lh2, Fh2, Jh2, Ghz, Lhz, Fhz, Jhz, Gh1, Lh1, Fh1, Jh1, Ghy, Lhy, Fhy, Jhy]); exact r.c.m)
                (by (try simp (disch := omega) only [Gh2, Lh2, Fh2, Jh2, Ghz, Lhz, Fhz, Jhz, Gh1, Lh1, Fh1, Jh1, Ghy, Lhy, Fhy, Jhy]); exact r.c.le)
                (by (try simp (disch := omega) only [Gh2, Lh2, Fh2, Jh2, Ghz, Lhz, Fhz, Jhz, Gh1, Lh1, Fh1, Jh1, Ghy, Lhy, Fhy, Jhy]); exact r.c.E)
                (by (try simp (disch := omega) only [Gh2, Lh2, Fh2, Jh2, Ghz, Lhz, Fhz, Jhz, Gh1, Lh1, Fh1, Jh1, Ghy, Lhy, Fhy, Jhy]); exact r.c.S)
                (by (try simp (disch := omega) only [Gh2, Lh2, Fh2, Jh2, Ghz, Lhz, Fhz, Jhz, Gh1, Lh1, Fh1, Jh1, Ghy, Lhy, Fhy, Jhy]); exact r.c.T)
                (by (try simp (disch := omega) only [Gh2, Lh2, Fh2, Jh2, Ghz, Lhz, Fhz, Jhz, Gh1, Lh1, Fh1, Jh1, Ghy, Lhy, Fhy, Jhy]); exact r.c.C)
                (by (try simp (disch := omega) only [Gh2, Lh2, Fh2, Jh2, Ghz, Lhz, Fhz, Jhz, Gh1, Lh1, Fh1, Jh1, Ghy, Lhy, Fhy, Jhy]); exact r.c.N)
                (by (try simp (disch := omega) only [Gh2, Lh2, Fh2, Jh2, Ghz, Lhz, Fhz, Jhz, Gh1, Lh1, Fh1, Jh1, Ghy, Lhy, Fhy, Jhy]); exact r.c.ok)
                (by (try simp (disch := omega) only [Gh2, Lh2, Fh2, Jh2, Ghz, Lhz, Fhz, Jhz, Gh1, Lh1, Fh1, Jh1, Ghy, Lhy, Fhy, Jhy]); exact r.c.tm)
                (by (try simp (disch := omega) only [Gh2, Lh2, Fh2, Jh2, Ghz, Lhz, Fhz, Jhz, Gh1, Lh1, Fh1, Jh1, Ghy, Lhy, Fhy, Jhy]); exact r.c.tz)
                (by (try simp (disch := omega) only [Gh2, Lh2, Fh2, Jh2, Ghz, Lhz, Fhz, Jhz, Gh1, Lh1, Fh1, Jh1, Ghy, Lhy, Fhy, Jhy]); exact r.c.cz)
                (by (try simp (disch := omega) only [Gh2, Lh2, Fh2, Jh2, Ghz, Lhz, Fhz, Jhz, Gh1, Lh1, Fh1, Jh1, Ghy, Lhy, Fhy, Jhy]); exact r.c.nn))
                (Rd.of (by (try simp (disch := omega) only [Gh2, Lh2, Fh2, Jh2, Ghz, Lhz, Fhz, Jhz, Gh1, Lh1, Fh1, Jh1, Ghy, Lhy, Fhy, Jhy]); exact r.d.c)
                (by (try simp (disch := omega) only [Gh2, Lh2, Fh2, Jh2, Ghz, Lhz, Fhz, Jhz, Gh1, Lh1, Fh1, Jh1, Ghy, Lhy, Fhy, Jhy]); exact r.d.m)
                (by (try simp (disch := omega) only [Gh2, Lh2, Fh2, Jh2, Ghz, Lhz, Fhz, Jhz, Gh1, Lh1, Fh1, Jh1, Ghy, Lhy, Fhy, Jhy]); exact r.d.le)
                (fun k hk => RdK.of (by (try simp (disch := omega) only [Gh2, Lh2, Fh2, Jh2, Ghz, Lhz, Fhz, Jhz, Gh1, Lh1, Fh1, Jh1, Ghy, Lhy, Fhy, Jhy]); exact (r.d.K k hk).am)
                  (by (try simp (disch := omega) only [Gh2, Lh2, Fh2, Jh2, Ghz, Lhz, Fhz, Jhz, Gh1, Lh1, Fh1, Jh1, Ghy, Lhy, Fhy, Jhy]); exact (r.d.K k hk).bd)
                  (by (try simp (disch := omega) only [Gh2, Lh2, Fh2, Jh2, Ghz, Lhz, Fhz, Jhz, Gh1, Lh1, Fh1, Jh1, Ghy, Lhy, Fhy, Jhy]); exact (r.d.K k hk).zr)
                  (by (try simp (disch := omega) only [Gh2, Lh2, Fh2, Jh2, Ghz, Lhz, Fhz, Jhz, Gh1, Lh1, Fh1, Jh1, Ghy, Lhy, Fhy, Jhy]); exact (r.d.K k hk).un)
                  (by (try simp (disch := omega) only [Gh2, Lh2, Fh2, Jh2, Ghz, Lhz, Fhz, Jhz, Gh1, Lh1, Fh1, Jh1, Ghy, Lhy, Fhy, Jhy]); exact (r.d.K k hk).ul)
                  (by (try simp (disch := omega) only [Gh2, Lh2, Fh2, Jh2, Ghz, Lhz, Fhz, Jhz, Gh1, Lh1, Fh1, Jh1, Ghy, Lhy, Fhy, Jhy]); exact (r.d.K k hk).lo)
                  (by (try simp (disch := omega) only [Gh2, Lh2, Fh2, Jh2, Ghz, Lhz, Fhz, Jhz, Gh1, Lh1, Fh1, Jh1, Ghy, Lhy, Fhy, Jhy]); exact (r.d.K k hk).lb)
                  (by (try simp (disch := omega) only [Gh2, Lh2, Fh2, Jh2, Ghz, Lhz, Fhz, Jhz, Gh1, Lh1, Fh1, Jh1, Ghy, Lhy, Fhy, Jhy]); exact (r.d.K k hk).po)))
                (Re.of (by (try simp (disch := omega) only [Gh2, Lh2, Fh2, Jh2, Ghz, Lhz, Fhz, Jhz, Gh1, Lh1, Fh1, Jh1, Ghy, Lhy, Fhy, Jhy]); exact r.e.fd)
                (by (try simp (disch := omega) only [Gh2, Lh2, Fh2, Jh2, Ghz, Lhz, Fhz, Jhz, Gh1, Lh1, Fh1, Jh1, Ghy, Lhy, Fhy, Jhy]); exact r.e.be)
                (by (try simp (disch := omega) only [Gh2, Lh2, Fh2, Jh2, Ghz, Lhz, Fhz, Jhz, Gh1, Lh1, Fh1, Jh1, Ghy, Lhy, Fhy, Jhy]); exact r.e.bb)
                (by (try simp (disch := omega) only [Gh2, Lh2, Fh2, Jh2, Ghz, Lhz, Fhz, Jhz, Gh1, Lh1, Fh1, Jh1, Ghy, Lhy, Fhy, Jhy]); exact r.e.z))
                (Rf.of (by (try simp (disch := omega) only [Gh2, Lh2, Fh2, Jh2, Ghz, Lhz, Fhz, Jhz, Gh1, Lh1, Fh1, Jh1, Ghy, Lhy, Fhy, Jhy]); exact r.f.lim)
                (by (try simp (disch := omega) only [Gh2, Lh2, Fh2, Jh2, Ghz, Lhz, Fhz, Jhz, Gh1, Lh1, Fh1, Jh1, Ghy, Lhy, Fhy, Jhy]); exact r.f.l0)
                (by (try simp (disch := omega) only [Gh2, Lh2, Fh2, Jh2, Ghz, Lhz, Fhz, Jhz, Gh1, Lh1, Fh1, Jh1, Ghy, Lhy, Fhy, Jhy]); exact r.f.cl)
                (by (try simp (disch := omega) only [Gh2, Lh2, Fh2, Jh2, Ghz, Lhz, Fhz, Jhz, Gh1, Lh1, Fh1, Jh1, Ghy, Lhy, Fhy, Jhy]); exact r.f.no)
                (by
                intro t' ht'
                by_cases e : t' = t
                · subst e
                  have v150 : gi h2 150 t' = gi h 150 t' - n := by rw [m150]; simp only [upd, if_pos]
                  have v152 : gi h2 152 t' = 1 := by rw [m152]; simp only [upd, if_pos]
                  exact RfK.of (by rw [Fh2, Fhz _ _ (by omega), c2, v150])
                    (by (try simp (disch := omega) only [Gh2, Lh2, Fh2, Jh2, Ghz, Lhz, Fhz, Jhz, Gh1, Lh1, Fh1, Jh1, Ghy, Lhy, Fhy, Jhy]); exact K.siz)
                    (by (try simp (disch := omega) only [Gh2, Lh2, Fh2, Jh2, Ghz, Lhz, Fhz, Jhz, Gh1, Lh1, Fh1, Jh1, Ghy, Lhy, Fhy, Jhy]); exact K.bat)
                    (by rw [Fh2, Fhz _ _ (by omega), c5, v152])
                    (by (try simp (disch := omega) only [Gh2, Lh2, Fh2, Jh2, Ghz, Lhz, Fhz, Jhz, Gh1, Lh1, Fh1, Jh1, Ghy, Lhy, Fhy, Jhy]); exact K.stn)
                    (by (try simp (disch := omega) only [Gh2, Lh2, Fh2, Jh2, Ghz, Lhz, Fhz, Jhz, Gh1, Lh1, Fh1, Jh1, Ghy, Lhy, Fhy, Jhy]); exact K.sta)
                    (by (try simp (disch := omega) only [Gh2, Lh2, Fh2, Jh2, Ghz, Lhz, Fhz, Jhz, Gh1, Lh1, Fh1, Jh1, Ghy, Lhy, Fhy, Jhy]); exact K.am)
                    (by (try simp (disch := omega) only [Gh2, Lh2, Fh2, Jh2, Ghz, Lhz, Fhz, Jhz, Gh1, Lh1, Fh1, Jh1, Ghy, Lhy, Fhy, Jhy]); exact K.zr)
                    (by (try simp (disch := omega) only [Gh2, Lh2, Fh2, Jh2, Ghz, Lhz, Fhz, Jhz, Gh1, Lh1, Fh1, Jh1, Ghy, Lhy, Fhy, Jhy]); exact K.lo)
                    (by rw [v150, sn]; omega)
                    (by rw [v150, sn]; (try simp (disch := omega) only [Gh2, Lh2, Fh2, Jh2, Ghz, Lhz, Fhz, Jhz, Gh1, Lh1, Fh1, Jh1, Ghy, Lhy, Fhy, Jhy]); have := K.hr; omega)
                    (by (try simp (disch := omega) only [Gh2, Lh2, Fh2, Jh2, Ghz, Lhz, Fhz, Jhz, Gh1, Lh1, Fh1, Jh1, Ghy, Lhy, Fhy, Jhy]); exact K.r6)
                    (fun q => by (try simp (disch := omega) only [Gh2, Lh2, Fh2, Jh2, Ghz, Lhz, Fhz, Jhz, Gh1, Lh1, Fh1, Jh1, Ghy, Lhy, Fhy, Jhy]); exact K.hs (by omega))
                    (by (try simp (disch := omega) only [Gh2, Lh2, Fh2, Jh2, Ghz, Lhz, Fhz, Jhz, Gh1, Lh1, Fh1, Jh1, Ghy, Lhy, Fhy, Jhy]); exact K.lb)
                    (by (try simp (disch := omega) only [Gh2, Lh2, Fh2, Jh2, Ghz, Lhz, Fhz, Jhz, Gh1, Lh1, Fh1, Jh1, Ghy, Lhy, Fhy, Jhy]); exact K.bb)
                · have K' := r.f.K t' ht'
                  have v150 : gi h2 150 t' = gi h 150 t' := by rw [m150, Ghz 150 (by omega) (by omega) (by omega) (by omega), n150]; simp only [upd, if_neg e]
                  have v152 : gi h2 152 t' = gi h 152 t' := by rw [m152, Ghz 152 (by omega) (by omega) (by omega) (by omega), Gh1 152 , Ghy 152 (by omega) (by omega) (by omega) (by omega)]; simp only [upd, if_neg e]
                  exact RfK.of (by (try simp (disch := omega) only [v150, v152, Gh2, Lh2, Fh2, Jh2, Ghz, Lhz, Fhz, Jhz, Gh1, Lh1, Fh1, Jh1, Ghy, Lhy, Fhy, Jhy]); exact K'.ins)
                    (by (try simp (disch := omega) only [v150, v152, Gh2, Lh2, Fh2, Jh2, Ghz, Lhz, Fhz, Jhz, Gh1, Lh1, Fh1, Jh1, Ghy, Lhy, Fhy, Jhy]); exact K'.siz)
                    (by (try simp (disch := omega) only [v150, v152, Gh2, Lh2, Fh2, Jh2, Ghz, Lhz, Fhz, Jhz, Gh1, Lh1, Fh1, Jh1, Ghy, Lhy, Fhy, Jhy]); exact K'.bat)
                    (by (try simp (disch := omega) only [v150, v152, Gh2, Lh2, Fh2, Jh2, Ghz, Lhz, Fhz, Jhz, Gh1, Lh1, Fh1, Jh1, Ghy, Lhy, Fhy, Jhy]); exact K'.tap)
                    (by (try simp (disch := omega) only [v150, v152, Gh2, Lh2, Fh2, Jh2, Ghz, Lhz, Fhz, Jhz, Gh1, Lh1, Fh1, Jh1, Ghy, Lhy, Fhy, Jhy]); exact K'.stn)
                    (by (try simp (disch := omega) only [v150, v152, Gh2, Lh2, Fh2, Jh2, Ghz, Lhz, Fhz, Jhz, Gh1, Lh1, Fh1, Jh1, Ghy, Lhy, Fhy, Jhy]); exact K'.sta)
                    (by (try simp (disch := omega) only [v150, v152, Gh2, Lh2, Fh2, Jh2, Ghz, Lhz, Fhz, Jhz, Gh1, Lh1, Fh1, Jh1, Ghy, Lhy, Fhy, Jhy]); exact K'.am)
                    (by (try simp (disch := omega) only [v150, v152, Gh2, Lh2, Fh2, Jh2, Ghz, Lhz, Fhz, Jhz, Gh1, Lh1, Fh1, Jh1, Ghy, Lhy, Fhy, Jhy]); exact K'.zr)
                    (by (try simp (disch := omega) only [v150, v152, Gh2, Lh2, Fh2, Jh2, Ghz, Lhz, Fhz, Jhz, Gh1, Lh1, Fh1, Jh1, Ghy, Lhy, Fhy, Jhy]); exact K'.lo)
                    (by (try simp (disch := omega) only [v150, v152, Gh2, Lh2, Fh2, Jh2, Ghz, Lhz, Fhz, Jhz, Gh1, Lh1, Fh1, Jh1, Ghy, Lhy, Fhy, Jhy]); exact K'.h0)
                    (by (try simp (disch := omega) only [v150, v152, Gh2, Lh2, Fh2, Jh2, Ghz, Lhz, Fhz, Jhz, Gh1, Lh1, Fh1, Jh1, Ghy, Lhy, Fhy, Jhy]); exact K'.hr)
                    (by (try simp (disch := omega) only [v150, v152, Gh2, Lh2, Fh2, Jh2, Ghz, Lhz, Fhz, Jhz, Gh1, Lh1, Fh1, Jh1, Ghy, Lhy, Fhy, Jhy]); exact K'.r6)
                    (by (try simp (disch := omega) only [v150, v152, Gh2, Lh2, Fh2, Jh2, Ghz, Lhz, Fhz, Jhz, Gh1, Lh1, Fh1, Jh1, Ghy, Lhy, Fhy, Jhy]); exact K'.hs)
                    (by (try simp (disch := omega) only [v150, v152, Gh2, Lh2, Fh2, Jh2, Ghz, Lhz, Fhz, Jhz, Gh1, Lh1, Fh1, Jh1, Ghy, Lhy, Fhy, Jhy]); exact K'.lb)
                    (by (try simp (disch := omega) only [v150, v152, Gh2, Lh2, Fh2, Jh2, Ghz, Lhz, Fhz, Jhz, Gh1, Lh1, Fh1, Jh1, Ghy, Lhy, Fhy, Jhy]); exact K'.bb)))
                (Rg.of (by rw [Fh2, Fhz _ _ (by omega), Fh1 _ _ (by omega) (by omega)]; exact y25)
                (by rw [Fh2]; exact z31)
                (by omega)
                (by rw [Gh2 26 (by omega) (by omega), Ghz 26 (by omega) (by omega) (by omega) (by omega), Gh1 26 , y26, Gh2 157 (by omega) (by omega), z157, Gh1 157 , Ghy 157 (by omega) (by omega) (by omega) (by omega), r.g.u])
                (by rw [Gh2 27 (by omega) (by omega), Ghz 27 (by omega) (by omega) (by omega) (by omega), Gh1 27 , y27, Gh2 158 (by omega) (by omega), z158, Gh1 158 , Ghy 158 (by omega) (by omega) (by omega) (by omega), r.g.t])
                (by rw [Gh2 28 (by omega) (by omega), Ghz 28 (by omega) (by omega) (by omega) (by omega), Gh1 28 , y28, Gh2 159 (by omega) (by omega), z159, Gh1 159 , Ghy 159 (by omega) (by omega) (by omega) (by omega), Fh1 132 0 (by omega) (by omega), Fhy 132 0 (by omega), r.b.day, r.g.d])
                (by rw [Gh2 29 (by omega) (by omega), Ghz 29 (by omega) (by omega) (by omega) (by omega), Gh1 29 , y29, Gh2 161 (by omega) (by omega), z161, Gh1 161 , Ghy 161 (by omega) (by omega) (by omega) (by omega), Gh1 155 , Ghy 155 (by omega) (by omega) (by omega) (by omega), K.bat, r.g.b])
                (by rw [Lh2, Lhz 30 (by omega), Lh1, y30, Lh2, z160, Lh1 160, Lhy 160 (by omega), Lh1 154, Lhy 154 (by omega), K.lo, r.g.l])
                (by
                intro j
                rw [Gh2 161 (by omega) (by omega), z161, Gh1 161 , Ghy 161 (by omega) (by omega) (by omega) (by omega), Gh1 155 , Ghy 155 (by omega) (by omega) (by omega) (by omega)]
                simp only [upd]
                split
                · exact K.bb
                · exact r.g.bb j)
                (by
                intro j
                rw [Lh2, z160, Lh1 160, Lhy 160 (by omega), Lh1 154, Lhy 154 (by omega)]
                simp only [vp_updL]
                split
                · exact K.lb
                · exact r.g.lb j))
                (Rh.of (by (try simp (disch := omega) only [Gh2, Lh2, Fh2, Jh2, Ghz, Lhz, Fhz, Jhz, Gh1, Lh1, Fh1, Jh1, Ghy, Lhy, Fhy, Jhy]); exact r.j.c)
                (by (try simp (disch := omega) only [Gh2, Lh2, Fh2, Jh2, Ghz, Lhz, Fhz, Jhz, Gh1, Lh1, Fh1, Jh1, Ghy, Lhy, Fhy, Jhy]); exact r.j.m)
                (by (try simp (disch := omega) only [Gh2, Lh2, Fh2, Jh2, Ghz, Lhz, Fhz, Jhz, Gh1, Lh1, Fh1, Jh1, Ghy, Lhy, Fhy, Jhy]); exact r.j.le)
                (by (try simp (disch := omega) only [Gh2, Lh2, Fh2, Jh2, Ghz, Lhz, Fhz, Jhz, Gh1, Lh1, Fh1, Jh1, Ghy, Lhy, Fhy, Jhy]); exact r.j.pc)
                (by (try simp (disch := omega) only [Gh2, Lh2, Fh2, Jh2, Ghz, Lhz, Fhz, Jhz, Gh1, Lh1, Fh1, Jh1, Ghy, Lhy, Fhy, Jhy]); exact r.j.pm)
                (by (try simp (disch := omega) only [Gh2, Lh2, Fh2, Jh2, Ghz, Lhz, Fhz, Jhz, Gh1, Lh1, Fh1, Jh1, Ghy, Lhy, Fhy, Jhy]); exact r.j.pl)
                (by (try simp (disch := omega) only [Gh2, Lh2, Fh2, Jh2, Ghz, Lhz, Fhz, Jhz, Gh1, Lh1, Fh1, Jh1, Ghy, Lhy, Fhy, Jhy]); exact r.j.hu)
                (by (try simp (disch := omega) only [Gh2, Lh2, Fh2, Jh2, Ghz, Lhz, Fhz, Jhz, Gh1, Lh1, Fh1, Jh1, Ghy, Lhy, Fhy, Jhy]); exact r.j.ti)
                (by (try simp (disch := omega) only [Gh2, Lh2, Fh2, Jh2, Ghz, Lhz, Fhz, Jhz, Gh1, Lh1, Fh1, Jh1, Ghy, Lhy, Fhy, Jhy]); exact r.j.du)
                (by (try simp (disch := omega) only [Gh2, Lh2, Fh2, Jh2, Ghz, Lhz, Fhz, Jhz, Gh1, Lh1, Fh1, Jh1, Ghy, Lhy, Fhy, Jhy]); exact r.j.pr)
                (by (try simp (disch := omega) only [Gh2, Lh2, Fh2, Jh2, Ghz, Lhz, Fhz, Jhz, Gh1, Lh1, Fh1, Jh1, Ghy, Lhy, Fhy, Jhy]); exact r.j.ch)
                (by (try simp (disch := omega) only [Gh2, Lh2, Fh2, Jh2, Ghz, Lhz, Fhz, Jhz, Gh1, Lh1, Fh1, Jh1, Ghy, Lhy, Fhy, Jhy]); exact r.j.od)
                (by (try simp (disch := omega) only [Gh2, Lh2, Fh2, Jh2, Ghz, Lhz, Fhz, Jhz, Gh1, Lh1, Fh1, Jh1, Ghy, Lhy, Fhy, Jhy]); exact r.j.ok)
                (by (try simp (disch := omega) only [Gh2, Lh2, Fh2, Jh2, Ghz, Lhz, Fhz, Jhz, Gh1, Lh1, Fh1, Jh1, Ghy, Lhy, Fhy, Jhy]); exact r.j.tb)
                (by (try simp (disch := omega) only [Gh2, Lh2, Fh2, Jh2, Ghz, Lhz, Fhz, Jhz, Gh1, Lh1, Fh1, Jh1, Ghy, Lhy, Fhy, Jhy]); exact r.j.db)))
        · simp only [uFill, if_pos g1, if_pos g2, nI_clamp (show t < 2147483648 by omega), K.ins, if_neg g3] at c
          simp only [mFill, if_pos g1, if_pos g2, nI_clamp (show t < 2147483648 by omega), if_neg g3] at m0
          exact JJ_upd c m0 ev r
      · simp only [uFill, if_pos g1, if_neg g2] at c
        simp only [mFill, if_pos g1, if_neg g2] at m0
        exact JJ_upd c m0 ev r
    · simp only [uFill, if_neg g1] at c
      simp only [mFill, if_neg g1] at m0
      exact JJ_upd c m0 ev r
  · obtain rfl : nd = 100 := by have := r.g.le; omega
    have c := c_X9_fill_full r.S t n r.g.c nb r.a.c r.a.le
    have m := c_X10_fill_full r.S t n r.g.m
    simp only [uFill, Nat.lt_irrefl, if_false, ite_self] at c
    simp only [mFill, Nat.lt_irrefl, if_false, ite_self] at m
    exact JJ_upd c m (ev 100) r
