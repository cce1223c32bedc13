theorem sh1k : ∀ k, k < 24 → (1 : Int32) <<< (nI k &&& 31) = nI (2 ^ k) := by decide +kernel
theorem or24 {x : Int32} {k : Nat} (hk : k < 24) (h : ∃ n, n < 2 ^ 24 ∧ x = nI n) : ∃ n, n < 2 ^ 24 ∧ x ||| 1 <<< (nI k &&& 31) = nI n := by
  obtain ⟨n, hn, rfl⟩ := h
  exact ⟨n ||| 2 ^ k, Nat.or_lt_two_pow hn (Nat.pow_lt_pow_right (by omega) hk), by rw [sh1k k hk, fa_or]⟩
theorem or40 {x y : Int64} (h : ∃ n, n < 2 ^ 40 ∧ x = lN n) (h' : ∃ n, n < 2 ^ 40 ∧ y = lN n) : ∃ n, n < 2 ^ 40 ∧ x ||| y = lN n := by
  obtain ⟨n, hn, rfl⟩ := h
  obtain ⟨m, hm, rfl⟩ := h'
  exact ⟨n ||| m, Nat.or_lt_two_pow hn hm, fb_orL n m⟩
theorem adm_mpX {h : HF} {nb nl nr nt nd nj np : Nat} (r : Rel h nb nl nr nt nd nj np) {k t : Nat} (hk : k < 24) (ht : t < 5) : decide (adm h t (41 + 3 * k) nb (fI h 1 10)) = mpX h k t := by
  have K := r.f.K t ht
  have h0 := K.h0
  have hl := r.f.l0
  unfold adm alk cov
  rw [K.ins, K.tap, K.stn, K.sta 0 (by omega), K.sta 1 (by omega), K.sta 2 (by omega), r.f.lim, shade_b r hk (d := 0) (by omega), shade_b r hk (d := 1) (by omega), shade_b r hk (d := 2) (by omega), shade_t r ht (d := 0) (by omega), shade_t r ht (d := 1) (by omega), shade_t r ht (d := 2) (by omega)]
  rw [mpX]
  by_cases c : gi h 150 t ≤ 0
  · have c0 : gi h 150 t = 0 := (tI_eq0 _).mpr (by have := (tI_le0 _).mp c; omega)
    have a0 : absI 0 ≤ fI h 132 30 := Int32.le_iff_toInt_le.mpr (by rw [show (absI 0).toInt = 0 from rfl]; exact hl)
    by_cases c1 : gi h 151 t = 0
    · rw [if_pos ⟨c0, c1⟩]
      exact decide_eq_true (Or.inr ⟨c, Or.inl c1⟩)
    · rw [if_neg (fun e => c1 e.2), if_neg (fun e => e.1 c)]
      rw [show decide (_ ∨ _) = decide (gi h 156 (3 * t + 0) ≤ ysh (gi h 144) (gi h 169) (gi h 133) (gi h 134) (8 * k) 0 ∧ gi h 156 (3 * t + 1) ≤ ysh (gi h 144) (gi h 169) (gi h 133) (gi h 134) (8 * k) 1 ∧ gi h 156 (3 * t + 2) ≤ ysh (gi h 144) (gi h 169) (gi h 133) (gi h 134) (8 * k) 2) from by
        refine decide_eq_decide.mpr ⟨fun q => ?_, fun q => Or.inr ⟨c, Or.inr q⟩⟩
        rcases q with q | q
        · exact absurd q.1 (Int32.not_lt.mpr c)
        · exact q.2.resolve_left c1]
      simp only [mpA, mpD, mpO, c, if_true, a0, decide_true, not_true_eq_false, decide_false, Bool.false_or, Bool.true_and, Bool.decide_and, Bool.and_assoc]
  · have c0 : ¬ gi h 150 t = 0 := fun e => c (by rw [e]; decide)
    have c2 : 0 < gi h 150 t := Int32.not_le.mp c
    rw [if_neg (fun e => c0 e.1)]
    by_cases c1 : gi h 152 t = 0
    · rw [if_neg (fun e => e.2 c1)]
      rw [show decide (_ ∨ _) = decide (absI (ysh (gi h 153) (gi h 169) (gi h 133) (gi h 134) (8 * t) 0 - ysh (gi h 144) (gi h 169) (gi h 133) (gi h 134) (8 * k) 0) ≤ fI h 132 30 ∧ absI (ysh (gi h 153) (gi h 169) (gi h 133) (gi h 134) (8 * t) 1 - ysh (gi h 144) (gi h 169) (gi h 133) (gi h 134) (8 * k) 1) ≤ fI h 132 30 ∧ absI (ysh (gi h 153) (gi h 169) (gi h 133) (gi h 134) (8 * t) 2 - ysh (gi h 144) (gi h 169) (gi h 133) (gi h 134) (8 * k) 2) ≤ fI h 132 30) from by
        refine decide_eq_decide.mpr ⟨fun q => ?_, fun q => Or.inl ⟨c2, c1, q⟩⟩
        rcases q with q | q
        · exact q.2.2
        · exact absurd q.1 c]
      simp only [mpA, mpD, mpO, c, if_false, decide_false, not_false_eq_true, decide_true, Bool.true_or, Bool.and_true, Bool.true_and, Bool.decide_and, Bool.and_assoc]
    · rw [if_pos ⟨c, c1⟩]
      exact decide_eq_false (fun q => q.elim (fun q => c1 q.2.1) (fun q => c q.1))
theorem pour_c {h : HF} {nb nl nr nt nd nj np : Nat} (r : Rel h nb nl nr nt nd nj np) {k t : Nat} (hk : k < 24) (ht : t < 5) : ∃ h1 : HF, pourH h k t = h1 ∧ (Sh h1) ∧ (∀ x, x ≠ 114 + 4 * t → gi h1 x = gi h x) ∧ (∀ x, gl h1 x = gl h x) ∧ (∀ x k', ¬ (x = 113 + 4 * t ∧ k' = 1) → ¬ (x = 112 + 4 * t ∧ k' = 2) → ¬ (x = 112 + 4 * t ∧ k' = 4) → ¬ (x = 112 + 4 * t ∧ k' = 5) → ¬ (x = 112 + 4 * t ∧ k' = 6) → ¬ (x = 40 + 3 * k ∧ k' = 1) → fI h1 x k' = fI h x k') ∧ (∀ x k', ¬ (x = 113 + 4 * t ∧ k' = 2) → fJ h1 x k' = fJ h x k') ∧ (∀ b, b < 8 → gi h1 (114 + 4 * t) b = (if gi h 150 t = 0 then 0 else gi h 153 (8 * t + b)) + gi h 144 (8 * k + b)) ∧ (fJ h1 (113 + 4 * t) 2 = (if gi h 150 t = 0 then 0 else gl h 154 t) ||| gl h 145 k) ∧ (fI h1 (112 + 4 * t) 2 = gi h 150 t + usum (gi h 144) k 8) ∧ (fI h1 (112 + 4 * t) 4 = (if gi h 150 t = 0 then 0 else gi h 155 t) ||| 1 <<< (nI k &&& 31)) ∧ (fI h1 (112 + 4 * t) 5 = if gi h 150 t = 0 then 0 else gi h 152 t) ∧ (fI h1 (112 + 4 * t) 6 = 0) ∧ (fI h1 (40 + 3 * k) 1 = 1) := by
  have K := r.f.K t ht
  have D := r.d.K k hk
  have en : 113 + 4 * t + 1 = 114 + 4 * t := by omega
  have ek : 41 + 3 * k + 1 = 42 + 3 * k := by omega
  by_cases ci : fI h (112 + 4 * t) 2 = 0
  · have ci' : gi h 150 t = 0 := by rw [← K.ins]; exact ci
    simp only [ci', if_true]
    have e1 : pourH h k t = sI (recvF ((sI (sI (sI (sJ (sI (si h (114 + 4 * t) (filF (gi h (114 + 4 * t)) 0 8)) (113 + 4 * t) 1 0) (113 + 4 * t) 2 0) (112 + 4 * t) 4 0) (112 + 4 * t) 5 0) (112 + 4 * t) 6 0)) t (41 + 3 * k) k) (40 + 3 * k) 1 1 := by
      rw [pourH, rcvH, if_pos ci, recv0F, emptyF, en]
    rw [e1]
    obtain ⟨ha, eha⟩ : ∃ zz : HF, zz = (sI (sI (sI (sJ (sI (si h (114 + 4 * t) (filF (gi h (114 + 4 * t)) 0 8)) (113 + 4 * t) 1 0) (113 + 4 * t) 2 0) (112 + 4 * t) 4 0) (112 + 4 * t) 5 0) (112 + 4 * t) 6 0) := ⟨_, rfl⟩
    have Sha : Sh ha := by rw [eha]; (repeat (first | exact r.S | apply Sh.si | apply Sh.sI | apply Sh.sJ | apply Sh.sl))
    have Gha : ∀ x, x ≠ 114 + 4 * t → gi ha x = gi h x := by
      intro x q0; rw [eha]; (try simp (disch := first | assumption | omega) only [gi_si_ne, gi_sI, gi_sJ, gi_sl, gl_sl_ne, gl_si, gl_sI, gl_sJ, fI_si, fI_sl, fI_sJ, fI_sI_ne, fI_sI_k, fJ_si, fJ_sl, fJ_sI, fJ_sJ_ne])
    have Lha : ∀ x, gl ha x = gl h x := by
      intro x ; rw [eha]; (try simp (disch := first | assumption | omega) only [gi_si_ne, gi_sI, gi_sJ, gi_sl, gl_sl_ne, gl_si, gl_sI, gl_sJ, fI_si, fI_sl, fI_sJ, fI_sI_ne, fI_sI_k, fJ_si, fJ_sl, fJ_sI, fJ_sJ_ne])
    have Fha : ∀ x kk, ¬ (x = 113 + 4 * t ∧ kk = 1) → ¬ (x = 112 + 4 * t ∧ kk = 4) → ¬ (x = 112 + 4 * t ∧ kk = 5) → ¬ (x = 112 + 4 * t ∧ kk = 6) → fI ha x kk = fI h x kk := by
      intro x kk q0 q1 q2 q3; rw [eha]; first | rfl | (simp (disch := first | assumption | omega) only [fI_si, fI_sl, fI_sJ, fI_sI_o])
    have Jha : ∀ x kk, ¬ (x = 113 + 4 * t ∧ kk = 2) → fJ ha x kk = fJ h x kk := by
      intro x kk q0; rw [eha]; first | rfl | (simp (disch := first | assumption | omega) only [fJ_si, fJ_sl, fJ_sI, fJ_sJ_o])
    rw [← eha]
    have a1 : gi ha (114 + 4 * t) = filF (gi h (114 + 4 * t)) 0 8 := by
      rw [eha]; simp (disch := first | omega | ((repeat (first | exact r.S | apply Sh.si | apply Sh.sI | apply Sh.sJ | apply Sh.sl)); done) | decide | exact kF_K ‹_› (by omega) | exact kI_of (shT_B ‹_›).2.2 | exact kI_of (shT_K ‹_›).2.2.1 | exact kI_of (shT_K ‹_›).2.2.2 | exact kFB ‹_› | exact kFM ‹_› | exact kJM ‹_› | exact kFN ‹_› | exact kJN ‹_› | rfl) only [fI_sI_o, gi_si_ne, gi_sI, gi_sJ, gi_sl, gl_sl_ne, gl_si, gl_sI, gl_sJ, fI_si, fI_sl, fI_sJ, fI_sI_ne, fI_sI_k, fJ_si, fJ_sl, fJ_sI, fJ_sJ_ne, gi_si_eq, gl_sl_eq, fI_sI_eq, fJ_sJ_eq]
    have a2 : fI ha (113 + 4 * t) 1 = 0 := by
      rw [eha]; simp (disch := first | omega | ((repeat (first | exact r.S | apply Sh.si | apply Sh.sI | apply Sh.sJ | apply Sh.sl)); done) | decide | exact kF_K ‹_› (by omega) | exact kI_of (shT_B ‹_›).2.2 | exact kI_of (shT_K ‹_›).2.2.1 | exact kI_of (shT_K ‹_›).2.2.2 | exact kFB ‹_› | exact kFM ‹_› | exact kJM ‹_› | exact kFN ‹_› | exact kJN ‹_› | rfl) only [fI_sI_o, gi_si_ne, gi_sI, gi_sJ, gi_sl, gl_sl_ne, gl_si, gl_sI, gl_sJ, fI_si, fI_sl, fI_sJ, fI_sI_ne, fI_sI_k, fJ_si, fJ_sl, fJ_sI, fJ_sJ_ne, gi_si_eq, gl_sl_eq, fI_sI_eq, fJ_sJ_eq]
    have a3 : fJ ha (113 + 4 * t) 2 = 0 := by
      rw [eha]; simp (disch := first | omega | ((repeat (first | exact r.S | apply Sh.si | apply Sh.sI | apply Sh.sJ | apply Sh.sl)); done) | decide | exact kF_K ‹_› (by omega) | exact kI_of (shT_B ‹_›).2.2 | exact kI_of (shT_K ‹_›).2.2.1 | exact kI_of (shT_K ‹_›).2.2.2 | exact kFB ‹_› | exact kFM ‹_› | exact kJM ‹_› | exact kFN ‹_› | exact kJN ‹_› | rfl) only [fI_sI_o, gi_si_ne, gi_sI, gi_sJ, gi_sl, gl_sl_ne, gl_si, gl_sI, gl_sJ, fI_si, fI_sl, fI_sJ, fI_sI_ne, fI_sI_k, fJ_si, fJ_sl, fJ_sI, fJ_sJ_ne, gi_si_eq, gl_sl_eq, fI_sI_eq, fJ_sJ_eq]
    have a4 : fI ha (112 + 4 * t) 4 = 0 := by
      rw [eha]; simp (disch := first | omega | ((repeat (first | exact r.S | apply Sh.si | apply Sh.sI | apply Sh.sJ | apply Sh.sl)); done) | decide | exact kF_K ‹_› (by omega) | exact kI_of (shT_B ‹_›).2.2 | exact kI_of (shT_K ‹_›).2.2.1 | exact kI_of (shT_K ‹_›).2.2.2 | exact kFB ‹_› | exact kFM ‹_› | exact kJM ‹_› | exact kFN ‹_› | exact kJN ‹_› | rfl) only [fI_sI_o, gi_si_ne, gi_sI, gi_sJ, gi_sl, gl_sl_ne, gl_si, gl_sI, gl_sJ, fI_si, fI_sl, fI_sJ, fI_sI_ne, fI_sI_k, fJ_si, fJ_sl, fJ_sI, fJ_sJ_ne, gi_si_eq, gl_sl_eq, fI_sI_eq, fJ_sJ_eq]
    have a5 : fI ha (112 + 4 * t) 5 = 0 := by
      rw [eha]; simp (disch := first | omega | ((repeat (first | exact r.S | apply Sh.si | apply Sh.sI | apply Sh.sJ | apply Sh.sl)); done) | decide | exact kF_K ‹_› (by omega) | exact kI_of (shT_B ‹_›).2.2 | exact kI_of (shT_K ‹_›).2.2.1 | exact kI_of (shT_K ‹_›).2.2.2 | exact kFB ‹_› | exact kFM ‹_› | exact kJM ‹_› | exact kFN ‹_› | exact kJN ‹_› | rfl) only [fI_sI_o, gi_si_ne, gi_sI, gi_sJ, gi_sl, gl_sl_ne, gl_si, gl_sI, gl_sJ, fI_si, fI_sl, fI_sJ, fI_sI_ne, fI_sI_k, fJ_si, fJ_sl, fJ_sI, fJ_sJ_ne, gi_si_eq, gl_sl_eq, fI_sI_eq, fJ_sJ_eq]
    have a6 : fI ha (112 + 4 * t) 6 = 0 := by
      rw [eha]; simp (disch := first | omega | ((repeat (first | exact r.S | apply Sh.si | apply Sh.sI | apply Sh.sJ | apply Sh.sl)); done) | decide | exact kF_K ‹_› (by omega) | exact kI_of (shT_B ‹_›).2.2 | exact kI_of (shT_K ‹_›).2.2.1 | exact kI_of (shT_K ‹_›).2.2.2 | exact kFB ‹_› | exact kFM ‹_› | exact kJM ‹_› | exact kFN ‹_› | exact kJN ‹_› | rfl) only [fI_sI_o, gi_si_ne, gi_sI, gi_sJ, gi_sl, gl_sl_ne, gl_si, gl_sI, gl_sJ, fI_si, fI_sl, fI_sJ, fI_sI_ne, fI_sI_k, fJ_si, fJ_sl, fJ_sI, fJ_sJ_ne, gi_si_eq, gl_sl_eq, fI_sI_eq, fJ_sJ_eq]
    have e2 : sI (recvF ha t (41 + 3 * k) k) (40 + 3 * k) 1 1 = sI (sI (sI (sJ (sI (si ha (114 + 4 * t) (addF (gi ha (114 + 4 * t)) (gi ha (42 + 3 * k)) 8)) (113 + 4 * t) 1 (fI ha (113 + 4 * t) 1 + fI ha (41 + 3 * k) 1)) (113 + 4 * t) 2 (fJ ha (113 + 4 * t) 2 ||| fJ ha (41 + 3 * k) 2)) (112 + 4 * t) 2 (fI ha (112 + 4 * t) 2 + fI ha (41 + 3 * k) 1)) (112 + 4 * t) 4 (fI ha (112 + 4 * t) 4 ||| 1 <<< (nI k &&& 31))) (40 + 3 * k) 1 1 := by
      rw [recvF, addAllF, en, ek]
    rw [e2]
    obtain ⟨h1, eh1⟩ : ∃ zz : HF, zz = sI (sI (sI (sJ (sI (si ha (114 + 4 * t) (addF (gi ha (114 + 4 * t)) (gi ha (42 + 3 * k)) 8)) (113 + 4 * t) 1 (fI ha (113 + 4 * t) 1 + fI ha (41 + 3 * k) 1)) (113 + 4 * t) 2 (fJ ha (113 + 4 * t) 2 ||| fJ ha (41 + 3 * k) 2)) (112 + 4 * t) 2 (fI ha (112 + 4 * t) 2 + fI ha (41 + 3 * k) 1)) (112 + 4 * t) 4 (fI ha (112 + 4 * t) 4 ||| 1 <<< (nI k &&& 31))) (40 + 3 * k) 1 1 := ⟨_, rfl⟩
    have Sh1 : Sh h1 := by rw [eh1]; (repeat (first | exact Sha | apply Sh.si | apply Sh.sI | apply Sh.sJ | apply Sh.sl))
    have Gh1 : ∀ x, x ≠ 114 + 4 * t → gi h1 x = gi ha x := by
      intro x q0; rw [eh1]; (try simp (disch := first | assumption | omega) only [gi_si_ne, gi_sI, gi_sJ, gi_sl, gl_sl_ne, gl_si, gl_sI, gl_sJ, fI_si, fI_sl, fI_sJ, fI_sI_ne, fI_sI_k, fJ_si, fJ_sl, fJ_sI, fJ_sJ_ne])
    have Lh1 : ∀ x, gl h1 x = gl ha x := by
      intro x ; rw [eh1]; (try simp (disch := first | assumption | omega) only [gi_si_ne, gi_sI, gi_sJ, gi_sl, gl_sl_ne, gl_si, gl_sI, gl_sJ, fI_si, fI_sl, fI_sJ, fI_sI_ne, fI_sI_k, fJ_si, fJ_sl, fJ_sI, fJ_sJ_ne])
    have Fh1 : ∀ x kk, ¬ (x = 113 + 4 * t ∧ kk = 1) → ¬ (x = 112 + 4 * t ∧ kk = 2) → ¬ (x = 112 + 4 * t ∧ kk = 4) → ¬ (x = 40 + 3 * k ∧ kk = 1) → fI h1 x kk = fI ha x kk := by
      intro x kk q0 q1 q2 q3; rw [eh1]; first | rfl | (simp (disch := first | assumption | omega) only [fI_si, fI_sl, fI_sJ, fI_sI_o])
    have Jh1 : ∀ x kk, ¬ (x = 113 + 4 * t ∧ kk = 2) → fJ h1 x kk = fJ ha x kk := by
      intro x kk q0; rw [eh1]; first | rfl | (simp (disch := first | assumption | omega) only [fJ_si, fJ_sl, fJ_sI, fJ_sJ_o])
    rw [← eh1]
    have c1 : gi h1 (114 + 4 * t) = addF (gi ha (114 + 4 * t)) (gi ha (42 + 3 * k)) 8 := by
      rw [eh1]; simp (disch := first | omega | ((repeat (first | exact Sha | apply Sh.si | apply Sh.sI | apply Sh.sJ | apply Sh.sl)); done) | decide | exact kF_K ‹_› (by omega) | exact kI_of (shT_B ‹_›).2.2 | exact kI_of (shT_K ‹_›).2.2.1 | exact kI_of (shT_K ‹_›).2.2.2 | exact kFB ‹_› | exact kFM ‹_› | exact kJM ‹_› | exact kFN ‹_› | exact kJN ‹_› | rfl) only [fI_sI_o, gi_si_ne, gi_sI, gi_sJ, gi_sl, gl_sl_ne, gl_si, gl_sI, gl_sJ, fI_si, fI_sl, fI_sJ, fI_sI_ne, fI_sI_k, fJ_si, fJ_sl, fJ_sI, fJ_sJ_ne, gi_si_eq, gl_sl_eq, fI_sI_eq, fJ_sJ_eq]
    have c3 : fJ h1 (113 + 4 * t) 2 = fJ ha (113 + 4 * t) 2 ||| fJ ha (41 + 3 * k) 2 := by
      rw [eh1]; simp (disch := first | omega | ((repeat (first | exact Sha | apply Sh.si | apply Sh.sI | apply Sh.sJ | apply Sh.sl)); done) | decide | exact kF_K ‹_› (by omega) | exact kI_of (shT_B ‹_›).2.2 | exact kI_of (shT_K ‹_›).2.2.1 | exact kI_of (shT_K ‹_›).2.2.2 | exact kFB ‹_› | exact kFM ‹_› | exact kJM ‹_› | exact kFN ‹_› | exact kJN ‹_› | rfl) only [fI_sI_o, gi_si_ne, gi_sI, gi_sJ, gi_sl, gl_sl_ne, gl_si, gl_sI, gl_sJ, fI_si, fI_sl, fI_sJ, fI_sI_ne, fI_sI_k, fJ_si, fJ_sl, fJ_sI, fJ_sJ_ne, gi_si_eq, gl_sl_eq, fI_sI_eq, fJ_sJ_eq]
    have c4 : fI h1 (112 + 4 * t) 2 = fI ha (112 + 4 * t) 2 + fI ha (41 + 3 * k) 1 := by
      rw [eh1]; simp (disch := first | omega | ((repeat (first | exact Sha | apply Sh.si | apply Sh.sI | apply Sh.sJ | apply Sh.sl)); done) | decide | exact kF_K ‹_› (by omega) | exact kI_of (shT_B ‹_›).2.2 | exact kI_of (shT_K ‹_›).2.2.1 | exact kI_of (shT_K ‹_›).2.2.2 | exact kFB ‹_› | exact kFM ‹_› | exact kJM ‹_› | exact kFN ‹_› | exact kJN ‹_› | rfl) only [fI_sI_o, gi_si_ne, gi_sI, gi_sJ, gi_sl, gl_sl_ne, gl_si, gl_sI, gl_sJ, fI_si, fI_sl, fI_sJ, fI_sI_ne, fI_sI_k, fJ_si, fJ_sl, fJ_sI, fJ_sJ_ne, gi_si_eq, gl_sl_eq, fI_sI_eq, fJ_sJ_eq]
    have c5 : fI h1 (112 + 4 * t) 4 = fI ha (112 + 4 * t) 4 ||| 1 <<< (nI k &&& 31) := by
      rw [eh1]; simp (disch := first | omega | ((repeat (first | exact Sha | apply Sh.si | apply Sh.sI | apply Sh.sJ | apply Sh.sl)); done) | decide | exact kF_K ‹_› (by omega) | exact kI_of (shT_B ‹_›).2.2 | exact kI_of (shT_K ‹_›).2.2.1 | exact kI_of (shT_K ‹_›).2.2.2 | exact kFB ‹_› | exact kFM ‹_› | exact kJM ‹_› | exact kFN ‹_› | exact kJN ‹_› | rfl) only [fI_sI_o, gi_si_ne, gi_sI, gi_sJ, gi_sl, gl_sl_ne, gl_si, gl_sI, gl_sJ, fI_si, fI_sl, fI_sJ, fI_sI_ne, fI_sI_k, fJ_si, fJ_sl, fJ_sI, fJ_sJ_ne, gi_si_eq, gl_sl_eq, fI_sI_eq, fJ_sJ_eq]
    have c6 : fI h1 (40 + 3 * k) 1 = 1 := by
      rw [eh1]; simp (disch := first | omega | ((repeat (first | exact Sha | apply Sh.si | apply Sh.sI | apply Sh.sJ | apply Sh.sl)); done) | decide | exact kF_K ‹_› (by omega) | exact kI_of (shT_B ‹_›).2.2 | exact kI_of (shT_K ‹_›).2.2.1 | exact kI_of (shT_K ‹_›).2.2.2 | exact kFB ‹_› | exact kFM ‹_› | exact kJM ‹_› | exact kFN ‹_› | exact kJN ‹_› | rfl) only [fI_sI_o, gi_si_ne, gi_sI, gi_sJ, gi_sl, gl_sl_ne, gl_si, gl_sI, gl_sJ, fI_si, fI_sl, fI_sJ, fI_sI_ne, fI_sI_k, fJ_si, fJ_sl, fJ_sI, fJ_sJ_ne, gi_si_eq, gl_sl_eq, fI_sI_eq, fJ_sJ_eq]
    refine ⟨h1, rfl, Sh1, ?_, ?_, ?_, ?_, ?_, ?_, ?_, ?_, ?_, ?_, c6⟩
    · intro x hx; rw [Gh1 x hx, Gha x hx]
    · intro x; rw [Lh1, Lha]
    · intro x k' q1 q2 q3 q4 q5 q6; rw [Fh1 x k' q1 q2 q3 q6, Fha x k' q1 q3 q4 q5]
    · intro x k' q1; rw [Jh1 x k' q1, Jha x k' q1]
    · intro b hb; rw [c1, addF, if_pos hb, a1, filF, if_pos hb, Gha _ (by omega), D.am b hb]
    · rw [c3, a3, Jha _ _ (by omega), D.lo]
    · rw [c4, Fha _ _ (by omega) (by omega) (by omega) (by omega), Fha _ _ (by omega) (by omega) (by omega) (by omega), ci, D.un]
    · rw [c5, a4]
    · rw [Fh1 _ _ (by omega) (by omega) (by omega) (by omega), a5]
    · rw [Fh1 _ _ (by omega) (by omega) (by omega) (by omega), a6]
  · have ci2 : ¬ gi h 150 t = 0 := by rw [← K.ins]; exact ci
    simp only [ci2, if_false]
    have e1 : pourH h k t = sI (recvF (h) t (41 + 3 * k) k) (40 + 3 * k) 1 1 := by
      rw [pourH, rcvH, if_neg ci]
    rw [e1]
    have e2 : sI (recvF h t (41 + 3 * k) k) (40 + 3 * k) 1 1 = sI (sI (sI (sJ (sI (si h (114 + 4 * t) (addF (gi h (114 + 4 * t)) (gi h (42 + 3 * k)) 8)) (113 + 4 * t) 1 (fI h (113 + 4 * t) 1 + fI h (41 + 3 * k) 1)) (113 + 4 * t) 2 (fJ h (113 + 4 * t) 2 ||| fJ h (41 + 3 * k) 2)) (112 + 4 * t) 2 (fI h (112 + 4 * t) 2 + fI h (41 + 3 * k) 1)) (112 + 4 * t) 4 (fI h (112 + 4 * t) 4 ||| 1 <<< (nI k &&& 31))) (40 + 3 * k) 1 1 := by
      rw [recvF, addAllF, en, ek]
    rw [e2]
    obtain ⟨h1, eh1⟩ : ∃ zz : HF, zz = sI (sI (sI (sJ (sI (si h (114 + 4 * t) (addF (gi h (114 + 4 * t)) (gi h (42 + 3 * k)) 8)) (113 + 4 * t) 1 (fI h (113 + 4 * t) 1 + fI h (41 + 3 * k) 1)) (113 + 4 * t) 2 (fJ h (113 + 4 * t) 2 ||| fJ h (41 + 3 * k) 2)) (112 + 4 * t) 2 (fI h (112 + 4 * t) 2 + fI h (41 + 3 * k) 1)) (112 + 4 * t) 4 (fI h (112 + 4 * t) 4 ||| 1 <<< (nI k &&& 31))) (40 + 3 * k) 1 1 := ⟨_, rfl⟩
    have Sh1 : Sh h1 := by rw [eh1]; (repeat (first | exact r.S | apply Sh.si | apply Sh.sI | apply Sh.sJ | apply Sh.sl))
    have Gh1 : ∀ x, x ≠ 114 + 4 * t → gi h1 x = gi h x := by
      intro x q0; rw [eh1]; (try simp (disch := first | assumption | omega) only [gi_si_ne, gi_sI, gi_sJ, gi_sl, gl_sl_ne, gl_si, gl_sI, gl_sJ, fI_si, fI_sl, fI_sJ, fI_sI_ne, fI_sI_k, fJ_si, fJ_sl, fJ_sI, fJ_sJ_ne])
    have Lh1 : ∀ x, gl h1 x = gl h x := by
      intro x ; rw [eh1]; (try simp (disch := first | assumption | omega) only [gi_si_ne, gi_sI, gi_sJ, gi_sl, gl_sl_ne, gl_si, gl_sI, gl_sJ, fI_si, fI_sl, fI_sJ, fI_sI_ne, fI_sI_k, fJ_si, fJ_sl, fJ_sI, fJ_sJ_ne])
    have Fh1 : ∀ x kk, ¬ (x = 113 + 4 * t ∧ kk = 1) → ¬ (x = 112 + 4 * t ∧ kk = 2) → ¬ (x = 112 + 4 * t ∧ kk = 4) → ¬ (x = 40 + 3 * k ∧ kk = 1) → fI h1 x kk = fI h x kk := by
      intro x kk q0 q1 q2 q3; rw [eh1]; first | rfl | (simp (disch := first | assumption | omega) only [fI_si, fI_sl, fI_sJ, fI_sI_o])
    have Jh1 : ∀ x kk, ¬ (x = 113 + 4 * t ∧ kk = 2) → fJ h1 x kk = fJ h x kk := by
      intro x kk q0; rw [eh1]; first | rfl | (simp (disch := first | assumption | omega) only [fJ_si, fJ_sl, fJ_sI, fJ_sJ_o])
    rw [← eh1]
    have c1 : gi h1 (114 + 4 * t) = addF (gi h (114 + 4 * t)) (gi h (42 + 3 * k)) 8 := by
      rw [eh1]; simp (disch := first | omega | ((repeat (first | exact r.S | apply Sh.si | apply Sh.sI | apply Sh.sJ | apply Sh.sl)); done) | decide | exact kF_K ‹_› (by omega) | exact kI_of (shT_B ‹_›).2.2 | exact kI_of (shT_K ‹_›).2.2.1 | exact kI_of (shT_K ‹_›).2.2.2 | exact kFB ‹_› | exact kFM ‹_› | exact kJM ‹_› | exact kFN ‹_› | exact kJN ‹_› | rfl) only [fI_sI_o, gi_si_ne, gi_sI, gi_sJ, gi_sl, gl_sl_ne, gl_si, gl_sI, gl_sJ, fI_si, fI_sl, fI_sJ, fI_sI_ne, fI_sI_k, fJ_si, fJ_sl, fJ_sI, fJ_sJ_ne, gi_si_eq, gl_sl_eq, fI_sI_eq, fJ_sJ_eq]
    have c3 : fJ h1 (113 + 4 * t) 2 = fJ h (113 + 4 * t) 2 ||| fJ h (41 + 3 * k) 2 := by
      rw [eh1]; simp (disch := first | omega | ((repeat (first | exact r.S | apply Sh.si | apply Sh.sI | apply Sh.sJ | apply Sh.sl)); done) | decide | exact kF_K ‹_› (by omega) | exact kI_of (shT_B ‹_›).2.2 | exact kI_of (shT_K ‹_›).2.2.1 | exact kI_of (shT_K ‹_›).2.2.2 | exact kFB ‹_› | exact kFM ‹_› | exact kJM ‹_› | exact kFN ‹_› | exact kJN ‹_› | rfl) only [fI_sI_o, gi_si_ne, gi_sI, gi_sJ, gi_sl, gl_sl_ne, gl_si, gl_sI, gl_sJ, fI_si, fI_sl, fI_sJ, fI_sI_ne, fI_sI_k, fJ_si, fJ_sl, fJ_sI, fJ_sJ_ne, gi_si_eq, gl_sl_eq, fI_sI_eq, fJ_sJ_eq]
    have c4 : fI h1 (112 + 4 * t) 2 = fI h (112 + 4 * t) 2 + fI h (41 + 3 * k) 1 := by
      rw [eh1]; simp (disch := first | omega | ((repeat (first | exact r.S | apply Sh.si | apply Sh.sI | apply Sh.sJ | apply Sh.sl)); done) | decide | exact kF_K ‹_› (by omega) | exact kI_of (shT_B ‹_›).2.2 | exact kI_of (shT_K ‹_›).2.2.1 | exact kI_of (shT_K ‹_›).2.2.2 | exact kFB ‹_› | exact kFM ‹_› | exact kJM ‹_› | exact kFN ‹_› | exact kJN ‹_› | rfl) only [fI_sI_o, gi_si_ne, gi_sI, gi_sJ, gi_sl, gl_sl_ne, gl_si, gl_sI, gl_sJ, fI_si, fI_sl, fI_sJ, fI_sI_ne, fI_sI_k, fJ_si, fJ_sl, fJ_sI, fJ_sJ_ne, gi_si_eq, gl_sl_eq, fI_sI_eq, fJ_sJ_eq]
    have c5 : fI h1 (112 + 4 * t) 4 = fI h (112 + 4 * t) 4 ||| 1 <<< (nI k &&& 31) := by
      rw [eh1]; simp (disch := first | omega | ((repeat (first | exact r.S | apply Sh.si | apply Sh.sI | apply Sh.sJ | apply Sh.sl)); done) | decide | exact kF_K ‹_› (by omega) | exact kI_of (shT_B ‹_›).2.2 | exact kI_of (shT_K ‹_›).2.2.1 | exact kI_of (shT_K ‹_›).2.2.2 | exact kFB ‹_› | exact kFM ‹_› | exact kJM ‹_› | exact kFN ‹_› | exact kJN ‹_› | rfl) only [fI_sI_o, gi_si_ne, gi_sI, gi_sJ, gi_sl, gl_sl_ne, gl_si, gl_sI, gl_sJ, fI_si, fI_sl, fI_sJ, fI_sI_ne, fI_sI_k, fJ_si, fJ_sl, fJ_sI, fJ_sJ_ne, gi_si_eq, gl_sl_eq, fI_sI_eq, fJ_sJ_eq]
    have c6 : fI h1 (40 + 3 * k) 1 = 1 := by
      rw [eh1]; simp (disch := first | omega | ((repeat (first | exact r.S | apply Sh.si | apply Sh.sI | apply Sh.sJ | apply Sh.sl)); done) | decide | exact kF_K ‹_› (by omega) | exact kI_of (shT_B ‹_›).2.2 | exact kI_of (shT_K ‹_›).2.2.1 | exact kI_of (shT_K ‹_›).2.2.2 | exact kFB ‹_› | exact kFM ‹_› | exact kJM ‹_› | exact kFN ‹_› | exact kJN ‹_› | rfl) only [fI_sI_o, gi_si_ne, gi_sI, gi_sJ, gi_sl, gl_sl_ne, gl_si, gl_sI, gl_sJ, fI_si, fI_sl, fI_sJ, fI_sI_ne, fI_sI_k, fJ_si, fJ_sl, fJ_sI, fJ_sJ_ne, gi_si_eq, gl_sl_eq, fI_sI_eq, fJ_sJ_eq]
    refine ⟨h1, rfl, Sh1, Gh1, Lh1, ?_, Jh1, ?_, ?_, ?_, ?_, ?_, ?_, c6⟩
    · intro x k' q1 q2 q3 q4 q5 q6; rw [Fh1 x k' q1 q2 q3 q6]
    · intro b hb; rw [c1, addF, if_pos hb, K.am b hb, D.am b hb]
    · rw [c3, K.lo, D.lo]
    · rw [c4, K.ins, D.un]
    · rw [c5, K.bat]
    · rw [Fh1 _ _ (by omega) (by omega) (by omega) (by omega), K.tap]
    · rw [Fh1 _ _ (by omega) (by omega) (by omega) (by omega), K.stn]
      exact K.hs (by have := K.h0; rw [tI_eq0] at ci2; omega)
theorem pour_m {h : HF} (hS : Sh h) {k t : Nat} (hk : k < 24) (ht : t < 5) (u : Int32) : ∃ h2 : HF, mpR h k t u = h2 ∧ (Sh h2) ∧ (∀ x, x ≠ 153 → x ≠ 151 → x ≠ 155 → x ≠ 150 → x ≠ 146 → x ≠ 152 → gi h2 x = gi h x) ∧ (∀ x, x ≠ 154 → gl h2 x = gl h x) ∧ (∀ x k', fI h2 x k' = fI h x k') ∧ (∀ x k', fJ h2 x k' = fJ h x k') ∧ (gi h2 153 = rowF (gi h 153) (8 * t) (fun b => (if gi h 150 t = 0 then 0 else gi h 153 (8 * t + b)) + gi h 144 (8 * k + b)) 8) ∧ (gi h2 151 = upd (gi h 151) t 0) ∧ (gi h2 155 = upd (gi h 155) t ((if gi h 150 t = 0 then 0 else gi h 155 t) ||| 1 <<< (nI k &&& 31))) ∧ (gi h2 150 = upd (gi h 150) t (gi h 150 t + u)) ∧ (gi h2 146 = upd (gi h 146) k 1) ∧ (gl h2 154 = vp_updL (gl h 154) t ((if gi h 150 t = 0 then 0 else gl h 154 t) ||| gl h 145 k)) ∧ (gi h2 152 = upd (gi h 152) t (if gi h 150 t = 0 then 0 else gi h 152 t)) := by
  by_cases ci : gi h 150 t = 0
  · rw [mpR, if_pos ci]
    have e0 : mp0 h t = si (si (sl h 154 (vp_updL (gl h 154) t 0)) 155 (upd (gi h 155) t 0)) 152 (upd (gi h 152) t 0) := by
      unfold mp0; simp (disch := omega) only [gi_si_ne, gi_sI, gi_sJ, gi_sl, gl_sl_ne, gl_si, gl_sI, gl_sJ, fI_si, fI_sl, fI_sJ, fI_sI_ne, fI_sI_k, fJ_si, fJ_sl, fJ_sI, fJ_sJ_ne]
    obtain ⟨ha, eha⟩ : ∃ zz : HF, zz = si (si (sl h 154 (vp_updL (gl h 154) t 0)) 155 (upd (gi h 155) t 0)) 152 (upd (gi h 152) t 0) := ⟨_, rfl⟩
    have Sha : Sh ha := by rw [eha]; (repeat (first | exact hS | apply Sh.si | apply Sh.sI | apply Sh.sJ | apply Sh.sl))
    have Gha : ∀ x, x ≠ 155 → x ≠ 152 → gi ha x = gi h x := by
      intro x q0 q1; rw [eha]; (try simp (disch := first | assumption | omega) only [gi_si_ne, gi_sI, gi_sJ, gi_sl, gl_sl_ne, gl_si, gl_sI, gl_sJ, fI_si, fI_sl, fI_sJ, fI_sI_ne, fI_sI_k, fJ_si, fJ_sl, fJ_sI, fJ_sJ_ne])
    have Lha : ∀ x, x ≠ 154 → gl ha x = gl h x := by
      intro x q0; rw [eha]; (try simp (disch := first | assumption | omega) only [gi_si_ne, gi_sI, gi_sJ, gi_sl, gl_sl_ne, gl_si, gl_sI, gl_sJ, fI_si, fI_sl, fI_sJ, fI_sI_ne, fI_sI_k, fJ_si, fJ_sl, fJ_sI, fJ_sJ_ne])
    have Fha : ∀ x kk, fI ha x kk = fI h x kk := by
      intro x kk ; rw [eha]; first | rfl | (simp (disch := first | assumption | omega) only [fI_si, fI_sl, fI_sJ, fI_sI_o])
    have Jha : ∀ x kk, fJ ha x kk = fJ h x kk := by
      intro x kk ; rw [eha]; first | rfl | (simp (disch := first | assumption | omega) only [fJ_si, fJ_sl, fJ_sI, fJ_sJ_o])
    rw [e0, ← eha]
    have a1 : gl ha 154 = vp_updL (gl h 154) t 0 := by
      rw [eha]; simp (disch := first | omega | ((repeat (first | exact hS | apply Sh.si | apply Sh.sI | apply Sh.sJ | apply Sh.sl)); done) | decide | exact kF_K ‹_› (by omega) | exact kI_of (shT_B ‹_›).2.2 | exact kI_of (shT_K ‹_›).2.2.1 | exact kI_of (shT_K ‹_›).2.2.2 | exact kFB ‹_› | exact kFM ‹_› | exact kJM ‹_› | exact kFN ‹_› | exact kJN ‹_› | rfl) only [gi_si_ne, gi_sI, gi_sJ, gi_sl, gl_sl_ne, gl_si, gl_sI, gl_sJ, fI_si, fI_sl, fI_sJ, fI_sI_ne, fI_sI_k, fJ_si, fJ_sl, fJ_sI, fJ_sJ_ne, gi_si_eq, gl_sl_eq, fI_sI_eq, fJ_sJ_eq]
    have a2 : gi ha 155 = upd (gi h 155) t 0 := by
      rw [eha]; simp (disch := first | omega | ((repeat (first | exact hS | apply Sh.si | apply Sh.sI | apply Sh.sJ | apply Sh.sl)); done) | decide | exact kF_K ‹_› (by omega) | exact kI_of (shT_B ‹_›).2.2 | exact kI_of (shT_K ‹_›).2.2.1 | exact kI_of (shT_K ‹_›).2.2.2 | exact kFB ‹_› | exact kFM ‹_› | exact kJM ‹_› | exact kFN ‹_› | exact kJN ‹_› | rfl) only [gi_si_ne, gi_sI, gi_sJ, gi_sl, gl_sl_ne, gl_si, gl_sI, gl_sJ, fI_si, fI_sl, fI_sJ, fI_sI_ne, fI_sI_k, fJ_si, fJ_sl, fJ_sI, fJ_sJ_ne, gi_si_eq, gl_sl_eq, fI_sI_eq, fJ_sJ_eq]
    have a3 : gi ha 152 = upd (gi h 152) t 0 := by
      rw [eha]; simp (disch := first | omega | ((repeat (first | exact hS | apply Sh.si | apply Sh.sI | apply Sh.sJ | apply Sh.sl)); done) | decide | exact kF_K ‹_› (by omega) | exact kI_of (shT_B ‹_›).2.2 | exact kI_of (shT_K ‹_›).2.2.1 | exact kI_of (shT_K ‹_›).2.2.2 | exact kFB ‹_› | exact kFM ‹_› | exact kJM ‹_› | exact kFN ‹_› | exact kJN ‹_› | rfl) only [gi_si_ne, gi_sI, gi_sJ, gi_sl, gl_sl_ne, gl_si, gl_sI, gl_sJ, fI_si, fI_sl, fI_sJ, fI_sI_ne, fI_sI_k, fJ_si, fJ_sl, fJ_sI, fJ_sJ_ne, gi_si_eq, gl_sl_eq, fI_sI_eq, fJ_sJ_eq]
    have e1 : mp2 ha k t u = si (si (si (sl (si (si ha 153 (rowF (gi ha 153) (8 * t) (fun b => (if gi ha 150 t = 0 then 0 else gi ha 153 (8 * t + b)) + gi ha 144 (8 * k + b)) 8)) 151 (upd (gi ha 151) t 0)) 154 (vp_updL (gl ha 154) t (gl ha 154 t ||| gl ha 145 k))) 155 (upd (gi ha 155) t (gi ha 155 t ||| 1 <<< (nI k &&& 31)))) 150 (upd (gi ha 150) t (gi ha 150 t + u))) 146 (upd (gi ha 146) k 1) := by
      unfold mp2; simp (disch := omega) only [gi_si_ne, gi_sI, gi_sJ, gi_sl, gl_sl_ne, gl_si, gl_sI, gl_sJ, fI_si, fI_sl, fI_sJ, fI_sI_ne, fI_sI_k, fJ_si, fJ_sl, fJ_sI, fJ_sJ_ne]
    rw [e1]
    obtain ⟨h2, eh2⟩ : ∃ zz : HF, zz = si (si (si (sl (si (si ha 153 (rowF (gi ha 153) (8 * t) (fun b => (if gi ha 150 t = 0 then 0 else gi ha 153 (8 * t + b)) + gi ha 144 (8 * k + b)) 8)) 151 (upd (gi ha 151) t 0)) 154 (vp_updL (gl ha 154) t (gl ha 154 t ||| gl ha 145 k))) 155 (upd (gi ha 155) t (gi ha 155 t ||| 1 <<< (nI k &&& 31)))) 150 (upd (gi ha 150) t (gi ha 150 t + u))) 146 (upd (gi ha 146) k 1) := ⟨_, rfl⟩
    have Sh2 : Sh h2 := by rw [eh2]; (repeat (first | exact Sha | apply Sh.si | apply Sh.sI | apply Sh.sJ | apply Sh.sl))
    have Gh2 : ∀ x, x ≠ 153 → x ≠ 151 → x ≠ 155 → x ≠ 150 → x ≠ 146 → gi h2 x = gi ha x := by
      intro x q0 q1 q2 q3 q4; rw [eh2]; (try simp (disch := first | assumption | omega) only [gi_si_ne, gi_sI, gi_sJ, gi_sl, gl_sl_ne, gl_si, gl_sI, gl_sJ, fI_si, fI_sl, fI_sJ, fI_sI_ne, fI_sI_k, fJ_si, fJ_sl, fJ_sI, fJ_sJ_ne])
    have Lh2 : ∀ x, x ≠ 154 → gl h2 x = gl ha x := by
      intro x q0; rw [eh2]; (try simp (disch := first | assumption | omega) only [gi_si_ne, gi_sI, gi_sJ, gi_sl, gl_sl_ne, gl_si, gl_sI, gl_sJ, fI_si, fI_sl, fI_sJ, fI_sI_ne, fI_sI_k, fJ_si, fJ_sl, fJ_sI, fJ_sJ_ne])
    have Fh2 : ∀ x kk, fI h2 x kk = fI ha x kk := by
      intro x kk ; rw [eh2]; first | rfl | (simp (disch := first | assumption | omega) only [fI_si, fI_sl, fI_sJ, fI_sI_o])
    have Jh2 : ∀ x kk, fJ h2 x kk = fJ ha x kk := by
      intro x kk ; rw [eh2]; first | rfl | (simp (disch := first | assumption | omega) only [fJ_si, fJ_sl, fJ_sI, fJ_sJ_o])
    rw [← eh2]
    have m1 : gi h2 153 = rowF (gi ha 153) (8 * t) (fun b => (if gi ha 150 t = 0 then 0 else gi ha 153 (8 * t + b)) + gi ha 144 (8 * k + b)) 8 := by
      rw [eh2]; simp (disch := first | omega | ((repeat (first | exact Sha | apply Sh.si | apply Sh.sI | apply Sh.sJ | apply Sh.sl)); done) | decide | exact kF_K ‹_› (by omega) | exact kI_of (shT_B ‹_›).2.2 | exact kI_of (shT_K ‹_›).2.2.1 | exact kI_of (shT_K ‹_›).2.2.2 | exact kFB ‹_› | exact kFM ‹_› | exact kJM ‹_› | exact kFN ‹_› | exact kJN ‹_› | rfl) only [gi_si_ne, gi_sI, gi_sJ, gi_sl, gl_sl_ne, gl_si, gl_sI, gl_sJ, fI_si, fI_sl, fI_sJ, fI_sI_ne, fI_sI_k, fJ_si, fJ_sl, fJ_sI, fJ_sJ_ne, gi_si_eq, gl_sl_eq, fI_sI_eq, fJ_sJ_eq]
    have m2 : gi h2 151 = upd (gi ha 151) t 0 := by
      rw [eh2]; simp (disch := first | omega | ((repeat (first | exact Sha | apply Sh.si | apply Sh.sI | apply Sh.sJ | apply Sh.sl)); done) | decide | exact kF_K ‹_› (by omega) | exact kI_of (shT_B ‹_›).2.2 | exact kI_of (shT_K ‹_›).2.2.1 | exact kI_of (shT_K ‹_›).2.2.2 | exact kFB ‹_› | exact kFM ‹_› | exact kJM ‹_› | exact kFN ‹_› | exact kJN ‹_› | rfl) only [gi_si_ne, gi_sI, gi_sJ, gi_sl, gl_sl_ne, gl_si, gl_sI, gl_sJ, fI_si, fI_sl, fI_sJ, fI_sI_ne, fI_sI_k, fJ_si, fJ_sl, fJ_sI, fJ_sJ_ne, gi_si_eq, gl_sl_eq, fI_sI_eq, fJ_sJ_eq]
    have m3 : gl h2 154 = vp_updL (gl ha 154) t (gl ha 154 t ||| gl ha 145 k) := by
      rw [eh2]; simp (disch := first | omega | ((repeat (first | exact Sha | apply Sh.si | apply Sh.sI | apply Sh.sJ | apply Sh.sl)); done) | decide | exact kF_K ‹_› (by omega) | exact kI_of (shT_B ‹_›).2.2 | exact kI_of (shT_K ‹_›).2.2.1 | exact kI_of (shT_K ‹_›).2.2.2 | exact kFB ‹_› | exact kFM ‹_› | exact kJM ‹_› | exact kFN ‹_› | exact kJN ‹_› | rfl) only [gi_si_ne, gi_sI, gi_sJ, gi_sl, gl_sl_ne, gl_si, gl_sI, gl_sJ, fI_si, fI_sl, fI_sJ, fI_sI_ne, fI_sI_k, fJ_si, fJ_sl, fJ_sI, fJ_sJ_ne, gi_si_eq, gl_sl_eq, fI_sI_eq, fJ_sJ_eq]
    have m4 : gi h2 155 = upd (gi ha 155) t (gi ha 155 t ||| 1 <<< (nI k &&& 31)) := by
      rw [eh2]; simp (disch := first | omega | ((repeat (first | exact Sha | apply Sh.si | apply Sh.sI | apply Sh.sJ | apply Sh.sl)); done) | decide | exact kF_K ‹_› (by omega) | exact kI_of (shT_B ‹_›).2.2 | exact kI_of (shT_K ‹_›).2.2.1 | exact kI_of (shT_K ‹_›).2.2.2 | exact kFB ‹_› | exact kFM ‹_› | exact kJM ‹_› | exact kFN ‹_› | exact kJN ‹_› | rfl) only [gi_si_ne, gi_sI, gi_sJ, gi_sl, gl_sl_ne, gl_si, gl_sI, gl_sJ, fI_si, fI_sl, fI_sJ, fI_sI_ne, fI_sI_k, fJ_si, fJ_sl, fJ_sI, fJ_sJ_ne, gi_si_eq, gl_sl_eq, fI_sI_eq, fJ_sJ_eq]
    have m5 : gi h2 150 = upd (gi ha 150) t (gi ha 150 t + u) := by
      rw [eh2]; simp (disch := first | omega | ((repeat (first | exact Sha | apply Sh.si | apply Sh.sI | apply Sh.sJ | apply Sh.sl)); done) | decide | exact kF_K ‹_› (by omega) | exact kI_of (shT_B ‹_›).2.2 | exact kI_of (shT_K ‹_›).2.2.1 | exact kI_of (shT_K ‹_›).2.2.2 | exact kFB ‹_› | exact kFM ‹_› | exact kJM ‹_› | exact kFN ‹_› | exact kJN ‹_› | rfl) only [gi_si_ne, gi_sI, gi_sJ, gi_sl, gl_sl_ne, gl_si, gl_sI, gl_sJ, fI_si, fI_sl, fI_sJ, fI_sI_ne, fI_sI_k, fJ_si, fJ_sl, fJ_sI, fJ_sJ_ne, gi_si_eq, gl_sl_eq, fI_sI_eq, fJ_sJ_eq]
    have m6 : gi h2 146 = upd (gi ha 146) k 1 := by
      rw [eh2]; simp (disch := first | omega | ((repeat (first | exact Sha | apply Sh.si | apply Sh.sI | apply Sh.sJ | apply Sh.sl)); done) | decide | exact kF_K ‹_› (by omega) | exact kI_of (shT_B ‹_›).2.2 | exact kI_of (shT_K ‹_›).2.2.1 | exact kI_of (shT_K ‹_›).2.2.2 | exact kFB ‹_› | exact kFM ‹_› | exact kJM ‹_› | exact kFN ‹_› | exact kJN ‹_› | rfl) only [gi_si_ne, gi_sI, gi_sJ, gi_sl, gl_sl_ne, gl_si, gl_sI, gl_sJ, fI_si, fI_sl, fI_sJ, fI_sI_ne, fI_sI_k, fJ_si, fJ_sl, fJ_sI, fJ_sJ_ne, gi_si_eq, gl_sl_eq, fI_sI_eq, fJ_sJ_eq]
    have g1 : gi ha 150 t = 0 := by rw [Gha 150 (by omega) (by omega)]; exact ci
    refine ⟨h2, rfl, Sh2, ?_, ?_, ?_, ?_, ?_, ?_, ?_, ?_, ?_, ?_, ?_⟩
    · intro x q1 q2 q3 q4 q5 q6; rw [Gh2 x q1 q2 q3 q4 q5, Gha x q3 q6]
    · intro x q1; rw [Lh2 x q1, Lha x q1]
    · intro x k'; rw [Fh2, Fha]
    · intro x k'; rw [Jh2, Jha]
    · rw [m1, Gha 153 (by omega) (by omega), Gha 150 (by omega) (by omega), Gha 144 (by omega) (by omega)]
    · rw [m2, Gha 151 (by omega) (by omega)]
    · rw [m4, a2, if_pos ci]
      funext j; simp only [upd]; split <;> simp
    · rw [m5, Gha 150 (by omega) (by omega)]
    · rw [m6, Gha 146 (by omega) (by omega)]
    · rw [m3, a1, Lha 145 (by omega), if_pos ci]
      funext j; simp only [vp_updL]; split <;> simp
    · rw [Gh2 152 (by omega) (by omega) (by omega) (by omega) (by omega), a3, if_pos ci]
  · rw [mpR, if_neg ci]
    have e1 : mp2 h k t u = si (si (si (sl (si (si h 153 (rowF (gi h 153) (8 * t) (fun b => (if gi h 150 t = 0 then 0 else gi h 153 (8 * t + b)) + gi h 144 (8 * k + b)) 8)) 151 (upd (gi h 151) t 0)) 154 (vp_updL (gl h 154) t (gl h 154 t ||| gl h 145 k))) 155 (upd (gi h 155) t (gi h 155 t ||| 1 <<< (nI k &&& 31)))) 150 (upd (gi h 150) t (gi h 150 t + u))) 146 (upd (gi h 146) k 1) := by
      unfold mp2; simp (disch := omega) only [gi_si_ne, gi_sI, gi_sJ, gi_sl, gl_sl_ne, gl_si, gl_sI, gl_sJ, fI_si, fI_sl, fI_sJ, fI_sI_ne, fI_sI_k, fJ_si, fJ_sl, fJ_sI, fJ_sJ_ne]
    rw [e1]
    obtain ⟨h2, eh2⟩ : ∃ zz : HF, zz = si (si (si (sl (si (si h 153 (rowF (gi h 153) (8 * t) (fun b => (if gi h 150 t = 0 then 0 else gi h 153 (8 * t + b)) + gi h 144 (8 * k + b)) 8)) 151 (upd (gi h 151) t 0)) 154 (vp_updL (gl h 154) t (gl h 154 t ||| gl h 145 k))) 155 (upd (gi h 155) t (gi h 155 t ||| 1 <<< (nI k &&& 31)))) 150 (upd (gi h 150) t (gi h 150 t + u))) 146 (upd (gi h 146) k 1) := ⟨_, rfl⟩
    have Sh2 : Sh h2 := by rw [eh2]; (repeat (first | exact hS | apply Sh.si | apply Sh.sI | apply Sh.sJ | apply Sh.sl))
    have Gh2 : ∀ x, x ≠ 153 → x ≠ 151 → x ≠ 155 → x ≠ 150 → x ≠ 146 → gi h2 x = gi h x := by
      intro x q0 q1 q2 q3 q4; rw [eh2]; (try simp (disch := first | assumption | omega) only [gi_si_ne, gi_sI, gi_sJ, gi_sl, gl_sl_ne, gl_si, gl_sI, gl_sJ, fI_si, fI_sl, fI_sJ, fI_sI_ne, fI_sI_k, fJ_si, fJ_sl, fJ_sI, fJ_sJ_ne])
    have Lh2 : ∀ x, x ≠ 154 → gl h2 x = gl h x := by
      intro x q0; rw [eh2]; (try simp (disch := first | assumption | omega) only [gi_si_ne, gi_sI, gi_sJ, gi_sl, gl_sl_ne, gl_si, gl_sI, gl_sJ, fI_si, fI_sl, fI_sJ, fI_sI_ne, fI_sI_k, fJ_si, fJ_sl, fJ_sI, fJ_sJ_ne])
    have Fh2 : ∀ x kk, fI h2 x kk = fI h x kk := by
      intro x kk ; rw [eh2]; first | rfl | (simp (disch := first | assumption | omega) only [fI_si, fI_sl, fI_sJ, fI_sI_o])
    have Jh2 : ∀ x kk, fJ h2 x kk = fJ h x kk := by
      intro x kk ; rw [eh2]; first | rfl | (simp (disch := first | assumption | omega) only [fJ_si, fJ_sl, fJ_sI, fJ_sJ_o])
    rw [← eh2]
    have m1 : gi h2 153 = rowF (gi h 153) (8 * t) (fun b => (if gi h 150 t = 0 then 0 else gi h 153 (8 * t + b)) + gi h 144 (8 * k + b)) 8 := by
      rw [eh2]; simp (disch := first | omega | ((repeat (first | exact hS | apply Sh.si | apply Sh.sI | apply Sh.sJ | apply Sh.sl)); done) | decide | exact kF_K ‹_› (by omega) | exact kI_of (shT_B ‹_›).2.2 | exact kI_of (shT_K ‹_›).2.2.1 | exact kI_of (shT_K ‹_›).2.2.2 | exact kFB ‹_› | exact kFM ‹_› | exact kJM ‹_› | exact kFN ‹_› | exact kJN ‹_› | rfl) only [gi_si_ne, gi_sI, gi_sJ, gi_sl, gl_sl_ne, gl_si, gl_sI, gl_sJ, fI_si, fI_sl, fI_sJ, fI_sI_ne, fI_sI_k, fJ_si, fJ_sl, fJ_sI, fJ_sJ_ne, gi_si_eq, gl_sl_eq, fI_sI_eq, fJ_sJ_eq]
    have m2 : gi h2 151 = upd (gi h 151) t 0 := by
      rw [eh2]; simp (disch := first | omega | ((repeat (first | exact hS | apply Sh.si | apply Sh.sI | apply Sh.sJ | apply Sh.sl)); done) | decide | exact kF_K ‹_› (by omega) | exact kI_of (shT_B ‹_›).2.2 | exact kI_of (shT_K ‹_›).2.2.1 | exact kI_of (shT_K ‹_›).2.2.2 | exact kFB ‹_› | exact kFM ‹_› | exact kJM ‹_› | exact kFN ‹_› | exact kJN ‹_› | rfl) only [gi_si_ne, gi_sI, gi_sJ, gi_sl, gl_sl_ne, gl_si, gl_sI, gl_sJ, fI_si, fI_sl, fI_sJ, fI_sI_ne, fI_sI_k, fJ_si, fJ_sl, fJ_sI, fJ_sJ_ne, gi_si_eq, gl_sl_eq, fI_sI_eq, fJ_sJ_eq]
    have m3 : gl h2 154 = vp_updL (gl h 154) t (gl h 154 t ||| gl h 145 k) := by
      rw [eh2]; simp (disch := first | omega | ((repeat (first | exact hS | apply Sh.si | apply Sh.sI | apply Sh.sJ | apply Sh.sl)); done) | decide | exact kF_K ‹_› (by omega) | exact kI_of (shT_B ‹_›).2.2 | exact kI_of (shT_K ‹_›).2.2.1 | exact kI_of (shT_K ‹_›).2.2.2 | exact kFB ‹_› | exact kFM ‹_› | exact kJM ‹_› | exact kFN ‹_› | exact kJN ‹_› | rfl) only [gi_si_ne, gi_sI, gi_sJ, gi_sl, gl_sl_ne, gl_si, gl_sI, gl_sJ, fI_si, fI_sl, fI_sJ, fI_sI_ne, fI_sI_k, fJ_si, fJ_sl, fJ_sI, fJ_sJ_ne, gi_si_eq, gl_sl_eq, fI_sI_eq, fJ_sJ_eq]
    have m4 : gi h2 155 = upd (gi h 155) t (gi h 155 t ||| 1 <<< (nI k &&& 31)) := by
      rw [eh2]; simp (disch := first | omega | ((repeat (first | exact hS | apply Sh.si | apply Sh.sI | apply Sh.sJ | apply Sh.sl)); done) | decide | exact kF_K ‹_› (by omega) | exact kI_of (shT_B ‹_›).2.2 | exact kI_of (shT_K ‹_›).2.2.1 | exact kI_of (shT_K ‹_›).2.2.2 | exact kFB ‹_› | exact kFM ‹_› | exact kJM ‹_› | exact kFN ‹_› | exact kJN ‹_› | rfl) only [gi_si_ne, gi_sI, gi_sJ, gi_sl, gl_sl_ne, gl_si, gl_sI, gl_sJ, fI_si, fI_sl, fI_sJ, fI_sI_ne, fI_sI_k, fJ_si, fJ_sl, fJ_sI, fJ_sJ_ne, gi_si_eq, gl_sl_eq, fI_sI_eq, fJ_sJ_eq]
    have m5 : gi h2 150 = upd (gi h 150) t (gi h 150 t + u) := by
      rw [eh2]; simp (disch := first | omega | ((repeat (first | exact hS | apply Sh.si | apply Sh.sI | apply Sh.sJ | apply Sh.sl)); done) | decide | exact kF_K ‹_› (by omega) | exact kI_of (shT_B ‹_›).2.2 | exact kI_of (shT_K ‹_›).2.2.1 | exact kI_of (shT_K ‹_›).2.2.2 | exact kFB ‹_› | exact kFM ‹_› | exact kJM ‹_› | exact kFN ‹_› | exact kJN ‹_› | rfl) only [gi_si_ne, gi_sI, gi_sJ, gi_sl, gl_sl_ne, gl_si, gl_sI, gl_sJ, fI_si, fI_sl, fI_sJ, fI_sI_ne, fI_sI_k, fJ_si, fJ_sl, fJ_sI, fJ_sJ_ne, gi_si_eq, gl_sl_eq, fI_sI_eq, fJ_sJ_eq]
    have m6 : gi h2 146 = upd (gi h 146) k 1 := by
      rw [eh2]; simp (disch := first | omega | ((repeat (first | exact hS | apply Sh.si | apply Sh.sI | apply Sh.sJ | apply Sh.sl)); done) | decide | exact kF_K ‹_› (by omega) | exact kI_of (shT_B ‹_›).2.2 | exact kI_of (shT_K ‹_›).2.2.1 | exact kI_of (shT_K ‹_›).2.2.2 | exact kFB ‹_› | exact kFM ‹_› | exact kJM ‹_› | exact kFN ‹_› | exact kJN ‹_› | rfl) only [gi_si_ne, gi_sI, gi_sJ, gi_sl, gl_sl_ne, gl_si, gl_sI, gl_sJ, fI_si, fI_sl, fI_sJ, fI_sI_ne, fI_sI_k, fJ_si, fJ_sl, fJ_sI, fJ_sJ_ne, gi_si_eq, gl_sl_eq, fI_sI_eq, fJ_sJ_eq]
    refine ⟨h2, rfl, Sh2, ?_, Lh2, Fh2, Jh2, ?_, m2, ?_, m5, m6, ?_, ?_⟩
    · intro x q1 q2 q3 q4 q5 q6; exact Gh2 x q1 q2 q3 q4 q5
    · exact m1
    · rw [m4, if_neg ci]
    · rw [m3, if_neg ci]
    · rw [Gh2 152 (by omega) (by omega) (by omega) (by omega) (by omega), if_neg ci]
      funext j; simp only [upd]; split
      · rename_i e; rw [e]
      · rfl
theorem pour_ok {h : HF} {nb nl nr nt nd nj np : Nat} (r : Rel h nb nl nr nt nd nj np) {k t : Nat} (hk : k < 24) (ht : t < 5) (hle : (gi h 150 t).toInt + (usum (gi h 144) k 8).toInt ≤ (gi h 149 t).toInt) : Sh (pourH h k t) ∧ (∀ k', fI (pourH h k t) 132 k' = fI h 132 k') ∧ (∀ x, 132 ≤ x → gi (pourH h k t) x = gi h x) ∧ (∀ x, gl (pourH h k t) x = gl h x) ∧ fI (pourH h k t) (112 + 4 * t) 2 = gi h 150 t + usum (gi h 144) k 8 ∧ gi (mpR (pourH h k t) k t (usum (gi h 144) k 8)) 150 t = gi h 150 t + usum (gi h 144) k 8 ∧ Rel (mpR (pourH h k t) k t (usum (gi h 144) k 8)) nb nl nr nt nd nj np := by
  have K := r.f.K t ht
  have D := r.d.K k hk
  have hu0 : 0 ≤ (usum (gi h 144) k 8).toInt := by have q := D.bd 0 (by omega); omega
  obtain ⟨h1, e1, S1, G1, L1, F1, J1, c_am, c_lo, c_ins, c_bat, c_tap, c_stn, c_po⟩ := pour_c r hk ht
  rw [e1]
  obtain ⟨h2, e2, S2, G2, L2, F2, J2, m_am, m_stn, m_bat, m_ins, m_po, m_lo, m_tap⟩ := pour_m S1 hk ht (usum (gi h 144) k 8)
  rw [e2]
  have su : (gi h 150 t + usum (gi h 144) k 8).toInt = (gi h 150 t).toInt + (usum (gi h 144) k 8).toInt := tI_add (by have := K.h0; omega) (by have := K.hr; have := K.r6; omega) (by omega) (by have := D.ul; omega)
  have hh0 := K.h0
  have n150 := G1 150 (by omega)
  have n155 := G1 155 (by omega)
  have n151 := G1 151 (by omega)
  have n152 := G1 152 (by omega)
  have n153 := G1 153 (by omega)
  have n144 := G1 144 (by omega)
  refine ⟨S1, fun k' => F1 _ _ (by omega) (by omega) (by omega) (by omega) (by omega) (by omega), fun x hx => G1 x (by omega), L1, c_ins, by rw [m_ins, n150]; simp only [upd, if_pos], ?_⟩
  exact Rel.of (S2)
    (Ra.of (by (try simp (disch := omega) only [G2, L2, F2, J2, G1, L1, F1, J1]); exact r.a.c)
    (by (try simp (disch := omega) only [G2, L2, F2, J2, G1, L1, F1, J1]); exact r.a.m)
    (by (try simp (disch := omega) only [G2, L2, F2, J2, G1, L1, F1, J1]); exact r.a.le)
    (by (try simp (disch := omega) only [G2, L2, F2, J2, G1, L1, F1, J1]); exact r.a.A)
    (by (try simp (disch := omega) only [G2, L2, F2, J2, G1, L1, F1, J1]); exact r.a.P))
    (Rb.of (by (try simp (disch := omega) only [G2, L2, F2, J2, G1, L1, F1, J1]); exact r.b.c)
    (by (try simp (disch := omega) only [G2, L2, F2, J2, G1, L1, F1, J1]); exact r.b.m)
    (by (try simp (disch := omega) only [G2, L2, F2, J2, G1, L1, F1, J1]); exact r.b.le)
    (by (try simp (disch := omega) only [G2, L2, F2, J2, G1, L1, F1, J1]); exact r.b.day)
    (by (try simp (disch := omega) only [G2, L2, F2, J2, G1, L1, F1, J1]); exact r.b.B)
    (by (try simp (disch := omega) only [G2, L2, F2, J2, G1, L1, F1, J1]); exact r.b.S)
    (by (try simp (disch := omega) only [G2, L2, F2, J2, G1, L1, F1, J1]); exact r.b.L)
    (by (try simp (disch := omega) only [G2, L2, F2, J2, G1, L1, F1, J1]); exact r.b.P)
    (by (try simp (disch := omega) only [G2, L2, F2, J2, G1, L1, F1, J1]); exact r.b.lb))
    (Rc.of (by (try simp (disch := omega) only [G2, L2, F2, J2, G1, L1, F1, J1]); exact r.c.c)
    (by (try simp (disch := omega) only [G2, L2, F2, J2, G1, L1, F1, J1]); exact r.c.m)
    (by (try simp (disch := omega) only [G2, L2, F2, J2, G1, L1, F1, J1]); exact r.c.le)
    (by (try simp (disch := omega) only [G2, L2, F2, J2, G1, L1, F1, J1]); exact r.c.E)
    (by (try simp (disch := omega) only [G2, L2, F2, J2, G1, L1, F1, J1]); exact r.c.S)
    (by (try simp (disch := omega) only [G2, L2, F2, J2, G1, L1, F1, J1]); exact r.c.T)
    (by (try simp (disch := omega) only [G2, L2, F2, J2, G1, L1, F1, J1]); exact r.c.C)
    (by (try simp (disch := omega) only [G2, L2, F2, J2, G1, L1, F1, J1]); exact r.c.N)
    (by (try simp (disch := omega) only [G2, L2, F2, J2, G1, L1, F1, J1]); exact r.c.ok)
    (by (try simp (disch := omega) only [G2, L2, F2, J2, G1, L1, F1, J1]); exact r.c.tm)
    (by (try simp (disch := omega) only [G2, L2, F2, J2, G1, L1, F1, J1]); exact r.c.tz)
    (by (try simp (disch := omega) only [G2, L2, F2, J2, G1, L1, F1, J1]); exact r.c.cz)
    (by (try simp (disch := omega) only [G2, L2, F2, J2, G1, L1, F1, J1]); exact r.c.nn))
    (Rd.of (by (try simp (disch := omega) only [G2, L2, F2, J2, G1, L1, F1, J1]); exact r.d.c)
    (by (try simp (disch := omega) only [G2, L2, F2, J2, G1, L1, F1, J1]); exact r.d.m)
    (by (try simp (disch := omega) only [G2, L2, F2, J2, G1, L1, F1, J1]); exact r.d.le)
    (by
    intro k' hk'
    by_cases e : k' = k
    · subst e
      exact RdK.of (by (try simp (disch := omega) only [G2, L2, F2, J2, G1, L1, F1, J1]); exact D.am)
        (by (try simp (disch := omega) only [G2, L2, F2, J2, G1, L1, F1, J1]); exact D.bd)
        (by (try simp (disch := omega) only [G2, L2, F2, J2, G1, L1, F1, J1]); exact D.zr)
        (by (try simp (disch := omega) only [G2, L2, F2, J2, G1, L1, F1, J1]); exact D.un)
        (by (try simp (disch := omega) only [G2, L2, F2, J2, G1, L1, F1, J1]); exact D.ul)
        (by (try simp (disch := omega) only [G2, L2, F2, J2, G1, L1, F1, J1]); exact D.lo)
        (by (try simp (disch := omega) only [G2, L2, F2, J2, G1, L1, F1, J1]); exact D.lb)
        (by rw [F2, c_po, m_po]; simp only [upd, if_pos])
    · have D' := r.d.K k' hk'
      exact RdK.of (by (try simp (disch := omega) only [G2, L2, F2, J2, G1, L1, F1, J1]); exact D'.am)
        (by (try simp (disch := omega) only [G2, L2, F2, J2, G1, L1, F1, J1]); exact D'.bd)
        (by (try simp (disch := omega) only [G2, L2, F2, J2, G1, L1, F1, J1]); exact D'.zr)
        (by (try simp (disch := omega) only [G2, L2, F2, J2, G1, L1, F1, J1]); exact D'.un)
        (by (try simp (disch := omega) only [G2, L2, F2, J2, G1, L1, F1, J1]); exact D'.ul)
        (by (try simp (disch := omega) only [G2, L2, F2, J2, G1, L1, F1, J1]); exact D'.lo)
        (by (try simp (disch := omega) only [G2, L2, F2, J2, G1, L1, F1, J1]); exact D'.lb)
        (by rw [F2, F1 _ _ (by omega) (by omega) (by omega) (by omega) (by omega) (by omega), m_po, G1 146 (by omega)]; simp only [upd, if_neg e]; exact D'.po)))
    (Re.of (by (try simp (disch := omega) only [G2, L2, F2, J2, G1, L1, F1, J1]); exact r.e.fd)
    (by (try simp (disch := omega) only [G2, L2, F2, J2, G1, L1, F1, J1]); exact r.e.be)
    (by (try simp (disch := omega) only [G2, L2, F2, J2, G1, L1, F1, J1]); exact r.e.bb)
    (by (try simp (disch := omega) only [G2, L2, F2, J2, G1, L1, F1, J1]); exact r.e.z))
    (Rf.of (by (try simp (disch := omega) only [G2, L2, F2, J2, G1, L1, F1, J1]); exact r.f.lim)
    (by (try simp (disch := omega) only [G2, L2, F2, J2, G1, L1, F1, J1]); exact r.f.l0)
    (by (try simp (disch := omega) only [G2, L2, F2, J2, G1, L1, F1, J1]); exact r.f.cl)
    (by (try simp (disch := omega) only [G2, L2, F2, J2, G1, L1, F1, J1]); exact r.f.no)
    (by
    intro t' ht'
    by_cases e : t' = t
    · subst e
      have v150 : gi h2 150 t' = gi h 150 t' + usum (gi h 144) k 8 := by rw [m_ins, n150]; simp only [upd, if_pos]
      have v155 : gi h2 155 t' = (if gi h 150 t' = 0 then 0 else gi h 155 t') ||| 1 <<< (nI k &&& 31) := by rw [m_bat, n150, n155]; simp only [upd, if_pos]
      have v154 : gl h2 154 t' = (if gi h 150 t' = 0 then 0 else gl h 154 t') ||| gl h 145 k := by rw [m_lo, n150, L1, L1]; simp only [vp_updL, if_pos]
      have v151 : gi h2 151 t' = 0 := by rw [m_stn]; simp only [upd, if_pos]
      have v152 : gi h2 152 t' = if gi h 150 t' = 0 then 0 else gi h 152 t' := by rw [m_tap, n150, n152]; simp only [upd, if_pos]
      have v153 : ∀ b, b < 8 → gi h2 153 (8 * t' + b) = (if gi h 150 t' = 0 then 0 else gi h 153 (8 * t' + b)) + gi h 144 (8 * k + b) := by
        intro b hb
        rw [m_am, n150, n153, n144, rowF, if_pos (by omega), show 8 * t' + b - 8 * t' = b by omega]
      exact RfK.of (by rw [F2, c_ins, v150])
        (by (try simp (disch := omega) only [G2, L2, F2, J2, G1, L1, F1, J1]); exact K.siz)
        (by rw [F2, c_bat, v155])
        (by rw [F2, c_tap, v152])
        (by rw [F2, c_stn, v151])
        (by (try simp (disch := omega) only [G2, L2, F2, J2, G1, L1, F1, J1]); exact K.sta)
        (fun b hb => by rw [G2 (114 + 4 * t') (by omega) (by omega) (by omega) (by omega) (by omega) (by omega), c_am b hb, v153 b hb])
        (fun b hb hn => by rw [v153 b hb, K.zr b hb hn, D.zr b hb hn, ite_self, Int32.add_zero])
        (by rw [J2, c_lo, v154])
        (by rw [v150, su]; omega)
        (by rw [v150, su, G2 149 (by omega) (by omega) (by omega) (by omega) (by omega) (by omega), G1 149 (by omega)]; exact hle)
        (by (try simp (disch := omega) only [G2, L2, F2, J2, G1, L1, F1, J1]); exact K.r6)
        (fun _ => v151)
        (by
          rw [v154]
          refine or40 ?_ D.lb
          split
          · exact ⟨0, by omega, rfl⟩
          · exact K.lb)
        (by
          rw [v155]
          refine or24 hk ?_
          split
          · exact ⟨0, by omega, rfl⟩
          · exact K.bb)
    · have K' := r.f.K t' ht'
      have v150 : gi h2 150 t' = gi h 150 t' := by rw [m_ins, n150]; simp only [upd, if_neg e]
      have v155 : gi h2 155 t' = gi h 155 t' := by rw [m_bat, n155]; simp only [upd, if_neg e]
      have v154 : gl h2 154 t' = gl h 154 t' := by rw [m_lo, L1]; simp only [vp_updL, if_neg e]
      have v151 : gi h2 151 t' = gi h 151 t' := by rw [m_stn, n151]; simp only [upd, if_neg e]
      have v152 : gi h2 152 t' = gi h 152 t' := by rw [m_tap, n152]; simp only [upd, if_neg e]
      have v153 : ∀ b, b < 8 → gi h2 153 (8 * t' + b) = gi h 153 (8 * t' + b) := by
        intro b hb
        rw [m_am, n153, rowF, if_neg (by omega)]
      exact RfK.of (by (try simp (disch := omega) only [v150, v155, v154, v151, v152, G2, L2, F2, J2, G1, L1, F1, J1]); exact K'.ins)
        (by (try simp (disch := omega) only [v150, v155, v154, v151, v152, G2, L2, F2, J2, G1, L1, F1, J1]); exact K'.siz)
        (by (try simp (disch := omega) only [v150, v155, v154, v151, v152, G2, L2, F2, J2, G1, L1, F1, J1]); exact K'.bat)
        (by (try simp (disch := omega) only [v150, v155, v154, v151, v152, G2, L2, F2, J2, G1, L1, F1, J1]); exact K'.tap)
        (by (try simp (disch := omega) only [v150, v155, v154, v151, v152, G2, L2, F2, J2, G1, L1, F1, J1]); exact K'.stn)
        (by (try simp (disch := omega) only [v150, v155, v154, v151, v152, G2, L2, F2, J2, G1, L1, F1, J1]); exact K'.sta)
        (fun b hb => by rw [G2 (114 + 4 * t') (by omega) (by omega) (by omega) (by omega) (by omega) (by omega), G1 _ (by omega), v153 b hb]; exact K'.am b hb)
        (fun b hb hn => by rw [v153 b hb]; exact K'.zr b hb hn)
        (by (try simp (disch := omega) only [v150, v155, v154, v151, v152, G2, L2, F2, J2, G1, L1, F1, J1]); exact K'.lo)
        (by (try simp (disch := omega) only [v150, v155, v154, v151, v152, G2, L2, F2, J2, G1, L1, F1, J1]); exact K'.h0)
        (by (try simp (disch := omega) only [v150, v155, v154, v151, v152, G2, L2, F2, J2, G1, L1, F1, J1]); exact K'.hr)
        (by (try simp (disch := omega) only [v150, v155, v154, v151, v152, G2, L2, F2, J2, G1, L1, F1, J1]); exact K'.r6)
        (by (try simp (disch := omega) only [v150, v155, v154, v151, v152, G2, L2, F2, J2, G1, L1, F1, J1]); exact K'.hs)
        (by (try simp (disch := omega) only [v150, v155, v154, v151, v152, G2, L2, F2, J2, G1, L1, F1, J1]); exact K'.lb)
        (by (try simp (disch := omega) only [v150, v155, v154, v151, v152, G2, L2, F2, J2, G1, L1, F1, J1]); exact K'.bb)))
    (Rg.of (by (try simp (disch := omega) only [G2, L2, F2, J2, G1, L1, F1, J1]); exact r.g.c)
    (by (try simp (disch := omega) only [G2, L2, F2, J2, G1, L1, F1, J1]); exact r.g.m)
    (by (try simp (disch := omega) only [G2, L2, F2, J2, G1, L1, F1, J1]); exact r.g.le)
    (by (try simp (disch := omega) only [G2, L2, F2, J2, G1, L1, F1, J1]); exact r.g.u)
    (by (try simp (disch := omega) only [G2, L2, F2, J2, G1, L1, F1, J1]); exact r.g.t)
    (by (try simp (disch := omega) only [G2, L2, F2, J2, G1, L1, F1, J1]); exact r.g.d)
    (by (try simp (disch := omega) only [G2, L2, F2, J2, G1, L1, F1, J1]); exact r.g.b)
    (by (try simp (disch := omega) only [G2, L2, F2, J2, G1, L1, F1, J1]); exact r.g.l)
    (by (try simp (disch := omega) only [G2, L2, F2, J2, G1, L1, F1, J1]); exact r.g.bb)
    (by (try simp (disch := omega) only [G2, L2, F2, J2, G1, L1, F1, J1]); exact r.g.lb))
    (Rh.of (by (try simp (disch := omega) only [G2, L2, F2, J2, G1, L1, F1, J1]); exact r.j.c)
    (by (try simp (disch := omega) only [G2, L2, F2, J2, G1, L1, F1, J1]); exact r.j.m)
    (by (try simp (disch := omega) only [G2, L2, F2, J2, G1, L1, F1, J1]); exact r.j.le)
    (by (try simp (disch := omega) only [G2, L2, F2, J2, G1, L1, F1, J1]); exact r.j.pc)
    (by (try simp (disch := omega) only [G2, L2, F2, J2, G1, L1, F1, J1]); exact r.j.pm)
    (by (try simp (disch := omega) only [G2, L2, F2, J2, G1, L1, F1, J1]); exact r.j.pl)
    (by (try simp (disch := omega) only [G2, L2, F2, J2, G1, L1, F1, J1]); exact r.j.hu)
    (by (try simp (disch := omega) only [G2, L2, F2, J2, G1, L1, F1, J1]); exact r.j.ti)
    (by (try simp (disch := omega) only [G2, L2, F2, J2, G1, L1, F1, J1]); exact r.j.du)
    (by (try simp (disch := omega) only [G2, L2, F2, J2, G1, L1, F1, J1]); exact r.j.pr)
    (by (try simp (disch := omega) only [G2, L2, F2, J2, G1, L1, F1, J1]); exact r.j.ch)
    (by (try simp (disch := omega) only [G2, L2, F2, J2, G1, L1, F1, J1]); exact r.j.od)
    (by (try simp (disch := omega) only [G2, L2, F2, J2, G1, L1, F1, J1]); exact r.j.ok)
    (by (try simp (disch := omega) only [G2, L2, F2, J2, G1, L1, F1, J1]); exact r.j.tb)
    (by (try simp (disch := omega) only [G2, L2, F2, J2, G1, L1, F1, J1]); exact r.j.db))
theorem J_pour {h : HF} {nb nl nr nt nd nj np : Nat} (r : Rel h nb nl nr nt nd nj np) (a b : Int32) : JJ mX9_pour mX10_pour [.ref 1, .int a, .int b] [.ref 132, .int a, .int b] h := by
  have c := c_X9_pour r.S a b nt r.d.c r.d.le nb r.a.c r.a.le
  have m0 := c_X10_pour r.S a b nt r.d.m r.d.le
  by_cases g0 : ltB a (nI nt) = true
  · by_cases g1 : inB b 0 4 = true
    · have hk : a.toNatClampNeg < 24 := by have := ltB_cl (by have := r.d.le; omega) g0; have := r.d.le; omega
      have ht := inB_cl (n := 4) (by decide) g1
      have K := r.f.K _ ht
      have D := r.d.K _ hk
      simp only [uPour, vPour, if_pos g0, if_pos g1, uPr2, vPr2, adm_mpX r hk ht, K.ins, K.siz, D.po, D.un] at c
      by_cases g2 : gi h 146 a.toNatClampNeg = 0
      · by_cases g3 : usum (gi h 144) a.toNatClampNeg 8 = 0
        · simp only [if_pos g2, if_pos g3] at c
          simp only [umPo, vmPo, if_pos g0, if_pos g1, umP2, vmP2, if_pos g2, if_pos g3] at m0
          exact JJ_upd c m0 rfl r
        · by_cases g4 : mpX h a.toNatClampNeg b.toNatClampNeg = true
          · by_cases g5 : gi h 150 b.toNatClampNeg + usum (gi h 144) a.toNatClampNeg 8 ≤ gi h 149 b.toNatClampNeg
            · simp only [if_pos g2, if_neg g3, if_pos g4, if_pos g5] at c
              have hu0 : 0 ≤ (usum (gi h 144) a.toNatClampNeg 8).toInt := by have q := D.bd 0 (by omega); omega
              have hle : (gi h 150 b.toNatClampNeg).toInt + (usum (gi h 144) a.toNatClampNeg 8).toInt ≤ (gi h 149 b.toNatClampNeg).toInt := by
                rw [← tI_add (by have := K.h0; omega) (by have := K.hr; have := K.r6; omega) (by omega) (by have := D.ul; omega)]
                exact Int32.le_iff_toInt_le.mp g5
              obtain ⟨S1, F1, G1, L1, v1, v2, r2⟩ := pour_ok r hk ht hle
              have m := c_X10_pour S1 a b nt (by rw [F1]; exact r.d.m) r.d.le
              have x4 : mpX (pourH h a.toNatClampNeg b.toNatClampNeg) a.toNatClampNeg b.toNatClampNeg = mpX h a.toNatClampNeg b.toNatClampNeg := by
                simp (disch := omega) only [mpX, mpA, mpD, mpO, G1, F1]
              simp (disch := omega) only [umPo, vmPo, if_pos g0, if_pos g1, umP2, vmP2, G1, x4, if_pos g2, if_neg g3, if_pos g4, if_pos g5] at m
              exact JJ_upd c m (by rw [v1, v2]) r2
            · simp only [if_pos g2, if_neg g3, if_pos g4, if_neg g5] at c
              simp only [umPo, vmPo, if_pos g0, if_pos g1, umP2, vmP2, if_pos g2, if_neg g3, if_pos g4, if_neg g5] at m0
              exact JJ_upd c m0 rfl r
          · simp only [if_pos g2, if_neg g3, if_neg g4] at c
            simp only [umPo, vmPo, if_pos g0, if_pos g1, umP2, vmP2, if_pos g2, if_neg g3, if_neg g4] at m0
            exact JJ_upd c m0 rfl r
      · simp only [if_neg g2] at c
        simp only [umPo, vmPo, if_pos g0, if_pos g1, umP2, vmP2, if_neg g2] at m0
        exact JJ_upd c m0 rfl r
    · simp only [uPour, vPour, if_pos g0, if_neg g1] at c
      simp only [umPo, vmPo, if_pos g0, if_neg g1] at m0
      exact JJ_upd c m0 rfl r
  · simp only [uPour, vPour, if_neg g0] at c
    simp only [umPo, vmPo, if_neg g0] at m0
    exact JJ_upd c m0 rfl r
