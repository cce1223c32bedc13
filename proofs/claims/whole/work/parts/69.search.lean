/-- the class's search: its trial is f, its sums are those of f -/
def CA (h0 g : HF) (F A B cap : Nat → Int32) (a nb : Nat) (x y z most : Int32) (f : Nat → Int32) : Prop := Sh g ∧ (∀ j, j ≠ 18 → j ≠ 21 → gi g j = gi h0 j) ∧ (∀ j, j ≠ 22 → j ≠ 23 → gl g j = gl h0 j) ∧ (∀ j i, ¬ (j = 17 ∧ i = 2) → ¬ (j = 17 ∧ i = 3) → ¬ (j = 17 ∧ i = 7) → fI g j i = fI h0 j i) ∧ (∀ j i, fJ g j i = fJ h0 j i) ∧ (∀ j, j < 8 → gi g 21 j = f j) ∧ fI g 17 7 = fsum f nb ∧ (∀ d, d < 3 → gl g 22 d = ysum F f A a d 8 ∧ gl g 23 d = ysum F f B a d 8) ∧ V8 nb f ∧ (∀ j, nb ≤ j → j < 8 → f j = 0)
/-- what it stands on -/
def CB (h0 : HF) (F A B cap : Nat → Int32) (a nb : Nat) (x y z most : Int32) : Prop := nb ≤ 8 ∧ most ≤ 8 ∧ (∀ b d, b < 8 → d < 3 → gi h0 3 (b * 3 + d) = A (8 * d + b) ∧ gi h0 4 (b * 3 + d) = B (8 * d + b)) ∧ (∀ j, j < 24 → (0 ≤ (A j).toInt ∧ (A j).toInt ≤ 1000) ∧ (0 ≤ (B j).toInt ∧ (B j).toInt ≤ 1000)) ∧ (∀ b, b < 8 → 0 ≤ (F (a + b)).toInt ∧ (F (a + b)).toInt ≤ 20000) ∧ (∀ b, b < nb → gi h0 20 b = cap b) ∧ fI h0 17 8 = most ∧ (gi h0 19 0 = x ∧ gi h0 19 1 = y ∧ gi h0 19 2 = z) ∧ ((0 ≤ x.toInt ∧ x.toInt ≤ 1000000) ∧ (0 ≤ y.toInt ∧ y.toInt ≤ 1000000) ∧ (0 ≤ z.toInt ∧ z.toInt ≤ 1000000))
/-- the best so far -/
def CC (g : HF) (b m : Int32) (D : Nat → Int32) : Prop := b = fI g 17 2 ∧ m = fI g 17 3 ∧ (∀ j, j < 8 → gi g 18 j = D j) ∧ (0 ≤ b.toInt ∧ b.toInt ≤ 1000000) ∧ ∀ j, j < 8 → 0 ≤ (D j).toInt ∧ (D j).toInt ≤ 8
def C0 (g : HF) (b : Int32) : Prop := b = -1 ∧ fI g 17 2 = 1000001
theorem fx_rng {F f : Nat → Int32} {a nb : Nat} (hnb : nb ≤ 8) (hF : ∀ b, b < 8 → 0 ≤ (F (a + b)).toInt ∧ (F (a + b)).toInt ≤ 20000) (hV : V8 nb f) (hz : ∀ j, nb ≤ j → j < 8 → f j = 0) : ∀ b, b < 8 → (0 ≤ (f b).toInt ∧ (f b).toInt ≤ 8) ∧ (F (a + b) + f b).toInt = (F (a + b)).toInt + (f b).toInt ∧ 0 ≤ (F (a + b) + f b).toInt ∧ (F (a + b) + f b).toInt ≤ 100000 := by
  intro b hb
  have q := hF b hb
  have q2 : 0 ≤ (f b).toInt ∧ (f b).toInt ≤ 8 := by
    by_cases e : b < nb
    · exact V8_le hV e
    · rw [hz b (by omega) hb]; exact ⟨by decide, by decide⟩
  have e := tI_add (x := F (a + b)) (y := f b) (by omega) (by omega) (by omega) (by omega)
  exact ⟨q2, e, by omega, by omega⟩
theorem ysum_upd {F f A : Nat → Int32} {a d b : Nat} {n : Int32} (hd : d < 3) (hF : 0 ≤ (F (a + b)).toInt ∧ (F (a + b)).toInt ≤ 20000) (hf : 0 ≤ (f b).toInt ∧ (f b).toInt ≤ 8) (hn : -8 ≤ n.toInt ∧ n.toInt ≤ 8) (hA : 0 ≤ (A (8 * d + b)).toInt ∧ (A (8 * d + b)).toInt ≤ 1000) : ∀ m : Nat, ysum F (upd f b (f b + n)) A a d m = if b < m then ysum F f A a d m + (n * A (8 * d + b)).toInt64 else ysum F f A a d m
  | 0 => by rw [ysum, if_neg (by omega), ysum]
  | m + 1 => by
    rw [ysum, ysum_upd hd hF hf hn hA m, ysum]
    by_cases e : m = b
    · subst e
      rw [if_neg (by omega), if_pos (by omega)]
      simp only [upd, if_true]
      rw [Int64.add_assoc]
      congr 1
      have e1 : (f m + n).toInt = (f m).toInt + n.toInt := tI_add (by omega) (by omega) (by omega) (by omega)
      have e2 : (F (a + m) + (f m + n)).toInt = (F (a + m)).toInt + (f m).toInt + n.toInt := by
        rw [tI_add (by omega) (by omega) (by omega) (by omega), e1]; omega
      have e3 : (F (a + m) + f m).toInt = (F (a + m)).toInt + (f m).toInt := tI_add (by omega) (by omega) (by omega) (by omega)
      generalize hX : (F (a + m)).toInt + (f m).toInt = X at *
      generalize hY : (A (8 * d + m)).toInt = Y at *
      generalize hN : n.toInt = N at *
      have hX2 : 0 ≤ X ∧ X ≤ 20008 := by omega
      have b1 : 0 ≤ X * Y ∧ X * Y ≤ 20008 * 1000 := ⟨Int.mul_nonneg hX2.1 hA.1, Int.mul_le_mul hX2.2 hA.2 hA.1 (by omega)⟩
      have b2 : -8000 ≤ N * Y ∧ N * Y ≤ 8000 := by
        constructor
        · have : -8 * Y ≤ N * Y := Int.mul_le_mul_of_nonneg_right hn.1 hA.1
          omega
        · have : N * Y ≤ 8 * Y := Int.mul_le_mul_of_nonneg_right hn.2 hA.1
          omega
      have e4 : (n * A (8 * d + m)).toInt = N * Y := by
        rw [tI_mul (by rw [hN, hY]; omega) (by rw [hN, hY]; omega), hN, hY]
      have e5 : ((F (a + m) + f m).toInt64 * (A (8 * d + m)).toInt64).toInt = X * Y := by
        rw [tI64_mul] <;> rw [Int32.toInt_toInt64, Int32.toInt_toInt64, e3, hY] <;> omega
      apply Int64.toInt_inj.mp
      rw [tI64_add (by rw [e5, Int32.toInt_toInt64, e4]; omega) (by rw [e5, Int32.toInt_toInt64, e4]; omega), e5, Int32.toInt_toInt64, e4]
      have b3 : (X + N) * Y = X * Y + N * Y := Int.add_mul _ _ _
      rw [tI64_mul] <;> rw [Int32.toInt_toInt64, Int32.toInt_toInt64, e2, hY, b3] <;> omega
    · simp only [upd, if_neg e]
      by_cases q : b < m
      · rw [if_pos q, if_pos (by omega)]; ac_rfl
      · rw [if_neg q, if_neg (by omega)]
theorem updL_at (f : Nat → Int64) (d j : Nat) (v : Int64) : vp_updL f d v j = if j = d then v else f j := rfl
theorem ch_all {g : HF} (hS : Sh g) (b : Nat) (n : Int32) : Sh (chF g b n) ∧ (∀ x, x ≠ 21 → gi (chF g b n) x = gi g x) ∧ (∀ x, x ≠ 22 → x ≠ 23 → gl (chF g b n) x = gl g x) ∧ (∀ x j, ¬ (x = 17 ∧ j = 7) → fI (chF g b n) x j = fI g x j) ∧ (∀ x j, fJ (chF g b n) x j = fJ g x j) ∧ gi (chF g b n) 21 = upd (gi g 21) b (gi g 21 b + n) ∧ fI (chF g b n) 17 7 = fI g 17 7 + n ∧ (∀ d, d < 3 → gl (chF g b n) 22 d = gl g 22 d + (n * gi g 3 (b * 3 + d)).toInt64 ∧ gl (chF g b n) 23 d = gl g 23 d + (n * gi g 4 (b * 3 + d)).toInt64) := by
  have e0 : chF g b n = sl (sl (sl (sl (sl (sl (sI (si g 21 (upd (gi g 21) b (gi g 21 b + n))) 17 7 (fI g 17 7 + n)) 22 (vp_updL (gl g 22) 0 (gl g 22 0 + (n * gi g 3 (b * 3 + 0)).toInt64))) 23 (vp_updL (gl g 23) 0 (gl g 23 0 + (n * gi g 4 (b * 3 + 0)).toInt64))) 22 (vp_updL (vp_updL (gl g 22) 0 (gl g 22 0 + (n * gi g 3 (b * 3 + 0)).toInt64)) 1 (gl g 22 1 + (n * gi g 3 (b * 3 + 1)).toInt64))) 23 (vp_updL (vp_updL (gl g 23) 0 (gl g 23 0 + (n * gi g 4 (b * 3 + 0)).toInt64)) 1 (gl g 23 1 + (n * gi g 4 (b * 3 + 1)).toInt64))) 22 (vp_updL (vp_updL (vp_updL (gl g 22) 0 (gl g 22 0 + (n * gi g 3 (b * 3 + 0)).toInt64)) 1 (gl g 22 1 + (n * gi g 3 (b * 3 + 1)).toInt64)) 2 (gl g 22 2 + (n * gi g 3 (b * 3 + 2)).toInt64))) 23 (vp_updL (vp_updL (vp_updL (gl g 23) 0 (gl g 23 0 + (n * gi g 4 (b * 3 + 0)).toInt64)) 1 (gl g 23 1 + (n * gi g 4 (b * 3 + 1)).toInt64)) 2 (gl g 23 2 + (n * gi g 4 (b * 3 + 2)).toInt64)) := by
    unfold chF chS ch0
    simp (disch := first | omega | ((repeat (first | exact hS | apply Sh.si | apply Sh.sI | apply Sh.sJ | apply Sh.sl)); done) | decide | exact kF_K ‹_› (by omega) | exact kI_of (shT_B ‹_›).2.2 | exact kI_of (shT_K ‹_›).2.2.1 | exact kI_of (shT_K ‹_›).2.2.2 | exact kFB ‹_› | exact kFM ‹_› | exact kJM ‹_› | exact kFN ‹_› | exact kJN ‹_› | rfl) only [gi_si_ne, gi_sI, gi_sJ, gi_sl, gl_sl_ne, gl_si, gl_sI, gl_sJ, fI_si, fI_sl, fI_sJ, fI_sI_ne, fI_sI_k, fJ_si, fJ_sl, fJ_sI, fJ_sJ_ne, gi_si_eq, gl_sl_eq, fI_sI_eq, fJ_sJ_eq, updL_at]
    simp
  rw [e0]
  obtain ⟨q, eq⟩ : ∃ zz : HF, zz = sl (sl (sl (sl (sl (sl (sI (si g 21 (upd (gi g 21) b (gi g 21 b + n))) 17 7 (fI g 17 7 + n)) 22 (vp_updL (gl g 22) 0 (gl g 22 0 + (n * gi g 3 (b * 3 + 0)).toInt64))) 23 (vp_updL (gl g 23) 0 (gl g 23 0 + (n * gi g 4 (b * 3 + 0)).toInt64))) 22 (vp_updL (vp_updL (gl g 22) 0 (gl g 22 0 + (n * gi g 3 (b * 3 + 0)).toInt64)) 1 (gl g 22 1 + (n * gi g 3 (b * 3 + 1)).toInt64))) 23 (vp_updL (vp_updL (gl g 23) 0 (gl g 23 0 + (n * gi g 4 (b * 3 + 0)).toInt64)) 1 (gl g 23 1 + (n * gi g 4 (b * 3 + 1)).toInt64))) 22 (vp_updL (vp_updL (vp_updL (gl g 22) 0 (gl g 22 0 + (n * gi g 3 (b * 3 + 0)).toInt64)) 1 (gl g 22 1 + (n * gi g 3 (b * 3 + 1)).toInt64)) 2 (gl g 22 2 + (n * gi g 3 (b * 3 + 2)).toInt64))) 23 (vp_updL (vp_updL (vp_updL (gl g 23) 0 (gl g 23 0 + (n * gi g 4 (b * 3 + 0)).toInt64)) 1 (gl g 23 1 + (n * gi g 4 (b * 3 + 1)).toInt64)) 2 (gl g 23 2 + (n * gi g 4 (b * 3 + 2)).toInt64)) := ⟨_, rfl⟩
  have Sq : Sh q := by rw [eq]; (repeat (first | exact hS | apply Sh.si | apply Sh.sI | apply Sh.sJ | apply Sh.sl))
  have Gq : ∀ x, x ≠ 21 → gi q x = gi g x := by
    intro x q0; rw [eq]; (try simp (disch := first | assumption | omega) only [gi_si_ne, gi_sI, gi_sJ, gi_sl, gl_sl_ne, gl_si, gl_sI, gl_sJ, fI_si, fI_sl, fI_sJ, fI_sI_ne, fI_sI_k, fJ_si, fJ_sl, fJ_sI, fJ_sJ_ne])
  have Lq : ∀ x, x ≠ 22 → x ≠ 23 → gl q x = gl g x := by
    intro x q0 q1; rw [eq]; (try simp (disch := first | assumption | omega) only [gi_si_ne, gi_sI, gi_sJ, gi_sl, gl_sl_ne, gl_si, gl_sI, gl_sJ, fI_si, fI_sl, fI_sJ, fI_sI_ne, fI_sI_k, fJ_si, fJ_sl, fJ_sI, fJ_sJ_ne])
  have Fq : ∀ x kk, ¬ (x = 17 ∧ kk = 7) → fI q x kk = fI g x kk := by
    intro x kk q0; rw [eq]; first | rfl | (simp (disch := first | assumption | omega) only [fI_si, fI_sl, fI_sJ, fI_sI_o])
  have Jq : ∀ x kk, fJ q x kk = fJ g x kk := by
    intro x kk ; rw [eq]; first | rfl | (simp (disch := first | assumption | omega) only [fJ_si, fJ_sl, fJ_sI, fJ_sJ_o])
  rw [← eq]
  have c21 : gi q 21 = upd (gi g 21) b (gi g 21 b + n) := by
    rw [eq]; simp (disch := first | omega | ((repeat (first | exact hS | apply Sh.si | apply Sh.sI | apply Sh.sJ | apply Sh.sl)); done) | decide | exact kF_K ‹_› (by omega) | exact kI_of (shT_B ‹_›).2.2 | exact kI_of (shT_K ‹_›).2.2.1 | exact kI_of (shT_K ‹_›).2.2.2 | exact kFB ‹_› | exact kFM ‹_› | exact kJM ‹_› | exact kFN ‹_› | exact kJN ‹_› | rfl) only [gi_si_ne, gi_sI, gi_sJ, gi_sl, gl_sl_ne, gl_si, gl_sI, gl_sJ, fI_si, fI_sl, fI_sJ, fI_sI_ne, fI_sI_k, fJ_si, fJ_sl, fJ_sI, fJ_sJ_ne, gi_si_eq, gl_sl_eq, fI_sI_eq, fJ_sJ_eq]
  have c7 : fI q 17 7 = fI g 17 7 + n := by
    rw [eq]; simp (disch := first | omega | ((repeat (first | exact hS | apply Sh.si | apply Sh.sI | apply Sh.sJ | apply Sh.sl)); done) | decide | exact kF_K ‹_› (by omega) | exact kI_of (shT_B ‹_›).2.2 | exact kI_of (shT_K ‹_›).2.2.1 | exact kI_of (shT_K ‹_›).2.2.2 | exact kFB ‹_› | exact kFM ‹_› | exact kJM ‹_› | exact kFN ‹_› | exact kJN ‹_› | rfl) only [gi_si_ne, gi_sI, gi_sJ, gi_sl, gl_sl_ne, gl_si, gl_sI, gl_sJ, fI_si, fI_sl, fI_sJ, fI_sI_ne, fI_sI_k, fJ_si, fJ_sl, fJ_sI, fJ_sJ_ne, gi_si_eq, gl_sl_eq, fI_sI_eq, fJ_sJ_eq]
  have c22 : gl q 22 = vp_updL (vp_updL (vp_updL (gl g 22) 0 (gl g 22 0 + (n * gi g 3 (b * 3 + 0)).toInt64)) 1 (gl g 22 1 + (n * gi g 3 (b * 3 + 1)).toInt64)) 2 (gl g 22 2 + (n * gi g 3 (b * 3 + 2)).toInt64) := by
    rw [eq]; simp (disch := first | omega | ((repeat (first | exact hS | apply Sh.si | apply Sh.sI | apply Sh.sJ | apply Sh.sl)); done) | decide | exact kF_K ‹_› (by omega) | exact kI_of (shT_B ‹_›).2.2 | exact kI_of (shT_K ‹_›).2.2.1 | exact kI_of (shT_K ‹_›).2.2.2 | exact kFB ‹_› | exact kFM ‹_› | exact kJM ‹_› | exact kFN ‹_› | exact kJN ‹_› | rfl) only [gi_si_ne, gi_sI, gi_sJ, gi_sl, gl_sl_ne, gl_si, gl_sI, gl_sJ, fI_si, fI_sl, fI_sJ, fI_sI_ne, fI_sI_k, fJ_si, fJ_sl, fJ_sI, fJ_sJ_ne, gi_si_eq, gl_sl_eq, fI_sI_eq, fJ_sJ_eq]
  have c23 : gl q 23 = vp_updL (vp_updL (vp_updL (gl g 23) 0 (gl g 23 0 + (n * gi g 4 (b * 3 + 0)).toInt64)) 1 (gl g 23 1 + (n * gi g 4 (b * 3 + 1)).toInt64)) 2 (gl g 23 2 + (n * gi g 4 (b * 3 + 2)).toInt64) := by
    rw [eq]; simp (disch := first | omega | ((repeat (first | exact hS | apply Sh.si | apply Sh.sI | apply Sh.sJ | apply Sh.sl)); done) | decide | exact kF_K ‹_› (by omega) | exact kI_of (shT_B ‹_›).2.2 | exact kI_of (shT_K ‹_›).2.2.1 | exact kI_of (shT_K ‹_›).2.2.2 | exact kFB ‹_› | exact kFM ‹_› | exact kJM ‹_› | exact kFN ‹_› | exact kJN ‹_› | rfl) only [gi_si_ne, gi_sI, gi_sJ, gi_sl, gl_sl_ne, gl_si, gl_sI, gl_sJ, fI_si, fI_sl, fI_sJ, fI_sI_ne, fI_sI_k, fJ_si, fJ_sl, fJ_sI, fJ_sJ_ne, gi_si_eq, gl_sl_eq, fI_sI_eq, fJ_sJ_eq]
  refine ⟨Sq, Gq, Lq, Fq, Jq, c21, c7, fun d hd => ?_⟩
  rw [c22, c23]
  obtain rfl | rfl | rfl : d = 0 ∨ d = 1 ∨ d = 2 := by omega
  all_goals simp [vp_updL]
theorem CA_ch {h0 g : HF} {F A B cap : Nat → Int32} {a nb : Nat} {x y z most : Int32} {f : Nat → Int32} (hB : CB h0 F A B cap a nb x y z most) (hA : CA h0 g F A B cap a nb x y z most f) {b : Nat} (hb : b < nb) {n : Int32} (hn : -8 ≤ n.toInt ∧ n.toInt ≤ 8) (hV : V8 nb (upd f b (f b + n))) : CA h0 (chF g b n) F A B cap a nb x y z most (upd f b (f b + n)) := by
  obtain ⟨b1, b2, b3, b4, b5, b6, b7, b8, b9⟩ := hB
  obtain ⟨a1, a2, a3, a4, a5, a6, a7, a8, a9, a10⟩ := hA
  obtain ⟨c1, c2, c3, c4, c5, c6, c7, c8⟩ := ch_all a1 b n
  have hb8 : b < 8 := by omega
  have rg := fx_rng b1 b5 a9 a10 b hb8
  refine ⟨c1, ?_, ?_, ?_, ?_, ?_, ?_, ?_, hV, ?_⟩
  · intro j q1 q2; rw [c2 j q2, a2 j q1 q2]
  · intro j q1 q2; rw [c3 j q1 q2, a3 j q1 q2]
  · intro j i q1 q2 q3; rw [c4 j i q3, a4 j i q1 q2 q3]
  · intro j i; rw [c5, a5]
  · intro j hj
    rw [c6]
    simp only [upd]
    split
    · rw [a6 b hb8]
    · exact a6 j hj
  · rw [c7, a7, fsum_upd, if_pos hb, Int32.add_comm (f b), Int32.add_sub_cancel]
  · intro d hd
    obtain ⟨q1, q2⟩ := c8 d hd
    obtain ⟨p1, p2⟩ := a8 d hd
    obtain ⟨k1, k2⟩ := b3 b d hb8 hd
    rw [q1, q2, p1, p2, a2 3 (by omega) (by omega), a2 4 (by omega) (by omega), k1, k2]
    rw [ysum_upd hd (b5 b hb8) rg.1 hn (b4 _ (by omega)).1, ysum_upd hd (b5 b hb8) rg.1 hn (b4 _ (by omega)).2, if_pos hb8, if_pos hb8]
    exact ⟨rfl, rfl⟩
  · intro j h1 h2
    simp only [upd]; rw [if_neg (by omega)]; exact a10 j h1 h2
theorem V8_zero {nb : Nat} {f : Nat → Int32} (h : V8 nb f) (b : Nat) : V8 nb (upd f b 0) := by
  refine ⟨fun j hj => ?_, Nat.le_trans ?_ h.2⟩
  · simp only [upd]; split
    · decide
    · exact h.1 j hj
  · have : ∀ n, nsum (tr (upd f b 0)) n ≤ nsum (tr f) n := by
      intro n
      induction n with
      | zero => simp only [nsum]; exact Nat.le_refl _
      | succ n ih =>
        have e : tr (upd f b 0) n ≤ tr f n := by
          simp only [tr, upd]
          by_cases q : n = b
          · rw [if_pos q, Int32.toInt_zero, Int.toNat_zero]; exact Nat.zero_le _
          · rw [if_neg q]; exact Nat.le_refl _
        rw [nsum, nsum]; omega
    exact this nb
theorem V8_one {nb b : Nat} {f : Nat → Int32} (hnb : nb ≤ 8) (h : V8 nb f) (hb : b < nb) (hs : (fsum f nb).toInt < 8) : V8 nb (upd f b (f b + 1)) := by
  have q := V8_le h hb
  have e1 : (f b + 1).toInt = (f b).toInt + 1 := by
    rw [tI_add (by omega) (by omega) (by decide) (by decide)]; rfl
  obtain ⟨s1, s2⟩ := V8_fs h hnb (n := nb) (Nat.le_refl _)
  have key : ∀ n, nsum (tr (upd f b (f b + 1))) n = if b < n then nsum (tr f) n + 1 else nsum (tr f) n := by
    intro n
    induction n with
    | zero => rfl
    | succ n ih =>
      rw [nsum, nsum, ih]
      by_cases e : n = b
      · subst e
        rw [if_neg (by omega), if_pos (by omega)]
        have : tr (upd f n (f n + 1)) n = tr f n + 1 := by simp only [tr, upd, if_true, e1]; omega
        omega
      · have : tr (upd f b (f b + 1)) n = tr f n := by simp only [tr, upd, if_neg e]
        rw [this]
        by_cases p : b < n
        · rw [if_pos p, if_pos (by omega)]; omega
        · rw [if_neg p, if_neg (by omega)]
  refine ⟨fun j hj => ?_, ?_⟩
  · simp only [upd]; split
    · omega
    · exact h.1 j hj
  · rw [key, if_pos hb]; omega
theorem adv_sim {h0 : HF} {F A B cap : Nat → Int32} {a nb : Nat} {x y z most : Int32} (hB : CB h0 F A B cap a nb x y z most) : ∀ (i : Nat) (g : HF) (f : Nat → Int32), i ≤ nb → CA h0 g F A B cap a nb x y z most f → (advH i g).1 = (hnR cap most i (fsum f nb) f).1 ∧ CA h0 (advH i g).2 F A B cap a nb x y z most (hnR cap most i (fsum f nb) f).2 ∧ (gi (advH i g).2 18 = gi g 18 ∧ fI (advH i g).2 17 2 = fI g 17 2 ∧ fI (advH i g).2 17 3 = fI g 17 3)
  | 0, g, f, _, hA => ⟨rfl, hA, rfl, rfl, rfl⟩
  | i + 1, g, f, hi, hA => by
    have hA' := hA
    have hB' := hB
    obtain ⟨b1, b2, b3, b4, b5, b6, b7, b8, b9⟩ := hB
    obtain ⟨a1, a2, a3, a4, a5, a6, a7, a8, a9, a10⟩ := hA
    have e21 := a6 i (by omega)
    have e20 : gi g 20 i = cap i := by rw [a2 20 (by omega) (by omega)]; exact b6 i (by omega)
    have e8 : fI g 17 8 = most := by rw [a4 17 8 (by omega) (by omega) (by omega)]; exact b7
    have rg := V8_le a9 (j := i) (by omega)
    obtain ⟨c1, c2, c3, c4, c5, c6, c7, c8⟩ := ch_all a1 i 1
    obtain ⟨d1, d2, d3, d4, d5, d6, d7, d8⟩ := ch_all a1 i (-(gi g 21 i))
    by_cases c : fsum f nb < most ∧ f i < cap i
    · rw [hnR_t c, advH_t (by rw [a7, e8, e21, e20]; exact c)]
      refine ⟨rfl, CA_ch hB' hA' (by omega) ⟨by decide, by decide⟩ (V8_one b1 a9 (by omega) ?_), c2 18 (by omega), c4 17 2 (by omega), c4 17 3 (by omega)⟩
      have q1 := Int32.lt_iff_toInt_lt.mp c.1
      have q2 := Int32.le_iff_toInt_le.mp b2
      rw [show (8 : Int32).toInt = 8 from rfl] at q2
      omega
    · have c' : ¬ (fI g 17 7 < fI g 17 8 ∧ gi g 21 i < gi g 20 i) := by rw [a7, e8, e21, e20]; exact c
      rw [hnR_f c]
      have en : (-(f i)).toInt = -(f i).toInt := by rw [Int32.toInt_neg]; exact Int.bmod_eq_of_le (by omega) (by omega)
      have es : fsum f nb - f i = fsum (upd f i 0) nb := by
        rw [fsum_upd, if_pos (by omega), Int32.zero_sub, Int32.sub_eq_add_neg]
      rw [es]
      by_cases p : 0 < gi g 21 i
      · rw [advH_p c' p]
        have hA2 := CA_ch hB' hA' (b := i) (n := -(f i)) (by omega) (by omega) (by rw [← Int32.sub_eq_add_neg, Int32.sub_self]; exact V8_zero a9 i)
        rw [← Int32.sub_eq_add_neg, Int32.sub_self, ← e21] at hA2
        obtain ⟨k1, k2, k3, k4, k5⟩ := adv_sim hB' i _ _ (by omega) hA2
        exact ⟨k1, k2, k3.trans (d2 18 (by omega)), k4.trans (d4 17 2 (by omega)), k5.trans (d4 17 3 (by omega))⟩
      · rw [advH_n c' p]
        have z0 : f i = 0 := (tI_eq0 _).mpr (by rw [e21, tI_lt0] at p; omega)
        have zu : upd f i 0 = f := by
          funext j; simp only [upd]; split
          · rename_i q; rw [q, z0]
          · rfl
        rw [zu]
        exact adv_sim hB' i g f (by omega) hA' 
theorem maxI_i (x y : Int32) : (maxI x y).toInt = if x.toInt < y.toInt then y.toInt else x.toInt := by
  unfold maxI
  by_cases c : x < y
  · rw [if_pos c, if_pos (Int32.lt_iff_toInt_lt.mp c)]
  · rw [if_neg c, if_neg (fun q => c (Int32.lt_iff_toInt_lt.mpr q))]
theorem miss_alt {h : HF} (h0 : ¬ fI h 17 2 < 0) : missF h = maxI (maxI (maxI 0 (mS h 0)) (mS h 1)) (mS h 2) ∨ (fI h 17 2 < missF h ∧ fI h 17 2 < maxI (maxI (maxI 0 (mS h 0)) (mS h 1)) (mS h 2)) := by
  by_cases c1 : fI h 17 2 < maxI 0 (mS h 0)
  · right
    rw [miss_1 h0 c1]
    refine ⟨c1, ?_⟩
    rw [Int32.lt_iff_toInt_lt] at c1 ⊢
    rw [maxI_i, maxI_i]
    split <;> split <;> omega
  · by_cases c2 : fI h 17 2 < maxI (maxI 0 (mS h 0)) (mS h 1)
    · right
      rw [miss_2 h0 c1 c2]
      refine ⟨c2, ?_⟩
      rw [Int32.lt_iff_toInt_lt] at c2 ⊢
      rw [maxI_i]
      split <;> omega
    · left; exact miss_3 h0 c1 c2
theorem fs8 {f : Nat → Int32} {nb : Nat} : ∀ {n : Nat}, nb ≤ n → (∀ j, nb ≤ j → j < n → f j = 0) → fsum f n = fsum f nb
  | 0, h, _ => by obtain rfl : nb = 0 := by omega
                  rfl
  | n + 1, h, hz => by
    by_cases e : nb = n + 1
    · rw [e]
    · rw [fsum, fs8 (n := n) (by omega) (fun j a b => hz j a (by omega)), hz n (by omega) (by omega), Int32.add_zero]
theorem jdY_all {g : HF} (hS : Sh g) : Sh (jdY g) ∧ (∀ x, x ≠ 18 → gi (jdY g) x = gi g x) ∧ (∀ x, gl (jdY g) x = gl g x) ∧ (∀ x j, ¬ (x = 17 ∧ j = 2) → ¬ (x = 17 ∧ j = 3) → fI (jdY g) x j = fI g x j) ∧ (∀ x j, fJ (jdY g) x j = fJ g x j) ∧ gi (jdY g) 18 = va_cpy (gi g 21) (gi g 18) 0 0 8 ∧ fI (jdY g) 17 2 = missF g ∧ fI (jdY g) 17 3 = fI g 17 7 := by
  have e0 : jdY g = si (sI (sI g 17 2 (missF g)) 17 3 (fI g 17 7)) 18 (va_cpy (gi g 21) (gi g 18) 0 0 8) := by
    rw [jdY]
  rw [e0]
  obtain ⟨q, eq⟩ : ∃ zz : HF, zz = si (sI (sI g 17 2 (missF g)) 17 3 (fI g 17 7)) 18 (va_cpy (gi g 21) (gi g 18) 0 0 8) := ⟨_, rfl⟩
  have Sq : Sh q := by rw [eq]; (repeat (first | exact hS | apply Sh.si | apply Sh.sI | apply Sh.sJ | apply Sh.sl))
  have Gq : ∀ x, x ≠ 18 → gi q x = gi g x := by
    intro x q0; rw [eq]; (try simp (disch := first | assumption | omega) only [gi_si_ne, gi_sI, gi_sJ, gi_sl, gl_sl_ne, gl_si, gl_sI, gl_sJ, fI_si, fI_sl, fI_sJ, fI_sI_ne, fI_sI_k, fJ_si, fJ_sl, fJ_sI, fJ_sJ_ne])
  have Lq : ∀ x, gl q x = gl g x := by
    intro x ; rw [eq]; (try simp (disch := first | assumption | omega) only [gi_si_ne, gi_sI, gi_sJ, gi_sl, gl_sl_ne, gl_si, gl_sI, gl_sJ, fI_si, fI_sl, fI_sJ, fI_sI_ne, fI_sI_k, fJ_si, fJ_sl, fJ_sI, fJ_sJ_ne])
  have Fq : ∀ x kk, ¬ (x = 17 ∧ kk = 2) → ¬ (x = 17 ∧ kk = 3) → fI q x kk = fI g x kk := by
    intro x kk q0 q1; rw [eq]; first | rfl | (simp (disch := first | assumption | omega) only [fI_si, fI_sl, fI_sJ, fI_sI_o])
  have Jq : ∀ x kk, fJ q x kk = fJ g x kk := by
    intro x kk ; rw [eq]; first | rfl | (simp (disch := first | assumption | omega) only [fJ_si, fJ_sl, fJ_sI, fJ_sJ_o])
  rw [← eq]
  have c18 : gi q 18 = va_cpy (gi g 21) (gi g 18) 0 0 8 := by
    rw [eq]; simp (disch := first | omega | ((repeat (first | exact hS | apply Sh.si | apply Sh.sI | apply Sh.sJ | apply Sh.sl)); done) | decide | exact kF_K ‹_› (by omega) | exact kI_of (shT_B ‹_›).2.2 | exact kI_of (shT_K ‹_›).2.2.1 | exact kI_of (shT_K ‹_›).2.2.2 | exact kFB ‹_› | exact kFM ‹_› | exact kJM ‹_› | exact kFN ‹_› | exact kJN ‹_› | rfl) only [gi_si_ne, gi_sI, gi_sJ, gi_sl, gl_sl_ne, gl_si, gl_sI, gl_sJ, fI_si, fI_sl, fI_sJ, fI_sI_ne, fI_sI_k, fJ_si, fJ_sl, fJ_sI, fJ_sJ_ne, gi_si_eq, gl_sl_eq, fI_sI_eq, fJ_sJ_eq]
  have c2 : fI q 17 2 = missF g := by
    rw [eq]; simp (disch := first | omega | ((repeat (first | exact hS | apply Sh.si | apply Sh.sI | apply Sh.sJ | apply Sh.sl)); done) | decide | exact kF_K ‹_› (by omega) | exact kI_of (shT_B ‹_›).2.2 | exact kI_of (shT_K ‹_›).2.2.1 | exact kI_of (shT_K ‹_›).2.2.2 | exact kFB ‹_› | exact kFM ‹_› | exact kJM ‹_› | exact kFN ‹_› | exact kJN ‹_› | rfl) only [fI_sI_o, gi_si_ne, gi_sI, gi_sJ, gi_sl, gl_sl_ne, gl_si, gl_sI, gl_sJ, fI_si, fI_sl, fI_sJ, fI_sI_ne, fI_sI_k, fJ_si, fJ_sl, fJ_sI, fJ_sJ_ne, gi_si_eq, gl_sl_eq, fI_sI_eq, fJ_sJ_eq]
  have c3 : fI q 17 3 = fI g 17 7 := by
    rw [eq]; simp (disch := first | omega | ((repeat (first | exact hS | apply Sh.si | apply Sh.sI | apply Sh.sJ | apply Sh.sl)); done) | decide | exact kF_K ‹_› (by omega) | exact kI_of (shT_B ‹_›).2.2 | exact kI_of (shT_K ‹_›).2.2.1 | exact kI_of (shT_K ‹_›).2.2.2 | exact kFB ‹_› | exact kFM ‹_› | exact kJM ‹_› | exact kFN ‹_› | exact kJN ‹_› | rfl) only [fI_sI_o, gi_si_ne, gi_sI, gi_sJ, gi_sl, gl_sl_ne, gl_si, gl_sI, gl_sJ, fI_si, fI_sl, fI_sJ, fI_sI_ne, fI_sI_k, fJ_si, fJ_sl, fJ_sI, fJ_sJ_ne, gi_si_eq, gl_sl_eq, fI_sI_eq, fJ_sJ_eq]
  exact ⟨Sq, Gq, Lq, Fq, Jq, c18, c2, c3⟩
theorem jd_sim {h0 g : HF} {F A B cap : Nat → Int32} {a nb : Nat} {x y z most : Int32} {f : Nat → Int32} (hB : CB h0 F A B cap a nb x y z most) (hA : CA h0 g F A B cap a nb x y z most f) {b m : Int32} {D : Nat → Int32} (hC : C0 g b ∨ CC g b m D) : CA h0 (jdH g) F A B cap a nb x y z most f ∧ CC (jdH g) (mdJ (fun f => ymiss (fun d => ysh F f A B a d) x y z) b m D f).1 (mdJ (fun f => ymiss (fun d => ysh F f A B a d) x y z) b m D f).2.1 (mdJ (fun f => ymiss (fun d => ysh F f A B a d) x y z) b m D f).2.2 := by
  have hA' := hA
  obtain ⟨b1, b2, b3, b4, b5, b6, b7, b8, b9⟩ := hB
  obtain ⟨a1, a2, a3, a4, a5, a6, a7, a8, a9, a10⟩ := hA
  have fx := fx_rng b1 b5 a9 a10
  have sr : ∀ d, d < 3 → 0 ≤ (ysh F f A B a d).toInt ∧ (ysh F f A B a d).toInt ≤ 1000000 := fun d hd => ysh_rng hd (fun b hb => (fx b hb).2.2) (fun j hj => (b4 j hj).1) (fun j hj => (b4 j hj).2)
  have ms : ∀ d, d < 3 → mS g d = absI (ysh F f A B a d - gi h0 19 d) := fun d hd => by
    obtain ⟨p1, p2⟩ := a8 d hd
    rw [mS, p1, p2, a2 19 (by omega) (by omega), ysh]
  have m0 : mS g 0 = absI (ysh F f A B a 0 - x) := by rw [ms 0 (by omega), b8.1]
  have m1 : mS g 1 = absI (ysh F f A B a 1 - y) := by rw [ms 1 (by omega), b8.2.1]
  have m2 : mS g 2 = absI (ysh F f A B a 2 - z) := by rw [ms 2 (by omega), b8.2.2]
  have r0 := miss_nn (sr 0 (by omega)) b9.1
  have r1 := miss_nn (sr 1 (by omega)) b9.2.1
  have r2 := miss_nn (sr 2 (by omega)) b9.2.2
  obtain ⟨M, hM⟩ : ∃ M, M = ymiss (fun d => ysh F f A B a d) x y z := ⟨_, rfl⟩
  have eM : maxI (maxI (maxI 0 (mS g 0)) (mS g 1)) (mS g 2) = M := by rw [hM, ymiss, m0, m1, m2]
  have rM : 0 ≤ M.toInt ∧ M.toInt ≤ 1000000 := by
    rw [← eM, m0, m1, m2, maxI_i, maxI_i, maxI_i, show (0 : Int32).toInt = 0 from rfl]
    split <;> split <;> split <;> omega
  have bn : ¬ fI g 17 2 < 0 := by
    rw [Int32.lt_iff_toInt_lt, show (0 : Int32).toInt = 0 from rfl]
    rcases hC with q | q
    · rw [q.2]; decide
    · rw [← q.1]; have := q.2.2.2.1; omega
  have al := miss_alt bn
  rw [eM] at al
  have eu : fI g 17 7 = fsum f 8 := by rw [a7, fs8 b1 a10]
  obtain ⟨j1, j2, j3, j4, j5, j6, j7, j8⟩ := jdY_all a1
  have yes : jdP g → missF g = M → CA h0 (jdH g) F A B cap a nb x y z most f ∧ CC (jdH g) M (fsum f 8) (capF D f 8) := by
    intro hp hq
    rw [jdH, if_pos hp]
    refine ⟨⟨j1, ?_, ?_, ?_, ?_, ?_, ?_, ?_, a9, a10⟩, ?_, ?_, ?_, rM, ?_⟩
    · intro j q1 q2; rw [j2 j q1, a2 j q1 q2]
    · intro j q1 q2; rw [j3, a3 j q1 q2]
    · intro j i q1 q2 q3; rw [j4 j i q1 q2, a4 j i q1 q2 q3]
    · intro j i; rw [j5, a5]
    · intro j hj; rw [j2 21 (by omega)]; exact a6 j hj
    · rw [j4 17 7 (by omega) (by omega)]; exact a7
    · intro d hd; rw [j3, j3]; exact a8 d hd
    · rw [j7, hq]
    · rw [j8, eu]
    · intro j hj
      rw [j6, va_cpy, if_pos (by omega), capF, if_pos hj, show 0 + (j - 0) = j by omega]
      exact a6 j hj
    · intro j hj
      rw [capF, if_pos hj]; exact (fx j hj).1
  rw [mdJ, ← hM]
  rcases hC with q | q
  · rw [if_pos (Or.inl q.1)]
    have lt : M < fI g 17 2 := by
      rw [q.2, Int32.lt_iff_toInt_lt, show (1000001 : Int32).toInt = 1000001 from rfl]; omega
    rcases al with p | p
    · exact yes (Or.inl (by rw [p]; exact lt)) p
    · exact absurd p.2 (fun w => by rw [Int32.lt_iff_toInt_lt] at w lt; omega)
  · obtain ⟨k1, k2, k3, k4, k5⟩ := q
    have nb1 : ¬ b = -1 := fun w => by rw [w] at k4; exact absurd k4.1 (by decide)
    by_cases c : M < b ∨ (M = b ∧ fsum f 8 < m)
    · rw [if_pos (Or.inr c)]
      rcases al with p | p
      · exact yes (by rw [jdP, p, ← k1, eu, ← k2]; exact c) p
      · exfalso
        have w := Int32.lt_iff_toInt_lt.mp p.2
        rw [← k1] at w
        rcases c with c | c
        · have := Int32.lt_iff_toInt_lt.mp c; omega
        · rw [c.1] at w; omega
    · rw [if_neg (fun w => w.elim nb1 c)]
      have np : ¬ jdP g := by
        rcases al with p | p
        · rw [jdP, p, ← k1, eu, ← k2]; exact c
        · intro w
          have p1 := Int32.lt_iff_toInt_lt.mp p.1
          rcases w with w | w
          · have := Int32.lt_iff_toInt_lt.mp w; omega
          · rw [w.1] at p1; omega
      rw [jdH, if_neg np]
      exact ⟨hA', k1, k2, k3, k4, k5⟩
theorem CC_of {g g' : HF} {b m : Int32} {D : Nat → Int32} (h : CC g b m D) (e1 : gi g' 18 = gi g 18) (e2 : fI g' 17 2 = fI g 17 2) (e3 : fI g' 17 3 = fI g 17 3) : CC g' b m D := by
  obtain ⟨k1, k2, k3, k4, k5⟩ := h
  exact ⟨by rw [e2]; exact k1, by rw [e3]; exact k2, by rw [e1]; exact k3, k4, k5⟩
theorem run_sim {h0 : HF} {F A B cap : Nat → Int32} {a nb : Nat} {x y z most : Int32} (hB : CB h0 F A B cap a nb x y z most) : ∀ (K : Nat) (g : HF) (b m : Int32) (D f : Nat → Int32), CA h0 g F A B cap a nb x y z most f → (C0 g b ∨ CC g b m D) → (∃ f', CA h0 (runH nb (K + 1) g) F A B cap a nb x y z most f') ∧ fI (runH nb (K + 1) g) 17 2 = (mdR (fun f => ymiss (fun d => ysh F f A B a d) x y z) cap most nb K b m D f).1 ∧ ∀ j, j < 8 → gi (runH nb (K + 1) g) 18 j = (mdR (fun f => ymiss (fun d => ysh F f A B a d) x y z) cap most nb K b m D f).2.1 j ∧ 0 ≤ ((mdR (fun f => ymiss (fun d => ysh F f A B a d) x y z) cap most nb K b m D f).2.1 j).toInt ∧ ((mdR (fun f => ymiss (fun d => ysh F f A B a d) x y z) cap most nb K b m D f).2.1 j).toInt ≤ 8
  | 0, g, b, m, D, f, hA, hC => by
    obtain ⟨s1, s2⟩ := jd_sim hB hA hC
    obtain ⟨t1, t2, t3, t4, t5⟩ := adv_sim hB nb (jdH g) f (Nat.le_refl _) s1
    have s3 := CC_of s2 t3 t4 t5
    have er : runH nb (0 + 1) g = (advH nb (jdH g)).2 := by
      rw [runH]; split <;> rfl
    rw [er, mdR]
    exact ⟨⟨_, t2⟩, s3.1.symm, fun j hj => ⟨s3.2.2.1 j hj, s3.2.2.2.2 j hj⟩⟩
  | K + 1, g, b, m, D, f, hA, hC => by
    obtain ⟨s1, s2⟩ := jd_sim hB hA hC
    obtain ⟨t1, t2, t3, t4, t5⟩ := adv_sim hB nb (jdH g) f (Nat.le_refl _) s1
    have s3 := CC_of s2 t3 t4 t5
    rw [runH, mdR]
    by_cases c : (hnx cap most nb f).1 = true
    · rw [if_pos c, if_pos (t1.trans c)]
      exact run_sim hB K _ _ _ _ _ t2 (Or.inr s3)
    · rw [if_neg c, if_neg (fun w => c (t1.symm.trans w))]
      exact ⟨⟨_, t2⟩, s3.1.symm, fun j hj => ⟨s3.2.2.1 j hj, s3.2.2.2.2 j hj⟩⟩
