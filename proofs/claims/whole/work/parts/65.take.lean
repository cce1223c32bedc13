theorem sh1L : ∀ j, j < 40 → (1 : Int64) <<< ((nI j).toInt64 &&& 63) = lN (2 ^ j) := by decide +kernel
theorem bit40 {x : Int64} {j : Nat} (hj : j < 40) (h : ∃ n, n < 2 ^ 40 ∧ x = lN n) : ∃ n, n < 2 ^ 40 ∧ x ||| (1 : Int64) <<< ((nI j).toInt64 &&& 63) = lN n :=
  or40 h ⟨2 ^ j, Nat.pow_lt_pow_right (by omega) hj, sh1L j hj⟩
theorem tkP_bit {B L : Nat → Int32} {day b : Int32} {z : Nat} (hz : z ≤ 40) : ∀ (k : Nat) (m : Int32) (S : Nat → Int32) (x : Int64), (∃ n, n < 2 ^ 40 ∧ x = lN n) → ∃ n, n < 2 ^ 40 ∧ (tkP B L day b z k m S x).2 = lN n
  | 0, _, _, _, h => h
  | k + 1, m, S, x, h => by
    rw [tkP]
    by_cases hm : m ≤ 0
    · rw [if_pos hm]; exact h
    · rw [if_neg hm]
      cases hn : nxo B L S day b z with
      | none => exact h
      | some j => exact tkP_bit hz k _ _ _ (bit40 (by have := (nxo_lt hn).1; omega) h)
theorem tkP_0 {B L : Nat → Int32} {day b : Int32} {z : Nat} {m : Int32} (hm : m ≤ 0) : ∀ (k : Nat) (S : Nat → Int32) (x : Int64), tkP B L day b z k m S x = (S, x)
  | 0, _, _ => rfl
  | k + 1, S, x => by rw [tkP, if_pos hm]
theorem upd_0 (f : Nat → Int32) (b : Nat) : upd f b (f b + 0) = f := by
  funext j; simp only [upd]; split
  · rename_i e; rw [e, Int32.add_zero]
  · rfl
/-- what a taking changes in the class's cells -/
def TKF (h h' : HF) (k b : Nat) (m : Int32) (S' : Nat → Int32) (x' : Int64) : Prop := Sh h' ∧ gi h' 7 = S' ∧ gi h' (42 + 3 * k) = upd (gi h (42 + 3 * k)) b (gi h (42 + 3 * k) b + m) ∧ fI h' (41 + 3 * k) 1 = fI h (41 + 3 * k) 1 + m ∧ fJ h' (41 + 3 * k) 2 = x' ∧ (∀ x, x ≠ 7 → x ≠ 42 + 3 * k → gi h' x = gi h x) ∧ (∀ x, gl h' x = gl h x) ∧ (∀ x j, ¬ (x = 41 + 3 * k ∧ j = 1) → fI h' x j = fI h x j) ∧ (∀ x j, ¬ (x = 41 + 3 * k ∧ j = 2) → fJ h' x j = fJ h x j)
theorem TKF_0 {h : HF} (hS : Sh h) (k b : Nat) : TKF h h k b 0 (gi h 7) (fJ h (41 + 3 * k) 2) :=
  ⟨hS, rfl, (upd_0 _ _).symm, (Int32.add_zero _).symm, rfl, fun _ _ _ => rfl, fun _ => rfl, fun _ _ _ => rfl, fun _ _ _ => rfl⟩
theorem tkH_ok {k b z : Nat} (hk : k < 24) : ∀ (n : Nat) (m : Int32) (h : HF), Sh h → 0 ≤ m.toInt → m.toInt ≤ 1000000000 → tkok (gi h 6) (gi h 8) (fI h 5 4) (nI b) z n m (gi h 7) → TKF h (tkH (41 + 3 * k) b z n m h) k b m (tkP (gi h 6) (gi h 8) (fI h 5 4) (nI b) z n m (gi h 7) (fJ h (41 + 3 * k) 2)).1 (tkP (gi h 6) (gi h 8) (fI h 5 4) (nI b) z n m (gi h 7) (fJ h (41 + 3 * k) 2)).2
  | 0, m, h, hS, h0, h1, ho => by
    obtain rfl : m = 0 := (tI_eq0 _).mpr (by have := (tI_le0 _).mp ho; omega)
    exact TKF_0 hS k b
  | n + 1, m, h, hS, h0, h1, ho => by
    rw [tkH, tkP]
    by_cases hm : m ≤ 0
    · rw [if_pos hm, if_pos hm]
      obtain rfl : m = 0 := (tI_eq0 _).mpr (by have := (tI_le0 _).mp hm; omega)
      exact TKF_0 hS k b
    · obtain ⟨j, hj, ho⟩ := ho.resolve_left hm
      have hsj := nxo_lt hj
      rw [if_neg hm, if_neg hm]
      simp only [hj]
      have hs0 : 0 < (gi h 7 j).toInt := (tI_lt0 _).mp hsj.2.2.2
      have hg := minI_i (gi h 7 j) m
      have hgr : 0 ≤ (minI (gi h 7 j) m).toInt ∧ (minI (gi h 7 j) m).toInt ≤ m.toInt := by rw [hg]; split <;> omega
      have e2 : (m - minI (gi h 7 j) m).toInt = m.toInt - (minI (gi h 7 j) m).toInt := tI_sub (by omega) (by omega) (by omega) (by omega)
      have e0 : mixAdd (si h 7 (upd (gi h 7) j (gi h 7 j - minI (gi h 7 j) m))) (41 + 3 * k) b (minI (gi h 7 j) m) j = sJ (sI (si (si h 7 (upd (gi h 7) j (gi h 7 j - minI (gi h 7 j) m))) (42 + 3 * k) (upd (gi h (42 + 3 * k)) b (gi h (42 + 3 * k) b + minI (gi h 7 j) m))) (41 + 3 * k) 1 (fI h (41 + 3 * k) 1 + minI (gi h 7 j) m)) (41 + 3 * k) 2 (fJ h (41 + 3 * k) 2 ||| (1 : Int64) <<< ((nI j).toInt64 &&& 63)) := by
        rw [mixAdd, show 41 + 3 * k + 1 = 42 + 3 * k by omega]; simp (disch := omega) only [gi_si_ne, gi_sI, gi_sJ, gi_sl, gl_sl_ne, gl_si, gl_sI, gl_sJ, fI_si, fI_sl, fI_sJ, fI_sI_ne, fI_sI_k, fJ_si, fJ_sl, fJ_sI, fJ_sJ_ne]
      obtain ⟨hq, ehq⟩ : ∃ zz : HF, zz = sJ (sI (si (si h 7 (upd (gi h 7) j (gi h 7 j - minI (gi h 7 j) m))) (42 + 3 * k) (upd (gi h (42 + 3 * k)) b (gi h (42 + 3 * k) b + minI (gi h 7 j) m))) (41 + 3 * k) 1 (fI h (41 + 3 * k) 1 + minI (gi h 7 j) m)) (41 + 3 * k) 2 (fJ h (41 + 3 * k) 2 ||| (1 : Int64) <<< ((nI j).toInt64 &&& 63)) := ⟨_, rfl⟩
      have Shq : Sh hq := by rw [ehq]; (repeat (first | exact hS | apply Sh.si | apply Sh.sI | apply Sh.sJ | apply Sh.sl))
      have Ghq : ∀ x, x ≠ 7 → x ≠ 42 + 3 * k → gi hq x = gi h x := by
        intro x q0 q1; rw [ehq]; (try simp (disch := first | assumption | omega) only [gi_si_ne, gi_sI, gi_sJ, gi_sl, gl_sl_ne, gl_si, gl_sI, gl_sJ, fI_si, fI_sl, fI_sJ, fI_sI_ne, fI_sI_k, fJ_si, fJ_sl, fJ_sI, fJ_sJ_ne])
      have Lhq : ∀ x, gl hq x = gl h x := by
        intro x ; rw [ehq]; (try simp (disch := first | assumption | omega) only [gi_si_ne, gi_sI, gi_sJ, gi_sl, gl_sl_ne, gl_si, gl_sI, gl_sJ, fI_si, fI_sl, fI_sJ, fI_sI_ne, fI_sI_k, fJ_si, fJ_sl, fJ_sI, fJ_sJ_ne])
      have Fhq : ∀ x kk, ¬ (x = 41 + 3 * k ∧ kk = 1) → fI hq x kk = fI h x kk := by
        intro x kk q0; rw [ehq]; first | rfl | (simp (disch := first | assumption | omega) only [fI_si, fI_sl, fI_sJ, fI_sI_o])
      have Jhq : ∀ x kk, ¬ (x = 41 + 3 * k ∧ kk = 2) → fJ hq x kk = fJ h x kk := by
        intro x kk q0; rw [ehq]; first | rfl | (simp (disch := first | assumption | omega) only [fJ_si, fJ_sl, fJ_sI, fJ_sJ_o])
      have a1 : gi hq 7 = upd (gi h 7) j (gi h 7 j - minI (gi h 7 j) m) := by
        rw [ehq]; simp (disch := first | omega | ((repeat (first | exact hS | apply Sh.si | apply Sh.sI | apply Sh.sJ | apply Sh.sl)); done) | decide | exact kF_K ‹_› (by omega) | exact kI_of (shT_B ‹_›).2.2 | exact kI_of (shT_K ‹_›).2.2.1 | exact kI_of (shT_K ‹_›).2.2.2 | exact kFB ‹_› | exact kFM ‹_› | exact kJM ‹_› | exact kFN ‹_› | exact kJN ‹_› | rfl) only [gi_si_ne, gi_sI, gi_sJ, gi_sl, gl_sl_ne, gl_si, gl_sI, gl_sJ, fI_si, fI_sl, fI_sJ, fI_sI_ne, fI_sI_k, fJ_si, fJ_sl, fJ_sI, fJ_sJ_ne, gi_si_eq, gl_sl_eq, fI_sI_eq, fJ_sJ_eq]
      have a2 : gi hq (42 + 3 * k) = upd (gi h (42 + 3 * k)) b (gi h (42 + 3 * k) b + minI (gi h 7 j) m) := by
        rw [ehq]; simp (disch := first | omega | ((repeat (first | exact hS | apply Sh.si | apply Sh.sI | apply Sh.sJ | apply Sh.sl)); done) | decide | exact kF_K ‹_› (by omega) | exact kI_of (shT_B ‹_›).2.2 | exact kI_of (shT_K ‹_›).2.2.1 | exact kI_of (shT_K ‹_›).2.2.2 | exact kFB ‹_› | exact kFM ‹_› | exact kJM ‹_› | exact kFN ‹_› | exact kJN ‹_› | rfl) only [gi_si_ne, gi_sI, gi_sJ, gi_sl, gl_sl_ne, gl_si, gl_sI, gl_sJ, fI_si, fI_sl, fI_sJ, fI_sI_ne, fI_sI_k, fJ_si, fJ_sl, fJ_sI, fJ_sJ_ne, gi_si_eq, gl_sl_eq, fI_sI_eq, fJ_sJ_eq]
      have a3 : fI hq (41 + 3 * k) 1 = fI h (41 + 3 * k) 1 + minI (gi h 7 j) m := by
        rw [ehq]; simp (disch := first | omega | ((repeat (first | exact hS | apply Sh.si | apply Sh.sI | apply Sh.sJ | apply Sh.sl)); done) | decide | exact kF_K ‹_› (by omega) | exact kI_of (shT_B ‹_›).2.2 | exact kI_of (shT_K ‹_›).2.2.1 | exact kI_of (shT_K ‹_›).2.2.2 | exact kFB ‹_› | exact kFM ‹_› | exact kJM ‹_› | exact kFN ‹_› | exact kJN ‹_› | rfl) only [gi_si_ne, gi_sI, gi_sJ, gi_sl, gl_sl_ne, gl_si, gl_sI, gl_sJ, fI_si, fI_sl, fI_sJ, fI_sI_ne, fI_sI_k, fJ_si, fJ_sl, fJ_sI, fJ_sJ_ne, gi_si_eq, gl_sl_eq, fI_sI_eq, fJ_sJ_eq]
      have a4 : fJ hq (41 + 3 * k) 2 = fJ h (41 + 3 * k) 2 ||| (1 : Int64) <<< ((nI j).toInt64 &&& 63) := by
        rw [ehq]; simp (disch := first | omega | ((repeat (first | exact hS | apply Sh.si | apply Sh.sI | apply Sh.sJ | apply Sh.sl)); done) | decide | exact kF_K ‹_› (by omega) | exact kI_of (shT_B ‹_›).2.2 | exact kI_of (shT_K ‹_›).2.2.1 | exact kI_of (shT_K ‹_›).2.2.2 | exact kFB ‹_› | exact kFM ‹_› | exact kJM ‹_› | exact kFN ‹_› | exact kJN ‹_› | rfl) only [gi_si_ne, gi_sI, gi_sJ, gi_sl, gl_sl_ne, gl_si, gl_sI, gl_sJ, fI_si, fI_sl, fI_sJ, fI_sI_ne, fI_sI_k, fJ_si, fJ_sl, fJ_sI, fJ_sJ_ne, gi_si_eq, gl_sl_eq, fI_sI_eq, fJ_sJ_eq]
      rw [e0, ← ehq]
      have g6 := Ghq 6 (by omega) (by omega)
      have g8 := Ghq 8 (by omega) (by omega)
      have f5 := Fhq 5 4 (by omega)
      have ih := tkH_ok (b := b) (z := z) hk n (m - minI (gi h 7 j) m) hq Shq (by omega) (by omega) (by rw [g6, g8, f5, a1]; exact ho)
      rw [g6, g8, f5, a1, a4] at ih
      obtain ⟨i1, i2, i3, i4, i5, i6, i7, i8, i9⟩ := ih
      refine ⟨i1, i2, ?_, ?_, i5, ?_, ?_, ?_, ?_⟩
      · rw [i3, a2]
        funext l
        simp only [upd]
        split
        · rename_i e
          rw [if_pos trivial, Int32.add_assoc, Int32.add_comm (minI _ _), Int32.sub_add_cancel]
        · rfl
      · rw [i4, a3, Int32.add_assoc, Int32.add_comm (minI _ _), Int32.sub_add_cancel]
      · intro x q1 q2; rw [i6 x q1 q2, Ghq x q1 q2]
      · intro x; rw [i7, Lhq]
      · intro x l q; rw [i8 x l q, Fhq x l q]
      · intro x l q; rw [i9 x l q, Jhq x l q]
def PPs (B L : Nat → Int32) (day : Int32) (z : Nat) (w S : Nat → Int32) (x : Int64) : Nat → (Nat → Int32) × Int64
  | 0 => (S, x)
  | i + 1 => tkP B L day (nI i) z z (w i) (PPs B L day z w S x i).1 (PPs B L day z w S x i).2
theorem PPs_ok {B L : Nat → Int32} {day : Int32} {z : Nat} {w S : Nat → Int32} {x : Int64} (hps : PS S z) (hw : ∀ i, i < 8 → 0 ≤ (w i).toInt ∧ (w i).toInt ≤ 1000000000) : ∀ (i : Nat), i ≤ 8 → PS (PPs B L day z w S x i).1 z ∧ ∀ b : Nat, i ≤ b → b < 8 → sU B L (PPs B L day z w S x i).1 day (nI b) z = sU B L S day (nI b) z
  | 0, _ => ⟨hps, fun _ _ _ => rfl⟩
  | i + 1, hi => by
    obtain ⟨p1, p2⟩ := PPs_ok (B := B) (L := L) (day := day) (x := x) hps hw i (by omega)
    have hwi := hw i (by omega)
    refine ⟨tkP_PS _ _ _ _ p1 (by omega) (by omega), fun b h1 h2 => ?_⟩
    rw [← p2 b (by omega) h2]
    refine sU_oth (fun l _ hb => ?_)
    refine tkP_oth (fun z => ?_) _ _ _ _
    have := (nI_eq (by omega) (by omega)).mp (hb.symm.trans z)
    omega
theorem PPs_bit {B L : Nat → Int32} {day : Int32} {z : Nat} {w S : Nat → Int32} {x : Int64} (hz : z ≤ 40) (hx : ∃ n, n < 2 ^ 40 ∧ x = lN n) : ∀ (i : Nat), ∃ n, n < 2 ^ 40 ∧ (PPs B L day z w S x i).2 = lN n
  | 0 => hx
  | i + 1 => tkP_bit hz _ _ _ _ (PPs_bit hz hx i)
theorem PPs_congr {B L : Nat → Int32} {day : Int32} {z : Nat} {w w' S : Nat → Int32} {x : Int64} : ∀ {i : Nat}, (∀ b, b < i → w b = w' b) → PPs B L day z w S x i = PPs B L day z w' S x i
  | 0, _ => rfl
  | i + 1, h => by rw [PPs, PPs, PPs_congr (i := i) (fun b hb => h b (by omega)), h i (by omega)]
theorem PPs_tkok {B L : Nat → Int32} {day : Int32} {z : Nat} {w S : Nat → Int32} {x : Int64} (hz : z ≤ 40) (hps : PS S z) (hw : ∀ i, i < 8 → 0 ≤ (w i).toInt ∧ (w i).toInt ≤ 1000000000) (hlk : lkB w (fun b => sU B L S day (nI b) z) 8 = false) {i : Nat} (hi : i < 8) : tkok B L day (nI i) z z (w i) (PPs B L day z w S x i).1 := by
  obtain ⟨p1, p2⟩ := PPs_ok (B := B) (L := L) (day := day) (x := x) hps hw i (by omega)
  have hwi := hw i hi
  rcases lkB_no hlk i hi with q | q
  · exact tkok_sU hz p1 (by omega) (by rw [p2 i (by omega) hi]; exact q)
  · exact tkok_le _ _ _ q
theorem twL_ok {k z : Nat} {h : HF} (hS : Sh h) (hk : k < 24) {w : Nat → Int32} (hw : ∀ i, i < 8 → 0 ≤ (w i).toInt ∧ (w i).toInt ≤ 1000000000) (hok : ∀ i, i < 8 → tkok (gi h 6) (gi h 8) (fI h 5 4) (nI i) z z (w i) (PPs (gi h 6) (gi h 8) (fI h 5 4) z w (gi h 7) (fJ h (41 + 3 * k) 2) i).1) : ∀ i, i ≤ 8 → Sh (twL (41 + 3 * k) z w i h) ∧ gi (twL (41 + 3 * k) z w i h) 7 = (PPs (gi h 6) (gi h 8) (fI h 5 4) z w (gi h 7) (fJ h (41 + 3 * k) 2) i).1 ∧ (∀ b, gi (twL (41 + 3 * k) z w i h) (42 + 3 * k) b = if b < i then gi h (42 + 3 * k) b + w b else gi h (42 + 3 * k) b) ∧ fI (twL (41 + 3 * k) z w i h) (41 + 3 * k) 1 = fI h (41 + 3 * k) 1 + fsum w i ∧ fJ (twL (41 + 3 * k) z w i h) (41 + 3 * k) 2 = (PPs (gi h 6) (gi h 8) (fI h 5 4) z w (gi h 7) (fJ h (41 + 3 * k) 2) i).2 ∧ (∀ x, x ≠ 7 → x ≠ 42 + 3 * k → gi (twL (41 + 3 * k) z w i h) x = gi h x) ∧ (∀ x, gl (twL (41 + 3 * k) z w i h) x = gl h x) ∧ (∀ x j, ¬ (x = 41 + 3 * k ∧ j = 1) → fI (twL (41 + 3 * k) z w i h) x j = fI h x j) ∧ (∀ x j, ¬ (x = 41 + 3 * k ∧ j = 2) → fJ (twL (41 + 3 * k) z w i h) x j = fJ h x j)
  | 0, _ => ⟨hS, rfl, fun b => (if_neg (by omega)).symm, (Int32.add_zero _).symm, rfl, fun _ _ _ => rfl, fun _ => rfl, fun _ _ _ => rfl, fun _ _ _ => rfl⟩
  | i + 1, hi => by
    obtain ⟨i1, i2, i3, i4, i5, i6, i7, i8, i9⟩ := twL_ok hS hk hw hok i (by omega)
    rw [twL]
    have g6 := i6 6 (by omega) (by omega)
    have g8 := i6 8 (by omega) (by omega)
    have f5 := i8 5 4 (by omega)
    have hwi := hw i (by omega)
    have q := tkH_ok (b := i) (z := z) hk z (w i) _ i1 hwi.1 hwi.2 (by rw [g6, g8, f5, i2]; exact hok i (by omega))
    rw [g6, g8, f5, i2, i5] at q
    obtain ⟨j1, j2, j3, j4, j5, j6, j7, j8, j9⟩ := q
    refine ⟨j1, j2, ?_, ?_, j5, ?_, ?_, ?_, ?_⟩
    · intro b
      rw [j3]
      simp only [upd, i3]
      by_cases e : b = i
      · subst e; rw [if_pos rfl, if_neg (by omega), if_pos (by omega)]
      · rw [if_neg e]
        by_cases e2 : b < i
        · rw [if_pos e2, if_pos (by omega)]
        · rw [if_neg e2, if_neg (by omega)]
    · rw [j4, i4, fsum, Int32.add_assoc]
    · intro x q1 q2; rw [j6 x q1 q2, i6 x q1 q2]
    · intro x; rw [j7, i7]
    · intro x l q; rw [j8 x l q, i8 x l q]
    · intro x l q; rw [j9 x l q, i9 x l q]
theorem mTk_gl {h : HF} (hS : Sh h) (t b : Nat) (n : Int32) (nl : Nat) : gl (mTk h t b n nl) 145 = vp_updL (gl h 145) t (tkP (gi h 135) (gi h 137) (fI h 132 0) (nI b) nl nl n (gi h 136) (gl h 145 t)).2 := by rw [mTk, gl_si, hT_145 hS]
theorem mTk_gl_o {h : HF} {t b : Nat} {n : Int32} {nl a : Nat} (ha : a ≠ 145) : gl (mTk h t b n nl) a = gl h a := by rw [mTk, gl_si, hT, gl_sl_ne ha, gl_si]
theorem mTk_fJ (h : HF) (t b : Nat) (n : Int32) (nl a j : Nat) : fJ (mTk h t b n nl) a j = fJ h a j := by rw [mTk, fJ_si, hT, fJ_sl, fJ_si]
theorem mTk_144 {h : HF} (hS : Sh h) (t b : Nat) (n : Int32) (nl : Nat) : gi (mTk h t b n nl) 144 = upd (gi h 144) (8 * t + b) (gi h 144 (8 * t + b) + n) := by rw [mTk, gi_si_eq (hS.hT _ _ _) (by decide) (by decide) rfl]
theorem mtL_all {t z : Nat} {h : HF} (hS : Sh h) {c w : Nat → Int32} (hw : ∀ i, i < 8 → 0 ≤ (w i).toInt) (hc : ∀ i, i < 8 → (0 < c i ↔ 0 < w i)) : ∀ i, i ≤ 8 → gi (mtL t z c w i h) 136 = (PPs (gi h 135) (gi h 137) (fI h 132 0) z w (gi h 136) (gl h 145 t) i).1 ∧ gl (mtL t z c w i h) 145 = vp_updL (gl h 145) t (PPs (gi h 135) (gi h 137) (fI h 132 0) z w (gi h 136) (gl h 145 t) i).2 ∧ (∀ j, gi (mtL t z c w i h) 144 j = if 8 * t ≤ j ∧ j < 8 * t + i then gi h 144 j + w (j - 8 * t) else gi h 144 j) ∧ (∀ x, x ≠ 145 → gl (mtL t z c w i h) x = gl h x) ∧ (∀ x j, fJ (mtL t z c w i h) x j = fJ h x j)
  | 0, _ => ⟨rfl, (updL_self _ _).symm, fun j => (if_neg (by omega)).symm, fun _ _ => rfl, fun _ _ => rfl⟩
  | i + 1, hi => by
    obtain ⟨i1, i2, i3, i4, i5⟩ := mtL_all (z := z) (t := t) hS hw hc i (by omega)
    have S1 := Sh_mtL t z c w i hS
    have g1 : gi (mtL t z c w i h) 135 = gi h 135 := mtL_gi (by decide) (by decide) i h
    have g2 : gi (mtL t z c w i h) 137 = gi h 137 := mtL_gi (by decide) (by decide) i h
    have f1 := mtL_fI t z c w 132 0 i h
    rw [mtL]
    by_cases q : 0 < c i
    · rw [if_pos q]
      refine ⟨?_, ?_, ?_, ?_, ?_⟩
      · rw [mTk_136 S1, g1, g2, f1, i1, i2, PPs, show vp_updL (gl h 145) t (PPs (gi h 135) (gi h 137) (fI h 132 0) z w (gi h 136) (gl h 145 t) i).2 t = _ from if_pos rfl]
      · rw [mTk_gl S1, g1, g2, f1, i1, i2, PPs, updL_updL, show vp_updL (gl h 145) t (PPs (gi h 135) (gi h 137) (fI h 132 0) z w (gi h 136) (gl h 145 t) i).2 t = _ from if_pos rfl]
      · intro j
        rw [mTk_144 S1]
        simp only [upd, i3]
        by_cases e : j = 8 * t + i
        · subst e; rw [if_pos rfl, if_neg (by omega), if_pos (by omega), show 8 * t + i - 8 * t = i by omega]
        · rw [if_neg e]
          by_cases e2 : 8 * t ≤ j ∧ j < 8 * t + i
          · rw [if_pos e2, if_pos (by omega)]
          · rw [if_neg e2, if_neg (by omega)]
      · intro x hx; rw [mTk_gl_o hx, i4 x hx]
      · intro x l; rw [mTk_fJ, i5]
    · rw [if_neg q]
      have q0 : w i = 0 := (tI_eq0 _).mpr (by
        have := hw i (by omega)
        have q2 : ¬ 0 < w i := fun z => q ((hc i (by omega)).mpr z)
        rw [tI_lt0] at q2; omega)
      have e1 : PPs (gi h 135) (gi h 137) (fI h 132 0) z w (gi h 136) (gl h 145 t) (i + 1) = PPs (gi h 135) (gi h 137) (fI h 132 0) z w (gi h 136) (gl h 145 t) i := by
        rw [PPs, tkP_0 (by rw [q0]; decide)]
      rw [e1]
      refine ⟨i1, i2, ?_, i4, i5⟩
      intro j
      rw [i3]
      by_cases e : j = 8 * t + i
      · subst e; rw [if_neg (by omega), if_pos (by omega), show 8 * t + i - 8 * t = i by omega, q0, Int32.add_zero]
      · by_cases e2 : 8 * t ≤ j ∧ j < 8 * t + i
        · rw [if_pos e2, if_pos (by omega)]
        · rw [if_neg e2, if_neg (by omega)]
theorem usum_add {f g w : Nat → Int32} {k : Nat} : ∀ {n : Nat}, (∀ b, b < n → g (8 * k + b) = f (8 * k + b) + w b) → usum g k n = usum f k n + fsum w n
  | 0, _ => by rw [usum, usum, fsum, Int32.add_zero]
  | n + 1, h => by
    rw [usum, usum, fsum, usum_add (n := n) (fun b hb => h b (by omega)), h n (by omega)]
    ac_rfl
theorem fsum_congr {w w' : Nat → Int32} : ∀ {n : Nat}, (∀ b, b < n → w b = w' b) → fsum w n = fsum w' n
  | 0, _ => rfl
  | n + 1, h => by rw [fsum, fsum, fsum_congr (n := n) (fun b hb => h b (by omega)), h n (by omega)]
theorem lkB_congr {w w' f : Nat → Int32} : ∀ {n : Nat}, (∀ b, b < n → w b = w' b) → lkB w f n = lkB w' f n
  | 0, _ => rfl
  | n + 1, h => by rw [lkB, lkB, lkB_congr (n := n) (fun b hb => h b (by omega)), h n (by omega)]
theorem fsum_nn {w : Nat → Int32} : ∀ {n : Nat}, n ≤ 8 → (∀ b, b < n → 0 ≤ (w b).toInt ∧ (w b).toInt ≤ 10000000) → 0 ≤ (fsum w n).toInt ∧ (fsum w n).toInt ≤ n * 10000000 ∧ ∀ b, b < n → (w b).toInt ≤ (fsum w n).toInt
  | 0, _, _ => ⟨by rw [fsum]; decide, by rw [fsum]; decide, fun b hb => by omega⟩
  | n + 1, hn, h => by
    obtain ⟨i1, i2, i3⟩ := fsum_nn (n := n) (by omega) (fun b hb => h b (by omega))
    have hw := h n (by omega)
    have e : (fsum w n + w n).toInt = (fsum w n).toInt + (w n).toInt := tI_add (by omega) (by omega) (by omega) (by omega)
    rw [fsum, e]
    refine ⟨by omega, by omega, fun b hb => ?_⟩
    by_cases q : b = n
    · subst q; omega
    · have := i3 b (by omega); omega
theorem sU_none {B L S : Nat → Int32} {day b : Int32} : ∀ {n : Nat}, (∀ l, l < n → ¬ B l = b) → sU B L S day b n = 0
  | 0, _ => rfl
  | n + 1, h => by rw [sU_f (fun z => h n (by omega) z.1), sU_none (n := n) (fun l hl => h l (by omega))]
theorem usum_eq {f g : Nat → Int32} {k : Nat} : ∀ {n : Nat}, (∀ b, b < n → g (8 * k + b) = f (8 * k + b)) → usum g k n = usum f k n
  | 0, _ => rfl
  | n + 1, h => by rw [usum, usum, usum_eq (n := n) (fun b hb => h b (by omega)), h n (by omega)]
theorem take_ok {h : HF} {nb nl nr nt nd nj np : Nat} (r : Rel h nb nl nr nt nd nj np) {k : Nat} (hk : k < 24) {w w' c : Nat → Int32} (hw' : ∀ b, b < 8 → w' b = w b) (hc : ∀ b, b < 8 → (0 < c b ↔ 0 < w' b)) (hw : ∀ b, b < 8 → 0 ≤ (w b).toInt ∧ (w b).toInt ≤ 1000000000) (hlk : lkB w (fun b => sU (gi h 135) (gi h 137) (gi h 136) (fI h 132 0) (nI b) nl) 8 = false) (hle : usum (gi h 144) k 8 + fsum w 8 ≤ 20000) : Sh (twL (41 + 3 * k) nl w 8 h) ∧ (∀ j, fI (twL (41 + 3 * k) nl w 8 h) 132 j = fI h 132 j) ∧ (∀ x, 132 ≤ x → gi (twL (41 + 3 * k) nl w 8 h) x = gi h x) ∧ (∀ x, gl (twL (41 + 3 * k) nl w 8 h) x = gl h x) ∧ fI (twL (41 + 3 * k) nl w 8 h) (41 + 3 * k) 1 = usum (gi (mtL k nl c w' 8 (twL (41 + 3 * k) nl w 8 h)) 144) k 8 ∧ Rel (mtL k nl c w' 8 (twL (41 + 3 * k) nl w 8 h)) nb nl nr nt nd nj np := by
  have D := r.d.K k hk
  have hps := r.b.P
  have hwu : ∀ b, b < 8 → (w b).toInt ≤ 10000000 ∧ (w b).toInt ≤ (sU (gi h 135) (gi h 137) (gi h 136) (fI h 132 0) (nI b) nl).toInt ∨ w b = 0 := by
    intro b hb
    have q0 := hw b hb
    rcases lkB_no hlk b hb with q | q
    · have q := Int32.le_iff_toInt_le.mp q
      have q1 := sU_z (B := gi h 135) (L := gi h 137) (day := fI h 132 0) (b := nI b) hps r.b.le
      have q2 := sUz_b (B := gi h 135) (L := gi h 137) (day := fI h 132 0) (b := nI b) hps
      have q3 := r.b.le
      exact Or.inl ⟨by omega, q⟩
    · exact Or.inr ((tI_eq0 _).mpr (by have := (tI_le0 _).mp q; omega))
  have hwb : ∀ b, b < 8 → 0 ≤ (w b).toInt ∧ (w b).toInt ≤ 10000000 := fun b hb => ⟨(hw b hb).1, by
    rcases hwu b hb with q | q
    · exact q.1
    · rw [q]; decide⟩
  have hwb' : ∀ b, b < 8 → 0 ≤ (w' b).toInt ∧ (w' b).toInt ≤ 10000000 := fun b hb => by rw [hw' b hb]; exact hwb b hb
  have hwz : ∀ b, b < 8 → nb ≤ b → w b = 0 := by
    intro b hb hn
    rcases hwu b hb with q | q
    · have q1 : sU (gi h 135) (gi h 137) (gi h 136) (fI h 132 0) (nI b) nl = 0 := sU_none (fun l hl e => by
        obtain ⟨b', h1, h2⟩ := r.b.lb l hl
        have := (nI_eq (by have := r.a.le; omega) (by omega)).mp (h2.symm.trans e)
        omega)
      rw [q1] at q
      have := (hw b hb).1
      exact (tI_eq0 _).mpr (by have := q.2; simp only [Int32.reduceToInt] at this; omega)
    · exact q
  have fs := fsum_nn (n := 8) (w := w') (by omega) hwb'
  have hul := D.ul
  have hu0 : 0 ≤ (usum (gi h 144) k 8).toInt := by have q := D.bd 0 (by omega); omega
  have su : (usum (gi h 144) k 8 + fsum w' 8).toInt = (usum (gi h 144) k 8).toInt + (fsum w' 8).toInt := tI_add (by omega) (by omega) (by omega) (by omega)
  have sle : (usum (gi h 144) k 8).toInt + (fsum w' 8).toInt ≤ 20000 := by
    rw [← su, fsum_congr hw']; exact Int32.le_iff_toInt_le.mp hle
  have hB := r.b.B
  have hL := r.b.L
  have hSS := r.b.S
  have hd := r.b.day
  have hok : ∀ i, i < 8 → tkok (gi h 6) (gi h 8) (fI h 5 4) (nI i) nl nl (w i) (PPs (gi h 6) (gi h 8) (fI h 5 4) nl w (gi h 7) (fJ h (41 + 3 * k) 2) i).1 := fun i hi => by
    rw [hB, hL, hd, hSS]; exact PPs_tkok r.b.le hps hw hlk hi
  obtain ⟨c1, c2, c3, c4, c5, G1, L1, F1, J1⟩ := twL_ok r.S hk hw hok 8 (by omega)
  rw [hB, hL, hd, hSS, D.lo] at c2 c5
  generalize hh1 : twL (41 + 3 * k) nl w 8 h = h1 at *
  have n135 := G1 135 (by omega) (by omega)
  have n136 := G1 136 (by omega) (by omega)
  have n137 := G1 137 (by omega) (by omega)
  have n144 := G1 144 (by omega) (by omega)
  have nday := F1 132 0 (by omega)
  obtain ⟨m1, m2, m3, L2, J2⟩ := mtL_all (t := k) (z := nl) (c := c) (w := w') c1 (fun i hi => (hwb' i hi).1) hc 8 (by omega)
  have S2 := Sh_mtL k nl c w' 8 c1
  have G2 : ∀ x, x ≠ 136 → x ≠ 144 → gi (mtL k nl c w' 8 h1) x = gi h1 x := fun x q1 q2 => mtL_gi q1 q2 8 h1
  have F2 : ∀ x j, fI (mtL k nl c w' 8 h1) x j = fI h1 x j := fun x j => mtL_fI k nl c w' x j 8 h1
  rw [PPs_congr hw'] at m1 m2
  generalize hh2 : mtL k nl c w' 8 h1 = h2 at *
  have w7 : gi h2 7 = gi h2 136 := by rw [G2 7 (by omega) (by omega), c2, m1, n135, n137, nday, n136, L1]
  have w136 : gi h2 136 = (PPs (gi h 135) (gi h 137) (fI h 132 0) nl w (gi h 136) (gl h 145 k) 8).1 := by rw [m1, n135, n137, nday, n136, L1]
  have vus0 : usum (gi h2 144) k 8 = usum (gi h 144) k 8 + fsum w' 8 := usum_add (fun b hb => by
        rw [m3, if_pos (by omega), show 8 * k + b - 8 * k = b by omega, n144])
  refine ⟨c1, fun j => F1 _ _ (by omega), fun x hx => G1 x (by omega) (by omega), L1, by rw [c4, vus0, D.un, fsum_congr hw'], ?_⟩
  exact Rel.of (S2)
    (Ra.of (by (try simp (disch := omega) only [G2, L2, F2, J2, G1, L1, F1, J1]); exact r.a.c)
    (by (try simp (disch := omega) only [G2, L2, F2, J2, G1, L1, F1, J1]); exact r.a.m)
    (by (try simp (disch := omega) only [G2, L2, F2, J2, G1, L1, F1, J1]); exact r.a.le)
    (by (try simp (disch := omega) only [G2, L2, F2, J2, G1, L1, F1, J1]); exact r.a.A)
    (by (try simp (disch := omega) only [G2, L2, F2, J2, G1, L1, F1, J1]); exact r.a.P))
    (Rb.of (by (try simp (disch := omega) only [G2, L2, F2, J2, G1, L1, F1, J1]); exact r.b.c)
    (by (try simp (disch := omega) only [G2, L2, F2, J2, G1, L1, F1, J1]); exact r.b.m)
    (by (try simp (disch := omega) only [G2, L2, F2, J2, G1, L1, F1, J1]); exact r.b.le)
    (by (try simp (disch := omega) only [G2, L2, F2, J2, G1, L1, F1, J1]); exact r.b.day)
    (by (try simp (disch := omega) only [G2, L2, F2, J2, G1, L1, F1, J1]); exact r.b.B)
    (w7)
    (by (try simp (disch := omega) only [G2, L2, F2, J2, G1, L1, F1, J1]); exact r.b.L)
    (by rw [w136]; exact (PPs_ok (B := gi h 135) (L := gi h 137) (day := fI h 132 0) (x := gl h 145 k) hps hw 8 (by omega)).1)
    (by (try simp (disch := omega) only [G2, L2, F2, J2, G1, L1, F1, J1]); exact r.b.lb))
    (Rc.of (by (try simp (disch := omega) only [G2, L2, F2, J2, G1, L1, F1, J1]); exact r.c.c)
    (by (try simp (disch := omega) only [G2, L2, F2, J2, G1, L1, F1, J1]); exact r.c.m)
    (by (try simp (disch := omega) only [G2, L2, F2, J2, G1, L1, F1, J1]); exact r.c.le)
    (by (try simp (disch := omega) only [G2, L2, F2, J2, G1, L1, F1, J1]); exact r.c.E)
    (by (try simp (disch := omega) only [G2, L2, F2, J2, G1, L1, F1, J1]); exact r.c.S)
    (by (try simp (disch := omega) only [G2, L2, F2, J2, G1, L1, F1, J1]); exact r.c.T)
    (by (try simp (disch := omega) only [G2, L2, F2, J2, G1, L1, F1, J1]); exact r.c.C)
    (by (try simp (disch := omega) only [G2, L2, F2, J2, G1, L1, F1, J1]); exact r.c.N)
    (by (try simp (disch := omega) only [G2, L2, F2, J2, G1, L1, F1, J1]); exact r.c.ok)
    (by (try simp (disch := omega) only [G2, L2, F2, J2, G1, L1, F1, J1]); exact r.c.tm)
    (by (try simp (disch := omega) only [G2, L2, F2, J2, G1, L1, F1, J1]); exact r.c.tz)
    (by (try simp (disch := omega) only [G2, L2, F2, J2, G1, L1, F1, J1]); exact r.c.cz)
    (by (try simp (disch := omega) only [G2, L2, F2, J2, G1, L1, F1, J1]); exact r.c.nn))
    (Rd.of (by (try simp (disch := omega) only [G2, L2, F2, J2, G1, L1, F1, J1]); exact r.d.c)
    (by (try simp (disch := omega) only [G2, L2, F2, J2, G1, L1, F1, J1]); exact r.d.m)
    (by (try simp (disch := omega) only [G2, L2, F2, J2, G1, L1, F1, J1]); exact r.d.le)
    (by
    intro k' hk'
    by_cases e : k' = k
    · subst e
      have vam : ∀ b, b < 8 → gi h2 144 (8 * k' + b) = gi h 144 (8 * k' + b) + w' b := fun b hb => by
        rw [m3, if_pos (by omega), show 8 * k' + b - 8 * k' = b by omega, n144]
      have vus : usum (gi h2 144) k' 8 = usum (gi h 144) k' 8 + fsum w' 8 := usum_add vam
      have vlo : gl h2 145 k' = (PPs (gi h 135) (gi h 137) (fI h 132 0) nl w (gi h 136) (gl h 145 k') 8).2 := by
        rw [m2, n135, n137, nday, n136, L1]; exact if_pos rfl
      exact RdK.of (fun b hb => by rw [G2 _ (by omega) (by omega), c3 b, if_pos hb, vam b hb, hw' b hb, D.am b hb])
        (fun b hb => by
          have q1 := D.bd b hb
          have q2 := hwb b hb
          have q3 := D.ul
          have q4 := (fsum_nn (n := 8) (w := w') (by omega) hwb').2.2 b hb
          rw [hw' b hb] at q4
          rw [vam b hb, hw' b hb, vus, su, tI_add (by omega) (by omega) (by omega) (by omega)]
          omega)
        (fun b hb hn => by rw [vam b hb, D.zr b hb hn, hw' b hb, hwz b hb hn, Int32.add_zero])
        (by rw [F2, c4, vus, D.un, fsum_congr hw'])
        (by rw [vus, su]; omega)
        (by rw [J2, c5, vlo])
        (by rw [vlo]; exact PPs_bit r.b.le D.lb 8)
        (by (try simp (disch := omega) only [G2, L2, F2, J2, G1, L1, F1, J1]); exact D.po)
    · have D' := r.d.K k' hk'
      have vam : ∀ b, b < 8 → gi h2 144 (8 * k' + b) = gi h 144 (8 * k' + b) := fun b hb => by
        rw [m3, if_neg (by omega), n144]
      have vus : usum (gi h2 144) k' 8 = usum (gi h 144) k' 8 := usum_eq vam
      have vlo : gl h2 145 k' = gl h 145 k' := by
        rw [m2, L1]; exact if_neg e
      exact RdK.of (fun b hb => by rw [G2 _ (by omega) (by omega), G1 _ (by omega) (by omega), vam b hb]; exact D'.am b hb)
        (fun b hb => by rw [vam b hb, vus]; exact D'.bd b hb)
        (fun b hb hn => by rw [vam b hb]; exact D'.zr b hb hn)
        (by (try simp (disch := omega) only [vus, vlo, G2, L2, F2, J2, G1, L1, F1, J1]); exact D'.un)
        (by (try simp (disch := omega) only [vus, vlo, G2, L2, F2, J2, G1, L1, F1, J1]); exact D'.ul)
        (by (try simp (disch := omega) only [vus, vlo, G2, L2, F2, J2, G1, L1, F1, J1]); exact D'.lo)
        (by (try simp (disch := omega) only [vus, vlo, G2, L2, F2, J2, G1, L1, F1, J1]); exact D'.lb)
        (by (try simp (disch := omega) only [vus, vlo, G2, L2, F2, J2, G1, L1, F1, J1]); exact D'.po)))
    (Re.of (by (try simp (disch := omega) only [G2, L2, F2, J2, G1, L1, F1, J1]); exact r.e.fd)
    (by (try simp (disch := omega) only [G2, L2, F2, J2, G1, L1, F1, J1]); exact r.e.be)
    (by (try simp (disch := omega) only [G2, L2, F2, J2, G1, L1, F1, J1]); exact r.e.bb)
    (by (try simp (disch := omega) only [G2, L2, F2, J2, G1, L1, F1, J1]); exact r.e.z))
    (Rf.of (by (try simp (disch := omega) only [G2, L2, F2, J2, G1, L1, F1, J1]); exact r.f.lim)
    (by (try simp (disch := omega) only [G2, L2, F2, J2, G1, L1, F1, J1]); exact r.f.l0)
    (by (try simp (disch := omega) only [G2, L2, F2, J2, G1, L1, F1, J1]); exact r.f.cl)
    (by (try simp (disch := omega) only [G2, L2, F2, J2, G1, L1, F1, J1]); exact r.f.no)
    (fun t ht => RfK.of (by (try simp (disch := omega) only [G2, L2, F2, J2, G1, L1, F1, J1]); exact (r.f.K t ht).ins)
      (by (try simp (disch := omega) only [G2, L2, F2, J2, G1, L1, F1, J1]); exact (r.f.K t ht).siz)
      (by (try simp (disch := omega) only [G2, L2, F2, J2, G1, L1, F1, J1]); exact (r.f.K t ht).bat)
      (by (try simp (disch := omega) only [G2, L2, F2, J2, G1, L1, F1, J1]); exact (r.f.K t ht).tap)
      (by (try simp (disch := omega) only [G2, L2, F2, J2, G1, L1, F1, J1]); exact (r.f.K t ht).stn)
      (by (try simp (disch := omega) only [G2, L2, F2, J2, G1, L1, F1, J1]); exact (r.f.K t ht).sta)
      (by (try simp (disch := omega) only [G2, L2, F2, J2, G1, L1, F1, J1]); exact (r.f.K t ht).am)
      (by (try simp (disch := omega) only [G2, L2, F2, J2, G1, L1, F1, J1]); exact (r.f.K t ht).zr)
      (by (try simp (disch := omega) only [G2, L2, F2, J2, G1, L1, F1, J1]); exact (r.f.K t ht).lo)
      (by (try simp (disch := omega) only [G2, L2, F2, J2, G1, L1, F1, J1]); exact (r.f.K t ht).h0)
      (by (try simp (disch := omega) only [G2, L2, F2, J2, G1, L1, F1, J1]); exact (r.f.K t ht).hr)
      (by (try simp (disch := omega) only [G2, L2, F2, J2, G1, L1, F1, J1]); exact (r.f.K t ht).r6)
      (by (try simp (disch := omega) only [G2, L2, F2, J2, G1, L1, F1, J1]); exact (r.f.K t ht).hs)
      (by (try simp (disch := omega) only [G2, L2, F2, J2, G1, L1, F1, J1]); exact (r.f.K t ht).lb)
      (by (try simp (disch := omega) only [G2, L2, F2, J2, G1, L1, F1, J1]); exact (r.f.K t ht).bb)))
    (Rg.of (by (try simp (disch := omega) only [G2, L2, F2, J2, G1, L1, F1, J1]); exact r.g.c)
    (by (try simp (disch := omega) only [G2, L2, F2, J2, G1, L1, F1, J1]); exact r.g.m)
    (by (try simp (disch := omega) only [G2, L2, F2, J2, G1, L1, F1, J1]); exact r.g.le)
    (by (try simp (disch := omega) only [G2, L2, F2, J2, G1, L1, F1, J1]); exact r.g.u)
    (by (try simp (disch := omega) only [G2, L2, F2, J2, G1, L1, F1, J1]); exact r.g.t)
    (by (try simp (disch := omega) only [G2, L2, F2, J2, G1, L1, F1, J1]); exact r.g.d)
    (by (try simp (disch := omega) only [G2, L2, F2, J2, G1, L1, F1, J1]); exact r.g.b)
    (by (try simp (disch := omega) only [G2, L2, F2, J2, G1, L1, F1, J1]); exact r.g.l)
    (by (try simp (disch := omega) only [G2, L2, F2, J2, G1, L1, F1, J1]); exact r.g.bb)
    (by (try simp (disch := omega) only [G2, L2, F2, J2, G1, L1, F1, J1]); exact r.g.lb))
    (Rh.of (by (try simp (disch := omega) only [G2, L2, F2, J2, G1, L1, F1, J1]); exact r.j.c)
    (by (try simp (disch := omega) only [G2, L2, F2, J2, G1, L1, F1, J1]); exact r.j.m)
    (by (try simp (disch := omega) only [G2, L2, F2, J2, G1, L1, F1, J1]); exact r.j.le)
    (by (try simp (disch := omega) only [G2, L2, F2, J2, G1, L1, F1, J1]); exact r.j.pc)
    (by (try simp (disch := omega) only [G2, L2, F2, J2, G1, L1, F1, J1]); exact r.j.pm)
    (by (try simp (disch := omega) only [G2, L2, F2, J2, G1, L1, F1, J1]); exact r.j.pl)
    (by (try simp (disch := omega) only [G2, L2, F2, J2, G1, L1, F1, J1]); exact r.j.hu)
    (by (try simp (disch := omega) only [G2, L2, F2, J2, G1, L1, F1, J1]); exact r.j.ti)
    (by (try simp (disch := omega) only [G2, L2, F2, J2, G1, L1, F1, J1]); exact r.j.du)
    (by (try simp (disch := omega) only [G2, L2, F2, J2, G1, L1, F1, J1]); exact r.j.pr)
    (by (try simp (disch := omega) only [G2, L2, F2, J2, G1, L1, F1, J1]); exact r.j.ch)
    (by (try simp (disch := omega) only [G2, L2, F2, J2, G1, L1, F1, J1]); exact r.j.od)
    (by (try simp (disch := omega) only [G2, L2, F2, J2, G1, L1, F1, J1]); exact r.j.ok)
    (by (try simp (disch := omega) only [G2, L2, F2, J2, G1, L1, F1, J1]); exact r.j.tb)
    (by (try simp (disch := omega) only [G2, L2, F2, J2, G1, L1, F1, J1]); exact r.j.db))
