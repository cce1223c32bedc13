theorem fnN_congr {E S T f g : Nat → Int32} {r b : Nat} (hr : r < 12) (hb : b < 8) : ∀ {c : Nat}, (∀ i, i < c → okp E S r (r * 6 + i)) → (∀ j, j < r * 8 → f j = g j) → fnN E S T f r b c = fnN E S T g r b c
  | 0, _, _ => rfl
  | c + 1, ho, hf => by
    rw [fnN, fnN, fnN_congr hr hb (c := c) (fun i hi => ho i (by omega)) hf]
    obtain ⟨s, e, h0, h1⟩ := ho c (by omega)
    by_cases z : E (r * 6 + c) = 0
    · rw [if_pos z, if_pos z]
    · have hs := h1 z
      rw [if_neg z, if_neg z, e, nI_clamp (by omega), hf (s * 8 + b) (by omega)]
theorem rr_eq {E S T f : Nat → Int32} {r : Nat} (hr : r < 12) : ∀ {c : Nat}, (∀ i, i < c → okp E S r (r * 6 + i)) → rrP E S T r f c = fun j => if r * 8 ≤ j ∧ j < r * 8 + 8 then f j + fnN E S T f r (j - r * 8) c else f j
  | 0, _ => by
    funext j
    rw [rrP]
    split
    · rw [fnN, Int32.add_zero]
    · rfl
  | c + 1, ho => by
    rw [rrP, rr_eq hr (c := c) (fun i hi => ho i (by omega)), apP]
    obtain ⟨s, e, h0, h1⟩ := ho c (by omega)
    funext j
    by_cases z : E (r * 6 + c) = 0
    · have hs := h0 z
      rw [if_pos z, e, nI_clamp (by omega), apN]
      simp only [upd, fnN, if_pos z, e]
      by_cases q : j = r * 8 + s
      · subst q
        rw [if_pos rfl, if_pos (by omega), if_pos (by omega), show r * 8 + s - r * 8 = s by omega, if_pos rfl, Int32.add_assoc]
      · rw [if_neg q]
        by_cases p : r * 8 ≤ j ∧ j < r * 8 + 8
        · rw [if_pos p, if_pos p, if_neg (fun y => q (by have := (nI_eq (by omega) (by omega)).mp y; omega)), Int32.add_zero]
        · rw [if_neg p, if_neg p]
    · have hs := h1 z
      rw [if_neg z, e, nI_clamp (by omega), apE]
      simp only [fnN, if_neg z, e, nI_clamp (show s < 2147483648 by omega)]
      by_cases p : r * 8 ≤ j ∧ j < r * 8 + 8
      · rw [if_pos p, if_pos p, if_pos p, if_neg (by omega), Int32.add_assoc]
      · rw [if_neg p, if_neg p, if_neg p]
theorem fnR_eq {E S T f : Nat → Int32} {r c : Nat} (hr : r < 12) (ho : ∀ i, i < c → okp E S r (r * 6 + i)) : ∀ {b : Nat}, b ≤ 8 → fnR E S T f r c b = fun j => if r * 8 ≤ j ∧ j < r * 8 + b then fnN E S T f r (j - r * 8) c else f j
  | 0, _ => by
    funext j
    rw [fnR, if_neg (by omega)]
  | b + 1, hb => by
    rw [fnR, fnR_eq hr ho (b := b) (by omega)]
    rw [fnN_congr (g := f) hr (show b < 8 by omega) ho (fun j hj => if_neg (by omega))]
    funext j
    simp only [upd]
    by_cases q : j = r * 8 + b
    · subst q
      rw [if_pos rfl, if_pos (by omega), show r * 8 + b - r * 8 = b by omega]
    · rw [if_neg q]
      by_cases p : r * 8 ≤ j ∧ j < r * 8 + b
      · rw [if_pos p, if_pos (by omega)]
      · rw [if_neg p, if_neg (by omega)]
theorem fnS_eq {E S T f : Nat → Int32} {r c : Nat} (hr : r < 12) (ho : ∀ i, i < c → okp E S r (r * 6 + i)) : ∀ {b : Nat}, b ≤ 8 → fnS E S T f r c b = fsum (fun b => fnN E S T f r b c) b
  | 0, _ => rfl
  | b + 1, hb => by
    rw [fnS, fnS_eq hr ho (b := b) (by omega), fnR_eq hr ho (by omega), fnN_congr (g := f) hr (show b < 8 by omega) ho (fun j hj => if_neg (by omega)), fsum]
theorem rsum_fs (f : Nat → Int32) (r : Nat) : ∀ n, rsum f r n = fsum (fun b => f (r * 8 + b)) n
  | 0 => rfl
  | n + 1 => by rw [rsum, fsum, rsum_fs f r n]
theorem ra_fn {E S T C : Nat → Int32} {z : Nat} (hz : z ≤ 12) (ok : okA E S C z) : ∀ (k i : Nat) (f g : Nat → Int32), i + k = z → (∀ j, j < 8 * i → f j = g j) → (∀ j, 8 * i ≤ j → j < 96 → f j = 0) → (raR E S T C k i f).1 = (fnA E S T C k i g).1 ∧ ((raR E S T C k i f).1 = true → (∀ j, j < 8 * z → (raR E S T C k i f).2 j = (fnA E S T C k i g).2 j) ∧ (∀ j, 8 * z ≤ j → j < 96 → (raR E S T C k i f).2 j = 0)) ∧ (∀ j, 8 * z ≤ j → (fnA E S T C k i g).2 j = g j)
  | 0, i, f, g, hi, h1, h2 => by
    obtain rfl : i = z := by omega
    exact ⟨rfl, fun _ => ⟨h1, h2⟩, fun _ _ => rfl⟩
  | k + 1, i, f, g, hi, h1, h2 => by
    obtain ⟨c, hc, e, ho⟩ := ok i (by omega)
    have hi12 : i < 12 := by omega
    rw [raR, fnA, e, nI_clamp (by omega)]
    have e1 : rrP E S T i f c = fun j => if i * 8 ≤ j ∧ j < i * 8 + 8 then f j + fnN E S T f i (j - i * 8) c else f j := rr_eq hi12 ho
    have e2 : fnR E S T g i c 8 = fun j => if i * 8 ≤ j ∧ j < i * 8 + 8 then fnN E S T g i (j - i * 8) c else g j := fnR_eq hi12 ho (by omega)
    have e3 : ∀ b, b < 8 → fnN E S T f i b c = fnN E S T g i b c := fun b hb => fnN_congr hi12 hb ho (fun j hj => h1 j (by omega))
    have e4 : rsum (rrP E S T i f c) i 8 = fnS E S T g i c 8 := by
      rw [fnS_eq hi12 ho (by omega), rsum_fs, e1]
      refine fsum_congr (fun b hb => ?_)
      show (if i * 8 ≤ i * 8 + b ∧ i * 8 + b < i * 8 + 8 then f (i * 8 + b) + fnN E S T f i (i * 8 + b - i * 8) c else f (i * 8 + b)) = fnN E S T g i b c
      rw [if_pos (by omega), h2 _ (by omega) (by omega), Int32.zero_add, show i * 8 + b - i * 8 = b by omega, e3 b hb]
    rw [e4]
    have e5 : ∀ j, 8 * z ≤ j → fnR E S T g i c 8 j = g j := fun j hj => by rw [e2]; exact if_neg (by omega)
    by_cases q : 20000 < fnS E S T g i c 8
    · rw [if_pos q, if_pos q]
      exact ⟨rfl, fun y => absurd y (by simp), e5⟩
    · rw [if_neg q, if_neg q]
      have ih := ra_fn (T := T) hz ok k (i + 1) (rrP E S T i f c) (fnR E S T g i c 8) (by omega) (by
        intro j hj
        rw [e1, e2]
        by_cases p : i * 8 ≤ j ∧ j < i * 8 + 8
        · show (if _ then _ else _) = (if _ then _ else _)
          rw [if_pos p, if_pos p, h2 j (by omega) (by omega), Int32.zero_add, e3 _ (by omega)]
        · show (if _ then _ else _) = (if _ then _ else _)
          rw [if_neg p, if_neg p, h1 j (by omega)]) (by
        intro j hj hj2
        rw [e1]
        show (if _ then _ else _) = _
        rw [if_neg (by omega), h2 j (by omega) hj2])
      exact ⟨ih.1, ih.2.1, fun j hj => by rw [ih.2.2 j hj, e5 j hj]⟩
theorem fsum_n2 {w : Nat → Int32} : ∀ {n : Nat}, n ≤ 8 → (∀ b, b < n → 0 ≤ (w b).toInt ∧ (w b).toInt ≤ 20000000) → 0 ≤ (fsum w n).toInt ∧ (fsum w n).toInt ≤ n * 20000000 ∧ ∀ b, b < n → (w b).toInt ≤ (fsum w n).toInt
  | 0, _, _ => ⟨by rw [fsum]; decide, by rw [fsum]; decide, fun b hb => by omega⟩
  | n + 1, hn, h => by
    obtain ⟨i1, i2, i3⟩ := fsum_n2 (n := n) (by omega) (fun b hb => h b (by omega))
    have hw := h n (by omega)
    have e : (fsum w n + w n).toInt = (fsum w n).toInt + (w n).toInt := tI_add (by omega) (by omega) (by omega) (by omega)
    rw [fsum, e]
    refine ⟨by omega, by omega, fun b hb => ?_⟩
    by_cases q : b = n
    · subst q; omega
    · have := i3 b (by omega); omega
theorem fnN_rng {E S T f : Nat → Int32} {r b : Nat} (hr : r < 12) (hb : b < 8) (hT : ∀ j, 0 ≤ (T j).toInt ∧ (T j).toInt ≤ 100) (hf : ∀ j, j < r * 8 → 0 ≤ (f j).toInt ∧ (f j).toInt ≤ 20000) : ∀ {c : Nat}, c ≤ 6 → (∀ i, i < c → okp E S r (r * 6 + i)) → 0 ≤ (fnN E S T f r b c).toInt ∧ (fnN E S T f r b c).toInt ≤ c * 2000000
  | 0, _, _ => ⟨by rw [fnN]; decide, by rw [fnN]; decide⟩
  | c + 1, hc, ho => by
    obtain ⟨i1, i2⟩ := fnN_rng hr hb hT hf (c := c) (by omega) (fun i hi => ho i (by omega))
    obtain ⟨s, e, h0, h1⟩ := ho c (by omega)
    have ht := hT (r * 6 + c)
    have hx : 0 ≤ (if E (r * 6 + c) = 0 then (if S (r * 6 + c) = nI b then T (r * 6 + c) else 0) else T (r * 6 + c) * f ((S (r * 6 + c)).toNatClampNeg * 8 + b)).toInt ∧ (if E (r * 6 + c) = 0 then (if S (r * 6 + c) = nI b then T (r * 6 + c) else 0) else T (r * 6 + c) * f ((S (r * 6 + c)).toNatClampNeg * 8 + b)).toInt ≤ 2000000 := by
      by_cases z : E (r * 6 + c) = 0
      · rw [if_pos z]
        split
        · omega
        · exact ⟨by decide, by decide⟩
      · have hs := h1 z
        rw [if_neg z, e, nI_clamp (by omega)]
        have q := hf (s * 8 + b) (by omega)
        have p1 : 0 ≤ (T (r * 6 + c)).toInt * (f (s * 8 + b)).toInt := Int.mul_nonneg ht.1 q.1
        have p2 : (T (r * 6 + c)).toInt * (f (s * 8 + b)).toInt ≤ 100 * 20000 := Int.mul_le_mul ht.2 q.2 q.1 (by omega)
        rw [tI_mul (by omega) (by omega)]
        omega
    rw [fnN, tI_add (by omega) (by omega) (by omega) (by omega)]
    omega
theorem fnA_rng {E S T C : Nat → Int32} {z : Nat} (hz : z ≤ 12) (ok : okA E S C z) (hT : ∀ j, 0 ≤ (T j).toInt ∧ (T j).toInt ≤ 100) : ∀ (k i : Nat) (g : Nat → Int32), i + k = z → (∀ j, j < 8 * i → 0 ≤ (g j).toInt ∧ (g j).toInt ≤ 20000) → (fnA E S T C k i g).1 = true → ∀ j, j < 8 * z → 0 ≤ ((fnA E S T C k i g).2 j).toInt ∧ ((fnA E S T C k i g).2 j).toInt ≤ 20000
  | 0, i, g, hi, h1, _ => by
    obtain rfl : i = z := by omega
    exact h1
  | k + 1, i, g, hi, h1, ht => by
    obtain ⟨c, hc, e, ho⟩ := ok i (by omega)
    have hi12 : i < 12 := by omega
    rw [fnA, e, nI_clamp (by omega)] at ht ⊢
    have e2 : fnR E S T g i c 8 = fun j => if i * 8 ≤ j ∧ j < i * 8 + 8 then fnN E S T g i (j - i * 8) c else g j := fnR_eq hi12 ho (by omega)
    by_cases q : 20000 < fnS E S T g i c 8
    · rw [if_pos q] at ht; exact absurd ht (by simp)
    · rw [if_neg q] at ht ⊢
      refine fnA_rng hz ok hT k (i + 1) _ (by omega) ?_ ht
      intro j hj
      rw [e2]
      show 0 ≤ (if i * 8 ≤ j ∧ j < i * 8 + 8 then fnN E S T g i (j - i * 8) c else g j).toInt ∧ (if i * 8 ≤ j ∧ j < i * 8 + 8 then fnN E S T g i (j - i * 8) c else g j).toInt ≤ 20000
      by_cases p : i * 8 ≤ j ∧ j < i * 8 + 8
      · rw [if_pos p]
        rw [fnS_eq hi12 ho (by omega)] at q
        have q := Int32.le_iff_toInt_le.mp (Int32.not_lt.mp q)
        rw [show (20000 : Int32).toInt = 20000 from rfl] at q
        have rg : ∀ b, b < 8 → 0 ≤ (fnN E S T g i b c).toInt ∧ (fnN E S T g i b c).toInt ≤ 20000000 := fun b hb => by
          have y := fnN_rng (b := b) hi12 hb hT (fun j hj => h1 j (by omega)) hc ho
          omega
        have fs := fsum_n2 (n := 8) (w := fun b => fnN E S T g i b c) (by omega) rg
        have y := fs.2.2 (j - i * 8) (by omega)
        have y2 := (rg (j - i * 8) (by omega)).1
        omega
      · rw [if_neg p]; exact h1 j (by omega)
theorem okA_same {E S C : Nat → Int32} {z a c : Nat} {e v : Int32} (ok : okA E S C z) (hc : C a = nI c) (hc6 : c < 6) : okA (upd E (a * 6 + c) e) (upd S (a * 6 + c) v) C z := by
  intro r hr
  obtain ⟨c', h1, h2, h3⟩ := ok r hr
  refine ⟨c', h1, h2, fun i hi => ?_⟩
  obtain ⟨s, q1, q2, q3⟩ := h3 i hi
  have hne : ¬ r * 6 + i = a * 6 + c := by
    intro y
    have : r = a := by omega
    subst this
    have := (nI_eq (by omega) (by omega)).mp (h2.symm.trans hc)
    omega
  refine ⟨s, ?_, ?_, ?_⟩
  · simp only [upd, if_neg hne]; exact q1
  · simp only [upd, if_neg hne]; exact q2
  · simp only [upd, if_neg hne]; exact q3
theorem upd_back (C : Nat → Int32) (a : Nat) (x y : Int32) (h : C a = y) : upd (upd C a x) a y = C := by
  funext j; simp only [upd]; split
  · rename_i e; rw [e, h]
  · rfl
theorem part_ok {h : HF} {nb nl nr nt nd nj np : Nat} (r : Rel h nb nl nr nt nd nj np) {a c s : Nat} {e v n : Int32} (ha : a < nr) (hc138 : gi h 138 a = nI c) (hc : c ≤ 6) (hv : v = nI s) (h0 : e = 0 → s < 8) (h1 : ¬ e = 0 → s < a) (gn : 1 ≤ n.toInt ∧ n.toInt ≤ 100) : Sh (uAP h a c e v n nr) ∧ (∀ j, fI (uAP h a c e v n nr) 132 j = fI h 132 j) ∧ (∀ x, 132 ≤ x → gi (uAP h a c e v n nr) x = gi h x) ∧ vAP h a c e v n nr = vmP (uAP h a c e v n nr) a c e v n nr ∧ Rel (umP (uAP h a c e v n nr) a c e v n nr) nb nl nr nt nd nj np := by
  have hc13 : gi h 13 a = nI c := by rw [r.c.C]; exact hc138
  by_cases hc6 : c < 6
  · obtain ⟨fp, hfp⟩ : ∃ fp, raR (upd (gi h 10) (a * 6 + c) e) (upd (gi h 11) (a * 6 + c) v) (upd (gi h 12) (a * 6 + c) n) (upd (gi h 13) a (nI (c + 1))) nr 0 (filF (gi h 15) 0 96) = fp := ⟨_, rfl⟩
    obtain ⟨gp, hgp⟩ : ∃ gp, fnA (upd (gi h 139) (a * 6 + c) e) (upd (gi h 140) (a * 6 + c) v) (upd (gi h 141) (a * 6 + c) n) (upd (gi h 138) a (nI (c + 1))) nr 0 (gi h 143) = gp := ⟨_, rfl⟩
    have ok2 : okA (upd (gi h 139) (a * 6 + c) e) (upd (gi h 140) (a * 6 + c) v) (upd (gi h 138) a (nI (c + 1))) nr := okA_add r.c.ok ha hc138 hc6 (by rw [hv]; exact okp_new h0 h1)
    have ra := ra_fn (T := upd (gi h 141) (a * 6 + c) n) r.c.le ok2 nr 0 (filF (gi h 15) 0 96) (gi h 143) (by omega) (fun j hj => by omega) (fun j _ hj => if_pos hj)
    have rng := fnA_rng (T := upd (gi h 141) (a * 6 + c) n) r.c.le ok2 (fun j => by
      simp only [upd]
      split
      · exact ⟨by omega, by omega⟩
      · exact r.c.tm j) nr 0 (gi h 143) (by omega) (fun j hj => by omega)
    rw [← r.c.E, ← r.c.S, ← r.c.T, ← r.c.C, hfp, r.c.E, r.c.S, r.c.T, r.c.C, hgp] at ra
    rw [hgp] at rng
    simp only [vAP, uAP, if_pos hc6, hfp]
    by_cases fb : fp.1 = true
    · have gb : gp.1 = true := by rw [← ra.1]; exact fb
      simp only [if_pos fb]
      rw [apH]
      obtain ⟨h1, eh1⟩ : ∃ zz : HF, zz = si (si (si (si (si (si h 10 (upd (gi h 10) (a * 6 + c) e)) 11 (upd (gi h 11) (a * 6 + c) v)) 12 (upd (gi h 12) (a * 6 + c) n)) 13 (upd (gi h 13) a (nI (c + 1)))) 15 fp.2) 14 (va_cpy fp.2 (gi h 14) 0 0 96) := ⟨_, rfl⟩
      have Sh1 : Sh h1 := by rw [eh1]; (repeat (first | exact r.S | apply Sh.si | apply Sh.sI | apply Sh.sJ | apply Sh.sl))
      have Gh1 : ∀ x, x ≠ 10 → x ≠ 11 → x ≠ 12 → x ≠ 13 → x ≠ 15 → x ≠ 14 → gi h1 x = gi h x := by
        intro x q0 q1 q2 q3 q4 q5; rw [eh1]; (try simp (disch := first | assumption | omega) only [gi_si_ne, gi_sI, gi_sJ, gi_sl, gl_sl_ne, gl_si, gl_sI, gl_sJ, fI_si, fI_sl, fI_sJ, fI_sI_ne, fI_sI_k, fJ_si, fJ_sl, fJ_sI, fJ_sJ_ne])
      have Lh1 : ∀ x, gl h1 x = gl h x := by
        intro x ; rw [eh1]; (try simp (disch := first | assumption | omega) only [gi_si_ne, gi_sI, gi_sJ, gi_sl, gl_sl_ne, gl_si, gl_sI, gl_sJ, fI_si, fI_sl, fI_sJ, fI_sI_ne, fI_sI_k, fJ_si, fJ_sl, fJ_sI, fJ_sJ_ne])
      have Fh1 : ∀ x kk, fI h1 x kk = fI h x kk := by
        intro x kk ; rw [eh1]; first | rfl | (simp (disch := first | assumption | omega) only [fI_si, fI_sl, fI_sJ, fI_sI_o])
      have Jh1 : ∀ x kk, fJ h1 x kk = fJ h x kk := by
        intro x kk ; rw [eh1]; first | rfl | (simp (disch := first | assumption | omega) only [fJ_si, fJ_sl, fJ_sI, fJ_sJ_o])
      rw [← eh1]
      have c10 : gi h1 10 = upd (gi h 10) (a * 6 + c) e := by
        rw [eh1]; simp (disch := first | omega | ((repeat (first | exact r.S | apply Sh.si | apply Sh.sI | apply Sh.sJ | apply Sh.sl)); done) | decide | exact kF_K ‹_› (by omega) | exact kI_of (shT_B ‹_›).2.2 | exact kI_of (shT_K ‹_›).2.2.1 | exact kI_of (shT_K ‹_›).2.2.2 | exact kFB ‹_› | exact kFM ‹_› | exact kJM ‹_› | exact kFN ‹_› | exact kJN ‹_› | rfl) only [gi_si_ne, gi_sI, gi_sJ, gi_sl, gl_sl_ne, gl_si, gl_sI, gl_sJ, fI_si, fI_sl, fI_sJ, fI_sI_ne, fI_sI_k, fJ_si, fJ_sl, fJ_sI, fJ_sJ_ne, gi_si_eq, gl_sl_eq, fI_sI_eq, fJ_sJ_eq]
      have c11 : gi h1 11 = upd (gi h 11) (a * 6 + c) v := by
        rw [eh1]; simp (disch := first | omega | ((repeat (first | exact r.S | apply Sh.si | apply Sh.sI | apply Sh.sJ | apply Sh.sl)); done) | decide | exact kF_K ‹_› (by omega) | exact kI_of (shT_B ‹_›).2.2 | exact kI_of (shT_K ‹_›).2.2.1 | exact kI_of (shT_K ‹_›).2.2.2 | exact kFB ‹_› | exact kFM ‹_› | exact kJM ‹_› | exact kFN ‹_› | exact kJN ‹_› | rfl) only [gi_si_ne, gi_sI, gi_sJ, gi_sl, gl_sl_ne, gl_si, gl_sI, gl_sJ, fI_si, fI_sl, fI_sJ, fI_sI_ne, fI_sI_k, fJ_si, fJ_sl, fJ_sI, fJ_sJ_ne, gi_si_eq, gl_sl_eq, fI_sI_eq, fJ_sJ_eq]
      have c12 : gi h1 12 = upd (gi h 12) (a * 6 + c) n := by
        rw [eh1]; simp (disch := first | omega | ((repeat (first | exact r.S | apply Sh.si | apply Sh.sI | apply Sh.sJ | apply Sh.sl)); done) | decide | exact kF_K ‹_› (by omega) | exact kI_of (shT_B ‹_›).2.2 | exact kI_of (shT_K ‹_›).2.2.1 | exact kI_of (shT_K ‹_›).2.2.2 | exact kFB ‹_› | exact kFM ‹_› | exact kJM ‹_› | exact kFN ‹_› | exact kJN ‹_› | rfl) only [gi_si_ne, gi_sI, gi_sJ, gi_sl, gl_sl_ne, gl_si, gl_sI, gl_sJ, fI_si, fI_sl, fI_sJ, fI_sI_ne, fI_sI_k, fJ_si, fJ_sl, fJ_sI, fJ_sJ_ne, gi_si_eq, gl_sl_eq, fI_sI_eq, fJ_sJ_eq]
      have c13 : gi h1 13 = upd (gi h 13) a (nI (c + 1)) := by
        rw [eh1]; simp (disch := first | omega | ((repeat (first | exact r.S | apply Sh.si | apply Sh.sI | apply Sh.sJ | apply Sh.sl)); done) | decide | exact kF_K ‹_› (by omega) | exact kI_of (shT_B ‹_›).2.2 | exact kI_of (shT_K ‹_›).2.2.1 | exact kI_of (shT_K ‹_›).2.2.2 | exact kFB ‹_› | exact kFM ‹_› | exact kJM ‹_› | exact kFN ‹_› | exact kJN ‹_› | rfl) only [gi_si_ne, gi_sI, gi_sJ, gi_sl, gl_sl_ne, gl_si, gl_sI, gl_sJ, fI_si, fI_sl, fI_sJ, fI_sI_ne, fI_sI_k, fJ_si, fJ_sl, fJ_sI, fJ_sJ_ne, gi_si_eq, gl_sl_eq, fI_sI_eq, fJ_sJ_eq]
      have c14 : gi h1 14 = va_cpy fp.2 (gi h 14) 0 0 96 := by
        rw [eh1]; simp (disch := first | omega | ((repeat (first | exact r.S | apply Sh.si | apply Sh.sI | apply Sh.sJ | apply Sh.sl)); done) | decide | exact kF_K ‹_› (by omega) | exact kI_of (shT_B ‹_›).2.2 | exact kI_of (shT_K ‹_›).2.2.1 | exact kI_of (shT_K ‹_›).2.2.2 | exact kFB ‹_› | exact kFM ‹_› | exact kJM ‹_› | exact kFN ‹_› | exact kJN ‹_› | rfl) only [gi_si_ne, gi_sI, gi_sJ, gi_sl, gl_sl_ne, gl_si, gl_sI, gl_sJ, fI_si, fI_sl, fI_sJ, fI_sI_ne, fI_sI_k, fJ_si, fJ_sl, fJ_sI, fJ_sJ_ne, gi_si_eq, gl_sl_eq, fI_sI_eq, fJ_sJ_eq]
      have n138 := Gh1 138 (by omega) (by omega) (by omega) (by omega) (by omega) (by omega)
      have n139 := Gh1 139 (by omega) (by omega) (by omega) (by omega) (by omega) (by omega)
      have n140 := Gh1 140 (by omega) (by omega) (by omega) (by omega) (by omega) (by omega)
      have n141 := Gh1 141 (by omega) (by omega) (by omega) (by omega) (by omega) (by omega)
      have n142 := Gh1 142 (by omega) (by omega) (by omega) (by omega) (by omega) (by omega)
      have n143 := Gh1 143 (by omega) (by omega) (by omega) (by omega) (by omega) (by omega)
      have ev : vmP h1 a c e v n nr = nI (c + 1) := by
        rw [vmP, if_pos hc6, n139, n140, n141, n138, n143, hgp, if_pos gb]
      have eu : umP h1 a c e v n nr = si (si (si (si (si (si h1 139 (upd (gi h 139) (a * 6 + c) e)) 140 (upd (gi h 140) (a * 6 + c) v)) 141 (upd (gi h 141) (a * 6 + c) n)) 138 (upd (gi h 138) a (nI (c + 1)))) 143 gp.2) 142 (capF (gi h 142) gp.2 96) := by
        rw [umP, if_pos hc6, n139, n140, n141, n138, n143, hgp, if_pos gb, mpH, n138]
        simp (disch := omega) only [gi_si_ne, gi_sI, gi_sJ, gi_sl, gl_sl_ne, gl_si, gl_sI, gl_sJ, fI_si, fI_sl, fI_sJ, fI_sI_ne, fI_sI_k, fJ_si, fJ_sl, fJ_sI, fJ_sJ_ne, n139, n140, n141, n142, n138]
      obtain ⟨h2, eh2⟩ : ∃ zz : HF, zz = si (si (si (si (si (si h1 139 (upd (gi h 139) (a * 6 + c) e)) 140 (upd (gi h 140) (a * 6 + c) v)) 141 (upd (gi h 141) (a * 6 + c) n)) 138 (upd (gi h 138) a (nI (c + 1)))) 143 gp.2) 142 (capF (gi h 142) gp.2 96) := ⟨_, rfl⟩
      have Sh2 : Sh h2 := by rw [eh2]; (repeat (first | exact Sh1 | apply Sh.si | apply Sh.sI | apply Sh.sJ | apply Sh.sl))
      have Gh2 : ∀ x, x ≠ 139 → x ≠ 140 → x ≠ 141 → x ≠ 138 → x ≠ 143 → x ≠ 142 → gi h2 x = gi h1 x := by
        intro x q0 q1 q2 q3 q4 q5; rw [eh2]; (try simp (disch := first | assumption | omega) only [gi_si_ne, gi_sI, gi_sJ, gi_sl, gl_sl_ne, gl_si, gl_sI, gl_sJ, fI_si, fI_sl, fI_sJ, fI_sI_ne, fI_sI_k, fJ_si, fJ_sl, fJ_sI, fJ_sJ_ne])
      have Lh2 : ∀ x, gl h2 x = gl h1 x := by
        intro x ; rw [eh2]; (try simp (disch := first | assumption | omega) only [gi_si_ne, gi_sI, gi_sJ, gi_sl, gl_sl_ne, gl_si, gl_sI, gl_sJ, fI_si, fI_sl, fI_sJ, fI_sI_ne, fI_sI_k, fJ_si, fJ_sl, fJ_sI, fJ_sJ_ne])
      have Fh2 : ∀ x kk, fI h2 x kk = fI h1 x kk := by
        intro x kk ; rw [eh2]; first | rfl | (simp (disch := first | assumption | omega) only [fI_si, fI_sl, fI_sJ, fI_sI_o])
      have Jh2 : ∀ x kk, fJ h2 x kk = fJ h1 x kk := by
        intro x kk ; rw [eh2]; first | rfl | (simp (disch := first | assumption | omega) only [fJ_si, fJ_sl, fJ_sI, fJ_sJ_o])
      rw [eu, ← eh2]
      have m139 : gi h2 139 = upd (gi h 139) (a * 6 + c) e := by
        rw [eh2]; simp (disch := first | omega | ((repeat (first | exact Sh1 | apply Sh.si | apply Sh.sI | apply Sh.sJ | apply Sh.sl)); done) | decide | exact kF_K ‹_› (by omega) | exact kI_of (shT_B ‹_›).2.2 | exact kI_of (shT_K ‹_›).2.2.1 | exact kI_of (shT_K ‹_›).2.2.2 | exact kFB ‹_› | exact kFM ‹_› | exact kJM ‹_› | exact kFN ‹_› | exact kJN ‹_› | rfl) only [gi_si_ne, gi_sI, gi_sJ, gi_sl, gl_sl_ne, gl_si, gl_sI, gl_sJ, fI_si, fI_sl, fI_sJ, fI_sI_ne, fI_sI_k, fJ_si, fJ_sl, fJ_sI, fJ_sJ_ne, gi_si_eq, gl_sl_eq, fI_sI_eq, fJ_sJ_eq]
      have m140 : gi h2 140 = upd (gi h 140) (a * 6 + c) v := by
        rw [eh2]; simp (disch := first | omega | ((repeat (first | exact Sh1 | apply Sh.si | apply Sh.sI | apply Sh.sJ | apply Sh.sl)); done) | decide | exact kF_K ‹_› (by omega) | exact kI_of (shT_B ‹_›).2.2 | exact kI_of (shT_K ‹_›).2.2.1 | exact kI_of (shT_K ‹_›).2.2.2 | exact kFB ‹_› | exact kFM ‹_› | exact kJM ‹_› | exact kFN ‹_› | exact kJN ‹_› | rfl) only [gi_si_ne, gi_sI, gi_sJ, gi_sl, gl_sl_ne, gl_si, gl_sI, gl_sJ, fI_si, fI_sl, fI_sJ, fI_sI_ne, fI_sI_k, fJ_si, fJ_sl, fJ_sI, fJ_sJ_ne, gi_si_eq, gl_sl_eq, fI_sI_eq, fJ_sJ_eq]
      have m141 : gi h2 141 = upd (gi h 141) (a * 6 + c) n := by
        rw [eh2]; simp (disch := first | omega | ((repeat (first | exact Sh1 | apply Sh.si | apply Sh.sI | apply Sh.sJ | apply Sh.sl)); done) | decide | exact kF_K ‹_› (by omega) | exact kI_of (shT_B ‹_›).2.2 | exact kI_of (shT_K ‹_›).2.2.1 | exact kI_of (shT_K ‹_›).2.2.2 | exact kFB ‹_› | exact kFM ‹_› | exact kJM ‹_› | exact kFN ‹_› | exact kJN ‹_› | rfl) only [gi_si_ne, gi_sI, gi_sJ, gi_sl, gl_sl_ne, gl_si, gl_sI, gl_sJ, fI_si, fI_sl, fI_sJ, fI_sI_ne, fI_sI_k, fJ_si, fJ_sl, fJ_sI, fJ_sJ_ne, gi_si_eq, gl_sl_eq, fI_sI_eq, fJ_sJ_eq]
      have m143 : gi h2 143 = gp.2 := by
        rw [eh2]; simp (disch := first | omega | ((repeat (first | exact Sh1 | apply Sh.si | apply Sh.sI | apply Sh.sJ | apply Sh.sl)); done) | decide | exact kF_K ‹_› (by omega) | exact kI_of (shT_B ‹_›).2.2 | exact kI_of (shT_K ‹_›).2.2.1 | exact kI_of (shT_K ‹_›).2.2.2 | exact kFB ‹_› | exact kFM ‹_› | exact kJM ‹_› | exact kFN ‹_› | exact kJN ‹_› | rfl) only [gi_si_ne, gi_sI, gi_sJ, gi_sl, gl_sl_ne, gl_si, gl_sI, gl_sJ, fI_si, fI_sl, fI_sJ, fI_sI_ne, fI_sI_k, fJ_si, fJ_sl, fJ_sI, fJ_sJ_ne, gi_si_eq, gl_sl_eq, fI_sI_eq, fJ_sJ_eq]
      have m138 : gi h2 138 = upd (gi h 138) a (nI (c + 1)) := by
        rw [eh2]; simp (disch := first | omega | ((repeat (first | exact Sh1 | apply Sh.si | apply Sh.sI | apply Sh.sJ | apply Sh.sl)); done) | decide | exact kF_K ‹_› (by omega) | exact kI_of (shT_B ‹_›).2.2 | exact kI_of (shT_K ‹_›).2.2.1 | exact kI_of (shT_K ‹_›).2.2.2 | exact kFB ‹_› | exact kFM ‹_› | exact kJM ‹_› | exact kFN ‹_› | exact kJN ‹_› | rfl) only [gi_si_ne, gi_sI, gi_sJ, gi_sl, gl_sl_ne, gl_si, gl_sI, gl_sJ, fI_si, fI_sl, fI_sJ, fI_sI_ne, fI_sI_k, fJ_si, fJ_sl, fJ_sI, fJ_sJ_ne, gi_si_eq, gl_sl_eq, fI_sI_eq, fJ_sJ_eq]
      have m142 : gi h2 142 = capF (gi h 142) gp.2 96 := by
        rw [eh2]; simp (disch := first | omega | ((repeat (first | exact Sh1 | apply Sh.si | apply Sh.sI | apply Sh.sJ | apply Sh.sl)); done) | decide | exact kF_K ‹_› (by omega) | exact kI_of (shT_B ‹_›).2.2 | exact kI_of (shT_K ‹_›).2.2.1 | exact kI_of (shT_K ‹_›).2.2.2 | exact kFB ‹_› | exact kFM ‹_› | exact kJM ‹_› | exact kFN ‹_› | exact kJN ‹_› | rfl) only [gi_si_ne, gi_sI, gi_sJ, gi_sl, gl_sl_ne, gl_si, gl_sI, gl_sJ, fI_si, fI_sl, fI_sJ, fI_sI_ne, fI_sI_k, fJ_si, fJ_sl, fJ_sI, fJ_sJ_ne, gi_si_eq, gl_sl_eq, fI_sI_eq, fJ_sJ_eq]
      exact ⟨Sh1, fun j => Fh1 _ _, fun x hx => Gh1 x (by omega) (by omega) (by omega) (by omega) (by omega) (by omega), ev.symm, Rel.of (Sh2)
          (Ra.of (by (try simp (disch := omega) only [Gh2, Lh2, Fh2, Jh2, Gh1, Lh1, Fh1, Jh1]); exact r.a.c)
          (by (try simp (disch := omega) only [Gh2, Lh2, Fh2, Jh2, Gh1, Lh1, Fh1, Jh1]); exact r.a.m)
          (by (try simp (disch := omega) only [Gh2, Lh2, Fh2, Jh2, Gh1, Lh1, Fh1, Jh1]); exact r.a.le)
          (by (try simp (disch := omega) only [Gh2, Lh2, Fh2, Jh2, Gh1, Lh1, Fh1, Jh1]); exact r.a.A)
          (by (try simp (disch := omega) only [Gh2, Lh2, Fh2, Jh2, Gh1, Lh1, Fh1, Jh1]); exact r.a.P))
          (Rb.of (by (try simp (disch := omega) only [Gh2, Lh2, Fh2, Jh2, Gh1, Lh1, Fh1, Jh1]); exact r.b.c)
          (by (try simp (disch := omega) only [Gh2, Lh2, Fh2, Jh2, Gh1, Lh1, Fh1, Jh1]); exact r.b.m)
          (by (try simp (disch := omega) only [Gh2, Lh2, Fh2, Jh2, Gh1, Lh1, Fh1, Jh1]); exact r.b.le)
          (by (try simp (disch := omega) only [Gh2, Lh2, Fh2, Jh2, Gh1, Lh1, Fh1, Jh1]); exact r.b.day)
          (by (try simp (disch := omega) only [Gh2, Lh2, Fh2, Jh2, Gh1, Lh1, Fh1, Jh1]); exact r.b.B)
          (by (try simp (disch := omega) only [Gh2, Lh2, Fh2, Jh2, Gh1, Lh1, Fh1, Jh1]); exact r.b.S)
          (by (try simp (disch := omega) only [Gh2, Lh2, Fh2, Jh2, Gh1, Lh1, Fh1, Jh1]); exact r.b.L)
          (by (try simp (disch := omega) only [Gh2, Lh2, Fh2, Jh2, Gh1, Lh1, Fh1, Jh1]); exact r.b.P)
          (by (try simp (disch := omega) only [Gh2, Lh2, Fh2, Jh2, Gh1, Lh1, Fh1, Jh1]); exact r.b.lb))
          (Rc.of (by (try simp (disch := omega) only [Gh2, Lh2, Fh2, Jh2, Gh1, Lh1, Fh1, Jh1]); exact r.c.c)
          (by (try simp (disch := omega) only [Gh2, Lh2, Fh2, Jh2, Gh1, Lh1, Fh1, Jh1]); exact r.c.m)
          (by (try simp (disch := omega) only [Gh2, Lh2, Fh2, Jh2, Gh1, Lh1, Fh1, Jh1]); exact r.c.le)
          (by rw [Gh2 10 (by omega) (by omega) (by omega) (by omega) (by omega) (by omega), c10, m139, r.c.E])
          (by rw [Gh2 11 (by omega) (by omega) (by omega) (by omega) (by omega) (by omega), c11, m140, r.c.S])
          (by rw [Gh2 12 (by omega) (by omega) (by omega) (by omega) (by omega) (by omega), c12, m141, r.c.T])
          (by rw [Gh2 13 (by omega) (by omega) (by omega) (by omega) (by omega) (by omega), c13, m138, r.c.C])
          (by
          rw [Gh2 14 (by omega) (by omega) (by omega) (by omega) (by omega) (by omega), c14, m142]
          funext j
          simp only [va_cpy, capF]
          by_cases q : j < 96
          · rw [if_pos (by omega), if_pos q, show 0 + (j - 0) = j by omega]
            by_cases q2 : j < 8 * nr
            · exact (ra.2.1 fb).1 j q2
            · rw [(ra.2.1 fb).2 j (by omega) q, ra.2.2 j (by omega), r.c.tz j (by omega)]
          · rw [if_neg (by omega), if_neg q, r.c.N])
          (by rw [m139, m140, m138]; exact ok2)
          (by
          intro j
          rw [m141]
          simp only [upd]
          split
          · exact ⟨by omega, by omega⟩
          · exact r.c.tm j)
          (fun j hj => by rw [m143, ra.2.2 j hj]; exact r.c.tz j hj)
          (fun j hj => by rw [m138]; simp only [upd]; rw [if_neg (by omega)]; exact r.c.cz j hj)
          (by
          intro j
          rw [m142]
          simp only [capF]
          by_cases q : j < 96
          · rw [if_pos q]
            by_cases q2 : j < 8 * nr
            · exact rng gb j q2
            · rw [ra.2.2 j (by omega), r.c.tz j (by omega)]; exact ⟨by decide, by decide⟩
          · rw [if_neg q]; exact r.c.nn j))
          (Rd.of (by (try simp (disch := omega) only [Gh2, Lh2, Fh2, Jh2, Gh1, Lh1, Fh1, Jh1]); exact r.d.c)
          (by (try simp (disch := omega) only [Gh2, Lh2, Fh2, Jh2, Gh1, Lh1, Fh1, Jh1]); exact r.d.m)
          (by (try simp (disch := omega) only [Gh2, Lh2, Fh2, Jh2, Gh1, Lh1, Fh1, Jh1]); exact r.d.le)
          (fun k hk => RdK.of (by (try simp (disch := omega) only [Gh2, Lh2, Fh2, Jh2, Gh1, Lh1, Fh1, Jh1]); exact (r.d.K k hk).am)
            (by (try simp (disch := omega) only [Gh2, Lh2, Fh2, Jh2, Gh1, Lh1, Fh1, Jh1]); exact (r.d.K k hk).bd)
            (by (try simp (disch := omega) only [Gh2, Lh2, Fh2, Jh2, Gh1, Lh1, Fh1, Jh1]); exact (r.d.K k hk).zr)
            (by (try simp (disch := omega) only [Gh2, Lh2, Fh2, Jh2, Gh1, Lh1, Fh1, Jh1]); exact (r.d.K k hk).un)
            (by (try simp (disch := omega) only [Gh2, Lh2, Fh2, Jh2, Gh1, Lh1, Fh1, Jh1]); exact (r.d.K k hk).ul)
            (by (try simp (disch := omega) only [Gh2, Lh2, Fh2, Jh2, Gh1, Lh1, Fh1, Jh1]); exact (r.d.K k hk).lo)
            (by (try simp (disch := omega) only [Gh2, Lh2, Fh2, Jh2, Gh1, Lh1, Fh1, Jh1]); exact (r.d.K k hk).lb)
            (by (try simp (disch := omega) only [Gh2, Lh2, Fh2, Jh2, Gh1, Lh1, Fh1, Jh1]); exact (r.d.K k hk).po)))
          (Re.of (by (try simp (disch := omega) only [Gh2, Lh2, Fh2, Jh2, Gh1, Lh1, Fh1, Jh1]); exact r.e.fd)
          (by (try simp (disch := omega) only [Gh2, Lh2, Fh2, Jh2, Gh1, Lh1, Fh1, Jh1]); exact r.e.be)
          (by (try simp (disch := omega) only [Gh2, Lh2, Fh2, Jh2, Gh1, Lh1, Fh1, Jh1]); exact r.e.bb)
          (by (try simp (disch := omega) only [Gh2, Lh2, Fh2, Jh2, Gh1, Lh1, Fh1, Jh1]); exact r.e.z))
          (Rf.of (by (try simp (disch := omega) only [Gh2, Lh2, Fh2, Jh2, Gh1, Lh1, Fh1, Jh1]); exact r.f.lim)
          (by (try simp (disch := omega) only [Gh2, Lh2, Fh2, Jh2, Gh1, Lh1, Fh1, Jh1]); exact r.f.l0)
          (by (try simp (disch := omega) only [Gh2, Lh2, Fh2, Jh2, Gh1, Lh1, Fh1, Jh1]); exact r.f.cl)
          (by (try simp (disch := omega) only [Gh2, Lh2, Fh2, Jh2, Gh1, Lh1, Fh1, Jh1]); exact r.f.no)
          (fun t ht => RfK.of (by (try simp (disch := omega) only [Gh2, Lh2, Fh2, Jh2, Gh1, Lh1, Fh1, Jh1]); exact (r.f.K t ht).ins)
            (by (try simp (disch := omega) only [Gh2, Lh2, Fh2, Jh2, Gh1, Lh1, Fh1, Jh1]); exact (r.f.K t ht).siz)
            (by (try simp (disch := omega) only [Gh2, Lh2, Fh2, Jh2, Gh1, Lh1, Fh1, Jh1]); exact (r.f.K t ht).bat)
            (by (try simp (disch := omega) only [Gh2, Lh2, Fh2, Jh2, Gh1, Lh1, Fh1, Jh1]); exact (r.f.K t ht).tap)
            (by (try simp (disch := omega) only [Gh2, Lh2, Fh2, Jh2, Gh1, Lh1, Fh1, Jh1]); exact (r.f.K t ht).stn)
            (by (try simp (disch := omega) only [Gh2, Lh2, Fh2, Jh2, Gh1, Lh1, Fh1, Jh1]); exact (r.f.K t ht).sta)
            (by (try simp (disch := omega) only [Gh2, Lh2, Fh2, Jh2, Gh1, Lh1, Fh1, Jh1]); exact (r.f.K t ht).am)
            (by (try simp (disch := omega) only [Gh2, Lh2, Fh2, Jh2, Gh1, Lh1, Fh1, Jh1]); exact (r.f.K t ht).zr)
            (by (try simp (disch := omega) only [Gh2, Lh2, Fh2, Jh2, Gh1, Lh1, Fh1, Jh1]); exact (r.f.K t ht).lo)
            (by (try simp (disch := omega) only [Gh2, Lh2, Fh2, Jh2, Gh1, Lh1, Fh1, Jh1]); exact (r.f.K t ht).h0)
            (by (try simp (disch := omega) only [Gh2, Lh2, Fh2, Jh2, Gh1, Lh1, Fh1, Jh1]); exact (r.f.K t ht).hr)
            (by (try simp (disch := omega) only [Gh2, Lh2, Fh2, Jh2, Gh1, Lh1, Fh1, Jh1]); exact (r.f.K t ht).r6)
            (by (try simp (disch := omega) only [Gh2, Lh2, Fh2, Jh2, Gh1, Lh1, Fh1, Jh1]); exact (r.f.K t ht).hs)
            (by (try simp (disch := omega) only [Gh2, Lh2, Fh2, Jh2, Gh1, Lh1, Fh1, Jh1]); exact (r.f.K t ht).lb)
            (by (try simp (disch := omega) only [Gh2, Lh2, Fh2, Jh2, Gh1, Lh1, Fh1, Jh1]); exact (r.f.K t ht).bb)))
          (Rg.of (by (try simp (disch := omega) only [Gh2, Lh2, Fh2, Jh2, Gh1, Lh1, Fh1, Jh1]); exact r.g.c)
          (by (try simp (disch := omega) only [Gh2, Lh2, Fh2, Jh2, Gh1, Lh1, Fh1, Jh1]); exact r.g.m)
          (by (try simp (disch := omega) only [Gh2, Lh2, Fh2, Jh2, Gh1, Lh1, Fh1, Jh1]); exact r.g.le)
          (by (try simp (disch := omega) only [Gh2, Lh2, Fh2, Jh2, Gh1, Lh1, Fh1, Jh1]); exact r.g.u)
          (by (try simp (disch := omega) only [Gh2, Lh2, Fh2, Jh2, Gh1, Lh1, Fh1, Jh1]); exact r.g.t)
          (by (try simp (disch := omega) only [Gh2, Lh2, Fh2, Jh2, Gh1, Lh1, Fh1, Jh1]); exact r.g.d)
          (by (try simp (disch := omega) only [Gh2, Lh2, Fh2, Jh2, Gh1, Lh1, Fh1, Jh1]); exact r.g.b)
          (by (try simp (disch := omega) only [Gh2, Lh2, Fh2, Jh2, Gh1, Lh1, Fh1, Jh1]); exact r.g.l)
          (by (try simp (disch := omega) only [Gh2, Lh2, Fh2, Jh2, Gh1, Lh1, Fh1, Jh1]); exact r.g.bb)
          (by (try simp (disch := omega) only [Gh2, Lh2, Fh2, Jh2, Gh1, Lh1, Fh1, Jh1]); exact r.g.lb))
          (Rh.of (by (try simp (disch := omega) only [Gh2, Lh2, Fh2, Jh2, Gh1, Lh1, Fh1, Jh1]); exact r.j.c)
          (by (try simp (disch := omega) only [Gh2, Lh2, Fh2, Jh2, Gh1, Lh1, Fh1, Jh1]); exact r.j.m)
          (by (try simp (disch := omega) only [Gh2, Lh2, Fh2, Jh2, Gh1, Lh1, Fh1, Jh1]); exact r.j.le)
          (by (try simp (disch := omega) only [Gh2, Lh2, Fh2, Jh2, Gh1, Lh1, Fh1, Jh1]); exact r.j.pc)
          (by (try simp (disch := omega) only [Gh2, Lh2, Fh2, Jh2, Gh1, Lh1, Fh1, Jh1]); exact r.j.pm)
          (by (try simp (disch := omega) only [Gh2, Lh2, Fh2, Jh2, Gh1, Lh1, Fh1, Jh1]); exact r.j.pl)
          (by (try simp (disch := omega) only [Gh2, Lh2, Fh2, Jh2, Gh1, Lh1, Fh1, Jh1]); exact r.j.hu)
          (by (try simp (disch := omega) only [Gh2, Lh2, Fh2, Jh2, Gh1, Lh1, Fh1, Jh1]); exact r.j.ti)
          (by (try simp (disch := omega) only [Gh2, Lh2, Fh2, Jh2, Gh1, Lh1, Fh1, Jh1]); exact r.j.du)
          (by (try simp (disch := omega) only [Gh2, Lh2, Fh2, Jh2, Gh1, Lh1, Fh1, Jh1]); exact r.j.pr)
          (by (try simp (disch := omega) only [Gh2, Lh2, Fh2, Jh2, Gh1, Lh1, Fh1, Jh1]); exact r.j.ch)
          (by (try simp (disch := omega) only [Gh2, Lh2, Fh2, Jh2, Gh1, Lh1, Fh1, Jh1]); exact r.j.od)
          (by (try simp (disch := omega) only [Gh2, Lh2, Fh2, Jh2, Gh1, Lh1, Fh1, Jh1]); exact r.j.ok)
          (by (try simp (disch := omega) only [Gh2, Lh2, Fh2, Jh2, Gh1, Lh1, Fh1, Jh1]); exact r.j.tb)
          (by (try simp (disch := omega) only [Gh2, Lh2, Fh2, Jh2, Gh1, Lh1, Fh1, Jh1]); exact r.j.db))⟩
    · have gb : ¬ gp.1 = true := by rw [← ra.1]; exact fb
      simp only [if_neg fb]
      rw [apH]
      obtain ⟨h1, eh1⟩ : ∃ zz : HF, zz = si (si (si (si (si (si h 10 (upd (gi h 10) (a * 6 + c) e)) 11 (upd (gi h 11) (a * 6 + c) v)) 12 (upd (gi h 12) (a * 6 + c) n)) 13 (upd (gi h 13) a (nI (c + 1)))) 15 fp.2) 13 (upd (upd (gi h 13) a (nI (c + 1))) a (nI c)) := ⟨_, rfl⟩
      have Sh1 : Sh h1 := by rw [eh1]; (repeat (first | exact r.S | apply Sh.si | apply Sh.sI | apply Sh.sJ | apply Sh.sl))
      have Gh1 : ∀ x, x ≠ 10 → x ≠ 11 → x ≠ 12 → x ≠ 13 → x ≠ 15 → gi h1 x = gi h x := by
        intro x q0 q1 q2 q3 q4; rw [eh1]; (try simp (disch := first | assumption | omega) only [gi_si_ne, gi_sI, gi_sJ, gi_sl, gl_sl_ne, gl_si, gl_sI, gl_sJ, fI_si, fI_sl, fI_sJ, fI_sI_ne, fI_sI_k, fJ_si, fJ_sl, fJ_sI, fJ_sJ_ne])
      have Lh1 : ∀ x, gl h1 x = gl h x := by
        intro x ; rw [eh1]; (try simp (disch := first | assumption | omega) only [gi_si_ne, gi_sI, gi_sJ, gi_sl, gl_sl_ne, gl_si, gl_sI, gl_sJ, fI_si, fI_sl, fI_sJ, fI_sI_ne, fI_sI_k, fJ_si, fJ_sl, fJ_sI, fJ_sJ_ne])
      have Fh1 : ∀ x kk, fI h1 x kk = fI h x kk := by
        intro x kk ; rw [eh1]; first | rfl | (simp (disch := first | assumption | omega) only [fI_si, fI_sl, fI_sJ, fI_sI_o])
      have Jh1 : ∀ x kk, fJ h1 x kk = fJ h x kk := by
        intro x kk ; rw [eh1]; first | rfl | (simp (disch := first | assumption | omega) only [fJ_si, fJ_sl, fJ_sI, fJ_sJ_o])
      rw [← eh1]
      have c10 : gi h1 10 = upd (gi h 10) (a * 6 + c) e := by
        rw [eh1]; simp (disch := first | omega | ((repeat (first | exact r.S | apply Sh.si | apply Sh.sI | apply Sh.sJ | apply Sh.sl)); done) | decide | exact kF_K ‹_› (by omega) | exact kI_of (shT_B ‹_›).2.2 | exact kI_of (shT_K ‹_›).2.2.1 | exact kI_of (shT_K ‹_›).2.2.2 | exact kFB ‹_› | exact kFM ‹_› | exact kJM ‹_› | exact kFN ‹_› | exact kJN ‹_› | rfl) only [gi_si_ne, gi_sI, gi_sJ, gi_sl, gl_sl_ne, gl_si, gl_sI, gl_sJ, fI_si, fI_sl, fI_sJ, fI_sI_ne, fI_sI_k, fJ_si, fJ_sl, fJ_sI, fJ_sJ_ne, gi_si_eq, gl_sl_eq, fI_sI_eq, fJ_sJ_eq]
      have c11 : gi h1 11 = upd (gi h 11) (a * 6 + c) v := by
        rw [eh1]; simp (disch := first | omega | ((repeat (first | exact r.S | apply Sh.si | apply Sh.sI | apply Sh.sJ | apply Sh.sl)); done) | decide | exact kF_K ‹_› (by omega) | exact kI_of (shT_B ‹_›).2.2 | exact kI_of (shT_K ‹_›).2.2.1 | exact kI_of (shT_K ‹_›).2.2.2 | exact kFB ‹_› | exact kFM ‹_› | exact kJM ‹_› | exact kFN ‹_› | exact kJN ‹_› | rfl) only [gi_si_ne, gi_sI, gi_sJ, gi_sl, gl_sl_ne, gl_si, gl_sI, gl_sJ, fI_si, fI_sl, fI_sJ, fI_sI_ne, fI_sI_k, fJ_si, fJ_sl, fJ_sI, fJ_sJ_ne, gi_si_eq, gl_sl_eq, fI_sI_eq, fJ_sJ_eq]
      have c12 : gi h1 12 = upd (gi h 12) (a * 6 + c) n := by
        rw [eh1]; simp (disch := first | omega | ((repeat (first | exact r.S | apply Sh.si | apply Sh.sI | apply Sh.sJ | apply Sh.sl)); done) | decide | exact kF_K ‹_› (by omega) | exact kI_of (shT_B ‹_›).2.2 | exact kI_of (shT_K ‹_›).2.2.1 | exact kI_of (shT_K ‹_›).2.2.2 | exact kFB ‹_› | exact kFM ‹_› | exact kJM ‹_› | exact kFN ‹_› | exact kJN ‹_› | rfl) only [gi_si_ne, gi_sI, gi_sJ, gi_sl, gl_sl_ne, gl_si, gl_sI, gl_sJ, fI_si, fI_sl, fI_sJ, fI_sI_ne, fI_sI_k, fJ_si, fJ_sl, fJ_sI, fJ_sJ_ne, gi_si_eq, gl_sl_eq, fI_sI_eq, fJ_sJ_eq]
      have c13 : gi h1 13 = gi h 13 := by
        rw [eh1, gi_si_eq ((((((r.S.si _ _).si _ _).si _ _).si _ _).si _ _)) (by decide) (by decide) rfl]
        exact upd_back _ _ _ _ hc13
      have n138 := Gh1 138 (by omega) (by omega) (by omega) (by omega) (by omega)
      have n139 := Gh1 139 (by omega) (by omega) (by omega) (by omega) (by omega)
      have n140 := Gh1 140 (by omega) (by omega) (by omega) (by omega) (by omega)
      have n141 := Gh1 141 (by omega) (by omega) (by omega) (by omega) (by omega)
      have n142 := Gh1 142 (by omega) (by omega) (by omega) (by omega) (by omega)
      have n143 := Gh1 143 (by omega) (by omega) (by omega) (by omega) (by omega)
      have ev : vmP h1 a c e v n nr = -6 := by
        rw [vmP, if_pos hc6, n139, n140, n141, n138, n143, hgp, if_neg gb]
      have eu : umP h1 a c e v n nr = si (si (si (si (si (si h1 139 (upd (gi h 139) (a * 6 + c) e)) 140 (upd (gi h 140) (a * 6 + c) v)) 141 (upd (gi h 141) (a * 6 + c) n)) 138 (upd (gi h 138) a (nI (c + 1)))) 143 gp.2) 138 (upd (upd (gi h 138) a (nI (c + 1))) a (nI c)) := by
        rw [umP, if_pos hc6, n139, n140, n141, n138, n143, hgp, if_neg gb, mpH, n138]
        simp (disch := omega) only [gi_si_ne, gi_sI, gi_sJ, gi_sl, gl_sl_ne, gl_si, gl_sI, gl_sJ, fI_si, fI_sl, fI_sJ, fI_sI_ne, fI_sI_k, fJ_si, fJ_sl, fJ_sI, fJ_sJ_ne, n139, n140, n141, n142, n138]
      obtain ⟨h2, eh2⟩ : ∃ zz : HF, zz = si (si (si (si (si (si h1 139 (upd (gi h 139) (a * 6 + c) e)) 140 (upd (gi h 140) (a * 6 + c) v)) 141 (upd (gi h 141) (a * 6 + c) n)) 138 (upd (gi h 138) a (nI (c + 1)))) 143 gp.2) 138 (upd (upd (gi h 138) a (nI (c + 1))) a (nI c)) := ⟨_, rfl⟩
      have Sh2 : Sh h2 := by rw [eh2]; (repeat (first | exact Sh1 | apply Sh.si | apply Sh.sI | apply Sh.sJ | apply Sh.sl))
      have Gh2 : ∀ x, x ≠ 139 → x ≠ 140 → x ≠ 141 → x ≠ 138 → x ≠ 143 → gi h2 x = gi h1 x := by
        intro x q0 q1 q2 q3 q4; rw [eh2]; (try simp (disch := first | assumption | omega) only [gi_si_ne, gi_sI, gi_sJ, gi_sl, gl_sl_ne, gl_si, gl_sI, gl_sJ, fI_si, fI_sl, fI_sJ, fI_sI_ne, fI_sI_k, fJ_si, fJ_sl, fJ_sI, fJ_sJ_ne])
      have Lh2 : ∀ x, gl h2 x = gl h1 x := by
        intro x ; rw [eh2]; (try simp (disch := first | assumption | omega) only [gi_si_ne, gi_sI, gi_sJ, gi_sl, gl_sl_ne, gl_si, gl_sI, gl_sJ, fI_si, fI_sl, fI_sJ, fI_sI_ne, fI_sI_k, fJ_si, fJ_sl, fJ_sI, fJ_sJ_ne])
      have Fh2 : ∀ x kk, fI h2 x kk = fI h1 x kk := by
        intro x kk ; rw [eh2]; first | rfl | (simp (disch := first | assumption | omega) only [fI_si, fI_sl, fI_sJ, fI_sI_o])
      have Jh2 : ∀ x kk, fJ h2 x kk = fJ h1 x kk := by
        intro x kk ; rw [eh2]; first | rfl | (simp (disch := first | assumption | omega) only [fJ_si, fJ_sl, fJ_sI, fJ_sJ_o])
      rw [eu, ← eh2]
      have m139 : gi h2 139 = upd (gi h 139) (a * 6 + c) e := by
        rw [eh2]; simp (disch := first | omega | ((repeat (first | exact Sh1 | apply Sh.si | apply Sh.sI | apply Sh.sJ | apply Sh.sl)); done) | decide | exact kF_K ‹_› (by omega) | exact kI_of (shT_B ‹_›).2.2 | exact kI_of (shT_K ‹_›).2.2.1 | exact kI_of (shT_K ‹_›).2.2.2 | exact kFB ‹_› | exact kFM ‹_› | exact kJM ‹_› | exact kFN ‹_› | exact kJN ‹_› | rfl) only [gi_si_ne, gi_sI, gi_sJ, gi_sl, gl_sl_ne, gl_si, gl_sI, gl_sJ, fI_si, fI_sl, fI_sJ, fI_sI_ne, fI_sI_k, fJ_si, fJ_sl, fJ_sI, fJ_sJ_ne, gi_si_eq, gl_sl_eq, fI_sI_eq, fJ_sJ_eq]
      have m140 : gi h2 140 = upd (gi h 140) (a * 6 + c) v := by
        rw [eh2]; simp (disch := first | omega | ((repeat (first | exact Sh1 | apply Sh.si | apply Sh.sI | apply Sh.sJ | apply Sh.sl)); done) | decide | exact kF_K ‹_› (by omega) | exact kI_of (shT_B ‹_›).2.2 | exact kI_of (shT_K ‹_›).2.2.1 | exact kI_of (shT_K ‹_›).2.2.2 | exact kFB ‹_› | exact kFM ‹_› | exact kJM ‹_› | exact kFN ‹_› | exact kJN ‹_› | rfl) only [gi_si_ne, gi_sI, gi_sJ, gi_sl, gl_sl_ne, gl_si, gl_sI, gl_sJ, fI_si, fI_sl, fI_sJ, fI_sI_ne, fI_sI_k, fJ_si, fJ_sl, fJ_sI, fJ_sJ_ne, gi_si_eq, gl_sl_eq, fI_sI_eq, fJ_sJ_eq]
      have m141 : gi h2 141 = upd (gi h 141) (a * 6 + c) n := by
        rw [eh2]; simp (disch := first | omega | ((repeat (first | exact Sh1 | apply Sh.si | apply Sh.sI | apply Sh.sJ | apply Sh.sl)); done) | decide | exact kF_K ‹_› (by omega) | exact kI_of (shT_B ‹_›).2.2 | exact kI_of (shT_K ‹_›).2.2.1 | exact kI_of (shT_K ‹_›).2.2.2 | exact kFB ‹_› | exact kFM ‹_› | exact kJM ‹_› | exact kFN ‹_› | exact kJN ‹_› | rfl) only [gi_si_ne, gi_sI, gi_sJ, gi_sl, gl_sl_ne, gl_si, gl_sI, gl_sJ, fI_si, fI_sl, fI_sJ, fI_sI_ne, fI_sI_k, fJ_si, fJ_sl, fJ_sI, fJ_sJ_ne, gi_si_eq, gl_sl_eq, fI_sI_eq, fJ_sJ_eq]
      have m143 : gi h2 143 = gp.2 := by
        rw [eh2]; simp (disch := first | omega | ((repeat (first | exact Sh1 | apply Sh.si | apply Sh.sI | apply Sh.sJ | apply Sh.sl)); done) | decide | exact kF_K ‹_› (by omega) | exact kI_of (shT_B ‹_›).2.2 | exact kI_of (shT_K ‹_›).2.2.1 | exact kI_of (shT_K ‹_›).2.2.2 | exact kFB ‹_› | exact kFM ‹_› | exact kJM ‹_› | exact kFN ‹_› | exact kJN ‹_› | rfl) only [gi_si_ne, gi_sI, gi_sJ, gi_sl, gl_sl_ne, gl_si, gl_sI, gl_sJ, fI_si, fI_sl, fI_sJ, fI_sI_ne, fI_sI_k, fJ_si, fJ_sl, fJ_sI, fJ_sJ_ne, gi_si_eq, gl_sl_eq, fI_sI_eq, fJ_sJ_eq]
      have m138 : gi h2 138 = gi h 138 := by
        rw [eh2, gi_si_eq (((((Sh1.si _ _).si _ _).si _ _).si _ _).si _ _) (by decide) (by decide) rfl]
        exact upd_back _ _ _ _ hc138
      exact ⟨Sh1, fun j => Fh1 _ _, fun x hx => Gh1 x (by omega) (by omega) (by omega) (by omega) (by omega), ev.symm, Rel.of (Sh2)
          (Ra.of (by (try simp (disch := omega) only [Gh2, Lh2, Fh2, Jh2, Gh1, Lh1, Fh1, Jh1]); exact r.a.c)
          (by (try simp (disch := omega) only [Gh2, Lh2, Fh2, Jh2, Gh1, Lh1, Fh1, Jh1]); exact r.a.m)
          (by (try simp (disch := omega) only [Gh2, Lh2, Fh2, Jh2, Gh1, Lh1, Fh1, Jh1]); exact r.a.le)
          (by (try simp (disch := omega) only [Gh2, Lh2, Fh2, Jh2, Gh1, Lh1, Fh1, Jh1]); exact r.a.A)
          (by (try simp (disch := omega) only [Gh2, Lh2, Fh2, Jh2, Gh1, Lh1, Fh1, Jh1]); exact r.a.P))
          (Rb.of (by (try simp (disch := omega) only [Gh2, Lh2, Fh2, Jh2, Gh1, Lh1, Fh1, Jh1]); exact r.b.c)
          (by (try simp (disch := omega) only [Gh2, Lh2, Fh2, Jh2, Gh1, Lh1, Fh1, Jh1]); exact r.b.m)
          (by (try simp (disch := omega) only [Gh2, Lh2, Fh2, Jh2, Gh1, Lh1, Fh1, Jh1]); exact r.b.le)
          (by (try simp (disch := omega) only [Gh2, Lh2, Fh2, Jh2, Gh1, Lh1, Fh1, Jh1]); exact r.b.day)
          (by (try simp (disch := omega) only [Gh2, Lh2, Fh2, Jh2, Gh1, Lh1, Fh1, Jh1]); exact r.b.B)
          (by (try simp (disch := omega) only [Gh2, Lh2, Fh2, Jh2, Gh1, Lh1, Fh1, Jh1]); exact r.b.S)
          (by (try simp (disch := omega) only [Gh2, Lh2, Fh2, Jh2, Gh1, Lh1, Fh1, Jh1]); exact r.b.L)
          (by (try simp (disch := omega) only [Gh2, Lh2, Fh2, Jh2, Gh1, Lh1, Fh1, Jh1]); exact r.b.P)
          (by (try simp (disch := omega) only [Gh2, Lh2, Fh2, Jh2, Gh1, Lh1, Fh1, Jh1]); exact r.b.lb))
          (Rc.of (by (try simp (disch := omega) only [Gh2, Lh2, Fh2, Jh2, Gh1, Lh1, Fh1, Jh1]); exact r.c.c)
          (by (try simp (disch := omega) only [Gh2, Lh2, Fh2, Jh2, Gh1, Lh1, Fh1, Jh1]); exact r.c.m)
          (by (try simp (disch := omega) only [Gh2, Lh2, Fh2, Jh2, Gh1, Lh1, Fh1, Jh1]); exact r.c.le)
          (by rw [Gh2 10 (by omega) (by omega) (by omega) (by omega) (by omega), c10, m139, r.c.E])
          (by rw [Gh2 11 (by omega) (by omega) (by omega) (by omega) (by omega), c11, m140, r.c.S])
          (by rw [Gh2 12 (by omega) (by omega) (by omega) (by omega) (by omega), c12, m141, r.c.T])
          (by rw [Gh2 13 (by omega) (by omega) (by omega) (by omega) (by omega), c13, m138, r.c.C])
          (by rw [Gh2 14 (by omega) (by omega) (by omega) (by omega) (by omega), Gh1 14 (by omega) (by omega) (by omega) (by omega) (by omega), Gh2 142 (by omega) (by omega) (by omega) (by omega) (by omega), n142, r.c.N])
          (by rw [m139, m140, m138]; exact okA_same r.c.ok hc138 hc6)
          (by
          intro j
          rw [m141]
          simp only [upd]
          split
          · exact ⟨by omega, by omega⟩
          · exact r.c.tm j)
          (fun j hj => by rw [m143, ra.2.2 j hj]; exact r.c.tz j hj)
          (fun j hj => by rw [m138]; exact r.c.cz j hj)
          (by rw [Gh2 142 (by omega) (by omega) (by omega) (by omega) (by omega), n142]; exact r.c.nn))
          (Rd.of (by (try simp (disch := omega) only [Gh2, Lh2, Fh2, Jh2, Gh1, Lh1, Fh1, Jh1]); exact r.d.c)
          (by (try simp (disch := omega) only [Gh2, Lh2, Fh2, Jh2, Gh1, Lh1, Fh1, Jh1]); exact r.d.m)
          (by (try simp (disch := omega) only [Gh2, Lh2, Fh2, Jh2, Gh1, Lh1, Fh1, Jh1]); exact r.d.le)
          (fun k hk => RdK.of (by (try simp (disch := omega) only [Gh2, Lh2, Fh2, Jh2, Gh1, Lh1, Fh1, Jh1]); exact (r.d.K k hk).am)
            (by (try simp (disch := omega) only [Gh2, Lh2, Fh2, Jh2, Gh1, Lh1, Fh1, Jh1]); exact (r.d.K k hk).bd)
            (by (try simp (disch := omega) only [Gh2, Lh2, Fh2, Jh2, Gh1, Lh1, Fh1, Jh1]); exact (r.d.K k hk).zr)
            (by (try simp (disch := omega) only [Gh2, Lh2, Fh2, Jh2, Gh1, Lh1, Fh1, Jh1]); exact (r.d.K k hk).un)
            (by (try simp (disch := omega) only [Gh2, Lh2, Fh2, Jh2, Gh1, Lh1, Fh1, Jh1]); exact (r.d.K k hk).ul)
            (by (try simp (disch := omega) only [Gh2, Lh2, Fh2, Jh2, Gh1, Lh1, Fh1, Jh1]); exact (r.d.K k hk).lo)
            (by (try simp (disch := omega) only [Gh2, Lh2, Fh2, Jh2, Gh1, Lh1, Fh1, Jh1]); exact (r.d.K k hk).lb)
            (by (try simp (disch := omega) only [Gh2, Lh2, Fh2, Jh2, Gh1, Lh1, Fh1, Jh1]); exact (r.d.K k hk).po)))
          (Re.of (by (try simp (disch := omega) only [Gh2, Lh2, Fh2, Jh2, Gh1, Lh1, Fh1, Jh1]); exact r.e.fd)
          (by (try simp (disch := omega) only [Gh2, Lh2, Fh2, Jh2, Gh1, Lh1, Fh1, Jh1]); exact r.e.be)
          (by (try simp (disch := omega) only [Gh2, Lh2, Fh2, Jh2, Gh1, Lh1, Fh1, Jh1]); exact r.e.bb)
          (by (try simp (disch := omega) only [Gh2, Lh2, Fh2, Jh2, Gh1, Lh1, Fh1, Jh1]); exact r.e.z))
          (Rf.of (by (try simp (disch := omega) only [Gh2, Lh2, Fh2, Jh2, Gh1, Lh1, Fh1, Jh1]); exact r.f.lim)
          (by (try simp (disch := omega) only [Gh2, Lh2, Fh2, Jh2, Gh1, Lh1, Fh1, Jh1]); exact r.f.l0)
          (by (try simp (disch := omega) only [Gh2, Lh2, Fh2, Jh2, Gh1, Lh1, Fh1, Jh1]); exact r.f.cl)
          (by (try simp (disch := omega) only [Gh2, Lh2, Fh2, Jh2, Gh1, Lh1, Fh1, Jh1]); exact r.f.no)
          (fun t ht => RfK.of (by (try simp (disch := omega) only [Gh2, Lh2, Fh2, Jh2, Gh1, Lh1, Fh1, Jh1]); exact (r.f.K t ht).ins)
            (by (try simp (disch := omega) only [Gh2, Lh2, Fh2, Jh2, Gh1, Lh1, Fh1, Jh1]); exact (r.f.K t ht).siz)
            (by (try simp (disch := omega) only [Gh2, Lh2, Fh2, Jh2, Gh1, Lh1, Fh1, Jh1]); exact (r.f.K t ht).bat)
            (by (try simp (disch := omega) only [Gh2, Lh2, Fh2, Jh2, Gh1, Lh1, Fh1, Jh1]); exact (r.f.K t ht).tap)
            (by (try simp (disch := omega) only [Gh2, Lh2, Fh2, Jh2, Gh1, Lh1, Fh1, Jh1]); exact (r.f.K t ht).stn)
            (by (try simp (disch := omega) only [Gh2, Lh2, Fh2, Jh2, Gh1, Lh1, Fh1, Jh1]); exact (r.f.K t ht).sta)
            (by (try simp (disch := omega) only [Gh2, Lh2, Fh2, Jh2, Gh1, Lh1, Fh1, Jh1]); exact (r.f.K t ht).am)
            (by (try simp (disch := omega) only [Gh2, Lh2, Fh2, Jh2, Gh1, Lh1, Fh1, Jh1]); exact (r.f.K t ht).zr)
            (by (try simp (disch := omega) only [Gh2, Lh2, Fh2, Jh2, Gh1, Lh1, Fh1, Jh1]); exact (r.f.K t ht).lo)
            (by (try simp (disch := omega) only [Gh2, Lh2, Fh2, Jh2, Gh1, Lh1, Fh1, Jh1]); exact (r.f.K t ht).h0)
            (by (try simp (disch := omega) only [Gh2, Lh2, Fh2, Jh2, Gh1, Lh1, Fh1, Jh1]); exact (r.f.K t ht).hr)
            (by (try simp (disch := omega) only [Gh2, Lh2, Fh2, Jh2, Gh1, Lh1, Fh1, Jh1]); exact (r.f.K t ht).r6)
            (by (try simp (disch := omega) only [Gh2, Lh2, Fh2, Jh2, Gh1, Lh1, Fh1, Jh1]); exact (r.f.K t ht).hs)
            (by (try simp (disch := omega) only [Gh2, Lh2, Fh2, Jh2, Gh1, Lh1, Fh1, Jh1]); exact (r.f.K t ht).lb)
            (by (try simp (disch := omega) only [Gh2, Lh2, Fh2, Jh2, Gh1, Lh1, Fh1, Jh1]); exact (r.f.K t ht).bb)))
          (Rg.of (by (try simp (disch := omega) only [Gh2, Lh2, Fh2, Jh2, Gh1, Lh1, Fh1, Jh1]); exact r.g.c)
          (by (try simp (disch := omega) only [Gh2, Lh2, Fh2, Jh2, Gh1, Lh1, Fh1, Jh1]); exact r.g.m)
          (by (try simp (disch := omega) only [Gh2, Lh2, Fh2, Jh2, Gh1, Lh1, Fh1, Jh1]); exact r.g.le)
          (by (try simp (disch := omega) only [Gh2, Lh2, Fh2, Jh2, Gh1, Lh1, Fh1, Jh1]); exact r.g.u)
          (by (try simp (disch := omega) only [Gh2, Lh2, Fh2, Jh2, Gh1, Lh1, Fh1, Jh1]); exact r.g.t)
          (by (try simp (disch := omega) only [Gh2, Lh2, Fh2, Jh2, Gh1, Lh1, Fh1, Jh1]); exact r.g.d)
          (by (try simp (disch := omega) only [Gh2, Lh2, Fh2, Jh2, Gh1, Lh1, Fh1, Jh1]); exact r.g.b)
          (by (try simp (disch := omega) only [Gh2, Lh2, Fh2, Jh2, Gh1, Lh1, Fh1, Jh1]); exact r.g.l)
          (by (try simp (disch := omega) only [Gh2, Lh2, Fh2, Jh2, Gh1, Lh1, Fh1, Jh1]); exact r.g.bb)
          (by (try simp (disch := omega) only [Gh2, Lh2, Fh2, Jh2, Gh1, Lh1, Fh1, Jh1]); exact r.g.lb))
          (Rh.of (by (try simp (disch := omega) only [Gh2, Lh2, Fh2, Jh2, Gh1, Lh1, Fh1, Jh1]); exact r.j.c)
          (by (try simp (disch := omega) only [Gh2, Lh2, Fh2, Jh2, Gh1, Lh1, Fh1, Jh1]); exact r.j.m)
          (by (try simp (disch := omega) only [Gh2, Lh2, Fh2, Jh2, Gh1, Lh1, Fh1, Jh1]); exact r.j.le)
          (by (try simp (disch := omega) only [Gh2, Lh2, Fh2, Jh2, Gh1, Lh1, Fh1, Jh1]); exact r.j.pc)
          (by (try simp (disch := omega) only [Gh2, Lh2, Fh2, Jh2, Gh1, Lh1, Fh1, Jh1]); exact r.j.pm)
          (by (try simp (disch := omega) only [Gh2, Lh2, Fh2, Jh2, Gh1, Lh1, Fh1, Jh1]); exact r.j.pl)
          (by (try simp (disch := omega) only [Gh2, Lh2, Fh2, Jh2, Gh1, Lh1, Fh1, Jh1]); exact r.j.hu)
          (by (try simp (disch := omega) only [Gh2, Lh2, Fh2, Jh2, Gh1, Lh1, Fh1, Jh1]); exact r.j.ti)
          (by (try simp (disch := omega) only [Gh2, Lh2, Fh2, Jh2, Gh1, Lh1, Fh1, Jh1]); exact r.j.du)
          (by (try simp (disch := omega) only [Gh2, Lh2, Fh2, Jh2, Gh1, Lh1, Fh1, Jh1]); exact r.j.pr)
          (by (try simp (disch := omega) only [Gh2, Lh2, Fh2, Jh2, Gh1, Lh1, Fh1, Jh1]); exact r.j.ch)
          (by (try simp (disch := omega) only [Gh2, Lh2, Fh2, Jh2, Gh1, Lh1, Fh1, Jh1]); exact r.j.od)
          (by (try simp (disch := omega) only [Gh2, Lh2, Fh2, Jh2, Gh1, Lh1, Fh1, Jh1]); exact r.j.ok)
          (by (try simp (disch := omega) only [Gh2, Lh2, Fh2, Jh2, Gh1, Lh1, Fh1, Jh1]); exact r.j.tb)
          (by (try simp (disch := omega) only [Gh2, Lh2, Fh2, Jh2, Gh1, Lh1, Fh1, Jh1]); exact r.j.db))⟩
  · simp only [vAP, uAP, vmP, umP, if_neg hc6]
    exact ⟨r.S, by simp, by simp, by simp, r⟩
theorem J_part {h : HF} {nb nl nr nt nd nj np : Nat} (r : Rel h nb nl nr nt nd nj np) (a e w n : Int32) (he : vp_nar .boolean e = e) : JJ mX9_part mX10_part [.ref 1, .int a, .int e, .int w, .int n] [.ref 132, .int a, .int e, .int w, .int n] h := by
  have cc := c_X9_part r.S a e w n he nr r.c.c r.c.le nb r.a.c r.a.le (by rw [r.c.E, r.c.S, r.c.C]; exact r.c.ok)
  have m0 := c_X10_part r.S a e w n he nr r.c.m r.c.le nb r.a.m r.a.le r.c.ok
  have main : ltB a (nI nr) = true → inB n 1 100 = true → (∃ s, w = nI s ∧ (e = 0 → s < 8) ∧ (¬ e = 0 → s < a.toNatClampNeg)) → prt e w n a nr nb (vAP h a.toNatClampNeg (gi h 13 a.toNatClampNeg).toNatClampNeg e w n nr) = vAP h a.toNatClampNeg (gi h 13 a.toNatClampNeg).toNatClampNeg e w n nr → (∀ x, prt e w n a nr nb x = x) → (∀ x y, prtH e w n a nr nb x y = y) → JJ mX9_part mX10_part [.ref 1, .int a, .int e, .int w, .int n] [.ref 132, .int a, .int e, .int w, .int n] h := by
    intro g0 g2 gs _ e1 e2
    obtain ⟨s, hv, q0, q1⟩ := gs
    have ha := ltB_cl (by have := r.c.le; omega) g0
    have gn := inB_i g2
    simp only [Int32.reduceToInt] at gn
    rw [e1, e2] at cc
    obtain ⟨c, hc, ec, _⟩ := r.c.ok _ ha
    rw [r.c.C, ec, nI_clamp (by omega)] at cc
    obtain ⟨S1, F1, G1, ev, r1⟩ := part_ok r ha ec hc hv q0 q1 gn
    have m := c_X10_part S1 a e w n he nr (by rw [F1]; exact r.c.m) r.c.le nb (by rw [F1]; exact r.a.m) r.a.le (by rw [G1 139 (by omega), G1 140 (by omega), G1 138 (by omega)]; exact r.c.ok)
    rw [e1, e2, G1 138 (by omega), ec, nI_clamp (by omega)] at m
    exact JJ_upd cc m ev r1
  by_cases g0 : ltB a (nI nr) = true
  · by_cases ge : e = 0
    · by_cases g1 : ltB w (nI nb) = true
      · by_cases g2 : inB n 1 100 = true
        · obtain ⟨s, hs, hw⟩ := ltB_of (by have := r.a.le; omega) g1
          exact main g0 g2 ⟨s, hw, fun _ => by have := r.a.le; omega, fun q => absurd ge q⟩ (by simp only [prt, if_pos g0, if_pos ge, if_pos g1, if_pos g2]) (fun x => by simp only [prt, if_pos g0, if_pos ge, if_pos g1, if_pos g2]) (fun x y => by simp only [prtH, if_pos g0, if_pos ge, if_pos g1, if_pos g2])
        · simp only [prt, prtH, if_pos g0, if_pos ge, if_pos g1, if_neg g2] at cc m0
          exact JJ_upd cc m0 rfl r
      · simp only [prt, prtH, if_pos g0, if_pos ge, if_neg g1] at cc m0
        exact JJ_upd cc m0 rfl r
    · by_cases g1 : ltB w (nI nr) = true
      · by_cases g2 : inB n 1 100 = true
        · by_cases g3 : w < a
          · obtain ⟨s, hs, hw⟩ := ltB_of (by have := r.c.le; omega) g1
            obtain ⟨x, hx, hxa⟩ := ltB_of (by have := r.c.le; omega) g0
            have q3 : s < a.toNatClampNeg := by
              rw [hxa, nI_clamp (by have := r.c.le; omega)]
              have y := Int32.lt_iff_toInt_lt.mp g3
              rw [hw, hxa, nI_tI (by have := r.c.le; omega), nI_tI (by have := r.c.le; omega)] at y
              omega
            exact main g0 g2 ⟨s, hw, fun q => absurd q ge, fun _ => q3⟩ (by simp only [prt, if_pos g0, if_neg ge, if_pos g1, if_pos g2, if_pos g3]) (fun x => by simp only [prt, if_pos g0, if_neg ge, if_pos g1, if_pos g2, if_pos g3]) (fun x y => by simp only [prtH, if_pos g0, if_neg ge, if_pos g1, if_pos g2, if_pos g3])
          · simp only [prt, prtH, if_pos g0, if_neg ge, if_pos g1, if_pos g2, if_neg g3] at cc m0
            exact JJ_upd cc m0 rfl r
        · simp only [prt, prtH, if_pos g0, if_neg ge, if_pos g1, if_neg g2] at cc m0
          exact JJ_upd cc m0 rfl r
      · simp only [prt, prtH, if_pos g0, if_neg ge, if_neg g1] at cc m0
        exact JJ_upd cc m0 rfl r
  · simp only [prt, prtH, if_neg g0] at cc m0
    exact JJ_upd cc m0 rfl r
