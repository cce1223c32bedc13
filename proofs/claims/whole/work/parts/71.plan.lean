/-- only cell a changed -/
def Fo (a : Nat) (h h' : HF) : Prop := Sh h' ∧ (∀ x, x ≠ a → gi h' x = gi h x) ∧ (∀ x, gl h' x = gl h x) ∧ (∀ x k, fI h' x k = fI h x k) ∧ (∀ x k, fJ h' x k = fJ h x k)
theorem Fo.refl {a : Nat} {h : HF} (hS : Sh h) : Fo a h h := ⟨hS, fun _ _ => rfl, fun _ => rfl, fun _ _ => rfl, fun _ _ => rfl⟩
theorem Fo.trans {a : Nat} {h h' h'' : HF} (p : Fo a h h') (q : Fo a h' h'') : Fo a h h'' :=
  ⟨q.1, fun x hx => by rw [q.2.1 x hx, p.2.1 x hx], fun x => by rw [q.2.2.1, p.2.2.1], fun x k => by rw [q.2.2.2.1, p.2.2.2.1], fun x k => by rw [q.2.2.2.2, p.2.2.2.2]⟩
theorem Fo.si {a : Nat} {h : HF} (hS : Sh h) (f : Nat → Int32) : Fo a h (si h a f) :=
  ⟨hS.si _ _, fun x hx => gi_si_ne hx f, fun x => gl_si _ _ _ _, fun x k => fI_si _ _ _ _ _, fun x k => fJ_si _ _ _ _ _⟩
/-- the cost of the best next, none where nothing is left -/
def bv (cost : Nat → Int32) (D z : Nat) : Int32 := match bnR cost D z with
  | none => 0
  | some q => cost q.1
theorem bnR_congr {c c' : Nat → Int32} {D : Nat} : ∀ {n : Nat}, (∀ j, j < n → D.testBit j = false → c j = c' j) → bnR c D n = bnR c' D n
  | 0, _ => rfl
  | n + 1, h => by
    have ih := bnR_congr (n := n) (fun j hj => h j (by omega))
    by_cases e : D.testBit n = true
    · rw [bnR_b e, bnR_b e, ih]
    · have e' : D.testBit n = false := Bool.eq_false_iff.mpr e
      rw [bnR, bnR, if_neg e, if_neg e, ih, h n (by omega) e']
theorem bv_congr {c c' : Nat → Int32} {D n : Nat} (h : ∀ j, j < n → D.testBit j = false → c j = c' j) : bv c D n = bv c' D n := by
  rw [bv, bv, bnR_congr h]
  cases e : bnR c' D n with
  | none => rfl
  | some q =>
    obtain ⟨m, l⟩ := q
    obtain ⟨h1, h2, _⟩ := bnR_lt e
    exact h m h1 h2
theorem or_gt {D j : Nat} (h : D.testBit j = false) : D < D ||| 2 ^ j := by
  refine Nat.lt_of_le_of_ne Nat.left_le_or (fun e => ?_)
  have q := fb_bit_set D j j
  rw [← e, h] at q
  simp at q
theorem or_lt2 {D j z : Nat} (hD : D < 2 ^ z) (hj : j < z) : D ||| 2 ^ j < 2 ^ z := Nat.or_lt_two_pow hD (Nat.pow_lt_pow_right (by decide) hj)
theorem or_bit (D j : Nat) : (D ||| 2 ^ j).testBit j = true := by rw [fb_bit_set]; simp
theorem arV_bv (h : HF) (z D u : Nat) (c : Int32) : arV h z D u c = bv (fun j => cwF h j D u c) D z := rfl
theorem mvV_bv (h : HF) (z D u : Nat) : mvV h z D u = bv (fun j => thF h z D u j) D z := rfl
theorem cwF_of {h g : HF} {j D u : Nat} {c : Int32} (p : Fo 37 h g) (hC : gi g 37 ((D ||| 2 ^ j) * 6 + hN h j) = gi h 37 ((D ||| 2 ^ j) * 6 + hN h j)) : cwF g j D u c = cwF h j D u c := by
  have e : hN g j = hN h j := by rw [hN, hN, p.2.1 32 (by omega)]
  rw [cwF, cwF, e, hC, p.2.1 36 (by omega), p.2.1 35 (by omega), p.2.1 33 (by omega), p.2.1 34 (by omega)]
theorem arU_all {z D : Nat} {c : Int32} : ∀ (n u : Nat) (g : HF), Sh g → okH g z → u + n = 6 → Fo 37 g (arU z D c n u g) ∧ ∀ i, gi (arU z D c n u g) 37 i = if D * 6 + u ≤ i ∧ i < D * 6 + 6 then arV g z D (i - D * 6) c else gi g 37 i
  | 0, u, g, hS, _, hu => ⟨Fo.refl hS, fun i => (if_neg (by omega)).symm⟩
  | n + 1, u, g, hS, hk, hu => by
    rw [arU]
    have p : Fo 37 g (arC g z D u c) := Fo.si hS _
    have v : gi (arC g z D u c) 37 = upd (gi g 37) (D * 6 + u) (arV g z D u c) := by rw [arC, gi_si_eq hS (by decide) (by decide) rfl]
    have hk' : okH (arC g z D u c) z := okH_of (p.2.1 32 (by omega)) hk
    obtain ⟨q1, q2⟩ := arU_all (D := D) (c := c) n (u + 1) (arC g z D u c) p.1 hk' (by omega)
    refine ⟨p.trans q1, fun i => ?_⟩
    have ev : ∀ w, arV (arC g z D u c) z D w c = arV g z D w c := by
      intro w
      rw [arV_bv, arV_bv]
      refine bv_congr (fun j hj hb => cwF_of p ?_)
      rw [v]
      simp only [upd]
      rw [if_neg]
      have h1 := or_gt hb
      have h2 := (hk j hj).2
      omega
    rw [q2, v, ev]
    simp only [upd]
    by_cases e : i = D * 6 + u
    · subst e
      rw [if_neg (by omega), if_pos rfl, if_pos (by omega), show D * 6 + u - D * 6 = u by omega]
    · rw [if_neg e]
      by_cases e2 : D * 6 + (u + 1) ≤ i ∧ i < D * 6 + 6
      · rw [if_pos e2, if_pos (by omega)]
      · rw [if_neg e2, if_neg (by omega)]
theorem arD_all {z : Nat} : ∀ (k : Nat) (g : HF), Sh g → okH g z → k ≤ 2 ^ z → (∀ D u, k ≤ D → D < 2 ^ z → u < 6 → gi g 37 (D * 6 + u) = bv (fun j => cwF g j D u (tsum (gi g 33) D z)) D z) → Fo 37 g (arD z k g) ∧ ∀ D u, D < 2 ^ z → u < 6 → gi (arD z k g) 37 (D * 6 + u) = bv (fun j => cwF (arD z k g) j D u (tsum (gi g 33) D z)) D z
  | 0, g, hS, _, _, h => ⟨Fo.refl hS, fun D u hD hu => h D u (by omega) hD hu⟩
  | k + 1, g, hS, hk, hz, h => by
    rw [arD]
    obtain ⟨p, q⟩ := arU_all (D := k) (c := tsum (gi g 33) k z) 6 0 g hS hk (by omega)
    have hk' : okH (arU z k (tsum (gi g 33) k z) 6 0 g) z := okH_of (p.2.1 32 (by omega)) hk
    have e33 := p.2.1 33 (by omega)
    have ih := arD_all k (arU z k (tsum (gi g 33) k z) 6 0 g) p.1 hk' (by omega) (by
      intro D u hD1 hD2 hu
      rw [q, e33]
      have ec : bv (fun j => cwF (arU z k (tsum (gi g 33) k z) 6 0 g) j D u (tsum (gi g 33) D z)) D z = bv (fun j => cwF g j D u (tsum (gi g 33) D z)) D z := by
        refine bv_congr (fun j hj hb => cwF_of p ?_)
        rw [q, if_neg]
        have h1 := or_gt hb
        omega
      rw [ec]
      by_cases e : D = k
      · subst e
        rw [if_pos (by omega), show D * 6 + u - D * 6 = u by omega]; rfl
      · rw [if_neg (by omega)]
        exact h D u (by omega) hD2 hu)
    rw [e33] at ih
    exact ⟨p.trans ih.1, ih.2⟩
theorem thF_of {h g : HF} {z D u j : Nat} (p : Fo 168 h g) (hC : gi g 168 (9 * (D ||| 2 ^ j) + j) = gi h 168 (9 * (D ||| 2 ^ j) + j)) : thF g z D u j = thF h z D u j := by
  have e : hM g j = hM h j := by rw [hM, hM, p.2.1 162 (by omega)]
  rw [thF, thF, e, hC, p.2.1 166 (by omega), p.2.1 165 (by omega), p.2.1 163 (by omega), p.2.1 164 (by omega)]
theorem mvU_all {z D : Nat} (hz : z ≤ 8) : ∀ (n l : Nat) (g : HF), Sh g → l + n = z → Fo 168 g (mvU z D n l g) ∧ ∀ i, gi (mvU z D n l g) 168 i = if 9 * D + l ≤ i ∧ i < 9 * D + z then mvL g z D (i - 9 * D) else gi g 168 i
  | 0, l, g, hS, hl => ⟨Fo.refl hS, fun i => (if_neg (by omega)).symm⟩
  | n + 1, l, g, hS, hl => by
    rw [mvU]
    have p : Fo 168 g (mvC g z D l) := Fo.si hS _
    have v : gi (mvC g z D l) 168 = upd (gi g 168) (9 * D + l) (mvL g z D l) := by rw [mvC, gi_si_eq hS (by decide) (by decide) rfl]
    obtain ⟨q1, q2⟩ := mvU_all (D := D) hz n (l + 1) (mvC g z D l) p.1 (by omega)
    refine ⟨p.trans q1, fun i => ?_⟩
    have ev : ∀ w, mvL (mvC g z D l) z D w = mvL g z D w := by
      intro w
      rw [mvL, mvL, show hM (mvC g z D l) w = hM g w by rw [hM, hM, p.2.1 162 (by omega)], mvV_bv, mvV_bv]
      refine if_same (fun _ => bv_congr (fun j hj hb => thF_of p ?_))
      rw [v]
      simp only [upd]
      rw [if_neg]
      have h1 := or_gt hb
      omega
    rw [q2, v, ev]
    simp only [upd]
    by_cases e : i = 9 * D + l
    · subst e
      rw [if_neg (by omega), if_pos rfl, if_pos (by omega), show 9 * D + l - 9 * D = l by omega]
    · rw [if_neg e]
      by_cases e2 : 9 * D + (l + 1) ≤ i ∧ i < 9 * D + z
      · rw [if_pos e2, if_pos (by omega)]
      · rw [if_neg e2, if_neg (by omega)]
theorem mvD_all {z : Nat} (hz8 : z ≤ 8) : ∀ (k : Nat) (g : HF), Sh g → k ≤ 2 ^ z → (∀ D l, k ≤ D → D < 2 ^ z → l < z → D.testBit l = true → gi g 168 (9 * D + l) = bv (fun j => thF g z D (hM g l) j) D z) → Fo 168 g (mvD z k g) ∧ ∀ D l, D < 2 ^ z → l < z → D.testBit l = true → gi (mvD z k g) 168 (9 * D + l) = bv (fun j => thF (mvD z k g) z D (hM g l) j) D z
  | 0, g, hS, _, h => ⟨Fo.refl hS, fun D l hD hl hb => h D l (by omega) hD hl hb⟩
  | k + 1, g, hS, hz, h => by
    rw [mvD]
    obtain ⟨p, q⟩ := mvU_all (D := k) hz8 z 0 g hS (by omega)
    have eh : ∀ l, hM (mvU z k z 0 g) l = hM g l := fun l => by rw [hM, hM, p.2.1 162 (by omega)]
    have ih := mvD_all hz8 k (mvU z k z 0 g) p.1 (by omega) (by
      intro D l hD1 hD2 hl hb
      rw [q, eh]
      have ec : bv (fun j => thF (mvU z k z 0 g) z D (hM g l) j) D z = bv (fun j => thF g z D (hM g l) j) D z := by
        refine bv_congr (fun j hj hbj => thF_of p ?_)
        rw [q, if_neg]
        have h1 := or_gt hbj
        omega
      rw [ec]
      by_cases e : D = k
      · subst e
        rw [if_pos (by omega), show 9 * D + l - 9 * D = l by omega, mvL, if_pos hb]; rfl
      · rw [if_neg (by omega)]
        exact h D l (by omega) hD2 hl hb)
    refine ⟨p.trans ih.1, fun D l hD hl hb => ?_⟩
    rw [← eh l]
    exact ih.2 D l hD hl hb
theorem mtS_eq (T : Nat → Int32) (D j : Nat) : ∀ n, mtS T D j n = T j + tsum T D n
  | 0 => by rw [mtS, tsum, Int32.add_zero]
  | n + 1 => by
    rw [mtS, tsum, mtS_eq T D j n]
    split
    · rw [Int32.add_assoc]
    · rfl
theorem tsum_rng {T : Nat → Int32} (hT : ∀ j, 0 ≤ (T j).toInt ∧ (T j).toInt ≤ 100) (D : Nat) : ∀ n, n ≤ 8 → 0 ≤ (tsum T D n).toInt ∧ (tsum T D n).toInt ≤ 100 * n
  | 0, _ => ⟨by rw [tsum]; decide, by rw [tsum]; decide⟩
  | n + 1, h => by
    obtain ⟨i1, i2⟩ := tsum_rng hT D n (by omega)
    have ht := hT n
    rw [tsum]
    split
    · rw [tI_add (by omega) (by omega) (by omega) (by omega)]; omega
    · omega
theorem tsum_or {T : Nat → Int32} {D j : Nat} (hb : D.testBit j = false) : ∀ n, tsum T (D ||| 2 ^ j) n = if j < n then tsum T D n + T j else tsum T D n
  | 0 => rfl
  | n + 1 => by
    rw [tsum, tsum, tsum_or hb n, fb_bit_set]
    by_cases e : n = j
    · subst e
      rw [hb]
      simp
    · rw [decide_eq_false e, Bool.or_false]
      by_cases q : j < n
      · rw [if_pos q, if_pos (show j < n + 1 by omega)]
        by_cases w : D.testBit n = true
        · rw [if_pos w, if_pos w]; ac_rfl
        · rw [if_neg w, if_neg w]
      · rw [if_neg q, if_neg (show ¬ j < n + 1 by omega)]
theorem tsum_0 (T : Nat → Int32) : ∀ n, tsum T 0 n = 0
  | 0 => rfl
  | n + 1 => by rw [tsum, if_neg (by simp), tsum_0 T n]
theorem late_eq {s t d : Int32} (hs : 0 ≤ s.toInt ∧ s.toInt ≤ 1000) (ht : 0 ≤ t.toInt ∧ t.toInt ≤ 100) (hd : 0 ≤ d.toInt ∧ d.toInt ≤ 1000) : maxI 0 (s + t - d) = if t + s ≤ d then 0 else t + s - d := by
  have e1 : (s + t).toInt = s.toInt + t.toInt := tI_add (by omega) (by omega) (by omega) (by omega)
  have e2 : (s + t - d).toInt = s.toInt + t.toInt - d.toInt := by rw [tI_sub (by omega) (by omega) (by omega) (by omega), e1]
  rw [Int32.add_comm t s]
  by_cases c : s + t ≤ d
  · rw [if_pos c, maxI, if_neg]
    rw [tI_lt0, e2]
    have := Int32.le_iff_toInt_le.mp c
    omega
  · rw [if_neg c, maxI, if_pos]
    rw [tI_lt0, e2]
    have := Int32.lt_iff_toInt_lt.mp (Int32.not_le.mp c)
    omega
/-- the order written, by costs alone -/
def oW (z : Nat) (cost : Nat → Nat → Nat → Int32) (hue : Nat → Nat) : Nat → Nat → Nat → Nat → (Nat → Int32) → (Nat → Int32)
  | 0, _, _, _, O => O
  | k + 1, i, D, u, O => match bnR (cost D u) D z with
    | none => O
    | some q => oW z cost hue k (i + 1) (D ||| 2 ^ q.1) (hue q.1) (upd O i (nI q.1))
theorem oW_congr {z : Nat} {c c' : Nat → Nat → Nat → Int32} {hue : Nat → Nat} (hh : ∀ j, j < z → hue j < 6) (h : ∀ D u j, D < 2 ^ z → u < 6 → j < z → D.testBit j = false → c D u j = c' D u j) : ∀ (k i D u : Nat) (O : Nat → Int32), D < 2 ^ z → u < 6 → oW z c hue k i D u O = oW z c' hue k i D u O
  | 0, _, _, _, _, _, _ => rfl
  | k + 1, i, D, u, O, hD, hu => by
    rw [oW, oW, bnR_congr (c' := c' D u) (fun j hj hb => h D u j hD hu hj hb)]
    cases e : bnR (c' D u) D z with
    | none => rfl
    | some q =>
      obtain ⟨m, l⟩ := q
      obtain ⟨h1, h2, _⟩ := bnR_lt e
      exact oW_congr hh h k (i + 1) _ _ _ (or_lt2 hD h1) (hh m h1)
theorem woR_all {z : Nat} {g0 : HF} : ∀ (k i D u : Nat) (c : Int32) (g : HF), Fo 38 g0 g → c = tsum (gi g0 33) D z → Fo 38 g0 (woR z k i D u c g) ∧ gi (woR z k i D u c g) 38 = oW z (fun D u j => cwF g0 j D u (tsum (gi g0 33) D z)) (hN g0) k i D u (gi g 38)
  | 0, i, D, u, c, g, p, _ => ⟨p, rfl⟩
  | k + 1, i, D, u, c, g, p, hc => by
    have ec : (fun j => cwF g j D u c) = (fun j => cwF g0 j D u (tsum (gi g0 33) D z)) := by
      funext j
      rw [hc, cwF, cwF, show hN g j = hN g0 j by rw [hN, hN, p.2.1 32 (by omega)], p.2.1 36 (by omega), p.2.1 35 (by omega), p.2.1 33 (by omega), p.2.1 34 (by omega), p.2.1 37 (by omega)]
    rw [woR, oW, ec]
    cases e : bnR (fun j => cwF g0 j D u (tsum (gi g0 33) D z)) D z with
    | none => exact ⟨p, rfl⟩
    | some q =>
      obtain ⟨m, l⟩ := q
      obtain ⟨h1, h2, _⟩ := bnR_lt e
      have p2 : Fo 38 g0 (si g 38 (upd (gi g 38) i (nI m))) := p.trans (Fo.si p.1 _)
      have ih := woR_all (z := z) k (i + 1) (D ||| 2 ^ m) (hN g m) (c + gi g 33 m) (si g 38 (upd (gi g 38) i (nI m))) p2 (by rw [tsum_or h2, if_pos h1, hc, p.2.1 33 (by omega)])
      rw [gi_si_eq p.1 (by decide) (by decide) rfl, show hN g m = hN g0 m by rw [hN, hN, p.2.1 32 (by omega)]] at ih
      rw [← show hN g m = hN g0 m by rw [hN, hN, p.2.1 32 (by omega)]] at ih
      simp only [show hN g m = hN g0 m by rw [hN, hN, p.2.1 32 (by omega)]] at ih ⊢
      exact ih
theorem moR_all {z : Nat} {g0 : HF} : ∀ (k i D u : Nat) (g : HF), Fo 167 g0 g → Fo 167 g0 (moR z k i D u g) ∧ gi (moR z k i D u g) 167 = oW z (fun D u j => thF g0 z D u j) (hM g0) k i D u (gi g 167)
  | 0, i, D, u, g, p => ⟨p, rfl⟩
  | k + 1, i, D, u, g, p => by
    have ec : (fun j => thF g z D u j) = (fun j => thF g0 z D u j) := by
      funext j
      rw [thF, thF, show hM g j = hM g0 j by rw [hM, hM, p.2.1 162 (by omega)], p.2.1 166 (by omega), p.2.1 165 (by omega), p.2.1 163 (by omega), p.2.1 164 (by omega), p.2.1 168 (by omega)]
    rw [moR, oW, ec]
    cases e : bnR (fun j => thF g0 z D u j) D z with
    | none => exact ⟨p, rfl⟩
    | some q =>
      obtain ⟨m, l⟩ := q
      have p2 : Fo 167 g0 (si g 167 (upd (gi g 167) i (nI m))) := p.trans (Fo.si p.1 _)
      have ih := moR_all (z := z) k (i + 1) (D ||| 2 ^ m) (hM g m) (si g 167 (upd (gi g 167) i (nI m))) p2
      rw [gi_si_eq p.1 (by decide) (by decide) rfl] at ih
      simp only [show hM g m = hM g0 m by rw [hM, hM, p.2.1 162 (by omega)]] at ih ⊢
      exact ih
/-- the costs of both, where what follows agrees -/
theorem cost_eq {h0 g g' : HF} {nj : Nat} (hj8 : nj ≤ 8) (hu : gi g 32 = gi g' 162) (hti : gi g 33 = gi g' 163) (hdu : gi g 34 = gi g' 164) (hpr : gi g 35 = gi g' 165) (hch : gi g 36 = gi g' 166) (tb : ∀ j, 0 ≤ (gi g' 163 j).toInt ∧ (gi g' 163 j).toInt ≤ 100) (db : ∀ j, 0 ≤ (gi g' 164 j).toInt ∧ (gi g' 164 j).toInt ≤ 1000) {D u j : Nat} (hC : gi g 37 ((D ||| 2 ^ j) * 6 + hN g j) = gi g' 168 (9 * (D ||| 2 ^ j) + j)) : cwF g j D u (tsum (gi g 33) D nj) = thF g' nj D u j := by
  have eN : hN g j = hM g' j := by rw [hN, hM, hu]
  have rg := tsum_rng tb D nj hj8
  rw [cwF, thF, hC, eN, hch, hpr, hti, hdu, mtS_eq, late_eq ⟨rg.1, by omega⟩ (tb j) (db j), Nat.mul_comm u 6]
theorem costs_eq {g g' : HF} {nj : Nat} (hj8 : nj ≤ 8) (hu : gi g 32 = gi g' 162) (hti : gi g 33 = gi g' 163) (hdu : gi g 34 = gi g' 164) (hpr : gi g 35 = gi g' 165) (hch : gi g 36 = gi g' 166) (tb : ∀ j, 0 ≤ (gi g' 163 j).toInt ∧ (gi g' 163 j).toInt ≤ 100) (db : ∀ j, 0 ≤ (gi g' 164 j).toInt ∧ (gi g' 164 j).toInt ≤ 1000) (h6 : ∀ j, j < nj → hN g j < 6)
    (hc : ∀ D u, D < 2 ^ nj → u < 6 → gi g 37 (D * 6 + u) = bv (fun j => cwF g j D u (tsum (gi g 33) D nj)) D nj)
    (hm : ∀ D l, D < 2 ^ nj → l < nj → D.testBit l = true → gi g' 168 (9 * D + l) = bv (fun j => thF g' nj D (hM g' l) j) D nj) : ∀ (n D : Nat), D + n = 2 ^ nj → (∀ l, l < nj → D.testBit l = true → gi g 37 (D * 6 + hN g l) = gi g' 168 (9 * D + l)) ∧ ∀ u j, u < 6 → j < nj → D.testBit j = false → D < 2 ^ nj → cwF g j D u (tsum (gi g 33) D nj) = thF g' nj D u j := by
  intro n
  induction n using Nat.strongRecOn with
  | ind n ih =>
    intro D hD
    have key : ∀ u j, u < 6 → j < nj → D.testBit j = false → D < 2 ^ nj → cwF g j D u (tsum (gi g 33) D nj) = thF g' nj D u j := by
      intro u j hu6 hj hb hlt
      have h1 := or_gt hb
      have h2 := or_lt2 hlt hj
      refine cost_eq (h0 := g) hj8 hu hti hdu hpr hch tb db ?_
      exact (ih (2 ^ nj - (D ||| 2 ^ j)) (by omega) (D ||| 2 ^ j) (by omega)).1 j hj (or_bit D j)
    refine ⟨fun l hl hb => ?_, key⟩
    have hlt : D < 2 ^ nj := by
      refine Nat.lt_of_not_le (fun q => ?_)
      obtain rfl : D = 2 ^ nj := by omega
      rw [Nat.testBit_two_pow_of_ne (by omega)] at hb
      exact absurd hb (by decide)
    have eN : hN g l = hM g' l := by rw [hN, hM, hu]
    rw [hc D (hN g l) hlt (h6 l hl), hm D l hlt hl hb, ← eN]
    exact bv_congr (fun j hj hbj => key (hN g l) j (h6 l hl) hj hbj hlt)
theorem J_plan {h : HF} {nb nl nr nt nd nj np : Nat} (r : Rel h nb nl nr nt nd nj np) (u : Int32) : JJ mX9_plan mX10_plan [.ref 1, .int u] [.ref 132, .int u] h := by
  have okM0 : okM h nj := fun j hj => by
    obtain ⟨v, h1, h2⟩ := r.j.ok j hj
    rw [hM, h2, nI_clamp (by omega)]; exact ⟨rfl, h1⟩
  have okH0 : okH h nj := fun j hj => by
    obtain ⟨v, h1, h2⟩ := r.j.ok j hj
    rw [hN, r.j.hu, h2, nI_clamp (by omega)]; exact ⟨rfl, h1⟩
  have c := c_X9_plan r.S u nj r.j.c r.j.le okH0
  by_cases g0 : inB u 0 5 = true
  · have hu6 := inB_cl (n := 5) (by decide) g0
    simp only [uPlan, vPlan, if_pos g0] at c
    -- the class's
    obtain ⟨⟨S1, Gc1, Lc1, Fc1, Jc1⟩, q1⟩ := arD_all (z := nj) (2 ^ nj) h r.S okH0 (Nat.le_refl _) (fun D u h1 h2 => by omega)
    rw [arrH] at c
    obtain ⟨a1, ea1⟩ : ∃ q, q = arD nj (2 ^ nj) h := ⟨_, rfl⟩
    rw [← ea1] at c S1 Gc1 Lc1 Fc1 Jc1 q1
    obtain ⟨s, es⟩ : ∃ zz : HF, zz = sI a1 31 8 (nI nj) := ⟨_, rfl⟩
    have Ss : Sh s := by rw [es]; (repeat (first | exact S1 | apply Sh.si | apply Sh.sI | apply Sh.sJ | apply Sh.sl))
    have Gs : ∀ x, gi s x = gi a1 x := by
      intro x ; rw [es]; (try simp (disch := first | assumption | omega) only [gi_si_ne, gi_sI, gi_sJ, gi_sl, gl_sl_ne, gl_si, gl_sI, gl_sJ, fI_si, fI_sl, fI_sJ, fI_sI_ne, fI_sI_k, fJ_si, fJ_sl, fJ_sI, fJ_sJ_ne])
    have Ls : ∀ x, gl s x = gl a1 x := by
      intro x ; rw [es]; (try simp (disch := first | assumption | omega) only [gi_si_ne, gi_sI, gi_sJ, gi_sl, gl_sl_ne, gl_si, gl_sI, gl_sJ, fI_si, fI_sl, fI_sJ, fI_sI_ne, fI_sI_k, fJ_si, fJ_sl, fJ_sI, fJ_sJ_ne])
    have Fs : ∀ x kk, ¬ (x = 31 ∧ kk = 8) → fI s x kk = fI a1 x kk := by
      intro x kk q0; rw [es]; first | rfl | (simp (disch := first | assumption | omega) only [fI_si, fI_sl, fI_sJ, fI_sI_o])
    have Js : ∀ x kk, fJ s x kk = fJ a1 x kk := by
      intro x kk ; rw [es]; first | rfl | (simp (disch := first | assumption | omega) only [fJ_si, fJ_sl, fJ_sI, fJ_sJ_o])
    have s8 : fI s 31 8 = nI nj := by rw [es, fI_sI_eq S1 (by decide) (by decide) rfl]
    rw [← es] at c
    have e33 : gi s 33 = gi h 33 := by rw [Gs, Gc1 33 (by omega)]
    obtain ⟨⟨S2, Gc2, Lc2, Fc2, Jc2⟩, q2⟩ := woR_all (z := nj) (g0 := s) nj 0 0 u.toNatClampNeg 0 s (Fo.refl Ss) (tsum_0 _ _).symm
    obtain ⟨h1, eh1⟩ : ∃ q, q = woR nj nj 0 0 u.toNatClampNeg 0 s := ⟨_, rfl⟩
    rw [← eh1] at c S2 Gc2 Lc2 Fc2 Jc2 q2
    -- the model's
    have GG : ∀ x, 132 ≤ x → gi h1 x = gi h x := fun x hx => by rw [Gc2 x (by omega), Gs, Gc1 x (by omega)]
    have FF : ∀ k, fI h1 132 k = fI h 132 k := fun k => by rw [Fc2, Fs _ _ (by omega), Fc1]
    have okM1 : okM h1 nj := okM_of (GG 162 (by omega)) okM0
    have m := c_X10_plan S2 u nj (by rw [FF]; exact r.j.m) r.j.le okM1
    simp only [umPl, vmPl, if_pos g0, mpH2] at m
    obtain ⟨⟨S3, Gm1, Lm1, Fm1, Jm1⟩, q3⟩ := mvD_all (z := nj) r.j.le (2 ^ nj) h1 S2 (Nat.le_refl _) (fun D u h1 h2 => by omega)
    obtain ⟨a2, ea2⟩ : ∃ q, q = mvD nj (2 ^ nj) h1 := ⟨_, rfl⟩
    rw [← ea2] at m S3 Gm1 Lm1 Fm1 Jm1 q3
    obtain ⟨⟨S4, Gm2, Lm2, Fm2, Jm2⟩, q4⟩ := moR_all (z := nj) (g0 := a2) nj 0 0 u.toNatClampNeg a2 (Fo.refl S3)
    obtain ⟨a3, ea3⟩ : ∃ q, q = moR nj nj 0 0 u.toNatClampNeg a2 := ⟨_, rfl⟩
    rw [← ea3] at m S4 Gm2 Lm2 Fm2 Jm2 q4
    obtain ⟨z, ez⟩ : ∃ zz : HF, zz = sI a3 132 44 (nI nj) := ⟨_, rfl⟩
    replace m := Mc_h ez m
    have Sz : Sh z := by rw [ez]; (repeat (first | exact S4 | apply Sh.si | apply Sh.sI | apply Sh.sJ | apply Sh.sl))
    have Gz : ∀ x, gi z x = gi a3 x := by
      intro x ; rw [ez]; (try simp (disch := first | assumption | omega) only [gi_si_ne, gi_sI, gi_sJ, gi_sl, gl_sl_ne, gl_si, gl_sI, gl_sJ, fI_si, fI_sl, fI_sJ, fI_sI_ne, fI_sI_k, fJ_si, fJ_sl, fJ_sI, fJ_sJ_ne])
    have Lz : ∀ x, gl z x = gl a3 x := by
      intro x ; rw [ez]; (try simp (disch := first | assumption | omega) only [gi_si_ne, gi_sI, gi_sJ, gi_sl, gl_sl_ne, gl_si, gl_sI, gl_sJ, fI_si, fI_sl, fI_sJ, fI_sI_ne, fI_sI_k, fJ_si, fJ_sl, fJ_sI, fJ_sJ_ne])
    have Fz : ∀ x kk, ¬ (x = 132 ∧ kk = 44) → fI z x kk = fI a3 x kk := by
      intro x kk q0; rw [ez]; first | rfl | (simp (disch := first | assumption | omega) only [fI_si, fI_sl, fI_sJ, fI_sI_o])
    have Jz : ∀ x kk, fJ z x kk = fJ a3 x kk := by
      intro x kk ; rw [ez]; first | rfl | (simp (disch := first | assumption | omega) only [fJ_si, fJ_sl, fJ_sI, fJ_sJ_o])
    have z44 : fI z 132 44 = nI nj := by rw [ez, fI_sI_eq S4 (by decide) (by decide) rfl]
    -- the rows of both
    have w : ∀ x, x ≠ 37 → gi s x = gi h x := fun x hx => by rw [Gs, Gc1 x hx]
    have w2 : ∀ x, 132 ≤ x → x ≠ 168 → gi a2 x = gi h x := fun x h1 hx => by rw [Gm1 x hx, GG x h1]
    have hc : ∀ D v, D < 2 ^ nj → v < 6 → gi s 37 (D * 6 + v) = bv (fun j => cwF s j D v (tsum (gi s 33) D nj)) D nj := by
      intro D v hD hv
      rw [e33, Gs, q1 D v hD hv]
      refine bv_congr (fun j _ _ => ?_)
      rw [cwF, cwF, Gs, Gs, Gs, Gs, Gs, show hN s j = hN a1 j by rw [hN, hN, Gs]]
    have hm : ∀ D l, D < 2 ^ nj → l < nj → D.testBit l = true → gi a2 168 (9 * D + l) = bv (fun j => thF a2 nj D (hM a2 l) j) D nj := by
      intro D l hD hl hb
      rw [q3 D l hD hl hb, show hM a2 l = hM h1 l by rw [hM, hM, Gm1 162 (by omega)]]
    have x32 : gi s 32 = gi a2 162 := by rw [w 32 (by omega), w2 162 (by omega) (by omega), r.j.hu]
    have x33 : gi s 33 = gi a2 163 := by rw [w 33 (by omega), w2 163 (by omega) (by omega), r.j.ti]
    have x34 : gi s 34 = gi a2 164 := by rw [w 34 (by omega), w2 164 (by omega) (by omega), r.j.du]
    have x35 : gi s 35 = gi a2 165 := by rw [w 35 (by omega), w2 165 (by omega) (by omega), r.j.pr]
    have x36 : gi s 36 = gi a2 166 := by rw [w 36 (by omega), w2 166 (by omega) (by omega), r.j.ch]
    have xtb : ∀ j, 0 ≤ (gi a2 163 j).toInt ∧ (gi a2 163 j).toInt ≤ 100 := by rw [w2 163 (by omega) (by omega)]; exact r.j.tb
    have xdb : ∀ j, 0 ≤ (gi a2 164 j).toInt ∧ (gi a2 164 j).toInt ≤ 1000 := by rw [w2 164 (by omega) (by omega)]; exact r.j.db
    have xh : ∀ j, j < nj → hN s j < 6 := fun j hj => by rw [hN, w 32 (by omega)]; exact (okH0 j hj).2
    have all := costs_eq r.j.le x32 x33 x34 x35 x36 xtb xdb xh hc hm
    have eh : hN s = hM a2 := by funext j; rw [hN, hM, x32]
    have p0 : 0 < 2 ^ nj := Nat.two_pow_pos nj
    have ev : gi h1 37 u.toNatClampNeg = mvV a2 nj 0 u.toNatClampNeg := by
      have y := hc 0 u.toNatClampNeg p0 hu6
      rw [Nat.zero_mul, Nat.zero_add] at y
      rw [Gc2 37 (by omega), y, mvV_bv]
      exact bv_congr (fun j hj hb => (all (2 ^ nj) 0 (by omega)).2 _ j hu6 hj hb p0)
    have eo : gi h1 38 = gi a3 167 := by
      rw [q2, q4, ← eh, w 38 (by omega), w2 167 (by omega) (by omega), r.j.od]
      refine oW_congr xh (fun D v j hD hv hj hb => ?_) _ _ _ _ _ p0 hu6
      exact (all (2 ^ nj - D) D (by omega)).2 v j hv hj hb hD
    have G38 : gi z 38 = gi h1 38 := by rw [Gz, Gm2 38 (by omega), Gm1 38 (by omega)]
    have F8 : fI z 31 8 = nI nj := by rw [Fz _ _ (by omega), Fm2, Fm1, Fc2]; exact s8
    exact JJ_upd c m ev (np := nj) (Rel.of (Sz)
    (Ra.of (by (try simp (disch := omega) only [Gz, Lz, Fz, Jz, Gm2, Lm2, Fm2, Jm2, Gm1, Lm1, Fm1, Jm1, Gc2, Lc2, Fc2, Jc2, Gs, Ls, Fs, Js, Gc1, Lc1, Fc1, Jc1]); exact r.a.c)
    (by (try simp (disch := omega) only [Gz, Lz, Fz, Jz, Gm2, Lm2, Fm2, Jm2, Gm1, Lm1, Fm1, Jm1, Gc2, Lc2, Fc2, Jc2, Gs, Ls, Fs, Js, Gc1, Lc1, Fc1, Jc1]); exact r.a.m)
    (by (try simp (disch := omega) only [Gz, Lz, Fz, Jz, Gm2, Lm2, Fm2, Jm2, Gm1, Lm1, Fm1, Jm1, Gc2, Lc2, Fc2, Jc2, Gs, Ls, Fs, Js, Gc1, Lc1, Fc1, Jc1]); exact r.a.le)
    (by (try simp (disch := omega) only [Gz, Lz, Fz, Jz, Gm2, Lm2, Fm2, Jm2, Gm1, Lm1, Fm1, Jm1, Gc2, Lc2, Fc2, Jc2, Gs, Ls, Fs, Js, Gc1, Lc1, Fc1, Jc1]); exact r.a.A)
    (by (try simp (disch := omega) only [Gz, Lz, Fz, Jz, Gm2, Lm2, Fm2, Jm2, Gm1, Lm1, Fm1, Jm1, Gc2, Lc2, Fc2, Jc2, Gs, Ls, Fs, Js, Gc1, Lc1, Fc1, Jc1]); exact r.a.P))
    (Rb.of (by (try simp (disch := omega) only [Gz, Lz, Fz, Jz, Gm2, Lm2, Fm2, Jm2, Gm1, Lm1, Fm1, Jm1, Gc2, Lc2, Fc2, Jc2, Gs, Ls, Fs, Js, Gc1, Lc1, Fc1, Jc1]); exact r.b.c)
    (by (try simp (disch := omega) only [Gz, Lz, Fz, Jz, Gm2, Lm2, Fm2, Jm2, Gm1, Lm1, Fm1, Jm1, Gc2, Lc2, Fc2, Jc2, Gs, Ls, Fs, Js, Gc1, Lc1, Fc1, Jc1]); exact r.b.m)
    (by (try simp (disch := omega) only [Gz, Lz, Fz, Jz, Gm2, Lm2, Fm2, Jm2, Gm1, Lm1, Fm1, Jm1, Gc2, Lc2, Fc2, Jc2, Gs, Ls, Fs, Js, Gc1, Lc1, Fc1, Jc1]); exact r.b.le)
    (by (try simp (disch := omega) only [Gz, Lz, Fz, Jz, Gm2, Lm2, Fm2, Jm2, Gm1, Lm1, Fm1, Jm1, Gc2, Lc2, Fc2, Jc2, Gs, Ls, Fs, Js, Gc1, Lc1, Fc1, Jc1]); exact r.b.day)
    (by (try simp (disch := omega) only [Gz, Lz, Fz, Jz, Gm2, Lm2, Fm2, Jm2, Gm1, Lm1, Fm1, Jm1, Gc2, Lc2, Fc2, Jc2, Gs, Ls, Fs, Js, Gc1, Lc1, Fc1, Jc1]); exact r.b.B)
    (by (try simp (disch := omega) only [Gz, Lz, Fz, Jz, Gm2, Lm2, Fm2, Jm2, Gm1, Lm1, Fm1, Jm1, Gc2, Lc2, Fc2, Jc2, Gs, Ls, Fs, Js, Gc1, Lc1, Fc1, Jc1]); exact r.b.S)
    (by (try simp (disch := omega) only [Gz, Lz, Fz, Jz, Gm2, Lm2, Fm2, Jm2, Gm1, Lm1, Fm1, Jm1, Gc2, Lc2, Fc2, Jc2, Gs, Ls, Fs, Js, Gc1, Lc1, Fc1, Jc1]); exact r.b.L)
    (by (try simp (disch := omega) only [Gz, Lz, Fz, Jz, Gm2, Lm2, Fm2, Jm2, Gm1, Lm1, Fm1, Jm1, Gc2, Lc2, Fc2, Jc2, Gs, Ls, Fs, Js, Gc1, Lc1, Fc1, Jc1]); exact r.b.P)
    (by (try simp (disch := omega) only [Gz, Lz, Fz, Jz, Gm2, Lm2, Fm2, Jm2, Gm1, Lm1, Fm1, Jm1, Gc2, Lc2, Fc2, Jc2, Gs, Ls, Fs, Js, Gc1, Lc1, Fc1, Jc1]); exact r.b.lb))
    (Rc.of (by (try simp (disch := omega) only [Gz, Lz, Fz, Jz, Gm2, Lm2, Fm2, Jm2, Gm1, Lm1, Fm1, Jm1, Gc2, Lc2, Fc2, Jc2, Gs, Ls, Fs, Js, Gc1, Lc1, Fc1, Jc1]); exact r.c.c)
    (by (try simp (disch := omega) only [Gz, Lz, Fz, Jz, Gm2, Lm2, Fm2, Jm2, Gm1, Lm1, Fm1, Jm1, Gc2, Lc2, Fc2, Jc2, Gs, Ls, Fs, Js, Gc1, Lc1, Fc1, Jc1]); exact r.c.m)
    (by (try simp (disch := omega) only [Gz, Lz, Fz, Jz, Gm2, Lm2, Fm2, Jm2, Gm1, Lm1, Fm1, Jm1, Gc2, Lc2, Fc2, Jc2, Gs, Ls, Fs, Js, Gc1, Lc1, Fc1, Jc1]); exact r.c.le)
    (by (try simp (disch := omega) only [Gz, Lz, Fz, Jz, Gm2, Lm2, Fm2, Jm2, Gm1, Lm1, Fm1, Jm1, Gc2, Lc2, Fc2, Jc2, Gs, Ls, Fs, Js, Gc1, Lc1, Fc1, Jc1]); exact r.c.E)
    (by (try simp (disch := omega) only [Gz, Lz, Fz, Jz, Gm2, Lm2, Fm2, Jm2, Gm1, Lm1, Fm1, Jm1, Gc2, Lc2, Fc2, Jc2, Gs, Ls, Fs, Js, Gc1, Lc1, Fc1, Jc1]); exact r.c.S)
    (by (try simp (disch := omega) only [Gz, Lz, Fz, Jz, Gm2, Lm2, Fm2, Jm2, Gm1, Lm1, Fm1, Jm1, Gc2, Lc2, Fc2, Jc2, Gs, Ls, Fs, Js, Gc1, Lc1, Fc1, Jc1]); exact r.c.T)
    (by (try simp (disch := omega) only [Gz, Lz, Fz, Jz, Gm2, Lm2, Fm2, Jm2, Gm1, Lm1, Fm1, Jm1, Gc2, Lc2, Fc2, Jc2, Gs, Ls, Fs, Js, Gc1, Lc1, Fc1, Jc1]); exact r.c.C)
    (by (try simp (disch := omega) only [Gz, Lz, Fz, Jz, Gm2, Lm2, Fm2, Jm2, Gm1, Lm1, Fm1, Jm1, Gc2, Lc2, Fc2, Jc2, Gs, Ls, Fs, Js, Gc1, Lc1, Fc1, Jc1]); exact r.c.N)
    (by (try simp (disch := omega) only [Gz, Lz, Fz, Jz, Gm2, Lm2, Fm2, Jm2, Gm1, Lm1, Fm1, Jm1, Gc2, Lc2, Fc2, Jc2, Gs, Ls, Fs, Js, Gc1, Lc1, Fc1, Jc1]); exact r.c.ok)
    (by (try simp (disch := omega) only [Gz, Lz, Fz, Jz, Gm2, Lm2, Fm2, Jm2, Gm1, Lm1, Fm1, Jm1, Gc2, Lc2, Fc2, Jc2, Gs, Ls, Fs, Js, Gc1, Lc1, Fc1, Jc1]); exact r.c.tm)
    (by (try simp (disch := omega) only [Gz, Lz, Fz, Jz, Gm2, Lm2, Fm2, Jm2, Gm1, Lm1, Fm1, Jm1, Gc2, Lc2, Fc2, Jc2, Gs, Ls, Fs, Js, Gc1, Lc1, Fc1, Jc1]); exact r.c.tz)
    (by (try simp (disch := omega) only [Gz, Lz, Fz, Jz, Gm2, Lm2, Fm2, Jm2, Gm1, Lm1, Fm1, Jm1, Gc2, Lc2, Fc2, Jc2, Gs, Ls, Fs, Js, Gc1, Lc1, Fc1, Jc1]); exact r.c.cz)
    (by (try simp (disch := omega) only [Gz, Lz, Fz, Jz, Gm2, Lm2, Fm2, Jm2, Gm1, Lm1, Fm1, Jm1, Gc2, Lc2, Fc2, Jc2, Gs, Ls, Fs, Js, Gc1, Lc1, Fc1, Jc1]); exact r.c.nn))
    (Rd.of (by (try simp (disch := omega) only [Gz, Lz, Fz, Jz, Gm2, Lm2, Fm2, Jm2, Gm1, Lm1, Fm1, Jm1, Gc2, Lc2, Fc2, Jc2, Gs, Ls, Fs, Js, Gc1, Lc1, Fc1, Jc1]); exact r.d.c)
    (by (try simp (disch := omega) only [Gz, Lz, Fz, Jz, Gm2, Lm2, Fm2, Jm2, Gm1, Lm1, Fm1, Jm1, Gc2, Lc2, Fc2, Jc2, Gs, Ls, Fs, Js, Gc1, Lc1, Fc1, Jc1]); exact r.d.m)
    (by (try simp (disch := omega) only [Gz, Lz, Fz, Jz, Gm2, Lm2, Fm2, Jm2, Gm1, Lm1, Fm1, Jm1, Gc2, Lc2, Fc2, Jc2, Gs, Ls, Fs, Js, Gc1, Lc1, Fc1, Jc1]); exact r.d.le)
    (fun k hk => RdK.of (by (try simp (disch := omega) only [Gz, Lz, Fz, Jz, Gm2, Lm2, Fm2, Jm2, Gm1, Lm1, Fm1, Jm1, Gc2, Lc2, Fc2, Jc2, Gs, Ls, Fs, Js, Gc1, Lc1, Fc1, Jc1]); exact (r.d.K k hk).am)
      (by (try simp (disch := omega) only [Gz, Lz, Fz, Jz, Gm2, Lm2, Fm2, Jm2, Gm1, Lm1, Fm1, Jm1, Gc2, Lc2, Fc2, Jc2, Gs, Ls, Fs, Js, Gc1, Lc1, Fc1, Jc1]); exact (r.d.K k hk).bd)
      (by (try simp (disch := omega) only [Gz, Lz, Fz, Jz, Gm2, Lm2, Fm2, Jm2, Gm1, Lm1, Fm1, Jm1, Gc2, Lc2, Fc2, Jc2, Gs, Ls, Fs, Js, Gc1, Lc1, Fc1, Jc1]); exact (r.d.K k hk).zr)
      (by (try simp (disch := omega) only [Gz, Lz, Fz, Jz, Gm2, Lm2, Fm2, Jm2, Gm1, Lm1, Fm1, Jm1, Gc2, Lc2, Fc2, Jc2, Gs, Ls, Fs, Js, Gc1, Lc1, Fc1, Jc1]); exact (r.d.K k hk).un)
      (by (try simp (disch := omega) only [Gz, Lz, Fz, Jz, Gm2, Lm2, Fm2, Jm2, Gm1, Lm1, Fm1, Jm1, Gc2, Lc2, Fc2, Jc2, Gs, Ls, Fs, Js, Gc1, Lc1, Fc1, Jc1]); exact (r.d.K k hk).ul)
      (by (try simp (disch := omega) only [Gz, Lz, Fz, Jz, Gm2, Lm2, Fm2, Jm2, Gm1, Lm1, Fm1, Jm1, Gc2, Lc2, Fc2, Jc2, Gs, Ls, Fs, Js, Gc1, Lc1, Fc1, Jc1]); exact (r.d.K k hk).lo)
      (by (try simp (disch := omega) only [Gz, Lz, Fz, Jz, Gm2, Lm2, Fm2, Jm2, Gm1, Lm1, Fm1, Jm1, Gc2, Lc2, Fc2, Jc2, Gs, Ls, Fs, Js, Gc1, Lc1, Fc1, Jc1]); exact (r.d.K k hk).lb)
      (by (try simp (disch := omega) only [Gz, Lz, Fz, Jz, Gm2, Lm2, Fm2, Jm2, Gm1, Lm1, Fm1, Jm1, Gc2, Lc2, Fc2, Jc2, Gs, Ls, Fs, Js, Gc1, Lc1, Fc1, Jc1]); exact (r.d.K k hk).po)))
    (Re.of (by (try simp (disch := omega) only [Gz, Lz, Fz, Jz, Gm2, Lm2, Fm2, Jm2, Gm1, Lm1, Fm1, Jm1, Gc2, Lc2, Fc2, Jc2, Gs, Ls, Fs, Js, Gc1, Lc1, Fc1, Jc1]); exact r.e.fd)
    (by (try simp (disch := omega) only [Gz, Lz, Fz, Jz, Gm2, Lm2, Fm2, Jm2, Gm1, Lm1, Fm1, Jm1, Gc2, Lc2, Fc2, Jc2, Gs, Ls, Fs, Js, Gc1, Lc1, Fc1, Jc1]); exact r.e.be)
    (by (try simp (disch := omega) only [Gz, Lz, Fz, Jz, Gm2, Lm2, Fm2, Jm2, Gm1, Lm1, Fm1, Jm1, Gc2, Lc2, Fc2, Jc2, Gs, Ls, Fs, Js, Gc1, Lc1, Fc1, Jc1]); exact r.e.bb)
    (by (try simp (disch := omega) only [Gz, Lz, Fz, Jz, Gm2, Lm2, Fm2, Jm2, Gm1, Lm1, Fm1, Jm1, Gc2, Lc2, Fc2, Jc2, Gs, Ls, Fs, Js, Gc1, Lc1, Fc1, Jc1]); exact r.e.z))
    (Rf.of (by (try simp (disch := omega) only [Gz, Lz, Fz, Jz, Gm2, Lm2, Fm2, Jm2, Gm1, Lm1, Fm1, Jm1, Gc2, Lc2, Fc2, Jc2, Gs, Ls, Fs, Js, Gc1, Lc1, Fc1, Jc1]); exact r.f.lim)
    (by (try simp (disch := omega) only [Gz, Lz, Fz, Jz, Gm2, Lm2, Fm2, Jm2, Gm1, Lm1, Fm1, Jm1, Gc2, Lc2, Fc2, Jc2, Gs, Ls, Fs, Js, Gc1, Lc1, Fc1, Jc1]); exact r.f.l0)
    (by (try simp (disch := omega) only [Gz, Lz, Fz, Jz, Gm2, Lm2, Fm2, Jm2, Gm1, Lm1, Fm1, Jm1, Gc2, Lc2, Fc2, Jc2, Gs, Ls, Fs, Js, Gc1, Lc1, Fc1, Jc1]); exact r.f.cl)
    (by (try simp (disch := omega) only [Gz, Lz, Fz, Jz, Gm2, Lm2, Fm2, Jm2, Gm1, Lm1, Fm1, Jm1, Gc2, Lc2, Fc2, Jc2, Gs, Ls, Fs, Js, Gc1, Lc1, Fc1, Jc1]); exact r.f.no)
    (fun t ht => RfK.of (by (try simp (disch := omega) only [Gz, Lz, Fz, Jz, Gm2, Lm2, Fm2, Jm2, Gm1, Lm1, Fm1, Jm1, Gc2, Lc2, Fc2, Jc2, Gs, Ls, Fs, Js, Gc1, Lc1, Fc1, Jc1]); exact (r.f.K t ht).ins)
      (by (try simp (disch := omega) only [Gz, Lz, Fz, Jz, Gm2, Lm2, Fm2, Jm2, Gm1, Lm1, Fm1, Jm1, Gc2, Lc2, Fc2, Jc2, Gs, Ls, Fs, Js, Gc1, Lc1, Fc1, Jc1]); exact (r.f.K t ht).siz)
      (by (try simp (disch := omega) only [Gz, Lz, Fz, Jz, Gm2, Lm2, Fm2, Jm2, Gm1, Lm1, Fm1, Jm1, Gc2, Lc2, Fc2, Jc2, Gs, Ls, Fs, Js, Gc1, Lc1, Fc1, Jc1]); exact (r.f.K t ht).bat)
      (by (try simp (disch := omega) only [Gz, Lz, Fz, Jz, Gm2, Lm2, Fm2, Jm2, Gm1, Lm1, Fm1, Jm1, Gc2, Lc2, Fc2, Jc2, Gs, Ls, Fs, Js, Gc1, Lc1, Fc1, Jc1]); exact (r.f.K t ht).tap)
      (by (try simp (disch := omega) only [Gz, Lz, Fz, Jz, Gm2, Lm2, Fm2, Jm2, Gm1, Lm1, Fm1, Jm1, Gc2, Lc2, Fc2, Jc2, Gs, Ls, Fs, Js, Gc1, Lc1, Fc1, Jc1]); exact (r.f.K t ht).stn)
      (by (try simp (disch := omega) only [Gz, Lz, Fz, Jz, Gm2, Lm2, Fm2, Jm2, Gm1, Lm1, Fm1, Jm1, Gc2, Lc2, Fc2, Jc2, Gs, Ls, Fs, Js, Gc1, Lc1, Fc1, Jc1]); exact (r.f.K t ht).sta)
      (by (try simp (disch := omega) only [Gz, Lz, Fz, Jz, Gm2, Lm2, Fm2, Jm2, Gm1, Lm1, Fm1, Jm1, Gc2, Lc2, Fc2, Jc2, Gs, Ls, Fs, Js, Gc1, Lc1, Fc1, Jc1]); exact (r.f.K t ht).am)
      (by (try simp (disch := omega) only [Gz, Lz, Fz, Jz, Gm2, Lm2, Fm2, Jm2, Gm1, Lm1, Fm1, Jm1, Gc2, Lc2, Fc2, Jc2, Gs, Ls, Fs, Js, Gc1, Lc1, Fc1, Jc1]); exact (r.f.K t ht).zr)
      (by (try simp (disch := omega) only [Gz, Lz, Fz, Jz, Gm2, Lm2, Fm2, Jm2, Gm1, Lm1, Fm1, Jm1, Gc2, Lc2, Fc2, Jc2, Gs, Ls, Fs, Js, Gc1, Lc1, Fc1, Jc1]); exact (r.f.K t ht).lo)
      (by (try simp (disch := omega) only [Gz, Lz, Fz, Jz, Gm2, Lm2, Fm2, Jm2, Gm1, Lm1, Fm1, Jm1, Gc2, Lc2, Fc2, Jc2, Gs, Ls, Fs, Js, Gc1, Lc1, Fc1, Jc1]); exact (r.f.K t ht).h0)
      (by (try simp (disch := omega) only [Gz, Lz, Fz, Jz, Gm2, Lm2, Fm2, Jm2, Gm1, Lm1, Fm1, Jm1, Gc2, Lc2, Fc2, Jc2, Gs, Ls, Fs, Js, Gc1, Lc1, Fc1, Jc1]); exact (r.f.K t ht).hr)
      (by (try simp (disch := omega) only [Gz, Lz, Fz, Jz, Gm2, Lm2, Fm2, Jm2, Gm1, Lm1, Fm1, Jm1, Gc2, Lc2, Fc2, Jc2, Gs, Ls, Fs, Js, Gc1, Lc1, Fc1, Jc1]); exact (r.f.K t ht).r6)
      (by (try simp (disch := omega) only [Gz, Lz, Fz, Jz, Gm2, Lm2, Fm2, Jm2, Gm1, Lm1, Fm1, Jm1, Gc2, Lc2, Fc2, Jc2, Gs, Ls, Fs, Js, Gc1, Lc1, Fc1, Jc1]); exact (r.f.K t ht).hs)
      (by (try simp (disch := omega) only [Gz, Lz, Fz, Jz, Gm2, Lm2, Fm2, Jm2, Gm1, Lm1, Fm1, Jm1, Gc2, Lc2, Fc2, Jc2, Gs, Ls, Fs, Js, Gc1, Lc1, Fc1, Jc1]); exact (r.f.K t ht).lb)
      (by (try simp (disch := omega) only [Gz, Lz, Fz, Jz, Gm2, Lm2, Fm2, Jm2, Gm1, Lm1, Fm1, Jm1, Gc2, Lc2, Fc2, Jc2, Gs, Ls, Fs, Js, Gc1, Lc1, Fc1, Jc1]); exact (r.f.K t ht).bb)))
    (Rg.of (by (try simp (disch := omega) only [Gz, Lz, Fz, Jz, Gm2, Lm2, Fm2, Jm2, Gm1, Lm1, Fm1, Jm1, Gc2, Lc2, Fc2, Jc2, Gs, Ls, Fs, Js, Gc1, Lc1, Fc1, Jc1]); exact r.g.c)
    (by (try simp (disch := omega) only [Gz, Lz, Fz, Jz, Gm2, Lm2, Fm2, Jm2, Gm1, Lm1, Fm1, Jm1, Gc2, Lc2, Fc2, Jc2, Gs, Ls, Fs, Js, Gc1, Lc1, Fc1, Jc1]); exact r.g.m)
    (by (try simp (disch := omega) only [Gz, Lz, Fz, Jz, Gm2, Lm2, Fm2, Jm2, Gm1, Lm1, Fm1, Jm1, Gc2, Lc2, Fc2, Jc2, Gs, Ls, Fs, Js, Gc1, Lc1, Fc1, Jc1]); exact r.g.le)
    (by (try simp (disch := omega) only [Gz, Lz, Fz, Jz, Gm2, Lm2, Fm2, Jm2, Gm1, Lm1, Fm1, Jm1, Gc2, Lc2, Fc2, Jc2, Gs, Ls, Fs, Js, Gc1, Lc1, Fc1, Jc1]); exact r.g.u)
    (by (try simp (disch := omega) only [Gz, Lz, Fz, Jz, Gm2, Lm2, Fm2, Jm2, Gm1, Lm1, Fm1, Jm1, Gc2, Lc2, Fc2, Jc2, Gs, Ls, Fs, Js, Gc1, Lc1, Fc1, Jc1]); exact r.g.t)
    (by (try simp (disch := omega) only [Gz, Lz, Fz, Jz, Gm2, Lm2, Fm2, Jm2, Gm1, Lm1, Fm1, Jm1, Gc2, Lc2, Fc2, Jc2, Gs, Ls, Fs, Js, Gc1, Lc1, Fc1, Jc1]); exact r.g.d)
    (by (try simp (disch := omega) only [Gz, Lz, Fz, Jz, Gm2, Lm2, Fm2, Jm2, Gm1, Lm1, Fm1, Jm1, Gc2, Lc2, Fc2, Jc2, Gs, Ls, Fs, Js, Gc1, Lc1, Fc1, Jc1]); exact r.g.b)
    (by (try simp (disch := omega) only [Gz, Lz, Fz, Jz, Gm2, Lm2, Fm2, Jm2, Gm1, Lm1, Fm1, Jm1, Gc2, Lc2, Fc2, Jc2, Gs, Ls, Fs, Js, Gc1, Lc1, Fc1, Jc1]); exact r.g.l)
    (by (try simp (disch := omega) only [Gz, Lz, Fz, Jz, Gm2, Lm2, Fm2, Jm2, Gm1, Lm1, Fm1, Jm1, Gc2, Lc2, Fc2, Jc2, Gs, Ls, Fs, Js, Gc1, Lc1, Fc1, Jc1]); exact r.g.bb)
    (by (try simp (disch := omega) only [Gz, Lz, Fz, Jz, Gm2, Lm2, Fm2, Jm2, Gm1, Lm1, Fm1, Jm1, Gc2, Lc2, Fc2, Jc2, Gs, Ls, Fs, Js, Gc1, Lc1, Fc1, Jc1]); exact r.g.lb))
    (Rh.of (by (try simp (disch := omega) only [Gz, Lz, Fz, Jz, Gm2, Lm2, Fm2, Jm2, Gm1, Lm1, Fm1, Jm1, Gc2, Lc2, Fc2, Jc2, Gs, Ls, Fs, Js, Gc1, Lc1, Fc1, Jc1]); exact r.j.c)
    (by (try simp (disch := omega) only [Gz, Lz, Fz, Jz, Gm2, Lm2, Fm2, Jm2, Gm1, Lm1, Fm1, Jm1, Gc2, Lc2, Fc2, Jc2, Gs, Ls, Fs, Js, Gc1, Lc1, Fc1, Jc1]); exact r.j.m)
    (by (try simp (disch := omega) only [Gz, Lz, Fz, Jz, Gm2, Lm2, Fm2, Jm2, Gm1, Lm1, Fm1, Jm1, Gc2, Lc2, Fc2, Jc2, Gs, Ls, Fs, Js, Gc1, Lc1, Fc1, Jc1]); exact r.j.le)
    (F8)
    (z44)
    (r.j.le)
    (by (try simp (disch := omega) only [Gz, Lz, Fz, Jz, Gm2, Lm2, Fm2, Jm2, Gm1, Lm1, Fm1, Jm1, Gc2, Lc2, Fc2, Jc2, Gs, Ls, Fs, Js, Gc1, Lc1, Fc1, Jc1]); exact r.j.hu)
    (by (try simp (disch := omega) only [Gz, Lz, Fz, Jz, Gm2, Lm2, Fm2, Jm2, Gm1, Lm1, Fm1, Jm1, Gc2, Lc2, Fc2, Jc2, Gs, Ls, Fs, Js, Gc1, Lc1, Fc1, Jc1]); exact r.j.ti)
    (by (try simp (disch := omega) only [Gz, Lz, Fz, Jz, Gm2, Lm2, Fm2, Jm2, Gm1, Lm1, Fm1, Jm1, Gc2, Lc2, Fc2, Jc2, Gs, Ls, Fs, Js, Gc1, Lc1, Fc1, Jc1]); exact r.j.du)
    (by (try simp (disch := omega) only [Gz, Lz, Fz, Jz, Gm2, Lm2, Fm2, Jm2, Gm1, Lm1, Fm1, Jm1, Gc2, Lc2, Fc2, Jc2, Gs, Ls, Fs, Js, Gc1, Lc1, Fc1, Jc1]); exact r.j.pr)
    (by (try simp (disch := omega) only [Gz, Lz, Fz, Jz, Gm2, Lm2, Fm2, Jm2, Gm1, Lm1, Fm1, Jm1, Gc2, Lc2, Fc2, Jc2, Gs, Ls, Fs, Js, Gc1, Lc1, Fc1, Jc1]); exact r.j.ch)
    (by rw [G38, eo, Gz])
    (by (try simp (disch := omega) only [Gz, Lz, Fz, Jz, Gm2, Lm2, Fm2, Jm2, Gm1, Lm1, Fm1, Jm1, Gc2, Lc2, Fc2, Jc2, Gs, Ls, Fs, Js, Gc1, Lc1, Fc1, Jc1]); exact r.j.ok)
    (by (try simp (disch := omega) only [Gz, Lz, Fz, Jz, Gm2, Lm2, Fm2, Jm2, Gm1, Lm1, Fm1, Jm1, Gc2, Lc2, Fc2, Jc2, Gs, Ls, Fs, Js, Gc1, Lc1, Fc1, Jc1]); exact r.j.tb)
    (by (try simp (disch := omega) only [Gz, Lz, Fz, Jz, Gm2, Lm2, Fm2, Jm2, Gm1, Lm1, Fm1, Jm1, Gc2, Lc2, Fc2, Jc2, Gs, Ls, Fs, Js, Gc1, Lc1, Fc1, Jc1]); exact r.j.db)))
  · have m := c_X10_plan r.S u nj r.j.m r.j.le okM0
    simp only [uPlan, vPlan, if_neg g0] at c
    simp only [umPl, vmPl, if_neg g0] at m
    exact JJ_upd c m rfl r
