/-- how many rows of n numbers have a sum of s at most -/
def Rs (f : Nat → Nat) (s : Nat) : Nat → Nat
  | 0 => 0
  | u + 1 => Rs f s u + f (s - u)
def Rk : Nat → Nat → Nat
  | 0, _ => 1
  | n + 1, s => Rs (Rk n) s (s + 1)
def rk (f : Nat → Nat) : Nat → Nat → Nat → Nat
  | 0, _, _ => 0
  | n + 1, i, s => Rs (Rk n) s (f i) + rk f n (i + 1) (s - f i)
def sm (f : Nat → Nat) : Nat → Nat → Nat
  | 0, _ => 0
  | n + 1, i => f i + sm f n (i + 1)
theorem Rs_mono (f : Nat → Nat) (s u : Nat) : ∀ d, Rs f s u ≤ Rs f s (u + d)
  | 0 => Nat.le_refl _
  | d + 1 => Nat.le_trans (Rs_mono f s u d) (by rw [← Nat.add_assoc, Rs]; omega)
theorem rk_lt (f : Nat → Nat) : ∀ (n i s : Nat), sm f n i ≤ s → rk f n i s < Rk n s
  | 0, _, _, _ => by rw [rk, Rk]; omega
  | n + 1, i, s, h => by
    rw [sm] at h
    have ih := rk_lt f n (i + 1) (s - f i) (by omega)
    have m := Rs_mono (Rk n) s (f i + 1) (s - f i)
    rw [show f i + 1 + (s - f i) = s + 1 by omega, Rs] at m
    rw [rk, Rk]; omega
theorem rk_step {f g : Nat → Nat} {p : Nat} (hp : g p = f p + 1) : ∀ (n i s : Nat), i ≤ p → p < i + n → (∀ j, i ≤ j → j < p → g j = f j) → sm f n i ≤ s → rk f n i s < rk g n i s
  | 0, _, _, h1, h2, _, _ => by omega
  | n + 1, i, s, h1, h2, he, hs => by
    rw [sm] at hs
    rw [rk, rk]
    by_cases e : i = p
    · subst e
      have q := rk_lt f n (i + 1) (s - f i) (by omega)
      rw [hp, Rs]; omega
    · have q := rk_step hp n (i + 1) (s - f i) (by omega) (by omega) (fun j a b => he j (by omega) b) (by omega)
      rw [he i (by omega) (by omega)]; omega
def nsum (f : Nat → Nat) : Nat → Nat
  | 0 => 0
  | n + 1 => nsum f n + f n
theorem sm_snoc (f : Nat → Nat) : ∀ n i, sm f (n + 1) i = sm f n i + f (i + n)
  | 0, i => by simp [sm]
  | n + 1, i => by rw [sm, sm_snoc f n (i + 1), sm]; rw [show i + 1 + n = i + (n + 1) by omega]; omega
theorem sm_ns (f : Nat → Nat) : ∀ n, sm f n 0 = nsum f n
  | 0 => rfl
  | n + 1 => by rw [sm_snoc, sm_ns f n, nsum, Nat.zero_add]
theorem nsum_congr {f g : Nat → Nat} : ∀ {n : Nat}, (∀ j, j < n → f j = g j) → nsum f n = nsum g n
  | 0, _ => rfl
  | n + 1, h => by rw [nsum, nsum, nsum_congr (n := n) (fun j hj => h j (by omega)), h n (by omega)]
theorem nsum_tail {f : Nat → Nat} {p : Nat} : ∀ {n : Nat}, p ≤ n → (∀ j, p ≤ j → j < n → f j = 0) → nsum f n = nsum f p
  | 0, h, _ => by obtain rfl : p = 0 := by omega
                  rfl
  | n + 1, h, hz => by
    by_cases e : p = n + 1
    · rw [e]
    · rw [nsum, nsum_tail (n := n) (by omega) (fun j a b => hz j a (by omega)), hz n (by omega) (by omega), Nat.add_zero]
theorem nsum_le {f : Nat → Nat} {j : Nat} : ∀ {n : Nat}, j < n → f j ≤ nsum f n
  | 0, h => by omega
  | n + 1, h => by
    rw [nsum]
    by_cases e : j = n
    · subst e; omega
    · have := nsum_le (f := f) (n := n) (j := j) (by omega); omega
theorem Rk_8 : ∀ n : Fin 9, Rk n.val 8 ≤ 12870 := by decide +kernel
/-- a trial: nothing less than none, the sum no more than eight -/
def tr (f : Nat → Int32) : Nat → Nat := fun j => (f j).toInt.toNat
def V8 (nb : Nat) (f : Nat → Int32) : Prop := (∀ j, j < nb → 0 ≤ (f j).toInt) ∧ nsum (tr f) nb ≤ 8
theorem V8_le {nb : Nat} {f : Nat → Int32} (h : V8 nb f) {j : Nat} (hj : j < nb) : 0 ≤ (f j).toInt ∧ (f j).toInt ≤ 8 := by
  have q := nsum_le (f := tr f) hj
  have q2 := h.1 j hj
  have q3 := h.2
  simp only [tr] at q q3
  omega
theorem V8_fs {nb : Nat} {f : Nat → Int32} (h : V8 nb f) (hnb : nb ≤ 8) : ∀ {n : Nat}, n ≤ nb → (fsum f n).toInt = (nsum (tr f) n : Int) ∧ nsum (tr f) n ≤ 64
  | 0, _ => ⟨by rw [fsum, nsum]; rfl, by rw [nsum]; omega⟩
  | n + 1, hn => by
    obtain ⟨i1, i2⟩ := V8_fs h hnb (n := n) (by omega)
    have q := V8_le h (j := n) (by omega)
    have e : nsum (tr f) (n + 1) = nsum (tr f) n + (f n).toInt.toNat := rfl
    rw [fsum, tI_add (by omega) (by omega) (by omega) (by omega), i1, e]
    have t2 : ∀ m : Nat, n + 1 + m = nb → nsum (tr f) (n + 1) ≤ nsum (tr f) nb := by
      intro m hm
      subst hm
      clear i1 i2 q e hn hnb h
      induction m with
      | zero => exact Nat.le_refl _
      | succ m ih => exact Nat.le_trans ih (by rw [← Nat.add_assoc, nsum]; omega)
    have t3 := t2 (nb - (n + 1)) (by omega)
    have t4 := h.2
    rw [e] at t3
    omega
theorem fsum_upd {f : Nat → Int32} {b : Nat} {v : Int32} : ∀ {n : Nat}, fsum (upd f b v) n = if b < n then fsum f n + (v - f b) else fsum f n
  | 0 => by rw [fsum, if_neg (by omega), fsum]
  | n + 1 => by
    rw [fsum, fsum_upd (n := n), fsum]
    by_cases e : n = b
    · subst e
      rw [if_neg (by omega), if_pos (by omega)]
      simp only [upd, if_true]
      rw [Int32.add_assoc, Int32.add_comm (f n), Int32.sub_add_cancel]
    · simp only [upd, if_neg e]
      by_cases q : b < n
      · rw [if_pos q, if_pos (by omega)]; ac_rfl
      · rw [if_neg q, if_neg (by omega)]
theorem hnR_sp {cap : Nat → Int32} {most : Int32} : ∀ (b : Nat) (f : Nat → Int32), (hnR cap most b (fsum f b) f).1 = true → ∃ p, p < b ∧ (∀ j, j < p → (hnR cap most b (fsum f b) f).2 j = f j) ∧ (hnR cap most b (fsum f b) f).2 p = f p + 1 ∧ (∀ j, p < j → j < b → (hnR cap most b (fsum f b) f).2 j = 0) ∧ (∀ j, b ≤ j → (hnR cap most b (fsum f b) f).2 j = f j) ∧ fsum f p + f p < most
  | 0, f, h => absurd h (by simp [hnR])
  | b + 1, f, h => by
    by_cases c : fsum f (b + 1) < most ∧ f b < cap b
    · rw [hnR_t c]
      refine ⟨b, by omega, fun j hj => ?_, ?_, fun j h1 h2 => by omega, fun j hj => ?_, c.1⟩
      · simp only [upd]; rw [if_neg (by omega)]
      · simp only [upd, if_true]
      · simp only [upd]; rw [if_neg (by omega)]
    · rw [hnR_f c] at h ⊢
      have e : fsum f (b + 1) - f b = fsum (upd f b 0) b := by
        rw [fsum_upd, if_neg (by omega), fsum, Int32.add_sub_cancel]
      rw [e] at h ⊢
      obtain ⟨p, q1, q2, q3, q4, q5, q6⟩ := hnR_sp b (upd f b 0) h
      refine ⟨p, by omega, fun j hj => ?_, ?_, fun j h1 h2 => ?_, fun j hj => ?_, ?_⟩
      · rw [q2 j hj]; simp only [upd]; rw [if_neg (by omega)]
      · rw [q3]; simp only [upd]; rw [if_neg (by omega)]
      · by_cases e2 : j = b
        · rw [e2, q5 b (by omega)]; simp only [upd, if_true]
        · exact q4 j h1 (by omega)
      · rw [q5 j (by omega)]; simp only [upd]; rw [if_neg (by omega)]
      · rw [fsum_upd, if_neg (by omega)] at q6
        simp only [upd] at q6; rw [if_neg (by omega)] at q6; exact q6
theorem hnx_rk {cap : Nat → Int32} {most : Int32} {nb : Nat} (hm : most ≤ 8) (hnb : nb ≤ 8) {f : Nat → Int32} (hV : V8 nb f) (h : (hnx cap most nb f).1 = true) : V8 nb (hnx cap most nb f).2 ∧ rk (tr f) nb 0 8 < rk (tr (hnx cap most nb f).2) nb 0 8 := by
  obtain ⟨p, q1, q2, q3, q4, q5, q6⟩ := hnR_sp nb f h
  have hm := Int32.le_iff_toInt_le.mp hm
  rw [show (8 : Int32).toInt = 8 from rfl] at hm
  have hp := V8_le hV q1
  obtain ⟨s1, s2⟩ := V8_fs hV hnb (n := p) (by omega)
  have q6 := Int32.lt_iff_toInt_lt.mp q6
  rw [tI_add (by omega) (by omega) (by omega) (by omega), s1] at q6
  have hp1 : (f p + 1).toInt = (f p).toInt + 1 := by
    rw [tI_add (by omega) (by omega) (by decide) (by decide)]; rfl
  change (∀ j, j < p → (hnx cap most nb f).2 j = f j) at q2
  change (hnx cap most nb f).2 p = f p + 1 at q3
  change ∀ j, p < j → j < nb → (hnx cap most nb f).2 j = 0 at q4
  generalize (hnx cap most nb f).2 = g at *
  have e1 : ∀ j, j < p → tr g j = tr f j := fun j hj => by simp only [tr, q2 j hj]
  have e2 : tr g p = tr f p + 1 := by simp only [tr, q3, hp1]; omega
  refine ⟨⟨fun j hj => ?_, ?_⟩, rk_step e2 nb 0 8 (by omega) (by omega) (fun j _ hj => e1 j hj) (by rw [sm_ns]; exact hV.2)⟩
  · by_cases a : j < p
    · rw [q2 j a]; exact hV.1 j hj
    · by_cases b : j = p
      · rw [b, q3, hp1]; omega
      · rw [q4 j (by omega) hj]; decide
  · rw [nsum_tail (p := p + 1) (by omega) (fun j a b => by simp only [tr, q4 j (by omega) b]; rfl), nsum, nsum_congr e1, e2]
    have : tr f p = (f p).toInt.toNat := rfl
    omega
theorem hnok_of {cap : Nat → Int32} {most : Int32} {nb : Nat} (hm : most ≤ 8) (hnb : nb ≤ 8) : ∀ (K : Nat) (f : Nat → Int32), V8 nb f → Rk nb 8 ≤ rk (tr f) nb 0 8 + 1 + K → hnok cap most nb K f
  | 0, f, hV, hk => by
    rw [hnok]
    refine Bool.eq_false_iff.mpr (fun h => ?_)
    obtain ⟨v, l⟩ := hnx_rk hm hnb hV h
    have := rk_lt (tr (hnx cap most nb f).2) nb 0 8 (by rw [sm_ns]; exact v.2)
    omega
  | K + 1, f, hV, hk => by
    rw [hnok]
    by_cases h : (hnx cap most nb f).1 = true
    · obtain ⟨v, l⟩ := hnx_rk hm hnb hV h
      exact Or.inr (hnok_of hm hnb K _ v (by omega))
    · exact Or.inl (Bool.eq_false_iff.mpr h)
theorem hnok_0 {cap : Nat → Int32} {most : Int32} {nb : Nat} (hm : most ≤ 8) (hnb : nb ≤ 8) {f : Nat → Int32} (hf : ∀ j, j < 8 → f j = 0) : hnok cap most nb 12869 f := by
  have hz : ∀ n, n ≤ nb → nsum (tr f) n = 0 := by
    intro n
    induction n with
    | zero => intro _; rfl
    | succ n ih => intro hn; rw [nsum, ih (by omega), tr, hf n (by omega)]; rfl
  refine hnok_of hm hnb _ f ⟨fun j hj => by rw [hf j (by omega)]; decide, by rw [hz nb (by omega)]; omega⟩ ?_
  have := Rk_8 ⟨nb, by omega⟩
  simp only at this
  omega
