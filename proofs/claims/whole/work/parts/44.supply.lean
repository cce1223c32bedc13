/-! supply: what may be taken suffices -/
def PS (S : Nat → Int32) (z : Nat) : Prop := ∀ l, l < z → 0 ≤ (S l).toInt ∧ (S l).toInt ≤ 20000
def sUz (B L S : Nat → Int32) (day b : Int32) : Nat → Int
  | 0 => 0
  | n + 1 => if us B L S day b n then sUz B L S day b n + (S n).toInt else sUz B L S day b n
def cU (B L S : Nat → Int32) (day b : Int32) : Nat → Nat
  | 0 => 0
  | n + 1 => if us B L S day b n then cU B L S day b n + 1 else cU B L S day b n
theorem cU_le (B L S : Nat → Int32) (day b : Int32) : ∀ n, cU B L S day b n ≤ n
  | 0 => Nat.le_refl _
  | n + 1 => by
    have := cU_le B L S day b n
    simp only [cU]; split <;> omega
theorem tI_add {x y : Int32} (h1 : -1000000000 ≤ x.toInt) (h2 : x.toInt ≤ 1000000000) (h3 : -1000000000 ≤ y.toInt) (h4 : y.toInt ≤ 1000000000) : (x + y).toInt = x.toInt + y.toInt := by
  rw [Int32.toInt_add]
  exact Int.bmod_eq_of_le (by omega) (by omega)
theorem tI_sub {x y : Int32} (h1 : -1000000000 ≤ x.toInt) (h2 : x.toInt ≤ 1000000000) (h3 : -1000000000 ≤ y.toInt) (h4 : y.toInt ≤ 1000000000) : (x - y).toInt = x.toInt - y.toInt := by
  rw [Int32.toInt_sub]
  exact Int.bmod_eq_of_le (by omega) (by omega)
theorem sUz_b {B L S : Nat → Int32} {day b : Int32} : ∀ {n : Nat}, PS S n → 0 ≤ sUz B L S day b n ∧ sUz B L S day b n ≤ 20000 * n
  | 0, _ => by simp [sUz]
  | n + 1, h => by
    have ih := sUz_b (B := B) (L := L) (day := day) (b := b) (n := n) (fun l hl => h l (by omega))
    have := h n (by omega)
    simp only [sUz]; split <;> omega
theorem sU_z {B L S : Nat → Int32} {day b : Int32} : ∀ {n : Nat}, PS S n → n ≤ 40 → (sU B L S day b n).toInt = sUz B L S day b n
  | 0, _, _ => rfl
  | n + 1, h, hn => by
    have h0 : PS S n := fun l hl => h l (by omega)
    have ih := sU_z (B := B) (L := L) (day := day) (b := b) h0 (by omega)
    have hb := sUz_b (B := B) (L := L) (day := day) (b := b) h0
    have hl := h n (by omega)
    by_cases hu : us B L S day b n
    · rw [sU_t hu, sUz, if_pos hu, tI_add (by omega) (by omega) (by omega) (by omega), ih]
    · rw [sU_f hu, sUz, if_neg hu, ih]
theorem us_i {B L S : Nat → Int32} {day b : Int32} {l : Nat} : us B L S day b l ↔ B l = b ∧ day ≤ L l ∧ 0 < (S l).toInt := by
  rw [show (0 < (S l).toInt) ↔ 0 < S l by rw [Int32.lt_iff_toInt_lt]; rfl]
theorem nxo_no {B L S : Nat → Int32} {day b : Int32} : ∀ {n : Nat}, nxo B L S day b n = none → cU B L S day b n = 0
  | 0, _ => rfl
  | n + 1, e => by
    simp only [nxo] at e
    cases hn : nxo B L S day b n with
    | some m =>
      rw [hn] at e
      by_cases hu : us B L S day b n ∧ L n < L m
      · simp only [if_pos hu] at e; cases e
      · simp only [if_neg hu] at e; cases e
    | none =>
      rw [hn] at e
      by_cases hu : us B L S day b n
      · simp only [if_pos hu] at e; cases e
      · rw [cU, if_neg hu]; exact nxo_no hn
theorem cU_0 {B L S : Nat → Int32} {day b : Int32} : ∀ {n : Nat}, cU B L S day b n = 0 → sUz B L S day b n = 0
  | 0, _ => rfl
  | n + 1, e => by
    by_cases hu : us B L S day b n
    · rw [cU, if_pos hu] at e; omega
    · rw [cU, if_neg hu] at e; rw [sUz, if_neg hu]; exact cU_0 e
theorem us_upd {B L S : Nat → Int32} {day b : Int32} {l j : Nat} {v : Int32} (hl : l ≠ j) : us B L (upd S j v) day b l ↔ us B L S day b l := by
  simp only [us, upd, if_neg hl]
theorem sUz_upd {B L S : Nat → Int32} {day b : Int32} {j : Nat} {v : Int32} (hu : us B L S day b j) (hv : 0 ≤ v.toInt) : ∀ {n : Nat}, sUz B L (upd S j v) day b n = if j < n then sUz B L S day b n - (S j).toInt + v.toInt else sUz B L S day b n
  | 0 => by simp [sUz]
  | n + 1 => by
    have ih := sUz_upd (n := n) hu hv
    by_cases e : n = j
    · subst e
      rw [if_neg (Nat.lt_irrefl n)] at ih
      rw [sUz, if_pos (Nat.lt_succ_self n), sUz, if_pos hu, ih]
      by_cases h2 : us B L (upd S n v) day b n
      · rw [if_pos h2]; simp only [upd, if_true]; omega
      · rw [if_neg h2]
        have : ¬ 0 < v.toInt := fun z => h2 (us_i.mpr ⟨hu.1, hu.2.1, by simp only [upd, if_true]; exact z⟩)
        omega
    · rw [sUz, sUz, ih]
      by_cases h2 : us B L S day b n
      · rw [if_pos ((us_upd e).mpr h2), if_pos h2]; simp only [upd, if_neg e]
        by_cases h3 : j < n
        · rw [if_pos h3, if_pos (by omega)]; omega
        · rw [if_neg h3, if_neg (by omega)]
      · rw [if_neg (fun z => h2 ((us_upd e).mp z)), if_neg h2]
        by_cases h3 : j < n
        · rw [if_pos h3, if_pos (by omega)]
        · rw [if_neg h3, if_neg (by omega)]
theorem cU_upd {B L S : Nat → Int32} {day b : Int32} {j : Nat} {v : Int32} (hu : us B L S day b j) (hv : ¬ 0 < v.toInt) : ∀ {n : Nat}, (if j < n then cU B L (upd S j v) day b n + 1 else cU B L (upd S j v) day b n) = cU B L S day b n
  | 0 => by simp [cU]
  | n + 1 => by
    have ih := cU_upd (n := n) hu hv
    by_cases e : n = j
    · subst e
      rw [if_neg (Nat.lt_irrefl n)] at ih
      have h2 : ¬ us B L (upd S n v) day b n := fun z => hv (by have := (us_i.mp z).2.2; simpa [upd] using this)
      rw [if_pos (Nat.lt_succ_self n), cU, if_neg h2, cU, if_pos hu, ih]
    · rw [cU, cU]
      by_cases h2 : us B L S day b n
      · rw [if_pos ((us_upd e).mpr h2), if_pos h2, ← ih]
        by_cases h3 : j < n
        · rw [if_pos h3, if_pos (by omega)]
        · rw [if_neg h3, if_neg (by omega)]
      · rw [if_neg (fun z => h2 ((us_upd e).mp z)), if_neg h2, ← ih]
        by_cases h3 : j < n
        · rw [if_pos h3, if_pos (by omega)]
        · rw [if_neg h3, if_neg (by omega)]
theorem minI_i (x y : Int32) : (minI x y).toInt = if y.toInt < x.toInt then y.toInt else x.toInt := by
  rw [minI]
  by_cases h : y < x
  · rw [if_pos h, if_pos (Int32.lt_iff_toInt_lt.mp h)]
  · rw [if_neg h, if_neg (fun z => h (Int32.lt_iff_toInt_lt.mpr z))]
theorem PS_upd {S : Nat → Int32} {z j : Nat} {v : Int32} (h : PS S z) (h0 : 0 ≤ v.toInt) (h1 : v.toInt ≤ 20000) : PS (upd S j v) z := by
  intro l hl
  by_cases e : l = j
  · subst e; simp only [upd, if_true]; exact ⟨h0, h1⟩
  · simp only [upd, if_neg e]; exact h l hl
theorem tkok_le {B L : Nat → Int32} {day b : Int32} {z : Nat} : ∀ (k : Nat) (m : Int32) (S : Nat → Int32), m ≤ 0 → tkok B L day b z k m S
  | 0, _, _, h => h
  | _ + 1, _, _, h => Or.inl h
theorem tkok_of {B L : Nat → Int32} {day b : Int32} {z : Nat} (hz : z ≤ 40) : ∀ (k : Nat) (m : Int32) (S : Nat → Int32), PS S z → -1000000000 ≤ m.toInt → m.toInt ≤ sUz B L S day b z → cU B L S day b z ≤ k → tkok B L day b z k m S
  | 0, m, S, hS, h0, hm, hc => by
    have := cU_0 (Nat.le_zero.mp hc)
    show m ≤ 0
    rw [Int32.le_iff_toInt_le]
    show m.toInt ≤ 0
    omega
  | k + 1, m, S, hS, h0, hm, hc => by
    by_cases hm0 : m ≤ 0
    · exact Or.inl hm0
    · have hmp : 0 < m.toInt := by
        have := Int32.lt_iff_toInt_lt.mp (Int32.not_le.mp hm0)
        exact this
      refine Or.inr ?_
      cases hn : nxo B L S day b z with
      | none => exfalso; have := cU_0 (nxo_no hn); omega
      | some j =>
        obtain ⟨hj, hu⟩ := nxo_lt hn
        have hsj := hS j hj
        have hpj := (us_i.mp hu).2.2
        have hb := sUz_b (B := B) (L := L) (day := day) (b := b) hS
        have hz2 : (20000 : Int) * z ≤ 800000 := by omega
        have hg := minI_i (S j) m
        have hgr : 0 ≤ (minI (S j) m).toInt ∧ (minI (S j) m).toInt ≤ (S j).toInt := by rw [hg]; split <;> omega
        have e1 : (S j - minI (S j) m).toInt = (S j).toInt - (minI (S j) m).toInt := tI_sub (by omega) (by omega) (by omega) (by omega)
        have e2 : (m - minI (S j) m).toInt = m.toInt - (minI (S j) m).toInt := tI_sub (by omega) (by omega) (by omega) (by omega)
        by_cases h3 : m.toInt < (S j).toInt
        · refine ⟨j, rfl, tkok_le k _ _ ?_⟩
          rw [Int32.le_iff_toInt_le, e2, hg, if_pos h3]
          show m.toInt - m.toInt ≤ 0
          omega
        · refine ⟨j, rfl, tkok_of hz k _ _ (PS_upd hS (by omega) (by omega)) (by omega) ?_ ?_⟩
          · rw [sUz_upd hu (by omega), if_pos hj]; omega
          · have h4 : (minI (S j) m).toInt = (S j).toInt := by rw [hg, if_neg h3]
            have := cU_upd (B := B) (L := L) (day := day) (b := b) (n := z) (v := S j - minI (S j) m) hu (by omega)
            rw [if_pos hj] at this
            omega
theorem tkok_sU {B L S : Nat → Int32} {day b m : Int32} {z : Nat} (hz : z ≤ 40) (hS : PS S z) (h0 : -1000000000 ≤ m.toInt) (hm : m ≤ sU B L S day b z) : tkok B L day b z z m S := by
  refine tkok_of hz z m S hS h0 ?_ (cU_le B L S day b z)
  rw [← sU_z hS hz]; exact Int32.le_iff_toInt_le.mp hm
