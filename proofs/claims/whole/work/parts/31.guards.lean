def b2 (b : Bool) : Int32 := if b = true then 1 else 0
def inB (v a b : Int32) : Bool := decide (a ≤ v) && decide (v ≤ b)
def ltB (v n : Int32) : Bool := decide (0 ≤ v) && decide (v < n)
theorem b2n {b : Bool} (h : b2 b = 0) : b = false := by cases b <;> simp_all [b2]
theorem b2y {b : Bool} (h : ¬ b2 b = 0) : b = true := by cases b <;> simp_all [b2]
theorem b2_if {c : Prop} {hd : Decidable c} : (if c then (1 : Int32) else 0) = b2 (decide c) := by by_cases h : c <;> simp [b2, h]
theorem b2_not {c : Prop} {hd : Decidable c} : (if c then (0 : Int32) else 1) = b2 (!decide c) := by by_cases h : c <;> simp [b2, h]
theorem inB_if {v a b : Int32} : (if a ≤ v ∧ v ≤ b then (1 : Int32) else 0) = b2 (inB v a b) := by rw [b2_if, inB, Bool.decide_and]
theorem ltB_if {v n : Int32} : (if 0 ≤ v ∧ v < n then (1 : Int32) else 0) = b2 (ltB v n) := by rw [b2_if, ltB, Bool.decide_and]
theorem ltB_of {v : Int32} {n : Nat} (hn : n < 2147483648) (h : ltB v (nI n) = true) : ∃ j : Nat, j < n ∧ v = nI j := by
  simp only [ltB, Bool.and_eq_true, decide_eq_true_eq] at h
  obtain ⟨j, hj, e⟩ := nI_of (x := v) (Int32.not_lt.mpr h.1)
  subst e
  exact ⟨j, (nI_ltI hj hn).mp h.2, rfl⟩
theorem inB_of {v : Int32} {n : Nat} (hn : n < 2147483648) (h : inB v 0 (nI n) = true) : ∃ j : Nat, j < n + 1 ∧ v = nI j := by
  simp only [inB, Bool.and_eq_true, decide_eq_true_eq] at h
  obtain ⟨j, hj, e⟩ := nI_of (x := v) (Int32.not_lt.mpr h.1)
  subst e
  exact ⟨j, by have := (nI_leI hj hn).mp h.2; omega, rfl⟩
theorem c_X9_within_b {h : HF} (hS : Sh h) (v a b : Int32) : Mc mX9_within [.int v, .int a, .int b] 170 h (RI (b2 (inB v a b)) h) := by
  have t := c_X9_within hS v a b
  rw [inB_if] at t
  exact t
theorem c_X9_isStrength_b {h : HF} (hS : Sh h) (v : Int32) : Mc mX9_isStrength [.int v] 170 h (RI (b2 (inB v 0 1000)) h) := by
  have t := c_X9_isStrength hS v
  rw [inB_if] at t
  exact t
theorem c_X9_isBand_b {h : HF} (hS : Sh h) (v : Int32) : Mc mX9_isBand [.int v] 170 h (RI (b2 (inB v 0 2)) h) := by
  have t := c_X9_isBand hS v
  rw [inB_if] at t
  exact t
theorem c_X9_isTank_b {h : HF} (hS : Sh h) (v : Int32) : Mc mX9_isTank [.int v] 170 h (RI (b2 (inB v 0 4)) h) := by
  have t := c_X9_isTank hS v
  rw [inB_if] at t
  exact t
theorem c_X9_isHue_b {h : HF} (hS : Sh h) (v : Int32) : Mc mX9_isHue [.int v] 170 h (RI (b2 (inB v 0 5)) h) := by
  have t := c_X9_isHue hS v
  rw [inB_if] at t
  exact t
def aimB (x y z : Int32) : Bool := decide ((0 ≤ x ∧ x ≤ 1000000) ∧ (0 ≤ y ∧ y ≤ 1000000) ∧ (0 ≤ z ∧ z ≤ 1000000))
theorem c_X9_isAim_b {h : HF} (hS : Sh h) (x y z : Int32) : Mc mX9_isAim [.int x, .int y, .int z] 170 h (RI (b2 (aimB x y z)) h) := by
  have t := c_X9_isAim hS x y z
  rw [b2_if] at t
  exact t
theorem c_X5_has_b {h : HF} (hS : Sh h) (v : Int32) (z : Nat) (hz : fI h 2 2 = nI z) : Mc mX5_has [.ref 2, .int v] 170 h (RI (b2 (ltB v (nI z))) h) := by
  have t := c_X5_has hS v
  rw [ltB_if, hz] at t
  exact t
theorem c_X7_has_b {h : HF} (hS : Sh h) (v : Int32) (z : Nat) (hz : fI h 5 3 = nI z) : Mc mX7_has [.ref 5, .int v] 170 h (RI (b2 (ltB v (nI z))) h) := by
  have t := c_X7_has hS v
  rw [ltB_if, hz] at t
  exact t
theorem c_X1_has_b {h : HF} (hS : Sh h) (v : Int32) (z : Nat) (hz : fI h 9 6 = nI z) : Mc mX1_has [.ref 9, .int v] 170 h (RI (b2 (ltB v (nI z))) h) := by
  have t := c_X1_has hS v
  rw [ltB_if, hz] at t
  exact t
theorem c_X3_has_b {h : HF} (hS : Sh h) (v : Int32) (z : Nat) (hz : fI h 25 5 = nI z) : Mc mX3_has [.ref 25, .int v] 170 h (RI (b2 (ltB v (nI z))) h) := by
  have t := c_X3_has hS v
  rw [ltB_if, hz] at t
  exact t
theorem c_X9_hasBatch_b {h : HF} (hS : Sh h) (v : Int32) (z : Nat) (hz : fI h 1 4 = nI z) : Mc mX9_hasBatch [.ref 1, .int v] 170 h (RI (b2 (ltB v (nI z))) h) := by
  have t := c_X9_hasBatch hS v
  rw [ltB_if, hz] at t
  exact t
def btB (b : Int64) (i : Int32) : Bool := !decide ((b >>> (i.toInt64 &&& 63)) &&& 1 = 0)
theorem c_X9_hasBit_b {h : HF} (hS : Sh h) (b : Int64) (i : Int32) : Mc mX9_hasBit [.long b, .int i] 170 h (RI (b2 (btB b i)) h) := by
  have t := c_X9_hasBit hS b i
  rw [b2_not] at t
  exact t
def gBase (h : HF) (z : Nat) (x y : Int32) : HF := if z < 8 then sI (tellF (tellF (tellF h (z * 3 + 0) x y) (z * 3 + 1) x y) (z * 3 + 2) x y) 2 2 (nI (z + 1)) else h
theorem Sh_gBase {h : HF} (hS : Sh h) (z : Nat) (x y : Int32) : Sh (gBase h z x y) := by
  unfold gBase
  split
  · first | exact hS.sI _ _ _ | exact (((hS.tell _ _ _).tell _ _ _).tell _ _ _).sI _ _ _ | exact (((hS.si _ _).si _ _).si _ _).sI _ _ _ | exact ((((hS.si _ _).si _ _).si _ _).si _ _).sI _ _ _
  · exact hS
def cap8 (z : Nat) : Int32 := if z < 8 then nI z else -6
theorem c_X5_add_b {h : HF} (hS : Sh h) (x y : Int32) (z : Nat) (hz : fI h 2 2 = nI z) (hz1 : z ≤ 8) : Mc mX5_add [.ref 2, .int x, .int y] 170 h (RI (cap8 z) (gBase h z x y)) := by
  by_cases hlt : z < 8
  · rw [cap8, gBase, if_pos hlt, if_pos hlt]; exact c_X5_add hS x y z hz hlt
  · obtain rfl : z = 8 := by omega
    rw [cap8, gBase, if_neg hlt, if_neg hlt]; exact c_X5_add_full hS x y hz
def gLot (h : HF) (z : Nat) (b u l : Int32) : HF := if z < 40 then sI (si (si (si h 6 (upd (gi h 6) z b)) 7 (upd (gi h 7) z u)) 8 (upd (gi h 8) z l)) 5 3 (nI (z + 1)) else h
theorem Sh_gLot {h : HF} (hS : Sh h) (z : Nat) (b u l : Int32) : Sh (gLot h z b u l) := by
  unfold gLot
  split
  · first | exact hS.sI _ _ _ | exact (((hS.tell _ _ _).tell _ _ _).tell _ _ _).sI _ _ _ | exact (((hS.si _ _).si _ _).si _ _).sI _ _ _ | exact ((((hS.si _ _).si _ _).si _ _).si _ _).sI _ _ _
  · exact hS
def cap40 (z : Nat) : Int32 := if z < 40 then nI z else -6
theorem c_X7_add_b {h : HF} (hS : Sh h) (b u l : Int32) (z : Nat) (hz : fI h 5 3 = nI z) (hz1 : z ≤ 40) : Mc mX7_add [.ref 5, .int b, .int u, .int l] 170 h (RI (cap40 z) (gLot h z b u l)) := by
  by_cases hlt : z < 40
  · rw [cap40, gLot, if_pos hlt, if_pos hlt]; exact c_X7_add hS b u l z hz hlt
  · obtain rfl : z = 40 := by omega
    rw [cap40, gLot, if_neg hlt, if_neg hlt]; exact c_X7_add_full hS b u l hz
def gRec (h : HF) (z : Nat)  : HF := if z < 12 then sI h 9 6 (nI (z + 1)) else h
theorem Sh_gRec {h : HF} (hS : Sh h) (z : Nat)  : Sh (gRec h z ) := by
  unfold gRec
  split
  · first | exact hS.sI _ _ _ | exact (((hS.tell _ _ _).tell _ _ _).tell _ _ _).sI _ _ _ | exact (((hS.si _ _).si _ _).si _ _).sI _ _ _ | exact ((((hS.si _ _).si _ _).si _ _).si _ _).sI _ _ _
  · exact hS
def cap12 (z : Nat) : Int32 := if z < 12 then nI z else -6
theorem c_X1_add_b {h : HF} (hS : Sh h)  (z : Nat) (hz : fI h 9 6 = nI z) (hz1 : z ≤ 12) : Mc mX1_add [.ref 9] 170 h (RI (cap12 z) (gRec h z )) := by
  by_cases hlt : z < 12
  · rw [cap12, gRec, if_pos hlt, if_pos hlt]; exact c_X1_add hS  z hz hlt
  · obtain rfl : z = 12 := by omega
    rw [cap12, gRec, if_neg hlt, if_neg hlt]; exact c_X1_add_full hS  hz
def gJob (h : HF) (z : Nat) (a b c d : Int32) : HF := if z < 8 then sI (si (si (si (si h 32 (upd (gi h 32) z a)) 33 (upd (gi h 33) z b)) 34 (upd (gi h 34) z c)) 35 (upd (gi h 35) z d)) 31 4 (nI (z + 1)) else h
theorem Sh_gJob {h : HF} (hS : Sh h) (z : Nat) (a b c d : Int32) : Sh (gJob h z a b c d) := by
  unfold gJob
  split
  · first | exact hS.sI _ _ _ | exact (((hS.tell _ _ _).tell _ _ _).tell _ _ _).sI _ _ _ | exact (((hS.si _ _).si _ _).si _ _).sI _ _ _ | exact ((((hS.si _ _).si _ _).si _ _).si _ _).sI _ _ _
  · exact hS
theorem c_X6_add_b {h : HF} (hS : Sh h) (a b c d : Int32) (z : Nat) (hz : fI h 31 4 = nI z) (hz1 : z ≤ 8) : Mc mX6_add [.ref 31, .int a, .int b, .int c, .int d] 170 h (RI (cap8 z) (gJob h z a b c d)) := by
  by_cases hlt : z < 8
  · rw [cap8, gJob, if_pos hlt, if_pos hlt]; exact c_X6_add hS a b c d z hz hlt
  · obtain rfl : z = 8 := by omega
    rw [cap8, gJob, if_neg hlt, if_neg hlt]; exact c_X6_add_full hS a b c d hz
