def Ra (h : HF) (nb : Nat) : Prop := (fI h 2 2 = nI nb) ∧ (fI h 132 1 = nI nb) ∧ (nb ≤ 8) ∧ (∀ b d, b < 8 → d < 3 → gi h 3 (b * 3 + d) = gi h 133 (8 * d + b) ∧ gi h 4 (b * 3 + d) = gi h 134 (8 * d + b)) ∧ (∀ j, j < 24 → (0 ≤ (gi h 133 j).toInt ∧ (gi h 133 j).toInt ≤ 1000) ∧ (0 ≤ (gi h 134 j).toInt ∧ (gi h 134 j).toInt ≤ 1000))
theorem Ra.of {h : HF} {nb : Nat} (q0 : fI h 2 2 = nI nb) (q1 : fI h 132 1 = nI nb) (q2 : nb ≤ 8) (q3 : ∀ b d, b < 8 → d < 3 → gi h 3 (b * 3 + d) = gi h 133 (8 * d + b) ∧ gi h 4 (b * 3 + d) = gi h 134 (8 * d + b)) (q4 : ∀ j, j < 24 → (0 ≤ (gi h 133 j).toInt ∧ (gi h 133 j).toInt ≤ 1000) ∧ (0 ≤ (gi h 134 j).toInt ∧ (gi h 134 j).toInt ≤ 1000)) : Ra h nb := by
  unfold Ra
  exact ⟨q0, q1, q2, q3, q4⟩
theorem Ra.c {h : HF} {nb : Nat} (r : Ra h nb) : fI h 2 2 = nI nb := by
  unfold Ra at r
  exact r.1
theorem Ra.m {h : HF} {nb : Nat} (r : Ra h nb) : fI h 132 1 = nI nb := by
  unfold Ra at r
  exact r.2.1
theorem Ra.le {h : HF} {nb : Nat} (r : Ra h nb) : nb ≤ 8 := by
  unfold Ra at r
  exact r.2.2.1
theorem Ra.A {h : HF} {nb : Nat} (r : Ra h nb) : ∀ b d, b < 8 → d < 3 → gi h 3 (b * 3 + d) = gi h 133 (8 * d + b) ∧ gi h 4 (b * 3 + d) = gi h 134 (8 * d + b) := by
  unfold Ra at r
  exact r.2.2.2.1
theorem Ra.P {h : HF} {nb : Nat} (r : Ra h nb) : ∀ j, j < 24 → (0 ≤ (gi h 133 j).toInt ∧ (gi h 133 j).toInt ≤ 1000) ∧ (0 ≤ (gi h 134 j).toInt ∧ (gi h 134 j).toInt ≤ 1000) := by
  unfold Ra at r
  exact r.2.2.2.2
def Rb (h : HF) (nb nl : Nat) : Prop := (fI h 5 3 = nI nl) ∧ (fI h 132 4 = nI nl) ∧ (nl ≤ 40) ∧ (fI h 5 4 = fI h 132 0) ∧ (gi h 6 = gi h 135) ∧ (gi h 7 = gi h 136) ∧ (gi h 8 = gi h 137) ∧ (PS (gi h 136) nl) ∧ (∀ l, l < nl → ∃ b, b < nb ∧ gi h 135 l = nI b)
theorem Rb.of {h : HF} {nb nl : Nat} (q0 : fI h 5 3 = nI nl) (q1 : fI h 132 4 = nI nl) (q2 : nl ≤ 40) (q3 : fI h 5 4 = fI h 132 0) (q4 : gi h 6 = gi h 135) (q5 : gi h 7 = gi h 136) (q6 : gi h 8 = gi h 137) (q7 : PS (gi h 136) nl) (q8 : ∀ l, l < nl → ∃ b, b < nb ∧ gi h 135 l = nI b) : Rb h nb nl := by
  unfold Rb
  exact ⟨q0, q1, q2, q3, q4, q5, q6, q7, q8⟩
theorem Rb.c {h : HF} {nb nl : Nat} (r : Rb h nb nl) : fI h 5 3 = nI nl := by
  unfold Rb at r
  exact r.1
theorem Rb.m {h : HF} {nb nl : Nat} (r : Rb h nb nl) : fI h 132 4 = nI nl := by
  unfold Rb at r
  exact r.2.1
theorem Rb.le {h : HF} {nb nl : Nat} (r : Rb h nb nl) : nl ≤ 40 := by
  unfold Rb at r
  exact r.2.2.1
theorem Rb.day {h : HF} {nb nl : Nat} (r : Rb h nb nl) : fI h 5 4 = fI h 132 0 := by
  unfold Rb at r
  exact r.2.2.2.1
theorem Rb.B {h : HF} {nb nl : Nat} (r : Rb h nb nl) : gi h 6 = gi h 135 := by
  unfold Rb at r
  exact r.2.2.2.2.1
theorem Rb.S {h : HF} {nb nl : Nat} (r : Rb h nb nl) : gi h 7 = gi h 136 := by
  unfold Rb at r
  exact r.2.2.2.2.2.1
theorem Rb.L {h : HF} {nb nl : Nat} (r : Rb h nb nl) : gi h 8 = gi h 137 := by
  unfold Rb at r
  exact r.2.2.2.2.2.2.1
theorem Rb.P {h : HF} {nb nl : Nat} (r : Rb h nb nl) : PS (gi h 136) nl := by
  unfold Rb at r
  exact r.2.2.2.2.2.2.2.1
theorem Rb.lb {h : HF} {nb nl : Nat} (r : Rb h nb nl) : ∀ l, l < nl → ∃ b, b < nb ∧ gi h 135 l = nI b := by
  unfold Rb at r
  exact r.2.2.2.2.2.2.2.2
def Rc (h : HF) (nr : Nat) : Prop := (fI h 9 6 = nI nr) ∧ (fI h 132 8 = nI nr) ∧ (nr ≤ 12) ∧ (gi h 10 = gi h 139) ∧ (gi h 11 = gi h 140) ∧ (gi h 12 = gi h 141) ∧ (gi h 13 = gi h 138) ∧ (gi h 14 = gi h 142) ∧ (okA (gi h 139) (gi h 140) (gi h 138) nr) ∧ (∀ j, 0 ≤ (gi h 141 j).toInt ∧ (gi h 141 j).toInt ≤ 100) ∧ (∀ j, 8 * nr ≤ j → gi h 143 j = 0) ∧ (∀ r, nr ≤ r → gi h 138 r = 0) ∧ (∀ j, 0 ≤ (gi h 142 j).toInt ∧ (gi h 142 j).toInt ≤ 20000)
theorem Rc.of {h : HF} {nr : Nat} (q0 : fI h 9 6 = nI nr) (q1 : fI h 132 8 = nI nr) (q2 : nr ≤ 12) (q3 : gi h 10 = gi h 139) (q4 : gi h 11 = gi h 140) (q5 : gi h 12 = gi h 141) (q6 : gi h 13 = gi h 138) (q7 : gi h 14 = gi h 142) (q8 : okA (gi h 139) (gi h 140) (gi h 138) nr) (q9 : ∀ j, 0 ≤ (gi h 141 j).toInt ∧ (gi h 141 j).toInt ≤ 100) (q10 : ∀ j, 8 * nr ≤ j → gi h 143 j = 0) (q11 : ∀ r, nr ≤ r → gi h 138 r = 0) (q12 : ∀ j, 0 ≤ (gi h 142 j).toInt ∧ (gi h 142 j).toInt ≤ 20000) : Rc h nr := by
  unfold Rc
  exact ⟨q0, q1, q2, q3, q4, q5, q6, q7, q8, q9, q10, q11, q12⟩
theorem Rc.c {h : HF} {nr : Nat} (r : Rc h nr) : fI h 9 6 = nI nr := by
  unfold Rc at r
  exact r.1
theorem Rc.m {h : HF} {nr : Nat} (r : Rc h nr) : fI h 132 8 = nI nr := by
  unfold Rc at r
  exact r.2.1
theorem Rc.le {h : HF} {nr : Nat} (r : Rc h nr) : nr ≤ 12 := by
  unfold Rc at r
  exact r.2.2.1
theorem Rc.E {h : HF} {nr : Nat} (r : Rc h nr) : gi h 10 = gi h 139 := by
  unfold Rc at r
  exact r.2.2.2.1
theorem Rc.S {h : HF} {nr : Nat} (r : Rc h nr) : gi h 11 = gi h 140 := by
  unfold Rc at r
  exact r.2.2.2.2.1
theorem Rc.T {h : HF} {nr : Nat} (r : Rc h nr) : gi h 12 = gi h 141 := by
  unfold Rc at r
  exact r.2.2.2.2.2.1
theorem Rc.C {h : HF} {nr : Nat} (r : Rc h nr) : gi h 13 = gi h 138 := by
  unfold Rc at r
  exact r.2.2.2.2.2.2.1
theorem Rc.N {h : HF} {nr : Nat} (r : Rc h nr) : gi h 14 = gi h 142 := by
  unfold Rc at r
  exact r.2.2.2.2.2.2.2.1
theorem Rc.ok {h : HF} {nr : Nat} (r : Rc h nr) : okA (gi h 139) (gi h 140) (gi h 138) nr := by
  unfold Rc at r
  exact r.2.2.2.2.2.2.2.2.1
theorem Rc.tm {h : HF} {nr : Nat} (r : Rc h nr) : ∀ j, 0 ≤ (gi h 141 j).toInt ∧ (gi h 141 j).toInt ≤ 100 := by
  unfold Rc at r
  exact r.2.2.2.2.2.2.2.2.2.1
theorem Rc.tz {h : HF} {nr : Nat} (r : Rc h nr) : ∀ j, 8 * nr ≤ j → gi h 143 j = 0 := by
  unfold Rc at r
  exact r.2.2.2.2.2.2.2.2.2.2.1
theorem Rc.cz {h : HF} {nr : Nat} (r : Rc h nr) : ∀ r, nr ≤ r → gi h 138 r = 0 := by
  unfold Rc at r
  exact r.2.2.2.2.2.2.2.2.2.2.2.1
theorem Rc.nn {h : HF} {nr : Nat} (r : Rc h nr) : ∀ j, 0 ≤ (gi h 142 j).toInt ∧ (gi h 142 j).toInt ≤ 20000 := by
  unfold Rc at r
  exact r.2.2.2.2.2.2.2.2.2.2.2.2
def RdK (h : HF) (nb k : Nat) : Prop := (∀ b, b < 8 → gi h (42 + 3 * k) b = gi h 144 (8 * k + b)) ∧ (∀ b, b < 8 → 0 ≤ (gi h 144 (8 * k + b)).toInt ∧ (gi h 144 (8 * k + b)).toInt ≤ (usum (gi h 144) k 8).toInt) ∧ (∀ b, b < 8 → nb ≤ b → gi h 144 (8 * k + b) = 0) ∧ (fI h (41 + 3 * k) 1 = usum (gi h 144) k 8) ∧ ((usum (gi h 144) k 8).toInt ≤ 20000) ∧ (fJ h (41 + 3 * k) 2 = gl h 145 k) ∧ (∃ n, n < 2 ^ 40 ∧ gl h 145 k = lN n) ∧ (fI h (40 + 3 * k) 1 = gi h 146 k)
theorem RdK.of {h : HF} {nb k : Nat} (q0 : ∀ b, b < 8 → gi h (42 + 3 * k) b = gi h 144 (8 * k + b)) (q1 : ∀ b, b < 8 → 0 ≤ (gi h 144 (8 * k + b)).toInt ∧ (gi h 144 (8 * k + b)).toInt ≤ (usum (gi h 144) k 8).toInt) (q2 : ∀ b, b < 8 → nb ≤ b → gi h 144 (8 * k + b) = 0) (q3 : fI h (41 + 3 * k) 1 = usum (gi h 144) k 8) (q4 : (usum (gi h 144) k 8).toInt ≤ 20000) (q5 : fJ h (41 + 3 * k) 2 = gl h 145 k) (q6 : ∃ n, n < 2 ^ 40 ∧ gl h 145 k = lN n) (q7 : fI h (40 + 3 * k) 1 = gi h 146 k) : RdK h nb k := by
  unfold RdK
  exact ⟨q0, q1, q2, q3, q4, q5, q6, q7⟩
theorem RdK.am {h : HF} {nb k : Nat} (r : RdK h nb k) : ∀ b, b < 8 → gi h (42 + 3 * k) b = gi h 144 (8 * k + b) := by
  unfold RdK at r
  exact r.1
theorem RdK.bd {h : HF} {nb k : Nat} (r : RdK h nb k) : ∀ b, b < 8 → 0 ≤ (gi h 144 (8 * k + b)).toInt ∧ (gi h 144 (8 * k + b)).toInt ≤ (usum (gi h 144) k 8).toInt := by
  unfold RdK at r
  exact r.2.1
theorem RdK.zr {h : HF} {nb k : Nat} (r : RdK h nb k) : ∀ b, b < 8 → nb ≤ b → gi h 144 (8 * k + b) = 0 := by
  unfold RdK at r
  exact r.2.2.1
theorem RdK.un {h : HF} {nb k : Nat} (r : RdK h nb k) : fI h (41 + 3 * k) 1 = usum (gi h 144) k 8 := by
  unfold RdK at r
  exact r.2.2.2.1
theorem RdK.ul {h : HF} {nb k : Nat} (r : RdK h nb k) : (usum (gi h 144) k 8).toInt ≤ 20000 := by
  unfold RdK at r
  exact r.2.2.2.2.1
theorem RdK.lo {h : HF} {nb k : Nat} (r : RdK h nb k) : fJ h (41 + 3 * k) 2 = gl h 145 k := by
  unfold RdK at r
  exact r.2.2.2.2.2.1
theorem RdK.lb {h : HF} {nb k : Nat} (r : RdK h nb k) : ∃ n, n < 2 ^ 40 ∧ gl h 145 k = lN n := by
  unfold RdK at r
  exact r.2.2.2.2.2.2.1
theorem RdK.po {h : HF} {nb k : Nat} (r : RdK h nb k) : fI h (40 + 3 * k) 1 = gi h 146 k := by
  unfold RdK at r
  exact r.2.2.2.2.2.2.2
def Rd (h : HF) (nb nt : Nat) : Prop := (fI h 1 4 = nI nt) ∧ (fI h 132 15 = nI nt) ∧ (nt ≤ 24) ∧ (∀ k, k < 24 → RdK h nb k)
theorem Rd.of {h : HF} {nb nt : Nat} (q0 : fI h 1 4 = nI nt) (q1 : fI h 132 15 = nI nt) (q2 : nt ≤ 24) (q3 : ∀ k, k < 24 → RdK h nb k) : Rd h nb nt := by
  unfold Rd
  exact ⟨q0, q1, q2, q3⟩
theorem Rd.c {h : HF} {nb nt : Nat} (r : Rd h nb nt) : fI h 1 4 = nI nt := by
  unfold Rd at r
  exact r.1
theorem Rd.m {h : HF} {nb nt : Nat} (r : Rd h nb nt) : fI h 132 15 = nI nt := by
  unfold Rd at r
  exact r.2.1
theorem Rd.le {h : HF} {nb nt : Nat} (r : Rd h nb nt) : nt ≤ 24 := by
  unfold Rd at r
  exact r.2.2.1
theorem Rd.K {h : HF} {nb nt : Nat} (r : Rd h nb nt) : ∀ k, k < 24 → RdK h nb k := by
  unfold Rd at r
  exact r.2.2.2
def Re (h : HF) : Prop := (fI h 17 1 = fI h 132 19) ∧ (∀ b, b < 8 → gi h 18 b = gi h 147 b) ∧ (∀ b, b < 8 → 0 ≤ (gi h 147 b).toInt ∧ (gi h 147 b).toInt ≤ 8) ∧ (fI h 132 19 = 0 → ∀ b, b < 8 → gi h 147 b = 0)
theorem Re.of {h : HF} (q0 : fI h 17 1 = fI h 132 19) (q1 : ∀ b, b < 8 → gi h 18 b = gi h 147 b) (q2 : ∀ b, b < 8 → 0 ≤ (gi h 147 b).toInt ∧ (gi h 147 b).toInt ≤ 8) (q3 : fI h 132 19 = 0 → ∀ b, b < 8 → gi h 147 b = 0) : Re h := by
  unfold Re
  exact ⟨q0, q1, q2, q3⟩
theorem Re.fd {h : HF} (r : Re h) : fI h 17 1 = fI h 132 19 := by
  unfold Re at r
  exact r.1
theorem Re.be {h : HF} (r : Re h) : ∀ b, b < 8 → gi h 18 b = gi h 147 b := by
  unfold Re at r
  exact r.2.1
theorem Re.bb {h : HF} (r : Re h) : ∀ b, b < 8 → 0 ≤ (gi h 147 b).toInt ∧ (gi h 147 b).toInt ≤ 8 := by
  unfold Re at r
  exact r.2.2.1
theorem Re.z {h : HF} (r : Re h) : fI h 132 19 = 0 → ∀ b, b < 8 → gi h 147 b = 0 := by
  unfold Re at r
  exact r.2.2.2
def RfK (h : HF) (nb t : Nat) : Prop := (fI h (112 + 4 * t) 2 = gi h 150 t) ∧ (fI h (112 + 4 * t) 3 = gi h 149 t) ∧ (fI h (112 + 4 * t) 4 = gi h 155 t) ∧ (fI h (112 + 4 * t) 5 = gi h 152 t) ∧ (fI h (112 + 4 * t) 6 = gi h 151 t) ∧ (∀ d, d < 3 → gi h (115 + 4 * t) d = gi h 156 (3 * t + d)) ∧ (∀ b, b < 8 → gi h (114 + 4 * t) b = gi h 153 (8 * t + b)) ∧ (∀ b, b < 8 → nb ≤ b → gi h 153 (8 * t + b) = 0) ∧ (fJ h (113 + 4 * t) 2 = gl h 154 t) ∧ (0 ≤ (gi h 150 t).toInt) ∧ ((gi h 150 t).toInt ≤ (gi h 149 t).toInt) ∧ ((gi h 149 t).toInt ≤ 60000) ∧ (0 < (gi h 150 t).toInt → gi h 151 t = 0) ∧ (∃ n, n < 2 ^ 40 ∧ gl h 154 t = lN n) ∧ (∃ n, n < 2 ^ 24 ∧ gi h 155 t = nI n)
theorem RfK.of {h : HF} {nb t : Nat} (q0 : fI h (112 + 4 * t) 2 = gi h 150 t) (q1 : fI h (112 + 4 * t) 3 = gi h 149 t) (q2 : fI h (112 + 4 * t) 4 = gi h 155 t) (q3 : fI h (112 + 4 * t) 5 = gi h 152 t) (q4 : fI h (112 + 4 * t) 6 = gi h 151 t) (q5 : ∀ d, d < 3 → gi h (115 + 4 * t) d = gi h 156 (3 * t + d)) (q6 : ∀ b, b < 8 → gi h (114 + 4 * t) b = gi h 153 (8 * t + b)) (q7 : ∀ b, b < 8 → nb ≤ b → gi h 153 (8 * t + b) = 0) (q8 : fJ h (113 + 4 * t) 2 = gl h 154 t) (q9 : 0 ≤ (gi h 150 t).toInt) (q10 : (gi h 150 t).toInt ≤ (gi h 149 t).toInt) (q11 : (gi h 149 t).toInt ≤ 60000) (q12 : 0 < (gi h 150 t).toInt → gi h 151 t = 0) (q13 : ∃ n, n < 2 ^ 40 ∧ gl h 154 t = lN n) (q14 : ∃ n, n < 2 ^ 24 ∧ gi h 155 t = nI n) : RfK h nb t := by
  unfold RfK
  exact ⟨q0, q1, q2, q3, q4, q5, q6, q7, q8, q9, q10, q11, q12, q13, q14⟩
theorem RfK.ins {h : HF} {nb t : Nat} (r : RfK h nb t) : fI h (112 + 4 * t) 2 = gi h 150 t := by
  unfold RfK at r
  exact r.1
theorem RfK.siz {h : HF} {nb t : Nat} (r : RfK h nb t) : fI h (112 + 4 * t) 3 = gi h 149 t := by
  unfold RfK at r
  exact r.2.1
theorem RfK.bat {h : HF} {nb t : Nat} (r : RfK h nb t) : fI h (112 + 4 * t) 4 = gi h 155 t := by
  unfold RfK at r
  exact r.2.2.1
theorem RfK.tap {h : HF} {nb t : Nat} (r : RfK h nb t) : fI h (112 + 4 * t) 5 = gi h 152 t := by
  unfold RfK at r
  exact r.2.2.2.1
theorem RfK.stn {h : HF} {nb t : Nat} (r : RfK h nb t) : fI h (112 + 4 * t) 6 = gi h 151 t := by
  unfold RfK at r
  exact r.2.2.2.2.1
theorem RfK.sta {h : HF} {nb t : Nat} (r : RfK h nb t) : ∀ d, d < 3 → gi h (115 + 4 * t) d = gi h 156 (3 * t + d) := by
  unfold RfK at r
  exact r.2.2.2.2.2.1
theorem RfK.am {h : HF} {nb t : Nat} (r : RfK h nb t) : ∀ b, b < 8 → gi h (114 + 4 * t) b = gi h 153 (8 * t + b) := by
  unfold RfK at r
  exact r.2.2.2.2.2.2.1
theorem RfK.zr {h : HF} {nb t : Nat} (r : RfK h nb t) : ∀ b, b < 8 → nb ≤ b → gi h 153 (8 * t + b) = 0 := by
  unfold RfK at r
  exact r.2.2.2.2.2.2.2.1
theorem RfK.lo {h : HF} {nb t : Nat} (r : RfK h nb t) : fJ h (113 + 4 * t) 2 = gl h 154 t := by
  unfold RfK at r
  exact r.2.2.2.2.2.2.2.2.1
theorem RfK.h0 {h : HF} {nb t : Nat} (r : RfK h nb t) : 0 ≤ (gi h 150 t).toInt := by
  unfold RfK at r
  exact r.2.2.2.2.2.2.2.2.2.1
theorem RfK.hr {h : HF} {nb t : Nat} (r : RfK h nb t) : (gi h 150 t).toInt ≤ (gi h 149 t).toInt := by
  unfold RfK at r
  exact r.2.2.2.2.2.2.2.2.2.2.1
theorem RfK.r6 {h : HF} {nb t : Nat} (r : RfK h nb t) : (gi h 149 t).toInt ≤ 60000 := by
  unfold RfK at r
  exact r.2.2.2.2.2.2.2.2.2.2.2.1
theorem RfK.hs {h : HF} {nb t : Nat} (r : RfK h nb t) : 0 < (gi h 150 t).toInt → gi h 151 t = 0 := by
  unfold RfK at r
  exact r.2.2.2.2.2.2.2.2.2.2.2.2.1
theorem RfK.lb {h : HF} {nb t : Nat} (r : RfK h nb t) : ∃ n, n < 2 ^ 40 ∧ gl h 154 t = lN n := by
  unfold RfK at r
  exact r.2.2.2.2.2.2.2.2.2.2.2.2.2.1
theorem RfK.bb {h : HF} {nb t : Nat} (r : RfK h nb t) : ∃ n, n < 2 ^ 24 ∧ gi h 155 t = nI n := by
  unfold RfK at r
  exact r.2.2.2.2.2.2.2.2.2.2.2.2.2.2
def Rf (h : HF) (nb : Nat) : Prop := (fI h 1 10 = fI h 132 30) ∧ (0 ≤ (fI h 132 30).toInt) ∧ (fI h 1 11 = fI h 132 37) ∧ (∀ b, b < 8 → gi h 169 b = 0) ∧ (∀ t, t < 5 → RfK h nb t)
theorem Rf.of {h : HF} {nb : Nat} (q0 : fI h 1 10 = fI h 132 30) (q1 : 0 ≤ (fI h 132 30).toInt) (q2 : fI h 1 11 = fI h 132 37) (q3 : ∀ b, b < 8 → gi h 169 b = 0) (q4 : ∀ t, t < 5 → RfK h nb t) : Rf h nb := by
  unfold Rf
  exact ⟨q0, q1, q2, q3, q4⟩
theorem Rf.lim {h : HF} {nb : Nat} (r : Rf h nb) : fI h 1 10 = fI h 132 30 := by
  unfold Rf at r
  exact r.1
theorem Rf.l0 {h : HF} {nb : Nat} (r : Rf h nb) : 0 ≤ (fI h 132 30).toInt := by
  unfold Rf at r
  exact r.2.1
theorem Rf.cl {h : HF} {nb : Nat} (r : Rf h nb) : fI h 1 11 = fI h 132 37 := by
  unfold Rf at r
  exact r.2.2.1
theorem Rf.no {h : HF} {nb : Nat} (r : Rf h nb) : ∀ b, b < 8 → gi h 169 b = 0 := by
  unfold Rf at r
  exact r.2.2.2.1
theorem Rf.K {h : HF} {nb : Nat} (r : Rf h nb) : ∀ t, t < 5 → RfK h nb t := by
  unfold Rf at r
  exact r.2.2.2.2
def Rg (h : HF) (nd : Nat) : Prop := (fI h 25 5 = nI nd) ∧ (fI h 132 31 = nI nd) ∧ (nd ≤ 100) ∧ (gi h 26 = gi h 157) ∧ (gi h 27 = gi h 158) ∧ (gi h 28 = gi h 159) ∧ (gi h 29 = gi h 161) ∧ (gl h 30 = gl h 160) ∧ (∀ j, ∃ n, n < 2 ^ 24 ∧ gi h 161 j = nI n) ∧ (∀ j, ∃ n, n < 2 ^ 40 ∧ gl h 160 j = lN n)
theorem Rg.of {h : HF} {nd : Nat} (q0 : fI h 25 5 = nI nd) (q1 : fI h 132 31 = nI nd) (q2 : nd ≤ 100) (q3 : gi h 26 = gi h 157) (q4 : gi h 27 = gi h 158) (q5 : gi h 28 = gi h 159) (q6 : gi h 29 = gi h 161) (q7 : gl h 30 = gl h 160) (q8 : ∀ j, ∃ n, n < 2 ^ 24 ∧ gi h 161 j = nI n) (q9 : ∀ j, ∃ n, n < 2 ^ 40 ∧ gl h 160 j = lN n) : Rg h nd := by
  unfold Rg
  exact ⟨q0, q1, q2, q3, q4, q5, q6, q7, q8, q9⟩
theorem Rg.c {h : HF} {nd : Nat} (r : Rg h nd) : fI h 25 5 = nI nd := by
  unfold Rg at r
  exact r.1
theorem Rg.m {h : HF} {nd : Nat} (r : Rg h nd) : fI h 132 31 = nI nd := by
  unfold Rg at r
  exact r.2.1
theorem Rg.le {h : HF} {nd : Nat} (r : Rg h nd) : nd ≤ 100 := by
  unfold Rg at r
  exact r.2.2.1
theorem Rg.u {h : HF} {nd : Nat} (r : Rg h nd) : gi h 26 = gi h 157 := by
  unfold Rg at r
  exact r.2.2.2.1
theorem Rg.t {h : HF} {nd : Nat} (r : Rg h nd) : gi h 27 = gi h 158 := by
  unfold Rg at r
  exact r.2.2.2.2.1
theorem Rg.d {h : HF} {nd : Nat} (r : Rg h nd) : gi h 28 = gi h 159 := by
  unfold Rg at r
  exact r.2.2.2.2.2.1
theorem Rg.b {h : HF} {nd : Nat} (r : Rg h nd) : gi h 29 = gi h 161 := by
  unfold Rg at r
  exact r.2.2.2.2.2.2.1
theorem Rg.l {h : HF} {nd : Nat} (r : Rg h nd) : gl h 30 = gl h 160 := by
  unfold Rg at r
  exact r.2.2.2.2.2.2.2.1
theorem Rg.bb {h : HF} {nd : Nat} (r : Rg h nd) : ∀ j, ∃ n, n < 2 ^ 24 ∧ gi h 161 j = nI n := by
  unfold Rg at r
  exact r.2.2.2.2.2.2.2.2.1
theorem Rg.lb {h : HF} {nd : Nat} (r : Rg h nd) : ∀ j, ∃ n, n < 2 ^ 40 ∧ gl h 160 j = lN n := by
  unfold Rg at r
  exact r.2.2.2.2.2.2.2.2.2
def Rh (h : HF) (nj np : Nat) : Prop := (fI h 31 4 = nI nj) ∧ (fI h 132 38 = nI nj) ∧ (nj ≤ 8) ∧ (fI h 31 8 = nI np) ∧ (fI h 132 44 = nI np) ∧ (np ≤ 8) ∧ (gi h 32 = gi h 162) ∧ (gi h 33 = gi h 163) ∧ (gi h 34 = gi h 164) ∧ (gi h 35 = gi h 165) ∧ (gi h 36 = gi h 166) ∧ (gi h 38 = gi h 167) ∧ (∀ j, j < nj → ∃ u, u < 6 ∧ gi h 162 j = nI u) ∧ (∀ j, 0 ≤ (gi h 163 j).toInt ∧ (gi h 163 j).toInt ≤ 100) ∧ (∀ j, 0 ≤ (gi h 164 j).toInt ∧ (gi h 164 j).toInt ≤ 1000)
theorem Rh.of {h : HF} {nj np : Nat} (q0 : fI h 31 4 = nI nj) (q1 : fI h 132 38 = nI nj) (q2 : nj ≤ 8) (q3 : fI h 31 8 = nI np) (q4 : fI h 132 44 = nI np) (q5 : np ≤ 8) (q6 : gi h 32 = gi h 162) (q7 : gi h 33 = gi h 163) (q8 : gi h 34 = gi h 164) (q9 : gi h 35 = gi h 165) (q10 : gi h 36 = gi h 166) (q11 : gi h 38 = gi h 167) (q12 : ∀ j, j < nj → ∃ u, u < 6 ∧ gi h 162 j = nI u) (q13 : ∀ j, 0 ≤ (gi h 163 j).toInt ∧ (gi h 163 j).toInt ≤ 100) (q14 : ∀ j, 0 ≤ (gi h 164 j).toInt ∧ (gi h 164 j).toInt ≤ 1000) : Rh h nj np := by
  unfold Rh
  exact ⟨q0, q1, q2, q3, q4, q5, q6, q7, q8, q9, q10, q11, q12, q13, q14⟩
theorem Rh.c {h : HF} {nj np : Nat} (r : Rh h nj np) : fI h 31 4 = nI nj := by
  unfold Rh at r
  exact r.1
theorem Rh.m {h : HF} {nj np : Nat} (r : Rh h nj np) : fI h 132 38 = nI nj := by
  unfold Rh at r
  exact r.2.1
theorem Rh.le {h : HF} {nj np : Nat} (r : Rh h nj np) : nj ≤ 8 := by
  unfold Rh at r
  exact r.2.2.1
theorem Rh.pc {h : HF} {nj np : Nat} (r : Rh h nj np) : fI h 31 8 = nI np := by
  unfold Rh at r
  exact r.2.2.2.1
theorem Rh.pm {h : HF} {nj np : Nat} (r : Rh h nj np) : fI h 132 44 = nI np := by
  unfold Rh at r
  exact r.2.2.2.2.1
theorem Rh.pl {h : HF} {nj np : Nat} (r : Rh h nj np) : np ≤ 8 := by
  unfold Rh at r
  exact r.2.2.2.2.2.1
theorem Rh.hu {h : HF} {nj np : Nat} (r : Rh h nj np) : gi h 32 = gi h 162 := by
  unfold Rh at r
  exact r.2.2.2.2.2.2.1
theorem Rh.ti {h : HF} {nj np : Nat} (r : Rh h nj np) : gi h 33 = gi h 163 := by
  unfold Rh at r
  exact r.2.2.2.2.2.2.2.1
theorem Rh.du {h : HF} {nj np : Nat} (r : Rh h nj np) : gi h 34 = gi h 164 := by
  unfold Rh at r
  exact r.2.2.2.2.2.2.2.2.1
theorem Rh.pr {h : HF} {nj np : Nat} (r : Rh h nj np) : gi h 35 = gi h 165 := by
  unfold Rh at r
  exact r.2.2.2.2.2.2.2.2.2.1
theorem Rh.ch {h : HF} {nj np : Nat} (r : Rh h nj np) : gi h 36 = gi h 166 := by
  unfold Rh at r
  exact r.2.2.2.2.2.2.2.2.2.2.1
theorem Rh.od {h : HF} {nj np : Nat} (r : Rh h nj np) : gi h 38 = gi h 167 := by
  unfold Rh at r
  exact r.2.2.2.2.2.2.2.2.2.2.2.1
theorem Rh.ok {h : HF} {nj np : Nat} (r : Rh h nj np) : ∀ j, j < nj → ∃ u, u < 6 ∧ gi h 162 j = nI u := by
  unfold Rh at r
  exact r.2.2.2.2.2.2.2.2.2.2.2.2.1
theorem Rh.tb {h : HF} {nj np : Nat} (r : Rh h nj np) : ∀ j, 0 ≤ (gi h 163 j).toInt ∧ (gi h 163 j).toInt ≤ 100 := by
  unfold Rh at r
  exact r.2.2.2.2.2.2.2.2.2.2.2.2.2.1
theorem Rh.db {h : HF} {nj np : Nat} (r : Rh h nj np) : ∀ j, 0 ≤ (gi h 164 j).toInt ∧ (gi h 164 j).toInt ≤ 1000 := by
  unfold Rh at r
  exact r.2.2.2.2.2.2.2.2.2.2.2.2.2.2
def Rel (h : HF) (nb nl nr nt nd nj np : Nat) : Prop := (Sh h) ∧ (Ra h nb) ∧ (Rb h nb nl) ∧ (Rc h nr) ∧ (Rd h nb nt) ∧ (Re h) ∧ (Rf h nb) ∧ (Rg h nd) ∧ (Rh h nj np)
theorem Rel.of {h : HF} {nb nl nr nt nd nj np : Nat} (q0 : Sh h) (q1 : Ra h nb) (q2 : Rb h nb nl) (q3 : Rc h nr) (q4 : Rd h nb nt) (q5 : Re h) (q6 : Rf h nb) (q7 : Rg h nd) (q8 : Rh h nj np) : Rel h nb nl nr nt nd nj np := by
  unfold Rel
  exact ⟨q0, q1, q2, q3, q4, q5, q6, q7, q8⟩
theorem Rel.S {h : HF} {nb nl nr nt nd nj np : Nat} (r : Rel h nb nl nr nt nd nj np) : Sh h := by
  unfold Rel at r
  exact r.1
theorem Rel.a {h : HF} {nb nl nr nt nd nj np : Nat} (r : Rel h nb nl nr nt nd nj np) : Ra h nb := by
  unfold Rel at r
  exact r.2.1
theorem Rel.b {h : HF} {nb nl nr nt nd nj np : Nat} (r : Rel h nb nl nr nt nd nj np) : Rb h nb nl := by
  unfold Rel at r
  exact r.2.2.1
theorem Rel.c {h : HF} {nb nl nr nt nd nj np : Nat} (r : Rel h nb nl nr nt nd nj np) : Rc h nr := by
  unfold Rel at r
  exact r.2.2.2.1
theorem Rel.d {h : HF} {nb nl nr nt nd nj np : Nat} (r : Rel h nb nl nr nt nd nj np) : Rd h nb nt := by
  unfold Rel at r
  exact r.2.2.2.2.1
theorem Rel.e {h : HF} {nb nl nr nt nd nj np : Nat} (r : Rel h nb nl nr nt nd nj np) : Re h := by
  unfold Rel at r
  exact r.2.2.2.2.2.1
theorem Rel.f {h : HF} {nb nl nr nt nd nj np : Nat} (r : Rel h nb nl nr nt nd nj np) : Rf h nb := by
  unfold Rel at r
  exact r.2.2.2.2.2.2.1
theorem Rel.g {h : HF} {nb nl nr nt nd nj np : Nat} (r : Rel h nb nl nr nt nd nj np) : Rg h nd := by
  unfold Rel at r
  exact r.2.2.2.2.2.2.2.1
theorem Rel.j {h : HF} {nb nl nr nt nd nj np : Nat} (r : Rel h nb nl nr nt nd nj np) : Rh h nj np := by
  unfold Rel at r
  exact r.2.2.2.2.2.2.2.2
/-- one call of both: the same answer, and the relation kept -/
def JJ (M M' : MI) (av av' : List Value) (h : HF) : Prop := ∃ (v : Int32) (h1 h2 : HF), Mc M av 170 h (RI v h1) ∧ Sh h1 ∧ Mc M' av' 170 h1 (RI v h2) ∧ ∃ nb nl nr nt nd nj np, Rel h2 nb nl nr nt nd nj np
theorem JJ_read {M M' : MI} {av av' : List Value} {h : HF} {v v' : Int32} {nb nl nr nt nd nj np : Nat} (r : Rel h nb nl nr nt nd nj np) (c : Mc M av 170 h (RI v h)) (m : Mc M' av' 170 h (RI v' h)) (e : v = v') : JJ M M' av av' h := by
  subst e
  exact ⟨v, h, h, c, r.S, m, nb, nl, nr, nt, nd, nj, np, r⟩
theorem JJ_upd {M M' : MI} {av av' : List Value} {h h1 h2 : HF} {v v' : Int32} {nb nl nr nt nd nj np : Nat} (c : Mc M av 170 h (RI v h1)) (m : Mc M' av' 170 h1 (RI v' h2)) (e : v = v') (r : Rel h2 nb nl nr nt nd nj np) (hs : Sh h1 := by first | assumption | exact Rel.S (by assumption)) : JJ M M' av av' h := by
  subst e
  exact ⟨v, h1, h2, c, hs, m, nb, nl, nr, nt, nd, nj, np, r⟩
theorem shd_eq {a b c d : Int64} (h1 : a = c) (h2 : b = d) : shd a b = shd c d := by rw [h1, h2]
theorem i64z (x : Int64) : (0 : Int32).toInt64 * x = 0 := by rw [show (0 : Int32).toInt64 = 0 from rfl, Int64.zero_mul]
/-- the sum over the bases is the sum over eight, where what lies beyond is none -/
theorem wsum_ysum {f F A B : Nat → Int32} {n a d nb : Nat} (hF : ∀ b, b < n → f b = F (a + b)) (hA : ∀ b, b < n → A (b * 3 + d) = B (8 * d + b)) (g : Nat → Int32) (hg : ∀ b, b < n → g b = 0) : wsum f A d n = ysum F g B a d n := by
  induction n with
  | zero => rfl
  | succ n ih =>
    rw [wsum, ysum, ih (fun b hb => hF b (by omega)) (fun b hb => hA b (by omega)) (fun b hb => hg b (by omega)), hF n (by omega), hA n (by omega), hg n (by omega), Int32.add_zero]
theorem wsum_beyond {f A : Nat → Int32} {d nb : Nat} : ∀ {n : Nat}, nb ≤ n → (∀ b, nb ≤ b → b < n → f b = 0) → wsum f A d n = wsum f A d nb
  | 0, h, _ => by obtain rfl : nb = 0 := by omega
                  rfl
  | n + 1, h, hz => by
    by_cases e : nb = n + 1
    · subst e; rfl
    · rw [wsum, wsum_beyond (n := n) (by omega) (fun b h1 h2 => hz b h1 (by omega)), hz n (by omega) (by omega), i64z, Int64.add_zero]
/-- the shade of a row of units, by the class and by the model -/
theorem shade_eq {h : HF} {nb : Nat} (r : Ra h nb) (hno : ∀ b, b < 8 → gi h 169 b = 0) {f F : Nat → Int32} {a d : Nat} (hd : d < 3) (hF : ∀ b, b < 8 → f b = F (a + b)) (hz : ∀ b, b < 8 → nb ≤ b → F (a + b) = 0) : shof f (gi h 3) (gi h 4) d nb = ysh F (gi h 169) (gi h 133) (gi h 134) a d := by
  have hz' : ∀ b, nb ≤ b → b < 8 → f b = 0 := fun b h1 h2 => by rw [hF b h2]; exact hz b h2 h1
  rw [shof, ysh, ← wsum_beyond r.le hz', ← wsum_beyond r.le hz', wsum_ysum (nb := nb) hF (fun b hb => (r.A b d hb hd).1) _ hno, wsum_ysum (nb := nb) hF (fun b hb => (r.A b d hb hd).2) _ hno]
theorem shade_b {h : HF} {nb nl nr nt nd nj np : Nat} (r : Rel h nb nl nr nt nd nj np) {k d : Nat} (hk : k < 24) (hd : d < 3) : shof (gi h (41 + 3 * k + 1)) (gi h 3) (gi h 4) d nb = ysh (gi h 144) (gi h 169) (gi h 133) (gi h 134) (8 * k) d := by
  rw [show 41 + 3 * k + 1 = 42 + 3 * k by omega]
  exact shade_eq r.a r.f.no hd (r.d.K k hk).am (r.d.K k hk).zr
theorem shade_t {h : HF} {nb nl nr nt nd nj np : Nat} (r : Rel h nb nl nr nt nd nj np) {k d : Nat} (hk : k < 5) (hd : d < 3) : shof (gi h (113 + 4 * k + 1)) (gi h 3) (gi h 4) d nb = ysh (gi h 153) (gi h 169) (gi h 133) (gi h 134) (8 * k) d := by
  rw [show 113 + 4 * k + 1 = 114 + 4 * k by omega]
  exact shade_eq r.a r.f.no hd (r.f.K k hk).am (r.f.K k hk).zr
theorem J_left {h : HF} {nb nl nr nt nd nj np : Nat} (r : Rel h nb nl nr nt nd nj np) (l : Int32) : JJ mX9_left mX10_left [.ref 1, .int l] [.ref 132, .int l] h :=
  JJ_read r (c_X9_left r.S l nl r.b.c r.b.le) (c_X10_left r.S l nl r.b.m r.b.le) (by rw [r.b.S])
theorem J_may {h : HF} {nb nl nr nt nd nj np : Nat} (r : Rel h nb nl nr nt nd nj np) (b : Int32) : JJ mX9_may mX10_may [.ref 1, .int b] [.ref 132, .int b] h :=
  JJ_read r (c_X9_may r.S b nb r.a.c r.a.le nl r.b.c r.b.le) (c_X10_may r.S b nb r.a.m r.a.le nl r.b.m r.b.le) (by rw [r.b.S, r.b.B, r.b.L, r.b.day])
theorem J_resolved {h : HF} {nb nl nr nt nd nj np : Nat} (r : Rel h nb nl nr nt nd nj np) (x b : Int32) : JJ mX9_resolved mX10_resolved [.ref 1, .int x, .int b] [.ref 132, .int x, .int b] h :=
  JJ_read r (c_X9_resolved r.S x b nb r.a.c r.a.le nr r.c.c r.c.le) (c_X10_resolved r.S x b nb r.a.m r.a.le nr r.c.m r.c.le) (by rw [r.c.N])
theorem ltB_cl {v : Int32} {n : Nat} (hn : n < 2147483648) (h : ltB v (nI n) = true) : v.toNatClampNeg < n := by
  obtain ⟨j, hj, rfl⟩ := ltB_of hn h
  rw [nI_clamp (by omega)]; exact hj
theorem inB_cl {v : Int32} {n : Nat} (hn : n < 2147483648) (h : inB v 0 (nI n) = true) : v.toNatClampNeg < n + 1 := by
  obtain ⟨j, hj, rfl⟩ := inB_of hn h
  rw [nI_clamp (by omega)]; exact hj
theorem if_same {c : Prop} [Decidable c] {α : Type} {x x' y : α} (h : c → x = x') : (if c then x else y) = (if c then x' else y) := by
  by_cases hc : c
  · rw [if_pos hc, if_pos hc, h hc]
  · rw [if_neg hc, if_neg hc]
theorem if_same2 {c : Prop} [Decidable c] {α : Type} {x y y' : α} (h : ¬ c → y = y') : (if c then x else y) = (if c then x else y') := by
  by_cases hc : c
  · rw [if_pos hc, if_pos hc]
  · rw [if_neg hc, if_neg hc, h hc]
theorem J_drop {h : HF} {nb nl nr nt nd nj np : Nat} (r : Rel h nb nl nr nt nd nj np) (b : Int32) : JJ mX9_drop mX10_drop [.ref 1, .int b] [.ref 132, .int b] h :=
  JJ_read r (c_X9_drop r.S b nb r.a.c r.a.le) (c_X10_drop r.S b nb r.a.m r.a.le) (by
    unfold vDrop mDropV
    refine if_same (fun q => ?_)
    have hb := ltB_cl (by have := r.a.le; omega) q
    have hb8 : b.toNatClampNeg < 8 := by have := r.a.le; omega
    rw [r.e.be _ hb8]
    by_cases z : fI h 132 19 = 0
    · rw [if_pos z, r.e.z z _ hb8]
    · rw [if_neg z])
theorem J_amount {h : HF} {nb nl nr nt nd nj np : Nat} (r : Rel h nb nl nr nt nd nj np) (t b : Int32) : JJ mX9_amount mX10_amount [.ref 1, .int t, .int b] [.ref 132, .int t, .int b] h :=
  JJ_read r (c_X9_amount r.S t b nt r.d.c r.d.le nb r.a.c r.a.le) (c_X10_amount r.S t b nt r.d.m r.d.le nb r.a.m r.a.le) (by
    unfold vAmt
    refine if_same (fun q => if_same (fun q2 => ?_))
    have h1 := ltB_cl (by have := r.d.le; omega) q
    have h2 := ltB_cl (by have := r.a.le; omega) q2
    exact (r.d.K _ (by have := r.d.le; omega)).am _ (by have := r.a.le; omega))
theorem J_shade {h : HF} {nb nl nr nt nd nj np : Nat} (r : Rel h nb nl nr nt nd nj np) (t d : Int32) : JJ mX9_shade mX10_shade [.ref 1, .int t, .int d] [.ref 132, .int t, .int d] h :=
  JJ_read r (c_X9_shade r.S t d nt r.d.c r.d.le nb r.a.c r.a.le) (c_X10_shade r.S t d nt r.d.m r.d.le) (by
    unfold vShade
    refine if_same (fun q => if_same (fun q2 => ?_))
    have h1 := ltB_cl (by have := r.d.le; omega) q
    have h2 := inB_cl (n := 2) (by decide) q2
    have hk : t.toNatClampNeg < 24 := by have := r.d.le; omega
    simp only [(r.d.K _ hk).un]
    exact if_same2 (fun _ => shade_b r hk h2))
theorem absI_nn {x : Int32} (h : -1000000 ≤ x.toInt ∧ x.toInt ≤ 1000000) : 0 ≤ (absI x).toInt ∧ (absI x).toInt ≤ 1000000 := by
  rw [absI]
  split
  · rename_i q; have := Int32.le_iff_toInt_le.mp q; simp only [Int32.reduceToInt] at this; omega
  · rename_i q
    have := Int32.lt_iff_toInt_lt.mp (Int32.not_le.mp q)
    simp only [Int32.reduceToInt] at this
    have e : (-x).toInt = -x.toInt := by rw [Int32.toInt_neg]; exact Int.bmod_eq_of_le (by omega) (by omega)
    omega
theorem tI64_add {x y : Int64} (h1 : -9000000000000000000 ≤ x.toInt + y.toInt) (h2 : x.toInt + y.toInt ≤ 9000000000000000000) : (x + y).toInt = x.toInt + y.toInt := by
  rw [Int64.toInt_add]; exact Int.bmod_eq_of_le (by omega) (by omega)
theorem tI64_mul {x y : Int64} (h1 : -9000000000000000000 ≤ x.toInt * y.toInt) (h2 : x.toInt * y.toInt ≤ 9000000000000000000) : (x * y).toInt = x.toInt * y.toInt := by
  rw [Int64.toInt_mul]; exact Int.bmod_eq_of_le (by omega) (by omega)
theorem ysum_nn {F g B : Nat → Int32} {a d : Nat} : ∀ {n : Nat}, n ≤ 8 → (∀ b, b < n → 0 ≤ (F (a + b) + g b).toInt ∧ (F (a + b) + g b).toInt ≤ 100000) → (∀ b, b < n → 0 ≤ (B (8 * d + b)).toInt ∧ (B (8 * d + b)).toInt ≤ 1000) → 0 ≤ (ysum F g B a d n).toInt ∧ (ysum F g B a d n).toInt ≤ n * 100000000
  | 0, _, _, _ => by simp [ysum]
  | n + 1, hn, hF, hB => by
    obtain ⟨i1, i2⟩ := ysum_nn (n := n) (by omega) (fun b hb => hF b (by omega)) (fun b hb => hB b (by omega))
    obtain ⟨f1, f2⟩ := hF n (by omega)
    obtain ⟨b1, b2⟩ := hB n (by omega)
    have p1 : 0 ≤ (F (a + n) + g n).toInt * (B (8 * d + n)).toInt := Int.mul_nonneg f1 b1
    have p2 : (F (a + n) + g n).toInt * (B (8 * d + n)).toInt ≤ 100000 * 1000 := Int.mul_le_mul f2 b2 b1 (by omega)
    have e1 : ((F (a + n) + g n).toInt64 * (B (8 * d + n)).toInt64).toInt = (F (a + n) + g n).toInt * (B (8 * d + n)).toInt := by
      rw [tI64_mul] <;> rw [Int32.toInt_toInt64, Int32.toInt_toInt64] <;> omega
    rw [ysum, tI64_add (by rw [e1]; omega) (by rw [e1]; omega), e1]
    omega
theorem shd_rng {u l : Int64} (hu : 0 ≤ u.toInt ∧ u.toInt ≤ 1000000000000) (hl : 0 ≤ l.toInt) : 0 ≤ (shd u l).toInt ∧ (shd u l).toInt ≤ 1000000 := by
  by_cases h0 : l = 0
  · rw [shd, if_pos h0]; decide
  · rw [shd_v h0]
    have hlp : 0 < l.toInt := by
      rcases Int.lt_or_eq_of_le hl with q | q
      · exact q
      · exact absurd (Int64.toInt_inj.mp (q.symm.trans (by rfl))) h0
    have e1 : (1000 * u).toInt = 1000 * u.toInt := by
      rw [tI64_mul] <;> rw [show (1000 : Int64).toInt = 1000 from rfl] <;> omega
    have e2 : (1000 * u / l).toInt = (1000 * u.toInt).tdiv l.toInt := by
      rw [Int64.toInt_div, e1]
      have q1 : 0 ≤ (1000 * u.toInt).tdiv l.toInt := Int.tdiv_nonneg (by omega) hl
      have q2 : (1000 * u.toInt).tdiv l.toInt ≤ 1000 * u.toInt := Int.tdiv_le_self _ (by omega)
      exact Int.bmod_eq_of_le (by omega) (by omega)
    split
    · decide
    · rename_i q
      have q := Int64.le_iff_toInt_le.mp (Int64.not_lt.mp q)
      have q1 : 0 ≤ (1000 * u.toInt).tdiv l.toInt := Int.tdiv_nonneg (by omega) hl
      rw [show (1000000 : Int64).toInt = 1000000 from rfl, e2] at q
      rw [Int64.toInt_toInt32, e2, Int.bmod_eq_of_le (by omega) (by omega)]
      omega
