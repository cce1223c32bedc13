theorem wb_tb (n : Nat) : (lN n).toBitVec = BitVec.ofNat 64 n := rfl
theorem wb_inj {a b : Int64} (h : a.toBitVec = b.toBitVec) : a = b := Int64.toBitVec_inj.mp h
theorem wb_tn {n : Nat} (h : n < 2 ^ 64) : (lN n).toBitVec.toNat = n := by rw [wb_tb, BitVec.toNat_ofNat, Nat.mod_eq_of_lt h]
theorem wb_of (x : Int64) : ∃ n, n < 2 ^ 64 ∧ x = lN n := ⟨x.toBitVec.toNat, x.toBitVec.isLt, wb_inj (by rw [wb_tb]; simp)⟩
theorem wb_c : ∀ k, k < 64 → ((nI k).toInt64 &&& 63) = lN k := by decide +kernel
theorem wb_cu : ∀ k, k < 64 → ((nI k).toInt64.toUInt64 &&& Int64.toUInt64 63) = UInt64.ofNat k := by decide +kernel
theorem wb_shr {n k : Nat} (hn : n < 2 ^ 64) (hk : k < 64) : ((lN n).toUInt64 >>> ((nI k).toInt64.toUInt64 &&& Int64.toUInt64 63)).toInt64 = lN (n / 2 ^ k) := by
  rw [wb_cu k hk]
  apply wb_inj
  apply BitVec.eq_of_toNat_eq
  show ((lN n).toUInt64 >>> UInt64.ofNat k).toNat = (BitVec.ofNat 64 _).toNat
  have h1 : (UInt64.ofNat k).toNat = k := by
    show (BitVec.ofNat 64 k).toNat = k
    rw [BitVec.toNat_ofNat, Nat.mod_eq_of_lt (by omega)]
  have h2 : (lN n).toUInt64.toNat = n := wb_tn hn
  rw [UInt64.toNat_shiftRight, h1, h2, Nat.mod_eq_of_lt hk, Nat.shiftRight_eq_div_pow, BitVec.toNat_ofNat, Nat.mod_eq_of_lt (Nat.lt_of_le_of_lt (Nat.div_le_self _ _) hn)]
theorem pf_lI {a : Nat} (h : a < 2 ^ 63) : (lN a).toInt = (a : Int) := lg_ofNat_toInt h
theorem pf_shr {a d : Nat} {D : Int64} (hD : (D.toBitVec.smod 64).toNat = d) (h : a < 2 ^ 62) : lN a >>> D = lN (a / 2 ^ d) := by
  have hd : a / 2 ^ d ≤ a := Nat.div_le_self _ _
  apply Int64.toInt_inj.mp
  have e : (lN a >>> D).toInt = (lN a).toInt >>> d := by
    rw [← hD]
    exact BitVec.toInt_sshiftRight ..
  rw [e, Int.shiftRight_eq_div_pow, pf_lI (by omega), pf_lI (by omega)]
  rfl
theorem fb_andL (a b : Nat) : lN a &&& lN b = lN (a &&& b) := by
  apply Int64.toBitVec_inj.1
  show BitVec.ofNat 64 a &&& BitVec.ofNat 64 b = BitVec.ofNat 64 (a &&& b)
  apply BitVec.eq_of_getLsbD_eq
  intro i hi
  simp [hi]
theorem fb_orL (a b : Nat) : lN a ||| lN b = lN (a ||| b) := by
  apply Int64.toBitVec_inj.1
  show BitVec.ofNat 64 a ||| BitVec.ofNat 64 b = BitVec.ofNat 64 (a ||| b)
  apply BitVec.eq_of_getLsbD_eq
  intro i hi
  simp [hi]
theorem fb_lN_inj {a b : Nat} (ha : a < 2 ^ 63) (hb : b < 2 ^ 63) : lN a = lN b ↔ a = b := by
  constructor
  · intro h
    have h1 : (BitVec.ofNat 64 a).toNat = (BitVec.ofNat 64 b).toNat := congrArg (fun x : Int64 => x.toBitVec.toNat) h
    rw [BitVec.toNat_ofNat, BitVec.toNat_ofNat, Nat.mod_eq_of_lt (by omega), Nat.mod_eq_of_lt (by omega)] at h1
    exact h1
  · rintro rfl; rfl
theorem fb_bit_set (n j i : Nat) : (n ||| 2 ^ j).testBit i = (n.testBit i || decide (i = j)) := by
  rw [Nat.testBit_or]
  by_cases h : j = i
  · subst h; simp
  · have h2 : ¬ i = j := fun e => h e.symm
    first | (simp [Nat.testBit_two_pow, h, h2]; done) | (simp [Nat.testBit_two_pow_of_ne h, h2]; done)
theorem fa_and (a b : Nat) : nI a &&& nI b = nI (a &&& b) := by
  apply Int32.toBitVec_inj.1
  show BitVec.ofNat 32 a &&& BitVec.ofNat 32 b = BitVec.ofNat 32 (a &&& b)
  apply BitVec.eq_of_getLsbD_eq
  intro i hi
  simp [hi]
theorem fa_or (a b : Nat) : nI a ||| nI b = nI (a ||| b) := by
  apply Int32.toBitVec_inj.1
  show BitVec.ofNat 32 a ||| BitVec.ofNat 32 b = BitVec.ofNat 32 (a ||| b)
  apply BitVec.eq_of_getLsbD_eq
  intro i hi
  simp [hi]
theorem pf_sm : ∀ k, k < 64 → ((lN k).toBitVec.smod 64).toNat = k := by decide +kernel
theorem pf_sm3 : ∀ k, k < 32 → ((nI k &&& 31).toBitVec.smod 32).toNat = k := by decide +kernel
theorem lN1 (n : Nat) : lN n &&& 1 = lN (n % 2) := by
  rw [show (1 : Int64) = lN 1 from rfl, fb_andL, Nat.and_one_is_mod]
theorem nI1 (n : Nat) : nI n &&& 1 = nI (n % 2) := by
  rw [show (1 : Int32) = nI 1 from rfl, fa_and, Nat.and_one_is_mod]
theorem bL {n j : Nat} (hn : n < 2 ^ 62) (hj : j < 64) : (lN n >>> ((nI j).toInt64 &&& 63)) &&& 1 = lN (n / 2 ^ j % 2) := by
  rw [wb_c j hj, pf_shr (pf_sm j hj) hn, lN1]
theorem nI_tI {n : Nat} (h : n < 2 ^ 31) : (nI n).toInt = (n : Int) := Int32.toInt_ofNat_of_lt h
theorem bS {n j : Nat} (hn : n < 2 ^ 30) (hj : j < 32) : nI n >>> (nI j &&& 31) = nI (n / 2 ^ j) := by
  have hd : n / 2 ^ j ≤ n := Nat.div_le_self _ _
  apply Int32.toInt_inj.mp
  have e : (nI n >>> (nI j &&& 31)).toInt = (nI n).toInt >>> j := by
    have := pf_sm3 j hj
    conv => rhs; rw [← this]
    exact BitVec.toInt_sshiftRight ..
  rw [e, Int.shiftRight_eq_div_pow, nI_tI (by omega), nI_tI (by omega)]
  rfl
theorem bI {n j : Nat} (hn : n < 2 ^ 30) (hj : j < 32) : (nI n >>> (nI j &&& 31)) &&& 1 = nI (n / 2 ^ j % 2) := by
  rw [bS hn hj, nI1]
theorem nI_L {n : Nat} (h : n < 2 ^ 31) : (nI n).toInt64 = lN n := by
  apply Int64.toInt_inj.mp
  rw [Int32.toInt_toInt64, nI_tI h, pf_lI (by omega)]
theorem lN_I {n : Nat} (h : n < 2 ^ 31) : (lN n).toInt32 = nI n := by
  apply Int32.toInt_inj.mp
  rw [Int64.toInt_toInt32, nI_tI h, pf_lI (by omega)]
  exact Int.bmod_eq_of_le (by omega) (by omega)
/-- one bit of a long, as 0 or 1 -/
theorem bit01 (y : Int64) : (y &&& 1).toInt32 = b2 (!decide (y &&& 1 = 0)) := by
  obtain ⟨n, hn, rfl⟩ := wb_of y
  rw [lN1]
  have : n % 2 = 0 ∨ n % 2 = 1 := by omega
  rcases this with e | e <;> rw [e] <;> decide
theorem btB_L (x : Int64) (l : Int32) : ((x >>> (l.toInt64 &&& 63)) &&& 1).toInt32 = b2 (btB x l) := by rw [bit01]; rfl
theorem btB_I {n j : Nat} (hn : n < 2 ^ 24) (hj : j < 32) : (nI n >>> (nI j &&& 31)) &&& 1 = b2 (btB (nI n).toInt64 (nI j)) := by
  rw [← btB_L, nI_L (by omega), bL (by omega) (by omega), bI (by omega) hj, lN_I (by omega)]
theorem cnB_fsum {g : Nat → Bool} {f : Nat → Int32} : ∀ {n : Nat}, (∀ i, i < n → f i = b2 (g i)) → cnB g n = fsum f n
  | 0, _ => rfl
  | n + 1, h => by
    have ih := cnB_fsum (n := n) (fun i hi => h i (by omega))
    rw [fsum, ← ih, h n (by omega)]
    cases e : g n with
    | false => rw [cnB_f (by rw [e]; decide)]; exact (Int32.add_zero _).symm
    | true => rw [cnB_t e]; rfl
def bsum (n : Nat) : Nat → Nat
  | 0 => 0
  | j + 1 => bsum n j + n / 2 ^ j % 2
theorem mnB_eq {n : Nat} (hn : n < 2 ^ 62) : ∀ {k : Nat}, k ≤ 64 → mnB (lN n) k = nI (bsum n k)
  | 0, _ => rfl
  | k + 1, hk => by
    have ih := mnB_eq hn (k := k) (by omega)
    have : n / 2 ^ k % 2 = 0 ∨ n / 2 ^ k % 2 = 1 := by omega
    rcases this with e | e
    · rw [mnB_f (by rw [bL hn (by omega), e]; decide), ih, bsum, e]; rfl
    · rw [mnB_t (by rw [bL hn (by omega), e]; decide), ih, bsum, e, nI_1]
theorem bsum_split (n : Nat) : ∀ k : Nat, bsum n (8 + k) = bsum (n % 256) 8 + bsum (n / 256) k
  | 0 => by
    simp only [bsum, Nat.add_zero]
    omega
  | k + 1 => by
    rw [← Nat.add_assoc, show bsum n (8 + k + 1) = bsum n (8 + k) + n / 2 ^ (8 + k) % 2 from rfl, bsum_split n k, show bsum (n / 256) (k + 1) = bsum (n / 256) k + n / 256 / 2 ^ k % 2 from rfl, Nat.pow_add, ← Nat.div_div_eq_div_mul, Nat.add_assoc]
theorem land_split {a b r s : Nat} (ha : a < 256) (hb : b < 256) : (a + 256 * r) &&& (b + 256 * s) = (a &&& b) + 256 * (r &&& s) := by
  have e : ∀ x y : Nat, x + 256 * y = 2 ^ 8 * y + x := fun x y => by omega
  have hab : (a &&& b) < 2 ^ 8 := Nat.and_lt_two_pow _ hb
  rw [e, e, e]
  apply Nat.eq_of_testBit_eq
  intro i
  rw [Nat.testBit_and, Nat.testBit_two_pow_mul_add _ ha, Nat.testBit_two_pow_mul_add _ hb, Nat.testBit_two_pow_mul_add _ hab]
  by_cases hi : i < 8
  · simp [hi, Nat.testBit_and]
  · simp [hi, Nat.testBit_and]
def mk (c : Nat) : Nat → Nat
  | 0 => 0
  | k + 1 => c + 256 * mk c k
def q1 (k n : Nat) : Nat := n - (n / 2 &&& mk 85 k)
def q2 (k n : Nat) : Nat := (n &&& mk 51 k) + (n / 4 &&& mk 51 k)
def q3 (k n : Nat) : Nat := (n + n / 16) &&& mk 15 k
theorem q1_s {k a r : Nat} (ha : a < 256) : q1 (k + 1) (a + 256 * r) = (a - (a / 2 &&& 85)) + 256 * q1 k r := by
  have e : (a + 256 * r) / 2 = (a / 2 + 128 * (r % 2)) + 256 * (r / 2) := by omega
  have e2 : ∀ (a : Fin 256) (c : Fin 2), (a.val / 2 + 128 * c.val) &&& 85 = a.val / 2 &&& 85 := by decide +kernel
  have h1 : a / 2 &&& 85 ≤ a / 2 := Nat.and_le_left
  have h2 : r / 2 &&& mk 85 k ≤ r / 2 := Nat.and_le_left
  rw [q1, e, mk, land_split (by omega) (by decide), e2 ⟨a, ha⟩ ⟨r % 2, by omega⟩, q1]
  simp only
  omega
theorem q2_s {k a r : Nat} (ha : a < 256) : q2 (k + 1) (a + 256 * r) = ((a &&& 51) + (a / 4 &&& 51)) + 256 * q2 k r := by
  have e : (a + 256 * r) / 4 = (a / 4 + 64 * (r % 4)) + 256 * (r / 4) := by omega
  have e2 : ∀ (a : Fin 256) (c : Fin 4), (a.val / 4 + 64 * c.val) &&& 51 = a.val / 4 &&& 51 := by decide +kernel
  rw [q2, e, mk, land_split ha (by decide), land_split (by omega) (by decide), e2 ⟨a, ha⟩ ⟨r % 4, by omega⟩, q2]
  simp only
  omega
theorem q3_s {k a r : Nat} (ha : a < 72) (hr : r % 16 ≤ 4) : q3 (k + 1) (a + 256 * r) = ((a + a / 16) &&& 15) + 256 * q3 k r := by
  have e : a + 256 * r + (a + 256 * r) / 16 = (a + a / 16 + 16 * (r % 16)) + 256 * (r + r / 16) := by omega
  have e2 : ∀ (a : Fin 72) (c : Fin 5), (a.val + a.val / 16 + 16 * c.val) &&& 15 = (a.val + a.val / 16) &&& 15 := by decide +kernel
  rw [q3, e, mk, land_split (by omega) (by decide), e2 ⟨a, ha⟩ ⟨r % 16, by omega⟩, q3]
def c12 (a : Nat) : Nat := ((a - (a / 2 &&& 85)) &&& 51) + ((a - (a / 2 &&& 85)) / 4 &&& 51)
theorem c12_b : ∀ a : Fin 256, c12 a.val < 72 ∧ c12 a.val % 16 ≤ 4 ∧ a.val - (a.val / 2 &&& 85) < 256 ∧ ((c12 a.val + c12 a.val / 16) &&& 15) = bsum a.val 8 ∧ bsum a.val 8 ≤ 8 := by decide +kernel
theorem q12_s {k a r : Nat} (ha : a < 256) : q2 (k + 1) (q1 (k + 1) (a + 256 * r)) = c12 a + 256 * q2 k (q1 k r) := by
  rw [q1_s ha, q2_s (c12_b ⟨a, ha⟩).2.2.1]; rfl
def pcs : Nat → Nat → Nat
  | 0, _ => 0
  | k + 1, n => bsum (n % 256) 8 + 256 * pcs k (n / 256)
theorem q12_n : ∀ (k n : Nat), n < 256 ^ k → q2 k (q1 k n) % 16 ≤ 4
  | 0, n, h => by obtain rfl : n = 0 := by simpa using h
                  decide
  | k + 1, n, h => by
    rw [show n = n % 256 + 256 * (n / 256) by omega, q12_s (by omega)]
    have := (c12_b ⟨n % 256, by omega⟩).2.1
    simp only at this
    omega
theorem q_all : ∀ (k n : Nat), n < 256 ^ k → q3 k (q2 k (q1 k n)) = pcs k n
  | 0, n, h => by obtain rfl : n = 0 := by simpa using h
                  rfl
  | k + 1, n, h => by
    have hq : n / 256 < 256 ^ k := Nat.div_lt_of_lt_mul (by rw [Nat.pow_succ, Nat.mul_comm] at h; exact h)
    have hb := c12_b ⟨n % 256, by omega⟩
    have e : q3 (k + 1) (q2 (k + 1) (q1 (k + 1) (n % 256 + 256 * (n / 256)))) = bsum (n % 256) 8 + 256 * pcs k (n / 256) := by
      rw [q12_s (by omega), q3_s hb.1 (q12_n k _ hq), q_all k _ hq, hb.2.2.2.1]
    rw [show n % 256 + 256 * (n / 256) = n by omega] at e
    rw [e, pcs]
theorem us64_n {n k : Nat} (hn : n < 2 ^ 62) (hk : k < 64) : us64 (lN n) (nI k) = lN (n / 2 ^ k) := wb_shr (by omega) hk
theorem u64_1 {n : Nat} (hn : n < 2 ^ 62) : us64 (lN n) 1 = lN (n / 2) := us64_n (k := 1) hn (by decide)
theorem u64_2 {n : Nat} (hn : n < 2 ^ 62) : us64 (lN n) 2 = lN (n / 4) := us64_n (k := 2) hn (by decide)
theorem u64_4 {n : Nat} (hn : n < 2 ^ 62) : us64 (lN n) 4 = lN (n / 16) := us64_n (k := 4) hn (by decide)
theorem u64_8 {n : Nat} (hn : n < 2 ^ 62) : us64 (lN n) 8 = lN (n / 256) := us64_n (k := 8) hn (by decide)
theorem u64_16 {n : Nat} (hn : n < 2 ^ 62) : us64 (lN n) 16 = lN (n / 65536) := us64_n (k := 16) hn (by decide)
theorem u64_32 {n : Nat} (hn : n < 2 ^ 62) : us64 (lN n) 32 = lN (n / 4294967296) := us64_n (k := 32) hn (by decide)
theorem jN_sub {a b : Nat} (h : b ≤ a) (ha : a < 2 ^ 62) : lN a - lN b = lN (a - b) := by
  apply Int64.toInt_inj.mp
  rw [Int64.toInt_sub, pf_lI (by omega), pf_lI (by omega), pf_lI (by omega), Int.bmod_eq_of_le (by omega) (by omega)]
  omega
theorem jN_add {a b : Nat} (ha : a < 2 ^ 61) (hb : b < 2 ^ 61) : lN a + lN b = lN (a + b) := by
  apply Int64.toInt_inj.mp
  rw [Int64.toInt_add, pf_lI (by omega), pf_lI (by omega), pf_lI (by omega), Int.bmod_eq_of_le (by omega) (by omega)]
  omega
theorem bcJ_eq {n : Nat} (hn : n < 2 ^ 40) : bcJ (lN n) = nI (bsum n 40) := by
  have hA : n / 2 &&& mk 85 8 ≤ n / 2 := Nat.and_le_left
  have e1 : bd1 (lN n) = lN (q1 8 n) := by
    rw [bd1, u64_1 (by omega), show (6148914691236517205 : Int64) = lN (mk 85 8) from by decide, fb_andL, jN_sub (by omega) (by omega)]; rfl
  have l1 : q1 8 n ≤ n := Nat.sub_le _ _
  have hB : q1 8 n &&& mk 51 8 ≤ q1 8 n := Nat.and_le_left
  have hC : q1 8 n / 4 &&& mk 51 8 ≤ q1 8 n / 4 := Nat.and_le_left
  have e2 : bd2 (lN (q1 8 n)) = lN (q2 8 (q1 8 n)) := by
    rw [bd2, u64_2 (by omega), show (3689348814741910323 : Int64) = lN (mk 51 8) from by decide, fb_andL, fb_andL, jN_add (by omega) (by omega)]; rfl
  have l2 : q2 8 (q1 8 n) ≤ 2 * n := by rw [q2]; omega
  have e3 : bd3 (lN (q2 8 (q1 8 n))) = lN (q3 8 (q2 8 (q1 8 n))) := by
    rw [bd3, u64_4 (by omega), show (1085102592571150095 : Int64) = lN (mk 15 8) from by decide, jN_add (by omega) (by omega), fb_andL]; rfl
  rw [q_all 8 n (by rw [show (256 : Nat) ^ 8 = 2 ^ 64 from rfl]; omega)] at e3
  have hz : ∀ m : Nat, m = 0 → bsum m 8 = 0 := fun m e => by subst e; rfl
  have y0 : pcs 8 n = bsum (n % 256) 8 + 256 * bsum (n / 256 % 256) 8 + 65536 * bsum (n / 65536 % 256) 8 + 16777216 * bsum (n / 16777216 % 256) 8 + 4294967296 * bsum (n / 4294967296 % 256) 8 := by
    simp only [pcs, Nat.div_div_eq_div_mul, Nat.reduceMul]
    rw [hz (n / 1099511627776 % 256) (by omega), hz (n / 281474976710656 % 256) (by omega), hz (n / 72057594037927936 % 256) (by omega)]
    omega
  have bs : bsum n 40 = bsum (n % 256) 8 + bsum (n / 256 % 256) 8 + bsum (n / 65536 % 256) 8 + bsum (n / 16777216 % 256) 8 + bsum (n / 4294967296 % 256) 8 := by
    rw [show 40 = 8 + 32 from rfl, bsum_split, show 32 = 8 + 24 from rfl, bsum_split, show 24 = 8 + 16 from rfl, bsum_split, show 16 = 8 + 8 from rfl, bsum_split]
    simp only [Nat.div_div_eq_div_mul, Nat.reduceMul]
    rw [show n / 4294967296 = n / 4294967296 % 256 by omega]
    simp only [Nat.mod_mod]
    omega
  have b0 := (c12_b ⟨n % 256, by omega⟩).2.2.2.2
  have b1 := (c12_b ⟨n / 256 % 256, by omega⟩).2.2.2.2
  have b2' := (c12_b ⟨n / 65536 % 256, by omega⟩).2.2.2.2
  have b3 := (c12_b ⟨n / 16777216 % 256, by omega⟩).2.2.2.2
  have b4 := (c12_b ⟨n / 4294967296 % 256, by omega⟩).2.2.2.2
  simp only at b0 b1 b2' b3 b4
  rw [bcJ, e1, e2, e3, y0, bs]
  generalize bsum (n % 256) 8 = p0 at *
  generalize bsum (n / 256 % 256) 8 = p1 at *
  generalize bsum (n / 65536 % 256) 8 = p2 at *
  generalize bsum (n / 16777216 % 256) 8 = p3 at *
  generalize bsum (n / 4294967296 % 256) 8 = p4 at *
  have hy : ∃ y, y = p0 + 256 * p1 + 65536 * p2 + 16777216 * p3 + 4294967296 * p4 := ⟨_, rfl⟩
  obtain ⟨y, hy⟩ := hy
  rw [← hy]
  have e4 : bd4 (lN y) = lN (y + y / 256) := by rw [bd4, u64_8 (by omega), jN_add (by omega) (by omega)]
  have e5 : bd5 (lN (y + y / 256)) = lN (y + y / 256 + (y + y / 256) / 65536) := by rw [bd5, u64_16 (by omega), jN_add (by omega) (by omega)]
  have hw : ∃ w, w = y + y / 256 + (y + y / 256) / 65536 := ⟨_, rfl⟩
  obtain ⟨w, hw⟩ := hw
  rw [e4, e5, ← hw]
  have e6 : bd6 (lN w) = lN (w + w / 4294967296) := by rw [bd6, u64_32 (by omega), jN_add (by omega) (by omega)]
  rw [e6]
  have e7 : (lN (w + w / 4294967296)).toInt32 &&& 127 = nI ((w + w / 4294967296) % 128) := by
    apply Int32.toBitVec_inj.1
    rw [Int32.toBitVec_and, show (lN (w + w / 4294967296)).toInt32.toBitVec = (BitVec.ofNat 64 (w + w / 4294967296)).signExtend 32 from rfl, BitVec.signExtend_eq_setWidth_of_le _ (by decide), show (nI ((w + w / 4294967296) % 128)).toBitVec = BitVec.ofNat 32 ((w + w / 4294967296) % 128) from rfl, show (127 : Int32).toBitVec = 127#32 from rfl]
    apply BitVec.eq_of_toNat_eq
    rw [BitVec.toNat_and, BitVec.toNat_setWidth, BitVec.toNat_ofNat, BitVec.toNat_ofNat, BitVec.toNat_ofNat, show 127 % 2 ^ 32 = 2 ^ 7 - 1 from rfl, Nat.and_two_pow_sub_one_eq_mod]
    omega
  rw [e7]
  congr 1
  have d1 : y / 256 = p1 + 256 * p2 + 65536 * p3 + 16777216 * p4 := by rw [hy]; omega
  have d2 : y + y / 256 = (p0 + p1) + 256 * (p1 + p2) + 65536 * (p2 + p3 + 256 * (p3 + p4) + 65536 * p4) := by rw [d1, hy]; omega
  have d3 : (y + y / 256) / 65536 = p2 + p3 + 256 * (p3 + p4) + 65536 * p4 := by rw [d2]; omega
  have d4 : w = (p0 + p1 + p2 + p3) + 256 * (p1 + p2 + p3 + p4) + 65536 * (p2 + p3 + p4) + 16777216 * (p3 + p4) + 4294967296 * p4 := by rw [hw, d3, d2]; omega
  have d5 : w / 4294967296 = p4 := by rw [d4]; omega
  rw [d5, d4]
  omega
theorem us32_n {n k : Nat} (hn : n < 2 ^ 30) (hk : k < 32) : us32 (nI n) (nI k) = nI (n / 2 ^ k) := by
  have hc : ∀ j, j < 32 → ((nI j).toUInt32 &&& Int32.toUInt32 31) = UInt32.ofNat j := by decide +kernel
  rw [us32, hc k hk]
  apply Int32.toBitVec_inj.1
  apply BitVec.eq_of_toNat_eq
  show ((nI n).toUInt32 >>> UInt32.ofNat k).toNat = (BitVec.ofNat 32 _).toNat
  have h1 : (UInt32.ofNat k).toNat = k := by
    show (BitVec.ofNat 32 k).toNat = k
    rw [BitVec.toNat_ofNat, Nat.mod_eq_of_lt (by omega)]
  have h2 : (nI n).toUInt32.toNat = n := by
    show (BitVec.ofNat 32 n).toNat = n
    rw [BitVec.toNat_ofNat, Nat.mod_eq_of_lt (by omega)]
  rw [UInt32.toNat_shiftRight, h1, h2, Nat.mod_eq_of_lt hk, Nat.shiftRight_eq_div_pow, BitVec.toNat_ofNat, Nat.mod_eq_of_lt (Nat.lt_of_le_of_lt (Nat.div_le_self _ _) (by omega))]
theorem u32_1 {n : Nat} (hn : n < 2 ^ 30) : us32 (nI n) 1 = nI (n / 2) := us32_n (k := 1) hn (by decide)
theorem u32_2 {n : Nat} (hn : n < 2 ^ 30) : us32 (nI n) 2 = nI (n / 4) := us32_n (k := 2) hn (by decide)
theorem u32_4 {n : Nat} (hn : n < 2 ^ 30) : us32 (nI n) 4 = nI (n / 16) := us32_n (k := 4) hn (by decide)
theorem u32_8 {n : Nat} (hn : n < 2 ^ 30) : us32 (nI n) 8 = nI (n / 256) := us32_n (k := 8) hn (by decide)
theorem u32_16 {n : Nat} (hn : n < 2 ^ 30) : us32 (nI n) 16 = nI (n / 65536) := us32_n (k := 16) hn (by decide)
theorem nI_sub' {a b : Nat} (h : b ≤ a) (ha : a < 2 ^ 30) : nI a - nI b = nI (a - b) := by
  apply Int32.toInt_inj.mp
  rw [Int32.toInt_sub, nI_tI (by omega), nI_tI (by omega), nI_tI (by omega), Int.bmod_eq_of_le (by omega) (by omega)]
  omega
theorem bcI_eq {n : Nat} (hn : n < 2 ^ 24) : bcI (nI n) = nI (bsum n 40) := by
  have hA : n / 2 &&& mk 85 4 ≤ n / 2 := Nat.and_le_left
  have e1 : bc1 (nI n) = nI (q1 4 n) := by
    rw [bc1, u32_1 (by omega), show (1431655765 : Int32) = nI (mk 85 4) from by decide, fa_and, nI_sub' (by omega) (by omega)]; rfl
  have l1 : q1 4 n ≤ n := Nat.sub_le _ _
  have hB : q1 4 n &&& mk 51 4 ≤ q1 4 n := Nat.and_le_left
  have hC : q1 4 n / 4 &&& mk 51 4 ≤ q1 4 n / 4 := Nat.and_le_left
  have e2 : bc2 (nI (q1 4 n)) = nI (q2 4 (q1 4 n)) := by
    rw [bc2, u32_2 (by omega), show (858993459 : Int32) = nI (mk 51 4) from by decide, fa_and, fa_and, nI_add]; rfl
  have l2 : q2 4 (q1 4 n) ≤ 2 * n := by rw [q2]; omega
  have e3 : bc3 (nI (q2 4 (q1 4 n))) = nI (q3 4 (q2 4 (q1 4 n))) := by
    rw [bc3, u32_4 (by omega), show (252645135 : Int32) = nI (mk 15 4) from by decide, nI_add, fa_and]; rfl
  rw [q_all 4 n (by rw [show (256 : Nat) ^ 4 = 2 ^ 32 from rfl]; omega)] at e3
  have hz : ∀ m : Nat, m = 0 → bsum m 8 = 0 := fun m e => by subst e; rfl
  have y0 : pcs 4 n = bsum (n % 256) 8 + 256 * bsum (n / 256 % 256) 8 + 65536 * bsum (n / 65536 % 256) 8 := by
    simp only [pcs, Nat.div_div_eq_div_mul, Nat.reduceMul]
    rw [hz (n / 16777216 % 256) (by omega)]
    omega
  have bs : bsum n 40 = bsum (n % 256) 8 + bsum (n / 256 % 256) 8 + bsum (n / 65536 % 256) 8 := by
    rw [show 40 = 8 + 32 from rfl, bsum_split, show 32 = 8 + 24 from rfl, bsum_split, show 24 = 8 + 16 from rfl, bsum_split, show 16 = 8 + 8 from rfl, bsum_split]
    simp only [Nat.div_div_eq_div_mul, Nat.reduceMul]
    rw [hz (n / 16777216 % 256) (by omega), hz (n / 4294967296) (by omega)]
    omega
  have b0 := (c12_b ⟨n % 256, by omega⟩).2.2.2.2
  have b1 := (c12_b ⟨n / 256 % 256, by omega⟩).2.2.2.2
  have b2' := (c12_b ⟨n / 65536 % 256, by omega⟩).2.2.2.2
  simp only at b0 b1 b2'
  rw [bcI, e1, e2, e3, y0, bs]
  generalize bsum (n % 256) 8 = p0 at *
  generalize bsum (n / 256 % 256) 8 = p1 at *
  generalize bsum (n / 65536 % 256) 8 = p2 at *
  have hy : ∃ y, y = p0 + 256 * p1 + 65536 * p2 := ⟨_, rfl⟩
  obtain ⟨y, hy⟩ := hy
  rw [← hy]
  rw [bc4, u32_8 (by omega), nI_add, bc5, u32_16 (by omega), nI_add, show (63 : Int32) = nI (2 ^ 6 - 1) from rfl, fa_and, Nat.and_two_pow_sub_one_eq_mod]
  congr 1
  have d1 : y / 256 = p1 + 256 * p2 := by rw [hy]; omega
  have d2 : y + y / 256 = (p0 + p1) + 256 * (p1 + p2) + 65536 * p2 := by rw [d1, hy]; omega
  have d3 : (y + y / 256) / 65536 = p2 := by rw [d2]; omega
  rw [d3, d2]
  omega
