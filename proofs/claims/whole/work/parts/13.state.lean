/-! The state: cells read and written by their kinds; a shape that no call changes. -/
def fI (h : HF) (a k : Nat) : Int32 := match h a with
  | .inr (_, fs) => (match fs.getD k .null with
    | .int x => x
    | _ => 0)
  | _ => 0
def fJ (h : HF) (a k : Nat) : Int64 := match h a with
  | .inr (_, fs) => (match fs.getD k .null with
    | .long x => x
    | _ => 0)
  | _ => 0
def gi (h : HF) (a : Nat) : Nat → Int32 := match h a with
  | .inl (_, _, .inl f) => f
  | _ => fun _ => 0
def gl (h : HF) (a : Nat) : Nat → Int64 := match h a with
  | .inl (_, _, .inr (.inl f)) => f
  | _ => fun _ => 0
def stI : List Value → Nat → Int32 → List Value
  | [], _, _ => []
  | a :: l, 0, v => (match a with
    | .int _ => .int v
    | w => w) :: l
  | a :: l, k + 1, v => a :: stI l k v
def stJ : List Value → Nat → Int64 → List Value
  | [], _, _ => []
  | a :: l, 0, v => (match a with
    | .long _ => .long v
    | w => w) :: l
  | a :: l, k + 1, v => a :: stJ l k v
def cI (c : CE) (k : Nat) (v : Int32) : CE := match c with
  | .inr (ci, fs) => .inr (ci, stI fs k v)
  | c => c
def cJ (c : CE) (k : Nat) (v : Int64) : CE := match c with
  | .inr (ci, fs) => .inr (ci, stJ fs k v)
  | c => c
def ci (c : CE) (f : Nat → Int32) : CE := match c with
  | .inl (t, N, .inl _) => .inl (t, N, .inl f)
  | c => c
def cl (c : CE) (f : Nat → Int64) : CE := match c with
  | .inl (t, N, .inr (.inl _)) => .inl (t, N, .inr (.inl f))
  | c => c
def sI (h : HF) (a k : Nat) (v : Int32) : HF := hu h a (cI (h a) k v)
def sJ (h : HF) (a k : Nat) (v : Int64) : HF := hu h a (cJ (h a) k v)
def si (h : HF) (a : Nat) (f : Nat → Int32) : HF := hu h a (ci (h a) f)
def sl (h : HF) (a : Nat) (f : Nat → Int64) : HF := hu h a (cl (h a) f)
def erv (v : Value) : Value := match v with
  | .int _ => .int 0
  | .long _ => .long 0
  | w => w
def shp (c : CE) : CE := match c with
  | .inl (t, N, .inl _) => .inl (t, N, .inl (fun _ => 0))
  | .inl (t, N, .inr (.inl _)) => .inl (t, N, .inr (.inl (fun _ => 0)))
  | .inl x => .inl x
  | .inr (ci, fs) => .inr (ci, fs.map erv)
theorem erv_stI : ∀ (fs : List Value) (k : Nat) (v : Int32), (stI fs k v).map erv = fs.map erv
  | [], _, _ => rfl
  | a :: l, 0, v => by cases a <;> rfl
  | a :: l, k + 1, v => by simp only [stI, List.map_cons, erv_stI l k v]
theorem erv_stJ : ∀ (fs : List Value) (k : Nat) (v : Int64), (stJ fs k v).map erv = fs.map erv
  | [], _, _ => rfl
  | a :: l, 0, v => by cases a <;> rfl
  | a :: l, k + 1, v => by simp only [stJ, List.map_cons, erv_stJ l k v]
theorem shp_cI (c : CE) (k : Nat) (v : Int32) : shp (cI c k v) = shp c := by
  rcases c with ⟨t, N, f | f | f | f | f⟩ | ⟨ci, fs⟩ <;> simp [cI, shp, erv_stI]
theorem shp_cJ (c : CE) (k : Nat) (v : Int64) : shp (cJ c k v) = shp c := by
  rcases c with ⟨t, N, f | f | f | f | f⟩ | ⟨ci, fs⟩ <;> simp [cJ, shp, erv_stJ]
theorem shp_ci (c : CE) (g : Nat → Int32) : shp (ci c g) = shp c := by
  rcases c with ⟨t, N, f | f | f | f | f⟩ | ⟨ci, fs⟩ <;> rfl
theorem shp_cl (c : CE) (g : Nat → Int64) : shp (cl c g) = shp c := by
  rcases c with ⟨t, N, f | f | f | f | f⟩ | ⟨ci, fs⟩ <;> rfl
def fil (h : HF) (a : Nat) : Nat → List Value → List Value
  | _, [] => []
  | i, .int _ :: l => .int (fI h a i) :: fil h a (i + 1) l
  | i, .long _ :: l => .long (fJ h a i) :: fil h a (i + 1) l
  | i, v :: l => v :: fil h a (i + 1) l
theorem fil_eq (h : HF) (a ci : Nat) : ∀ (l pre : List Value), h a = .inr (ci, pre ++ l) → fil h a pre.length (l.map erv) = l
  | [], _, _ => rfl
  | v :: l, pre, e => by
    have ih := fil_eq h a ci l (pre ++ [v]) (by rw [e]; simp)
    rw [List.length_append] at ih
    have hg : (pre ++ v :: l).getD pre.length .null = v := by simp
    cases v with
    | int x =>
      have h1 : fI h a pre.length = x := by simp only [fI, e, hg]
      simp only [List.map_cons, erv, fil, h1]
      exact congrArg _ ih
    | long x =>
      have h1 : fJ h a pre.length = x := by simp only [fJ, e, hg]
      simp only [List.map_cons, erv, fil, h1]
      exact congrArg _ ih
    | _ =>
      simp only [List.map_cons, erv, fil]
      exact congrArg _ ih
def rB (j : Nat) : Option Nat := cond (Nat.ble j 23) (some (40 + 3 * j)) none
def rT (j : Nat) : Option Nat := cond (Nat.ble j 4) (some (112 + 4 * j)) none
def lkc : List CE → Nat → CE
  | [], _ => .inr (0, [])
  | c :: _, 0 => c
  | _ :: l, k + 1 => lkc l k
def shA : List CE := [.inr (9, [.ref 2, .ref 5, .ref 9, .ref 16, .int 0, .ref 17, .ref 24, .ref 25, .ref 31, .ref 39, .int 0, .int 0]),
  .inr (5, [.ref 3, .ref 4, .int 0]),
  .inl (0, 24, .inl (fun _ => 0)),
  .inl (0, 24, .inl (fun _ => 0)),
  .inr (7, [.ref 6, .ref 7, .ref 8, .int 0, .int 0]),
  .inl (0, 40, .inl (fun _ => 0)),
  .inl (0, 40, .inl (fun _ => 0)),
  .inl (0, 40, .inl (fun _ => 0)),
  .inr (1, [.ref 10, .ref 11, .ref 12, .ref 13, .ref 14, .ref 15, .int 0]),
  .inl (1, 72, .inl (fun _ => 0)),
  .inl (0, 72, .inl (fun _ => 0)),
  .inl (0, 72, .inl (fun _ => 0)),
  .inl (0, 12, .inl (fun _ => 0)),
  .inl (0, 96, .inl (fun _ => 0)),
  .inl (0, 96, .inl (fun _ => 0)),
  .inl (3, 24, .inr (.inr (.inr (.inr rB)))),
  .inr (2, [.ref 18, .int 0, .int 0, .int 0, .ref 19, .ref 20, .ref 21, .int 0, .int 0, .ref 22, .ref 23]),
  .inl (0, 8, .inl (fun _ => 0)),
  .inl (0, 3, .inl (fun _ => 0)),
  .inl (0, 8, .inl (fun _ => 0)),
  .inl (0, 8, .inl (fun _ => 0)),
  .inl (2, 3, .inr (.inl (fun _ => 0))),
  .inl (2, 3, .inr (.inl (fun _ => 0))),
  .inl (4, 5, .inr (.inr (.inr (.inr rT)))),
  .inr (3, [.ref 26, .ref 27, .ref 28, .ref 29, .ref 30, .int 0]),
  .inl (0, 100, .inl (fun _ => 0)),
  .inl (0, 100, .inl (fun _ => 0)),
  .inl (0, 100, .inl (fun _ => 0)),
  .inl (0, 100, .inl (fun _ => 0)),
  .inl (2, 100, .inr (.inl (fun _ => 0))),
  .inr (6, [.ref 32, .ref 33, .ref 34, .ref 35, .int 0, .ref 36, .ref 37, .ref 38, .int 0]),
  .inl (0, 8, .inl (fun _ => 0)),
  .inl (0, 8, .inl (fun _ => 0)),
  .inl (0, 8, .inl (fun _ => 0)),
  .inl (0, 8, .inl (fun _ => 0)),
  .inl (0, 36, .inl (fun _ => 0)),
  .inl (0, 1536, .inl (fun _ => 0)),
  .inl (0, 8, .inl (fun _ => 0)),
  .inl (0, 8, .inl (fun _ => 0))]
def shM : List CE := [.inr (10, [.int 0, .int 0, .ref 133, .ref 134, .int 0, .ref 135, .ref 136, .ref 137, .int 0, .ref 138, .ref 139, .ref 140, .ref 141, .ref 142, .ref 143, .int 0, .ref 144, .ref 145, .ref 146, .int 0, .ref 147, .ref 148, .ref 149, .ref 150, .ref 151, .ref 152, .ref 153, .ref 154, .ref 155, .ref 156, .int 0, .int 0, .ref 157, .ref 158, .ref 159, .ref 160, .ref 161, .int 0, .int 0, .ref 162, .ref 163, .ref 164, .ref 165, .ref 166, .int 0, .ref 167, .ref 168, .ref 169, .ref 170]),
  .inl (0, 24, .inl (fun _ => 0)),
  .inl (0, 24, .inl (fun _ => 0)),
  .inl (0, 40, .inl (fun _ => 0)),
  .inl (0, 40, .inl (fun _ => 0)),
  .inl (0, 40, .inl (fun _ => 0)),
  .inl (0, 12, .inl (fun _ => 0)),
  .inl (1, 72, .inl (fun _ => 0)),
  .inl (0, 72, .inl (fun _ => 0)),
  .inl (0, 72, .inl (fun _ => 0)),
  .inl (0, 96, .inl (fun _ => 0)),
  .inl (0, 96, .inl (fun _ => 0)),
  .inl (0, 192, .inl (fun _ => 0)),
  .inl (2, 24, .inr (.inl (fun _ => 0))),
  .inl (1, 24, .inl (fun _ => 0)),
  .inl (0, 8, .inl (fun _ => 0)),
  .inl (0, 8, .inl (fun _ => 0)),
  .inl (0, 5, .inl (fun _ => 0)),
  .inl (0, 5, .inl (fun _ => 0)),
  .inl (1, 5, .inl (fun _ => 0)),
  .inl (1, 5, .inl (fun _ => 0)),
  .inl (0, 40, .inl (fun _ => 0)),
  .inl (2, 5, .inr (.inl (fun _ => 0))),
  .inl (0, 5, .inl (fun _ => 0)),
  .inl (0, 15, .inl (fun _ => 0)),
  .inl (0, 100, .inl (fun _ => 0)),
  .inl (0, 100, .inl (fun _ => 0)),
  .inl (0, 100, .inl (fun _ => 0)),
  .inl (2, 100, .inr (.inl (fun _ => 0))),
  .inl (0, 100, .inl (fun _ => 0)),
  .inl (0, 8, .inl (fun _ => 0)),
  .inl (0, 8, .inl (fun _ => 0)),
  .inl (0, 8, .inl (fun _ => 0)),
  .inl (0, 8, .inl (fun _ => 0)),
  .inl (0, 36, .inl (fun _ => 0)),
  .inl (0, 8, .inl (fun _ => 0)),
  .inl (0, 2304, .inl (fun _ => 0)),
  .inl (0, 8, .inl (fun _ => 0)),
  .inl (0, 8, .inl (fun _ => 0))]
def shBr (r a : Nat) : CE := match r with
  | 0 => .inr (0, [.ref (a + 1), .int 0])
  | 1 => .inr (4, [.ref (a + 1), .int 0, .long 0])
  | _ => .inl (0, 8, .inl (fun _ => 0))
def shB (a : Nat) : CE := shBr ((a - 40) % 3) a
def shKr (r a : Nat) : CE := match r with
  | 0 => .inr (8, [.ref (a + 1), .ref (a + 3), .int 0, .int 0, .int 0, .int 0, .int 0])
  | 1 => .inr (4, [.ref (a + 1), .int 0, .long 0])
  | 2 => .inl (0, 8, .inl (fun _ => 0))
  | _ => .inl (0, 3, .inl (fun _ => 0))
def shK (a : Nat) : CE := shKr ((a - 112) % 4) a
def shT (a : Nat) : CE := cond (Nat.ble a 39) (lkc shA (a - 1)) (cond (Nat.ble a 111) (shB a) (cond (Nat.ble a 131) (shK a) (lkc shM (a - 132))))
def Sh (h : HF) : Prop := ∀ a : Nat, 0 < a → a ≤ 170 → shp (h a) = shT a
theorem Sh.sI {h : HF} (hS : Sh h) (a : Nat) (k : Nat) (v : Int32) : Sh (sI h a k v) := by
  intro b h1 h2
  by_cases hb : b = a
  · subst hb
    show shp (hu h b _ b) = _
    rw [hu_eq, shp_cI]; exact hS b h1 h2
  · show shp (hu h a _ b) = _
    rw [hu_ne _ _ hb]; exact hS b h1 h2
theorem sI_ne {h : HF} {a b : Nat} (hb : b ≠ a) (k : Nat) (v : Int32) : sI h a k v b = h b := hu_ne _ _ hb
theorem sI_eq (h : HF) (a : Nat) (k : Nat) (v : Int32) : sI h a k v a = cI (h a) k v := hu_eq _ _ _
theorem Sh.sJ {h : HF} (hS : Sh h) (a : Nat) (k : Nat) (v : Int64) : Sh (sJ h a k v) := by
  intro b h1 h2
  by_cases hb : b = a
  · subst hb
    show shp (hu h b _ b) = _
    rw [hu_eq, shp_cJ]; exact hS b h1 h2
  · show shp (hu h a _ b) = _
    rw [hu_ne _ _ hb]; exact hS b h1 h2
theorem sJ_ne {h : HF} {a b : Nat} (hb : b ≠ a) (k : Nat) (v : Int64) : sJ h a k v b = h b := hu_ne _ _ hb
theorem sJ_eq (h : HF) (a : Nat) (k : Nat) (v : Int64) : sJ h a k v a = cJ (h a) k v := hu_eq _ _ _
theorem Sh.si {h : HF} (hS : Sh h) (a : Nat) (f : Nat → Int32) : Sh (si h a f) := by
  intro b h1 h2
  by_cases hb : b = a
  · subst hb
    show shp (hu h b _ b) = _
    rw [hu_eq, shp_ci]; exact hS b h1 h2
  · show shp (hu h a _ b) = _
    rw [hu_ne _ _ hb]; exact hS b h1 h2
theorem si_ne {h : HF} {a b : Nat} (hb : b ≠ a) (f : Nat → Int32) : si h a f b = h b := hu_ne _ _ hb
theorem si_eq (h : HF) (a : Nat) (f : Nat → Int32) : si h a f a = ci (h a) f := hu_eq _ _ _
theorem Sh.sl {h : HF} (hS : Sh h) (a : Nat) (f : Nat → Int64) : Sh (sl h a f) := by
  intro b h1 h2
  by_cases hb : b = a
  · subst hb
    show shp (hu h b _ b) = _
    rw [hu_eq, shp_cl]; exact hS b h1 h2
  · show shp (hu h a _ b) = _
    rw [hu_ne _ _ hb]; exact hS b h1 h2
theorem sl_ne {h : HF} {a b : Nat} (hb : b ≠ a) (f : Nat → Int64) : sl h a f b = h b := hu_ne _ _ hb
theorem sl_eq (h : HF) (a : Nat) (f : Nat → Int64) : sl h a f a = cl (h a) f := hu_eq _ _ _
theorem sh_i {h : HF} (hS : Sh h) {a t N : Nat} (h0 : 0 < a ∧ a ≤ 170) (ht : shT a = .inl (t, N, .inl (fun _ => 0))) : h a = .inl (t, N, .inl (gi h a)) := by
  have e := hS a h0.1 h0.2
  rw [ht] at e
  cases hc : h a with
  | inr x => rw [hc] at e; cases e
  | inl x =>
    obtain ⟨t2, N2, f | f | f | f | f⟩ := x <;> rw [hc] at e <;> cases e
    simp only [gi, hc]
theorem sh_l {h : HF} (hS : Sh h) {a t N : Nat} (h0 : 0 < a ∧ a ≤ 170) (ht : shT a = .inl (t, N, .inr (.inl (fun _ => 0)))) : h a = .inl (t, N, .inr (.inl (gl h a))) := by
  have e := hS a h0.1 h0.2
  rw [ht] at e
  cases hc : h a with
  | inr x => rw [hc] at e; cases e
  | inl x =>
    obtain ⟨t2, N2, f | f | f | f | f⟩ := x <;> rw [hc] at e <;> cases e
    simp only [gl, hc]
theorem sh_r {h : HF} (hS : Sh h) {a t N : Nat} {g : Nat → Option Nat} (h0 : 0 < a ∧ a ≤ 170) (ht : shT a = .inl (t, N, .inr (.inr (.inr (.inr g))))) : h a = .inl (t, N, .inr (.inr (.inr (.inr g)))) := by
  have e := hS a h0.1 h0.2
  rw [ht] at e
  cases hc : h a with
  | inr x => rw [hc] at e; cases e
  | inl x =>
    obtain ⟨t2, N2, f | f | f | f | f⟩ := x <;> rw [hc] at e <;> cases e
    rfl
theorem sh_o {h : HF} (hS : Sh h) {a k : Nat} {fs : List Value} (h0 : 0 < a ∧ a ≤ 170) (ht : shT a = .inr (k, fs)) : h a = .inr (k, fil h a 0 fs) := by
  have e := hS a h0.1 h0.2
  rw [ht] at e
  cases hc : h a with
  | inl x =>
    obtain ⟨t2, N2, f | f | f | f | f⟩ := x <;> rw [hc] at e <;> cases e
  | inr x =>
    obtain ⟨k2, gs⟩ := x
    rw [hc] at e
    cases e
    have := fil_eq h a k gs [] (by rw [hc]; rfl)
    simp only [List.length_nil] at this
    rw [this]
theorem cl_1 {h : HF} (hS : Sh h) : h 1 = .inr (9, [.ref 2, .ref 5, .ref 9, .ref 16, .int (fI h 1 4), .ref 17, .ref 24, .ref 25, .ref 31, .ref 39, .int (fI h 1 10), .int (fI h 1 11)]) := sh_o (a := 1) (k := 9) (fs := [.ref 2, .ref 5, .ref 9, .ref 16, .int 0, .ref 17, .ref 24, .ref 25, .ref 31, .ref 39, .int 0, .int 0]) hS (by decide) rfl
theorem cl_2 {h : HF} (hS : Sh h) : h 2 = .inr (5, [.ref 3, .ref 4, .int (fI h 2 2)]) := sh_o (a := 2) (k := 5) (fs := [.ref 3, .ref 4, .int 0]) hS (by decide) rfl
theorem cl_3 {h : HF} (hS : Sh h) : h 3 = .inl (0, 24, .inl (gi h 3)) := sh_i (a := 3) hS (by decide) rfl
theorem cl_4 {h : HF} (hS : Sh h) : h 4 = .inl (0, 24, .inl (gi h 4)) := sh_i (a := 4) hS (by decide) rfl
theorem cl_5 {h : HF} (hS : Sh h) : h 5 = .inr (7, [.ref 6, .ref 7, .ref 8, .int (fI h 5 3), .int (fI h 5 4)]) := sh_o (a := 5) (k := 7) (fs := [.ref 6, .ref 7, .ref 8, .int 0, .int 0]) hS (by decide) rfl
theorem cl_6 {h : HF} (hS : Sh h) : h 6 = .inl (0, 40, .inl (gi h 6)) := sh_i (a := 6) hS (by decide) rfl
theorem cl_7 {h : HF} (hS : Sh h) : h 7 = .inl (0, 40, .inl (gi h 7)) := sh_i (a := 7) hS (by decide) rfl
theorem cl_8 {h : HF} (hS : Sh h) : h 8 = .inl (0, 40, .inl (gi h 8)) := sh_i (a := 8) hS (by decide) rfl
theorem cl_9 {h : HF} (hS : Sh h) : h 9 = .inr (1, [.ref 10, .ref 11, .ref 12, .ref 13, .ref 14, .ref 15, .int (fI h 9 6)]) := sh_o (a := 9) (k := 1) (fs := [.ref 10, .ref 11, .ref 12, .ref 13, .ref 14, .ref 15, .int 0]) hS (by decide) rfl
theorem cl_10 {h : HF} (hS : Sh h) : h 10 = .inl (1, 72, .inl (gi h 10)) := sh_i (a := 10) hS (by decide) rfl
theorem cl_11 {h : HF} (hS : Sh h) : h 11 = .inl (0, 72, .inl (gi h 11)) := sh_i (a := 11) hS (by decide) rfl
theorem cl_12 {h : HF} (hS : Sh h) : h 12 = .inl (0, 72, .inl (gi h 12)) := sh_i (a := 12) hS (by decide) rfl
theorem cl_13 {h : HF} (hS : Sh h) : h 13 = .inl (0, 12, .inl (gi h 13)) := sh_i (a := 13) hS (by decide) rfl
theorem cl_14 {h : HF} (hS : Sh h) : h 14 = .inl (0, 96, .inl (gi h 14)) := sh_i (a := 14) hS (by decide) rfl
theorem cl_15 {h : HF} (hS : Sh h) : h 15 = .inl (0, 96, .inl (gi h 15)) := sh_i (a := 15) hS (by decide) rfl
theorem cl_16 {h : HF} (hS : Sh h) : h 16 = .inl (3, 24, .inr (.inr (.inr (.inr rB)))) := sh_r (a := 16) hS (by decide) rfl
theorem cl_17 {h : HF} (hS : Sh h) : h 17 = .inr (2, [.ref 18, .int (fI h 17 1), .int (fI h 17 2), .int (fI h 17 3), .ref 19, .ref 20, .ref 21, .int (fI h 17 7), .int (fI h 17 8), .ref 22, .ref 23]) := sh_o (a := 17) (k := 2) (fs := [.ref 18, .int 0, .int 0, .int 0, .ref 19, .ref 20, .ref 21, .int 0, .int 0, .ref 22, .ref 23]) hS (by decide) rfl
theorem cl_18 {h : HF} (hS : Sh h) : h 18 = .inl (0, 8, .inl (gi h 18)) := sh_i (a := 18) hS (by decide) rfl
theorem cl_19 {h : HF} (hS : Sh h) : h 19 = .inl (0, 3, .inl (gi h 19)) := sh_i (a := 19) hS (by decide) rfl
theorem cl_20 {h : HF} (hS : Sh h) : h 20 = .inl (0, 8, .inl (gi h 20)) := sh_i (a := 20) hS (by decide) rfl
theorem cl_21 {h : HF} (hS : Sh h) : h 21 = .inl (0, 8, .inl (gi h 21)) := sh_i (a := 21) hS (by decide) rfl
theorem cl_22 {h : HF} (hS : Sh h) : h 22 = .inl (2, 3, .inr (.inl (gl h 22))) := sh_l (a := 22) hS (by decide) rfl
theorem cl_23 {h : HF} (hS : Sh h) : h 23 = .inl (2, 3, .inr (.inl (gl h 23))) := sh_l (a := 23) hS (by decide) rfl
theorem cl_24 {h : HF} (hS : Sh h) : h 24 = .inl (4, 5, .inr (.inr (.inr (.inr rT)))) := sh_r (a := 24) hS (by decide) rfl
theorem cl_25 {h : HF} (hS : Sh h) : h 25 = .inr (3, [.ref 26, .ref 27, .ref 28, .ref 29, .ref 30, .int (fI h 25 5)]) := sh_o (a := 25) (k := 3) (fs := [.ref 26, .ref 27, .ref 28, .ref 29, .ref 30, .int 0]) hS (by decide) rfl
theorem cl_26 {h : HF} (hS : Sh h) : h 26 = .inl (0, 100, .inl (gi h 26)) := sh_i (a := 26) hS (by decide) rfl
theorem cl_27 {h : HF} (hS : Sh h) : h 27 = .inl (0, 100, .inl (gi h 27)) := sh_i (a := 27) hS (by decide) rfl
theorem cl_28 {h : HF} (hS : Sh h) : h 28 = .inl (0, 100, .inl (gi h 28)) := sh_i (a := 28) hS (by decide) rfl
theorem cl_29 {h : HF} (hS : Sh h) : h 29 = .inl (0, 100, .inl (gi h 29)) := sh_i (a := 29) hS (by decide) rfl
theorem cl_30 {h : HF} (hS : Sh h) : h 30 = .inl (2, 100, .inr (.inl (gl h 30))) := sh_l (a := 30) hS (by decide) rfl
theorem cl_31 {h : HF} (hS : Sh h) : h 31 = .inr (6, [.ref 32, .ref 33, .ref 34, .ref 35, .int (fI h 31 4), .ref 36, .ref 37, .ref 38, .int (fI h 31 8)]) := sh_o (a := 31) (k := 6) (fs := [.ref 32, .ref 33, .ref 34, .ref 35, .int 0, .ref 36, .ref 37, .ref 38, .int 0]) hS (by decide) rfl
theorem cl_32 {h : HF} (hS : Sh h) : h 32 = .inl (0, 8, .inl (gi h 32)) := sh_i (a := 32) hS (by decide) rfl
theorem cl_33 {h : HF} (hS : Sh h) : h 33 = .inl (0, 8, .inl (gi h 33)) := sh_i (a := 33) hS (by decide) rfl
theorem cl_34 {h : HF} (hS : Sh h) : h 34 = .inl (0, 8, .inl (gi h 34)) := sh_i (a := 34) hS (by decide) rfl
theorem cl_35 {h : HF} (hS : Sh h) : h 35 = .inl (0, 8, .inl (gi h 35)) := sh_i (a := 35) hS (by decide) rfl
theorem cl_36 {h : HF} (hS : Sh h) : h 36 = .inl (0, 36, .inl (gi h 36)) := sh_i (a := 36) hS (by decide) rfl
theorem cl_37 {h : HF} (hS : Sh h) : h 37 = .inl (0, 1536, .inl (gi h 37)) := sh_i (a := 37) hS (by decide) rfl
theorem cl_38 {h : HF} (hS : Sh h) : h 38 = .inl (0, 8, .inl (gi h 38)) := sh_i (a := 38) hS (by decide) rfl
theorem cl_39 {h : HF} (hS : Sh h) : h 39 = .inl (0, 8, .inl (gi h 39)) := sh_i (a := 39) hS (by decide) rfl
def fs132 : List Value := [.int 0, .int 0, .ref 133, .ref 134, .int 0, .ref 135, .ref 136, .ref 137, .int 0, .ref 138] ++ [.ref 139, .ref 140, .ref 141, .ref 142, .ref 143, .int 0, .ref 144, .ref 145, .ref 146, .int 0] ++ [.ref 147, .ref 148, .ref 149, .ref 150, .ref 151, .ref 152, .ref 153, .ref 154, .ref 155, .ref 156] ++ [.int 0, .int 0, .ref 157, .ref 158, .ref 159, .ref 160, .ref 161, .int 0, .int 0, .ref 162] ++ [.ref 163, .ref 164, .ref 165, .ref 166, .int 0, .ref 167, .ref 168, .ref 169, .ref 170]
theorem cl_132 {h : HF} (hS : Sh h) : h 132 = .inr (10, fil h 132 0 fs132) := sh_o (a := 132) (k := 10) (fs := fs132) hS (by decide) rfl
theorem cl_133 {h : HF} (hS : Sh h) : h 133 = .inl (0, 24, .inl (gi h 133)) := sh_i (a := 133) hS (by decide) rfl
theorem cl_134 {h : HF} (hS : Sh h) : h 134 = .inl (0, 24, .inl (gi h 134)) := sh_i (a := 134) hS (by decide) rfl
theorem cl_135 {h : HF} (hS : Sh h) : h 135 = .inl (0, 40, .inl (gi h 135)) := sh_i (a := 135) hS (by decide) rfl
theorem cl_136 {h : HF} (hS : Sh h) : h 136 = .inl (0, 40, .inl (gi h 136)) := sh_i (a := 136) hS (by decide) rfl
theorem cl_137 {h : HF} (hS : Sh h) : h 137 = .inl (0, 40, .inl (gi h 137)) := sh_i (a := 137) hS (by decide) rfl
theorem cl_138 {h : HF} (hS : Sh h) : h 138 = .inl (0, 12, .inl (gi h 138)) := sh_i (a := 138) hS (by decide) rfl
theorem cl_139 {h : HF} (hS : Sh h) : h 139 = .inl (1, 72, .inl (gi h 139)) := sh_i (a := 139) hS (by decide) rfl
theorem cl_140 {h : HF} (hS : Sh h) : h 140 = .inl (0, 72, .inl (gi h 140)) := sh_i (a := 140) hS (by decide) rfl
theorem cl_141 {h : HF} (hS : Sh h) : h 141 = .inl (0, 72, .inl (gi h 141)) := sh_i (a := 141) hS (by decide) rfl
theorem cl_142 {h : HF} (hS : Sh h) : h 142 = .inl (0, 96, .inl (gi h 142)) := sh_i (a := 142) hS (by decide) rfl
theorem cl_143 {h : HF} (hS : Sh h) : h 143 = .inl (0, 96, .inl (gi h 143)) := sh_i (a := 143) hS (by decide) rfl
theorem cl_144 {h : HF} (hS : Sh h) : h 144 = .inl (0, 192, .inl (gi h 144)) := sh_i (a := 144) hS (by decide) rfl
theorem cl_145 {h : HF} (hS : Sh h) : h 145 = .inl (2, 24, .inr (.inl (gl h 145))) := sh_l (a := 145) hS (by decide) rfl
theorem cl_146 {h : HF} (hS : Sh h) : h 146 = .inl (1, 24, .inl (gi h 146)) := sh_i (a := 146) hS (by decide) rfl
theorem cl_147 {h : HF} (hS : Sh h) : h 147 = .inl (0, 8, .inl (gi h 147)) := sh_i (a := 147) hS (by decide) rfl
theorem cl_148 {h : HF} (hS : Sh h) : h 148 = .inl (0, 8, .inl (gi h 148)) := sh_i (a := 148) hS (by decide) rfl
theorem cl_149 {h : HF} (hS : Sh h) : h 149 = .inl (0, 5, .inl (gi h 149)) := sh_i (a := 149) hS (by decide) rfl
theorem cl_150 {h : HF} (hS : Sh h) : h 150 = .inl (0, 5, .inl (gi h 150)) := sh_i (a := 150) hS (by decide) rfl
theorem cl_151 {h : HF} (hS : Sh h) : h 151 = .inl (1, 5, .inl (gi h 151)) := sh_i (a := 151) hS (by decide) rfl
theorem cl_152 {h : HF} (hS : Sh h) : h 152 = .inl (1, 5, .inl (gi h 152)) := sh_i (a := 152) hS (by decide) rfl
theorem cl_153 {h : HF} (hS : Sh h) : h 153 = .inl (0, 40, .inl (gi h 153)) := sh_i (a := 153) hS (by decide) rfl
theorem cl_154 {h : HF} (hS : Sh h) : h 154 = .inl (2, 5, .inr (.inl (gl h 154))) := sh_l (a := 154) hS (by decide) rfl
theorem cl_155 {h : HF} (hS : Sh h) : h 155 = .inl (0, 5, .inl (gi h 155)) := sh_i (a := 155) hS (by decide) rfl
theorem cl_156 {h : HF} (hS : Sh h) : h 156 = .inl (0, 15, .inl (gi h 156)) := sh_i (a := 156) hS (by decide) rfl
theorem cl_157 {h : HF} (hS : Sh h) : h 157 = .inl (0, 100, .inl (gi h 157)) := sh_i (a := 157) hS (by decide) rfl
theorem cl_158 {h : HF} (hS : Sh h) : h 158 = .inl (0, 100, .inl (gi h 158)) := sh_i (a := 158) hS (by decide) rfl
theorem cl_159 {h : HF} (hS : Sh h) : h 159 = .inl (0, 100, .inl (gi h 159)) := sh_i (a := 159) hS (by decide) rfl
theorem cl_160 {h : HF} (hS : Sh h) : h 160 = .inl (2, 100, .inr (.inl (gl h 160))) := sh_l (a := 160) hS (by decide) rfl
theorem cl_161 {h : HF} (hS : Sh h) : h 161 = .inl (0, 100, .inl (gi h 161)) := sh_i (a := 161) hS (by decide) rfl
theorem cl_162 {h : HF} (hS : Sh h) : h 162 = .inl (0, 8, .inl (gi h 162)) := sh_i (a := 162) hS (by decide) rfl
theorem cl_163 {h : HF} (hS : Sh h) : h 163 = .inl (0, 8, .inl (gi h 163)) := sh_i (a := 163) hS (by decide) rfl
theorem cl_164 {h : HF} (hS : Sh h) : h 164 = .inl (0, 8, .inl (gi h 164)) := sh_i (a := 164) hS (by decide) rfl
theorem cl_165 {h : HF} (hS : Sh h) : h 165 = .inl (0, 8, .inl (gi h 165)) := sh_i (a := 165) hS (by decide) rfl
theorem cl_166 {h : HF} (hS : Sh h) : h 166 = .inl (0, 36, .inl (gi h 166)) := sh_i (a := 166) hS (by decide) rfl
theorem cl_167 {h : HF} (hS : Sh h) : h 167 = .inl (0, 8, .inl (gi h 167)) := sh_i (a := 167) hS (by decide) rfl
theorem cl_168 {h : HF} (hS : Sh h) : h 168 = .inl (0, 2304, .inl (gi h 168)) := sh_i (a := 168) hS (by decide) rfl
theorem cl_169 {h : HF} (hS : Sh h) : h 169 = .inl (0, 8, .inl (gi h 169)) := sh_i (a := 169) hS (by decide) rfl
theorem cl_170 {h : HF} (hS : Sh h) : h 170 = .inl (0, 8, .inl (gi h 170)) := sh_i (a := 170) hS (by decide) rfl
theorem ble_f {a b : Nat} (h : b < a) : Nat.ble a b = false := by
  cases hb : Nat.ble a b with
  | false => rfl
  | true => have := Nat.le_of_ble_eq_true hb; omega
theorem shT_B {k : Nat} (hk : k < 24) : shT (40 + 3 * k) = .inr (0, [.ref (40 + 3 * k + 1), .int 0]) ∧ shT (41 + 3 * k) = .inr (4, [.ref (41 + 3 * k + 1), .int 0, .long 0]) ∧ shT (42 + 3 * k) = .inl (0, 8, .inl (fun _ => 0)) := by
  have g1 : ∀ a, 40 ≤ a → a ≤ 111 → shT a = shB a := by
    intro a h1 h2
    have e1 : Nat.ble a 39 = false := ble_f (by omega)
    have e2 : Nat.ble a 111 = true := Nat.ble_eq.mpr h2
    simp only [shT, e1, e2, cond_false, cond_true]
  refine ⟨?_, ?_, ?_⟩
  · rw [g1 (40 + 3 * k) (by omega) (by omega), shB, show (40 + 3 * k - 40) % 3 = 0 by omega]; rfl
  · rw [g1 (41 + 3 * k) (by omega) (by omega), shB, show (41 + 3 * k - 40) % 3 = 1 by omega]; rfl
  · rw [g1 (42 + 3 * k) (by omega) (by omega), shB, show (42 + 3 * k - 40) % 3 = 2 by omega]; rfl
theorem shT_K {k : Nat} (hk : k < 5) : shT (112 + 4 * k) = .inr (8, [.ref (112 + 4 * k + 1), .ref (112 + 4 * k + 3), .int 0, .int 0, .int 0, .int 0, .int 0]) ∧ shT (113 + 4 * k) = .inr (4, [.ref (113 + 4 * k + 1), .int 0, .long 0]) ∧ shT (114 + 4 * k) = .inl (0, 8, .inl (fun _ => 0)) ∧ shT (115 + 4 * k) = .inl (0, 3, .inl (fun _ => 0)) := by
  have g1 : ∀ a, 112 ≤ a → a ≤ 131 → shT a = shK a := by
    intro a h1 h2
    have e1 : Nat.ble a 39 = false := ble_f (by omega)
    have e2 : Nat.ble a 111 = false := ble_f (by omega)
    have e3 : Nat.ble a 131 = true := Nat.ble_eq.mpr h2
    simp only [shT, e1, e2, e3, cond_false, cond_true]
  refine ⟨?_, ?_, ?_, ?_⟩
  · rw [g1 (112 + 4 * k) (by omega) (by omega), shK, show (112 + 4 * k - 112) % 4 = 0 by omega]; rfl
  · rw [g1 (113 + 4 * k) (by omega) (by omega), shK, show (113 + 4 * k - 112) % 4 = 1 by omega]; rfl
  · rw [g1 (114 + 4 * k) (by omega) (by omega), shK, show (114 + 4 * k - 112) % 4 = 2 by omega]; rfl
  · rw [g1 (115 + 4 * k) (by omega) (by omega), shK, show (115 + 4 * k - 112) % 4 = 3 by omega]; rfl
theorem cl_B {h : HF} (hS : Sh h) {k : Nat} (hk : k < 24) : h (40 + 3 * k) = .inr (0, [.ref (41 + 3 * k), .int (fI h (40 + 3 * k) 1)]) := by
  have := sh_o hS (a := 40 + 3 * k) (by omega) (shT_B hk).1
  rw [this]; simp only [fil]; rw [show 40 + 3 * k + 1 = 41 + 3 * k by omega]
theorem cl_M {h : HF} (hS : Sh h) {k : Nat} (hk : k < 24) : h (41 + 3 * k) = .inr (4, [.ref (42 + 3 * k), .int (fI h (41 + 3 * k) 1), .long (fJ h (41 + 3 * k) 2)]) := by
  have := sh_o hS (a := 41 + 3 * k) (by omega) (shT_B hk).2.1
  rw [this]; simp only [fil]; rw [show 41 + 3 * k + 1 = 42 + 3 * k by omega]
theorem cl_A {h : HF} (hS : Sh h) {k : Nat} (hk : k < 24) : h (42 + 3 * k) = .inl (0, 8, .inl (gi h (42 + 3 * k))) := sh_i hS (by omega) (shT_B hk).2.2
theorem cl_K {h : HF} (hS : Sh h) {k : Nat} (hk : k < 5) : h (112 + 4 * k) = .inr (8, [.ref (113 + 4 * k), .ref (115 + 4 * k), .int (fI h (112 + 4 * k) 2), .int (fI h (112 + 4 * k) 3), .int (fI h (112 + 4 * k) 4), .int (fI h (112 + 4 * k) 5), .int (fI h (112 + 4 * k) 6)]) := by
  have := sh_o hS (a := 112 + 4 * k) (by omega) (shT_K hk).1
  rw [this]; simp only [fil]; rw [show 112 + 4 * k + 1 = 113 + 4 * k by omega, show 112 + 4 * k + 3 = 115 + 4 * k by omega]
theorem cl_N {h : HF} (hS : Sh h) {k : Nat} (hk : k < 5) : h (113 + 4 * k) = .inr (4, [.ref (114 + 4 * k), .int (fI h (113 + 4 * k) 1), .long (fJ h (113 + 4 * k) 2)]) := by
  have := sh_o hS (a := 113 + 4 * k) (by omega) (shT_K hk).2.1
  rw [this]; simp only [fil]; rw [show 113 + 4 * k + 1 = 114 + 4 * k by omega]
theorem cl_C {h : HF} (hS : Sh h) {k : Nat} (hk : k < 5) : h (114 + 4 * k) = .inl (0, 8, .inl (gi h (114 + 4 * k))) := sh_i hS (by omega) (shT_K hk).2.2.1
theorem cl_S {h : HF} (hS : Sh h) {k : Nat} (hk : k < 5) : h (115 + 4 * k) = .inl (0, 3, .inl (gi h (115 + 4 * k))) := sh_i hS (by omega) (shT_K hk).2.2.2
theorem fI_of {h h' : HF} {a : Nat} (k : Nat) (e : h' a = h a) : fI h' a k = fI h a k := by simp only [fI, e]
theorem fJ_of {h h' : HF} {a : Nat} (k : Nat) (e : h' a = h a) : fJ h' a k = fJ h a k := by simp only [fJ, e]
theorem gi_of {h h' : HF} {a : Nat} (e : h' a = h a) : gi h' a = gi h a := by simp only [gi, e]
theorem gl_of {h h' : HF} {a : Nat} (e : h' a = h a) : gl h' a = gl h a := by simp only [gl, e]
theorem gi_sI (h : HF) (a k : Nat) (v : Int32) (b : Nat) : gi (sI h a k v) b = gi h b := by
  by_cases e : b = a
  · subst e; simp only [gi, sI_eq]; rcases h b with ⟨t, N, f | f | f | f | f⟩ | ⟨c, fs⟩ <;> rfl
  · exact gi_of (sI_ne e k v)
theorem gl_sI (h : HF) (a k : Nat) (v : Int32) (b : Nat) : gl (sI h a k v) b = gl h b := by
  by_cases e : b = a
  · subst e; simp only [gl, sI_eq]; rcases h b with ⟨t, N, f | f | f | f | f⟩ | ⟨c, fs⟩ <;> rfl
  · exact gl_of (sI_ne e k v)
theorem gi_sJ (h : HF) (a k : Nat) (v : Int64) (b : Nat) : gi (sJ h a k v) b = gi h b := by
  by_cases e : b = a
  · subst e; simp only [gi, sJ_eq]; rcases h b with ⟨t, N, f | f | f | f | f⟩ | ⟨c, fs⟩ <;> rfl
  · exact gi_of (sJ_ne e k v)
theorem gl_sJ (h : HF) (a k : Nat) (v : Int64) (b : Nat) : gl (sJ h a k v) b = gl h b := by
  by_cases e : b = a
  · subst e; simp only [gl, sJ_eq]; rcases h b with ⟨t, N, f | f | f | f | f⟩ | ⟨c, fs⟩ <;> rfl
  · exact gl_of (sJ_ne e k v)
theorem gi_sl (h : HF) (a : Nat) (g : Nat → Int64) (b : Nat) : gi (sl h a g) b = gi h b := by
  by_cases e : b = a
  · subst e; simp only [gi, sl_eq]; rcases h b with ⟨t, N, f | f | f | f | f⟩ | ⟨c, fs⟩ <;> rfl
  · exact gi_of (sl_ne e g)
theorem gl_si (h : HF) (a : Nat) (g : Nat → Int32) (b : Nat) : gl (si h a g) b = gl h b := by
  by_cases e : b = a
  · subst e; simp only [gl, si_eq]; rcases h b with ⟨t, N, f | f | f | f | f⟩ | ⟨c, fs⟩ <;> rfl
  · exact gl_of (si_ne e g)
theorem fI_si (h : HF) (a : Nat) (g : Nat → Int32) (b k : Nat) : fI (si h a g) b k = fI h b k := by
  by_cases e : b = a
  · subst e; simp only [fI, si_eq]; rcases h b with ⟨t, N, f | f | f | f | f⟩ | ⟨c, fs⟩ <;> rfl
  · exact fI_of k (si_ne e g)
theorem fI_sl (h : HF) (a : Nat) (g : Nat → Int64) (b k : Nat) : fI (sl h a g) b k = fI h b k := by
  by_cases e : b = a
  · subst e; simp only [fI, sl_eq]; rcases h b with ⟨t, N, f | f | f | f | f⟩ | ⟨c, fs⟩ <;> rfl
  · exact fI_of k (sl_ne e g)
theorem fJ_si (h : HF) (a : Nat) (g : Nat → Int32) (b k : Nat) : fJ (si h a g) b k = fJ h b k := by
  by_cases e : b = a
  · subst e; simp only [fJ, si_eq]; rcases h b with ⟨t, N, f | f | f | f | f⟩ | ⟨c, fs⟩ <;> rfl
  · exact fJ_of k (si_ne e g)
theorem fJ_sl (h : HF) (a : Nat) (g : Nat → Int64) (b k : Nat) : fJ (sl h a g) b k = fJ h b k := by
  by_cases e : b = a
  · subst e; simp only [fJ, sl_eq]; rcases h b with ⟨t, N, f | f | f | f | f⟩ | ⟨c, fs⟩ <;> rfl
  · exact fJ_of k (sl_ne e g)
theorem gi_si_ne {h : HF} {a b : Nat} (e : b ≠ a) (g : Nat → Int32) : gi (si h a g) b = gi h b := gi_of (si_ne e g)
theorem gl_sl_ne {h : HF} {a b : Nat} (e : b ≠ a) (g : Nat → Int64) : gl (sl h a g) b = gl h b := gl_of (sl_ne e g)
theorem fI_sI_ne {h : HF} {a b : Nat} (e : b ≠ a) (k : Nat) (v : Int32) (j : Nat) : fI (sI h a k v) b j = fI h b j := fI_of j (sI_ne e k v)
theorem fJ_sJ_ne {h : HF} {a b : Nat} (e : b ≠ a) (k : Nat) (v : Int64) (j : Nat) : fJ (sJ h a k v) b j = fJ h b j := fJ_of j (sJ_ne e k v)
theorem stI_get : ∀ (fs : List Value) (k j : Nat) (v : Int32), k ≠ j → (stI fs k v).getD j .null = fs.getD j .null
  | [], _, _, _, _ => rfl
  | a :: l, 0, j, v, h => by
    cases j with
    | zero => exact absurd rfl h
    | succ j => simp [stI]
  | a :: l, k + 1, j, v, h => by
    cases j with
    | zero => rfl
    | succ j => simpa [stI] using stI_get l k j v (by omega)
theorem stJ_get : ∀ (fs : List Value) (k j : Nat) (v : Int64), k ≠ j → (stJ fs k v).getD j .null = fs.getD j .null
  | [], _, _, _, _ => rfl
  | a :: l, 0, j, v, h => by
    cases j with
    | zero => exact absurd rfl h
    | succ j => simp [stJ]
  | a :: l, k + 1, j, v, h => by
    cases j with
    | zero => rfl
    | succ j => simpa [stJ] using stJ_get l k j v (by omega)
theorem stI_self : ∀ (fs : List Value) (k : Nat) (v : Int32), (stI fs k v).getD k .null = (match fs.getD k .null with
    | .int _ => .int v
    | w => w)
  | [], _, _ => rfl
  | a :: l, 0, v => by cases a <;> rfl
  | a :: l, k + 1, v => by simpa [stI] using stI_self l k v
theorem stJ_self : ∀ (fs : List Value) (k : Nat) (v : Int64), (stJ fs k v).getD k .null = (match fs.getD k .null with
    | .long _ => .long v
    | w => w)
  | [], _, _ => rfl
  | a :: l, 0, v => by cases a <;> rfl
  | a :: l, k + 1, v => by simpa [stJ] using stJ_self l k v
theorem fI_sI_k {h : HF} {a b k j : Nat} (hk : k ≠ j) (v : Int32) : fI (sI h a k v) b j = fI h b j := by
  by_cases e : b = a
  · subst e
    simp only [fI, sI_eq]
    rcases h b with ⟨t, N, f | f | f | f | f⟩ | ⟨c, fs⟩ <;> simp only [cI]
    rw [stI_get fs k j v hk]
  · exact fI_of j (sI_ne e k v)
theorem fJ_sI (h : HF) (a k : Nat) (v : Int32) (b j : Nat) : fJ (sI h a k v) b j = fJ h b j := by
  by_cases e : b = a
  · subst e
    simp only [fJ, sI_eq]
    rcases h b with ⟨t, N, f | f | f | f | f⟩ | ⟨c, fs⟩ <;> simp only [cI]
    by_cases hk : k = j
    · subst hk; rw [stI_self]; generalize fs.getD k .null = w; cases w <;> rfl
    · rw [stI_get fs k j v hk]
  · exact fJ_of j (sI_ne e k v)
theorem fI_sJ (h : HF) (a k : Nat) (v : Int64) (b j : Nat) : fI (sJ h a k v) b j = fI h b j := by
  by_cases e : b = a
  · subst e
    simp only [fI, sJ_eq]
    rcases h b with ⟨t, N, f | f | f | f | f⟩ | ⟨c, fs⟩ <;> simp only [cJ]
    by_cases hk : k = j
    · subst hk; rw [stJ_self]; generalize fs.getD k .null = w; cases w <;> rfl
    · rw [stJ_get fs k j v hk]
  · exact fI_of j (sJ_ne e k v)
-- a kind of a cell by its place: an int array, a long array, an int field, a long field
def kI (a : Nat) : Bool := match shT a with
  | .inl (_, _, .inl _) => true
  | _ => false
def kL (a : Nat) : Bool := match shT a with
  | .inl (_, _, .inr (.inl _)) => true
  | _ => false
def kF (a k : Nat) : Bool := match shT a with
  | .inr (_, fs) => (match fs.getD k .null with
    | .int _ => true
    | _ => false)
  | _ => false
def kJ (a k : Nat) : Bool := match shT a with
  | .inr (_, fs) => (match fs.getD k .null with
    | .long _ => true
    | _ => false)
  | _ => false
theorem gi_si_eq {h : HF} (hS : Sh h) {a : Nat} (h0 : 0 < a) (h1 : a ≤ 170) (hk : kI a = true) (g : Nat → Int32) : gi (si h a g) a = g := by
  have e := hS a h0 h1
  simp only [kI] at hk
  rw [← e] at hk
  simp only [gi, si_eq]
  rcases hc : h a with ⟨t, N, f | f | f | f | f⟩ | ⟨c, fs⟩ <;> rw [hc] at hk <;> first | rfl | (simp [shp] at hk; done)
theorem gl_sl_eq {h : HF} (hS : Sh h) {a : Nat} (h0 : 0 < a) (h1 : a ≤ 170) (hk : kL a = true) (g : Nat → Int64) : gl (sl h a g) a = g := by
  have e := hS a h0 h1
  simp only [kL] at hk
  rw [← e] at hk
  simp only [gl, sl_eq]
  rcases hc : h a with ⟨t, N, f | f | f | f | f⟩ | ⟨c, fs⟩ <;> rw [hc] at hk <;> first | rfl | (simp [shp] at hk; done)
theorem erv_getD (fs : List Value) (k : Nat) : (fs.map erv).getD k .null = erv (fs.getD k .null) := by
  induction fs generalizing k with
  | nil => rfl
  | cons a l ih =>
    cases k with
    | zero => rfl
    | succ k => simpa using ih k
theorem fI_sI_eq {h : HF} (hS : Sh h) {a k : Nat} (h0 : 0 < a) (h1 : a ≤ 170) (hk : kF a k = true) (v : Int32) : fI (sI h a k v) a k = v := by
  have e := hS a h0 h1
  simp only [kF] at hk
  rw [← e] at hk
  simp only [fI, sI_eq]
  rcases hc : h a with ⟨t, N, f | f | f | f | f⟩ | ⟨c, fs⟩ <;> rw [hc] at hk <;> simp only [shp, Bool.false_eq_true] at hk
  simp only [cI, stI_self]
  rw [erv_getD] at hk
  generalize fs.getD k .null = w at hk ⊢
  cases w <;> first | rfl | (simp [erv] at hk; done)
theorem fJ_sJ_eq {h : HF} (hS : Sh h) {a k : Nat} (h0 : 0 < a) (h1 : a ≤ 170) (hk : kJ a k = true) (v : Int64) : fJ (sJ h a k v) a k = v := by
  have e := hS a h0 h1
  simp only [kJ] at hk
  rw [← e] at hk
  simp only [fJ, sJ_eq]
  rcases hc : h a with ⟨t, N, f | f | f | f | f⟩ | ⟨c, fs⟩ <;> rw [hc] at hk <;> simp only [shp, Bool.false_eq_true] at hk
  simp only [cJ, stJ_self]
  rw [erv_getD] at hk
  generalize fs.getD k .null = w at hk ⊢
  cases w <;> first | rfl | (simp [erv] at hk; done)
theorem si_si (h : HF) (a : Nat) (f g : Nat → Int32) : si (si h a f) a g = si h a g := by
  show hu (hu h a _) a (ci (hu h a _ a) g) = hu h a _
  rw [hu_hu, hu_eq]
  rcases h a with ⟨t, N, f | f | f | f | f⟩ | ⟨c, fs⟩ <;> rfl
theorem sl_sl (h : HF) (a : Nat) (f g : Nat → Int64) : sl (sl h a f) a g = sl h a g := by
  show hu (hu h a _) a (cl (hu h a _ a) g) = hu h a _
  rw [hu_hu, hu_eq]
  rcases h a with ⟨t, N, f | f | f | f | f⟩ | ⟨c, fs⟩ <;> rfl
theorem si_gi (h : HF) (a : Nat) : si h a (gi h a) = h := by
  refine hu_same ?_
  simp only [gi]
  rcases h a with ⟨t, N, f | f | f | f | f⟩ | ⟨c, fs⟩ <;> rfl
theorem sl_gl (h : HF) (a : Nat) : sl h a (gl h a) = h := by
  refine hu_same ?_
  simp only [gl]
  rcases h a with ⟨t, N, f | f | f | f | f⟩ | ⟨c, fs⟩ <;> rfl
theorem stI_stI : ∀ (fs : List Value) (k : Nat) (v w : Int32), stI (stI fs k v) k w = stI fs k w
  | [], _, _, _ => rfl
  | a :: l, 0, v, w => by cases a <;> rfl
  | a :: l, k + 1, v, w => by simp only [stI, stI_stI l k v w]
theorem sI_sI (h : HF) (a k : Nat) (v w : Int32) : sI (sI h a k v) a k w = sI h a k w := by
  show hu (hu h a _) a (cI (hu h a _ a) k w) = hu h a _
  rw [hu_hu, hu_eq]
  rcases h a with ⟨t, N, f | f | f | f | f⟩ | ⟨c, fs⟩ <;> simp only [cI, stI_stI]
theorem sI_sI_comm {h : HF} {a b : Nat} (e : a ≠ b) (k : Nat) (v : Int32) (k2 : Nat) (v2 : Int32) : sI (sI h a k v) b k2 v2 = sI (sI h b k2 v2) a k v := by
  show hu (hu h a _) b (cI (hu h a _ b) k2 v2) = hu (hu h b _) a (cI (hu h b _ a) k v)
  rw [hu_ne _ _ (Ne.symm e), hu_ne _ _ e, hu_comm _ _ _ e]
theorem sI_sJ_comm {h : HF} {a b : Nat} (e : a ≠ b) (k : Nat) (v : Int32) (k2 : Nat) (v2 : Int64) : sJ (sI h a k v) b k2 v2 = sI (sJ h b k2 v2) a k v := by
  show hu (hu h a _) b (cJ (hu h a _ b) k2 v2) = hu (hu h b _) a (cI (hu h b _ a) k v)
  rw [hu_ne _ _ (Ne.symm e), hu_ne _ _ e, hu_comm _ _ _ e]
theorem sI_si_comm {h : HF} {a b : Nat} (e : a ≠ b) (k : Nat) (v : Int32) (f2 : Nat → Int32) : si (sI h a k v) b f2 = sI (si h b f2) a k v := by
  show hu (hu h a _) b (ci (hu h a _ b) f2) = hu (hu h b _) a (cI (hu h b _ a) k v)
  rw [hu_ne _ _ (Ne.symm e), hu_ne _ _ e, hu_comm _ _ _ e]
theorem sI_sl_comm {h : HF} {a b : Nat} (e : a ≠ b) (k : Nat) (v : Int32) (f2 : Nat → Int64) : sl (sI h a k v) b f2 = sI (sl h b f2) a k v := by
  show hu (hu h a _) b (cl (hu h a _ b) f2) = hu (hu h b _) a (cI (hu h b _ a) k v)
  rw [hu_ne _ _ (Ne.symm e), hu_ne _ _ e, hu_comm _ _ _ e]
theorem sJ_sI_comm {h : HF} {a b : Nat} (e : a ≠ b) (k : Nat) (v : Int64) (k2 : Nat) (v2 : Int32) : sI (sJ h a k v) b k2 v2 = sJ (sI h b k2 v2) a k v := by
  show hu (hu h a _) b (cI (hu h a _ b) k2 v2) = hu (hu h b _) a (cJ (hu h b _ a) k v)
  rw [hu_ne _ _ (Ne.symm e), hu_ne _ _ e, hu_comm _ _ _ e]
theorem sJ_sJ_comm {h : HF} {a b : Nat} (e : a ≠ b) (k : Nat) (v : Int64) (k2 : Nat) (v2 : Int64) : sJ (sJ h a k v) b k2 v2 = sJ (sJ h b k2 v2) a k v := by
  show hu (hu h a _) b (cJ (hu h a _ b) k2 v2) = hu (hu h b _) a (cJ (hu h b _ a) k v)
  rw [hu_ne _ _ (Ne.symm e), hu_ne _ _ e, hu_comm _ _ _ e]
theorem sJ_si_comm {h : HF} {a b : Nat} (e : a ≠ b) (k : Nat) (v : Int64) (f2 : Nat → Int32) : si (sJ h a k v) b f2 = sJ (si h b f2) a k v := by
  show hu (hu h a _) b (ci (hu h a _ b) f2) = hu (hu h b _) a (cJ (hu h b _ a) k v)
  rw [hu_ne _ _ (Ne.symm e), hu_ne _ _ e, hu_comm _ _ _ e]
theorem sJ_sl_comm {h : HF} {a b : Nat} (e : a ≠ b) (k : Nat) (v : Int64) (f2 : Nat → Int64) : sl (sJ h a k v) b f2 = sJ (sl h b f2) a k v := by
  show hu (hu h a _) b (cl (hu h a _ b) f2) = hu (hu h b _) a (cJ (hu h b _ a) k v)
  rw [hu_ne _ _ (Ne.symm e), hu_ne _ _ e, hu_comm _ _ _ e]
theorem si_sI_comm {h : HF} {a b : Nat} (e : a ≠ b) (f : Nat → Int32) (k2 : Nat) (v2 : Int32) : sI (si h a f) b k2 v2 = si (sI h b k2 v2) a f := by
  show hu (hu h a _) b (cI (hu h a _ b) k2 v2) = hu (hu h b _) a (ci (hu h b _ a) f)
  rw [hu_ne _ _ (Ne.symm e), hu_ne _ _ e, hu_comm _ _ _ e]
theorem si_sJ_comm {h : HF} {a b : Nat} (e : a ≠ b) (f : Nat → Int32) (k2 : Nat) (v2 : Int64) : sJ (si h a f) b k2 v2 = si (sJ h b k2 v2) a f := by
  show hu (hu h a _) b (cJ (hu h a _ b) k2 v2) = hu (hu h b _) a (ci (hu h b _ a) f)
  rw [hu_ne _ _ (Ne.symm e), hu_ne _ _ e, hu_comm _ _ _ e]
theorem si_si_comm {h : HF} {a b : Nat} (e : a ≠ b) (f : Nat → Int32) (f2 : Nat → Int32) : si (si h a f) b f2 = si (si h b f2) a f := by
  show hu (hu h a _) b (ci (hu h a _ b) f2) = hu (hu h b _) a (ci (hu h b _ a) f)
  rw [hu_ne _ _ (Ne.symm e), hu_ne _ _ e, hu_comm _ _ _ e]
theorem si_sl_comm {h : HF} {a b : Nat} (e : a ≠ b) (f : Nat → Int32) (f2 : Nat → Int64) : sl (si h a f) b f2 = si (sl h b f2) a f := by
  show hu (hu h a _) b (cl (hu h a _ b) f2) = hu (hu h b _) a (ci (hu h b _ a) f)
  rw [hu_ne _ _ (Ne.symm e), hu_ne _ _ e, hu_comm _ _ _ e]
theorem sl_sI_comm {h : HF} {a b : Nat} (e : a ≠ b) (f : Nat → Int64) (k2 : Nat) (v2 : Int32) : sI (sl h a f) b k2 v2 = sl (sI h b k2 v2) a f := by
  show hu (hu h a _) b (cI (hu h a _ b) k2 v2) = hu (hu h b _) a (cl (hu h b _ a) f)
  rw [hu_ne _ _ (Ne.symm e), hu_ne _ _ e, hu_comm _ _ _ e]
theorem sl_sJ_comm {h : HF} {a b : Nat} (e : a ≠ b) (f : Nat → Int64) (k2 : Nat) (v2 : Int64) : sJ (sl h a f) b k2 v2 = sl (sJ h b k2 v2) a f := by
  show hu (hu h a _) b (cJ (hu h a _ b) k2 v2) = hu (hu h b _) a (cl (hu h b _ a) f)
  rw [hu_ne _ _ (Ne.symm e), hu_ne _ _ e, hu_comm _ _ _ e]
theorem sl_si_comm {h : HF} {a b : Nat} (e : a ≠ b) (f : Nat → Int64) (f2 : Nat → Int32) : si (sl h a f) b f2 = sl (si h b f2) a f := by
  show hu (hu h a _) b (ci (hu h a _ b) f2) = hu (hu h b _) a (cl (hu h b _ a) f)
  rw [hu_ne _ _ (Ne.symm e), hu_ne _ _ e, hu_comm _ _ _ e]
theorem sl_sl_comm {h : HF} {a b : Nat} (e : a ≠ b) (f : Nat → Int64) (f2 : Nat → Int64) : sl (sl h a f) b f2 = sl (sl h b f2) a f := by
  show hu (hu h a _) b (cl (hu h a _ b) f2) = hu (hu h b _) a (cl (hu h b _ a) f)
  rw [hu_ne _ _ (Ne.symm e), hu_ne _ _ e, hu_comm _ _ _ e]
section YROWS
variable {M : MI} {X : SX} {Q : QF} {pc q : Nat} {ls : List (Option Value)} {st : List Value} {n : Nat} {h : HF} {kc ks : Nat}
theorem Vg.nm (k : ∀ h1 : HF, h1 = h → Vg M X Q pc ls st n h1 kc ks) : Vg M X Q pc ls st n h kc ks := k h rfl
theorem stI_set : ∀ (fs : List Value) (k : Nat) (x v : Int32), fs[k]? = some (.int x) → fs.set k (.int v) = stI fs k v
  | [], _, _, _, h => by cases h
  | a :: l, 0, x, v, h => by cases h; rfl
  | a :: l, k + 1, x, v, h => by simp only [List.set_cons_succ, stI]; rw [stI_set l k x v h]
theorem stJ_set : ∀ (fs : List Value) (k : Nat) (x v : Int64), fs[k]? = some (.long x) → fs.set k (.long v) = stJ fs k v
  | [], _, _, _, h => by cases h
  | a :: l, 0, x, v, h => by cases h; rfl
  | a :: l, k + 1, x, v, h => by simp only [List.set_cons_succ, stJ]; rw [stJ_set l k x v h]
theorem y_put {a idx ci f : Nat} {fs : List Value} {x v : Int32} {ty : FieldType} (hd : decode (mC M) pc = .ok (.putfield idx, 3)) (hq : pc + 3 = q) (hf : FL (mO M) idx ci f ty false) (ho : h a = .inr (ci, fs)) (hx : fs[f]? = some (.int x)) (hnr : narrow ty (.int v) = .int v) (hft : fits ty (.int v) = true) (ha : 0 < a ∧ a ≤ n) (k : Vg M X Q q ls st n (sI h a f v) kc ks) : Vg M X Q pc ls (.int v :: .ref a :: st) n h kc ks := by
  refine x_put hd hq hf ho (List.getElem?_eq_some_iff.mp hx).1 hnr hft ha ?_
  rw [stI_set fs f x v hx]
  have e : sI h a f v = hu h a (.inr (ci, stI fs f v)) := by simp only [sI, ho, cI]
  rw [← e]; exact k
theorem y_putJ {a idx ci f : Nat} {fs : List Value} {x v : Int64} {ty : FieldType} (hd : decode (mC M) pc = .ok (.putfield idx, 3)) (hq : pc + 3 = q) (hf : FL (mO M) idx ci f ty false) (ho : h a = .inr (ci, fs)) (hx : fs[f]? = some (.long x)) (hnr : narrow ty (.long v) = .long v) (hft : fits ty (.long v) = true) (ha : 0 < a ∧ a ≤ n) (k : Vg M X Q q ls st n (sJ h a f v) kc ks) : Vg M X Q pc ls (.long v :: .ref a :: st) n h kc ks := by
  refine x_put hd hq hf ho (List.getElem?_eq_some_iff.mp hx).1 hnr hft ha ?_
  rw [stJ_set fs f x v hx]
  have e : sJ h a f v = hu h a (.inr (ci, stJ fs f v)) := by simp only [sJ, ho, cJ]
  rw [← e]; exact k
theorem y_iast {a N : Nat} {f : Nat → Int32} {i x : Int32} (hd : decode (mC M) pc = .ok (.iastore, 1)) (hq : pc + 1 = q) (ho : h a = .inl (0, N, .inl f)) (hi : vp_in i N) (ha : 0 < a ∧ a ≤ n) (k : Vg M X Q q ls st n (si h a (upd f i.toNatClampNeg x)) kc ks) : Vg M X Q pc ls (.int x :: .int i :: .ref a :: st) n h kc ks := by
  refine x_iast hd hq ho hi ha ?_
  have e : si h a (upd f i.toNatClampNeg x) = hu h a (.inl (0, N, .inl (upd f i.toNatClampNeg x))) := by simp only [si, ho, ci]
  rw [← e]; exact k
theorem y_zast {a N : Nat} {f : Nat → Int32} {i x : Int32} (hd : decode (mC M) pc = .ok (.bastore, 1)) (hq : pc + 1 = q) (ho : h a = .inl (1, N, .inl f)) (hi : vp_in i N) (hb0 : vp_nar .boolean x = x) (ha : 0 < a ∧ a ≤ n) (k : Vg M X Q q ls st n (si h a (upd f i.toNatClampNeg x)) kc ks) : Vg M X Q pc ls (.int x :: .int i :: .ref a :: st) n h kc ks := by
  refine x_zast hd hq ho hi hb0 ha ?_
  have e : si h a (upd f i.toNatClampNeg x) = hu h a (.inl (1, N, .inl (upd f i.toNatClampNeg x))) := by simp only [si, ho, ci]
  rw [← e]; exact k
theorem y_last {a N : Nat} {f : Nat → Int64} {i : Int32} {x : Int64} (hd : decode (mC M) pc = .ok (.lastore, 1)) (hq : pc + 1 = q) (ho : h a = .inl (2, N, .inr (.inl f))) (hi : vp_in i N) (ha : 0 < a ∧ a ≤ n) (k : Vg M X Q q ls st n (sl h a (vp_updL f i.toNatClampNeg x)) kc ks) : Vg M X Q pc ls (.long x :: .int i :: .ref a :: st) n h kc ks := by
  refine x_last hd hq ho hi ha ?_
  have e : sl h a (vp_updL f i.toNatClampNeg x) = hu h a (.inl (2, N, .inr (.inl (vp_updL f i.toNatClampNeg x)))) := by simp only [sl, ho, cl]
  rw [← e]; exact k
theorem y_acopy {a a0 N N0 idx : Nat} {f g : Nat → Int32} {sp dp len : Int32} (hd : decode (mC M) pc = .ok (.invokestatic idx, 3)) (hq : pc + 3 = q) (hw1 : Cond.methodLink (mO M) idx arraycopyName ∈ gw) (ho : h a = .inl (0, N, .inl g)) (ho0 : h a0 = .inl (0, N0, .inl f)) (ha : 0 < a ∧ a ≤ n) (ha0 : 0 < a0 ∧ a0 ≤ n) (h1 : ¬ sp < 0) (h2 : ¬ dp < 0) (h3 : ¬ len < 0) (h4 : sp.toNatClampNeg + len.toNatClampNeg ≤ N0) (h5 : dp.toNatClampNeg + len.toNatClampNeg ≤ N) (hfr : 1 ≤ (mR M).frames) (hlo : cats st + 18 ≤ (mR M).locals)
    (k : Vg M X Q q ls st n (si h a (va_cpy f g sp.toNatClampNeg dp.toNatClampNeg len.toNatClampNeg)) kc ks) : Vg M X Q pc ls (.int len :: .int dp :: .ref a :: .int sp :: .ref a0 :: st) n h kc ks := by
  refine x_acopy hd hq hw1 q_acn q_acs q_aci ho ho0 ha ha0 h1 h2 h3 h4 h5 hfr hlo ?_
  have e : si h a (va_cpy f g sp.toNatClampNeg dp.toNatClampNeg len.toNatClampNeg) = hu h a (.inl (0, N, .inl (va_cpy f g sp.toNatClampNeg dp.toNatClampNeg len.toNatClampNeg))) := by simp only [si, ho, ci]
  rw [← e]; exact k
abbrev RI (v : Int32) (h1 : HF) : PQ := fun r h' => r = some (.int v) ∧ h' = h1
abbrev RJ (v : Int64) (h1 : HF) : PQ := fun r h' => r = some (.long v) ∧ h' = h1
abbrev RV (h1 : HF) : PQ := fun r h' => r = none ∧ h' = h1
theorem y_csI {M' : MI} {idx na : Nat} {av rest : List Value} {v : Int32} {h1 : HF} (hd : decode (mC M) pc = .ok (.invokestatic idx, 3)) (hq : pc + 3 = q) (hl : KS (mO M) idx M' na) (hc : Mc M' av n h (RI v h1)) (hav : av.length = na) (hs : av.reverse ++ rest = st) (h0 : (mR M').cells = 0) (h00 : (mR M').slots = 0) (hr : rok M M' kc ks = true) (hw : Nat.ble (cats rest) 8 = true) (k : Vg M X Q q ls (.int v :: rest) n h1 kc ks) : Vg M X Q pc ls st n h kc ks := by
  refine x_cs (kc' := kc) (ks' := ks) hd hq hl hc hav hs hr hw (by rw [h0, Nat.add_zero]) (by rw [h00, Nat.add_zero]) (fun r h' hp => ?_)
  obtain ⟨e1, e2⟩ := hp
  rw [e1, e2, h0, Nat.add_zero]
  exact k
theorem y_cvI {M' : MI} {idx na : Nat} {av rest : List Value} {v : Int32} {h1 : HF} {a ci : Nat} {fs : List Value} (hd : decode (mC M) pc = .ok (.invokevirtual idx, 3)) (hq : pc + 3 = q) (hl : KV (mO M) idx ci M' na) (hc : Mc M' (.ref a :: av) n h (RI v h1)) (hav : av.length = na) (hs : av.reverse ++ .ref a :: rest = st) (ho : h a = .inr (ci, fs)) (ha : 0 < a ∧ a ≤ n) (h0 : (mR M').cells = 0) (h00 : (mR M').slots = 0) (hr : rok M M' kc ks = true) (hw : Nat.ble (cats rest) 8 = true) (k : Vg M X Q q ls (.int v :: rest) n h1 kc ks) : Vg M X Q pc ls st n h kc ks := by
  refine x_cv (kc' := kc) (ks' := ks) hd hq hl hc hav hs ho ha hr hw (by rw [h0, Nat.add_zero]) (by rw [h00, Nat.add_zero]) (fun r h' hp => ?_)
  obtain ⟨e1, e2⟩ := hp
  rw [e1, e2, h0, Nat.add_zero]
  exact k
theorem y_csJ {M' : MI} {idx na : Nat} {av rest : List Value} {v : Int64} {h1 : HF} (hd : decode (mC M) pc = .ok (.invokestatic idx, 3)) (hq : pc + 3 = q) (hl : KS (mO M) idx M' na) (hc : Mc M' av n h (RJ v h1)) (hav : av.length = na) (hs : av.reverse ++ rest = st) (h0 : (mR M').cells = 0) (h00 : (mR M').slots = 0) (hr : rok M M' kc ks = true) (hw : Nat.ble (cats rest) 8 = true) (k : Vg M X Q q ls (.long v :: rest) n h1 kc ks) : Vg M X Q pc ls st n h kc ks := by
  refine x_cs (kc' := kc) (ks' := ks) hd hq hl hc hav hs hr hw (by rw [h0, Nat.add_zero]) (by rw [h00, Nat.add_zero]) (fun r h' hp => ?_)
  obtain ⟨e1, e2⟩ := hp
  rw [e1, e2, h0, Nat.add_zero]
  exact k
theorem y_cvJ {M' : MI} {idx na : Nat} {av rest : List Value} {v : Int64} {h1 : HF} {a ci : Nat} {fs : List Value} (hd : decode (mC M) pc = .ok (.invokevirtual idx, 3)) (hq : pc + 3 = q) (hl : KV (mO M) idx ci M' na) (hc : Mc M' (.ref a :: av) n h (RJ v h1)) (hav : av.length = na) (hs : av.reverse ++ .ref a :: rest = st) (ho : h a = .inr (ci, fs)) (ha : 0 < a ∧ a ≤ n) (h0 : (mR M').cells = 0) (h00 : (mR M').slots = 0) (hr : rok M M' kc ks = true) (hw : Nat.ble (cats rest) 8 = true) (k : Vg M X Q q ls (.long v :: rest) n h1 kc ks) : Vg M X Q pc ls st n h kc ks := by
  refine x_cv (kc' := kc) (ks' := ks) hd hq hl hc hav hs ho ha hr hw (by rw [h0, Nat.add_zero]) (by rw [h00, Nat.add_zero]) (fun r h' hp => ?_)
  obtain ⟨e1, e2⟩ := hp
  rw [e1, e2, h0, Nat.add_zero]
  exact k
theorem y_csV {M' : MI} {idx na : Nat} {av rest : List Value} {h1 : HF} (hd : decode (mC M) pc = .ok (.invokestatic idx, 3)) (hq : pc + 3 = q) (hl : KS (mO M) idx M' na) (hc : Mc M' av n h (RV h1)) (hav : av.length = na) (hs : av.reverse ++ rest = st) (h0 : (mR M').cells = 0) (h00 : (mR M').slots = 0) (hr : rok M M' kc ks = true) (hw : Nat.ble (cats rest) 8 = true) (k : Vg M X Q q ls (rest) n h1 kc ks) : Vg M X Q pc ls st n h kc ks := by
  refine x_cs (kc' := kc) (ks' := ks) hd hq hl hc hav hs hr hw (by rw [h0, Nat.add_zero]) (by rw [h00, Nat.add_zero]) (fun r h' hp => ?_)
  obtain ⟨e1, e2⟩ := hp
  rw [e1, e2, h0, Nat.add_zero]
  exact k
theorem y_cvV {M' : MI} {idx na : Nat} {av rest : List Value} {h1 : HF} {a ci : Nat} {fs : List Value} (hd : decode (mC M) pc = .ok (.invokevirtual idx, 3)) (hq : pc + 3 = q) (hl : KV (mO M) idx ci M' na) (hc : Mc M' (.ref a :: av) n h (RV h1)) (hav : av.length = na) (hs : av.reverse ++ .ref a :: rest = st) (ho : h a = .inr (ci, fs)) (ha : 0 < a ∧ a ≤ n) (h0 : (mR M').cells = 0) (h00 : (mR M').slots = 0) (hr : rok M M' kc ks = true) (hw : Nat.ble (cats rest) 8 = true) (k : Vg M X Q q ls (rest) n h1 kc ks) : Vg M X Q pc ls st n h kc ks := by
  refine x_cv (kc' := kc) (ks' := ks) hd hq hl hc hav hs ho ha hr hw (by rw [h0, Nat.add_zero]) (by rw [h00, Nat.add_zero]) (fun r h' hp => ?_)
  obtain ⟨e1, e2⟩ := hp
  rw [e1, e2, h0, Nat.add_zero]
  exact k
end YROWS
