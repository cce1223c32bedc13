/-! The logic of this proof: one world of all cells, told by indices; index 0 is the script, index i + 1 is the cell at b + i. -/
def nwp (w : Cond) : Bool := match w with
  | .fieldLinkNest .. => true
  | .methodLinkNest .. => true
  | _ => false
def gw : List Cond := lw_tbl.filter goodWord
def nw : List Cond := lw_tbl.filter nwp
theorem gw_at (i : Nat) {w : Cond} (h : lw_tbl[i]? = some w) (hg : goodWord w = true) : w ∈ gw := List.mem_filter.mpr ⟨List.mem_of_getElem? h, hg⟩
theorem nw_at (i : Nat) {w : Cond} (h : lw_tbl[i]? = some w) (hg : nwp w = true) : w ∈ nw := List.mem_filter.mpr ⟨List.mem_of_getElem? h, hg⟩
theorem nw_warm {w : Cond} {s U : State} (hw : nwp w = true) (hW : s.WarmedH U.vm) (h : va_Nw w s) : va_Nw w U := by
  cases w <;> first | exact va_Nw.warmF hW h | exact va_Nw.warmM hW h | (simp [nwp] at hw; done)
theorem nw_same {w : Cond} {s U : State} (hw : nwp w = true) (hV : s.vm = U.vm) (h : va_Nw w s) : va_Nw w U := by
  cases w <;> first | exact va_Nw.same rfl hV h | (simp [nwp] at hw; done)
theorem nw_use {w : Cond} {s : State} {A : Array Value} (hw : nwp w = true) (h : va_Nw w s) : w.before A s = true := by
  cases w <;> first | exact va_Nw.use rfl h | (simp [nwp] at hw; done)
abbrev CE : Type := (Nat × vp_A) ⊕ (Nat × List Value)
abbrev HF : Type := Nat → CE
def aT (t : Nat) : FieldType := match t with
  | 0 => .int
  | 1 => .boolean
  | 2 => .long
  | 3 => .object "ColourWorks$Batch"
  | _ => .object "ColourWorks$Tank"
def tys5 (dA : Nat → ClassId) : List (ClassId × FieldType) := [(dA 0, aT 0), (dA 1, aT 1), (dA 2, aT 2), (dA 3, aT 3), (dA 4, aT 4)]
def ad (sc b : Nat) (k : Nat) : Nat := match k with
  | 0 => sc
  | k + 1 => b + k
def tV (sc b : Nat) (v : Value) : Value := match v with
  | .ref k => .ref (ad sc b k)
  | w => w
def tA (sc b : Nat) (x : vp_A) : vp_A := match x with
  | (n, .inr (.inr (.inr (.inr f)))) => (n, .inr (.inr (.inr (.inr (fun j => (f j).map (ad sc b))))))
  | y => y
def tE (sc b : Nat) (dA : Nat → ClassId) (c : CE) : va_E := match c with
  | .inl (t, x) => .inl (dA t, tA sc b x)
  | .inr (ci, fs) => .inr (ci, fs.map (tV sc b))
def hu (h : HF) (i : Nat) (c : CE) : HF := fun j => cond (Nat.beq j i) c (h j)
theorem hu_eq (h : HF) (i : Nat) (c : CE) : hu h i c i = c := by simp [hu]
theorem hu_ne (h : HF) {i j : Nat} (c : CE) (hne : j ≠ i) : hu h i c j = h j := by
  have : Nat.beq j i = false := by
    cases hb : Nat.beq j i with
    | false => rfl
    | true => exact absurd (Nat.eq_of_beq_eq_true hb) hne
  simp [hu, this]
theorem hu_hu (h : HF) (i : Nat) (c d : CE) : hu (hu h i c) i d = hu h i d := by
  funext j
  by_cases hj : j = i
  · subst hj; rw [hu_eq, hu_eq]
  · rw [hu_ne _ _ hj, hu_ne _ _ hj, hu_ne _ _ hj]
theorem hu_self (h : HF) (i : Nat) : hu h i (h i) = h := by
  funext j
  by_cases hj : j = i
  · subst hj; rw [hu_eq]
  · rw [hu_ne _ _ hj]
theorem hu_same {h : HF} {i : Nat} {c : CE} (e : h i = c) : hu h i c = h := by rw [← e]; exact hu_self h i
theorem hu_comm (h : HF) {i j : Nat} (c d : CE) (hne : i ≠ j) : hu (hu h i c) j d = hu (hu h j d) i c := by
  funext k
  by_cases hk : k = j
  · subst hk; rw [hu_eq, hu_ne _ _ (Ne.symm hne), hu_eq]
  · rw [hu_ne _ _ hk]
    by_cases hi : k = i
    · subst hi; rw [hu_eq, hu_eq]
    · rw [hu_ne _ _ hi, hu_ne _ _ hi, hu_ne _ _ hk]
def wd (sc b : Nat) (dA : Nat → ClassId) (n : Nat) (h : HF) : va_W := (List.range n).map (fun i => (b + i, tE sc b dA (h (i + 1))))
theorem wd_len {sc b n : Nat} {dA : Nat → ClassId} {h : HF} : (wd sc b dA n h).length = n := by simp [wd]
theorem wd_at {sc b n : Nat} {dA : Nat → ClassId} {h : HF} {q : Nat} (hq : q < n) : (wd sc b dA n h)[q]? = some (b + q, tE sc b dA (h (q + 1))) := by
  simp [wd, hq]
theorem wd_in {sc b n : Nat} {dA : Nat → ClassId} {h : HF} {q : Nat} {x : Nat × va_E} (hx : (wd sc b dA n h)[q]? = some x) : q < n ∧ x = (b + q, tE sc b dA (h (q + 1))) := by
  have hl := (List.getElem?_eq_some_iff.mp hx).1
  rw [wd_len] at hl
  rw [wd_at hl] at hx
  exact ⟨hl, (Option.some.inj hx).symm⟩
theorem wd_set {sc b n : Nat} {dA : Nat → ClassId} {h : HF} {q : Nat} (c : CE) : (wd sc b dA n h).set q (b + q, tE sc b dA c) = wd sc b dA n (hu h (q + 1) c) := by
  apply List.ext_getElem?
  intro j
  by_cases hj : j < n
  · rw [wd_at hj]
    by_cases e : q = j
    · subst e
      rw [List.getElem?_set_self (by rw [wd_len]; exact hj), hu_eq]
    · rw [List.getElem?_set_ne e, wd_at hj, hu_ne _ _ (by omega)]
  · rw [List.getElem?_eq_none (by rw [List.length_set, wd_len]; omega), List.getElem?_eq_none (by rw [wd_len]; omega)]
theorem wd_push {sc b n : Nat} {dA : Nat → ClassId} {h : HF} (c : CE) : wd sc b dA n h ++ [(b + n, tE sc b dA c)] = wd sc b dA (n + 1) (hu h (n + 1) c) := by
  apply List.ext_getElem?
  intro j
  by_cases hj : j < n
  · rw [List.getElem?_append_left (by rw [wd_len]; exact hj), wd_at hj, wd_at (by omega), hu_ne _ _ (by omega)]
  · rw [List.getElem?_append_right (by rw [wd_len]; omega), wd_len]
    by_cases e : j = n
    · subst e
      rw [Nat.sub_self, wd_at (by omega), hu_eq]
      rfl
    · rw [List.getElem?_eq_none (by simp; omega), List.getElem?_eq_none (by rw [wd_len]; omega)]
theorem wd_D {sc b n : Nat} {dA : Nat → ClassId} {h : HF} : va_D (fun q : Nat => b ≤ q) (wd sc b dA n h) := by
  refine ⟨fun i j x y hi hj hxy => ?_, fun k q hk => ?_⟩
  · obtain ⟨-, e1⟩ := wd_in hi
    obtain ⟨-, e2⟩ := wd_in hj
    rw [e1, e2] at hxy
    exact Nat.add_left_cancel hxy
  · obtain ⟨-, e1⟩ := wd_in hk
    rw [e1]
    exact Nat.le_add_right b k
theorem wd_size {sc b n : Nat} {D : va_G} {dA : Nat → ClassId} {h : HF} {H : Heap} (hP : va_P D vwCl (wd sc b dA n h) H) (h0 : b ≤ H.size) : b + n ≤ H.size := by
  cases n with
  | zero => exact h0
  | succ n =>
    have := (hP n _ (wd_at (Nat.lt_succ_self n))).lt
    have e : b + n < H.size := this
    omega
def Kx (D : va_G) (dA : Nat → ClassId) (U : State) : Prop := va_K D vwCl (tys5 dA) U ∧ (∀ w ∈ nw, va_Nw w U) ∧ va_AO "ColourWorks$Batch" U ∧ va_AO "ColourWorks$Tank" U
theorem Kx.warm {D : va_G} {dA : Nat → ClassId} {s U : State} (hW : s.WarmedH U.vm) (h : Kx D dA s) : Kx D dA U :=
  ⟨va_K.moved hW.alike h.1, fun w hw => nw_warm (List.mem_filter.mp hw).2 hW (h.2.1 w hw), va_AO.moved hW.alike h.2.2.1, va_AO.moved hW.alike h.2.2.2⟩
theorem Kx.callS {D : va_G} {dA : Nat → ClassId} {U : State} {g : JFrame} {mk : MethodId} {a : Array Value} (h : Kx D dA U) : Kx D dA (U.calling g mk a) :=
  ⟨va_K.moved (u := U) (U := U.calling g mk a) (Vm.Alike.refl U.vm) h.1, fun w hw => nw_same (s := U) (U := U.calling g mk a) (List.mem_filter.mp hw).2 rfl (h.2.1 w hw), va_AO.moved (u := U) (U := U.calling g mk a) (Vm.Alike.refl U.vm) h.2.2.1, va_AO.moved (u := U) (U := U.calling g mk a) (Vm.Alike.refl U.vm) h.2.2.2⟩
-- methods: owner, name, bytes, locals' words, what it returns, room
abbrev MI : Type := String × MethodName × ByteArray × Nat × Option FieldType × Room
abbrev mO (M : MI) : String := M.1
abbrev mY (M : MI) : MethodName := M.2.1
abbrev mC (M : MI) : ByteArray := M.2.2.1
abbrev mL (M : MI) : Nat := M.2.2.2.1
abbrev mT (M : MI) : Option FieldType := M.2.2.2.2.1
abbrev mR (M : MI) : Room := M.2.2.2.2.2
def miW (M : MI) : List Cond := Cond.code (mY M) (mC M) (mL M) (mT M) :: gw
-- locals
def lg : List (Option Value) → Nat → Option Value
  | [], _ => none
  | a :: _, 0 => a
  | _ :: l, i + 1 => lg l i
def lkill (a : Option Value) : Option Value := match a with
  | some (.long _) => none
  | some (.double _) => none
  | x => x
def ls1 : List (Option Value) → Nat → Value → List (Option Value)
  | [], _, _ => []
  | _ :: l, 0, v => some v :: l
  | a :: l, i + 1, v => cond (Nat.beq i 0) (lkill a) a :: ls1 l i v
def lclr : List (Option Value) → List (Option Value)
  | [] => []
  | _ :: l => none :: l
def ls2 : List (Option Value) → Nat → Value → List (Option Value)
  | [], _, _ => []
  | _ :: l, 0, v => some v :: lclr l
  | a :: l, i + 1, v => cond (Nat.beq i 0) (lkill a) a :: ls2 l i v
theorem tV_cat (sc b : Nat) (v : Value) : (tV sc b v).category = v.category := by cases v <;> rfl
theorem lkill_some {a : Option Value} {w : Value} (h : lkill a = some w) : a = some w ∧ ¬ w.category = 2 := by
  cases a with
  | none => cases h
  | some x => cases x <;> simp [lkill] at h <;> subst h <;> exact ⟨rfl, by simp [Value.category]⟩
theorem lg_ls1 : ∀ (ls : List (Option Value)) (i j : Nat) (v w : Value), lg (ls1 ls i v) j = some w → (j = i ∧ w = v) ∨ (j ≠ i ∧ lg ls j = some w ∧ ¬ (j + 1 = i ∧ w.category = 2))
  | [], _, _, _, _, h => by simp [ls1, lg] at h
  | a :: l, 0, j, v, w, h => by
    cases j with
    | zero => exact Or.inl ⟨rfl, (Option.some.inj h).symm⟩
    | succ j => exact Or.inr ⟨by omega, h, by omega⟩
  | a :: l, i + 1, j, v, w, h => by
    cases j with
    | zero =>
      cases i with
      | zero =>
        obtain ⟨h1, h2⟩ := lkill_some (a := a) h
        exact Or.inr ⟨by omega, h1, fun q => h2 q.2⟩
      | succ i => exact Or.inr ⟨by omega, h, by omega⟩
    | succ j =>
      rcases lg_ls1 l i j v w h with ⟨h1, h2⟩ | ⟨h1, h2, h3⟩
      · exact Or.inl ⟨by omega, h2⟩
      · exact Or.inr ⟨by omega, h2, fun q => h3 ⟨by omega, q.2⟩⟩
theorem lg_lclr {l : List (Option Value)} {j : Nat} {w : Value} (h : lg (lclr l) j = some w) : j ≠ 0 ∧ lg l j = some w := by
  cases l with
  | nil => cases h
  | cons a l =>
    cases j with
    | zero => cases h
    | succ j => exact ⟨by omega, h⟩
theorem lg_ls2 : ∀ (ls : List (Option Value)) (i j : Nat) (v w : Value), lg (ls2 ls i v) j = some w → (j = i ∧ w = v) ∨ (j ≠ i ∧ j ≠ i + 1 ∧ lg ls j = some w ∧ ¬ (j + 1 = i ∧ w.category = 2))
  | [], _, _, _, _, h => by simp [ls2, lg] at h
  | a :: l, 0, j, v, w, h => by
    cases j with
    | zero => exact Or.inl ⟨rfl, (Option.some.inj h).symm⟩
    | succ j =>
      obtain ⟨h1, h2⟩ := lg_lclr (l := l) (j := j) h
      exact Or.inr ⟨by omega, by omega, h2, by omega⟩
  | a :: l, i + 1, j, v, w, h => by
    cases j with
    | zero =>
      cases i with
      | zero =>
        obtain ⟨h1, h2⟩ := lkill_some (a := a) h
        exact Or.inr ⟨by omega, by omega, h1, fun q => h2 q.2⟩
      | succ i => exact Or.inr ⟨by omega, by omega, h, by omega⟩
    | succ j =>
      rcases lg_ls2 l i j v w h with ⟨h1, h2⟩ | ⟨h1, h2, h3, h4⟩
      · exact Or.inl ⟨by omega, h2⟩
      · exact Or.inr ⟨by omega, by omega, h3, fun q => h4 ⟨by omega, q.2⟩⟩
def lsq (sc b : Nat) : Nat → List (Option Value) → List (Nat × Value)
  | _, [] => []
  | i, none :: l => lsq sc b (i + 1) l
  | i, some v :: l => (i, tV sc b v) :: lsq sc b (i + 1) l
theorem lsq_mem (sc b : Nat) : ∀ (ls : List (Option Value)) (i : Nat) (q : Nat × Value), q ∈ lsq sc b i ls ↔ ∃ (j : Nat) (v : Value), lg ls j = some v ∧ q = (i + j, tV sc b v)
  | [], i, q => by simp [lsq, lg]
  | none :: l, i, q => by
    rw [lsq, lsq_mem sc b l (i + 1) q]
    constructor
    · rintro ⟨j, v, h1, h2⟩
      exact ⟨j + 1, v, h1, by rw [h2, Nat.add_assoc, Nat.add_comm 1 j]⟩
    · rintro ⟨j, v, h1, h2⟩
      cases j with
      | zero => cases h1
      | succ j => exact ⟨j, v, h1, by rw [h2, Nat.add_assoc, Nat.add_comm 1 j]⟩
  | some w :: l, i, q => by
    rw [lsq, List.mem_cons, lsq_mem sc b l (i + 1) q]
    constructor
    · rintro (h | ⟨j, v, h1, h2⟩)
      · exact ⟨0, w, rfl, h⟩
      · exact ⟨j + 1, v, h1, by rw [h2, Nat.add_assoc, Nat.add_comm 1 j]⟩
    · rintro ⟨j, v, h1, h2⟩
      cases j with
      | zero => cases h1; exact Or.inl h2
      | succ j => exact Or.inr ⟨j, v, h1, by rw [h2, Nat.add_assoc, Nat.add_comm 1 j]⟩
def LSr (sc b nL : Nat) (ls : List (Option Value)) (lsm : Array Slot) : Prop := lv_has lsm nL (lsq sc b 0 ls)
theorem LSr.at {sc b nL : Nat} {ls : List (Option Value)} {lsm : Array Slot} (h : LSr sc b nL ls lsm) {i : Nat} {v : Value} (hi : lg ls i = some v) : lsm[i]? = some (.val (tV sc b v)) :=
  h.2.2 (i, tV sc b v) ((lsq_mem sc b ls 0 _).mpr ⟨i, v, hi, by rw [Nat.zero_add]⟩)
theorem LSr.st1 {sc b nL : Nat} {ls : List (Option Value)} {lsm : Array Slot} {i : Nat} {v : Value} (h : lv_has lsm nL ((i, tV sc b v) :: (lsq sc b 0 ls).filter (fun q => !(q.1 == i) && !(q.1 + 1 == i && q.2.category == 2)))) : LSr sc b nL (ls1 ls i v) lsm := by
  refine ⟨h.1, h.2.1, fun q hq => ?_⟩
  obtain ⟨j, w, h1, h2⟩ := (lsq_mem sc b _ 0 q).mp hq
  rw [Nat.zero_add] at h2
  subst h2
  rcases lg_ls1 ls i j v w h1 with ⟨e1, e2⟩ | ⟨e1, e2, e3⟩
  · subst e1; subst e2
    exact h.2.2 _ List.mem_cons_self
  · refine h.2.2 _ (List.mem_cons_of_mem _ (List.mem_filter.mpr ⟨(lsq_mem sc b ls 0 _).mpr ⟨j, w, e2, by rw [Nat.zero_add]⟩, ?_⟩))
    simp only [tV_cat, Bool.and_eq_true, Bool.not_eq_true', beq_eq_false_iff_ne, ne_eq, Bool.and_eq_false_iff]
    exact ⟨e1, Classical.byContradiction fun z => e3 ⟨Classical.byContradiction fun y => z (Or.inl y), Classical.byContradiction fun y => z (Or.inr y)⟩⟩
theorem LSr.st2 {sc b nL : Nat} {ls : List (Option Value)} {lsm : Array Slot} {i : Nat} {v : Value} (h : lv_has lsm nL ((i, tV sc b v) :: (lsq sc b 0 ls).filter (fun q => !(q.1 == i) && (!(q.1 == i + 1) && !(q.1 + 1 == i && q.2.category == 2))))) : LSr sc b nL (ls2 ls i v) lsm := by
  refine ⟨h.1, h.2.1, fun q hq => ?_⟩
  obtain ⟨j, w, h1, h2⟩ := (lsq_mem sc b _ 0 q).mp hq
  rw [Nat.zero_add] at h2
  subst h2
  rcases lg_ls2 ls i j v w h1 with ⟨e1, e2⟩ | ⟨e1, e0, e2, e3⟩
  · subst e1; subst e2
    exact h.2.2 _ List.mem_cons_self
  · refine h.2.2 _ (List.mem_cons_of_mem _ (List.mem_filter.mpr ⟨(lsq_mem sc b ls 0 _).mpr ⟨j, w, e2, by rw [Nat.zero_add]⟩, ?_⟩))
    simp only [tV_cat, Bool.and_eq_true, Bool.not_eq_true', beq_eq_false_iff_ne, ne_eq, Bool.and_eq_false_iff]
    exact ⟨e1, e0, Classical.byContradiction fun z => e3 ⟨Classical.byContradiction fun y => z (Or.inl y), Classical.byContradiction fun y => z (Or.inr y)⟩⟩
-- what holds of a run of a method
abbrev SX : Type := Option (Nat × (Nat → Int32))
def Cx (M : MI) (X : SX) (D : va_G) (dA : Nat → ClassId) (sc b n0 : Nat) (p : Program) (s : State) (m : MethodId) (args : Array Value) (meth : Method) (c : Code) : Prop :=
  p.tables.exec = Jvm.exec ∧ c.code = mC M ∧ meth.sig.returnType = mT M ∧ c.maxLocals = mL M ∧ s.vm.findClass (mO M) = some m.cls ∧ (∀ w ∈ gw, w.before args s = true) ∧ meth.locks = false ∧ Kx D dA s ∧ s.heap.size = b + n0 ∧ meth.name = (mY M).name ∧ (∀ q : Nat × (Nat → Int32), X = some q → va_X sc q.1 q.2 s s.heap ∧ sc < b ∧ n0 = 0)
abbrev QF : Type := va_G → (Nat → ClassId) → Nat → Nat → List Frame → Array Value → State → State → Prop
def Vg (M : MI) (X : SX) (Q : QF) (pc : Nat) (ls : List (Option Value)) (st : List Value) (n : Nat) (h : HF) (kc ks : Nat) : Prop :=
  ∀ (D : va_G) (dA : Nat → ClassId) (sc b n0 : Nat) (p : Program) (l : Launch) (e : Env) (s : State) (m : MethodId) (args : Array Value) (below : List Frame) (meth : Method) (c : Code),
    Cx M X D dA sc b n0 p s m args meth c → ∀ (H : Heap) (locs : List Loc) (lsm : Array Slot), va_P D vwCl (wd sc b dA n h) H → n0 + kc = n → va_S (fun q : Nat => b ≤ q) s.heap H locs → LSr sc b (mL M) ls lsm →
      W p l e (mR M) s m args below meth c H locs kc ks (Q D dA sc b below args s) (F0 m pc lsm (st.map (tV sc b)))
def Pre (D : va_G) (dA : Nat → ClassId) (sc b n : Nat) (h : HF) (U : State) : Prop := va_P D vwCl (wd sc b dA n h) U.heap ∧ U.heap.size = b + n ∧ Kx D dA U
abbrev PQ : Type := Option Value → HF → Prop
def Qx (n : Nat) (Post : PQ) (D : va_G) (dA : Nat → ClassId) (sc b : Nat) : Array Value → State → Outcome → State → Prop := fun _ st oc t =>
  ∃ (r : Option Value) (h : HF), oc = .returned (r.map (tV sc b)) ∧ Post r h ∧ va_P D vwCl (wd sc b dA n h) t.heap ∧ va_F (fun q : Nat => b ≤ q) st t
/-- a method's contract: on the world (n, h), with the arguments av, it returns as Post says; mc cells are new -/
def Mc (M : MI) (av : List Value) (n : Nat) (h : HF) (Post : PQ) : Prop :=
  ∀ (l : Launch) (D : va_G) (dA : Nat → ClassId) (sc b : Nat), Met l (mY M) (miW M) (mR M) (va_Pc (av.map (tV sc b)) (Pre D dA sc b n h)) (Qx (n + (mR M).cells) Post D dA sc b) (mR M).cells (mR M).slots (fun q : Nat => b ≤ q)
def QM (M : MI) (n : Nat) (Post : PQ) : QF := fun D dA sc b below args s => MQ below (Qx (n + (mR M).cells) Post D dA sc b) args s (mR M).cells (mR M).slots (fun q : Nat => b ≤ q)
/-- the locals at a method's entry -/
def lent : List Value → List (Option Value)
  | [] => []
  | v :: l => match v with
    | .long x => some (.long x) :: none :: lent l
    | .double x => some (.double x) :: none :: lent l
    | w => some w :: lent l
theorem lent_has (sc b : Nat) : ∀ (av : List Value) (i j : Nat) (v : Value), lg (lent av) j = some v → (i + j, tV sc b v) ∈ lv_args i (av.map (tV sc b))
  | [], i, j, v, h => by simp [lent, lg] at h
  | w :: l, i, j, v, h => by
    have two : ∀ (u : Value), u.category = 2 → lg (some u :: none :: lent l) j = some v → (i + j, tV sc b v) ∈ lv_args i ((u :: l).map (tV sc b)) := by
      intro u hu hj
      rw [List.map_cons, lv_args, tV_cat, if_pos hu]
      cases j with
      | zero => cases hj; exact List.mem_cons_self
      | succ j =>
        cases j with
        | zero => cases hj
        | succ j =>
          have := lent_has sc b l (i + 2) j v hj
          rw [show i + (j + 1 + 1) = i + 2 + j by omega]
          exact List.mem_cons_of_mem _ this
    have one : ∀ (u : Value), ¬ u.category = 2 → lg (some u :: lent l) j = some v → (i + j, tV sc b v) ∈ lv_args i ((u :: l).map (tV sc b)) := by
      intro u hu hj
      rw [List.map_cons, lv_args, tV_cat, if_neg hu]
      cases j with
      | zero => cases hj; exact List.mem_cons_self
      | succ j =>
        have := lent_has sc b l (i + 1) j v hj
        rw [show i + (j + 1) = i + 1 + j by omega]
        exact List.mem_cons_of_mem _ this
    cases w with
    | long x => exact two _ rfl h
    | double x => exact two _ rfl h
    | int x => exact one _ (by simp [Value.category]) h
    | float x => exact one _ (by simp [Value.category]) h
    | null => exact one _ (by simp [Value.category]) h
    | ref x => exact one _ (by simp [Value.category]) h
    | retAddr x => exact one _ (by simp [Value.category]) h
theorem lg_app {l : List (Option Value)} {k : Nat} : ∀ {j : Nat} {v : Value}, lg (l ++ List.replicate k none) j = some v → lg l j = some v := by
  induction l with
  | nil =>
    intro j v h
    exfalso
    rw [List.nil_append] at h
    induction k generalizing j with
    | zero => cases h
    | succ k ih =>
      cases j with
      | zero => cases h
      | succ j => exact ih h
  | cons a l ih =>
    intro j v h
    cases j with
    | zero => exact h
    | succ j => exact ih h
def lent0 (av : List Value) (n : Nat) : List (Option Value) := lent av ++ List.replicate (n - (lent av).length) none
theorem W.bnd {p : Program} {l : Launch} {e : Env} {R : Room} {s : State} {m : MethodId} {args : Array Value} {below : List Frame} {meth : Method} {c : Code} {H : Heap} {locs : List Loc} {cells slots : Nat} {Q : State → Prop} {g : JFrame}
    (k : H.size ≤ s.heap.size + cells → W p l e R s m args below meth c H locs cells slots Q g) : W p l e R s m args below meth c H locs cells slots Q g := by
  intro T hT X
  have h := X.same.2.2.1
  exact k (by rw [← hT]; exact h) T hT X
/-- a contract out of a walk -/
theorem Mc.of {M : MI} {av : List Value} {n : Nat} {h : HF} {Post : PQ} (hy : plainName (mY M).cls = true) (hown : (mY M).cls = mO M) (hlen : (lg_sl av).length ≤ mL M)
    (k : Vg M none (QM M n Post) 0 (lent0 av (mL M)) [] n h 0 0) : Mc M av n h Post := by
  intro l D dA sc b
  refine Met.ofW (cc := mC M) (maxL := mL M) (ret := mT M) hy rfl ?_
  intro p e s m args below meth c s₁ B hml hv
  obtain ⟨hargs, hP, hsz, hK⟩ := hv
  have hts := atoms_spec (ws := miW M) B.pre
  have hfc : s.vm.findClass (mO M) = some m.cls := by rw [← hown]; exact findClass_of_methodNamed B.named
  have hin : meth.name = (mY M).name := (name_of_methodNamed B.named B.method).1
  have hl2 : (lg_sl (av.map (tV sc b))).length ≤ mL M := by
    have e : ∀ vs : List Value, (lg_sl (vs.map (tV sc b))).length = (lg_sl vs).length := by
      intro vs
      induction vs with
      | nil => rfl
      | cons v vs ih =>
        simp only [lg_sl, List.map_cons, List.flatMap_cons, List.length_append, tV_cat] at ih ⊢
        rw [ih]
        by_cases hc : v.category = 2
        · rw [if_pos hc, if_pos hc]; rfl
        · rw [if_neg hc, if_neg hc]; rfl
    rw [e]; exact hlen
  have hl := lv_entry (av.map (tV sc b)) (n := mL M) hl2
  subst hargs
  rw [lg_entry_eq]
  refine k D dA sc b n p l e s m _ below meth c ⟨B.exec, B.bytes, B.returns, hml, hfc, fun w hw => hts w (List.mem_cons_of_mem _ hw), B.notSynchronized, hK, hsz, hin, fun q hq => by cases hq⟩ s.heap [] _ hP (by omega) va_S.rf ?_
  refine ⟨hl.1, hl.2.1, fun q hq => ?_⟩
  obtain ⟨j, v, h1, h2⟩ := (lsq_mem sc b _ 0 q).mp hq
  subst h2
  exact hl.2.2 _ (lent_has sc b av 0 j v (lg_app h1))

section ROWS
variable {M : MI} {X : SX} {Q : QF} {pc q : Nat} {ls : List (Option Value)} {st : List Value} {n : Nat} {h : HF} {kc ks : Nat}
theorem x_iadd {x y : Int32} (hd : decode (mC M) pc = .ok (.iadd, 1)) (hq : pc + 1 = q)  (k : Vg M X Q q ls (.int (x + y) :: st) n h kc ks) : Vg M X Q pc ls (.int y :: .int x :: st) n h kc ks := by
  subst hq
  intro D dA sc b n0 p l e s m args below meth c C H locs lsm hP hn hS hL
  exact lv_iadd C.1 C.2.1 hd (k D dA sc b n0 p l e s m args below meth c C H locs lsm hP hn hS hL)
theorem x_isub {x y : Int32} (hd : decode (mC M) pc = .ok (.isub, 1)) (hq : pc + 1 = q)  (k : Vg M X Q q ls (.int (x - y) :: st) n h kc ks) : Vg M X Q pc ls (.int y :: .int x :: st) n h kc ks := by
  subst hq
  intro D dA sc b n0 p l e s m args below meth c C H locs lsm hP hn hS hL
  exact lv_isub C.1 C.2.1 hd (k D dA sc b n0 p l e s m args below meth c C H locs lsm hP hn hS hL)
theorem x_imul {x y : Int32} (hd : decode (mC M) pc = .ok (.imul, 1)) (hq : pc + 1 = q)  (k : Vg M X Q q ls (.int (x * y) :: st) n h kc ks) : Vg M X Q pc ls (.int y :: .int x :: st) n h kc ks := by
  subst hq
  intro D dA sc b n0 p l e s m args below meth c C H locs lsm hP hn hS hL
  exact lv_imul C.1 C.2.1 hd (k D dA sc b n0 p l e s m args below meth c C H locs lsm hP hn hS hL)
theorem x_iand {x y : Int32} (hd : decode (mC M) pc = .ok (.iand, 1)) (hq : pc + 1 = q)  (k : Vg M X Q q ls (.int (x &&& y) :: st) n h kc ks) : Vg M X Q pc ls (.int y :: .int x :: st) n h kc ks := by
  subst hq
  intro D dA sc b n0 p l e s m args below meth c C H locs lsm hP hn hS hL
  exact lv_iand C.1 C.2.1 hd (k D dA sc b n0 p l e s m args below meth c C H locs lsm hP hn hS hL)
theorem x_ior {x y : Int32} (hd : decode (mC M) pc = .ok (.ior, 1)) (hq : pc + 1 = q)  (k : Vg M X Q q ls (.int (x ||| y) :: st) n h kc ks) : Vg M X Q pc ls (.int y :: .int x :: st) n h kc ks := by
  subst hq
  intro D dA sc b n0 p l e s m args below meth c C H locs lsm hP hn hS hL
  exact lv_ior C.1 C.2.1 hd (k D dA sc b n0 p l e s m args below meth c C H locs lsm hP hn hS hL)
theorem x_ishl {x y : Int32} (hd : decode (mC M) pc = .ok (.ishl, 1)) (hq : pc + 1 = q)  (k : Vg M X Q q ls (.int (x <<< (y &&& 31)) :: st) n h kc ks) : Vg M X Q pc ls (.int y :: .int x :: st) n h kc ks := by
  subst hq
  intro D dA sc b n0 p l e s m args below meth c C H locs lsm hP hn hS hL
  exact lv_ishl C.1 C.2.1 hd (k D dA sc b n0 p l e s m args below meth c C H locs lsm hP hn hS hL)
theorem x_ishr {x y : Int32} (hd : decode (mC M) pc = .ok (.ishr, 1)) (hq : pc + 1 = q)  (k : Vg M X Q q ls (.int (x >>> (y &&& 31)) :: st) n h kc ks) : Vg M X Q pc ls (.int y :: .int x :: st) n h kc ks := by
  subst hq
  intro D dA sc b n0 p l e s m args below meth c C H locs lsm hP hn hS hL
  exact lv_ishr C.1 C.2.1 hd (k D dA sc b n0 p l e s m args below meth c C H locs lsm hP hn hS hL)
theorem x_iushr {x y v : Int32} (hd : decode (mC M) pc = .ok (.iushr, 1)) (hq : pc + 1 = q) (hv : (x.toUInt32 >>> (y.toUInt32 &&& Int32.toUInt32 31)).toInt32 = v) (k : Vg M X Q q ls (.int v :: st) n h kc ks) : Vg M X Q pc ls (.int y :: .int x :: st) n h kc ks := by
  subst hq
  intro D dA sc b n0 p l e s m args below meth c C H locs lsm hP hn hS hL
  exact lv_iushr C.1 C.2.1 hd hv (k D dA sc b n0 p l e s m args below meth c C H locs lsm hP hn hS hL)
theorem x_ineg {x : Int32} (hd : decode (mC M) pc = .ok (.ineg, 1)) (hq : pc + 1 = q)  (k : Vg M X Q q ls (.int (-x) :: st) n h kc ks) : Vg M X Q pc ls (.int x :: st) n h kc ks := by
  subst hq
  intro D dA sc b n0 p l e s m args below meth c C H locs lsm hP hn hS hL
  exact lv_ineg C.1 C.2.1 hd (k D dA sc b n0 p l e s m args below meth c C H locs lsm hP hn hS hL)
theorem x_ladd {x y : Int64} (hd : decode (mC M) pc = .ok (.ladd, 1)) (hq : pc + 1 = q)  (k : Vg M X Q q ls (.long (x + y) :: st) n h kc ks) : Vg M X Q pc ls (.long y :: .long x :: st) n h kc ks := by
  subst hq
  intro D dA sc b n0 p l e s m args below meth c C H locs lsm hP hn hS hL
  exact lv_ladd C.1 C.2.1 hd (k D dA sc b n0 p l e s m args below meth c C H locs lsm hP hn hS hL)
theorem x_lsub {x y : Int64} (hd : decode (mC M) pc = .ok (.lsub, 1)) (hq : pc + 1 = q)  (k : Vg M X Q q ls (.long (x - y) :: st) n h kc ks) : Vg M X Q pc ls (.long y :: .long x :: st) n h kc ks := by
  subst hq
  intro D dA sc b n0 p l e s m args below meth c C H locs lsm hP hn hS hL
  exact lv_lsub C.1 C.2.1 hd (k D dA sc b n0 p l e s m args below meth c C H locs lsm hP hn hS hL)
theorem x_lmul {x y : Int64} (hd : decode (mC M) pc = .ok (.lmul, 1)) (hq : pc + 1 = q)  (k : Vg M X Q q ls (.long (x * y) :: st) n h kc ks) : Vg M X Q pc ls (.long y :: .long x :: st) n h kc ks := by
  subst hq
  intro D dA sc b n0 p l e s m args below meth c C H locs lsm hP hn hS hL
  exact lv_lmul C.1 C.2.1 hd (k D dA sc b n0 p l e s m args below meth c C H locs lsm hP hn hS hL)
theorem x_land {x y : Int64} (hd : decode (mC M) pc = .ok (.land, 1)) (hq : pc + 1 = q)  (k : Vg M X Q q ls (.long (x &&& y) :: st) n h kc ks) : Vg M X Q pc ls (.long y :: .long x :: st) n h kc ks := by
  subst hq
  intro D dA sc b n0 p l e s m args below meth c C H locs lsm hP hn hS hL
  exact lv_land C.1 C.2.1 hd (k D dA sc b n0 p l e s m args below meth c C H locs lsm hP hn hS hL)
theorem x_lor {x y : Int64} (hd : decode (mC M) pc = .ok (.lor, 1)) (hq : pc + 1 = q)  (k : Vg M X Q q ls (.long (x ||| y) :: st) n h kc ks) : Vg M X Q pc ls (.long y :: .long x :: st) n h kc ks := by
  subst hq
  intro D dA sc b n0 p l e s m args below meth c C H locs lsm hP hn hS hL
  exact lv_lor C.1 C.2.1 hd (k D dA sc b n0 p l e s m args below meth c C H locs lsm hP hn hS hL)
theorem x_ldiv {x y : Int64} (hd : decode (mC M) pc = .ok (.ldiv, 1)) (hq : pc + 1 = q) (hne : ¬ y = 0) (k : Vg M X Q q ls (.long (x / y) :: st) n h kc ks) : Vg M X Q pc ls (.long y :: .long x :: st) n h kc ks := by
  subst hq
  intro D dA sc b n0 p l e s m args below meth c C H locs lsm hP hn hS hL
  exact lv_ldiv C.1 C.2.1 hd hne (k D dA sc b n0 p l e s m args below meth c C H locs lsm hP hn hS hL)
theorem x_lcmp {x y : Int64} (hd : decode (mC M) pc = .ok (.lcmp, 1)) (hq : pc + 1 = q)  (k : Vg M X Q q ls (.int (lg_cmp x y) :: st) n h kc ks) : Vg M X Q pc ls (.long y :: .long x :: st) n h kc ks := by
  subst hq
  intro D dA sc b n0 p l e s m args below meth c C H locs lsm hP hn hS hL
  exact W.lcmp C.1 C.2.1 hd (k D dA sc b n0 p l e s m args below meth c C H locs lsm hP hn hS hL)
theorem x_lshl {x : Int64} {y : Int32} (hd : decode (mC M) pc = .ok (.lshl, 1)) (hq : pc + 1 = q)  (k : Vg M X Q q ls (.long (x <<< (y.toInt64 &&& 63)) :: st) n h kc ks) : Vg M X Q pc ls (.int y :: .long x :: st) n h kc ks := by
  subst hq
  intro D dA sc b n0 p l e s m args below meth c C H locs lsm hP hn hS hL
  exact lv_lshl C.1 C.2.1 hd rfl (k D dA sc b n0 p l e s m args below meth c C H locs lsm hP hn hS hL)
theorem x_lshr {x : Int64} {y : Int32} (hd : decode (mC M) pc = .ok (.lshr, 1)) (hq : pc + 1 = q)  (k : Vg M X Q q ls (.long (x >>> (y.toInt64 &&& 63)) :: st) n h kc ks) : Vg M X Q pc ls (.int y :: .long x :: st) n h kc ks := by
  subst hq
  intro D dA sc b n0 p l e s m args below meth c C H locs lsm hP hn hS hL
  exact lv_lshr C.1 C.2.1 hd rfl (k D dA sc b n0 p l e s m args below meth c C H locs lsm hP hn hS hL)
theorem x_lushr {x v : Int64} {y : Int32} (hd : decode (mC M) pc = .ok (.lushr, 1)) (hq : pc + 1 = q) (hv : (x.toUInt64 >>> (y.toInt64.toUInt64 &&& Int64.toUInt64 63)).toInt64 = v) (k : Vg M X Q q ls (.long v :: st) n h kc ks) : Vg M X Q pc ls (.int y :: .long x :: st) n h kc ks := by
  subst hq
  intro D dA sc b n0 p l e s m args below meth c C H locs lsm hP hn hS hL
  exact lv_lushr C.1 C.2.1 hd hv (k D dA sc b n0 p l e s m args below meth c C H locs lsm hP hn hS hL)
theorem x_i2l {x : Int32} (hd : decode (mC M) pc = .ok (.i2l, 1)) (hq : pc + 1 = q)  (k : Vg M X Q q ls (.long x.toInt64 :: st) n h kc ks) : Vg M X Q pc ls (.int x :: st) n h kc ks := by
  subst hq
  intro D dA sc b n0 p l e s m args below meth c C H locs lsm hP hn hS hL
  exact lv_i2l C.1 C.2.1 hd rfl (k D dA sc b n0 p l e s m args below meth c C H locs lsm hP hn hS hL)
theorem x_l2i {x : Int64} (hd : decode (mC M) pc = .ok (.l2i, 1)) (hq : pc + 1 = q)  (k : Vg M X Q q ls (.int x.toInt32 :: st) n h kc ks) : Vg M X Q pc ls (.long x :: st) n h kc ks := by
  subst hq
  intro D dA sc b n0 p l e s m args below meth c C H locs lsm hP hn hS hL
  exact lv_l2i C.1 C.2.1 hd rfl (k D dA sc b n0 p l e s m args below meth c C H locs lsm hP hn hS hL)
theorem x_iconst {v : Int32} {i : Int} (hd : decode (mC M) pc = .ok (.iconst i, 1)) (hq : pc + 1 = q) (hv : Int32.ofInt i = v) (k : Vg M X Q q ls (.int v :: st) n h kc ks) : Vg M X Q pc ls (st) n h kc ks := by
  subst hq
  intro D dA sc b n0 p l e s m args below meth c C H locs lsm hP hn hS hL
  exact lv_iconst C.1 C.2.1 hd hv (k D dA sc b n0 p l e s m args below meth c C H locs lsm hP hn hS hL)
theorem x_bipush {v : Int32} {i : Int} (hd : decode (mC M) pc = .ok (.bipush i, 2)) (hq : pc + 2 = q) (hv : (Int8.ofInt i).toInt32 = v) (k : Vg M X Q q ls (.int v :: st) n h kc ks) : Vg M X Q pc ls (st) n h kc ks := by
  subst hq
  intro D dA sc b n0 p l e s m args below meth c C H locs lsm hP hn hS hL
  exact lv_bipush C.1 C.2.1 hd hv (k D dA sc b n0 p l e s m args below meth c C H locs lsm hP hn hS hL)
theorem x_sipush {v : Int32} {i : Int} (hd : decode (mC M) pc = .ok (.sipush i, 3)) (hq : pc + 3 = q) (hv : (Int16.ofInt i).toInt32 = v) (k : Vg M X Q q ls (.int v :: st) n h kc ks) : Vg M X Q pc ls (st) n h kc ks := by
  subst hq
  intro D dA sc b n0 p l e s m args below meth c C H locs lsm hP hn hS hL
  exact lv_sipush C.1 C.2.1 hd hv (k D dA sc b n0 p l e s m args below meth c C H locs lsm hP hn hS hL)
theorem x_lconst {v : Int64} {i : Fin 2} (hd : decode (mC M) pc = .ok (.lconst i, 1)) (hq : pc + 1 = q) (hv : Int64.ofNat (i : Nat) = v) (k : Vg M X Q q ls (.long v :: st) n h kc ks) : Vg M X Q pc ls (st) n h kc ks := by
  subst hq
  intro D dA sc b n0 p l e s m args below meth c C H locs lsm hP hn hS hL
  exact lv_lconst C.1 C.2.1 hd hv (k D dA sc b n0 p l e s m args below meth c C H locs lsm hP hn hS hL)
theorem x_ldc {v : Int32} {i : Nat} (hd : decode (mC M) pc = .ok (.ldc i, 2)) (hq : pc + 2 = q) (hw : Cond.constant (mO M) i v ∈ gw) (k : Vg M X Q q ls (.int v :: st) n h kc ks) : Vg M X Q pc ls (st) n h kc ks := by
  subst hq
  intro D dA sc b n0 p l e s m args below meth c C H locs lsm hP hn hS hL
  exact lv_ldc C.1 C.2.1 C.2.2.2.2.1 (C.2.2.2.2.2.1 _ hw) hd (k D dA sc b n0 p l e s m args below meth c C H locs lsm hP hn hS hL)
theorem x_ldcw {v : Int32} {i : Nat} (hd : decode (mC M) pc = .ok (.ldc_w i, 3)) (hq : pc + 3 = q) (hw : Cond.constant (mO M) i v ∈ gw) (k : Vg M X Q q ls (.int v :: st) n h kc ks) : Vg M X Q pc ls (st) n h kc ks := by
  subst hq
  intro D dA sc b n0 p l e s m args below meth c C H locs lsm hP hn hS hL
  exact lv_ldcw C.1 C.2.1 C.2.2.2.2.1 (C.2.2.2.2.2.1 _ hw) hd (k D dA sc b n0 p l e s m args below meth c C H locs lsm hP hn hS hL)
theorem x_ldc2 {v : Int64} {i : Nat} (hd : decode (mC M) pc = .ok (.ldc2_w i, 3)) (hq : pc + 3 = q) (hw : Cond.constantLong (mO M) i v ∈ gw) (k : Vg M X Q q ls (.long v :: st) n h kc ks) : Vg M X Q pc ls (st) n h kc ks := by
  subst hq
  intro D dA sc b n0 p l e s m args below meth c C H locs lsm hP hn hS hL
  exact lv_ldc2 C.1 C.2.1 C.2.2.2.2.1 (C.2.2.2.2.2.1 _ hw) hd (k D dA sc b n0 p l e s m args below meth c C H locs lsm hP hn hS hL)
theorem x_iload {x : Int32} {i : Nat} (hd : decode (mC M) pc = .ok (.iload i, 2)) (hq : pc + 2 = q) (hl : lg ls i = some (.int x)) (k : Vg M X Q q ls (.int x :: st) n h kc ks) : Vg M X Q pc ls (st) n h kc ks := by
  subst hq
  intro D dA sc b n0 p l e s m args below meth c C H locs lsm hP hn hS hL
  exact lv_iload C.1 C.2.1 hd (hL.at hl) (k D dA sc b n0 p l e s m args below meth c C H locs lsm hP hn hS hL)
theorem x_iload_n {x : Int32} {i : Fin 4} {j : Nat} (hd : decode (mC M) pc = .ok (.iload_n i, 1)) (hq : pc + 1 = q) (hj : (i : Nat) = j) (hl : lg ls j = some (.int x)) (k : Vg M X Q q ls (.int x :: st) n h kc ks) : Vg M X Q pc ls (st) n h kc ks := by
  subst hq
  intro D dA sc b n0 p l e s m args below meth c C H locs lsm hP hn hS hL
  exact lv_iload_n C.1 C.2.1 hd hj (hL.at hl) (k D dA sc b n0 p l e s m args below meth c C H locs lsm hP hn hS hL)
theorem x_lload {x : Int64} {i : Nat} (hd : decode (mC M) pc = .ok (.lload i, 2)) (hq : pc + 2 = q) (hl : lg ls i = some (.long x)) (k : Vg M X Q q ls (.long x :: st) n h kc ks) : Vg M X Q pc ls (st) n h kc ks := by
  subst hq
  intro D dA sc b n0 p l e s m args below meth c C H locs lsm hP hn hS hL
  exact lv_lload C.1 C.2.1 hd (hL.at hl) (k D dA sc b n0 p l e s m args below meth c C H locs lsm hP hn hS hL)
theorem x_lload_n {x : Int64} {i : Fin 4} {j : Nat} (hd : decode (mC M) pc = .ok (.lload_n i, 1)) (hq : pc + 1 = q) (hj : (i : Nat) = j) (hl : lg ls j = some (.long x)) (k : Vg M X Q q ls (.long x :: st) n h kc ks) : Vg M X Q pc ls (st) n h kc ks := by
  subst hq
  intro D dA sc b n0 p l e s m args below meth c C H locs lsm hP hn hS hL
  exact lv_lload_n C.1 C.2.1 hd hj (hL.at hl) (k D dA sc b n0 p l e s m args below meth c C H locs lsm hP hn hS hL)
theorem x_aload {x : Nat} {i : Nat} (hd : decode (mC M) pc = .ok (.aload i, 2)) (hq : pc + 2 = q) (hl : lg ls i = some (.ref x)) (k : Vg M X Q q ls (.ref x :: st) n h kc ks) : Vg M X Q pc ls (st) n h kc ks := by
  subst hq
  intro D dA sc b n0 p l e s m args below meth c C H locs lsm hP hn hS hL
  exact lv_aload C.1 C.2.1 hd (hL.at hl) (k D dA sc b n0 p l e s m args below meth c C H locs lsm hP hn hS hL)
theorem x_aload_n {x : Nat} {i : Fin 4} {j : Nat} (hd : decode (mC M) pc = .ok (.aload_n i, 1)) (hq : pc + 1 = q) (hj : (i : Nat) = j) (hl : lg ls j = some (.ref x)) (k : Vg M X Q q ls (.ref x :: st) n h kc ks) : Vg M X Q pc ls (st) n h kc ks := by
  subst hq
  intro D dA sc b n0 p l e s m args below meth c C H locs lsm hP hn hS hL
  exact lv_aload_n C.1 C.2.1 hd hj (hL.at hl) (k D dA sc b n0 p l e s m args below meth c C H locs lsm hP hn hS hL)
theorem x_dup {v : Value} (hd : decode (mC M) pc = .ok (.dup, 1)) (hq : pc + 1 = q) (hc : v.category = 1) (k : Vg M X Q q ls (v :: v :: st) n h kc ks) : Vg M X Q pc ls (v :: st) n h kc ks := by
  subst hq
  intro D dA sc b n0 p l e s m args below meth c C H locs lsm hP hn hS hL
  exact lv_dup C.1 C.2.1 hd ((tV_cat sc b v).trans hc) (k D dA sc b n0 p l e s m args below meth c C H locs lsm hP hn hS hL)
theorem x_dup2 {v w : Value} (hd : decode (mC M) pc = .ok (.dup2, 1)) (hq : pc + 1 = q) (hc : v.category = 1) (hc2 : w.category = 1) (k : Vg M X Q q ls (v :: w :: v :: w :: st) n h kc ks) : Vg M X Q pc ls (v :: w :: st) n h kc ks := by
  subst hq
  intro D dA sc b n0 p l e s m args below meth c C H locs lsm hP hn hS hL
  exact lv_dup2_11 C.1 C.2.1 hd ((tV_cat sc b v).trans hc) ((tV_cat sc b w).trans hc2) (k D dA sc b n0 p l e s m args below meth c C H locs lsm hP hn hS hL)
theorem x_pop {v : Value} (hd : decode (mC M) pc = .ok (.pop, 1)) (hq : pc + 1 = q) (hc : v.category = 1) (k : Vg M X Q q ls (st) n h kc ks) : Vg M X Q pc ls (v :: st) n h kc ks := by
  subst hq
  intro D dA sc b n0 p l e s m args below meth c C H locs lsm hP hn hS hL
  exact lv_pop C.1 C.2.1 hd ((tV_cat sc b v).trans hc) (k D dA sc b n0 p l e s m args below meth c C H locs lsm hP hn hS hL)
theorem x_pop2 {v : Value} (hd : decode (mC M) pc = .ok (.pop2, 1)) (hq : pc + 1 = q) (hc : v.category = 2) (k : Vg M X Q q ls (st) n h kc ks) : Vg M X Q pc ls (v :: st) n h kc ks := by
  subst hq
  intro D dA sc b n0 p l e s m args below meth c C H locs lsm hP hn hS hL
  exact lv_pop2_2 C.1 C.2.1 hd ((tV_cat sc b v).trans hc) (k D dA sc b n0 p l e s m args below meth c C H locs lsm hP hn hS hL)
theorem x_istore {x : Int32} {i : Nat} (hd : decode (mC M) pc = .ok (.istore i, 2)) (hq : pc + 2 = q) (hi : i < mL M) (k : Vg M X Q q (ls1 ls i (.int x)) st n h kc ks) : Vg M X Q pc ls (.int x :: st) n h kc ks := by
  subst hq
  intro D dA sc b n0 p l e s m args below meth c C H locs lsm hP hn hS hL
  exact lv_istore C.1 C.2.1 hd hL hi rfl (fun lsm2 hl2 => k D dA sc b n0 p l e s m args below meth c C H locs lsm2 hP hn hS (LSr.st1 hl2))
theorem x_istore_n {x : Int32} {i : Fin 4} {j : Nat} (hd : decode (mC M) pc = .ok (.istore_n i, 1)) (hq : pc + 1 = q) (hj : (i : Nat) = j) (hi : j < mL M) (k : Vg M X Q q (ls1 ls j (.int x)) st n h kc ks) : Vg M X Q pc ls (.int x :: st) n h kc ks := by
  subst hq
  intro D dA sc b n0 p l e s m args below meth c C H locs lsm hP hn hS hL
  exact lv_istore_n C.1 C.2.1 hd hj hL hi rfl (fun lsm2 hl2 => k D dA sc b n0 p l e s m args below meth c C H locs lsm2 hP hn hS (LSr.st1 hl2))
theorem x_lstore {x : Int64} {i : Nat} (hd : decode (mC M) pc = .ok (.lstore i, 2)) (hq : pc + 2 = q) (hi : i + 1 < mL M) (k : Vg M X Q q (ls2 ls i (.long x)) st n h kc ks) : Vg M X Q pc ls (.long x :: st) n h kc ks := by
  subst hq
  intro D dA sc b n0 p l e s m args below meth c C H locs lsm hP hn hS hL
  exact lv_lstore C.1 C.2.1 hd hL hi rfl (fun lsm2 hl2 => k D dA sc b n0 p l e s m args below meth c C H locs lsm2 hP hn hS (LSr.st2 hl2))
theorem x_lstore_n {x : Int64} {i : Fin 4} {j : Nat} (hd : decode (mC M) pc = .ok (.lstore_n i, 1)) (hq : pc + 1 = q) (hj : (i : Nat) = j) (hi : j + 1 < mL M) (k : Vg M X Q q (ls2 ls j (.long x)) st n h kc ks) : Vg M X Q pc ls (.long x :: st) n h kc ks := by
  subst hq
  intro D dA sc b n0 p l e s m args below meth c C H locs lsm hP hn hS hL
  exact lv_lstore_n C.1 C.2.1 hd hj hL hi rfl (fun lsm2 hl2 => k D dA sc b n0 p l e s m args below meth c C H locs lsm2 hP hn hS (LSr.st2 hl2))
theorem x_astore {x : Nat} {i : Nat} (hd : decode (mC M) pc = .ok (.astore i, 2)) (hq : pc + 2 = q) (hi : i < mL M) (k : Vg M X Q q (ls1 ls i (.ref x)) st n h kc ks) : Vg M X Q pc ls (.ref x :: st) n h kc ks := by
  subst hq
  intro D dA sc b n0 p l e s m args below meth c C H locs lsm hP hn hS hL
  exact lv_astore C.1 C.2.1 hd hL hi rfl (fun lsm2 hl2 => k D dA sc b n0 p l e s m args below meth c C H locs lsm2 hP hn hS (LSr.st1 hl2))
theorem x_astore_n {x : Nat} {i : Fin 4} {j : Nat} (hd : decode (mC M) pc = .ok (.astore_n i, 1)) (hq : pc + 1 = q) (hj : (i : Nat) = j) (hi : j < mL M) (k : Vg M X Q q (ls1 ls j (.ref x)) st n h kc ks) : Vg M X Q pc ls (.ref x :: st) n h kc ks := by
  subst hq
  intro D dA sc b n0 p l e s m args below meth c C H locs lsm hP hn hS hL
  exact lv_astore_n C.1 C.2.1 hd hj hL hi rfl (fun lsm2 hl2 => k D dA sc b n0 p l e s m args below meth c C H locs lsm2 hP hn hS (LSr.st1 hl2))
theorem x_iinc {x v : Int32} {i : Nat} {z : Int} (hd : decode (mC M) pc = .ok (.iinc i z, 3)) (hq : pc + 3 = q) (hl : lg ls i = some (.int x)) (hv : x + Int32.ofInt z = v) (hi : i < mL M) (k : Vg M X Q q (ls1 ls i (.int v)) st n h kc ks) : Vg M X Q pc ls st n h kc ks := by
  subst hq
  intro D dA sc b n0 p l e s m args below meth c C H locs lsm hP hn hS hL
  obtain ⟨j, hj⟩ := List.getElem?_of_mem ((lsq_mem sc b ls 0 (i, .int x)).mpr ⟨i, .int x, hl, by rw [Nat.zero_add]; rfl⟩)
  exact lv_iinc C.1 C.2.1 hd hL hj hv hi rfl (fun lsm2 hl2 => k D dA sc b n0 p l e s m args below meth c C H locs lsm2 hP hn hS (LSr.st1 hl2))
theorem x_goto {off : Int} (hd : decode (mC M) pc = .ok (.goto off, 3)) (ht : (pc : Int) + off = (q : Int)) (k : Vg M X Q q ls st n h kc ks) : Vg M X Q pc ls st n h kc ks := by
  intro D dA sc b n0 p l e s m args below meth c C H locs lsm hP hn hS hL
  exact lv_goto C.1 C.2.1 hd ht (k D dA sc b n0 p l e s m args below meth c C H locs lsm hP hn hS hL)
theorem x_if_eq {x : Int32} {off : Int} {t : Nat} (hd : decode (mC M) pc = .ok (.ifCond .eq off, 3)) (hq : pc + 3 = q) (ht : (pc : Int) + off = (t : Int)) (kt : x = 0 → Vg M X Q t ls st n h kc ks) (kf : ¬ (x = 0) → Vg M X Q q ls st n h kc ks) : Vg M X Q pc ls (.int x :: st) n h kc ks := by
  subst hq
  intro D dA sc b n0 p l e s m args below meth c C H locs lsm hP hn hS hL
  exact lv_if_eq C.1 C.2.1 hd ht (fun z => kt z D dA sc b n0 p l e s m args below meth c C H locs lsm hP hn hS hL) (fun z => kf z D dA sc b n0 p l e s m args below meth c C H locs lsm hP hn hS hL)
theorem x_ic_eq {x y : Int32} {off : Int} {t : Nat} (hd : decode (mC M) pc = .ok (.if_icmp .eq off, 3)) (hq : pc + 3 = q) (ht : (pc : Int) + off = (t : Int)) (kt : x = y → Vg M X Q t ls st n h kc ks) (kf : ¬ (x = y) → Vg M X Q q ls st n h kc ks) : Vg M X Q pc ls (.int y :: .int x :: st) n h kc ks := by
  subst hq
  intro D dA sc b n0 p l e s m args below meth c C H locs lsm hP hn hS hL
  exact lv_icmp_eq C.1 C.2.1 hd ht (fun z => kt z D dA sc b n0 p l e s m args below meth c C H locs lsm hP hn hS hL) (fun z => kf z D dA sc b n0 p l e s m args below meth c C H locs lsm hP hn hS hL)
theorem x_if_ne {x : Int32} {off : Int} {t : Nat} (hd : decode (mC M) pc = .ok (.ifCond .ne off, 3)) (hq : pc + 3 = q) (ht : (pc : Int) + off = (t : Int)) (kt : ¬ x = 0 → Vg M X Q t ls st n h kc ks) (kf : x = 0 → Vg M X Q q ls st n h kc ks) : Vg M X Q pc ls (.int x :: st) n h kc ks := by
  subst hq
  intro D dA sc b n0 p l e s m args below meth c C H locs lsm hP hn hS hL
  exact lv_if_ne C.1 C.2.1 hd ht (fun z => kt z D dA sc b n0 p l e s m args below meth c C H locs lsm hP hn hS hL) (fun z => kf z D dA sc b n0 p l e s m args below meth c C H locs lsm hP hn hS hL)
theorem x_ic_ne {x y : Int32} {off : Int} {t : Nat} (hd : decode (mC M) pc = .ok (.if_icmp .ne off, 3)) (hq : pc + 3 = q) (ht : (pc : Int) + off = (t : Int)) (kt : ¬ x = y → Vg M X Q t ls st n h kc ks) (kf : x = y → Vg M X Q q ls st n h kc ks) : Vg M X Q pc ls (.int y :: .int x :: st) n h kc ks := by
  subst hq
  intro D dA sc b n0 p l e s m args below meth c C H locs lsm hP hn hS hL
  exact lv_icmp_ne C.1 C.2.1 hd ht (fun z => kt z D dA sc b n0 p l e s m args below meth c C H locs lsm hP hn hS hL) (fun z => kf z D dA sc b n0 p l e s m args below meth c C H locs lsm hP hn hS hL)
theorem x_if_lt {x : Int32} {off : Int} {t : Nat} (hd : decode (mC M) pc = .ok (.ifCond .lt off, 3)) (hq : pc + 3 = q) (ht : (pc : Int) + off = (t : Int)) (kt : x < 0 → Vg M X Q t ls st n h kc ks) (kf : ¬ (x < 0) → Vg M X Q q ls st n h kc ks) : Vg M X Q pc ls (.int x :: st) n h kc ks := by
  subst hq
  intro D dA sc b n0 p l e s m args below meth c C H locs lsm hP hn hS hL
  exact lv_if_lt C.1 C.2.1 hd ht (fun z => kt z D dA sc b n0 p l e s m args below meth c C H locs lsm hP hn hS hL) (fun z => kf z D dA sc b n0 p l e s m args below meth c C H locs lsm hP hn hS hL)
theorem x_ic_lt {x y : Int32} {off : Int} {t : Nat} (hd : decode (mC M) pc = .ok (.if_icmp .lt off, 3)) (hq : pc + 3 = q) (ht : (pc : Int) + off = (t : Int)) (kt : x < y → Vg M X Q t ls st n h kc ks) (kf : ¬ (x < y) → Vg M X Q q ls st n h kc ks) : Vg M X Q pc ls (.int y :: .int x :: st) n h kc ks := by
  subst hq
  intro D dA sc b n0 p l e s m args below meth c C H locs lsm hP hn hS hL
  exact lv_icmp_lt C.1 C.2.1 hd ht (fun z => kt z D dA sc b n0 p l e s m args below meth c C H locs lsm hP hn hS hL) (fun z => kf z D dA sc b n0 p l e s m args below meth c C H locs lsm hP hn hS hL)
theorem x_if_ge {x : Int32} {off : Int} {t : Nat} (hd : decode (mC M) pc = .ok (.ifCond .ge off, 3)) (hq : pc + 3 = q) (ht : (pc : Int) + off = (t : Int)) (kt : 0 ≤ x → Vg M X Q t ls st n h kc ks) (kf : ¬ (0 ≤ x) → Vg M X Q q ls st n h kc ks) : Vg M X Q pc ls (.int x :: st) n h kc ks := by
  subst hq
  intro D dA sc b n0 p l e s m args below meth c C H locs lsm hP hn hS hL
  exact lv_if_ge C.1 C.2.1 hd ht (fun z => kt z D dA sc b n0 p l e s m args below meth c C H locs lsm hP hn hS hL) (fun z => kf z D dA sc b n0 p l e s m args below meth c C H locs lsm hP hn hS hL)
theorem x_ic_ge {x y : Int32} {off : Int} {t : Nat} (hd : decode (mC M) pc = .ok (.if_icmp .ge off, 3)) (hq : pc + 3 = q) (ht : (pc : Int) + off = (t : Int)) (kt : y ≤ x → Vg M X Q t ls st n h kc ks) (kf : ¬ (y ≤ x) → Vg M X Q q ls st n h kc ks) : Vg M X Q pc ls (.int y :: .int x :: st) n h kc ks := by
  subst hq
  intro D dA sc b n0 p l e s m args below meth c C H locs lsm hP hn hS hL
  exact lv_icmp_ge C.1 C.2.1 hd ht (fun z => kt z D dA sc b n0 p l e s m args below meth c C H locs lsm hP hn hS hL) (fun z => kf z D dA sc b n0 p l e s m args below meth c C H locs lsm hP hn hS hL)
theorem x_if_gt {x : Int32} {off : Int} {t : Nat} (hd : decode (mC M) pc = .ok (.ifCond .gt off, 3)) (hq : pc + 3 = q) (ht : (pc : Int) + off = (t : Int)) (kt : 0 < x → Vg M X Q t ls st n h kc ks) (kf : ¬ (0 < x) → Vg M X Q q ls st n h kc ks) : Vg M X Q pc ls (.int x :: st) n h kc ks := by
  subst hq
  intro D dA sc b n0 p l e s m args below meth c C H locs lsm hP hn hS hL
  exact lv_if_gt C.1 C.2.1 hd ht (fun z => kt z D dA sc b n0 p l e s m args below meth c C H locs lsm hP hn hS hL) (fun z => kf z D dA sc b n0 p l e s m args below meth c C H locs lsm hP hn hS hL)
theorem x_ic_gt {x y : Int32} {off : Int} {t : Nat} (hd : decode (mC M) pc = .ok (.if_icmp .gt off, 3)) (hq : pc + 3 = q) (ht : (pc : Int) + off = (t : Int)) (kt : y < x → Vg M X Q t ls st n h kc ks) (kf : ¬ (y < x) → Vg M X Q q ls st n h kc ks) : Vg M X Q pc ls (.int y :: .int x :: st) n h kc ks := by
  subst hq
  intro D dA sc b n0 p l e s m args below meth c C H locs lsm hP hn hS hL
  exact lv_icmp_gt C.1 C.2.1 hd ht (fun z => kt z D dA sc b n0 p l e s m args below meth c C H locs lsm hP hn hS hL) (fun z => kf z D dA sc b n0 p l e s m args below meth c C H locs lsm hP hn hS hL)
theorem x_if_le {x : Int32} {off : Int} {t : Nat} (hd : decode (mC M) pc = .ok (.ifCond .le off, 3)) (hq : pc + 3 = q) (ht : (pc : Int) + off = (t : Int)) (kt : x ≤ 0 → Vg M X Q t ls st n h kc ks) (kf : ¬ (x ≤ 0) → Vg M X Q q ls st n h kc ks) : Vg M X Q pc ls (.int x :: st) n h kc ks := by
  subst hq
  intro D dA sc b n0 p l e s m args below meth c C H locs lsm hP hn hS hL
  exact lv_if_le C.1 C.2.1 hd ht (fun z => kt z D dA sc b n0 p l e s m args below meth c C H locs lsm hP hn hS hL) (fun z => kf z D dA sc b n0 p l e s m args below meth c C H locs lsm hP hn hS hL)
theorem x_ic_le {x y : Int32} {off : Int} {t : Nat} (hd : decode (mC M) pc = .ok (.if_icmp .le off, 3)) (hq : pc + 3 = q) (ht : (pc : Int) + off = (t : Int)) (kt : x ≤ y → Vg M X Q t ls st n h kc ks) (kf : ¬ (x ≤ y) → Vg M X Q q ls st n h kc ks) : Vg M X Q pc ls (.int y :: .int x :: st) n h kc ks := by
  subst hq
  intro D dA sc b n0 p l e s m args below meth c C H locs lsm hP hn hS hL
  exact lv_icmp_le C.1 C.2.1 hd ht (fun z => kt z D dA sc b n0 p l e s m args below meth c C H locs lsm hP hn hS hL) (fun z => kf z D dA sc b n0 p l e s m args below meth c C H locs lsm hP hn hS hL)
theorem x_tswO {dflt lo hi : Int} {offs : Array Int} {len : Nat} {x : Int32} (hd : decode (mC M) pc = .ok (.tableswitch dflt lo hi offs, len)) (hx : x.toInt < lo ∨ hi < x.toInt) (ht : (pc : Int) + dflt = (q : Int)) (k : Vg M X Q q ls st n h kc ks) : Vg M X Q pc ls (.int x :: st) n h kc ks := by
  intro D dA sc b n0 p l e s m args below meth c C H locs lsm hP hn hS hL
  exact lv_tableOut C.1 C.2.1 hd hx ht (k D dA sc b n0 p l e s m args below meth c C H locs lsm hP hn hS hL)
theorem x_tswI {dflt lo hi : Int} {offs : Array Int} {len : Nat} {x : Int32} {off : Int} (hd : decode (mC M) pc = .ok (.tableswitch dflt lo hi offs, len)) (h1 : ¬ x.toInt < lo) (h2 : ¬ hi < x.toInt) (ho : offs[(x.toInt - lo).toNat]? = some off) (ht : (pc : Int) + off = (q : Int)) (k : Vg M X Q q ls st n h kc ks) : Vg M X Q pc ls (.int x :: st) n h kc ks := by
  intro D dA sc b n0 p l e s m args below meth c C H locs lsm hP hn hS hL
  exact lv_tableIn C.1 C.2.1 hd h1 h2 ho ht (k D dA sc b n0 p l e s m args below meth c C H locs lsm hP hn hS hL)
end ROWS
