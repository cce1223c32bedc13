/-- a field by its place in a constant pool: the kind of object, the field's place, its type, whether final -/
def FL (own : String) (idx ci f : Nat) (ty : FieldType) (fin : Bool) : Prop := ∃ (C : String) (T : u_T) (N : Nat), vwCl[ci]? = some (C, T, N) ∧ f < N ∧ (∀ w ∈ u_ws C T N, w ∈ gw) ∧ (T f).1 = C ∧ (T f).2.2.2 = fin ∧ parseFieldDescriptor (T f).2.2.1 = some ty ∧ (∃ ty0 : Nat → FieldType, ∀ k, k < N → parseFieldDescriptor (T k).2.2.1 = some (ty0 k)) ∧ (∀ a, a < N → ∀ b, b < N → a ≠ b → (T a).2.1 ≠ (T b).2.1) ∧ (Cond.fieldLink own idx C (T f).2.1 (T f).2.2.1 ∈ gw ∨ ∃ host : String, Cond.fieldLinkNest own idx C (T f).2.1 (T f).2.2.1 host ∈ nw)
theorem tV_nar {ty : FieldType} {v : Value} (sc b : Nat) (h : narrow ty v = v) : narrow ty (tV sc b v) = tV sc b v := by
  cases v with
  | ref k => cases ty <;> rfl
  | int x => exact h
  | _ => cases ty <;> rfl
theorem tV_fit {ty : FieldType} {v : Value} (sc b : Nat) (h : fits ty v = true) : fits ty (tV sc b v) = true := by
  cases v with
  | ref k => cases ty <;> first | rfl | cases h
  | _ => exact h
def cats : List Value → Nat
  | [] => 0
  | v :: l => v.category + cats l
theorem cats_sum (sc b : Nat) : ∀ l : List Value, ((l.map (tV sc b)).map fun v => v.category).sum = cats l
  | [] => rfl
  | v :: l => by
    simp only [List.map_cons, List.sum_cons, cats, tV_cat]
    rw [cats_sum sc b l]
def rok (M M' : MI) (kc ks : Nat) : Bool := Nat.ble ((mR M').frames + 1) (mR M).frames && (Nat.ble (8 + (mL M' + 11) + (mR M').locals) (mR M).locals && (Nat.ble (kc + (mR M').cells) (mR M).cells && Nat.ble (ks + (mR M').slots) (mR M).slots))
theorem rok_of {M M' : MI} {kc ks : Nat} (h : rok M M' kc ks = true) : ((mR M').frames + 1 ≤ (mR M).frames ∧ 8 + (mL M' + 11) + (mR M').locals ≤ (mR M).locals) ∧ kc + (mR M').cells ≤ (mR M).cells ∧ ks + (mR M').slots ≤ (mR M).slots := by
  simp only [rok, Bool.and_eq_true] at h
  exact ⟨⟨Nat.le_of_ble_eq_true h.1, Nat.le_of_ble_eq_true h.2.1⟩, Nat.le_of_ble_eq_true h.2.2.1, Nat.le_of_ble_eq_true h.2.2.2⟩
/-- what a caller needs of a method: its code's word, its owner is ready -/
def MF (M : MI) : Prop := Cond.code (mY M) (mC M) (mL M) (mT M) ∈ gw ∧ Cond.initialized (mY M).cls ∈ gw ∧ ((mY M).cls ≠ "java/lang/invoke/MethodHandle" ∧ (mY M).cls ≠ "java/lang/invoke/VarHandle")
def LK (own : String) (idx : Nat) (M : MI) (na : Nat) : Prop := MF M ∧ (Cond.methodLink own idx (mY M) ∈ gw ∨ ∃ host : String, Cond.methodLinkNest own idx (mY M) host ∈ nw) ∧ (parseMethodDescriptor (mY M).desc).map (fun d => d.parameters.length) = some na
def KS (own : String) (idx : Nat) (M : MI) (na : Nat) : Prop := LK own idx M na ∧ Cond.static (mY M) ∈ gw
def KV (own : String) (idx ci : Nat) (M : MI) (na : Nat) : Prop := LK own idx M na ∧ Cond.instanceMethod (mY M) ∈ gw ∧ ∃ (T : u_T) (N : Nat), vwCl[ci]? = some ((mY M).cls, T, N) ∧ Cond.selects (mY M).cls (mY M) (mY M) ∈ gw
def KI (own : String) (idx : Nat) (M : MI) (na : Nat) : Prop := LK own idx M na ∧ Cond.instanceMethod (mY M) ∈ gw ∧ (mY M).name = "<init>" ∧ mT M = none
theorem gw_good {M : MI} (h : MF M) : GoodIn gw (miW M) := by
  intro w hw
  rcases List.mem_cons.mp hw with e | e
  · rw [e]; exact ⟨h.1, good_of_word (List.mem_filter.mp h.1).2⟩
  · exact ⟨e, good_of_word (List.mem_filter.mp e).2⟩
theorem pre_blind (av : List Value) (D : va_G) (dA : Nat → ClassId) (sc b n : Nat) (h : HF) : FrameBlind (va_Pc av (Pre D dA sc b n h)) := by
  intro a U g mk q
  obtain ⟨q0, q1, q2, q3⟩ := q
  exact ⟨q0, q1, q2, q3.callS⟩
theorem call_end {D : va_G} {dA : Nat → ClassId} {sc b nn mc ms : Nat} {Post : PQ} {a : Array Value} {p : Program} {l : Launch} {e : Env} {R : Room} {s : State} {m : MethodId} {args : Array Value} {below : List Frame} {meth : Method} {c : Code} {H : Heap} {locs : List Loc} {kc ks pc : Nat} {Q : State → Prop} {lsm : Array Slot} {st0 rest : List Value}
    (hr : va_Run p l e R s m args below meth c H locs kc ks mc ms (F0 m pc lsm st0) rest (Qx nn Post D dA sc b a) (fun q : Nat => b ≤ q)) (hS : va_S (fun q : Nat => b ≤ q) s.heap H locs)
    (kk : ∀ (r : Option Value) (h' : HF) (H1 : Heap) (locs1 : List Loc), Post r h' → va_P D vwCl (wd sc b dA nn h') H1 → va_S (fun q : Nat => b ≤ q) s.heap H1 locs1 → W p l e R s m args below meth c H1 locs1 (kc + mc) (ks + ms) Q (F0 m (pc + 3) lsm ((r.map (tV sc b)).toList ++ rest))) : W p l e R s m args below meth c H locs kc ks Q (F0 m pc lsm st0) := by
  intro T hT X
  obtain ⟨v, st₀, t, T', L, h0, X', hL, e1, e2, ⟨r, h', hv, hp, hw, hz, hk⟩, st⟩ := hr T hT X
  cases hv
  rw [h0] at hz hk
  obtain ⟨t2, a1, b1⟩ := kk r h' T'.heap (locs ++ L) hp (by rw [e1]; exact hw)
    ⟨Nat.le_trans hS.1 (by rw [e1]; exact hz), fun q h1 h2 => by rw [e1, hk q (Nat.lt_of_lt_of_le h1 hS.1) h2]; exact hS.2.1 q h1 h2, fun q hq => by
      rcases List.mem_append.mp hq with h | h
      · exact hS.2.2 q h
      · exact hL q h⟩ T' rfl X'
  exact ⟨t2, st t2 a1, b1⟩
theorem tl_map (sc b : Nat) (r : Option Value) (rest : List Value) : (r.map (tV sc b)).toList ++ rest.map (tV sc b) = (r.toList ++ rest).map (tV sc b) := by cases r <;> simp
section HROWS
variable {M : MI} {X : SX} {Q : QF} {pc q : Nat} {ls : List (Option Value)} {st : List Value} {n : Nat} {h : HF} {kc ks : Nat}
theorem x_get {a idx ci f : Nat} {fs : List Value} {v : Value} {ty : FieldType} {fin : Bool} (hd : decode (mC M) pc = .ok (.getfield idx, 3)) (hq : pc + 3 = q) (hf : FL (mO M) idx ci f ty fin) (ho : h a = .inr (ci, fs)) (hv : fs[f]? = some v) (ha : 0 < a ∧ a ≤ n) (k : Vg M X Q q ls (v :: st) n h kc ks) : Vg M X Q pc ls (.ref a :: st) n h kc ks := by
  subst hq
  obtain ⟨a', rfl⟩ : ∃ a', a = a' + 1 := ⟨a - 1, by omega⟩
  intro D dA sc b n0 p l e s m args below meth c C H locs lsm hP hn hS hL
  obtain ⟨hx, hb, hr0, hml, hown, hts, hlocks, hK, hsz, hnm, hX⟩ := id C
  obtain ⟨Cn, T, N, hc, hk, hin, hdc, hfin, hty, ⟨ty0, hty0⟩, hnms, hlk⟩ := hf
  have he : (wd sc b dA n h)[a']? = some (b + a', .inr (ci, fs.map (tV sc b))) := by rw [wd_at (by omega), ho]; rfl
  have hv' : (fs.map (tV sc b))[f]? = some (tV sc b v) := by rw [List.getElem?_map, hv]; rfl
  rcases hlk with hl | ⟨host, hl⟩
  · exact va_get hx hb hts hin hown hK.1 hP a' he hc f hk (hts _ hl) (fun y z => by rw [← hdc]; exact z) hv' hd (k D dA sc b n0 p l e s m args below meth c C H locs lsm hP hn hS hL)
  · exact va_getN hx hb hts hin hown hK.1 hP a' he hc f hk (nw_use rfl (hK.2.1 _ hl)) (fun y z => by rw [← hdc]; exact z) hv' hd (k D dA sc b n0 p l e s m args below meth c C H locs lsm hP hn hS hL)
theorem x_put {a idx ci f : Nat} {fs : List Value} {v : Value} {ty : FieldType} (hd : decode (mC M) pc = .ok (.putfield idx, 3)) (hq : pc + 3 = q) (hf : FL (mO M) idx ci f ty false) (ho : h a = .inr (ci, fs)) (hl : f < fs.length) (hnr : narrow ty v = v) (hft : fits ty v = true) (ha : 0 < a ∧ a ≤ n) (k : Vg M X Q q ls st n (hu h a (.inr (ci, fs.set f v))) kc ks) : Vg M X Q pc ls (v :: .ref a :: st) n h kc ks := by
  subst hq
  obtain ⟨a', rfl⟩ : ∃ a', a = a' + 1 := ⟨a - 1, by omega⟩
  intro D dA sc b n0 p l e s m args below meth c C H locs lsm hP hn hS hL
  obtain ⟨hx, hb, hr0, hml, hown, hts, hlocks, hK, hsz, hnm, hX⟩ := id C
  obtain ⟨Cn, T, N, hc, hk, hin, hdc, hfin, hty, ⟨ty0, hty0⟩, hnms, hlk⟩ := hf
  have he : (wd sc b dA n h)[a']? = some (b + a', .inr (ci, fs.map (tV sc b))) := by rw [wd_at (by omega), ho]; rfl
  have e9 : (wd sc b dA n h).set a' (b + a', .inr (ci, (fs.map (tV sc b)).set f (tV sc b v))) = wd sc b dA n (hu h (a' + 1) (.inr (ci, fs.set f v))) := by
    rw [← wd_set]
    simp [tE, List.map_set]
  rcases hlk with hl2 | ⟨host, hl2⟩
  · refine va_put hx hb hts hin ty0 hty0 hnms hown hK.1 hP wd_D hS a' he hc f hk (hts _ hl2) (fun y z => by rw [← hdc]; exact z) hfin hty (tV_nar sc b hnr) (tV_fit sc b hft) (by rw [List.length_map]; exact hl) hd (fun H1 locs1 hP1 hD1 hS1 => ?_)
    rw [e9] at hP1
    exact k D dA sc b n0 p l e s m args below meth c C H1 locs1 lsm hP1 hn hS1 hL
  · refine va_putN hx hb hts hin ty0 hty0 hnms hown hK.1 hP wd_D hS a' he hc f hk (nw_use rfl (hK.2.1 _ hl2)) (fun y z => by rw [← hdc]; exact z) hfin hty (tV_nar sc b hnr) (tV_fit sc b hft) (by rw [List.length_map]; exact hl) hd (fun H1 locs1 hP1 hD1 hS1 => ?_)
    rw [e9] at hP1
    exact k D dA sc b n0 p l e s m args below meth c C H1 locs1 lsm hP1 hn hS1 hL
theorem x_putF {a idx ci f : Nat} {fs : List Value} {v : Value} {ty : FieldType} (hd : decode (mC M) pc = .ok (.putfield idx, 3)) (hq : pc + 3 = q) (hf : FL (mO M) idx ci f ty true) (hi : (mY M).name = "<init>") (hde : ∃ (T : u_T) (N : Nat), vwCl[ci]? = some (mO M, T, N)) (hlk0 : ∀ (T : u_T) (N : Nat), vwCl[ci]? = some (mO M, T, N) → Cond.fieldLink (mO M) idx (mO M) (T f).2.1 (T f).2.2.1 ∈ gw) (ho : h a = .inr (ci, fs)) (hl : f < fs.length) (hnr : narrow ty v = v) (hft : fits ty v = true) (ha : 0 < a ∧ a ≤ n) (k : Vg M X Q q ls st n (hu h a (.inr (ci, fs.set f v))) kc ks) : Vg M X Q pc ls (v :: .ref a :: st) n h kc ks := by
  subst hq
  obtain ⟨a', rfl⟩ : ∃ a', a = a' + 1 := ⟨a - 1, by omega⟩
  intro D dA sc b n0 p l e s m args below meth c C H locs lsm hP hn hS hL
  obtain ⟨hx, hb, hr0, hml, hown, hts, hlocks, hK, hsz, hnm, hX⟩ := id C
  obtain ⟨Cn, T, N, hc, hk, hin, hdc, hfin, hty, ⟨ty0, hty0⟩, hnms, hlk⟩ := hf
  obtain ⟨T2, N2, hc2⟩ := hde
  have hcc : Cn = mO M := by have := hc.symm.trans hc2; cases this; rfl
  subst hcc
  have he : (wd sc b dA n h)[a']? = some (b + a', .inr (ci, fs.map (tV sc b))) := by rw [wd_at (by omega), ho]; rfl
  have e9 : (wd sc b dA n h).set a' (b + a', .inr (ci, (fs.map (tV sc b)).set f (tV sc b v))) = wd sc b dA n (hu h (a' + 1) (.inr (ci, fs.set f v))) := by
    rw [← wd_set]
    simp [tE, List.map_set]
  refine va_putF hx hb hts hin ty0 hty0 hnms hown hK.1 hP wd_D hS a' he hc f hk (hts _ (hlk0 T N hc)) (fun y z => by rw [← hdc]; exact z) hfin (hnm.trans hi) hdc hty (tV_nar sc b hnr) (tV_fit sc b hft) (by rw [List.length_map]; exact hl) hd (fun H1 locs1 hP1 hD1 hS1 => ?_)
  rw [e9] at hP1
  exact k D dA sc b n0 p l e s m args below meth c C H1 locs1 lsm hP1 hn hS1 hL
theorem x_iald {a N : Nat} {f : Nat → Int32} {i : Int32} (hd : decode (mC M) pc = .ok (.iaload, 1)) (hq : pc + 1 = q) (ho : h a = .inl (0, N, .inl f)) (hi : vp_in i N) (ha : 0 < a ∧ a ≤ n) (k : Vg M X Q q ls (.int (f i.toNatClampNeg) :: st) n h kc ks) : Vg M X Q pc ls (.int i :: .ref a :: st) n h kc ks := by
  subst hq
  obtain ⟨a', rfl⟩ : ∃ a', a = a' + 1 := ⟨a - 1, by omega⟩
  intro D dA sc b n0 p l e s m args below meth c C H locs lsm hP hn hS hL
  obtain ⟨hx, hb, hr0, hml, hown, hts, hlocks, hK, hsz, hnm, hX⟩ := id C
  have he : (wd sc b dA n h)[a']? = some (b + a', .inl (dA 0, N, .inl f)) := by rw [wd_at (by omega), ho]; rfl
  exact va_iald hx hb hK.1 hP a' 0 he rfl hi hd (k D dA sc b n0 p l e s m args below meth c C H locs lsm hP hn hS hL)
theorem x_zald {a N : Nat} {f : Nat → Int32} {i : Int32} (hd : decode (mC M) pc = .ok (.baload, 1)) (hq : pc + 1 = q) (ho : h a = .inl (1, N, .inl f)) (hi : vp_in i N) (ha : 0 < a ∧ a ≤ n) (k : Vg M X Q q ls (.int (f i.toNatClampNeg) :: st) n h kc ks) : Vg M X Q pc ls (.int i :: .ref a :: st) n h kc ks := by
  subst hq
  obtain ⟨a', rfl⟩ : ∃ a', a = a' + 1 := ⟨a - 1, by omega⟩
  intro D dA sc b n0 p l e s m args below meth c C H locs lsm hP hn hS hL
  obtain ⟨hx, hb, hr0, hml, hown, hts, hlocks, hK, hsz, hnm, hX⟩ := id C
  have he : (wd sc b dA n h)[a']? = some (b + a', .inl (dA 1, N, .inl f)) := by rw [wd_at (by omega), ho]; rfl
  exact va_zald hx hb hK.1 hP a' 1 he rfl hi hd (k D dA sc b n0 p l e s m args below meth c C H locs lsm hP hn hS hL)
theorem x_lald {a N : Nat} {f : Nat → Int64} {i : Int32} (hd : decode (mC M) pc = .ok (.laload, 1)) (hq : pc + 1 = q) (ho : h a = .inl (2, N, .inr (.inl f))) (hi : vp_in i N) (ha : 0 < a ∧ a ≤ n) (k : Vg M X Q q ls (.long (f i.toNatClampNeg) :: st) n h kc ks) : Vg M X Q pc ls (.int i :: .ref a :: st) n h kc ks := by
  subst hq
  obtain ⟨a', rfl⟩ : ∃ a', a = a' + 1 := ⟨a - 1, by omega⟩
  intro D dA sc b n0 p l e s m args below meth c C H locs lsm hP hn hS hL
  obtain ⟨hx, hb, hr0, hml, hown, hts, hlocks, hK, hsz, hnm, hX⟩ := id C
  have he : (wd sc b dA n h)[a']? = some (b + a', .inl (dA 2, N, .inr (.inl f))) := by rw [wd_at (by omega), ho]; rfl
  exact va_lald hx hb hK.1 hP a' 2 he rfl hi hd (k D dA sc b n0 p l e s m args below meth c C H locs lsm hP hn hS hL)
theorem x_aald3 {a N r : Nat} {f : Nat → Option Nat} {i : Int32} (hd : decode (mC M) pc = .ok (.aaload, 1)) (hq : pc + 1 = q) (ho : h a = .inl (3, N, .inr (.inr (.inr (.inr f))))) (hi : vp_in i N) (hj : f i.toNatClampNeg = some r) (ha : 0 < a ∧ a ≤ n) (k : Vg M X Q q ls (.ref r :: st) n h kc ks) : Vg M X Q pc ls (.int i :: .ref a :: st) n h kc ks := by
  subst hq
  obtain ⟨a', rfl⟩ : ∃ a', a = a' + 1 := ⟨a - 1, by omega⟩
  intro D dA sc b n0 p l e s m args below meth c C H locs lsm hP hn hS hL
  obtain ⟨hx, hb, hr0, hml, hown, hts, hlocks, hK, hsz, hnm, hX⟩ := id C
  have he : (wd sc b dA n h)[a']? = some (b + a', .inl (dA 3, N, .inr (.inr (.inr (.inr (fun j => (f j).map (ad sc b))))))) := by rw [wd_at (by omega), ho]; rfl
  refine va_aldq hx hb hK.1 hP a' 3 he rfl hi hd ?_
  rw [show va_rf ((fun j => (f j).map (ad sc b)) i.toNatClampNeg) = tV sc b (.ref r) by simp [hj, va_rf, tV]]
  exact k D dA sc b n0 p l e s m args below meth c C H locs lsm hP hn hS hL
theorem x_aald4 {a N r : Nat} {f : Nat → Option Nat} {i : Int32} (hd : decode (mC M) pc = .ok (.aaload, 1)) (hq : pc + 1 = q) (ho : h a = .inl (4, N, .inr (.inr (.inr (.inr f))))) (hi : vp_in i N) (hj : f i.toNatClampNeg = some r) (ha : 0 < a ∧ a ≤ n) (k : Vg M X Q q ls (.ref r :: st) n h kc ks) : Vg M X Q pc ls (.int i :: .ref a :: st) n h kc ks := by
  subst hq
  obtain ⟨a', rfl⟩ : ∃ a', a = a' + 1 := ⟨a - 1, by omega⟩
  intro D dA sc b n0 p l e s m args below meth c C H locs lsm hP hn hS hL
  obtain ⟨hx, hb, hr0, hml, hown, hts, hlocks, hK, hsz, hnm, hX⟩ := id C
  have he : (wd sc b dA n h)[a']? = some (b + a', .inl (dA 4, N, .inr (.inr (.inr (.inr (fun j => (f j).map (ad sc b))))))) := by rw [wd_at (by omega), ho]; rfl
  refine va_aldq hx hb hK.1 hP a' 4 he rfl hi hd ?_
  rw [show va_rf ((fun j => (f j).map (ad sc b)) i.toNatClampNeg) = tV sc b (.ref r) by simp [hj, va_rf, tV]]
  exact k D dA sc b n0 p l e s m args below meth c C H locs lsm hP hn hS hL
theorem x_iast {a N : Nat} {f : Nat → Int32} {i : Int32} {x : Int32} (hd : decode (mC M) pc = .ok (.iastore, 1)) (hq : pc + 1 = q) (ho : h a = .inl (0, N, .inl f)) (hi : vp_in i N)  (ha : 0 < a ∧ a ≤ n) (k : Vg M X Q q ls st n (hu h a (.inl (0, N, .inl (upd f i.toNatClampNeg x)))) kc ks) : Vg M X Q pc ls (.int x :: .int i :: .ref a :: st) n h kc ks := by
  subst hq
  obtain ⟨a', rfl⟩ : ∃ a', a = a' + 1 := ⟨a - 1, by omega⟩
  intro D dA sc b n0 p l e s m args below meth c C H locs lsm hP hn hS hL
  obtain ⟨hx, hb, hr0, hml, hown, hts, hlocks, hK, hsz, hnm, hX⟩ := id C
  have he : (wd sc b dA n h)[a']? = some (b + a', .inl (dA 0, N, .inl f)) := by rw [wd_at (by omega), ho]; rfl
  refine va_iast hx hb hK.1 hP wd_D hS a' 0 he rfl hi hd (fun H1 locs1 hP1 hD1 hS1 => ?_)
  have e9 : (wd sc b dA n h).set a' (b + a', .inl (dA 0, N, .inl (upd f i.toNatClampNeg x))) = wd sc b dA n (hu h (a' + 1) (.inl (0, N, .inl (upd f i.toNatClampNeg x)))) := by
    rw [← wd_set]; rfl
  rw [e9] at hP1
  exact k D dA sc b n0 p l e s m args below meth c C H1 locs1 lsm hP1 hn hS1 hL
theorem x_zast {a N : Nat} {f : Nat → Int32} {i : Int32} {x : Int32} (hd : decode (mC M) pc = .ok (.bastore, 1)) (hq : pc + 1 = q) (ho : h a = .inl (1, N, .inl f)) (hi : vp_in i N) (hb0 : vp_nar .boolean x = x) (ha : 0 < a ∧ a ≤ n) (k : Vg M X Q q ls st n (hu h a (.inl (1, N, .inl (upd f i.toNatClampNeg x)))) kc ks) : Vg M X Q pc ls (.int x :: .int i :: .ref a :: st) n h kc ks := by
  subst hq
  obtain ⟨a', rfl⟩ : ∃ a', a = a' + 1 := ⟨a - 1, by omega⟩
  intro D dA sc b n0 p l e s m args below meth c C H locs lsm hP hn hS hL
  obtain ⟨hx, hb, hr0, hml, hown, hts, hlocks, hK, hsz, hnm, hX⟩ := id C
  have he : (wd sc b dA n h)[a']? = some (b + a', .inl (dA 1, N, .inl f)) := by rw [wd_at (by omega), ho]; rfl
  refine va_zast hx hb hK.1 hP wd_D hS a' 1 he rfl hi hd (fun H1 locs1 hP1 hD1 hS1 => ?_)
  rw [hb0] at hP1
  have e9 : (wd sc b dA n h).set a' (b + a', .inl (dA 1, N, .inl (upd f i.toNatClampNeg x))) = wd sc b dA n (hu h (a' + 1) (.inl (1, N, .inl (upd f i.toNatClampNeg x)))) := by
    rw [← wd_set]; rfl
  rw [e9] at hP1
  exact k D dA sc b n0 p l e s m args below meth c C H1 locs1 lsm hP1 hn hS1 hL
theorem x_last {a N : Nat} {f : Nat → Int64} {i : Int32} {x : Int64} (hd : decode (mC M) pc = .ok (.lastore, 1)) (hq : pc + 1 = q) (ho : h a = .inl (2, N, .inr (.inl f))) (hi : vp_in i N)  (ha : 0 < a ∧ a ≤ n) (k : Vg M X Q q ls st n (hu h a (.inl (2, N, .inr (.inl (vp_updL f i.toNatClampNeg x))))) kc ks) : Vg M X Q pc ls (.long x :: .int i :: .ref a :: st) n h kc ks := by
  subst hq
  obtain ⟨a', rfl⟩ : ∃ a', a = a' + 1 := ⟨a - 1, by omega⟩
  intro D dA sc b n0 p l e s m args below meth c C H locs lsm hP hn hS hL
  obtain ⟨hx, hb, hr0, hml, hown, hts, hlocks, hK, hsz, hnm, hX⟩ := id C
  have he : (wd sc b dA n h)[a']? = some (b + a', .inl (dA 2, N, .inr (.inl f))) := by rw [wd_at (by omega), ho]; rfl
  refine va_last hx hb hK.1 hP wd_D hS a' 2 he rfl hi hd (fun H1 locs1 hP1 hD1 hS1 => ?_)
  have e9 : (wd sc b dA n h).set a' (b + a', .inl (dA 2, N, .inr (.inl (vp_updL f i.toNatClampNeg x)))) = wd sc b dA n (hu h (a' + 1) (.inl (2, N, .inr (.inl (vp_updL f i.toNatClampNeg x))))) := by
    rw [← wd_set]; rfl
  rw [e9] at hP1
  exact k D dA sc b n0 p l e s m args below meth c C H1 locs1 lsm hP1 hn hS1 hL
theorem x_aast3 {a N r ci : Nat} {vs : List Value} {T : u_T} {Nf : Nat} {f : Nat → Option Nat} {i : Int32} (hd : decode (mC M) pc = .ok (.aastore, 1)) (hq : pc + 1 = q) (ho : h a = .inl (3, N, .inr (.inr (.inr (.inr f))))) (hr : h r = .inr (ci, vs)) (hc : vwCl[ci]? = some ("ColourWorks$Batch", T, Nf)) (hi : vp_in i N) (ha : 0 < a ∧ a ≤ n) (hr2 : 0 < r ∧ r ≤ n) (k : Vg M X Q q ls st n (hu h a (.inl (3, N, .inr (.inr (.inr (.inr (va_up f i.toNatClampNeg (some r)))))))) kc ks) : Vg M X Q pc ls (.ref r :: .int i :: .ref a :: st) n h kc ks := by
  subst hq
  obtain ⟨a', rfl⟩ : ∃ a', a = a' + 1 := ⟨a - 1, by omega⟩
  obtain ⟨r', rfl⟩ : ∃ r', r = r' + 1 := ⟨r - 1, by omega⟩
  intro D dA sc b n0 p l e s m args below meth c C H locs lsm hP hn hS hL
  obtain ⟨hx, hb, hr0, hml, hown, hts, hlocks, hK, hsz, hnm, hX⟩ := id C
  have he : (wd sc b dA n h)[a']? = some (b + a', .inl (dA 3, N, .inr (.inr (.inr (.inr (fun j => (f j).map (ad sc b))))))) := by rw [wd_at (by omega), ho]; rfl
  have hv : (wd sc b dA n h)[r']? = some (b + r', .inr (ci, vs.map (tV sc b))) := by rw [wd_at (by omega), hr]; rfl
  refine va_astq hx hb hK.1 hP wd_D hS a' 3 r' ci he rfl hv hc hi hd (fun H1 locs1 hP1 hD1 hS1 => ?_)
  have e9 : (wd sc b dA n h).set a' (b + a', .inl (dA 3, N, .inr (.inr (.inr (.inr (va_up (fun j => (f j).map (ad sc b)) i.toNatClampNeg (some (b + r')))))))) = wd sc b dA n (hu h (a' + 1) (.inl (3, N, .inr (.inr (.inr (.inr (va_up f i.toNatClampNeg (some (r' + 1))))))))) := by
    rw [← wd_set]
    have e8 : va_up (fun j => (f j).map (ad sc b)) i.toNatClampNeg (some (b + r')) = fun j => (va_up f i.toNatClampNeg (some (r' + 1)) j).map (ad sc b) := by
      funext j
      by_cases hj : j = i.toNatClampNeg
      · simp [va_up, hj, ad]
      · simp [va_up, hj]
    rw [e8]; rfl
  rw [e9] at hP1
  exact k D dA sc b n0 p l e s m args below meth c C H1 locs1 lsm hP1 hn hS1 hL
theorem x_aast4 {a N r ci : Nat} {vs : List Value} {T : u_T} {Nf : Nat} {f : Nat → Option Nat} {i : Int32} (hd : decode (mC M) pc = .ok (.aastore, 1)) (hq : pc + 1 = q) (ho : h a = .inl (4, N, .inr (.inr (.inr (.inr f))))) (hr : h r = .inr (ci, vs)) (hc : vwCl[ci]? = some ("ColourWorks$Tank", T, Nf)) (hi : vp_in i N) (ha : 0 < a ∧ a ≤ n) (hr2 : 0 < r ∧ r ≤ n) (k : Vg M X Q q ls st n (hu h a (.inl (4, N, .inr (.inr (.inr (.inr (va_up f i.toNatClampNeg (some r)))))))) kc ks) : Vg M X Q pc ls (.ref r :: .int i :: .ref a :: st) n h kc ks := by
  subst hq
  obtain ⟨a', rfl⟩ : ∃ a', a = a' + 1 := ⟨a - 1, by omega⟩
  obtain ⟨r', rfl⟩ : ∃ r', r = r' + 1 := ⟨r - 1, by omega⟩
  intro D dA sc b n0 p l e s m args below meth c C H locs lsm hP hn hS hL
  obtain ⟨hx, hb, hr0, hml, hown, hts, hlocks, hK, hsz, hnm, hX⟩ := id C
  have he : (wd sc b dA n h)[a']? = some (b + a', .inl (dA 4, N, .inr (.inr (.inr (.inr (fun j => (f j).map (ad sc b))))))) := by rw [wd_at (by omega), ho]; rfl
  have hv : (wd sc b dA n h)[r']? = some (b + r', .inr (ci, vs.map (tV sc b))) := by rw [wd_at (by omega), hr]; rfl
  refine va_astq hx hb hK.1 hP wd_D hS a' 4 r' ci he rfl hv hc hi hd (fun H1 locs1 hP1 hD1 hS1 => ?_)
  have e9 : (wd sc b dA n h).set a' (b + a', .inl (dA 4, N, .inr (.inr (.inr (.inr (va_up (fun j => (f j).map (ad sc b)) i.toNatClampNeg (some (b + r')))))))) = wd sc b dA n (hu h (a' + 1) (.inl (4, N, .inr (.inr (.inr (.inr (va_up f i.toNatClampNeg (some (r' + 1))))))))) := by
    rw [← wd_set]
    have e8 : va_up (fun j => (f j).map (ad sc b)) i.toNatClampNeg (some (b + r')) = fun j => (va_up f i.toNatClampNeg (some (r' + 1)) j).map (ad sc b) := by
      funext j
      by_cases hj : j = i.toNatClampNeg
      · simp [va_up, hj, ad]
      · simp [va_up, hj]
    rw [e8]; rfl
  rw [e9] at hP1
  exact k D dA sc b n0 p l e s m args below meth c C H1 locs1 lsm hP1 hn hS1 hL
theorem x_alen {a N : Nat} {f : Nat → Int32} {v : Int32} (hd : decode (mC M) pc = .ok (.arraylength, 1)) (hq : pc + 1 = q) (ho : h a = .inl (0, N, .inl f)) (hv : Int32.ofNat N = v) (ha : 0 < a ∧ a ≤ n) (k : Vg M X Q q ls (.int v :: st) n h kc ks) : Vg M X Q pc ls (.ref a :: st) n h kc ks := by
  subst hq
  obtain ⟨a', rfl⟩ : ∃ a', a = a' + 1 := ⟨a - 1, by omega⟩
  intro D dA sc b n0 p l e s m args below meth c C H locs lsm hP hn hS hL
  obtain ⟨hx, hb, hr0, hml, hown, hts, hlocks, hK, hsz, hnm, hX⟩ := id C
  have he : (wd sc b dA n h)[a']? = some (b + a', .inl (dA 0, N, .inl f)) := by rw [wd_at (by omega), ho]; rfl
  exact va_alen hx hb hK.1 hP a' 0 he rfl hv hd (k D dA sc b n0 p l e s m args below meth c C H locs lsm hP hn hS hL)
theorem x_acopy {a a0 N N0 idx : Nat} {f g : Nat → Int32} {sp dp len : Int32} (hd : decode (mC M) pc = .ok (.invokestatic idx, 3)) (hq : pc + 3 = q) (hw1 : Cond.methodLink (mO M) idx arraycopyName ∈ gw) (hw2 : Cond.native arraycopyName ∈ gw) (hw3 : Cond.static arraycopyName ∈ gw) (hw4 : Cond.initialized "java/lang/System" ∈ gw) (ho : h a = .inl (0, N, .inl g)) (ho0 : h a0 = .inl (0, N0, .inl f)) (ha : 0 < a ∧ a ≤ n) (ha0 : 0 < a0 ∧ a0 ≤ n) (h1 : ¬ sp < 0) (h2 : ¬ dp < 0) (h3 : ¬ len < 0) (h4 : sp.toNatClampNeg + len.toNatClampNeg ≤ N0) (h5 : dp.toNatClampNeg + len.toNatClampNeg ≤ N) (hfr : 1 ≤ (mR M).frames) (hlo : cats st + 18 ≤ (mR M).locals)
    (k : Vg M X Q q ls st n (hu h a (.inl (0, N, .inl (va_cpy f g sp.toNatClampNeg dp.toNatClampNeg len.toNatClampNeg)))) kc ks) : Vg M X Q pc ls (.int len :: .int dp :: .ref a :: .int sp :: .ref a0 :: st) n h kc ks := by
  subst hq
  obtain ⟨a', rfl⟩ : ∃ a', a = a' + 1 := ⟨a - 1, by omega⟩
  obtain ⟨a0', rfl⟩ : ∃ a0', a0 = a0' + 1 := ⟨a0 - 1, by omega⟩
  intro D dA sc b n0 p l e s m args below meth c C H locs lsm hP hn hS hL
  obtain ⟨hx, hb, hr0, hml, hown, hts, hlocks, hK, hsz, hnm, hX⟩ := id C
  have he : (wd sc b dA n h)[a']? = some (b + a', .inl (dA 0, N, .inl g)) := by rw [wd_at (by omega), ho]; rfl
  have he0 : (wd sc b dA n h)[a0']? = some (b + a0', .inl (dA 0, N0, .inl f)) := by rw [wd_at (by omega), ho0]; rfl
  refine va_copyi hx hb (hml.trans hL.1.symm) hown (hts _ hw1) (hts _ hw2) (hts _ hw3) (hts _ hw4) hK.1 hP wd_D hS a0' a' 0 0 (ty := .int) he0 he rfl rfl rfl h1 h2 h3 h4 h5 (fun _ _ => rfl) hfr (by rw [cats_sum]; exact hlo) hd (fun H1 locs1 hP1 hD1 hS1 => ?_)
  have e9 : (wd sc b dA n h).set a' (b + a', .inl (dA 0, N, .inl (va_cpy f g sp.toNatClampNeg dp.toNatClampNeg len.toNatClampNeg))) = wd sc b dA n (hu h (a' + 1) (.inl (0, N, .inl (va_cpy f g sp.toNatClampNeg dp.toNatClampNeg len.toNatClampNeg)))) := by
    rw [← wd_set]; rfl
  rw [e9] at hP1
  exact k D dA sc b n0 p l e s m args below meth c C H1 locs1 lsm hP1 hn hS1 hL
theorem x_sld {L : Nat} {xs : Nat → Int32} {i : Int32} (hd : decode (mC M) pc = .ok (.iaload, 1)) (hq : pc + 1 = q) (hi : vp_in i L) (k : Vg M (some (L, xs)) Q q ls (.int (xs i.toNatClampNeg) :: st) n h kc ks) : Vg M (some (L, xs)) Q pc ls (.int i :: .ref 0 :: st) n h kc ks := by
  subst hq
  intro D dA sc b n0 p l e s m args below meth c C H locs lsm hP hn hS hL
  obtain ⟨hx, hb, hr0, hml, hown, hts, hlocks, hK, hsz, hnm, hX⟩ := id C
  obtain ⟨x1, x2, x3⟩ := hX _ rfl
  exact va_sld (b := sc) (A := fun q : Nat => b ≤ q) hx hb x1 (by omega) (by omega) hS hi hd (k D dA sc b n0 p l e s m args below meth c C H locs lsm hP hn hS hL)
theorem x_slen {L : Nat} {xs : Nat → Int32} (hd : decode (mC M) pc = .ok (.arraylength, 1)) (hq : pc + 1 = q) (k : Vg M (some (L, xs)) Q q ls (.int (Int32.ofNat L) :: st) n h kc ks) : Vg M (some (L, xs)) Q pc ls (.ref 0 :: st) n h kc ks := by
  subst hq
  intro D dA sc b n0 p l e s m args below meth c C H locs lsm hP hn hS hL
  obtain ⟨hx, hb, hr0, hml, hown, hts, hlocks, hK, hsz, hnm, hX⟩ := id C
  obtain ⟨x1, x2, x3⟩ := hX _ rfl
  exact va_slen (b := sc) (A := fun q : Nat => b ≤ q) hx hb x1 (by omega) (by omega) hS hd (k D dA sc b n0 p l e s m args below meth c C H locs lsm hP hn hS hL)
theorem new_at {D : va_G} {dA : Nat → ClassId} {sc b qa : Nat} {E : va_E} {H1 : Heap} {s : State} (hsz : s.heap.size ≤ b + n) (hP : va_P D vwCl (wd sc b dA n h ++ [(qa, E)]) H1) (hD : va_D (fun q : Nat => b ≤ q) (wd sc b dA n h ++ [(qa, E)])) (hB : H1.size ≤ b + n + 1) : qa = b + n := by
  have hl : (wd sc b dA n h ++ [(qa, E)])[n]? = some (qa, E) := by
    rw [List.getElem?_append_right (by rw [wd_len]; omega), wd_len, Nat.sub_self]; rfl
  have h1 : qa < H1.size := (hP n _ hl).lt
  have h2 : b ≤ qa := hD.2 n _ hl
  by_cases h3 : qa < b + n
  · exfalso
    have hw : (wd sc b dA n h ++ [(qa, E)])[qa - b]? = some (b + (qa - b), tE sc b dA (h (qa - b + 1))) := by
      rw [List.getElem?_append_left (by rw [wd_len]; omega), wd_at (by omega)]
    have := hD.1 n (qa - b) _ _ hl hw (by show qa = b + (qa - b); omega)
    omega
  · omega
/-- a kind of object that a place of a pool makes: with these fields at first -/
def NL (own : String) (idx ci : Nat) (fs : List Value) (N : Nat) : Prop := ∃ (C : String) (T : u_T) (ty : Nat → FieldType), vwCl[ci]? = some (C, T, N) ∧ (∀ w ∈ u_ws C T N, w ∈ gw) ∧ (∀ k, k < N → parseFieldDescriptor (T k).2.2.1 = some (ty k)) ∧ Cond.classLink own idx C ∈ gw ∧ Cond.instantiable C N ∈ gw ∧ Cond.initialized C ∈ gw ∧ (∀ j, j < N → defaultValue (ty j) = vp_V fs j) ∧ ∀ sc b : Nat, fs.map (tV sc b) = fs
theorem x_new {idx ci N : Nat} {fs : List Value} {kc' ks' : Nat} (hd : decode (mC M) pc = .ok (.new idx, 3)) (hq : pc + 3 = q) (hf : NL (mO M) idx ci fs N) (hc1 : kc + 1 ≤ (mR M).cells) (hc2 : ks + N ≤ (mR M).slots) (hk1 : kc + 1 = kc') (hk2 : ks + N = ks') (k : Vg M X Q q ls (.ref (n + 1) :: st) (n + 1) (hu h (n + 1) (.inr (ci, fs))) kc' ks') : Vg M X Q pc ls st n h kc ks := by
  subst hq; subst hk1; subst hk2
  intro D dA sc b n0 p l e s m args below meth c C H locs lsm hP hn hS hL
  obtain ⟨hx, hb, hr0, hml, hown, hts, hlocks, hK, hsz, hnm, hX⟩ := id C
  obtain ⟨Cn, T, ty, hc, hin, hty, hcl, hins, hini, hfs, hmp⟩ := hf
  refine va_new hx hb hts hin ty hty hown (hts _ hcl) (hts _ hins) (hts _ hini) hK.1 hP wd_D hS (fun q hq => by omega) hc hfs hc1 hc2 hd (fun qa H1 hP1 hD1 hS1 => ?_)
  refine W.bnd (fun hB => ?_)
  have hqa := new_at (s := s) (by omega) hP1 hD1 (by omega)
  subst hqa
  have e9 : wd sc b dA n h ++ [(b + n, .inr (ci, fs))] = wd sc b dA (n + 1) (hu h (n + 1) (.inr (ci, fs))) := by
    rw [← wd_push]; simp [tE, hmp]
  rw [e9] at hP1
  exact k D dA sc b n0 p l e s m args below meth c C H1 locs lsm hP1 (by omega) hS1 hL
theorem x_newai {z : Int32} {N : Nat} {kc' ks' : Nat} (hd : decode (mC M) pc = .ok (.newarray .int, 2)) (hq : pc + 2 = q) (hw : Cond.arrayClass .int ∈ gw) (hz : ¬ z < 0) (hN : z.toNatClampNeg = N) (hby : N * 8 ≤ 536870912) (hc1 : kc + 1 ≤ (mR M).cells) (hc2 : ks + N ≤ (mR M).slots) (hk1 : kc + 1 = kc') (hk2 : ks + N = ks') (k : Vg M X Q q ls (.ref (n + 1) :: st) (n + 1) (hu h (n + 1) (.inl (0, N, .inl (fun _ => 0)))) kc' ks') : Vg M X Q pc ls (.int z :: st) n h kc ks := by
  subst hq; subst hk1; subst hk2
  intro D dA sc b n0 p l e s m args below meth c C H locs lsm hP hn hS hL
  obtain ⟨hx, hb, hr0, hml, hown, hts, hlocks, hK, hsz, hnm, hX⟩ := id C
  refine va_newa (atype := .int) (ty := .int) (a0 := (N, .inl (fun _ => 0))) hx hb (hts _ hw) rfl hK.1 hP wd_D hS (fun q hq => by omega) (fun cA => rfl) hz hN (by simp only [componentBytes]; omega) hc1 hc2 hd (fun qa cA H1 hK1 hP1 hD1 hS1 => ?_)
  refine W.bnd (fun hB => ?_)
  have hqa := new_at (s := s) (by omega) hP1 hD1 (by omega)
  subst hqa
  have hcA : cA = dA 0 := by
    have f1 : s.vm.findClass ("[" ++ (FieldType.int).toString) = some cA := (hK1.2 5 (cA, .int) rfl).2
    have f2 : s.vm.findClass ("[" ++ (FieldType.int).toString) = some (dA 0) := (hK.1.2 0 (dA 0, .int) rfl).2
    exact Option.some.inj (f1.symm.trans f2)
  subst hcA
  have e9 : wd sc b dA n h ++ [(b + n, .inl (dA 0, N, .inl (fun _ => 0)))] = wd sc b dA (n + 1) (hu h (n + 1) (.inl (0, N, .inl (fun _ => 0)))) := by
    rw [← wd_push]; rfl
  rw [e9] at hP1
  exact k D dA sc b n0 p l e s m args below meth c C H1 locs lsm hP1 (by omega) hS1 hL
theorem x_newaz {z : Int32} {N : Nat} {kc' ks' : Nat} (hd : decode (mC M) pc = .ok (.newarray .boolean, 2)) (hq : pc + 2 = q) (hw : Cond.arrayClass .boolean ∈ gw) (hz : ¬ z < 0) (hN : z.toNatClampNeg = N) (hby : N * 8 ≤ 536870912) (hc1 : kc + 1 ≤ (mR M).cells) (hc2 : ks + N ≤ (mR M).slots) (hk1 : kc + 1 = kc') (hk2 : ks + N = ks') (k : Vg M X Q q ls (.ref (n + 1) :: st) (n + 1) (hu h (n + 1) (.inl (1, N, .inl (fun _ => 0)))) kc' ks') : Vg M X Q pc ls (.int z :: st) n h kc ks := by
  subst hq; subst hk1; subst hk2
  intro D dA sc b n0 p l e s m args below meth c C H locs lsm hP hn hS hL
  obtain ⟨hx, hb, hr0, hml, hown, hts, hlocks, hK, hsz, hnm, hX⟩ := id C
  refine va_newa (atype := .boolean) (ty := .boolean) (a0 := (N, .inl (fun _ => 0))) hx hb (hts _ hw) rfl hK.1 hP wd_D hS (fun q hq => by omega) (fun cA => rfl) hz hN (by simp only [componentBytes]; omega) hc1 hc2 hd (fun qa cA H1 hK1 hP1 hD1 hS1 => ?_)
  refine W.bnd (fun hB => ?_)
  have hqa := new_at (s := s) (by omega) hP1 hD1 (by omega)
  subst hqa
  have hcA : cA = dA 1 := by
    have f1 : s.vm.findClass ("[" ++ (FieldType.boolean).toString) = some cA := (hK1.2 5 (cA, .boolean) rfl).2
    have f2 : s.vm.findClass ("[" ++ (FieldType.boolean).toString) = some (dA 1) := (hK.1.2 1 (dA 1, .boolean) rfl).2
    exact Option.some.inj (f1.symm.trans f2)
  subst hcA
  have e9 : wd sc b dA n h ++ [(b + n, .inl (dA 1, N, .inl (fun _ => 0)))] = wd sc b dA (n + 1) (hu h (n + 1) (.inl (1, N, .inl (fun _ => 0)))) := by
    rw [← wd_push]; rfl
  rw [e9] at hP1
  exact k D dA sc b n0 p l e s m args below meth c C H1 locs lsm hP1 (by omega) hS1 hL
theorem x_newal {z : Int32} {N : Nat} {kc' ks' : Nat} (hd : decode (mC M) pc = .ok (.newarray .long, 2)) (hq : pc + 2 = q) (hw : Cond.arrayClass .long ∈ gw) (hz : ¬ z < 0) (hN : z.toNatClampNeg = N) (hby : N * 8 ≤ 536870912) (hc1 : kc + 1 ≤ (mR M).cells) (hc2 : ks + N ≤ (mR M).slots) (hk1 : kc + 1 = kc') (hk2 : ks + N = ks') (k : Vg M X Q q ls (.ref (n + 1) :: st) (n + 1) (hu h (n + 1) (.inl (2, N, .inr (.inl (fun _ => 0))))) kc' ks') : Vg M X Q pc ls (.int z :: st) n h kc ks := by
  subst hq; subst hk1; subst hk2
  intro D dA sc b n0 p l e s m args below meth c C H locs lsm hP hn hS hL
  obtain ⟨hx, hb, hr0, hml, hown, hts, hlocks, hK, hsz, hnm, hX⟩ := id C
  refine va_newa (atype := .long) (ty := .long) (a0 := (N, .inr (.inl (fun _ => 0)))) hx hb (hts _ hw) rfl hK.1 hP wd_D hS (fun q hq => by omega) (fun cA => rfl) hz hN (by simp only [componentBytes]; omega) hc1 hc2 hd (fun qa cA H1 hK1 hP1 hD1 hS1 => ?_)
  refine W.bnd (fun hB => ?_)
  have hqa := new_at (s := s) (by omega) hP1 hD1 (by omega)
  subst hqa
  have hcA : cA = dA 2 := by
    have f1 : s.vm.findClass ("[" ++ (FieldType.long).toString) = some cA := (hK1.2 5 (cA, .long) rfl).2
    have f2 : s.vm.findClass ("[" ++ (FieldType.long).toString) = some (dA 2) := (hK.1.2 2 (dA 2, .long) rfl).2
    exact Option.some.inj (f1.symm.trans f2)
  subst hcA
  have e9 : wd sc b dA n h ++ [(b + n, .inl (dA 2, N, .inr (.inl (fun _ => 0))))] = wd sc b dA (n + 1) (hu h (n + 1) (.inl (2, N, .inr (.inl (fun _ => 0))))) := by
    rw [← wd_push]; rfl
  rw [e9] at hP1
  exact k D dA sc b n0 p l e s m args below meth c C H1 locs lsm hP1 (by omega) hS1 hL
theorem x_newa3 {z : Int32} {idx N : Nat} {kc' ks' : Nat} (hd : decode (mC M) pc = .ok (.anewarray idx, 3)) (hq : pc + 3 = q) (hw : Cond.classLink (mO M) idx "ColourWorks$Batch" ∈ gw) (hz : ¬ z < 0) (hN : z.toNatClampNeg = N) (hby : N * 4 ≤ 536870912) (hc1 : kc + 1 ≤ (mR M).cells) (hc2 : ks + N ≤ (mR M).slots) (hk1 : kc + 1 = kc') (hk2 : ks + N = ks') (k : Vg M X Q q ls (.ref (n + 1) :: st) (n + 1) (hu h (n + 1) (.inl (3, N, .inr (.inr (.inr (.inr (fun _ => none))))))) kc' ks') : Vg M X Q pc ls (.int z :: st) n h kc ks := by
  subst hq; subst hk1; subst hk2
  intro D dA sc b n0 p l e s m args below meth c C H locs lsm hP hn hS hL
  obtain ⟨hx, hb, hr0, hml, hown, hts, hlocks, hK, hsz, hnm, hX⟩ := id C
  refine va_newq hx hb hown (hts _ hw) hK.2.2.1 hK.1 hP wd_D hS (fun q hq => by omega) hz hN hby hc1 hc2 hd (fun qa cA H1 hK1 hP1 hD1 hS1 => ?_)
  refine W.bnd (fun hB => ?_)
  have hqa := new_at (s := s) (by omega) hP1 hD1 (by omega)
  subst hqa
  have hcA : cA = dA 3 := by
    obtain ⟨-, -, -, -, -, f1⟩ := (hK1.2 5 (cA, .object "ColourWorks$Batch") rfl).2
    obtain ⟨-, -, -, -, -, f2⟩ := (hK.1.2 3 (dA 3, .object "ColourWorks$Batch") rfl).2
    exact Option.some.inj (f1.symm.trans f2)
  subst hcA
  have e9 : wd sc b dA n h ++ [(b + n, .inl (dA 3, N, .inr (.inr (.inr (.inr (fun _ => none))))))] = wd sc b dA (n + 1) (hu h (n + 1) (.inl (3, N, .inr (.inr (.inr (.inr (fun _ => none))))))) := by
    rw [← wd_push]; rfl
  rw [e9] at hP1
  exact k D dA sc b n0 p l e s m args below meth c C H1 locs lsm hP1 (by omega) hS1 hL
theorem x_newa4 {z : Int32} {idx N : Nat} {kc' ks' : Nat} (hd : decode (mC M) pc = .ok (.anewarray idx, 3)) (hq : pc + 3 = q) (hw : Cond.classLink (mO M) idx "ColourWorks$Tank" ∈ gw) (hz : ¬ z < 0) (hN : z.toNatClampNeg = N) (hby : N * 4 ≤ 536870912) (hc1 : kc + 1 ≤ (mR M).cells) (hc2 : ks + N ≤ (mR M).slots) (hk1 : kc + 1 = kc') (hk2 : ks + N = ks') (k : Vg M X Q q ls (.ref (n + 1) :: st) (n + 1) (hu h (n + 1) (.inl (4, N, .inr (.inr (.inr (.inr (fun _ => none))))))) kc' ks') : Vg M X Q pc ls (.int z :: st) n h kc ks := by
  subst hq; subst hk1; subst hk2
  intro D dA sc b n0 p l e s m args below meth c C H locs lsm hP hn hS hL
  obtain ⟨hx, hb, hr0, hml, hown, hts, hlocks, hK, hsz, hnm, hX⟩ := id C
  refine va_newq hx hb hown (hts _ hw) hK.2.2.2 hK.1 hP wd_D hS (fun q hq => by omega) hz hN hby hc1 hc2 hd (fun qa cA H1 hK1 hP1 hD1 hS1 => ?_)
  refine W.bnd (fun hB => ?_)
  have hqa := new_at (s := s) (by omega) hP1 hD1 (by omega)
  subst hqa
  have hcA : cA = dA 4 := by
    obtain ⟨-, -, -, -, -, f1⟩ := (hK1.2 5 (cA, .object "ColourWorks$Tank") rfl).2
    obtain ⟨-, -, -, -, -, f2⟩ := (hK.1.2 4 (dA 4, .object "ColourWorks$Tank") rfl).2
    exact Option.some.inj (f1.symm.trans f2)
  subst hcA
  have e9 : wd sc b dA n h ++ [(b + n, .inl (dA 4, N, .inr (.inr (.inr (.inr (fun _ => none))))))] = wd sc b dA (n + 1) (hu h (n + 1) (.inl (4, N, .inr (.inr (.inr (.inr (fun _ => none))))))) := by
    rw [← wd_push]; rfl
  rw [e9] at hP1
  exact k D dA sc b n0 p l e s m args below meth c C H1 locs lsm hP1 (by omega) hS1 hL
theorem x_obj {a idx : Nat} (hd : decode (mC M) pc = .ok (.invokespecial idx, 3)) (hq : pc + 3 = q) (hw1 : Cond.methodLink (mO M) idx objectInit ∈ gw) (hw2 : Cond.instanceMethod objectInit ∈ gw) (hw3 : Cond.code objectInit ⟨#[0xb1]⟩ 1 none ∈ gw) (hfr : 1 ≤ (mR M).frames) (hlo : cats st + 12 ≤ (mR M).locals) (k : Vg M X Q q ls st n h kc ks) : Vg M X Q pc ls (.ref a :: st) n h kc ks := by
  subst hq
  intro D dA sc b n0 p l e s m args below meth c C H locs lsm hP hn hS hL
  obtain ⟨hx, hb, hr0, hml, hown, hts, hlocks, hK, hsz, hnm, hX⟩ := id C
  refine W.objInit hx hb hown (hts _ hw1) (hts _ hw2) (hts _ hw3) rfl (hL.1.trans hml.symm) rfl hd hfr (by show 2 * 0 + _ + 12 ≤ _; rw [cats_sum]; omega) ?_
  exact k D dA sc b n0 p l e s m args below meth c C H locs lsm hP hn hS hL
theorem x_cs {M' : MI} {idx na : Nat} {av rest : List Value} {Post : PQ} {kc' ks' : Nat} (hd : decode (mC M) pc = .ok (.invokestatic idx, 3)) (hq : pc + 3 = q) (hl : KS (mO M) idx M' na) (hc : Mc M' av n h Post) (hav : av.length = na) (hs : av.reverse ++ rest = st) (hr : rok M M' kc ks = true) (hw : Nat.ble (cats rest) 8 = true) (hk1 : kc + (mR M').cells = kc') (hk2 : ks + (mR M').slots = ks') (k : ∀ (r : Option Value) (h' : HF), Post r h' → Vg M X Q q ls (r.toList ++ rest) (n + (mR M').cells) h' kc' ks') : Vg M X Q pc ls st n h kc ks := by
  obtain ⟨⟨hmf, hlk, hna⟩, hst⟩ := hl
  subst hq; subst hk1; subst hk2; subst hs
  intro D dA sc b n0 p l e s m args below meth c C H locs lsm hP hn hS hL
  obtain ⟨hx, hb, hr0, hml, hown, hts, hlocks, hK, hsz, hnm, hX⟩ := id C
  obtain ⟨⟨hrf, hrl⟩, hrc, hrs⟩ := rok_of hr
  have hws : ∀ w ∈ miW M', ∀ (a' : Array Value) (U : State), s.WarmedH U.vm → w.before a' U = true := pay_in hts (gw_good hmf)
  have hcd : Cond.code (mY M') (mC M') (mL M') (mT M') ∈ miW M' := List.mem_cons_self
  have hsig : ∀ sig, parseMethodDescriptor (mY M').desc = some sig → na = sig.parameters.length := fun sig hsg => by
    rw [hsg] at hna
    exact (Option.some.inj hna).symm
  refine W.bnd (fun hB => ?_)
  have hlow := wd_size hP (by have := hS.1; omega)
  have hcw : 2 * (F0 m pc lsm (List.map (tV sc b) (av.reverse ++ rest))).monitorRoom + ((rest.map (tV sc b)).map fun v => v.category).sum ≤ 8 := by
    rw [cats_sum]; show 2 * 0 + _ ≤ 8; have := Nat.le_of_ble_eq_true hw; omega
  have hU : ∀ U : State, U.heap = H → s.WarmedH U.vm → Pre D dA sc b n h U := fun U e1 e2 => ⟨by rw [e1]; exact hP, by rw [e1]; omega, hK.warm e2⟩
  have hpre : PreS s H (va_Pc (av.map (tV sc b)) (Pre D dA sc b n h)) (av.map (tV sc b)) := ⟨pre_blind _ _ _ _ _ _ _, fun U e1 e2 => ⟨rfl, hU U e1 e2⟩⟩
  have hstk : (F0 m pc lsm ((av.reverse ++ rest).map (tV sc b))).stack = (av.map (tV sc b)).reverse ++ rest.map (tV sc b) := by
    show (av.reverse ++ rest).map (tV sc b) = _
    rw [List.map_append, List.map_reverse]
  rcases hlk with hlk | ⟨host, hlk⟩
  · exact call_end (va_runS ⟨hx, hb, hml, hown, hts⟩ (hc l D dA sc b) ⟨⟨rfl, rfl, hrf, hrl, hws, hcd, hts _ hmf.1, hts _ hmf.2.1, hmf.2.2, hsig, hts _ hlk⟩, hts _ hst⟩ hpre rfl (by rw [List.length_map]; exact hav) hL.1 hstk hcw hd ⟨hrc, hrs⟩) hS (fun r h' H1 locs1 hp hP1 hS1 => by
      rw [tl_map]
      exact k r h' hp D dA sc b n0 p l e s m args below meth c C H1 locs1 lsm hP1 (by omega) hS1 hL)
  · exact call_end (va_runSN ⟨hx, hb, hml, hown, hts⟩ (hc l D dA sc b) ⟨⟨⟨rfl, rfl, hrf, hrl, hws, hcd⟩, hts _ hmf.1, hts _ hmf.2.1, hmf.2.2, hsig, nw_use rfl (hK.2.1 _ hlk)⟩, hts _ hst, trivial⟩ hpre rfl (by rw [List.length_map]; exact hav) hL.1 hstk hcw hd ⟨hrc, hrs⟩) hS (fun r h' H1 locs1 hp hP1 hS1 => by
      rw [tl_map]
      exact k r h' hp D dA sc b n0 p l e s m args below meth c C H1 locs1 lsm hP1 (by omega) hS1 hL)
theorem x_cv {M' : MI} {idx na : Nat} {av rest : List Value} {Post : PQ} {kc' ks' : Nat} {a ci : Nat} {fs : List Value} (hd : decode (mC M) pc = .ok (.invokevirtual idx, 3)) (hq : pc + 3 = q) (hl : KV (mO M) idx ci M' na) (hc : Mc M' (.ref a :: av) n h Post) (hav : av.length = na) (hs : av.reverse ++ .ref a :: rest = st) (ho : h a = .inr (ci, fs)) (ha : 0 < a ∧ a ≤ n) (hr : rok M M' kc ks = true) (hw : Nat.ble (cats rest) 8 = true) (hk1 : kc + (mR M').cells = kc') (hk2 : ks + (mR M').slots = ks') (k : ∀ (r : Option Value) (h' : HF), Post r h' → Vg M X Q q ls (r.toList ++ rest) (n + (mR M').cells) h' kc' ks') : Vg M X Q pc ls st n h kc ks := by
  obtain ⟨⟨hmf, hlk, hna⟩, hins, T, N, hcl, hsel⟩ := hl
  obtain ⟨a', rfl⟩ : ∃ a', a = a' + 1 := ⟨a - 1, by omega⟩
  subst hq; subst hk1; subst hk2; subst hs
  intro D dA sc b n0 p l e s m args below meth c C H locs lsm hP hn hS hL
  obtain ⟨hx, hb, hr0, hml, hown, hts, hlocks, hK, hsz, hnm, hX⟩ := id C
  obtain ⟨⟨hrf, hrl⟩, hrc, hrs⟩ := rok_of hr
  have hws : ∀ w ∈ miW M', ∀ (a' : Array Value) (U : State), s.WarmedH U.vm → w.before a' U = true := pay_in hts (gw_good hmf)
  have hcd : Cond.code (mY M') (mC M') (mL M') (mT M') ∈ miW M' := List.mem_cons_self
  have hsig : ∀ sig, parseMethodDescriptor (mY M').desc = some sig → na = sig.parameters.length := fun sig hsg => by
    rw [hsg] at hna
    exact (Option.some.inj hna).symm
  refine W.bnd (fun hB => ?_)
  have hlow := wd_size hP (by have := hS.1; omega)
  have hcw : 2 * (F0 m pc lsm (List.map (tV sc b) (av.reverse ++ .ref (a' + 1) :: rest))).monitorRoom + ((rest.map (tV sc b)).map fun v => v.category).sum ≤ 8 := by
    rw [cats_sum]; show 2 * 0 + _ ≤ 8; have := Nat.le_of_ble_eq_true hw; omega
  have hU : ∀ U : State, U.heap = H → s.WarmedH U.vm → Pre D dA sc b n h U := fun U e1 e2 => ⟨by rw [e1]; exact hP, by rw [e1]; omega, hK.warm e2⟩
  have he : (wd sc b dA n h)[a']? = some (b + a', .inr (ci, fs.map (tV sc b))) := by rw [wd_at (by omega), ho]; rfl
  have hpre : PreV s H (mY M').cls (b + a') (va_Pc ((.ref (a' + 1) :: av).map (tV sc b)) (Pre D dA sc b n h)) (av.map (tV sc b)) := ⟨pre_blind _ _ _ _ _ _ _, va_recv hK.1 hP hcl he, fun U e1 e2 => ⟨rfl, hU U e1 e2⟩⟩
  have hstk : (F0 m pc lsm ((av.reverse ++ .ref (a' + 1) :: rest).map (tV sc b))).stack = (av.map (tV sc b)).reverse ++ .ref (b + a') :: rest.map (tV sc b) := by
    show (av.reverse ++ .ref (a' + 1) :: rest).map (tV sc b) = _
    rw [List.map_append, List.map_reverse]; rfl
  rcases hlk with hlk | ⟨host, hlk⟩
  · exact call_end (va_runV ⟨hx, hb, hml, hown, hts⟩ (hc l D dA sc b) ⟨⟨rfl, rfl, hrf, hrl, hws, hcd, hts _ hmf.1, hts _ hmf.2.1, hmf.2.2, hsig, hts _ hlk⟩, hts _ hins, hts _ hsel⟩ hpre rfl (by rw [List.length_map]; exact hav) hL.1 hstk hcw hd ⟨hrc, hrs⟩) hS (fun r h' H1 locs1 hp hP1 hS1 => by
      rw [tl_map]
      exact k r h' hp D dA sc b n0 p l e s m args below meth c C H1 locs1 lsm hP1 (by omega) hS1 hL)
  · exact call_end (va_runVN ⟨hx, hb, hml, hown, hts⟩ (hc l D dA sc b) ⟨⟨⟨rfl, rfl, hrf, hrl, hws, hcd⟩, hts _ hmf.1, hts _ hmf.2.1, hmf.2.2, hsig, nw_use rfl (hK.2.1 _ hlk)⟩, hts _ hins, hts _ hsel⟩ hpre rfl (by rw [List.length_map]; exact hav) hL.1 hstk hcw hd ⟨hrc, hrs⟩) hS (fun r h' H1 locs1 hp hP1 hS1 => by
      rw [tl_map]
      exact k r h' hp D dA sc b n0 p l e s m args below meth c C H1 locs1 lsm hP1 (by omega) hS1 hL)
theorem x_ci {M' : MI} {idx na : Nat} {av rest : List Value} {Post : PQ} {kc' ks' : Nat} {a : Nat} (hd : decode (mC M) pc = .ok (.invokespecial idx, 3)) (hq : pc + 3 = q) (hl : KI (mO M) idx M' na) (hc : Mc M' (.ref a :: av) n h Post) (hav : av.length = na) (hs : av.reverse ++ .ref a :: rest = st) (ha : 0 < a ∧ a ≤ n) (hr : rok M M' kc ks = true) (hw : Nat.ble (cats rest) 8 = true) (hk1 : kc + (mR M').cells = kc') (hk2 : ks + (mR M').slots = ks') (k : ∀ (r : Option Value) (h' : HF), Post r h' → Vg M X Q q ls (r.toList ++ rest) (n + (mR M').cells) h' kc' ks') : Vg M X Q pc ls st n h kc ks := by
  obtain ⟨⟨hmf, hlk, hna⟩, hins, hin1, hrt⟩ := hl
  obtain ⟨a', rfl⟩ : ∃ a', a = a' + 1 := ⟨a - 1, by omega⟩
  subst hq; subst hk1; subst hk2; subst hs
  intro D dA sc b n0 p l e s m args below meth c C H locs lsm hP hn hS hL
  obtain ⟨hx, hb, hr0, hml, hown, hts, hlocks, hK, hsz, hnm, hX⟩ := id C
  obtain ⟨⟨hrf, hrl⟩, hrc, hrs⟩ := rok_of hr
  have hws : ∀ w ∈ miW M', ∀ (a' : Array Value) (U : State), s.WarmedH U.vm → w.before a' U = true := pay_in hts (gw_good hmf)
  have hcd : Cond.code (mY M') (mC M') (mL M') (mT M') ∈ miW M' := List.mem_cons_self
  have hsig : ∀ sig, parseMethodDescriptor (mY M').desc = some sig → na = sig.parameters.length := fun sig hsg => by
    rw [hsg] at hna
    exact (Option.some.inj hna).symm
  refine W.bnd (fun hB => ?_)
  have hlow := wd_size hP (by have := hS.1; omega)
  have hcw : 2 * (F0 m pc lsm (List.map (tV sc b) (av.reverse ++ .ref (a' + 1) :: rest))).monitorRoom + ((rest.map (tV sc b)).map fun v => v.category).sum ≤ 8 := by
    rw [cats_sum]; show 2 * 0 + _ ≤ 8; have := Nat.le_of_ble_eq_true hw; omega
  have hU : ∀ U : State, U.heap = H → s.WarmedH U.vm → Pre D dA sc b n h U := fun U e1 e2 => ⟨by rw [e1]; exact hP, by rw [e1]; omega, hK.warm e2⟩
  have hpre : PreS s H (va_Pc ((.ref (a' + 1) :: av).map (tV sc b)) (Pre D dA sc b n h)) (.ref (b + a') :: av.map (tV sc b)) := ⟨pre_blind _ _ _ _ _ _ _, fun U e1 e2 => ⟨rfl, hU U e1 e2⟩⟩
  have hstk : (F0 m pc lsm ((av.reverse ++ .ref (a' + 1) :: rest).map (tV sc b))).stack = (av.map (tV sc b)).reverse ++ .ref (b + a') :: rest.map (tV sc b) := by
    show (av.reverse ++ .ref (a' + 1) :: rest).map (tV sc b) = _
    rw [List.map_append, List.map_reverse]; rfl
  have hcd : Cond.code (mY M') (mC M') (mL M') none ∈ miW M' := hrt ▸ hcd
  have hcg : Cond.code (mY M') (mC M') (mL M') none ∈ gw := hrt ▸ hmf.1
  rcases hlk with hlk | ⟨host, hlk⟩
  · exact call_end (va_runI ⟨hx, hb, hml, hown, hts⟩ (hc l D dA sc b) ⟨⟨rfl, rfl, hrf, hrl, hws, hcd, hts _ hcg, hts _ hmf.2.1, hmf.2.2, hsig, hts _ hlk⟩, hin1, hts _ hins⟩ hpre rfl (by rw [List.length_map]; exact hav) hL.1 hstk hcw hd ⟨hrc, hrs⟩) hS (fun r h' H1 locs1 hp hP1 hS1 => by
      rw [tl_map]
      exact k r h' hp D dA sc b n0 p l e s m args below meth c C H1 locs1 lsm hP1 (by omega) hS1 hL)
  · exact call_end (va_runIN ⟨hx, hb, hml, hown, hts⟩ (hc l D dA sc b) ⟨⟨⟨rfl, rfl, hrf, hrl, hws, hcd⟩, hts _ hcg, hts _ hmf.2.1, hmf.2.2, hsig, nw_use rfl (hK.2.1 _ hlk)⟩, hin1, hts _ hins⟩ hpre rfl (by rw [List.length_map]; exact hav) hL.1 hstk hcw hd ⟨hrc, hrs⟩) hS (fun r h' H1 locs1 hp hP1 hS1 => by
      rw [tl_map]
      exact k r h' hp D dA sc b n0 p l e s m args below meth c C H1 locs1 lsm hP1 (by omega) hS1 hL)
end HROWS
section RROWS
variable {M : MI} {pc : Nat} {ls : List (Option Value)} {n ne : Nat} {h : HF} {kc ks : Nat} {Post : PQ}
theorem x_iret {v : Int32} (hd : decode (mC M) pc = .ok (.ireturn, 1)) (ht : ∃ ty : FieldType, mT M = some ty ∧ narrow ty (.int v) = .int v) (hk : kc = (mR M).cells) (hk2 : ks ≤ (mR M).slots) (hne : n = ne + (mR M).cells) (hp : Post (some (.int v)) h) : Vg M none (QM M ne Post) pc ls [.int v] n h kc ks := by
  subst hk; subst hne
  obtain ⟨ty, ht1, ht2⟩ := ht
  intro D dA sc b n0 p l e s m args below meth c C H locs lsm hP hn hS hL
  obtain ⟨hx, hb, hr0, hml, hown, hts, hlocks, hK, hsz, hnm, hX⟩ := id C
  refine W.widen (k := (mR M).cells) (n := (mR M).slots) (Nat.le_refl _) hk2 ?_
  exact W.zret hx hb (hr0.trans ht1) ht2 (fun t ht hW => ⟨some (.int v), h, rfl, hp, by rw [ht]; exact hP, hS.F ht⟩) hS.2.2 hd
theorem x_lret {v : Int64} (hd : decode (mC M) pc = .ok (.lreturn, 1)) (ht : mT M = some .long) (hk : kc = (mR M).cells) (hk2 : ks ≤ (mR M).slots) (hne : n = ne + (mR M).cells) (hp : Post (some (.long v)) h) : Vg M none (QM M ne Post) pc ls [.long v] n h kc ks := by
  subst hk; subst hne
  intro D dA sc b n0 p l e s m args below meth c C H locs lsm hP hn hS hL
  obtain ⟨hx, hb, hr0, hml, hown, hts, hlocks, hK, hsz, hnm, hX⟩ := id C
  refine W.widen (k := (mR M).cells) (n := (mR M).slots) (Nat.le_refl _) hk2 ?_
  exact W.lret hx hb (hr0.trans ht) (fun t ht hW => ⟨some (.long v), h, rfl, hp, by rw [ht]; exact hP, hS.F ht⟩) hS.2.2 hd
theorem x_vret (hd : decode (mC M) pc = .ok (.return_, 1)) (ht : mT M = none) (hk : kc = (mR M).cells) (hk2 : ks ≤ (mR M).slots) (hne : n = ne + (mR M).cells) (hp : Post (none) h) : Vg M none (QM M ne Post) pc ls [] n h kc ks := by
  subst hk; subst hne
  intro D dA sc b n0 p l e s m args below meth c C H locs lsm hP hn hS hL
  obtain ⟨hx, hb, hr0, hml, hown, hts, hlocks, hK, hsz, hnm, hX⟩ := id C
  refine W.widen (k := (mR M).cells) (n := (mR M).slots) (Nat.le_refl _) hk2 ?_
  exact W.vret hx hb (hr0.trans ht) (fun t ht hW => ⟨none, h, rfl, hp, by rw [ht]; exact hP, hS.F ht⟩) hS.2.2 hd
end RROWS
