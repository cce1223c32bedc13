theorem maxI_nn {x : Int32} (h : 0 ≤ x.toInt) : maxI 0 x = x := by
  unfold maxI
  split
  · rfl
  · rename_i q
    have q := Int32.le_iff_toInt_le.mp (Int32.not_lt.mp q)
    rw [show (0 : Int32).toInt = 0 from rfl] at q
    exact Int32.toInt_inj.mp (by rw [show (0 : Int32).toInt = 0 from rfl]; omega)
theorem ysh_rng {F g A B : Nat → Int32} {a d : Nat} (hd : d < 3) (hF : ∀ b, b < 8 → 0 ≤ (F (a + b) + g b).toInt ∧ (F (a + b) + g b).toInt ≤ 100000) (hA : ∀ j, j < 24 → 0 ≤ (A j).toInt ∧ (A j).toInt ≤ 1000) (hB : ∀ j, j < 24 → 0 ≤ (B j).toInt ∧ (B j).toInt ≤ 1000) : 0 ≤ (ysh F g A B a d).toInt ∧ (ysh F g A B a d).toInt ≤ 1000000 := by
  have h1 := ysum_nn (n := 8) (F := F) (g := g) (B := A) (a := a) (d := d) (by omega) hF (fun b hb => hA _ (by omega))
  have h2 := ysum_nn (n := 8) (F := F) (g := g) (B := B) (a := a) (d := d) (by omega) hF (fun b hb => hB _ (by omega))
  exact shd_rng ⟨h1.1, by omega⟩ h2.1
theorem aimB_of {x y z : Int32} (h : aimB x y z = true) : (0 ≤ x.toInt ∧ x.toInt ≤ 1000000) ∧ (0 ≤ y.toInt ∧ y.toInt ≤ 1000000) ∧ (0 ≤ z.toInt ∧ z.toInt ≤ 1000000) := by
  have q := of_decide_eq_true h
  simp only [Int32.le_iff_toInt_le, Int32.reduceToInt] at q
  exact q
theorem tI_of0 (x : Int32) : 0 ≤ x ↔ 0 ≤ x.toInt := by rw [Int32.le_iff_toInt_le]; rfl
theorem tI_le0 (x : Int32) : x ≤ 0 ↔ x.toInt ≤ 0 := by rw [Int32.le_iff_toInt_le]; rfl
theorem tI_eq0 (x : Int32) : x = 0 ↔ x.toInt = 0 := by rw [← Int32.toInt_inj]; rfl
theorem tI_lt0 (x : Int32) : 0 < x ↔ 0 < x.toInt := by rw [Int32.lt_iff_toInt_lt]; rfl
theorem b_rng {h : HF} {nb nl nr nt nd nj np : Nat} (r : Rel h nb nl nr nt nd nj np) {k : Nat} (hk : k < 24) : ∀ b, b < 8 → 0 ≤ (gi h 144 (8 * k + b) + gi h 169 b).toInt ∧ (gi h 144 (8 * k + b) + gi h 169 b).toInt ≤ 100000 := by
  intro b hb
  rw [r.f.no b hb, Int32.add_zero]
  have h1 := (r.d.K k hk).bd b hb
  have h2 := (r.d.K k hk).ul
  omega
theorem bsh_rng {h : HF} {nb nl nr nt nd nj np : Nat} (r : Rel h nb nl nr nt nd nj np) {k d : Nat} (hk : k < 24) (hd : d < 3) : 0 ≤ (ysh (gi h 144) (gi h 169) (gi h 133) (gi h 134) (8 * k) d).toInt ∧ (ysh (gi h 144) (gi h 169) (gi h 133) (gi h 134) (8 * k) d).toInt ≤ 1000000 :=
  ysh_rng hd (b_rng r hk) (fun j hj => (r.a.P j hj).1) (fun j hj => (r.a.P j hj).2)
theorem miss_nn {s x : Int32} (hs : 0 ≤ s.toInt ∧ s.toInt ≤ 1000000) (hx : 0 ≤ x.toInt ∧ x.toInt ≤ 1000000) : 0 ≤ (absI (s - x)).toInt ∧ (absI (s - x)).toInt ≤ 1000000 := by
  have e := tI_sub (x := s) (y := x) (by omega) (by omega) (by omega) (by omega)
  exact absI_nn (by omega)
theorem J_miss {h : HF} {nb nl nr nt nd nj np : Nat} (r : Rel h nb nl nr nt nd nj np) (t x y z : Int32) : JJ mX9_miss mX10_miss [.ref 1, .int t, .int x, .int y, .int z] [.ref 132, .int t, .int x, .int y, .int z] h :=
  JJ_read r (c_X9_miss r.S t x y z nt r.d.c r.d.le nb r.a.c r.a.le) (c_X10_miss r.S t x y z nt r.d.m r.d.le) (by
    unfold vMiss mMissV
    refine if_same (fun q => if_same (fun q2 => ?_))
    have h1 := ltB_cl (by have := r.d.le; omega) q
    have hk : t.toNatClampNeg < 24 := by have := r.d.le; omega
    simp only [(r.d.K _ hk).un]
    refine if_same2 (fun _ => ?_)
    obtain ⟨hx, hy, hz⟩ := aimB_of q2
    rw [shade_b r hk (d := 0) (by omega), shade_b r hk (d := 1) (by omega), shade_b r hk (d := 2) (by omega), ymiss, maxI_nn (miss_nn (bsh_rng r hk (by omega)) hx).1])
theorem J_tank {h : HF} {nb nl nr nt nd nj np : Nat} (r : Rel h nb nl nr nt nd nj np) (t w : Int32) : JJ mX9_tank mX10_tank [.ref 1, .int t, .int w] [.ref 132, .int t, .int w] h :=
  JJ_read r (c_X9_tank r.S t w) (c_X10_tank r.S t w) (by
    unfold vTank
    refine if_same (fun q => ?_)
    have h1 := inB_cl (n := 4) (by decide) q
    simp only [(r.f.K _ h1).ins, (r.f.K _ h1).stn, (r.f.K _ h1).siz])
theorem J_tankShade {h : HF} {nb nl nr nt nd nj np : Nat} (r : Rel h nb nl nr nt nd nj np) (t d : Int32) : JJ mX9_tankShade mX10_tankShade [.ref 1, .int t, .int d] [.ref 132, .int t, .int d] h :=
  JJ_read r (c_X9_tankShade r.S t d nb r.a.c r.a.le) (c_X10_tankShade r.S t d) (by
    unfold vTS mTS
    refine if_same (fun q => if_same (fun q2 => ?_))
    have h1 := inB_cl (n := 4) (by decide) q
    have h2 := inB_cl (n := 2) (by decide) q2
    have k := r.f.K _ h1
    simp only [k.ins, k.stn, k.sta _ h2, shade_t r h1 h2]
    have hr := k.h0
    by_cases c : gi h 150 t.toNatClampNeg ≤ 0
    · have c0 : gi h 150 t.toNatClampNeg = 0 := (tI_eq0 _).mpr (by have := (tI_le0 _).mp c; omega)
      rw [if_pos c, c0]
      by_cases c1 : gi h 151 t.toNatClampNeg = 0
      · rw [if_pos (show clB 0 (gi h 151 t.toNatClampNeg) = true by rw [c1]; rfl), if_pos c1]
      · rw [if_neg c1, if_neg (fun e => c1 (of_decide_eq_true e).2), if_neg c1]
    · have c0 : 0 < (gi h 150 t.toNatClampNeg).toInt := by
        rw [tI_le0] at c; omega
      rw [if_neg c, if_neg (fun e => c (by rw [(of_decide_eq_true e).1]; decide)), if_pos (k.hs c0)])
theorem J_drum {h : HF} {nb nl nr nt nd nj np : Nat} (r : Rel h nb nl nr nt nd nj np) (x w : Int32) : JJ mX9_drum mX10_drum [.ref 1, .int x, .int w] [.ref 132, .int x, .int w] h :=
  JJ_read r (c_X9_drum r.S x w nd r.g.c r.g.le) (c_X10_drum r.S x w nd r.g.m r.g.le) (by
    rw [r.g.u, r.g.t, r.g.d, r.g.b, r.g.l]
    congr 1
    · funext j
      obtain ⟨n, hn, e⟩ := r.g.bb j
      rw [e, bcI_eq hn, nI_L (by omega), mnB_eq (by omega) (by omega)]
    · funext j
      obtain ⟨n, hn, e⟩ := r.g.lb j
      rw [e, bcJ_eq hn, mnB_eq (by omega) (by omega)])
theorem J_inDrum {h : HF} {nb nl nr nt nd nj np : Nat} (r : Rel h nb nl nr nt nd nj np) (x e w : Int32) : JJ mX9_inDrum mX10_inDrum [.ref 1, .int x, .int e, .int w] [.ref 132, .int x, .int e, .int w] h :=
  JJ_read r (c_X9_inDrum r.S x e w nd r.g.c r.g.le nl r.b.c r.b.le nt r.d.c r.d.le) (c_X10_inDrum r.S x e w nd r.g.m r.g.le nl r.b.m r.b.le nt r.d.m r.d.le) (by
    rw [r.g.b, r.g.l]
    unfold vInD mInD
    refine if_same (fun q => ?_)
    by_cases c : e = 0
    · rw [if_pos c, if_pos c]
      refine if_same (fun q2 => ?_)
      obtain ⟨j, hj, rfl⟩ := ltB_of (by have := r.d.le; omega) q2
      obtain ⟨n, hn, e⟩ := r.g.bb x.toNatClampNeg
      rw [e, btB_I hn (by have := r.d.le; omega)]
    · rw [if_neg c, if_neg c]
      exact if_same (fun _ => (btB_L _ _).symm))
theorem J_recall {h : HF} {nb nl nr nt nd nj np : Nat} (r : Rel h nb nl nr nt nd nj np) (l w : Int32) : JJ mX9_recall mX10_recall [.ref 1, .int l, .int w] [.ref 132, .int l, .int w] h :=
  JJ_read r (c_X9_recall r.S l w nl r.b.c r.b.le nd r.g.c r.g.le nt r.d.c r.d.le) (c_X10_recall r.S l w nl r.b.m r.b.le nt r.d.m r.d.le nd r.g.m r.g.le) (by
    congr 1
    · funext l
      rw [r.g.l]
      exact cnB_fsum (fun i _ => by rw [btB_L, btB]; congr 1; simp only [decide_not])
    · funext l
      refine cnB_fsum (fun i hi => ?_)
      have hk : i < 24 := by have := r.d.le; omega
      rw [(r.d.K i hk).po, (r.d.K i hk).lo]
      by_cases c : gi h 146 i = 0
      · rw [if_pos c, btB_L, decide_eq_true c, Bool.true_and]
      · rw [if_neg c, decide_eq_false c, Bool.false_and]; rfl
    · funext l
      refine cnB_fsum (fun i hi => ?_)
      have k := r.f.K i hi
      rw [k.ins, k.lo]
      have hr := k.h0
      by_cases c : gi h 150 i = 0
      · rw [if_pos c, c]; rfl
      · have c2 : 0 < gi h 150 i := (tI_lt0 _).mpr (by rw [tI_eq0] at c; omega)
        rw [if_neg c, btB_L, decide_eq_true c2, Bool.true_and])
theorem J_planned {h : HF} {nb nl nr nt nd nj np : Nat} (r : Rel h nb nl nr nt nd nj np) (i : Int32) : JJ mX9_planned mX10_planned [.ref 1, .int i] [.ref 132, .int i] h :=
  JJ_read r (c_X9_planned r.S i np r.j.pc r.j.pl) (c_X10_planned r.S i np r.j.pm r.j.pl) (by rw [r.j.od])
theorem J_count {h : HF} {nb nl nr nt nd nj np : Nat} (r : Rel h nb nl nr nt nd nj np) (w : Int32) : JJ mX9_count mX10_count [.ref 1, .int w] [.ref 132, .int w] h :=
  JJ_read r (c_X9_count r.S w) (c_X10_count r.S w) (by rw [r.a.c, r.a.m, r.b.c, r.b.m, r.c.c, r.c.m, r.d.c, r.d.m, r.g.c, r.g.m, r.j.c, r.j.m, r.b.day, r.f.cl])
