theorem kFB {k : Nat} (hk : k < 24) : kF (40 + 3 * k) 1 = true := by simp only [kF, (shT_B hk).1]; rfl
theorem kFM {k : Nat} (hk : k < 24) : kF (41 + 3 * k) 1 = true := by simp only [kF, (shT_B hk).2.1]; rfl
theorem kJM {k : Nat} (hk : k < 24) : kJ (41 + 3 * k) 2 = true := by simp only [kJ, (shT_B hk).2.1]; rfl
theorem kFN {k : Nat} (hk : k < 5) : kF (113 + 4 * k) 1 = true := by simp only [kF, (shT_K hk).2.1]; rfl
theorem kJN {k : Nat} (hk : k < 5) : kJ (113 + 4 * k) 2 = true := by simp only [kJ, (shT_K hk).2.1]; rfl
theorem fI_sI_o {h : HF} {a k b j : Nat} {v : Int32} (e : ¬ (b = a ∧ j = k)) : fI (sI h a k v) b j = fI h b j := by
  by_cases c : b = a
  · exact fI_sI_k (fun q => e ⟨c, q.symm⟩) v
  · exact fI_sI_ne c k v j
theorem fJ_sJ_k {h : HF} {a b k j : Nat} (hk : k ≠ j) (v : Int64) : fJ (sJ h a k v) b j = fJ h b j := by
  by_cases c : b = a
  · subst c
    simp only [fJ, sJ_eq]
    cases h b with
    | inl x => rfl
    | inr x => obtain ⟨ci, fs⟩ := x; simp only [cJ, stJ_get fs k j v hk]
  · exact fJ_sJ_ne c k v j
theorem fJ_sJ_o {h : HF} {a k b j : Nat} {v : Int64} (e : ¬ (b = a ∧ j = k)) : fJ (sJ h a k v) b j = fJ h b j := by
  by_cases c : b = a
  · exact fJ_sJ_k (fun q => e ⟨c, q.symm⟩) v
  · exact fJ_sJ_ne c k v j
theorem inB_i {v a b : Int32} (h : inB v a b = true) : a.toInt ≤ v.toInt ∧ v.toInt ≤ b.toInt := by
  simp only [inB, Bool.and_eq_true, decide_eq_true_eq, Int32.le_iff_toInt_le] at h
  exact h
theorem Mc_h {M : MI} {av : List Value} {h h1 h1' : HF} {v : Int32} (e : h1' = h1) (c : Mc M av 170 h (RI v h1)) : Mc M av 170 h (RI v h1') := by
  rw [e]; exact c
theorem J_base {h : HF} {nb nl nr nt nd nj np : Nat} (r : Rel h nb nl nr nt nd nj np) (a b : Int32) : JJ mX9_base mX10_base [.ref 1, .int a, .int b] [.ref 132, .int a, .int b] h := by
  by_cases g0 : nb < 8
  · skip
    by_cases g1 : inB a 0 1000 = true
    · skip
      by_cases g2 : inB b 0 1000 = true
      · skip
        have c := c_X9_base r.S a b nb r.a.c r.a.le
        simp only [uBase, gBase, if_pos g0, if_pos g1, if_pos g2] at c
        obtain ⟨h1, eh1⟩ : ∃ zz : HF, zz = sI (tellF (tellF (tellF h (nb * 3 + 0) a b) (nb * 3 + 1) a b) (nb * 3 + 2) a b) 2 2 (nI (nb + 1)) := ⟨_, rfl⟩
        replace c := Mc_h eh1 c
        have Sh1 : Sh h1 := by rw [eh1]; unfold tellF; (repeat (first | exact r.S | apply Sh.si | apply Sh.sI | apply Sh.sJ | apply Sh.sl))
        have Gh1 : ∀ x, x ≠ 3 → x ≠ 4 → gi h1 x = gi h x := by
          intro x q0 q1; rw [eh1]; unfold tellF; (try simp (disch := first | assumption | omega) only [gi_si_ne, gi_sI, gi_sJ, gi_sl, gl_sl_ne, gl_si, gl_sI, gl_sJ, fI_si, fI_sl, fI_sJ, fI_sI_ne, fI_sI_k, fJ_si, fJ_sl, fJ_sI, fJ_sJ_ne])
        have Lh1 : ∀ x, gl h1 x = gl h x := by
          intro x ; rw [eh1]; unfold tellF; (try simp (disch := first | assumption | omega) only [gi_si_ne, gi_sI, gi_sJ, gi_sl, gl_sl_ne, gl_si, gl_sI, gl_sJ, fI_si, fI_sl, fI_sJ, fI_sI_ne, fI_sI_k, fJ_si, fJ_sl, fJ_sI, fJ_sJ_ne])
        have Fh1 : ∀ x kk, ¬ (x = 2 ∧ kk = 2) → fI h1 x kk = fI h x kk := by
          intro x kk q0; rw [eh1]; unfold tellF; first | rfl | (simp (disch := first | assumption | omega) only [fI_si, fI_sl, fI_sJ, fI_sI_o])
        have Jh1 : ∀ x kk, fJ h1 x kk = fJ h x kk := by
          intro x kk ; rw [eh1]; unfold tellF; first | rfl | (simp (disch := first | assumption | omega) only [fJ_si, fJ_sl, fJ_sI, fJ_sJ_o])
        have c1 : fI h1 2 2 = nI (nb + 1) := by
          rw [eh1]; unfold tellF; simp (disch := first | omega | ((repeat (first | exact r.S | apply Sh.si | apply Sh.sI | apply Sh.sJ | apply Sh.sl)); done) | decide | exact kF_K ‹_› (by omega) | exact kI_of (shT_B ‹_›).2.2 | exact kI_of (shT_K ‹_›).2.2.1 | exact kI_of (shT_K ‹_›).2.2.2 | exact kFB ‹_› | exact kFM ‹_› | exact kJM ‹_› | exact kFN ‹_› | exact kJN ‹_› | rfl) only [gi_si_ne, gi_sI, gi_sJ, gi_sl, gl_sl_ne, gl_si, gl_sI, gl_sJ, fI_si, fI_sl, fI_sJ, fI_sI_ne, fI_sI_k, fJ_si, fJ_sl, fJ_sI, fJ_sJ_ne, gi_si_eq, gl_sl_eq, fI_sI_eq, fJ_sJ_eq]
        have c2 : gi h1 3 = upd (upd (upd (gi h 3) (nb * 3 + 0) a) (nb * 3 + 1) a) (nb * 3 + 2) a := by
          rw [eh1]; unfold tellF; simp (disch := first | omega | ((repeat (first | exact r.S | apply Sh.si | apply Sh.sI | apply Sh.sJ | apply Sh.sl)); done) | decide | exact kF_K ‹_› (by omega) | exact kI_of (shT_B ‹_›).2.2 | exact kI_of (shT_K ‹_›).2.2.1 | exact kI_of (shT_K ‹_›).2.2.2 | exact kFB ‹_› | exact kFM ‹_› | exact kJM ‹_› | exact kFN ‹_› | exact kJN ‹_› | rfl) only [gi_si_ne, gi_sI, gi_sJ, gi_sl, gl_sl_ne, gl_si, gl_sI, gl_sJ, fI_si, fI_sl, fI_sJ, fI_sI_ne, fI_sI_k, fJ_si, fJ_sl, fJ_sI, fJ_sJ_ne, gi_si_eq, gl_sl_eq, fI_sI_eq, fJ_sJ_eq]
        have c3 : gi h1 4 = upd (upd (upd (gi h 4) (nb * 3 + 0) b) (nb * 3 + 1) b) (nb * 3 + 2) b := by
          rw [eh1]; unfold tellF; simp (disch := first | omega | ((repeat (first | exact r.S | apply Sh.si | apply Sh.sI | apply Sh.sJ | apply Sh.sl)); done) | decide | exact kF_K ‹_› (by omega) | exact kI_of (shT_B ‹_›).2.2 | exact kI_of (shT_K ‹_›).2.2.1 | exact kI_of (shT_K ‹_›).2.2.2 | exact kFB ‹_› | exact kFM ‹_› | exact kJM ‹_› | exact kFN ‹_› | exact kJN ‹_› | rfl) only [gi_si_ne, gi_sI, gi_sJ, gi_sl, gl_sl_ne, gl_si, gl_sI, gl_sJ, fI_si, fI_sl, fI_sJ, fI_sI_ne, fI_sI_k, fJ_si, fJ_sl, fJ_sI, fJ_sJ_ne, gi_si_eq, gl_sl_eq, fI_sI_eq, fJ_sJ_eq]
        have m := c_X10_base Sh1 a b nb (by rw [Fh1 _ _ (by omega)]; exact r.a.m) g0
        simp only [mBase, if_pos g0, if_pos g1, if_pos g2] at m
        obtain ⟨h2, eh2⟩ : ∃ zz : HF, zz = sI (mtF (mtF (mtF h1 0 nb a b) 1 nb a b) 2 nb a b) 132 1 (nI (nb + 1)) := ⟨_, rfl⟩
        replace m := Mc_h eh2 m
        have Sh2 : Sh h2 := by rw [eh2]; unfold mtF; (repeat (first | exact Sh1 | apply Sh.si | apply Sh.sI | apply Sh.sJ | apply Sh.sl))
        have Gh2 : ∀ x, x ≠ 133 → x ≠ 134 → gi h2 x = gi h1 x := by
          intro x q0 q1; rw [eh2]; unfold mtF; (try simp (disch := first | assumption | omega) only [gi_si_ne, gi_sI, gi_sJ, gi_sl, gl_sl_ne, gl_si, gl_sI, gl_sJ, fI_si, fI_sl, fI_sJ, fI_sI_ne, fI_sI_k, fJ_si, fJ_sl, fJ_sI, fJ_sJ_ne])
        have Lh2 : ∀ x, gl h2 x = gl h1 x := by
          intro x ; rw [eh2]; unfold mtF; (try simp (disch := first | assumption | omega) only [gi_si_ne, gi_sI, gi_sJ, gi_sl, gl_sl_ne, gl_si, gl_sI, gl_sJ, fI_si, fI_sl, fI_sJ, fI_sI_ne, fI_sI_k, fJ_si, fJ_sl, fJ_sI, fJ_sJ_ne])
        have Fh2 : ∀ x kk, ¬ (x = 132 ∧ kk = 1) → fI h2 x kk = fI h1 x kk := by
          intro x kk q0; rw [eh2]; unfold mtF; first | rfl | (simp (disch := first | assumption | omega) only [fI_si, fI_sl, fI_sJ, fI_sI_o])
        have Jh2 : ∀ x kk, fJ h2 x kk = fJ h1 x kk := by
          intro x kk ; rw [eh2]; unfold mtF; first | rfl | (simp (disch := first | assumption | omega) only [fJ_si, fJ_sl, fJ_sI, fJ_sJ_o])
        have m1 : fI h2 132 1 = nI (nb + 1) := by
          rw [eh2]; unfold mtF; simp (disch := first | omega | ((repeat (first | exact Sh1 | apply Sh.si | apply Sh.sI | apply Sh.sJ | apply Sh.sl)); done) | decide | exact kF_K ‹_› (by omega) | exact kI_of (shT_B ‹_›).2.2 | exact kI_of (shT_K ‹_›).2.2.1 | exact kI_of (shT_K ‹_›).2.2.2 | exact kFB ‹_› | exact kFM ‹_› | exact kJM ‹_› | exact kFN ‹_› | exact kJN ‹_› | rfl) only [gi_si_ne, gi_sI, gi_sJ, gi_sl, gl_sl_ne, gl_si, gl_sI, gl_sJ, fI_si, fI_sl, fI_sJ, fI_sI_ne, fI_sI_k, fJ_si, fJ_sl, fJ_sI, fJ_sJ_ne, gi_si_eq, gl_sl_eq, fI_sI_eq, fJ_sJ_eq]
        have m2 : gi h2 133 = upd (upd (upd (gi h1 133) (8 * 0 + nb) a) (8 * 1 + nb) a) (8 * 2 + nb) a := by
          rw [eh2]; unfold mtF; simp (disch := first | omega | ((repeat (first | exact Sh1 | apply Sh.si | apply Sh.sI | apply Sh.sJ | apply Sh.sl)); done) | decide | exact kF_K ‹_› (by omega) | exact kI_of (shT_B ‹_›).2.2 | exact kI_of (shT_K ‹_›).2.2.1 | exact kI_of (shT_K ‹_›).2.2.2 | exact kFB ‹_› | exact kFM ‹_› | exact kJM ‹_› | exact kFN ‹_› | exact kJN ‹_› | rfl) only [gi_si_ne, gi_sI, gi_sJ, gi_sl, gl_sl_ne, gl_si, gl_sI, gl_sJ, fI_si, fI_sl, fI_sJ, fI_sI_ne, fI_sI_k, fJ_si, fJ_sl, fJ_sI, fJ_sJ_ne, gi_si_eq, gl_sl_eq, fI_sI_eq, fJ_sJ_eq]
        have m3 : gi h2 134 = upd (upd (upd (gi h1 134) (8 * 0 + nb) b) (8 * 1 + nb) b) (8 * 2 + nb) b := by
          rw [eh2]; unfold mtF; simp (disch := first | omega | ((repeat (first | exact Sh1 | apply Sh.si | apply Sh.sI | apply Sh.sJ | apply Sh.sl)); done) | decide | exact kF_K ‹_› (by omega) | exact kI_of (shT_B ‹_›).2.2 | exact kI_of (shT_K ‹_›).2.2.1 | exact kI_of (shT_K ‹_›).2.2.2 | exact kFB ‹_› | exact kFM ‹_› | exact kJM ‹_› | exact kFN ‹_› | exact kJN ‹_› | rfl) only [gi_si_ne, gi_sI, gi_sJ, gi_sl, gl_sl_ne, gl_si, gl_sI, gl_sJ, fI_si, fI_sl, fI_sJ, fI_sI_ne, fI_sI_k, fJ_si, fJ_sl, fJ_sI, fJ_sJ_ne, gi_si_eq, gl_sl_eq, fI_sI_eq, fJ_sJ_eq]
        exact JJ_upd c m rfl (nb := nb + 1) (Rel.of (Sh2)
            (Ra.of (by rw [Fh2 _ _ (by omega)]; exact c1)
            (m1)
            (by omega)
            (by
            intro b' d hb hd
            rw [Gh2 3 (by omega) (by omega), Gh2 4 (by omega) (by omega), c2, c3, m2, m3, Gh1 133 (by omega) (by omega), Gh1 134 (by omega) (by omega)]
            have q := r.a.A b' d hb hd
            by_cases e : b' = nb
            · subst e
              obtain rfl | rfl | rfl : d = 0 ∨ d = 1 ∨ d = 2 := by omega
              all_goals (simp only [upd]; constructor <;> simp)
            · simp only [upd]
              rw [if_neg (by omega), if_neg (by omega), if_neg (by omega), if_neg (by omega), if_neg (by omega), if_neg (by omega), if_neg (by omega), if_neg (by omega), if_neg (by omega), if_neg (by omega), if_neg (by omega), if_neg (by omega)]
              exact q)
            (by
            intro j hj
            rw [m2, m3, Gh1 133 (by omega) (by omega), Gh1 134 (by omega) (by omega)]
            have q := r.a.P j hj
            have q1 := inB_i g1
            have q2 := inB_i g2
            simp only [Int32.reduceToInt] at q1 q2
            simp only [upd]
            constructor
            · repeat' split
              all_goals first | exact q1 | exact q.1
            · repeat' split
              all_goals first | exact q2 | exact q.2))
            (Rb.of (by (try simp (disch := omega) only [Gh2, Lh2, Fh2, Jh2, Gh1, Lh1, Fh1, Jh1]); exact r.b.c)
            (by (try simp (disch := omega) only [Gh2, Lh2, Fh2, Jh2, Gh1, Lh1, Fh1, Jh1]); exact r.b.m)
            (by (try simp (disch := omega) only [Gh2, Lh2, Fh2, Jh2, Gh1, Lh1, Fh1, Jh1]); exact r.b.le)
            (by (try simp (disch := omega) only [Gh2, Lh2, Fh2, Jh2, Gh1, Lh1, Fh1, Jh1]); exact r.b.day)
            (by (try simp (disch := omega) only [Gh2, Lh2, Fh2, Jh2, Gh1, Lh1, Fh1, Jh1]); exact r.b.B)
            (by (try simp (disch := omega) only [Gh2, Lh2, Fh2, Jh2, Gh1, Lh1, Fh1, Jh1]); exact r.b.S)
            (by (try simp (disch := omega) only [Gh2, Lh2, Fh2, Jh2, Gh1, Lh1, Fh1, Jh1]); exact r.b.L)
            (by (try simp (disch := omega) only [Gh2, Lh2, Fh2, Jh2, Gh1, Lh1, Fh1, Jh1]); exact r.b.P)
            (by (try simp (disch := omega) only [Gh2, Lh2, Fh2, Jh2, Gh1, Lh1, Fh1, Jh1]); exact fun l hl => let ⟨b, h1, h2⟩ := r.b.lb l hl; ⟨b, by omega, h2⟩))
            (Rc.of (by (try simp (disch := omega) only [Gh2, Lh2, Fh2, Jh2, Gh1, Lh1, Fh1, Jh1]); exact r.c.c)
            (by (try simp (disch := omega) only [Gh2, Lh2, Fh2, Jh2, Gh1, Lh1, Fh1, Jh1]); exact r.c.m)
            (by (try simp (disch := omega) only [Gh2, Lh2, Fh2, Jh2, Gh1, Lh1, Fh1, Jh1]); exact r.c.le)
            (by (try simp (disch := omega) only [Gh2, Lh2, Fh2, Jh2, Gh1, Lh1, Fh1, Jh1]); exact r.c.E)
            (by (try simp (disch := omega) only [Gh2, Lh2, Fh2, Jh2, Gh1, Lh1, Fh1, Jh1]); exact r.c.S)
            (by (try simp (disch := omega) only [Gh2, Lh2, Fh2, Jh2, Gh1, Lh1, Fh1, Jh1]); exact r.c.T)
            (by (try simp (disch := omega) only [Gh2, Lh2, Fh2, Jh2, Gh1, Lh1, Fh1, Jh1]); exact r.c.C)
            (by (try simp (disch := omega) only [Gh2, Lh2, Fh2, Jh2, Gh1, Lh1, Fh1, Jh1]); exact r.c.N)
            (by (try simp (disch := omega) only [Gh2, Lh2, Fh2, Jh2, Gh1, Lh1, Fh1, Jh1]); exact r.c.ok)
            (by (try simp (disch := omega) only [Gh2, Lh2, Fh2, Jh2, Gh1, Lh1, Fh1, Jh1]); exact r.c.tm)
            (by (try simp (disch := omega) only [Gh2, Lh2, Fh2, Jh2, Gh1, Lh1, Fh1, Jh1]); exact r.c.tz)
            (by (try simp (disch := omega) only [Gh2, Lh2, Fh2, Jh2, Gh1, Lh1, Fh1, Jh1]); exact r.c.cz)
            (by (try simp (disch := omega) only [Gh2, Lh2, Fh2, Jh2, Gh1, Lh1, Fh1, Jh1]); exact r.c.nn))
            (Rd.of (by (try simp (disch := omega) only [Gh2, Lh2, Fh2, Jh2, Gh1, Lh1, Fh1, Jh1]); exact r.d.c)
            (by (try simp (disch := omega) only [Gh2, Lh2, Fh2, Jh2, Gh1, Lh1, Fh1, Jh1]); exact r.d.m)
            (by (try simp (disch := omega) only [Gh2, Lh2, Fh2, Jh2, Gh1, Lh1, Fh1, Jh1]); exact r.d.le)
            (fun k hk => RdK.of (by (try simp (disch := omega) only [Gh2, Lh2, Fh2, Jh2, Gh1, Lh1, Fh1, Jh1]); exact (r.d.K k hk).am)
              (by (try simp (disch := omega) only [Gh2, Lh2, Fh2, Jh2, Gh1, Lh1, Fh1, Jh1]); exact (r.d.K k hk).bd)
              (by (try simp (disch := omega) only [Gh2, Lh2, Fh2, Jh2, Gh1, Lh1, Fh1, Jh1]); exact fun b hb hn => (r.d.K k hk).zr b hb (by omega))
              (by (try simp (disch := omega) only [Gh2, Lh2, Fh2, Jh2, Gh1, Lh1, Fh1, Jh1]); exact (r.d.K k hk).un)
              (by (try simp (disch := omega) only [Gh2, Lh2, Fh2, Jh2, Gh1, Lh1, Fh1, Jh1]); exact (r.d.K k hk).ul)
              (by (try simp (disch := omega) only [Gh2, Lh2, Fh2, Jh2, Gh1, Lh1, Fh1, Jh1]); exact (r.d.K k hk).lo)
              (by (try simp (disch := omega) only [Gh2, Lh2, Fh2, Jh2, Gh1, Lh1, Fh1, Jh1]); exact (r.d.K k hk).lb)
              (by (try simp (disch := omega) only [Gh2, Lh2, Fh2, Jh2, Gh1, Lh1, Fh1, Jh1]); exact (r.d.K k hk).po)))
            (Re.of (by (try simp (disch := omega) only [Gh2, Lh2, Fh2, Jh2, Gh1, Lh1, Fh1, Jh1]); exact r.e.fd)
            (by (try simp (disch := omega) only [Gh2, Lh2, Fh2, Jh2, Gh1, Lh1, Fh1, Jh1]); exact r.e.be)
            (by (try simp (disch := omega) only [Gh2, Lh2, Fh2, Jh2, Gh1, Lh1, Fh1, Jh1]); exact r.e.bb)
            (by (try simp (disch := omega) only [Gh2, Lh2, Fh2, Jh2, Gh1, Lh1, Fh1, Jh1]); exact r.e.z))
            (Rf.of (by (try simp (disch := omega) only [Gh2, Lh2, Fh2, Jh2, Gh1, Lh1, Fh1, Jh1]); exact r.f.lim)
            (by (try simp (disch := omega) only [Gh2, Lh2, Fh2, Jh2, Gh1, Lh1, Fh1, Jh1]); exact r.f.l0)
            (by (try simp (disch := omega) only [Gh2, Lh2, Fh2, Jh2, Gh1, Lh1, Fh1, Jh1]); exact r.f.cl)
            (by (try simp (disch := omega) only [Gh2, Lh2, Fh2, Jh2, Gh1, Lh1, Fh1, Jh1]); exact r.f.no)
            (fun t ht => RfK.of (by (try simp (disch := omega) only [Gh2, Lh2, Fh2, Jh2, Gh1, Lh1, Fh1, Jh1]); exact (r.f.K t ht).ins)
              (by (try simp (disch := omega) only [Gh2, Lh2, Fh2, Jh2, Gh1, Lh1, Fh1, Jh1]); exact (r.f.K t ht).siz)
              (by (try simp (disch := omega) only [Gh2, Lh2, Fh2, Jh2, Gh1, Lh1, Fh1, Jh1]); exact (r.f.K t ht).bat)
              (by (try simp (disch := omega) only [Gh2, Lh2, Fh2, Jh2, Gh1, Lh1, Fh1, Jh1]); exact (r.f.K t ht).tap)
              (by (try simp (disch := omega) only [Gh2, Lh2, Fh2, Jh2, Gh1, Lh1, Fh1, Jh1]); exact (r.f.K t ht).stn)
              (by (try simp (disch := omega) only [Gh2, Lh2, Fh2, Jh2, Gh1, Lh1, Fh1, Jh1]); exact (r.f.K t ht).sta)
              (by (try simp (disch := omega) only [Gh2, Lh2, Fh2, Jh2, Gh1, Lh1, Fh1, Jh1]); exact (r.f.K t ht).am)
              (by (try simp (disch := omega) only [Gh2, Lh2, Fh2, Jh2, Gh1, Lh1, Fh1, Jh1]); exact fun b hb hn => (r.f.K t ht).zr b hb (by omega))
              (by (try simp (disch := omega) only [Gh2, Lh2, Fh2, Jh2, Gh1, Lh1, Fh1, Jh1]); exact (r.f.K t ht).lo)
              (by (try simp (disch := omega) only [Gh2, Lh2, Fh2, Jh2, Gh1, Lh1, Fh1, Jh1]); exact (r.f.K t ht).h0)
              (by (try simp (disch := omega) only [Gh2, Lh2, Fh2, Jh2, Gh1, Lh1, Fh1, Jh1]); exact (r.f.K t ht).hr)
              (by (try simp (disch := omega) only [Gh2, Lh2, Fh2, Jh2, Gh1, Lh1, Fh1, Jh1]); exact (r.f.K t ht).r6)
              (by (try simp (disch := omega) only [Gh2, Lh2, Fh2, Jh2, Gh1, Lh1, Fh1, Jh1]); exact (r.f.K t ht).hs)
              (by (try simp (disch := omega) only [Gh2, Lh2, Fh2, Jh2, Gh1, Lh1, Fh1, Jh1]); exact (r.f.K t ht).lb)
              (by (try simp (disch := omega) only [Gh2, Lh2, Fh2, Jh2, Gh1, Lh1, Fh1, Jh1]); exact (r.f.K t ht).bb)))
            (Rg.of (by (try simp (disch := omega) only [Gh2, Lh2, Fh2, Jh2, Gh1, Lh1, Fh1, Jh1]); exact r.g.c)
            (by (try simp (disch := omega) only [Gh2, Lh2, Fh2, Jh2, Gh1, Lh1, Fh1, Jh1]); exact r.g.m)
            (by (try simp (disch := omega) only [Gh2, Lh2, Fh2, Jh2, Gh1, Lh1, Fh1, Jh1]); exact r.g.le)
            (by (try simp (disch := omega) only [Gh2, Lh2, Fh2, Jh2, Gh1, Lh1, Fh1, Jh1]); exact r.g.u)
            (by (try simp (disch := omega) only [Gh2, Lh2, Fh2, Jh2, Gh1, Lh1, Fh1, Jh1]); exact r.g.t)
            (by (try simp (disch := omega) only [Gh2, Lh2, Fh2, Jh2, Gh1, Lh1, Fh1, Jh1]); exact r.g.d)
            (by (try simp (disch := omega) only [Gh2, Lh2, Fh2, Jh2, Gh1, Lh1, Fh1, Jh1]); exact r.g.b)
            (by (try simp (disch := omega) only [Gh2, Lh2, Fh2, Jh2, Gh1, Lh1, Fh1, Jh1]); exact r.g.l)
            (by (try simp (disch := omega) only [Gh2, Lh2, Fh2, Jh2, Gh1, Lh1, Fh1, Jh1]); exact r.g.bb)
            (by (try simp (disch := omega) only [Gh2, Lh2, Fh2, Jh2, Gh1, Lh1, Fh1, Jh1]); exact r.g.lb))
            (Rh.of (by (try simp (disch := omega) only [Gh2, Lh2, Fh2, Jh2, Gh1, Lh1, Fh1, Jh1]); exact r.j.c)
            (by (try simp (disch := omega) only [Gh2, Lh2, Fh2, Jh2, Gh1, Lh1, Fh1, Jh1]); exact r.j.m)
            (by (try simp (disch := omega) only [Gh2, Lh2, Fh2, Jh2, Gh1, Lh1, Fh1, Jh1]); exact r.j.le)
            (by (try simp (disch := omega) only [Gh2, Lh2, Fh2, Jh2, Gh1, Lh1, Fh1, Jh1]); exact r.j.pc)
            (by (try simp (disch := omega) only [Gh2, Lh2, Fh2, Jh2, Gh1, Lh1, Fh1, Jh1]); exact r.j.pm)
            (by (try simp (disch := omega) only [Gh2, Lh2, Fh2, Jh2, Gh1, Lh1, Fh1, Jh1]); exact r.j.pl)
            (by (try simp (disch := omega) only [Gh2, Lh2, Fh2, Jh2, Gh1, Lh1, Fh1, Jh1]); exact r.j.hu)
            (by (try simp (disch := omega) only [Gh2, Lh2, Fh2, Jh2, Gh1, Lh1, Fh1, Jh1]); exact r.j.ti)
            (by (try simp (disch := omega) only [Gh2, Lh2, Fh2, Jh2, Gh1, Lh1, Fh1, Jh1]); exact r.j.du)
            (by (try simp (disch := omega) only [Gh2, Lh2, Fh2, Jh2, Gh1, Lh1, Fh1, Jh1]); exact r.j.pr)
            (by (try simp (disch := omega) only [Gh2, Lh2, Fh2, Jh2, Gh1, Lh1, Fh1, Jh1]); exact r.j.ch)
            (by (try simp (disch := omega) only [Gh2, Lh2, Fh2, Jh2, Gh1, Lh1, Fh1, Jh1]); exact r.j.od)
            (by (try simp (disch := omega) only [Gh2, Lh2, Fh2, Jh2, Gh1, Lh1, Fh1, Jh1]); exact r.j.ok)
            (by (try simp (disch := omega) only [Gh2, Lh2, Fh2, Jh2, Gh1, Lh1, Fh1, Jh1]); exact r.j.tb)
            (by (try simp (disch := omega) only [Gh2, Lh2, Fh2, Jh2, Gh1, Lh1, Fh1, Jh1]); exact r.j.db)))
      · skip
        have c := c_X9_base r.S a b nb r.a.c r.a.le
        simp only [uBase, gBase, if_pos g0, if_pos g1, if_neg g2] at c
        have m := c_X10_base r.S a b nb r.a.m g0
        simp only [mBase, if_pos g0, if_pos g1, if_neg g2] at m
        exact JJ_upd c m rfl r
    · skip
      have c := c_X9_base r.S a b nb r.a.c r.a.le
      simp only [uBase, gBase, if_pos g0, if_neg g1] at c
      have m := c_X10_base r.S a b nb r.a.m g0
      simp only [mBase, if_pos g0, if_neg g1] at m
      exact JJ_upd c m rfl r
  · obtain rfl : nb = 8 := by have := r.a.le; omega
    have c := c_X9_base r.S a b 8 r.a.c r.a.le
    simp only [uBase, gBase, Nat.lt_irrefl, if_false, ite_self] at c
    have m := c_X10_base_full r.S a b r.a.m
    simp only [mBase, Nat.lt_irrefl, if_false, ite_self] at m
    exact JJ_upd c m rfl r
theorem J_band {h : HF} {nb nl nr nt nd nj np : Nat} (r : Rel h nb nl nr nt nd nj np) (b d x y : Int32) : JJ mX9_band mX10_band [.ref 1, .int b, .int d, .int x, .int y] [.ref 132, .int b, .int d, .int x, .int y] h := by
  by_cases g0 : ltB b (nI nb) = true
  · skip
    by_cases g1 : inB d 0 2 = true
    · skip
      by_cases g2 : inB x 0 1000 = true
      · skip
        by_cases g3 : inB y 0 1000 = true
        · skip
          have c := c_X9_band r.S b d x y nb r.a.c r.a.le
          simp only [uBand, if_pos g0, if_pos g1, if_pos g2, if_pos g3] at c
          have hb := ltB_cl (by have := r.a.le; omega) g0
          have hd := inB_cl (n := 2) (by decide) g1
          have hn8 := r.a.le
          obtain ⟨h1, eh1⟩ : ∃ zz : HF, zz = tellF h (b.toNatClampNeg * 3 + d.toNatClampNeg) x y := ⟨_, rfl⟩
          replace c := Mc_h eh1 c
          have Sh1 : Sh h1 := by rw [eh1]; unfold tellF; (repeat (first | exact r.S | apply Sh.si | apply Sh.sI | apply Sh.sJ | apply Sh.sl))
          have Gh1 : ∀ x, x ≠ 3 → x ≠ 4 → gi h1 x = gi h x := by
            intro x q0 q1; rw [eh1]; unfold tellF; (try simp (disch := first | assumption | omega) only [gi_si_ne, gi_sI, gi_sJ, gi_sl, gl_sl_ne, gl_si, gl_sI, gl_sJ, fI_si, fI_sl, fI_sJ, fI_sI_ne, fI_sI_k, fJ_si, fJ_sl, fJ_sI, fJ_sJ_ne])
          have Lh1 : ∀ x, gl h1 x = gl h x := by
            intro x ; rw [eh1]; unfold tellF; (try simp (disch := first | assumption | omega) only [gi_si_ne, gi_sI, gi_sJ, gi_sl, gl_sl_ne, gl_si, gl_sI, gl_sJ, fI_si, fI_sl, fI_sJ, fI_sI_ne, fI_sI_k, fJ_si, fJ_sl, fJ_sI, fJ_sJ_ne])
          have Fh1 : ∀ x kk, fI h1 x kk = fI h x kk := by
            intro x kk ; rw [eh1]; unfold tellF; first | rfl | (simp (disch := first | assumption | omega) only [fI_si, fI_sl, fI_sJ, fI_sI_o])
          have Jh1 : ∀ x kk, fJ h1 x kk = fJ h x kk := by
            intro x kk ; rw [eh1]; unfold tellF; first | rfl | (simp (disch := first | assumption | omega) only [fJ_si, fJ_sl, fJ_sI, fJ_sJ_o])
          have c2 : gi h1 3 = upd (gi h 3) (b.toNatClampNeg * 3 + d.toNatClampNeg) x := by
            rw [eh1]; unfold tellF; simp (disch := first | omega | ((repeat (first | exact r.S | apply Sh.si | apply Sh.sI | apply Sh.sJ | apply Sh.sl)); done) | decide | exact kF_K ‹_› (by omega) | exact kI_of (shT_B ‹_›).2.2 | exact kI_of (shT_K ‹_›).2.2.1 | exact kI_of (shT_K ‹_›).2.2.2 | exact kFB ‹_› | exact kFM ‹_› | exact kJM ‹_› | exact kFN ‹_› | exact kJN ‹_› | rfl) only [gi_si_ne, gi_sI, gi_sJ, gi_sl, gl_sl_ne, gl_si, gl_sI, gl_sJ, fI_si, fI_sl, fI_sJ, fI_sI_ne, fI_sI_k, fJ_si, fJ_sl, fJ_sI, fJ_sJ_ne, gi_si_eq, gl_sl_eq, fI_sI_eq, fJ_sJ_eq]
          have c3 : gi h1 4 = upd (gi h 4) (b.toNatClampNeg * 3 + d.toNatClampNeg) y := by
            rw [eh1]; unfold tellF; simp (disch := first | omega | ((repeat (first | exact r.S | apply Sh.si | apply Sh.sI | apply Sh.sJ | apply Sh.sl)); done) | decide | exact kF_K ‹_› (by omega) | exact kI_of (shT_B ‹_›).2.2 | exact kI_of (shT_K ‹_›).2.2.1 | exact kI_of (shT_K ‹_›).2.2.2 | exact kFB ‹_› | exact kFM ‹_› | exact kJM ‹_› | exact kFN ‹_› | exact kJN ‹_› | rfl) only [gi_si_ne, gi_sI, gi_sJ, gi_sl, gl_sl_ne, gl_si, gl_sI, gl_sJ, fI_si, fI_sl, fI_sJ, fI_sI_ne, fI_sI_k, fJ_si, fJ_sl, fJ_sI, fJ_sJ_ne, gi_si_eq, gl_sl_eq, fI_sI_eq, fJ_sJ_eq]
          have m := c_X10_band Sh1 b d x y nb (by rw [Fh1 _ _]; exact r.a.m) r.a.le
          simp only [mBand, if_pos g0, if_pos g1, if_pos g2, if_pos g3] at m
          obtain ⟨h2, eh2⟩ : ∃ zz : HF, zz = mtF h1 d.toNatClampNeg b.toNatClampNeg x y := ⟨_, rfl⟩
          replace m := Mc_h eh2 m
          have Sh2 : Sh h2 := by rw [eh2]; unfold mtF; (repeat (first | exact Sh1 | apply Sh.si | apply Sh.sI | apply Sh.sJ | apply Sh.sl))
          have Gh2 : ∀ x, x ≠ 133 → x ≠ 134 → gi h2 x = gi h1 x := by
            intro x q0 q1; rw [eh2]; unfold mtF; (try simp (disch := first | assumption | omega) only [gi_si_ne, gi_sI, gi_sJ, gi_sl, gl_sl_ne, gl_si, gl_sI, gl_sJ, fI_si, fI_sl, fI_sJ, fI_sI_ne, fI_sI_k, fJ_si, fJ_sl, fJ_sI, fJ_sJ_ne])
          have Lh2 : ∀ x, gl h2 x = gl h1 x := by
            intro x ; rw [eh2]; unfold mtF; (try simp (disch := first | assumption | omega) only [gi_si_ne, gi_sI, gi_sJ, gi_sl, gl_sl_ne, gl_si, gl_sI, gl_sJ, fI_si, fI_sl, fI_sJ, fI_sI_ne, fI_sI_k, fJ_si, fJ_sl, fJ_sI, fJ_sJ_ne])
          have Fh2 : ∀ x kk, fI h2 x kk = fI h1 x kk := by
            intro x kk ; rw [eh2]; unfold mtF; first | rfl | (simp (disch := first | assumption | omega) only [fI_si, fI_sl, fI_sJ, fI_sI_o])
          have Jh2 : ∀ x kk, fJ h2 x kk = fJ h1 x kk := by
            intro x kk ; rw [eh2]; unfold mtF; first | rfl | (simp (disch := first | assumption | omega) only [fJ_si, fJ_sl, fJ_sI, fJ_sJ_o])
          have m2 : gi h2 133 = upd (gi h1 133) (8 * d.toNatClampNeg + b.toNatClampNeg) x := by
            rw [eh2]; unfold mtF; simp (disch := first | omega | ((repeat (first | exact Sh1 | apply Sh.si | apply Sh.sI | apply Sh.sJ | apply Sh.sl)); done) | decide | exact kF_K ‹_› (by omega) | exact kI_of (shT_B ‹_›).2.2 | exact kI_of (shT_K ‹_›).2.2.1 | exact kI_of (shT_K ‹_›).2.2.2 | exact kFB ‹_› | exact kFM ‹_› | exact kJM ‹_› | exact kFN ‹_› | exact kJN ‹_› | rfl) only [gi_si_ne, gi_sI, gi_sJ, gi_sl, gl_sl_ne, gl_si, gl_sI, gl_sJ, fI_si, fI_sl, fI_sJ, fI_sI_ne, fI_sI_k, fJ_si, fJ_sl, fJ_sI, fJ_sJ_ne, gi_si_eq, gl_sl_eq, fI_sI_eq, fJ_sJ_eq]
          have m3 : gi h2 134 = upd (gi h1 134) (8 * d.toNatClampNeg + b.toNatClampNeg) y := by
            rw [eh2]; unfold mtF; simp (disch := first | omega | ((repeat (first | exact Sh1 | apply Sh.si | apply Sh.sI | apply Sh.sJ | apply Sh.sl)); done) | decide | exact kF_K ‹_› (by omega) | exact kI_of (shT_B ‹_›).2.2 | exact kI_of (shT_K ‹_›).2.2.1 | exact kI_of (shT_K ‹_›).2.2.2 | exact kFB ‹_› | exact kFM ‹_› | exact kJM ‹_› | exact kFN ‹_› | exact kJN ‹_› | rfl) only [gi_si_ne, gi_sI, gi_sJ, gi_sl, gl_sl_ne, gl_si, gl_sI, gl_sJ, fI_si, fI_sl, fI_sJ, fI_sI_ne, fI_sI_k, fJ_si, fJ_sl, fJ_sI, fJ_sJ_ne, gi_si_eq, gl_sl_eq, fI_sI_eq, fJ_sJ_eq]
          exact JJ_upd c m rfl (Rel.of (Sh2)
              (Ra.of (by (try simp (disch := omega) only [Gh2, Lh2, Fh2, Jh2, Gh1, Lh1, Fh1, Jh1]); exact r.a.c)
              (by (try simp (disch := omega) only [Gh2, Lh2, Fh2, Jh2, Gh1, Lh1, Fh1, Jh1]); exact r.a.m)
              (by (try simp (disch := omega) only [Gh2, Lh2, Fh2, Jh2, Gh1, Lh1, Fh1, Jh1]); exact r.a.le)
              (by
              intro b' d' hb' hd'
              rw [Gh2 3 (by omega) (by omega), Gh2 4 (by omega) (by omega), c2, c3, m2, m3, Gh1 133 (by omega) (by omega), Gh1 134 (by omega) (by omega)]
              have q := r.a.A b' d' hb' hd'
              simp only [upd]
              by_cases e : b' = b.toNatClampNeg ∧ d' = d.toNatClampNeg
              · rw [e.1, e.2, if_pos rfl, if_pos rfl, if_pos rfl, if_pos rfl]; exact ⟨rfl, rfl⟩
              · rw [if_neg (by omega), if_neg (by omega), if_neg (by omega), if_neg (by omega)]
                exact q)
              (by
              intro j hj
              rw [m2, m3, Gh1 133 (by omega) (by omega), Gh1 134 (by omega) (by omega)]
              have q := r.a.P j hj
              have q1 := inB_i g2
              have q2 := inB_i g3
              simp only [Int32.reduceToInt] at q1 q2
              simp only [upd]
              constructor
              · split
                · exact q1
                · exact q.1
              · split
                · exact q2
                · exact q.2))
              (Rb.of (by (try simp (disch := omega) only [Gh2, Lh2, Fh2, Jh2, Gh1, Lh1, Fh1, Jh1]); exact r.b.c)
              (by (try simp (disch := omega) only [Gh2, Lh2, Fh2, Jh2, Gh1, Lh1, Fh1, Jh1]); exact r.b.m)
              (by (try simp (disch := omega) only [Gh2, Lh2, Fh2, Jh2, Gh1, Lh1, Fh1, Jh1]); exact r.b.le)
              (by (try simp (disch := omega) only [Gh2, Lh2, Fh2, Jh2, Gh1, Lh1, Fh1, Jh1]); exact r.b.day)
              (by (try simp (disch := omega) only [Gh2, Lh2, Fh2, Jh2, Gh1, Lh1, Fh1, Jh1]); exact r.b.B)
              (by (try simp (disch := omega) only [Gh2, Lh2, Fh2, Jh2, Gh1, Lh1, Fh1, Jh1]); exact r.b.S)
              (by (try simp (disch := omega) only [Gh2, Lh2, Fh2, Jh2, Gh1, Lh1, Fh1, Jh1]); exact r.b.L)
              (by (try simp (disch := omega) only [Gh2, Lh2, Fh2, Jh2, Gh1, Lh1, Fh1, Jh1]); exact r.b.P)
              (by (try simp (disch := omega) only [Gh2, Lh2, Fh2, Jh2, Gh1, Lh1, Fh1, Jh1]); exact r.b.lb))
              (Rc.of (by (try simp (disch := omega) only [Gh2, Lh2, Fh2, Jh2, Gh1, Lh1, Fh1, Jh1]); exact r.c.c)
              (by (try simp (disch := omega) only [Gh2, Lh2, Fh2, Jh2, Gh1, Lh1, Fh1, Jh1]); exact r.c.m)
              (by (try simp (disch := omega) only [Gh2, Lh2, Fh2, Jh2, Gh1, Lh1, Fh1, Jh1]); exact r.c.le)
              (by (try simp (disch := omega) only [Gh2, Lh2, Fh2, Jh2, Gh1, Lh1, Fh1, Jh1]); exact r.c.E)
              (by (try simp (disch := omega) only [Gh2, Lh2, Fh2, Jh2, Gh1, Lh1, Fh1, Jh1]); exact r.c.S)
              (by (try simp (disch := omega) only [Gh2, Lh2, Fh2, Jh2, Gh1, Lh1, Fh1, Jh1]); exact r.c.T)
              (by (try simp (disch := omega) only [Gh2, Lh2, Fh2, Jh2, Gh1, Lh1, Fh1, Jh1]); exact r.c.C)
              (by (try simp (disch := omega) only [Gh2, Lh2, Fh2, Jh2, Gh1, Lh1, Fh1, Jh1]); exact r.c.N)
              (by (try simp (disch := omega) only [Gh2, Lh2, Fh2, Jh2, Gh1, Lh1, Fh1, Jh1]); exact r.c.ok)
              (by (try simp (disch := omega) only [Gh2, Lh2, Fh2, Jh2, Gh1, Lh1, Fh1, Jh1]); exact r.c.tm)
              (by (try simp (disch := omega) only [Gh2, Lh2, Fh2, Jh2, Gh1, Lh1, Fh1, Jh1]); exact r.c.tz)
              (by (try simp (disch := omega) only [Gh2, Lh2, Fh2, Jh2, Gh1, Lh1, Fh1, Jh1]); exact r.c.cz)
              (by (try simp (disch := omega) only [Gh2, Lh2, Fh2, Jh2, Gh1, Lh1, Fh1, Jh1]); exact r.c.nn))
              (Rd.of (by (try simp (disch := omega) only [Gh2, Lh2, Fh2, Jh2, Gh1, Lh1, Fh1, Jh1]); exact r.d.c)
              (by (try simp (disch := omega) only [Gh2, Lh2, Fh2, Jh2, Gh1, Lh1, Fh1, Jh1]); exact r.d.m)
              (by (try simp (disch := omega) only [Gh2, Lh2, Fh2, Jh2, Gh1, Lh1, Fh1, Jh1]); exact r.d.le)
              (fun k hk => RdK.of (by (try simp (disch := omega) only [Gh2, Lh2, Fh2, Jh2, Gh1, Lh1, Fh1, Jh1]); exact (r.d.K k hk).am)
                (by (try simp (disch := omega) only [Gh2, Lh2, Fh2, Jh2, Gh1, Lh1, Fh1, Jh1]); exact (r.d.K k hk).bd)
                (by (try simp (disch := omega) only [Gh2, Lh2, Fh2, Jh2, Gh1, Lh1, Fh1, Jh1]); exact (r.d.K k hk).zr)
                (by (try simp (disch := omega) only [Gh2, Lh2, Fh2, Jh2, Gh1, Lh1, Fh1, Jh1]); exact (r.d.K k hk).un)
                (by (try simp (disch := omega) only [Gh2, Lh2, Fh2, Jh2, Gh1, Lh1, Fh1, Jh1]); exact (r.d.K k hk).ul)
                (by (try simp (disch := omega) only [Gh2, Lh2, Fh2, Jh2, Gh1, Lh1, Fh1, Jh1]); exact (r.d.K k hk).lo)
                (by (try simp (disch := omega) only [Gh2, Lh2, Fh2, Jh2, Gh1, Lh1, Fh1, Jh1]); exact (r.d.K k hk).lb)
                (by (try simp (disch := omega) only [Gh2, Lh2, Fh2, Jh2, Gh1, Lh1, Fh1, Jh1]); exact (r.d.K k hk).po)))
              (Re.of (by (try simp (disch := omega) only [Gh2, Lh2, Fh2, Jh2, Gh1, Lh1, Fh1, Jh1]); exact r.e.fd)
              (by (try simp (disch := omega) only [Gh2, Lh2, Fh2, Jh2, Gh1, Lh1, Fh1, Jh1]); exact r.e.be)
              (by (try simp (disch := omega) only [Gh2, Lh2, Fh2, Jh2, Gh1, Lh1, Fh1, Jh1]); exact r.e.bb)
              (by (try simp (disch := omega) only [Gh2, Lh2, Fh2, Jh2, Gh1, Lh1, Fh1, Jh1]); exact r.e.z))
              (Rf.of (by (try simp (disch := omega) only [Gh2, Lh2, Fh2, Jh2, Gh1, Lh1, Fh1, Jh1]); exact r.f.lim)
              (by (try simp (disch := omega) only [Gh2, Lh2, Fh2, Jh2, Gh1, Lh1, Fh1, Jh1]); exact r.f.l0)
              (by (try simp (disch := omega) only [Gh2, Lh2, Fh2, Jh2, Gh1, Lh1, Fh1, Jh1]); exact r.f.cl)
              (by (try simp (disch := omega) only [Gh2, Lh2, Fh2, Jh2, Gh1, Lh1, Fh1, Jh1]); exact r.f.no)
              (fun t ht => RfK.of (by (try simp (disch := omega) only [Gh2, Lh2, Fh2, Jh2, Gh1, Lh1, Fh1, Jh1]); exact (r.f.K t ht).ins)
                (by (try simp (disch := omega) only [Gh2, Lh2, Fh2, Jh2, Gh1, Lh1, Fh1, Jh1]); exact (r.f.K t ht).siz)
                (by (try simp (disch := omega) only [Gh2, Lh2, Fh2, Jh2, Gh1, Lh1, Fh1, Jh1]); exact (r.f.K t ht).bat)
                (by (try simp (disch := omega) only [Gh2, Lh2, Fh2, Jh2, Gh1, Lh1, Fh1, Jh1]); exact (r.f.K t ht).tap)
                (by (try simp (disch := omega) only [Gh2, Lh2, Fh2, Jh2, Gh1, Lh1, Fh1, Jh1]); exact (r.f.K t ht).stn)
                (by (try simp (disch := omega) only [Gh2, Lh2, Fh2, Jh2, Gh1, Lh1, Fh1, Jh1]); exact (r.f.K t ht).sta)
                (by (try simp (disch := omega) only [Gh2, Lh2, Fh2, Jh2, Gh1, Lh1, Fh1, Jh1]); exact (r.f.K t ht).am)
                (by (try simp (disch := omega) only [Gh2, Lh2, Fh2, Jh2, Gh1, Lh1, Fh1, Jh1]); exact (r.f.K t ht).zr)
                (by (try simp (disch := omega) only [Gh2, Lh2, Fh2, Jh2, Gh1, Lh1, Fh1, Jh1]); exact (r.f.K t ht).lo)
                (by (try simp (disch := omega) only [Gh2, Lh2, Fh2, Jh2, Gh1, Lh1, Fh1, Jh1]); exact (r.f.K t ht).h0)
                (by (try simp (disch := omega) only [Gh2, Lh2, Fh2, Jh2, Gh1, Lh1, Fh1, Jh1]); exact (r.f.K t ht).hr)
                (by (try simp (disch := omega) only [Gh2, Lh2, Fh2, Jh2, Gh1, Lh1, Fh1, Jh1]); exact (r.f.K t ht).r6)
                (by (try simp (disch := omega) only [Gh2, Lh2, Fh2, Jh2, Gh1, Lh1, Fh1, Jh1]); exact (r.f.K t ht).hs)
                (by (try simp (disch := omega) only [Gh2, Lh2, Fh2, Jh2, Gh1, Lh1, Fh1, Jh1]); exact (r.f.K t ht).lb)
                (by (try simp (disch := omega) only [Gh2, Lh2, Fh2, Jh2, Gh1, Lh1, Fh1, Jh1]); exact (r.f.K t ht).bb)))
              (Rg.of (by (try simp (disch := omega) only [Gh2, Lh2, Fh2, Jh2, Gh1, Lh1, Fh1, Jh1]); exact r.g.c)
              (by (try simp (disch := omega) only [Gh2, Lh2, Fh2, Jh2, Gh1, Lh1, Fh1, Jh1]); exact r.g.m)
              (by (try simp (disch := omega) only [Gh2, Lh2, Fh2, Jh2, Gh1, Lh1, Fh1, Jh1]); exact r.g.le)
              (by (try simp (disch := omega) only [Gh2, Lh2, Fh2, Jh2, Gh1, Lh1, Fh1, Jh1]); exact r.g.u)
              (by (try simp (disch := omega) only [Gh2, Lh2, Fh2, Jh2, Gh1, Lh1, Fh1, Jh1]); exact r.g.t)
              (by (try simp (disch := omega) only [Gh2, Lh2, Fh2, Jh2, Gh1, Lh1, Fh1, Jh1]); exact r.g.d)
              (by (try simp (disch := omega) only [Gh2, Lh2, Fh2, Jh2, Gh1, Lh1, Fh1, Jh1]); exact r.g.b)
              (by (try simp (disch := omega) only [Gh2, Lh2, Fh2, Jh2, Gh1, Lh1, Fh1, Jh1]); exact r.g.l)
              (by (try simp (disch := omega) only [Gh2, Lh2, Fh2, Jh2, Gh1, Lh1, Fh1, Jh1]); exact r.g.bb)
              (by (try simp (disch := omega) only [Gh2, Lh2, Fh2, Jh2, Gh1, Lh1, Fh1, Jh1]); exact r.g.lb))
              (Rh.of (by (try simp (disch := omega) only [Gh2, Lh2, Fh2, Jh2, Gh1, Lh1, Fh1, Jh1]); exact r.j.c)
              (by (try simp (disch := omega) only [Gh2, Lh2, Fh2, Jh2, Gh1, Lh1, Fh1, Jh1]); exact r.j.m)
              (by (try simp (disch := omega) only [Gh2, Lh2, Fh2, Jh2, Gh1, Lh1, Fh1, Jh1]); exact r.j.le)
              (by (try simp (disch := omega) only [Gh2, Lh2, Fh2, Jh2, Gh1, Lh1, Fh1, Jh1]); exact r.j.pc)
              (by (try simp (disch := omega) only [Gh2, Lh2, Fh2, Jh2, Gh1, Lh1, Fh1, Jh1]); exact r.j.pm)
              (by (try simp (disch := omega) only [Gh2, Lh2, Fh2, Jh2, Gh1, Lh1, Fh1, Jh1]); exact r.j.pl)
              (by (try simp (disch := omega) only [Gh2, Lh2, Fh2, Jh2, Gh1, Lh1, Fh1, Jh1]); exact r.j.hu)
              (by (try simp (disch := omega) only [Gh2, Lh2, Fh2, Jh2, Gh1, Lh1, Fh1, Jh1]); exact r.j.ti)
              (by (try simp (disch := omega) only [Gh2, Lh2, Fh2, Jh2, Gh1, Lh1, Fh1, Jh1]); exact r.j.du)
              (by (try simp (disch := omega) only [Gh2, Lh2, Fh2, Jh2, Gh1, Lh1, Fh1, Jh1]); exact r.j.pr)
              (by (try simp (disch := omega) only [Gh2, Lh2, Fh2, Jh2, Gh1, Lh1, Fh1, Jh1]); exact r.j.ch)
              (by (try simp (disch := omega) only [Gh2, Lh2, Fh2, Jh2, Gh1, Lh1, Fh1, Jh1]); exact r.j.od)
              (by (try simp (disch := omega) only [Gh2, Lh2, Fh2, Jh2, Gh1, Lh1, Fh1, Jh1]); exact r.j.ok)
              (by (try simp (disch := omega) only [Gh2, Lh2, Fh2, Jh2, Gh1, Lh1, Fh1, Jh1]); exact r.j.tb)
              (by (try simp (disch := omega) only [Gh2, Lh2, Fh2, Jh2, Gh1, Lh1, Fh1, Jh1]); exact r.j.db)))
        · skip
          have c := c_X9_band r.S b d x y nb r.a.c r.a.le
          simp only [uBand, if_pos g0, if_pos g1, if_pos g2, if_neg g3] at c
          have m := c_X10_band r.S b d x y nb r.a.m r.a.le
          simp only [mBand, if_pos g0, if_pos g1, if_pos g2, if_neg g3] at m
          exact JJ_upd c m rfl r
      · skip
        have c := c_X9_band r.S b d x y nb r.a.c r.a.le
        simp only [uBand, if_pos g0, if_pos g1, if_neg g2] at c
        have m := c_X10_band r.S b d x y nb r.a.m r.a.le
        simp only [mBand, if_pos g0, if_pos g1, if_neg g2] at m
        exact JJ_upd c m rfl r
    · skip
      have c := c_X9_band r.S b d x y nb r.a.c r.a.le
      simp only [uBand, if_pos g0, if_neg g1] at c
      have m := c_X10_band r.S b d x y nb r.a.m r.a.le
      simp only [mBand, if_pos g0, if_neg g1] at m
      exact JJ_upd c m rfl r
  · skip
    have c := c_X9_band r.S b d x y nb r.a.c r.a.le
    simp only [uBand, if_neg g0] at c
    have m := c_X10_band r.S b d x y nb r.a.m r.a.le
    simp only [mBand, if_neg g0] at m
    exact JJ_upd c m rfl r
theorem J_lot {h : HF} {nb nl nr nt nd nj np : Nat} (r : Rel h nb nl nr nt nd nj np) (b u l : Int32) : JJ mX9_lot mX10_lot [.ref 1, .int b, .int u, .int l] [.ref 132, .int b, .int u, .int l] h := by
  by_cases g0 : nl < 40
  · skip
    by_cases g1 : ltB b (nI nb) = true
    · skip
      by_cases g2 : inB u 1 20000 = true
      · skip
        by_cases g3 : inB l 0 10000 = true
        · skip
          have c := c_X9_lot r.S b u l nb r.a.c r.a.le nl r.b.c r.b.le
          simp only [uLot, gLot, if_pos g0, if_pos g1, if_pos g2, if_pos g3] at c
          obtain ⟨h1, eh1⟩ : ∃ zz : HF, zz = sI (si (si (si h 6 (upd (gi h 6) nl b)) 7 (upd (gi h 7) nl u)) 8 (upd (gi h 8) nl l)) 5 3 (nI (nl + 1)) := ⟨_, rfl⟩
          replace c := Mc_h eh1 c
          have Sh1 : Sh h1 := by rw [eh1]; (repeat (first | exact r.S | apply Sh.si | apply Sh.sI | apply Sh.sJ | apply Sh.sl))
          have Gh1 : ∀ x, x ≠ 6 → x ≠ 7 → x ≠ 8 → gi h1 x = gi h x := by
            intro x q0 q1 q2; rw [eh1]; (try simp (disch := first | assumption | omega) only [gi_si_ne, gi_sI, gi_sJ, gi_sl, gl_sl_ne, gl_si, gl_sI, gl_sJ, fI_si, fI_sl, fI_sJ, fI_sI_ne, fI_sI_k, fJ_si, fJ_sl, fJ_sI, fJ_sJ_ne])
          have Lh1 : ∀ x, gl h1 x = gl h x := by
            intro x ; rw [eh1]; (try simp (disch := first | assumption | omega) only [gi_si_ne, gi_sI, gi_sJ, gi_sl, gl_sl_ne, gl_si, gl_sI, gl_sJ, fI_si, fI_sl, fI_sJ, fI_sI_ne, fI_sI_k, fJ_si, fJ_sl, fJ_sI, fJ_sJ_ne])
          have Fh1 : ∀ x kk, ¬ (x = 5 ∧ kk = 3) → fI h1 x kk = fI h x kk := by
            intro x kk q0; rw [eh1]; first | rfl | (simp (disch := first | assumption | omega) only [fI_si, fI_sl, fI_sJ, fI_sI_o])
          have Jh1 : ∀ x kk, fJ h1 x kk = fJ h x kk := by
            intro x kk ; rw [eh1]; first | rfl | (simp (disch := first | assumption | omega) only [fJ_si, fJ_sl, fJ_sI, fJ_sJ_o])
          have c1 : gi h1 6 = upd (gi h 6) nl b := by
            rw [eh1]; simp (disch := first | omega | ((repeat (first | exact r.S | apply Sh.si | apply Sh.sI | apply Sh.sJ | apply Sh.sl)); done) | decide | exact kF_K ‹_› (by omega) | exact kI_of (shT_B ‹_›).2.2 | exact kI_of (shT_K ‹_›).2.2.1 | exact kI_of (shT_K ‹_›).2.2.2 | exact kFB ‹_› | exact kFM ‹_› | exact kJM ‹_› | exact kFN ‹_› | exact kJN ‹_› | rfl) only [gi_si_ne, gi_sI, gi_sJ, gi_sl, gl_sl_ne, gl_si, gl_sI, gl_sJ, fI_si, fI_sl, fI_sJ, fI_sI_ne, fI_sI_k, fJ_si, fJ_sl, fJ_sI, fJ_sJ_ne, gi_si_eq, gl_sl_eq, fI_sI_eq, fJ_sJ_eq]
          have c2 : gi h1 7 = upd (gi h 7) nl u := by
            rw [eh1]; simp (disch := first | omega | ((repeat (first | exact r.S | apply Sh.si | apply Sh.sI | apply Sh.sJ | apply Sh.sl)); done) | decide | exact kF_K ‹_› (by omega) | exact kI_of (shT_B ‹_›).2.2 | exact kI_of (shT_K ‹_›).2.2.1 | exact kI_of (shT_K ‹_›).2.2.2 | exact kFB ‹_› | exact kFM ‹_› | exact kJM ‹_› | exact kFN ‹_› | exact kJN ‹_› | rfl) only [gi_si_ne, gi_sI, gi_sJ, gi_sl, gl_sl_ne, gl_si, gl_sI, gl_sJ, fI_si, fI_sl, fI_sJ, fI_sI_ne, fI_sI_k, fJ_si, fJ_sl, fJ_sI, fJ_sJ_ne, gi_si_eq, gl_sl_eq, fI_sI_eq, fJ_sJ_eq]
          have c3 : gi h1 8 = upd (gi h 8) nl l := by
            rw [eh1]; simp (disch := first | omega | ((repeat (first | exact r.S | apply Sh.si | apply Sh.sI | apply Sh.sJ | apply Sh.sl)); done) | decide | exact kF_K ‹_› (by omega) | exact kI_of (shT_B ‹_›).2.2 | exact kI_of (shT_K ‹_›).2.2.1 | exact kI_of (shT_K ‹_›).2.2.2 | exact kFB ‹_› | exact kFM ‹_› | exact kJM ‹_› | exact kFN ‹_› | exact kJN ‹_› | rfl) only [gi_si_ne, gi_sI, gi_sJ, gi_sl, gl_sl_ne, gl_si, gl_sI, gl_sJ, fI_si, fI_sl, fI_sJ, fI_sI_ne, fI_sI_k, fJ_si, fJ_sl, fJ_sI, fJ_sJ_ne, gi_si_eq, gl_sl_eq, fI_sI_eq, fJ_sJ_eq]
          have c4 : fI h1 5 3 = nI (nl + 1) := by
            rw [eh1]; simp (disch := first | omega | ((repeat (first | exact r.S | apply Sh.si | apply Sh.sI | apply Sh.sJ | apply Sh.sl)); done) | decide | exact kF_K ‹_› (by omega) | exact kI_of (shT_B ‹_›).2.2 | exact kI_of (shT_K ‹_›).2.2.1 | exact kI_of (shT_K ‹_›).2.2.2 | exact kFB ‹_› | exact kFM ‹_› | exact kJM ‹_› | exact kFN ‹_› | exact kJN ‹_› | rfl) only [gi_si_ne, gi_sI, gi_sJ, gi_sl, gl_sl_ne, gl_si, gl_sI, gl_sJ, fI_si, fI_sl, fI_sJ, fI_sI_ne, fI_sI_k, fJ_si, fJ_sl, fJ_sI, fJ_sJ_ne, gi_si_eq, gl_sl_eq, fI_sI_eq, fJ_sJ_eq]
          have m := c_X10_lot Sh1 b u l nb (by rw [Fh1 _ _ (by omega)]; exact r.a.m) r.a.le nl (by rw [Fh1 _ _ (by omega)]; exact r.b.m) g0
          simp only [mLot, mLotF, if_pos g0, if_pos g1, if_pos g2, if_pos g3] at m
          obtain ⟨h2, eh2⟩ : ∃ zz : HF, zz = sI (si (si (si h1 135 (upd (gi h1 135) nl b)) 136 (upd (gi h1 136) nl u)) 137 (upd (gi h1 137) nl l)) 132 4 (nI (nl + 1)) := ⟨_, rfl⟩
          replace m := Mc_h eh2 m
          have Sh2 : Sh h2 := by rw [eh2]; (repeat (first | exact Sh1 | apply Sh.si | apply Sh.sI | apply Sh.sJ | apply Sh.sl))
          have Gh2 : ∀ x, x ≠ 135 → x ≠ 136 → x ≠ 137 → gi h2 x = gi h1 x := by
            intro x q0 q1 q2; rw [eh2]; (try simp (disch := first | assumption | omega) only [gi_si_ne, gi_sI, gi_sJ, gi_sl, gl_sl_ne, gl_si, gl_sI, gl_sJ, fI_si, fI_sl, fI_sJ, fI_sI_ne, fI_sI_k, fJ_si, fJ_sl, fJ_sI, fJ_sJ_ne])
          have Lh2 : ∀ x, gl h2 x = gl h1 x := by
            intro x ; rw [eh2]; (try simp (disch := first | assumption | omega) only [gi_si_ne, gi_sI, gi_sJ, gi_sl, gl_sl_ne, gl_si, gl_sI, gl_sJ, fI_si, fI_sl, fI_sJ, fI_sI_ne, fI_sI_k, fJ_si, fJ_sl, fJ_sI, fJ_sJ_ne])
          have Fh2 : ∀ x kk, ¬ (x = 132 ∧ kk = 4) → fI h2 x kk = fI h1 x kk := by
            intro x kk q0; rw [eh2]; first | rfl | (simp (disch := first | assumption | omega) only [fI_si, fI_sl, fI_sJ, fI_sI_o])
          have Jh2 : ∀ x kk, fJ h2 x kk = fJ h1 x kk := by
            intro x kk ; rw [eh2]; first | rfl | (simp (disch := first | assumption | omega) only [fJ_si, fJ_sl, fJ_sI, fJ_sJ_o])
          have m1 : gi h2 135 = upd (gi h1 135) nl b := by
            rw [eh2]; simp (disch := first | omega | ((repeat (first | exact Sh1 | apply Sh.si | apply Sh.sI | apply Sh.sJ | apply Sh.sl)); done) | decide | exact kF_K ‹_› (by omega) | exact kI_of (shT_B ‹_›).2.2 | exact kI_of (shT_K ‹_›).2.2.1 | exact kI_of (shT_K ‹_›).2.2.2 | exact kFB ‹_› | exact kFM ‹_› | exact kJM ‹_› | exact kFN ‹_› | exact kJN ‹_› | rfl) only [gi_si_ne, gi_sI, gi_sJ, gi_sl, gl_sl_ne, gl_si, gl_sI, gl_sJ, fI_si, fI_sl, fI_sJ, fI_sI_ne, fI_sI_k, fJ_si, fJ_sl, fJ_sI, fJ_sJ_ne, gi_si_eq, gl_sl_eq, fI_sI_eq, fJ_sJ_eq]
          have m2 : gi h2 136 = upd (gi h1 136) nl u := by
            rw [eh2]; simp (disch := first | omega | ((repeat (first | exact Sh1 | apply Sh.si | apply Sh.sI | apply Sh.sJ | apply Sh.sl)); done) | decide | exact kF_K ‹_› (by omega) | exact kI_of (shT_B ‹_›).2.2 | exact kI_of (shT_K ‹_›).2.2.1 | exact kI_of (shT_K ‹_›).2.2.2 | exact kFB ‹_› | exact kFM ‹_› | exact kJM ‹_› | exact kFN ‹_› | exact kJN ‹_› | rfl) only [gi_si_ne, gi_sI, gi_sJ, gi_sl, gl_sl_ne, gl_si, gl_sI, gl_sJ, fI_si, fI_sl, fI_sJ, fI_sI_ne, fI_sI_k, fJ_si, fJ_sl, fJ_sI, fJ_sJ_ne, gi_si_eq, gl_sl_eq, fI_sI_eq, fJ_sJ_eq]
          have m3 : gi h2 137 = upd (gi h1 137) nl l := by
            rw [eh2]; simp (disch := first | omega | ((repeat (first | exact Sh1 | apply Sh.si | apply Sh.sI | apply Sh.sJ | apply Sh.sl)); done) | decide | exact kF_K ‹_› (by omega) | exact kI_of (shT_B ‹_›).2.2 | exact kI_of (shT_K ‹_›).2.2.1 | exact kI_of (shT_K ‹_›).2.2.2 | exact kFB ‹_› | exact kFM ‹_› | exact kJM ‹_› | exact kFN ‹_› | exact kJN ‹_› | rfl) only [gi_si_ne, gi_sI, gi_sJ, gi_sl, gl_sl_ne, gl_si, gl_sI, gl_sJ, fI_si, fI_sl, fI_sJ, fI_sI_ne, fI_sI_k, fJ_si, fJ_sl, fJ_sI, fJ_sJ_ne, gi_si_eq, gl_sl_eq, fI_sI_eq, fJ_sJ_eq]
          have m4 : fI h2 132 4 = nI (nl + 1) := by
            rw [eh2]; simp (disch := first | omega | ((repeat (first | exact Sh1 | apply Sh.si | apply Sh.sI | apply Sh.sJ | apply Sh.sl)); done) | decide | exact kF_K ‹_› (by omega) | exact kI_of (shT_B ‹_›).2.2 | exact kI_of (shT_K ‹_›).2.2.1 | exact kI_of (shT_K ‹_›).2.2.2 | exact kFB ‹_› | exact kFM ‹_› | exact kJM ‹_› | exact kFN ‹_› | exact kJN ‹_› | rfl) only [gi_si_ne, gi_sI, gi_sJ, gi_sl, gl_sl_ne, gl_si, gl_sI, gl_sJ, fI_si, fI_sl, fI_sJ, fI_sI_ne, fI_sI_k, fJ_si, fJ_sl, fJ_sI, fJ_sJ_ne, gi_si_eq, gl_sl_eq, fI_sI_eq, fJ_sJ_eq]
          have n1 : gi h1 135 = gi h 135 := Gh1 135 (by omega) (by omega) (by omega)
          have n2 : gi h1 136 = gi h 136 := Gh1 136 (by omega) (by omega) (by omega)
          have n3 : gi h1 137 = gi h 137 := Gh1 137 (by omega) (by omega) (by omega)
          exact JJ_upd c m rfl (nl := nl + 1) (Rel.of (Sh2)
              (Ra.of (by (try simp (disch := omega) only [Gh2, Lh2, Fh2, Jh2, Gh1, Lh1, Fh1, Jh1]); exact r.a.c)
              (by (try simp (disch := omega) only [Gh2, Lh2, Fh2, Jh2, Gh1, Lh1, Fh1, Jh1]); exact r.a.m)
              (by (try simp (disch := omega) only [Gh2, Lh2, Fh2, Jh2, Gh1, Lh1, Fh1, Jh1]); exact r.a.le)
              (by (try simp (disch := omega) only [Gh2, Lh2, Fh2, Jh2, Gh1, Lh1, Fh1, Jh1]); exact r.a.A)
              (by (try simp (disch := omega) only [Gh2, Lh2, Fh2, Jh2, Gh1, Lh1, Fh1, Jh1]); exact r.a.P))
              (Rb.of (by rw [Fh2 _ _ (by omega)]; exact c4)
              (m4)
              (by omega)
              (by (try simp (disch := omega) only [Gh2, Lh2, Fh2, Jh2, Gh1, Lh1, Fh1, Jh1]); exact r.b.day)
              (by rw [Gh2 6 (by omega) (by omega) (by omega), c1, m1, n1, r.b.B])
              (by rw [Gh2 7 (by omega) (by omega) (by omega), c2, m2, n2, r.b.S])
              (by rw [Gh2 8 (by omega) (by omega) (by omega), c3, m3, n3, r.b.L])
              (by
              rw [m2, n2]
              intro j hj
              simp only [upd]
              split
              · have q := inB_i g2
                simp only [Int32.reduceToInt] at q
                omega
              · exact r.b.P j (by omega))
              (by
              intro j hj
              rw [m1, n1]
              simp only [upd]
              split
              · obtain ⟨b', hb, e⟩ := ltB_of (by have := r.a.le; omega) g1
                exact ⟨b', hb, e⟩
              · exact r.b.lb j (by omega)))
              (Rc.of (by (try simp (disch := omega) only [Gh2, Lh2, Fh2, Jh2, Gh1, Lh1, Fh1, Jh1]); exact r.c.c)
              (by (try simp (disch := omega) only [Gh2, Lh2, Fh2, Jh2, Gh1, Lh1, Fh1, Jh1]); exact r.c.m)
              (by (try simp (disch := omega) only [Gh2, Lh2, Fh2, Jh2, Gh1, Lh1, Fh1, Jh1]); exact r.c.le)
              (by (try simp (disch := omega) only [Gh2, Lh2, Fh2, Jh2, Gh1, Lh1, Fh1, Jh1]); exact r.c.E)
              (by (try simp (disch := omega) only [Gh2, Lh2, Fh2, Jh2, Gh1, Lh1, Fh1, Jh1]); exact r.c.S)
              (by (try simp (disch := omega) only [Gh2, Lh2, Fh2, Jh2, Gh1, Lh1, Fh1, Jh1]); exact r.c.T)
              (by (try simp (disch := omega) only [Gh2, Lh2, Fh2, Jh2, Gh1, Lh1, Fh1, Jh1]); exact r.c.C)
              (by (try simp (disch := omega) only [Gh2, Lh2, Fh2, Jh2, Gh1, Lh1, Fh1, Jh1]); exact r.c.N)
              (by (try simp (disch := omega) only [Gh2, Lh2, Fh2, Jh2, Gh1, Lh1, Fh1, Jh1]); exact r.c.ok)
              (by (try simp (disch := omega) only [Gh2, Lh2, Fh2, Jh2, Gh1, Lh1, Fh1, Jh1]); exact r.c.tm)
              (by (try simp (disch := omega) only [Gh2, Lh2, Fh2, Jh2, Gh1, Lh1, Fh1, Jh1]); exact r.c.tz)
              (by (try simp (disch := omega) only [Gh2, Lh2, Fh2, Jh2, Gh1, Lh1, Fh1, Jh1]); exact r.c.cz)
              (by (try simp (disch := omega) only [Gh2, Lh2, Fh2, Jh2, Gh1, Lh1, Fh1, Jh1]); exact r.c.nn))
              (Rd.of (by (try simp (disch := omega) only [Gh2, Lh2, Fh2, Jh2, Gh1, Lh1, Fh1, Jh1]); exact r.d.c)
              (by (try simp (disch := omega) only [Gh2, Lh2, Fh2, Jh2, Gh1, Lh1, Fh1, Jh1]); exact r.d.m)
              (by (try simp (disch := omega) only [Gh2, Lh2, Fh2, Jh2, Gh1, Lh1, Fh1, Jh1]); exact r.d.le)
              (fun k hk => RdK.of (by (try simp (disch := omega) only [Gh2, Lh2, Fh2, Jh2, Gh1, Lh1, Fh1, Jh1]); exact (r.d.K k hk).am)
                (by (try simp (disch := omega) only [Gh2, Lh2, Fh2, Jh2, Gh1, Lh1, Fh1, Jh1]); exact (r.d.K k hk).bd)
                (by (try simp (disch := omega) only [Gh2, Lh2, Fh2, Jh2, Gh1, Lh1, Fh1, Jh1]); exact (r.d.K k hk).zr)
                (by (try simp (disch := omega) only [Gh2, Lh2, Fh2, Jh2, Gh1, Lh1, Fh1, Jh1]); exact (r.d.K k hk).un)
                (by (try simp (disch := omega) only [Gh2, Lh2, Fh2, Jh2, Gh1, Lh1, Fh1, Jh1]); exact (r.d.K k hk).ul)
                (by (try simp (disch := omega) only [Gh2, Lh2, Fh2, Jh2, Gh1, Lh1, Fh1, Jh1]); exact (r.d.K k hk).lo)
                (by (try simp (disch := omega) only [Gh2, Lh2, Fh2, Jh2, Gh1, Lh1, Fh1, Jh1]); exact (r.d.K k hk).lb)
                (by (try simp (disch := omega) only [Gh2, Lh2, Fh2, Jh2, Gh1, Lh1, Fh1, Jh1]); exact (r.d.K k hk).po)))
              (Re.of (by (try simp (disch := omega) only [Gh2, Lh2, Fh2, Jh2, Gh1, Lh1, Fh1, Jh1]); exact r.e.fd)
              (by (try simp (disch := omega) only [Gh2, Lh2, Fh2, Jh2, Gh1, Lh1, Fh1, Jh1]); exact r.e.be)
              (by (try simp (disch := omega) only [Gh2, Lh2, Fh2, Jh2, Gh1, Lh1, Fh1, Jh1]); exact r.e.bb)
              (by (try simp (disch := omega) only [Gh2, Lh2, Fh2, Jh2, Gh1, Lh1, Fh1, Jh1]); exact r.e.z))
              (Rf.of (by (try simp (disch := omega) only [Gh2, Lh2, Fh2, Jh2, Gh1, Lh1, Fh1, Jh1]); exact r.f.lim)
              (by (try simp (disch := omega) only [Gh2, Lh2, Fh2, Jh2, Gh1, Lh1, Fh1, Jh1]); exact r.f.l0)
              (by (try simp (disch := omega) only [Gh2, Lh2, Fh2, Jh2, Gh1, Lh1, Fh1, Jh1]); exact r.f.cl)
              (by (try simp (disch := omega) only [Gh2, Lh2, Fh2, Jh2, Gh1, Lh1, Fh1, Jh1]); exact r.f.no)
              (fun t ht => RfK.of (by (try simp (disch := omega) only [Gh2, Lh2, Fh2, Jh2, Gh1, Lh1, Fh1, Jh1]); exact (r.f.K t ht).ins)
                (by (try simp (disch := omega) only [Gh2, Lh2, Fh2, Jh2, Gh1, Lh1, Fh1, Jh1]); exact (r.f.K t ht).siz)
                (by (try simp (disch := omega) only [Gh2, Lh2, Fh2, Jh2, Gh1, Lh1, Fh1, Jh1]); exact (r.f.K t ht).bat)
                (by (try simp (disch := omega) only [Gh2, Lh2, Fh2, Jh2, Gh1, Lh1, Fh1, Jh1]); exact (r.f.K t ht).tap)
                (by (try simp (disch := omega) only [Gh2, Lh2, Fh2, Jh2, Gh1, Lh1, Fh1, Jh1]); exact (r.f.K t ht).stn)
                (by (try simp (disch := omega) only [Gh2, Lh2, Fh2, Jh2, Gh1, Lh1, Fh1, Jh1]); exact (r.f.K t ht).sta)
                (by (try simp (disch := omega) only [Gh2, Lh2, Fh2, Jh2, Gh1, Lh1, Fh1, Jh1]); exact (r.f.K t ht).am)
                (by (try simp (disch := omega) only [Gh2, Lh2, Fh2, Jh2, Gh1, Lh1, Fh1, Jh1]); exact (r.f.K t ht).zr)
                (by (try simp (disch := omega) only [Gh2, Lh2, Fh2, Jh2, Gh1, Lh1, Fh1, Jh1]); exact (r.f.K t ht).lo)
                (by (try simp (disch := omega) only [Gh2, Lh2, Fh2, Jh2, Gh1, Lh1, Fh1, Jh1]); exact (r.f.K t ht).h0)
                (by (try simp (disch := omega) only [Gh2, Lh2, Fh2, Jh2, Gh1, Lh1, Fh1, Jh1]); exact (r.f.K t ht).hr)
                (by (try simp (disch := omega) only [Gh2, Lh2, Fh2, Jh2, Gh1, Lh1, Fh1, Jh1]); exact (r.f.K t ht).r6)
                (by (try simp (disch := omega) only [Gh2, Lh2, Fh2, Jh2, Gh1, Lh1, Fh1, Jh1]); exact (r.f.K t ht).hs)
                (by (try simp (disch := omega) only [Gh2, Lh2, Fh2, Jh2, Gh1, Lh1, Fh1, Jh1]); exact (r.f.K t ht).lb)
                (by (try simp (disch := omega) only [Gh2, Lh2, Fh2, Jh2, Gh1, Lh1, Fh1, Jh1]); exact (r.f.K t ht).bb)))
              (Rg.of (by (try simp (disch := omega) only [Gh2, Lh2, Fh2, Jh2, Gh1, Lh1, Fh1, Jh1]); exact r.g.c)
              (by (try simp (disch := omega) only [Gh2, Lh2, Fh2, Jh2, Gh1, Lh1, Fh1, Jh1]); exact r.g.m)
              (by (try simp (disch := omega) only [Gh2, Lh2, Fh2, Jh2, Gh1, Lh1, Fh1, Jh1]); exact r.g.le)
              (by (try simp (disch := omega) only [Gh2, Lh2, Fh2, Jh2, Gh1, Lh1, Fh1, Jh1]); exact r.g.u)
              (by (try simp (disch := omega) only [Gh2, Lh2, Fh2, Jh2, Gh1, Lh1, Fh1, Jh1]); exact r.g.t)
              (by (try simp (disch := omega) only [Gh2, Lh2, Fh2, Jh2, Gh1, Lh1, Fh1, Jh1]); exact r.g.d)
              (by (try simp (disch := omega) only [Gh2, Lh2, Fh2, Jh2, Gh1, Lh1, Fh1, Jh1]); exact r.g.b)
              (by (try simp (disch := omega) only [Gh2, Lh2, Fh2, Jh2, Gh1, Lh1, Fh1, Jh1]); exact r.g.l)
              (by (try simp (disch := omega) only [Gh2, Lh2, Fh2, Jh2, Gh1, Lh1, Fh1, Jh1]); exact r.g.bb)
              (by (try simp (disch := omega) only [Gh2, Lh2, Fh2, Jh2, Gh1, Lh1, Fh1, Jh1]); exact r.g.lb))
              (Rh.of (by (try simp (disch := omega) only [Gh2, Lh2, Fh2, Jh2, Gh1, Lh1, Fh1, Jh1]); exact r.j.c)
              (by (try simp (disch := omega) only [Gh2, Lh2, Fh2, Jh2, Gh1, Lh1, Fh1, Jh1]); exact r.j.m)
              (by (try simp (disch := omega) only [Gh2, Lh2, Fh2, Jh2, Gh1, Lh1, Fh1, Jh1]); exact r.j.le)
              (by (try simp (disch := omega) only [Gh2, Lh2, Fh2, Jh2, Gh1, Lh1, Fh1, Jh1]); exact r.j.pc)
              (by (try simp (disch := omega) only [Gh2, Lh2, Fh2, Jh2, Gh1, Lh1, Fh1, Jh1]); exact r.j.pm)
              (by (try simp (disch := omega) only [Gh2, Lh2, Fh2, Jh2, Gh1, Lh1, Fh1, Jh1]); exact r.j.pl)
              (by (try simp (disch := omega) only [Gh2, Lh2, Fh2, Jh2, Gh1, Lh1, Fh1, Jh1]); exact r.j.hu)
              (by (try simp (disch := omega) only [Gh2, Lh2, Fh2, Jh2, Gh1, Lh1, Fh1, Jh1]); exact r.j.ti)
              (by (try simp (disch := omega) only [Gh2, Lh2, Fh2, Jh2, Gh1, Lh1, Fh1, Jh1]); exact r.j.du)
              (by (try simp (disch := omega) only [Gh2, Lh2, Fh2, Jh2, Gh1, Lh1, Fh1, Jh1]); exact r.j.pr)
              (by (try simp (disch := omega) only [Gh2, Lh2, Fh2, Jh2, Gh1, Lh1, Fh1, Jh1]); exact r.j.ch)
              (by (try simp (disch := omega) only [Gh2, Lh2, Fh2, Jh2, Gh1, Lh1, Fh1, Jh1]); exact r.j.od)
              (by (try simp (disch := omega) only [Gh2, Lh2, Fh2, Jh2, Gh1, Lh1, Fh1, Jh1]); exact r.j.ok)
              (by (try simp (disch := omega) only [Gh2, Lh2, Fh2, Jh2, Gh1, Lh1, Fh1, Jh1]); exact r.j.tb)
              (by (try simp (disch := omega) only [Gh2, Lh2, Fh2, Jh2, Gh1, Lh1, Fh1, Jh1]); exact r.j.db)))
        · skip
          have c := c_X9_lot r.S b u l nb r.a.c r.a.le nl r.b.c r.b.le
          simp only [uLot, gLot, if_pos g0, if_pos g1, if_pos g2, if_neg g3] at c
          have m := c_X10_lot r.S b u l nb r.a.m r.a.le nl r.b.m g0
          simp only [mLot, if_pos g0, if_pos g1, if_pos g2, if_neg g3] at m
          exact JJ_upd c m rfl r
      · skip
        have c := c_X9_lot r.S b u l nb r.a.c r.a.le nl r.b.c r.b.le
        simp only [uLot, gLot, if_pos g0, if_pos g1, if_neg g2] at c
        have m := c_X10_lot r.S b u l nb r.a.m r.a.le nl r.b.m g0
        simp only [mLot, if_pos g0, if_pos g1, if_neg g2] at m
        exact JJ_upd c m rfl r
    · skip
      have c := c_X9_lot r.S b u l nb r.a.c r.a.le nl r.b.c r.b.le
      simp only [uLot, gLot, if_pos g0, if_neg g1] at c
      have m := c_X10_lot r.S b u l nb r.a.m r.a.le nl r.b.m g0
      simp only [mLot, if_pos g0, if_neg g1] at m
      exact JJ_upd c m rfl r
  · obtain rfl : nl = 40 := by have := r.b.le; omega
    have c := c_X9_lot r.S b u l nb r.a.c r.a.le 40 r.b.c r.b.le
    simp only [uLot, gLot, Nat.lt_irrefl, if_false, ite_self] at c
    have m := c_X10_lot_full r.S b u l nb r.a.m r.a.le r.b.m
    simp only [mLot, Nat.lt_irrefl, if_false, ite_self] at m
    exact JJ_upd c m rfl r
theorem J_day {h : HF} {nb nl nr nt nd nj np : Nat} (r : Rel h nb nl nr nt nd nj np) (n : Int32) : JJ mX9_day mX10_day [.ref 1, .int n] [.ref 132, .int n] h := by
  by_cases g0 : inB n 0 1000 = true
  · skip
    by_cases g1 : fI h 5 4 + n ≤ 10000
    · skip
      have c := c_X9_day r.S n
      simp only [uDay, if_pos g0, if_pos g1] at c
      obtain ⟨h1, eh1⟩ : ∃ zz : HF, zz = sI h 5 4 (fI h 5 4 + n) := ⟨_, rfl⟩
      replace c := Mc_h eh1 c
      have Sh1 : Sh h1 := by rw [eh1]; (repeat (first | exact r.S | apply Sh.si | apply Sh.sI | apply Sh.sJ | apply Sh.sl))
      have Gh1 : ∀ x, gi h1 x = gi h x := by
        intro x ; rw [eh1]; (try simp (disch := first | assumption | omega) only [gi_si_ne, gi_sI, gi_sJ, gi_sl, gl_sl_ne, gl_si, gl_sI, gl_sJ, fI_si, fI_sl, fI_sJ, fI_sI_ne, fI_sI_k, fJ_si, fJ_sl, fJ_sI, fJ_sJ_ne])
      have Lh1 : ∀ x, gl h1 x = gl h x := by
        intro x ; rw [eh1]; (try simp (disch := first | assumption | omega) only [gi_si_ne, gi_sI, gi_sJ, gi_sl, gl_sl_ne, gl_si, gl_sI, gl_sJ, fI_si, fI_sl, fI_sJ, fI_sI_ne, fI_sI_k, fJ_si, fJ_sl, fJ_sI, fJ_sJ_ne])
      have Fh1 : ∀ x kk, ¬ (x = 5 ∧ kk = 4) → fI h1 x kk = fI h x kk := by
        intro x kk q0; rw [eh1]; first | rfl | (simp (disch := first | assumption | omega) only [fI_si, fI_sl, fI_sJ, fI_sI_o])
      have Jh1 : ∀ x kk, fJ h1 x kk = fJ h x kk := by
        intro x kk ; rw [eh1]; first | rfl | (simp (disch := first | assumption | omega) only [fJ_si, fJ_sl, fJ_sI, fJ_sJ_o])
      have c4 : fI h1 5 4 = fI h 5 4 + n := by
        rw [eh1]; simp (disch := first | omega | ((repeat (first | exact r.S | apply Sh.si | apply Sh.sI | apply Sh.sJ | apply Sh.sl)); done) | decide | exact kF_K ‹_› (by omega) | exact kI_of (shT_B ‹_›).2.2 | exact kI_of (shT_K ‹_›).2.2.1 | exact kI_of (shT_K ‹_›).2.2.2 | exact kFB ‹_› | exact kFM ‹_› | exact kJM ‹_› | exact kFN ‹_› | exact kJN ‹_› | rfl) only [gi_si_ne, gi_sI, gi_sJ, gi_sl, gl_sl_ne, gl_si, gl_sI, gl_sJ, fI_si, fI_sl, fI_sJ, fI_sI_ne, fI_sI_k, fJ_si, fJ_sl, fJ_sI, fJ_sJ_ne, gi_si_eq, gl_sl_eq, fI_sI_eq, fJ_sJ_eq]
      have m := c_X10_day Sh1 n
      have n1 : fI h1 132 0 = fI h 5 4 := by rw [Fh1 _ _ (by omega), r.b.day]
      rw [n1] at m
      simp only [mDay, if_pos g0, if_pos g1] at m
      obtain ⟨h2, eh2⟩ : ∃ zz : HF, zz = sI h1 132 0 (fI h 5 4 + n) := ⟨_, rfl⟩
      replace m := Mc_h eh2 m
      have Sh2 : Sh h2 := by rw [eh2]; (repeat (first | exact Sh1 | apply Sh.si | apply Sh.sI | apply Sh.sJ | apply Sh.sl))
      have Gh2 : ∀ x, gi h2 x = gi h1 x := by
        intro x ; rw [eh2]; (try simp (disch := first | assumption | omega) only [gi_si_ne, gi_sI, gi_sJ, gi_sl, gl_sl_ne, gl_si, gl_sI, gl_sJ, fI_si, fI_sl, fI_sJ, fI_sI_ne, fI_sI_k, fJ_si, fJ_sl, fJ_sI, fJ_sJ_ne])
      have Lh2 : ∀ x, gl h2 x = gl h1 x := by
        intro x ; rw [eh2]; (try simp (disch := first | assumption | omega) only [gi_si_ne, gi_sI, gi_sJ, gi_sl, gl_sl_ne, gl_si, gl_sI, gl_sJ, fI_si, fI_sl, fI_sJ, fI_sI_ne, fI_sI_k, fJ_si, fJ_sl, fJ_sI, fJ_sJ_ne])
      have Fh2 : ∀ x kk, ¬ (x = 132 ∧ kk = 0) → fI h2 x kk = fI h1 x kk := by
        intro x kk q0; rw [eh2]; first | rfl | (simp (disch := first | assumption | omega) only [fI_si, fI_sl, fI_sJ, fI_sI_o])
      have Jh2 : ∀ x kk, fJ h2 x kk = fJ h1 x kk := by
        intro x kk ; rw [eh2]; first | rfl | (simp (disch := first | assumption | omega) only [fJ_si, fJ_sl, fJ_sI, fJ_sJ_o])
      have m4 : fI h2 132 0 = fI h 5 4 + n := by
        rw [eh2]; simp (disch := first | omega | ((repeat (first | exact Sh1 | apply Sh.si | apply Sh.sI | apply Sh.sJ | apply Sh.sl)); done) | decide | exact kF_K ‹_› (by omega) | exact kI_of (shT_B ‹_›).2.2 | exact kI_of (shT_K ‹_›).2.2.1 | exact kI_of (shT_K ‹_›).2.2.2 | exact kFB ‹_› | exact kFM ‹_› | exact kJM ‹_› | exact kFN ‹_› | exact kJN ‹_› | rfl) only [gi_si_ne, gi_sI, gi_sJ, gi_sl, gl_sl_ne, gl_si, gl_sI, gl_sJ, fI_si, fI_sl, fI_sJ, fI_sI_ne, fI_sI_k, fJ_si, fJ_sl, fJ_sI, fJ_sJ_ne, gi_si_eq, gl_sl_eq, fI_sI_eq, fJ_sJ_eq]
      exact JJ_upd c m rfl (Rel.of (Sh2)
          (Ra.of (by (try simp (disch := omega) only [Gh2, Lh2, Fh2, Jh2, Gh1, Lh1, Fh1, Jh1]); exact r.a.c)
          (by (try simp (disch := omega) only [Gh2, Lh2, Fh2, Jh2, Gh1, Lh1, Fh1, Jh1]); exact r.a.m)
          (by (try simp (disch := omega) only [Gh2, Lh2, Fh2, Jh2, Gh1, Lh1, Fh1, Jh1]); exact r.a.le)
          (by (try simp (disch := omega) only [Gh2, Lh2, Fh2, Jh2, Gh1, Lh1, Fh1, Jh1]); exact r.a.A)
          (by (try simp (disch := omega) only [Gh2, Lh2, Fh2, Jh2, Gh1, Lh1, Fh1, Jh1]); exact r.a.P))
          (Rb.of (by (try simp (disch := omega) only [Gh2, Lh2, Fh2, Jh2, Gh1, Lh1, Fh1, Jh1]); exact r.b.c)
          (by (try simp (disch := omega) only [Gh2, Lh2, Fh2, Jh2, Gh1, Lh1, Fh1, Jh1]); exact r.b.m)
          (by (try simp (disch := omega) only [Gh2, Lh2, Fh2, Jh2, Gh1, Lh1, Fh1, Jh1]); exact r.b.le)
          (by rw [Fh2 _ _ (by omega), c4, m4])
          (by (try simp (disch := omega) only [Gh2, Lh2, Fh2, Jh2, Gh1, Lh1, Fh1, Jh1]); exact r.b.B)
          (by (try simp (disch := omega) only [Gh2, Lh2, Fh2, Jh2, Gh1, Lh1, Fh1, Jh1]); exact r.b.S)
          (by (try simp (disch := omega) only [Gh2, Lh2, Fh2, Jh2, Gh1, Lh1, Fh1, Jh1]); exact r.b.L)
          (by (try simp (disch := omega) only [Gh2, Lh2, Fh2, Jh2, Gh1, Lh1, Fh1, Jh1]); exact r.b.P)
          (by (try simp (disch := omega) only [Gh2, Lh2, Fh2, Jh2, Gh1, Lh1, Fh1, Jh1]); exact r.b.lb))
          (Rc.of (by (try simp (disch := omega) only [Gh2, Lh2, Fh2, Jh2, Gh1, Lh1, Fh1, Jh1]); exact r.c.c)
          (by (try simp (disch := omega) only [Gh2, Lh2, Fh2, Jh2, Gh1, Lh1, Fh1, Jh1]); exact r.c.m)
          (by (try simp (disch := omega) only [Gh2, Lh2, Fh2, Jh2, Gh1, Lh1, Fh1, Jh1]); exact r.c.le)
          (by (try simp (disch := omega) only [Gh2, Lh2, Fh2, Jh2, Gh1, Lh1, Fh1, Jh1]); exact r.c.E)
          (by (try simp (disch := omega) only [Gh2, Lh2, Fh2, Jh2, Gh1, Lh1, Fh1, Jh1]); exact r.c.S)
          (by (try simp (disch := omega) only [Gh2, Lh2, Fh2, Jh2, Gh1, Lh1, Fh1, Jh1]); exact r.c.T)
          (by (try simp (disch := omega) only [Gh2, Lh2, Fh2, Jh2, Gh1, Lh1, Fh1, Jh1]); exact r.c.C)
          (by (try simp (disch := omega) only [Gh2, Lh2, Fh2, Jh2, Gh1, Lh1, Fh1, Jh1]); exact r.c.N)
          (by (try simp (disch := omega) only [Gh2, Lh2, Fh2, Jh2, Gh1, Lh1, Fh1, Jh1]); exact r.c.ok)
          (by (try simp (disch := omega) only [Gh2, Lh2, Fh2, Jh2, Gh1, Lh1, Fh1, Jh1]); exact r.c.tm)
          (by (try simp (disch := omega) only [Gh2, Lh2, Fh2, Jh2, Gh1, Lh1, Fh1, Jh1]); exact r.c.tz)
          (by (try simp (disch := omega) only [Gh2, Lh2, Fh2, Jh2, Gh1, Lh1, Fh1, Jh1]); exact r.c.cz)
          (by (try simp (disch := omega) only [Gh2, Lh2, Fh2, Jh2, Gh1, Lh1, Fh1, Jh1]); exact r.c.nn))
          (Rd.of (by (try simp (disch := omega) only [Gh2, Lh2, Fh2, Jh2, Gh1, Lh1, Fh1, Jh1]); exact r.d.c)
          (by (try simp (disch := omega) only [Gh2, Lh2, Fh2, Jh2, Gh1, Lh1, Fh1, Jh1]); exact r.d.m)
          (by (try simp (disch := omega) only [Gh2, Lh2, Fh2, Jh2, Gh1, Lh1, Fh1, Jh1]); exact r.d.le)
          (fun k hk => RdK.of (by (try simp (disch := omega) only [Gh2, Lh2, Fh2, Jh2, Gh1, Lh1, Fh1, Jh1]); exact (r.d.K k hk).am)
            (by (try simp (disch := omega) only [Gh2, Lh2, Fh2, Jh2, Gh1, Lh1, Fh1, Jh1]); exact (r.d.K k hk).bd)
            (by (try simp (disch := omega) only [Gh2, Lh2, Fh2, Jh2, Gh1, Lh1, Fh1, Jh1]); exact (r.d.K k hk).zr)
            (by (try simp (disch := omega) only [Gh2, Lh2, Fh2, Jh2, Gh1, Lh1, Fh1, Jh1]); exact (r.d.K k hk).un)
            (by (try simp (disch := omega) only [Gh2, Lh2, Fh2, Jh2, Gh1, Lh1, Fh1, Jh1]); exact (r.d.K k hk).ul)
            (by (try simp (disch := omega) only [Gh2, Lh2, Fh2, Jh2, Gh1, Lh1, Fh1, Jh1]); exact (r.d.K k hk).lo)
            (by (try simp (disch := omega) only [Gh2, Lh2, Fh2, Jh2, Gh1, Lh1, Fh1, Jh1]); exact (r.d.K k hk).lb)
            (by (try simp (disch := omega) only [Gh2, Lh2, Fh2, Jh2, Gh1, Lh1, Fh1, Jh1]); exact (r.d.K k hk).po)))
          (Re.of (by (try simp (disch := omega) only [Gh2, Lh2, Fh2, Jh2, Gh1, Lh1, Fh1, Jh1]); exact r.e.fd)
          (by (try simp (disch := omega) only [Gh2, Lh2, Fh2, Jh2, Gh1, Lh1, Fh1, Jh1]); exact r.e.be)
          (by (try simp (disch := omega) only [Gh2, Lh2, Fh2, Jh2, Gh1, Lh1, Fh1, Jh1]); exact r.e.bb)
          (by (try simp (disch := omega) only [Gh2, Lh2, Fh2, Jh2, Gh1, Lh1, Fh1, Jh1]); exact r.e.z))
          (Rf.of (by (try simp (disch := omega) only [Gh2, Lh2, Fh2, Jh2, Gh1, Lh1, Fh1, Jh1]); exact r.f.lim)
          (by (try simp (disch := omega) only [Gh2, Lh2, Fh2, Jh2, Gh1, Lh1, Fh1, Jh1]); exact r.f.l0)
          (by (try simp (disch := omega) only [Gh2, Lh2, Fh2, Jh2, Gh1, Lh1, Fh1, Jh1]); exact r.f.cl)
          (by (try simp (disch := omega) only [Gh2, Lh2, Fh2, Jh2, Gh1, Lh1, Fh1, Jh1]); exact r.f.no)
          (fun t ht => RfK.of (by (try simp (disch := omega) only [Gh2, Lh2, Fh2, Jh2, Gh1, Lh1, Fh1, Jh1]); exact (r.f.K t ht).ins)
            (by (try simp (disch := omega) only [Gh2, Lh2, Fh2, Jh2, Gh1, Lh1, Fh1, Jh1]); exact (r.f.K t ht).siz)
            (by (try simp (disch := omega) only [Gh2, Lh2, Fh2, Jh2, Gh1, Lh1, Fh1, Jh1]); exact (r.f.K t ht).bat)
            (by (try simp (disch := omega) only [Gh2, Lh2, Fh2, Jh2, Gh1, Lh1, Fh1, Jh1]); exact (r.f.K t ht).tap)
            (by (try simp (disch := omega) only [Gh2, Lh2, Fh2, Jh2, Gh1, Lh1, Fh1, Jh1]); exact (r.f.K t ht).stn)
            (by (try simp (disch := omega) only [Gh2, Lh2, Fh2, Jh2, Gh1, Lh1, Fh1, Jh1]); exact (r.f.K t ht).sta)
            (by (try simp (disch := omega) only [Gh2, Lh2, Fh2, Jh2, Gh1, Lh1, Fh1, Jh1]); exact (r.f.K t ht).am)
            (by (try simp (disch := omega) only [Gh2, Lh2, Fh2, Jh2, Gh1, Lh1, Fh1, Jh1]); exact (r.f.K t ht).zr)
            (by (try simp (disch := omega) only [Gh2, Lh2, Fh2, Jh2, Gh1, Lh1, Fh1, Jh1]); exact (r.f.K t ht).lo)
            (by (try simp (disch := omega) only [Gh2, Lh2, Fh2, Jh2, Gh1, Lh1, Fh1, Jh1]); exact (r.f.K t ht).h0)
            (by (try simp (disch := omega) only [Gh2, Lh2, Fh2, Jh2, Gh1, Lh1, Fh1, Jh1]); exact (r.f.K t ht).hr)
            (by (try simp (disch := omega) only [Gh2, Lh2, Fh2, Jh2, Gh1, Lh1, Fh1, Jh1]); exact (r.f.K t ht).r6)
            (by (try simp (disch := omega) only [Gh2, Lh2, Fh2, Jh2, Gh1, Lh1, Fh1, Jh1]); exact (r.f.K t ht).hs)
            (by (try simp (disch := omega) only [Gh2, Lh2, Fh2, Jh2, Gh1, Lh1, Fh1, Jh1]); exact (r.f.K t ht).lb)
            (by (try simp (disch := omega) only [Gh2, Lh2, Fh2, Jh2, Gh1, Lh1, Fh1, Jh1]); exact (r.f.K t ht).bb)))
          (Rg.of (by (try simp (disch := omega) only [Gh2, Lh2, Fh2, Jh2, Gh1, Lh1, Fh1, Jh1]); exact r.g.c)
          (by (try simp (disch := omega) only [Gh2, Lh2, Fh2, Jh2, Gh1, Lh1, Fh1, Jh1]); exact r.g.m)
          (by (try simp (disch := omega) only [Gh2, Lh2, Fh2, Jh2, Gh1, Lh1, Fh1, Jh1]); exact r.g.le)
          (by (try simp (disch := omega) only [Gh2, Lh2, Fh2, Jh2, Gh1, Lh1, Fh1, Jh1]); exact r.g.u)
          (by (try simp (disch := omega) only [Gh2, Lh2, Fh2, Jh2, Gh1, Lh1, Fh1, Jh1]); exact r.g.t)
          (by (try simp (disch := omega) only [Gh2, Lh2, Fh2, Jh2, Gh1, Lh1, Fh1, Jh1]); exact r.g.d)
          (by (try simp (disch := omega) only [Gh2, Lh2, Fh2, Jh2, Gh1, Lh1, Fh1, Jh1]); exact r.g.b)
          (by (try simp (disch := omega) only [Gh2, Lh2, Fh2, Jh2, Gh1, Lh1, Fh1, Jh1]); exact r.g.l)
          (by (try simp (disch := omega) only [Gh2, Lh2, Fh2, Jh2, Gh1, Lh1, Fh1, Jh1]); exact r.g.bb)
          (by (try simp (disch := omega) only [Gh2, Lh2, Fh2, Jh2, Gh1, Lh1, Fh1, Jh1]); exact r.g.lb))
          (Rh.of (by (try simp (disch := omega) only [Gh2, Lh2, Fh2, Jh2, Gh1, Lh1, Fh1, Jh1]); exact r.j.c)
          (by (try simp (disch := omega) only [Gh2, Lh2, Fh2, Jh2, Gh1, Lh1, Fh1, Jh1]); exact r.j.m)
          (by (try simp (disch := omega) only [Gh2, Lh2, Fh2, Jh2, Gh1, Lh1, Fh1, Jh1]); exact r.j.le)
          (by (try simp (disch := omega) only [Gh2, Lh2, Fh2, Jh2, Gh1, Lh1, Fh1, Jh1]); exact r.j.pc)
          (by (try simp (disch := omega) only [Gh2, Lh2, Fh2, Jh2, Gh1, Lh1, Fh1, Jh1]); exact r.j.pm)
          (by (try simp (disch := omega) only [Gh2, Lh2, Fh2, Jh2, Gh1, Lh1, Fh1, Jh1]); exact r.j.pl)
          (by (try simp (disch := omega) only [Gh2, Lh2, Fh2, Jh2, Gh1, Lh1, Fh1, Jh1]); exact r.j.hu)
          (by (try simp (disch := omega) only [Gh2, Lh2, Fh2, Jh2, Gh1, Lh1, Fh1, Jh1]); exact r.j.ti)
          (by (try simp (disch := omega) only [Gh2, Lh2, Fh2, Jh2, Gh1, Lh1, Fh1, Jh1]); exact r.j.du)
          (by (try simp (disch := omega) only [Gh2, Lh2, Fh2, Jh2, Gh1, Lh1, Fh1, Jh1]); exact r.j.pr)
          (by (try simp (disch := omega) only [Gh2, Lh2, Fh2, Jh2, Gh1, Lh1, Fh1, Jh1]); exact r.j.ch)
          (by (try simp (disch := omega) only [Gh2, Lh2, Fh2, Jh2, Gh1, Lh1, Fh1, Jh1]); exact r.j.od)
          (by (try simp (disch := omega) only [Gh2, Lh2, Fh2, Jh2, Gh1, Lh1, Fh1, Jh1]); exact r.j.ok)
          (by (try simp (disch := omega) only [Gh2, Lh2, Fh2, Jh2, Gh1, Lh1, Fh1, Jh1]); exact r.j.tb)
          (by (try simp (disch := omega) only [Gh2, Lh2, Fh2, Jh2, Gh1, Lh1, Fh1, Jh1]); exact r.j.db)))
    · skip
      have c := c_X9_day r.S n
      simp only [uDay, if_pos g0, if_neg g1] at c
      have m := (show Mc mX10_day [.ref 132, .int n] 170 h (RI (vDay (fI h 5 4) n) (mDay h (fI h 5 4) n)) from by rw [r.b.day]; exact c_X10_day r.S n)
      simp only [mDay, if_pos g0, if_neg g1] at m
      exact JJ_upd c m rfl r
  · skip
    have c := c_X9_day r.S n
    simp only [uDay, if_neg g0] at c
    have m := (show Mc mX10_day [.ref 132, .int n] 170 h (RI (vDay (fI h 5 4) n) (mDay h (fI h 5 4) n)) from by rw [r.b.day]; exact c_X10_day r.S n)
    simp only [mDay, if_neg g0] at m
    exact JJ_upd c m rfl r
theorem J_recipe {h : HF} {nb nl nr nt nd nj np : Nat} (r : Rel h nb nl nr nt nd nj np) : JJ mX9_recipe mX10_recipe [.ref 1] [.ref 132] h := by
  by_cases g0 : nr < 12
  · have c := c_X9_recipe r.S nr r.c.c r.c.le
    simp only [gRec, if_pos g0] at c
    obtain ⟨h1, eh1⟩ : ∃ zz : HF, zz = sI h 9 6 (nI (nr + 1)) := ⟨_, rfl⟩
    replace c := Mc_h eh1 c
    have Sh1 : Sh h1 := by rw [eh1]; (repeat (first | exact r.S | apply Sh.si | apply Sh.sI | apply Sh.sJ | apply Sh.sl))
    have Gh1 : ∀ x, gi h1 x = gi h x := by
      intro x ; rw [eh1]; (try simp (disch := first | assumption | omega) only [gi_si_ne, gi_sI, gi_sJ, gi_sl, gl_sl_ne, gl_si, gl_sI, gl_sJ, fI_si, fI_sl, fI_sJ, fI_sI_ne, fI_sI_k, fJ_si, fJ_sl, fJ_sI, fJ_sJ_ne])
    have Lh1 : ∀ x, gl h1 x = gl h x := by
      intro x ; rw [eh1]; (try simp (disch := first | assumption | omega) only [gi_si_ne, gi_sI, gi_sJ, gi_sl, gl_sl_ne, gl_si, gl_sI, gl_sJ, fI_si, fI_sl, fI_sJ, fI_sI_ne, fI_sI_k, fJ_si, fJ_sl, fJ_sI, fJ_sJ_ne])
    have Fh1 : ∀ x kk, ¬ (x = 9 ∧ kk = 6) → fI h1 x kk = fI h x kk := by
      intro x kk q0; rw [eh1]; first | rfl | (simp (disch := first | assumption | omega) only [fI_si, fI_sl, fI_sJ, fI_sI_o])
    have Jh1 : ∀ x kk, fJ h1 x kk = fJ h x kk := by
      intro x kk ; rw [eh1]; first | rfl | (simp (disch := first | assumption | omega) only [fJ_si, fJ_sl, fJ_sI, fJ_sJ_o])
    have c4 : fI h1 9 6 = nI (nr + 1) := by
      rw [eh1]; simp (disch := first | omega | ((repeat (first | exact r.S | apply Sh.si | apply Sh.sI | apply Sh.sJ | apply Sh.sl)); done) | decide | exact kF_K ‹_› (by omega) | exact kI_of (shT_B ‹_›).2.2 | exact kI_of (shT_K ‹_›).2.2.1 | exact kI_of (shT_K ‹_›).2.2.2 | exact kFB ‹_› | exact kFM ‹_› | exact kJM ‹_› | exact kFN ‹_› | exact kJN ‹_› | rfl) only [gi_si_ne, gi_sI, gi_sJ, gi_sl, gl_sl_ne, gl_si, gl_sI, gl_sJ, fI_si, fI_sl, fI_sJ, fI_sI_ne, fI_sI_k, fJ_si, fJ_sl, fJ_sI, fJ_sJ_ne, gi_si_eq, gl_sl_eq, fI_sI_eq, fJ_sJ_eq]
    have m := c_X10_recipe Sh1 nr (by rw [Fh1 _ _ (by omega)]; exact r.c.m) g0
    have ev : cap12 nr = nI nr := if_pos g0
    obtain ⟨h2, eh2⟩ : ∃ zz : HF, zz = sI h1 132 8 (nI (nr + 1)) := ⟨_, rfl⟩
    replace m := Mc_h eh2 m
    have Sh2 : Sh h2 := by rw [eh2]; (repeat (first | exact Sh1 | apply Sh.si | apply Sh.sI | apply Sh.sJ | apply Sh.sl))
    have Gh2 : ∀ x, gi h2 x = gi h1 x := by
      intro x ; rw [eh2]; (try simp (disch := first | assumption | omega) only [gi_si_ne, gi_sI, gi_sJ, gi_sl, gl_sl_ne, gl_si, gl_sI, gl_sJ, fI_si, fI_sl, fI_sJ, fI_sI_ne, fI_sI_k, fJ_si, fJ_sl, fJ_sI, fJ_sJ_ne])
    have Lh2 : ∀ x, gl h2 x = gl h1 x := by
      intro x ; rw [eh2]; (try simp (disch := first | assumption | omega) only [gi_si_ne, gi_sI, gi_sJ, gi_sl, gl_sl_ne, gl_si, gl_sI, gl_sJ, fI_si, fI_sl, fI_sJ, fI_sI_ne, fI_sI_k, fJ_si, fJ_sl, fJ_sI, fJ_sJ_ne])
    have Fh2 : ∀ x kk, ¬ (x = 132 ∧ kk = 8) → fI h2 x kk = fI h1 x kk := by
      intro x kk q0; rw [eh2]; first | rfl | (simp (disch := first | assumption | omega) only [fI_si, fI_sl, fI_sJ, fI_sI_o])
    have Jh2 : ∀ x kk, fJ h2 x kk = fJ h1 x kk := by
      intro x kk ; rw [eh2]; first | rfl | (simp (disch := first | assumption | omega) only [fJ_si, fJ_sl, fJ_sI, fJ_sJ_o])
    have m4 : fI h2 132 8 = nI (nr + 1) := by
      rw [eh2]; simp (disch := first | omega | ((repeat (first | exact Sh1 | apply Sh.si | apply Sh.sI | apply Sh.sJ | apply Sh.sl)); done) | decide | exact kF_K ‹_› (by omega) | exact kI_of (shT_B ‹_›).2.2 | exact kI_of (shT_K ‹_›).2.2.1 | exact kI_of (shT_K ‹_›).2.2.2 | exact kFB ‹_› | exact kFM ‹_› | exact kJM ‹_› | exact kFN ‹_› | exact kJN ‹_› | rfl) only [gi_si_ne, gi_sI, gi_sJ, gi_sl, gl_sl_ne, gl_si, gl_sI, gl_sJ, fI_si, fI_sl, fI_sJ, fI_sI_ne, fI_sI_k, fJ_si, fJ_sl, fJ_sI, fJ_sJ_ne, gi_si_eq, gl_sl_eq, fI_sI_eq, fJ_sJ_eq]
    exact JJ_upd c m ev (nr := nr + 1) (Rel.of (Sh2)
        (Ra.of (by (try simp (disch := omega) only [Gh2, Lh2, Fh2, Jh2, Gh1, Lh1, Fh1, Jh1]); exact r.a.c)
        (by (try simp (disch := omega) only [Gh2, Lh2, Fh2, Jh2, Gh1, Lh1, Fh1, Jh1]); exact r.a.m)
        (by (try simp (disch := omega) only [Gh2, Lh2, Fh2, Jh2, Gh1, Lh1, Fh1, Jh1]); exact r.a.le)
        (by (try simp (disch := omega) only [Gh2, Lh2, Fh2, Jh2, Gh1, Lh1, Fh1, Jh1]); exact r.a.A)
        (by (try simp (disch := omega) only [Gh2, Lh2, Fh2, Jh2, Gh1, Lh1, Fh1, Jh1]); exact r.a.P))
        (Rb.of (by (try simp (disch := omega) only [Gh2, Lh2, Fh2, Jh2, Gh1, Lh1, Fh1, Jh1]); exact r.b.c)
        (by (try simp (disch := omega) only [Gh2, Lh2, Fh2, Jh2, Gh1, Lh1, Fh1, Jh1]); exact r.b.m)
        (by (try simp (disch := omega) only [Gh2, Lh2, Fh2, Jh2, Gh1, Lh1, Fh1, Jh1]); exact r.b.le)
        (by (try simp (disch := omega) only [Gh2, Lh2, Fh2, Jh2, Gh1, Lh1, Fh1, Jh1]); exact r.b.day)
        (by (try simp (disch := omega) only [Gh2, Lh2, Fh2, Jh2, Gh1, Lh1, Fh1, Jh1]); exact r.b.B)
        (by (try simp (disch := omega) only [Gh2, Lh2, Fh2, Jh2, Gh1, Lh1, Fh1, Jh1]); exact r.b.S)
        (by (try simp (disch := omega) only [Gh2, Lh2, Fh2, Jh2, Gh1, Lh1, Fh1, Jh1]); exact r.b.L)
        (by (try simp (disch := omega) only [Gh2, Lh2, Fh2, Jh2, Gh1, Lh1, Fh1, Jh1]); exact r.b.P)
        (by (try simp (disch := omega) only [Gh2, Lh2, Fh2, Jh2, Gh1, Lh1, Fh1, Jh1]); exact r.b.lb))
        (Rc.of (by rw [Fh2 _ _ (by omega)]; exact c4)
        (m4)
        (by omega)
        (by (try simp (disch := omega) only [Gh2, Lh2, Fh2, Jh2, Gh1, Lh1, Fh1, Jh1]); exact r.c.E)
        (by (try simp (disch := omega) only [Gh2, Lh2, Fh2, Jh2, Gh1, Lh1, Fh1, Jh1]); exact r.c.S)
        (by (try simp (disch := omega) only [Gh2, Lh2, Fh2, Jh2, Gh1, Lh1, Fh1, Jh1]); exact r.c.T)
        (by (try simp (disch := omega) only [Gh2, Lh2, Fh2, Jh2, Gh1, Lh1, Fh1, Jh1]); exact r.c.C)
        (by (try simp (disch := omega) only [Gh2, Lh2, Fh2, Jh2, Gh1, Lh1, Fh1, Jh1]); exact r.c.N)
        (by
        (try simp (disch := omega) only [Gh2, Lh2, Fh2, Jh2, Gh1, Lh1, Fh1, Jh1])
        intro x hx
        by_cases e : x < nr
        · exact r.c.ok x e
        · exact ⟨0, by omega, r.c.cz x (by omega), fun i hi => absurd hi (by omega)⟩)
        (by (try simp (disch := omega) only [Gh2, Lh2, Fh2, Jh2, Gh1, Lh1, Fh1, Jh1]); exact r.c.tm)
        (by (try simp (disch := omega) only [Gh2, Lh2, Fh2, Jh2, Gh1, Lh1, Fh1, Jh1]); exact fun j hj => r.c.tz j (by omega))
        (by (try simp (disch := omega) only [Gh2, Lh2, Fh2, Jh2, Gh1, Lh1, Fh1, Jh1]); exact fun j hj => r.c.cz j (by omega))
        (by (try simp (disch := omega) only [Gh2, Lh2, Fh2, Jh2, Gh1, Lh1, Fh1, Jh1]); exact r.c.nn))
        (Rd.of (by (try simp (disch := omega) only [Gh2, Lh2, Fh2, Jh2, Gh1, Lh1, Fh1, Jh1]); exact r.d.c)
        (by (try simp (disch := omega) only [Gh2, Lh2, Fh2, Jh2, Gh1, Lh1, Fh1, Jh1]); exact r.d.m)
        (by (try simp (disch := omega) only [Gh2, Lh2, Fh2, Jh2, Gh1, Lh1, Fh1, Jh1]); exact r.d.le)
        (fun k hk => RdK.of (by (try simp (disch := omega) only [Gh2, Lh2, Fh2, Jh2, Gh1, Lh1, Fh1, Jh1]); exact (r.d.K k hk).am)
          (by (try simp (disch := omega) only [Gh2, Lh2, Fh2, Jh2, Gh1, Lh1, Fh1, Jh1]); exact (r.d.K k hk).bd)
          (by (try simp (disch := omega) only [Gh2, Lh2, Fh2, Jh2, Gh1, Lh1, Fh1, Jh1]); exact (r.d.K k hk).zr)
          (by (try simp (disch := omega) only [Gh2, Lh2, Fh2, Jh2, Gh1, Lh1, Fh1, Jh1]); exact (r.d.K k hk).un)
          (by (try simp (disch := omega) only [Gh2, Lh2, Fh2, Jh2, Gh1, Lh1, Fh1, Jh1]); exact (r.d.K k hk).ul)
          (by (try simp (disch := omega) only [Gh2, Lh2, Fh2, Jh2, Gh1, Lh1, Fh1, Jh1]); exact (r.d.K k hk).lo)
          (by (try simp (disch := omega) only [Gh2, Lh2, Fh2, Jh2, Gh1, Lh1, Fh1, Jh1]); exact (r.d.K k hk).lb)
          (by (try simp (disch := omega) only [Gh2, Lh2, Fh2, Jh2, Gh1, Lh1, Fh1, Jh1]); exact (r.d.K k hk).po)))
        (Re.of (by (try simp (disch := omega) only [Gh2, Lh2, Fh2, Jh2, Gh1, Lh1, Fh1, Jh1]); exact r.e.fd)
        (by (try simp (disch := omega) only [Gh2, Lh2, Fh2, Jh2, Gh1, Lh1, Fh1, Jh1]); exact r.e.be)
        (by (try simp (disch := omega) only [Gh2, Lh2, Fh2, Jh2, Gh1, Lh1, Fh1, Jh1]); exact r.e.bb)
        (by (try simp (disch := omega) only [Gh2, Lh2, Fh2, Jh2, Gh1, Lh1, Fh1, Jh1]); exact r.e.z))
        (Rf.of (by (try simp (disch := omega) only [Gh2, Lh2, Fh2, Jh2, Gh1, Lh1, Fh1, Jh1]); exact r.f.lim)
        (by (try simp (disch := omega) only [Gh2, Lh2, Fh2, Jh2, Gh1, Lh1, Fh1, Jh1]); exact r.f.l0)
        (by (try simp (disch := omega) only [Gh2, Lh2, Fh2, Jh2, Gh1, Lh1, Fh1, Jh1]); exact r.f.cl)
        (by (try simp (disch := omega) only [Gh2, Lh2, Fh2, Jh2, Gh1, Lh1, Fh1, Jh1]); exact r.f.no)
        (fun t ht => RfK.of (by (try simp (disch := omega) only [Gh2, Lh2, Fh2, Jh2, Gh1, Lh1, Fh1, Jh1]); exact (r.f.K t ht).ins)
          (by (try simp (disch := omega) only [Gh2, Lh2, Fh2, Jh2, Gh1, Lh1, Fh1, Jh1]); exact (r.f.K t ht).siz)
          (by (try simp (disch := omega) only [Gh2, Lh2, Fh2, Jh2, Gh1, Lh1, Fh1, Jh1]); exact (r.f.K t ht).bat)
          (by (try simp (disch := omega) only [Gh2, Lh2, Fh2, Jh2, Gh1, Lh1, Fh1, Jh1]); exact (r.f.K t ht).tap)
          (by (try simp (disch := omega) only [Gh2, Lh2, Fh2, Jh2, Gh1, Lh1, Fh1, Jh1]); exact (r.f.K t ht).stn)
          (by (try simp (disch := omega) only [Gh2, Lh2, Fh2, Jh2, Gh1, Lh1, Fh1, Jh1]); exact (r.f.K t ht).sta)
          (by (try simp (disch := omega) only [Gh2, Lh2, Fh2, Jh2, Gh1, Lh1, Fh1, Jh1]); exact (r.f.K t ht).am)
          (by (try simp (disch := omega) only [Gh2, Lh2, Fh2, Jh2, Gh1, Lh1, Fh1, Jh1]); exact (r.f.K t ht).zr)
          (by (try simp (disch := omega) only [Gh2, Lh2, Fh2, Jh2, Gh1, Lh1, Fh1, Jh1]); exact (r.f.K t ht).lo)
          (by (try simp (disch := omega) only [Gh2, Lh2, Fh2, Jh2, Gh1, Lh1, Fh1, Jh1]); exact (r.f.K t ht).h0)
          (by (try simp (disch := omega) only [Gh2, Lh2, Fh2, Jh2, Gh1, Lh1, Fh1, Jh1]); exact (r.f.K t ht).hr)
          (by (try simp (disch := omega) only [Gh2, Lh2, Fh2, Jh2, Gh1, Lh1, Fh1, Jh1]); exact (r.f.K t ht).r6)
          (by (try simp (disch := omega) only [Gh2, Lh2, Fh2, Jh2, Gh1, Lh1, Fh1, Jh1]); exact (r.f.K t ht).hs)
          (by (try simp (disch := omega) only [Gh2, Lh2, Fh2, Jh2, Gh1, Lh1, Fh1, Jh1]); exact (r.f.K t ht).lb)
          (by (try simp (disch := omega) only [Gh2, Lh2, Fh2, Jh2, Gh1, Lh1, Fh1, Jh1]); exact (r.f.K t ht).bb)))
        (Rg.of (by (try simp (disch := omega) only [Gh2, Lh2, Fh2, Jh2, Gh1, Lh1, Fh1, Jh1]); exact r.g.c)
        (by (try simp (disch := omega) only [Gh2, Lh2, Fh2, Jh2, Gh1, Lh1, Fh1, Jh1]); exact r.g.m)
        (by (try simp (disch := omega) only [Gh2, Lh2, Fh2, Jh2, Gh1, Lh1, Fh1, Jh1]); exact r.g.le)
        (by (try simp (disch := omega) only [Gh2, Lh2, Fh2, Jh2, Gh1, Lh1, Fh1, Jh1]); exact r.g.u)
        (by (try simp (disch := omega) only [Gh2, Lh2, Fh2, Jh2, Gh1, Lh1, Fh1, Jh1]); exact r.g.t)
        (by (try simp (disch := omega) only [Gh2, Lh2, Fh2, Jh2, Gh1, Lh1, Fh1, Jh1]); exact r.g.d)
        (by (try simp (disch := omega) only [Gh2, Lh2, Fh2, Jh2, Gh1, Lh1, Fh1, Jh1]); exact r.g.b)
        (by (try simp (disch := omega) only [Gh2, Lh2, Fh2, Jh2, Gh1, Lh1, Fh1, Jh1]); exact r.g.l)
        (by (try simp (disch := omega) only [Gh2, Lh2, Fh2, Jh2, Gh1, Lh1, Fh1, Jh1]); exact r.g.bb)
        (by (try simp (disch := omega) only [Gh2, Lh2, Fh2, Jh2, Gh1, Lh1, Fh1, Jh1]); exact r.g.lb))
        (Rh.of (by (try simp (disch := omega) only [Gh2, Lh2, Fh2, Jh2, Gh1, Lh1, Fh1, Jh1]); exact r.j.c)
        (by (try simp (disch := omega) only [Gh2, Lh2, Fh2, Jh2, Gh1, Lh1, Fh1, Jh1]); exact r.j.m)
        (by (try simp (disch := omega) only [Gh2, Lh2, Fh2, Jh2, Gh1, Lh1, Fh1, Jh1]); exact r.j.le)
        (by (try simp (disch := omega) only [Gh2, Lh2, Fh2, Jh2, Gh1, Lh1, Fh1, Jh1]); exact r.j.pc)
        (by (try simp (disch := omega) only [Gh2, Lh2, Fh2, Jh2, Gh1, Lh1, Fh1, Jh1]); exact r.j.pm)
        (by (try simp (disch := omega) only [Gh2, Lh2, Fh2, Jh2, Gh1, Lh1, Fh1, Jh1]); exact r.j.pl)
        (by (try simp (disch := omega) only [Gh2, Lh2, Fh2, Jh2, Gh1, Lh1, Fh1, Jh1]); exact r.j.hu)
        (by (try simp (disch := omega) only [Gh2, Lh2, Fh2, Jh2, Gh1, Lh1, Fh1, Jh1]); exact r.j.ti)
        (by (try simp (disch := omega) only [Gh2, Lh2, Fh2, Jh2, Gh1, Lh1, Fh1, Jh1]); exact r.j.du)
        (by (try simp (disch := omega) only [Gh2, Lh2, Fh2, Jh2, Gh1, Lh1, Fh1, Jh1]); exact r.j.pr)
        (by (try simp (disch := omega) only [Gh2, Lh2, Fh2, Jh2, Gh1, Lh1, Fh1, Jh1]); exact r.j.ch)
        (by (try simp (disch := omega) only [Gh2, Lh2, Fh2, Jh2, Gh1, Lh1, Fh1, Jh1]); exact r.j.od)
        (by (try simp (disch := omega) only [Gh2, Lh2, Fh2, Jh2, Gh1, Lh1, Fh1, Jh1]); exact r.j.ok)
        (by (try simp (disch := omega) only [Gh2, Lh2, Fh2, Jh2, Gh1, Lh1, Fh1, Jh1]); exact r.j.tb)
        (by (try simp (disch := omega) only [Gh2, Lh2, Fh2, Jh2, Gh1, Lh1, Fh1, Jh1]); exact r.j.db)))
  · obtain rfl : nr = 12 := by have := r.c.le; omega
    have c := c_X9_recipe r.S 12 r.c.c r.c.le
    simp only [gRec, if_neg g0] at c
    exact JJ_upd c (c_X10_recipe_full r.S r.c.m) rfl r
theorem J_batch {h : HF} {nb nl nr nt nd nj np : Nat} (r : Rel h nb nl nr nt nd nj np) : JJ mX9_batch mX10_batch [.ref 1] [.ref 132] h := by
  by_cases g0 : nt < 24
  · have c := c_X9_batch r.S nt r.d.c g0
    obtain ⟨h1, eh1⟩ : ∃ zz : HF, zz = sI h 1 4 (nI (nt + 1)) := ⟨_, rfl⟩
    replace c := Mc_h eh1 c
    have Sh1 : Sh h1 := by rw [eh1]; (repeat (first | exact r.S | apply Sh.si | apply Sh.sI | apply Sh.sJ | apply Sh.sl))
    have Gh1 : ∀ x, gi h1 x = gi h x := by
      intro x ; rw [eh1]; (try simp (disch := first | assumption | omega) only [gi_si_ne, gi_sI, gi_sJ, gi_sl, gl_sl_ne, gl_si, gl_sI, gl_sJ, fI_si, fI_sl, fI_sJ, fI_sI_ne, fI_sI_k, fJ_si, fJ_sl, fJ_sI, fJ_sJ_ne])
    have Lh1 : ∀ x, gl h1 x = gl h x := by
      intro x ; rw [eh1]; (try simp (disch := first | assumption | omega) only [gi_si_ne, gi_sI, gi_sJ, gi_sl, gl_sl_ne, gl_si, gl_sI, gl_sJ, fI_si, fI_sl, fI_sJ, fI_sI_ne, fI_sI_k, fJ_si, fJ_sl, fJ_sI, fJ_sJ_ne])
    have Fh1 : ∀ x kk, ¬ (x = 1 ∧ kk = 4) → fI h1 x kk = fI h x kk := by
      intro x kk q0; rw [eh1]; first | rfl | (simp (disch := first | assumption | omega) only [fI_si, fI_sl, fI_sJ, fI_sI_o])
    have Jh1 : ∀ x kk, fJ h1 x kk = fJ h x kk := by
      intro x kk ; rw [eh1]; first | rfl | (simp (disch := first | assumption | omega) only [fJ_si, fJ_sl, fJ_sI, fJ_sJ_o])
    have c4 : fI h1 1 4 = nI (nt + 1) := by
      rw [eh1]; simp (disch := first | omega | ((repeat (first | exact r.S | apply Sh.si | apply Sh.sI | apply Sh.sJ | apply Sh.sl)); done) | decide | exact kF_K ‹_› (by omega) | exact kI_of (shT_B ‹_›).2.2 | exact kI_of (shT_K ‹_›).2.2.1 | exact kI_of (shT_K ‹_›).2.2.2 | exact kFB ‹_› | exact kFM ‹_› | exact kJM ‹_› | exact kFN ‹_› | exact kJN ‹_› | rfl) only [gi_si_ne, gi_sI, gi_sJ, gi_sl, gl_sl_ne, gl_si, gl_sI, gl_sJ, fI_si, fI_sl, fI_sJ, fI_sI_ne, fI_sI_k, fJ_si, fJ_sl, fJ_sI, fJ_sJ_ne, gi_si_eq, gl_sl_eq, fI_sI_eq, fJ_sJ_eq]
    have m := c_X10_batch Sh1 nt (by rw [Fh1 _ _ (by omega)]; exact r.d.m) g0
    obtain ⟨h2, eh2⟩ : ∃ zz : HF, zz = sI h1 132 15 (nI (nt + 1)) := ⟨_, rfl⟩
    replace m := Mc_h eh2 m
    have Sh2 : Sh h2 := by rw [eh2]; (repeat (first | exact Sh1 | apply Sh.si | apply Sh.sI | apply Sh.sJ | apply Sh.sl))
    have Gh2 : ∀ x, gi h2 x = gi h1 x := by
      intro x ; rw [eh2]; (try simp (disch := first | assumption | omega) only [gi_si_ne, gi_sI, gi_sJ, gi_sl, gl_sl_ne, gl_si, gl_sI, gl_sJ, fI_si, fI_sl, fI_sJ, fI_sI_ne, fI_sI_k, fJ_si, fJ_sl, fJ_sI, fJ_sJ_ne])
    have Lh2 : ∀ x, gl h2 x = gl h1 x := by
      intro x ; rw [eh2]; (try simp (disch := first | assumption | omega) only [gi_si_ne, gi_sI, gi_sJ, gi_sl, gl_sl_ne, gl_si, gl_sI, gl_sJ, fI_si, fI_sl, fI_sJ, fI_sI_ne, fI_sI_k, fJ_si, fJ_sl, fJ_sI, fJ_sJ_ne])
    have Fh2 : ∀ x kk, ¬ (x = 132 ∧ kk = 15) → fI h2 x kk = fI h1 x kk := by
      intro x kk q0; rw [eh2]; first | rfl | (simp (disch := first | assumption | omega) only [fI_si, fI_sl, fI_sJ, fI_sI_o])
    have Jh2 : ∀ x kk, fJ h2 x kk = fJ h1 x kk := by
      intro x kk ; rw [eh2]; first | rfl | (simp (disch := first | assumption | omega) only [fJ_si, fJ_sl, fJ_sI, fJ_sJ_o])
    have m4 : fI h2 132 15 = nI (nt + 1) := by
      rw [eh2]; simp (disch := first | omega | ((repeat (first | exact Sh1 | apply Sh.si | apply Sh.sI | apply Sh.sJ | apply Sh.sl)); done) | decide | exact kF_K ‹_› (by omega) | exact kI_of (shT_B ‹_›).2.2 | exact kI_of (shT_K ‹_›).2.2.1 | exact kI_of (shT_K ‹_›).2.2.2 | exact kFB ‹_› | exact kFM ‹_› | exact kJM ‹_› | exact kFN ‹_› | exact kJN ‹_› | rfl) only [gi_si_ne, gi_sI, gi_sJ, gi_sl, gl_sl_ne, gl_si, gl_sI, gl_sJ, fI_si, fI_sl, fI_sJ, fI_sI_ne, fI_sI_k, fJ_si, fJ_sl, fJ_sI, fJ_sJ_ne, gi_si_eq, gl_sl_eq, fI_sI_eq, fJ_sJ_eq]
    exact JJ_upd c m rfl (nt := nt + 1) (Rel.of (Sh2)
        (Ra.of (by (try simp (disch := omega) only [Gh2, Lh2, Fh2, Jh2, Gh1, Lh1, Fh1, Jh1]); exact r.a.c)
        (by (try simp (disch := omega) only [Gh2, Lh2, Fh2, Jh2, Gh1, Lh1, Fh1, Jh1]); exact r.a.m)
        (by (try simp (disch := omega) only [Gh2, Lh2, Fh2, Jh2, Gh1, Lh1, Fh1, Jh1]); exact r.a.le)
        (by (try simp (disch := omega) only [Gh2, Lh2, Fh2, Jh2, Gh1, Lh1, Fh1, Jh1]); exact r.a.A)
        (by (try simp (disch := omega) only [Gh2, Lh2, Fh2, Jh2, Gh1, Lh1, Fh1, Jh1]); exact r.a.P))
        (Rb.of (by (try simp (disch := omega) only [Gh2, Lh2, Fh2, Jh2, Gh1, Lh1, Fh1, Jh1]); exact r.b.c)
        (by (try simp (disch := omega) only [Gh2, Lh2, Fh2, Jh2, Gh1, Lh1, Fh1, Jh1]); exact r.b.m)
        (by (try simp (disch := omega) only [Gh2, Lh2, Fh2, Jh2, Gh1, Lh1, Fh1, Jh1]); exact r.b.le)
        (by (try simp (disch := omega) only [Gh2, Lh2, Fh2, Jh2, Gh1, Lh1, Fh1, Jh1]); exact r.b.day)
        (by (try simp (disch := omega) only [Gh2, Lh2, Fh2, Jh2, Gh1, Lh1, Fh1, Jh1]); exact r.b.B)
        (by (try simp (disch := omega) only [Gh2, Lh2, Fh2, Jh2, Gh1, Lh1, Fh1, Jh1]); exact r.b.S)
        (by (try simp (disch := omega) only [Gh2, Lh2, Fh2, Jh2, Gh1, Lh1, Fh1, Jh1]); exact r.b.L)
        (by (try simp (disch := omega) only [Gh2, Lh2, Fh2, Jh2, Gh1, Lh1, Fh1, Jh1]); exact r.b.P)
        (by (try simp (disch := omega) only [Gh2, Lh2, Fh2, Jh2, Gh1, Lh1, Fh1, Jh1]); exact r.b.lb))
        (Rc.of (by (try simp (disch := omega) only [Gh2, Lh2, Fh2, Jh2, Gh1, Lh1, Fh1, Jh1]); exact r.c.c)
        (by (try simp (disch := omega) only [Gh2, Lh2, Fh2, Jh2, Gh1, Lh1, Fh1, Jh1]); exact r.c.m)
        (by (try simp (disch := omega) only [Gh2, Lh2, Fh2, Jh2, Gh1, Lh1, Fh1, Jh1]); exact r.c.le)
        (by (try simp (disch := omega) only [Gh2, Lh2, Fh2, Jh2, Gh1, Lh1, Fh1, Jh1]); exact r.c.E)
        (by (try simp (disch := omega) only [Gh2, Lh2, Fh2, Jh2, Gh1, Lh1, Fh1, Jh1]); exact r.c.S)
        (by (try simp (disch := omega) only [Gh2, Lh2, Fh2, Jh2, Gh1, Lh1, Fh1, Jh1]); exact r.c.T)
        (by (try simp (disch := omega) only [Gh2, Lh2, Fh2, Jh2, Gh1, Lh1, Fh1, Jh1]); exact r.c.C)
        (by (try simp (disch := omega) only [Gh2, Lh2, Fh2, Jh2, Gh1, Lh1, Fh1, Jh1]); exact r.c.N)
        (by (try simp (disch := omega) only [Gh2, Lh2, Fh2, Jh2, Gh1, Lh1, Fh1, Jh1]); exact r.c.ok)
        (by (try simp (disch := omega) only [Gh2, Lh2, Fh2, Jh2, Gh1, Lh1, Fh1, Jh1]); exact r.c.tm)
        (by (try simp (disch := omega) only [Gh2, Lh2, Fh2, Jh2, Gh1, Lh1, Fh1, Jh1]); exact r.c.tz)
        (by (try simp (disch := omega) only [Gh2, Lh2, Fh2, Jh2, Gh1, Lh1, Fh1, Jh1]); exact r.c.cz)
        (by (try simp (disch := omega) only [Gh2, Lh2, Fh2, Jh2, Gh1, Lh1, Fh1, Jh1]); exact r.c.nn))
        (Rd.of (by rw [Fh2 _ _ (by omega)]; exact c4)
        (m4)
        (by omega)
        (fun k hk => RdK.of (by (try simp (disch := omega) only [Gh2, Lh2, Fh2, Jh2, Gh1, Lh1, Fh1, Jh1]); exact (r.d.K k hk).am)
          (by (try simp (disch := omega) only [Gh2, Lh2, Fh2, Jh2, Gh1, Lh1, Fh1, Jh1]); exact (r.d.K k hk).bd)
          (by (try simp (disch := omega) only [Gh2, Lh2, Fh2, Jh2, Gh1, Lh1, Fh1, Jh1]); exact (r.d.K k hk).zr)
          (by (try simp (disch := omega) only [Gh2, Lh2, Fh2, Jh2, Gh1, Lh1, Fh1, Jh1]); exact (r.d.K k hk).un)
          (by (try simp (disch := omega) only [Gh2, Lh2, Fh2, Jh2, Gh1, Lh1, Fh1, Jh1]); exact (r.d.K k hk).ul)
          (by (try simp (disch := omega) only [Gh2, Lh2, Fh2, Jh2, Gh1, Lh1, Fh1, Jh1]); exact (r.d.K k hk).lo)
          (by (try simp (disch := omega) only [Gh2, Lh2, Fh2, Jh2, Gh1, Lh1, Fh1, Jh1]); exact (r.d.K k hk).lb)
          (by (try simp (disch := omega) only [Gh2, Lh2, Fh2, Jh2, Gh1, Lh1, Fh1, Jh1]); exact (r.d.K k hk).po)))
        (Re.of (by (try simp (disch := omega) only [Gh2, Lh2, Fh2, Jh2, Gh1, Lh1, Fh1, Jh1]); exact r.e.fd)
        (by (try simp (disch := omega) only [Gh2, Lh2, Fh2, Jh2, Gh1, Lh1, Fh1, Jh1]); exact r.e.be)
        (by (try simp (disch := omega) only [Gh2, Lh2, Fh2, Jh2, Gh1, Lh1, Fh1, Jh1]); exact r.e.bb)
        (by (try simp (disch := omega) only [Gh2, Lh2, Fh2, Jh2, Gh1, Lh1, Fh1, Jh1]); exact r.e.z))
        (Rf.of (by (try simp (disch := omega) only [Gh2, Lh2, Fh2, Jh2, Gh1, Lh1, Fh1, Jh1]); exact r.f.lim)
        (by (try simp (disch := omega) only [Gh2, Lh2, Fh2, Jh2, Gh1, Lh1, Fh1, Jh1]); exact r.f.l0)
        (by (try simp (disch := omega) only [Gh2, Lh2, Fh2, Jh2, Gh1, Lh1, Fh1, Jh1]); exact r.f.cl)
        (by (try simp (disch := omega) only [Gh2, Lh2, Fh2, Jh2, Gh1, Lh1, Fh1, Jh1]); exact r.f.no)
        (fun t ht => RfK.of (by (try simp (disch := omega) only [Gh2, Lh2, Fh2, Jh2, Gh1, Lh1, Fh1, Jh1]); exact (r.f.K t ht).ins)
          (by (try simp (disch := omega) only [Gh2, Lh2, Fh2, Jh2, Gh1, Lh1, Fh1, Jh1]); exact (r.f.K t ht).siz)
          (by (try simp (disch := omega) only [Gh2, Lh2, Fh2, Jh2, Gh1, Lh1, Fh1, Jh1]); exact (r.f.K t ht).bat)
          (by (try simp (disch := omega) only [Gh2, Lh2, Fh2, Jh2, Gh1, Lh1, Fh1, Jh1]); exact (r.f.K t ht).tap)
          (by (try simp (disch := omega) only [Gh2, Lh2, Fh2, Jh2, Gh1, Lh1, Fh1, Jh1]); exact (r.f.K t ht).stn)
          (by (try simp (disch := omega) only [Gh2, Lh2, Fh2, Jh2, Gh1, Lh1, Fh1, Jh1]); exact (r.f.K t ht).sta)
          (by (try simp (disch := omega) only [Gh2, Lh2, Fh2, Jh2, Gh1, Lh1, Fh1, Jh1]); exact (r.f.K t ht).am)
          (by (try simp (disch := omega) only [Gh2, Lh2, Fh2, Jh2, Gh1, Lh1, Fh1, Jh1]); exact (r.f.K t ht).zr)
          (by (try simp (disch := omega) only [Gh2, Lh2, Fh2, Jh2, Gh1, Lh1, Fh1, Jh1]); exact (r.f.K t ht).lo)
          (by (try simp (disch := omega) only [Gh2, Lh2, Fh2, Jh2, Gh1, Lh1, Fh1, Jh1]); exact (r.f.K t ht).h0)
          (by (try simp (disch := omega) only [Gh2, Lh2, Fh2, Jh2, Gh1, Lh1, Fh1, Jh1]); exact (r.f.K t ht).hr)
          (by (try simp (disch := omega) only [Gh2, Lh2, Fh2, Jh2, Gh1, Lh1, Fh1, Jh1]); exact (r.f.K t ht).r6)
          (by (try simp (disch := omega) only [Gh2, Lh2, Fh2, Jh2, Gh1, Lh1, Fh1, Jh1]); exact (r.f.K t ht).hs)
          (by (try simp (disch := omega) only [Gh2, Lh2, Fh2, Jh2, Gh1, Lh1, Fh1, Jh1]); exact (r.f.K t ht).lb)
          (by (try simp (disch := omega) only [Gh2, Lh2, Fh2, Jh2, Gh1, Lh1, Fh1, Jh1]); exact (r.f.K t ht).bb)))
        (Rg.of (by (try simp (disch := omega) only [Gh2, Lh2, Fh2, Jh2, Gh1, Lh1, Fh1, Jh1]); exact r.g.c)
        (by (try simp (disch := omega) only [Gh2, Lh2, Fh2, Jh2, Gh1, Lh1, Fh1, Jh1]); exact r.g.m)
        (by (try simp (disch := omega) only [Gh2, Lh2, Fh2, Jh2, Gh1, Lh1, Fh1, Jh1]); exact r.g.le)
        (by (try simp (disch := omega) only [Gh2, Lh2, Fh2, Jh2, Gh1, Lh1, Fh1, Jh1]); exact r.g.u)
        (by (try simp (disch := omega) only [Gh2, Lh2, Fh2, Jh2, Gh1, Lh1, Fh1, Jh1]); exact r.g.t)
        (by (try simp (disch := omega) only [Gh2, Lh2, Fh2, Jh2, Gh1, Lh1, Fh1, Jh1]); exact r.g.d)
        (by (try simp (disch := omega) only [Gh2, Lh2, Fh2, Jh2, Gh1, Lh1, Fh1, Jh1]); exact r.g.b)
        (by (try simp (disch := omega) only [Gh2, Lh2, Fh2, Jh2, Gh1, Lh1, Fh1, Jh1]); exact r.g.l)
        (by (try simp (disch := omega) only [Gh2, Lh2, Fh2, Jh2, Gh1, Lh1, Fh1, Jh1]); exact r.g.bb)
        (by (try simp (disch := omega) only [Gh2, Lh2, Fh2, Jh2, Gh1, Lh1, Fh1, Jh1]); exact r.g.lb))
        (Rh.of (by (try simp (disch := omega) only [Gh2, Lh2, Fh2, Jh2, Gh1, Lh1, Fh1, Jh1]); exact r.j.c)
        (by (try simp (disch := omega) only [Gh2, Lh2, Fh2, Jh2, Gh1, Lh1, Fh1, Jh1]); exact r.j.m)
        (by (try simp (disch := omega) only [Gh2, Lh2, Fh2, Jh2, Gh1, Lh1, Fh1, Jh1]); exact r.j.le)
        (by (try simp (disch := omega) only [Gh2, Lh2, Fh2, Jh2, Gh1, Lh1, Fh1, Jh1]); exact r.j.pc)
        (by (try simp (disch := omega) only [Gh2, Lh2, Fh2, Jh2, Gh1, Lh1, Fh1, Jh1]); exact r.j.pm)
        (by (try simp (disch := omega) only [Gh2, Lh2, Fh2, Jh2, Gh1, Lh1, Fh1, Jh1]); exact r.j.pl)
        (by (try simp (disch := omega) only [Gh2, Lh2, Fh2, Jh2, Gh1, Lh1, Fh1, Jh1]); exact r.j.hu)
        (by (try simp (disch := omega) only [Gh2, Lh2, Fh2, Jh2, Gh1, Lh1, Fh1, Jh1]); exact r.j.ti)
        (by (try simp (disch := omega) only [Gh2, Lh2, Fh2, Jh2, Gh1, Lh1, Fh1, Jh1]); exact r.j.du)
        (by (try simp (disch := omega) only [Gh2, Lh2, Fh2, Jh2, Gh1, Lh1, Fh1, Jh1]); exact r.j.pr)
        (by (try simp (disch := omega) only [Gh2, Lh2, Fh2, Jh2, Gh1, Lh1, Fh1, Jh1]); exact r.j.ch)
        (by (try simp (disch := omega) only [Gh2, Lh2, Fh2, Jh2, Gh1, Lh1, Fh1, Jh1]); exact r.j.od)
        (by (try simp (disch := omega) only [Gh2, Lh2, Fh2, Jh2, Gh1, Lh1, Fh1, Jh1]); exact r.j.ok)
        (by (try simp (disch := omega) only [Gh2, Lh2, Fh2, Jh2, Gh1, Lh1, Fh1, Jh1]); exact r.j.tb)
        (by (try simp (disch := omega) only [Gh2, Lh2, Fh2, Jh2, Gh1, Lh1, Fh1, Jh1]); exact r.j.db)))
  · obtain rfl : nt = 24 := by have := r.d.le; omega
    exact JJ_upd (c_X9_batch_full r.S r.d.c) (c_X10_batch_full r.S r.d.m) rfl r
theorem J_holds {h : HF} {nb nl nr nt nd nj np : Nat} (r : Rel h nb nl nr nt nd nj np) (t u : Int32) : JJ mX9_holds mX10_holds [.ref 1, .int t, .int u] [.ref 132, .int t, .int u] h := by
  have ev : vHolds (fun t => fI h (112 + 4 * t) 2) (fun t => fI h (112 + 4 * t) 3) t u = vHolds (gi h 150) (gi h 149) t u := by
    unfold vHolds
    refine if_same (fun q => ?_)
    have ht := inB_cl (n := 4) (by decide) q
    simp only [(r.f.K _ ht).ins, (r.f.K _ ht).siz]
  by_cases g0 : inB t 0 4 = true
  · skip
    have ht := inB_cl (n := 4) (by decide) g0
    have k0 := r.f.K _ ht
    have ki := k0.ins
    have ks := k0.stn
    by_cases g1 : inB u 1 60000 = true
    · skip
      by_cases g2 : gi h 150 t.toNatClampNeg ≤ u
      · skip
        have c := c_X9_holds r.S t u
        simp only [uHolds, ki, if_pos g0, if_pos g1, if_pos g2] at c
        obtain ⟨h1, eh1⟩ : ∃ zz : HF, zz = sI h (112 + 4 * t.toNatClampNeg) 3 u := ⟨_, rfl⟩
        replace c := Mc_h eh1 c
        have Sh1 : Sh h1 := by rw [eh1]; (repeat (first | exact r.S | apply Sh.si | apply Sh.sI | apply Sh.sJ | apply Sh.sl))
        have Gh1 : ∀ x, gi h1 x = gi h x := by
          intro x ; rw [eh1]; (try simp (disch := first | assumption | omega) only [gi_si_ne, gi_sI, gi_sJ, gi_sl, gl_sl_ne, gl_si, gl_sI, gl_sJ, fI_si, fI_sl, fI_sJ, fI_sI_ne, fI_sI_k, fJ_si, fJ_sl, fJ_sI, fJ_sJ_ne])
        have Lh1 : ∀ x, gl h1 x = gl h x := by
          intro x ; rw [eh1]; (try simp (disch := first | assumption | omega) only [gi_si_ne, gi_sI, gi_sJ, gi_sl, gl_sl_ne, gl_si, gl_sI, gl_sJ, fI_si, fI_sl, fI_sJ, fI_sI_ne, fI_sI_k, fJ_si, fJ_sl, fJ_sI, fJ_sJ_ne])
        have Fh1 : ∀ x kk, ¬ (x = 112 + 4 * t.toNatClampNeg ∧ kk = 3) → fI h1 x kk = fI h x kk := by
          intro x kk q0; rw [eh1]; first | rfl | (simp (disch := first | assumption | omega) only [fI_si, fI_sl, fI_sJ, fI_sI_o])
        have Jh1 : ∀ x kk, fJ h1 x kk = fJ h x kk := by
          intro x kk ; rw [eh1]; first | rfl | (simp (disch := first | assumption | omega) only [fJ_si, fJ_sl, fJ_sI, fJ_sJ_o])
        have c4 : fI h1 (112 + 4 * t.toNatClampNeg) 3 = u := by
          rw [eh1]; simp (disch := first | omega | ((repeat (first | exact r.S | apply Sh.si | apply Sh.sI | apply Sh.sJ | apply Sh.sl)); done) | decide | exact kF_K ‹_› (by omega) | exact kI_of (shT_B ‹_›).2.2 | exact kI_of (shT_K ‹_›).2.2.1 | exact kI_of (shT_K ‹_›).2.2.2 | exact kFB ‹_› | exact kFM ‹_› | exact kJM ‹_› | exact kFN ‹_› | exact kJN ‹_› | rfl) only [gi_si_ne, gi_sI, gi_sJ, gi_sl, gl_sl_ne, gl_si, gl_sI, gl_sJ, fI_si, fI_sl, fI_sJ, fI_sI_ne, fI_sI_k, fJ_si, fJ_sl, fJ_sI, fJ_sJ_ne, gi_si_eq, gl_sl_eq, fI_sI_eq, fJ_sJ_eq]
        have m := c_X10_holds Sh1 t u
        rw [Gh1 150, Gh1 149] at m
        have g3 : gi h1 150 t.toNatClampNeg ≤ u := by rw [Gh1 150]; exact g2
        simp only [mHolds, if_pos g0, if_pos g1, if_pos g3] at m
        obtain ⟨h2, eh2⟩ : ∃ zz : HF, zz = si h1 149 (upd (gi h1 149) t.toNatClampNeg u) := ⟨_, rfl⟩
        replace m := Mc_h eh2 m
        have Sh2 : Sh h2 := by rw [eh2]; (repeat (first | exact Sh1 | apply Sh.si | apply Sh.sI | apply Sh.sJ | apply Sh.sl))
        have Gh2 : ∀ x, x ≠ 149 → gi h2 x = gi h1 x := by
          intro x q0; rw [eh2]; (try simp (disch := first | assumption | omega) only [gi_si_ne, gi_sI, gi_sJ, gi_sl, gl_sl_ne, gl_si, gl_sI, gl_sJ, fI_si, fI_sl, fI_sJ, fI_sI_ne, fI_sI_k, fJ_si, fJ_sl, fJ_sI, fJ_sJ_ne])
        have Lh2 : ∀ x, gl h2 x = gl h1 x := by
          intro x ; rw [eh2]; (try simp (disch := first | assumption | omega) only [gi_si_ne, gi_sI, gi_sJ, gi_sl, gl_sl_ne, gl_si, gl_sI, gl_sJ, fI_si, fI_sl, fI_sJ, fI_sI_ne, fI_sI_k, fJ_si, fJ_sl, fJ_sI, fJ_sJ_ne])
        have Fh2 : ∀ x kk, fI h2 x kk = fI h1 x kk := by
          intro x kk ; rw [eh2]; first | rfl | (simp (disch := first | assumption | omega) only [fI_si, fI_sl, fI_sJ, fI_sI_o])
        have Jh2 : ∀ x kk, fJ h2 x kk = fJ h1 x kk := by
          intro x kk ; rw [eh2]; first | rfl | (simp (disch := first | assumption | omega) only [fJ_si, fJ_sl, fJ_sI, fJ_sJ_o])
        have m4 : gi h2 149 = upd (gi h1 149) t.toNatClampNeg u := by
          rw [eh2]; simp (disch := first | omega | ((repeat (first | exact Sh1 | apply Sh.si | apply Sh.sI | apply Sh.sJ | apply Sh.sl)); done) | decide | exact kF_K ‹_› (by omega) | exact kI_of (shT_B ‹_›).2.2 | exact kI_of (shT_K ‹_›).2.2.1 | exact kI_of (shT_K ‹_›).2.2.2 | exact kFB ‹_› | exact kFM ‹_› | exact kJM ‹_› | exact kFN ‹_› | exact kJN ‹_› | rfl) only [gi_si_ne, gi_sI, gi_sJ, gi_sl, gl_sl_ne, gl_si, gl_sI, gl_sJ, fI_si, fI_sl, fI_sJ, fI_sI_ne, fI_sI_k, fJ_si, fJ_sl, fJ_sI, fJ_sJ_ne, gi_si_eq, gl_sl_eq, fI_sI_eq, fJ_sJ_eq]
        exact JJ_upd c m ev (Rel.of (Sh2)
            (Ra.of (by (try simp (disch := omega) only [Gh2, Lh2, Fh2, Jh2, Gh1, Lh1, Fh1, Jh1]); exact r.a.c)
            (by (try simp (disch := omega) only [Gh2, Lh2, Fh2, Jh2, Gh1, Lh1, Fh1, Jh1]); exact r.a.m)
            (by (try simp (disch := omega) only [Gh2, Lh2, Fh2, Jh2, Gh1, Lh1, Fh1, Jh1]); exact r.a.le)
            (by (try simp (disch := omega) only [Gh2, Lh2, Fh2, Jh2, Gh1, Lh1, Fh1, Jh1]); exact r.a.A)
            (by (try simp (disch := omega) only [Gh2, Lh2, Fh2, Jh2, Gh1, Lh1, Fh1, Jh1]); exact r.a.P))
            (Rb.of (by (try simp (disch := omega) only [Gh2, Lh2, Fh2, Jh2, Gh1, Lh1, Fh1, Jh1]); exact r.b.c)
            (by (try simp (disch := omega) only [Gh2, Lh2, Fh2, Jh2, Gh1, Lh1, Fh1, Jh1]); exact r.b.m)
            (by (try simp (disch := omega) only [Gh2, Lh2, Fh2, Jh2, Gh1, Lh1, Fh1, Jh1]); exact r.b.le)
            (by (try simp (disch := omega) only [Gh2, Lh2, Fh2, Jh2, Gh1, Lh1, Fh1, Jh1]); exact r.b.day)
            (by (try simp (disch := omega) only [Gh2, Lh2, Fh2, Jh2, Gh1, Lh1, Fh1, Jh1]); exact r.b.B)
            (by (try simp (disch := omega) only [Gh2, Lh2, Fh2, Jh2, Gh1, Lh1, Fh1, Jh1]); exact r.b.S)
            (by (try simp (disch := omega) only [Gh2, Lh2, Fh2, Jh2, Gh1, Lh1, Fh1, Jh1]); exact r.b.L)
            (by (try simp (disch := omega) only [Gh2, Lh2, Fh2, Jh2, Gh1, Lh1, Fh1, Jh1]); exact r.b.P)
            (by (try simp (disch := omega) only [Gh2, Lh2, Fh2, Jh2, Gh1, Lh1, Fh1, Jh1]); exact r.b.lb))
            (Rc.of (by (try simp (disch := omega) only [Gh2, Lh2, Fh2, Jh2, Gh1, Lh1, Fh1, Jh1]); exact r.c.c)
            (by (try simp (disch := omega) only [Gh2, Lh2, Fh2, Jh2, Gh1, Lh1, Fh1, Jh1]); exact r.c.m)
            (by (try simp (disch := omega) only [Gh2, Lh2, Fh2, Jh2, Gh1, Lh1, Fh1, Jh1]); exact r.c.le)
            (by (try simp (disch := omega) only [Gh2, Lh2, Fh2, Jh2, Gh1, Lh1, Fh1, Jh1]); exact r.c.E)
            (by (try simp (disch := omega) only [Gh2, Lh2, Fh2, Jh2, Gh1, Lh1, Fh1, Jh1]); exact r.c.S)
            (by (try simp (disch := omega) only [Gh2, Lh2, Fh2, Jh2, Gh1, Lh1, Fh1, Jh1]); exact r.c.T)
            (by (try simp (disch := omega) only [Gh2, Lh2, Fh2, Jh2, Gh1, Lh1, Fh1, Jh1]); exact r.c.C)
            (by (try simp (disch := omega) only [Gh2, Lh2, Fh2, Jh2, Gh1, Lh1, Fh1, Jh1]); exact r.c.N)
            (by (try simp (disch := omega) only [Gh2, Lh2, Fh2, Jh2, Gh1, Lh1, Fh1, Jh1]); exact r.c.ok)
            (by (try simp (disch := omega) only [Gh2, Lh2, Fh2, Jh2, Gh1, Lh1, Fh1, Jh1]); exact r.c.tm)
            (by (try simp (disch := omega) only [Gh2, Lh2, Fh2, Jh2, Gh1, Lh1, Fh1, Jh1]); exact r.c.tz)
            (by (try simp (disch := omega) only [Gh2, Lh2, Fh2, Jh2, Gh1, Lh1, Fh1, Jh1]); exact r.c.cz)
            (by (try simp (disch := omega) only [Gh2, Lh2, Fh2, Jh2, Gh1, Lh1, Fh1, Jh1]); exact r.c.nn))
            (Rd.of (by (try simp (disch := omega) only [Gh2, Lh2, Fh2, Jh2, Gh1, Lh1, Fh1, Jh1]); exact r.d.c)
            (by (try simp (disch := omega) only [Gh2, Lh2, Fh2, Jh2, Gh1, Lh1, Fh1, Jh1]); exact r.d.m)
            (by (try simp (disch := omega) only [Gh2, Lh2, Fh2, Jh2, Gh1, Lh1, Fh1, Jh1]); exact r.d.le)
            (fun k hk => RdK.of (by (try simp (disch := omega) only [Gh2, Lh2, Fh2, Jh2, Gh1, Lh1, Fh1, Jh1]); exact (r.d.K k hk).am)
              (by (try simp (disch := omega) only [Gh2, Lh2, Fh2, Jh2, Gh1, Lh1, Fh1, Jh1]); exact (r.d.K k hk).bd)
              (by (try simp (disch := omega) only [Gh2, Lh2, Fh2, Jh2, Gh1, Lh1, Fh1, Jh1]); exact (r.d.K k hk).zr)
              (by (try simp (disch := omega) only [Gh2, Lh2, Fh2, Jh2, Gh1, Lh1, Fh1, Jh1]); exact (r.d.K k hk).un)
              (by (try simp (disch := omega) only [Gh2, Lh2, Fh2, Jh2, Gh1, Lh1, Fh1, Jh1]); exact (r.d.K k hk).ul)
              (by (try simp (disch := omega) only [Gh2, Lh2, Fh2, Jh2, Gh1, Lh1, Fh1, Jh1]); exact (r.d.K k hk).lo)
              (by (try simp (disch := omega) only [Gh2, Lh2, Fh2, Jh2, Gh1, Lh1, Fh1, Jh1]); exact (r.d.K k hk).lb)
              (by (try simp (disch := omega) only [Gh2, Lh2, Fh2, Jh2, Gh1, Lh1, Fh1, Jh1]); exact (r.d.K k hk).po)))
            (Re.of (by (try simp (disch := omega) only [Gh2, Lh2, Fh2, Jh2, Gh1, Lh1, Fh1, Jh1]); exact r.e.fd)
            (by (try simp (disch := omega) only [Gh2, Lh2, Fh2, Jh2, Gh1, Lh1, Fh1, Jh1]); exact r.e.be)
            (by (try simp (disch := omega) only [Gh2, Lh2, Fh2, Jh2, Gh1, Lh1, Fh1, Jh1]); exact r.e.bb)
            (by (try simp (disch := omega) only [Gh2, Lh2, Fh2, Jh2, Gh1, Lh1, Fh1, Jh1]); exact r.e.z))
            (Rf.of (by (try simp (disch := omega) only [Gh2, Lh2, Fh2, Jh2, Gh1, Lh1, Fh1, Jh1]); exact r.f.lim)
            (by (try simp (disch := omega) only [Gh2, Lh2, Fh2, Jh2, Gh1, Lh1, Fh1, Jh1]); exact r.f.l0)
            (by (try simp (disch := omega) only [Gh2, Lh2, Fh2, Jh2, Gh1, Lh1, Fh1, Jh1]); exact r.f.cl)
            (by (try simp (disch := omega) only [Gh2, Lh2, Fh2, Jh2, Gh1, Lh1, Fh1, Jh1]); exact r.f.no)
            (by
            intro t' ht'
            by_cases e : t' = t.toNatClampNeg
            · subst e
              have q1 := inB_i g1
              simp only [Int32.reduceToInt] at q1
              have q2 : (gi h 150 t.toNatClampNeg).toInt ≤ u.toInt := Int32.le_iff_toInt_le.mp g2
              have q3 : gi h2 149 t.toNatClampNeg = u := by rw [m4]; simp only [upd, if_pos]
              exact RfK.of (by (try simp (disch := omega) only [Gh2, Lh2, Fh2, Jh2, Gh1, Lh1, Fh1, Jh1]); exact k0.ins)
                (by rw [Fh2, c4, q3])
                (by (try simp (disch := omega) only [Gh2, Lh2, Fh2, Jh2, Gh1, Lh1, Fh1, Jh1]); exact k0.bat)
                (by (try simp (disch := omega) only [Gh2, Lh2, Fh2, Jh2, Gh1, Lh1, Fh1, Jh1]); exact k0.tap)
                (by (try simp (disch := omega) only [Gh2, Lh2, Fh2, Jh2, Gh1, Lh1, Fh1, Jh1]); exact k0.stn)
                (by (try simp (disch := omega) only [Gh2, Lh2, Fh2, Jh2, Gh1, Lh1, Fh1, Jh1]); exact k0.sta)
                (by (try simp (disch := omega) only [Gh2, Lh2, Fh2, Jh2, Gh1, Lh1, Fh1, Jh1]); exact k0.am)
                (by (try simp (disch := omega) only [Gh2, Lh2, Fh2, Jh2, Gh1, Lh1, Fh1, Jh1]); exact k0.zr)
                (by (try simp (disch := omega) only [Gh2, Lh2, Fh2, Jh2, Gh1, Lh1, Fh1, Jh1]); exact k0.lo)
                (by (try simp (disch := omega) only [Gh2, Lh2, Fh2, Jh2, Gh1, Lh1, Fh1, Jh1]); exact k0.h0)
                (by rw [q3, Gh2 150 (by omega), Gh1 150]; exact q2)
                (by rw [q3]; omega)
                (by (try simp (disch := omega) only [Gh2, Lh2, Fh2, Jh2, Gh1, Lh1, Fh1, Jh1]); exact k0.hs)
                (by (try simp (disch := omega) only [Gh2, Lh2, Fh2, Jh2, Gh1, Lh1, Fh1, Jh1]); exact k0.lb)
                (by (try simp (disch := omega) only [Gh2, Lh2, Fh2, Jh2, Gh1, Lh1, Fh1, Jh1]); exact k0.bb)
            · have q3 : gi h2 149 t' = gi h 149 t' := by rw [m4, Gh1 149]; simp only [upd, if_neg e]
              exact RfK.of (by (try simp (disch := omega) only [Gh2, Lh2, Fh2, Jh2, Gh1, Lh1, Fh1, Jh1]); exact (r.f.K t' ht').ins)
                (by rw [Fh2, Fh1 _ _ (by omega), q3]; exact (r.f.K t' ht').siz)
                (by (try simp (disch := omega) only [Gh2, Lh2, Fh2, Jh2, Gh1, Lh1, Fh1, Jh1]); exact (r.f.K t' ht').bat)
                (by (try simp (disch := omega) only [Gh2, Lh2, Fh2, Jh2, Gh1, Lh1, Fh1, Jh1]); exact (r.f.K t' ht').tap)
                (by (try simp (disch := omega) only [Gh2, Lh2, Fh2, Jh2, Gh1, Lh1, Fh1, Jh1]); exact (r.f.K t' ht').stn)
                (by (try simp (disch := omega) only [Gh2, Lh2, Fh2, Jh2, Gh1, Lh1, Fh1, Jh1]); exact (r.f.K t' ht').sta)
                (by (try simp (disch := omega) only [Gh2, Lh2, Fh2, Jh2, Gh1, Lh1, Fh1, Jh1]); exact (r.f.K t' ht').am)
                (by (try simp (disch := omega) only [Gh2, Lh2, Fh2, Jh2, Gh1, Lh1, Fh1, Jh1]); exact (r.f.K t' ht').zr)
                (by (try simp (disch := omega) only [Gh2, Lh2, Fh2, Jh2, Gh1, Lh1, Fh1, Jh1]); exact (r.f.K t' ht').lo)
                (by (try simp (disch := omega) only [Gh2, Lh2, Fh2, Jh2, Gh1, Lh1, Fh1, Jh1]); exact (r.f.K t' ht').h0)
                (by rw [q3, Gh2 150 (by omega), Gh1 150]; exact (r.f.K t' ht').hr)
                (by rw [q3]; exact (r.f.K t' ht').r6)
                (by (try simp (disch := omega) only [Gh2, Lh2, Fh2, Jh2, Gh1, Lh1, Fh1, Jh1]); exact (r.f.K t' ht').hs)
                (by (try simp (disch := omega) only [Gh2, Lh2, Fh2, Jh2, Gh1, Lh1, Fh1, Jh1]); exact (r.f.K t' ht').lb)
                (by (try simp (disch := omega) only [Gh2, Lh2, Fh2, Jh2, Gh1, Lh1, Fh1, Jh1]); exact (r.f.K t' ht').bb)))
            (Rg.of (by (try simp (disch := omega) only [Gh2, Lh2, Fh2, Jh2, Gh1, Lh1, Fh1, Jh1]); exact r.g.c)
            (by (try simp (disch := omega) only [Gh2, Lh2, Fh2, Jh2, Gh1, Lh1, Fh1, Jh1]); exact r.g.m)
            (by (try simp (disch := omega) only [Gh2, Lh2, Fh2, Jh2, Gh1, Lh1, Fh1, Jh1]); exact r.g.le)
            (by (try simp (disch := omega) only [Gh2, Lh2, Fh2, Jh2, Gh1, Lh1, Fh1, Jh1]); exact r.g.u)
            (by (try simp (disch := omega) only [Gh2, Lh2, Fh2, Jh2, Gh1, Lh1, Fh1, Jh1]); exact r.g.t)
            (by (try simp (disch := omega) only [Gh2, Lh2, Fh2, Jh2, Gh1, Lh1, Fh1, Jh1]); exact r.g.d)
            (by (try simp (disch := omega) only [Gh2, Lh2, Fh2, Jh2, Gh1, Lh1, Fh1, Jh1]); exact r.g.b)
            (by (try simp (disch := omega) only [Gh2, Lh2, Fh2, Jh2, Gh1, Lh1, Fh1, Jh1]); exact r.g.l)
            (by (try simp (disch := omega) only [Gh2, Lh2, Fh2, Jh2, Gh1, Lh1, Fh1, Jh1]); exact r.g.bb)
            (by (try simp (disch := omega) only [Gh2, Lh2, Fh2, Jh2, Gh1, Lh1, Fh1, Jh1]); exact r.g.lb))
            (Rh.of (by (try simp (disch := omega) only [Gh2, Lh2, Fh2, Jh2, Gh1, Lh1, Fh1, Jh1]); exact r.j.c)
            (by (try simp (disch := omega) only [Gh2, Lh2, Fh2, Jh2, Gh1, Lh1, Fh1, Jh1]); exact r.j.m)
            (by (try simp (disch := omega) only [Gh2, Lh2, Fh2, Jh2, Gh1, Lh1, Fh1, Jh1]); exact r.j.le)
            (by (try simp (disch := omega) only [Gh2, Lh2, Fh2, Jh2, Gh1, Lh1, Fh1, Jh1]); exact r.j.pc)
            (by (try simp (disch := omega) only [Gh2, Lh2, Fh2, Jh2, Gh1, Lh1, Fh1, Jh1]); exact r.j.pm)
            (by (try simp (disch := omega) only [Gh2, Lh2, Fh2, Jh2, Gh1, Lh1, Fh1, Jh1]); exact r.j.pl)
            (by (try simp (disch := omega) only [Gh2, Lh2, Fh2, Jh2, Gh1, Lh1, Fh1, Jh1]); exact r.j.hu)
            (by (try simp (disch := omega) only [Gh2, Lh2, Fh2, Jh2, Gh1, Lh1, Fh1, Jh1]); exact r.j.ti)
            (by (try simp (disch := omega) only [Gh2, Lh2, Fh2, Jh2, Gh1, Lh1, Fh1, Jh1]); exact r.j.du)
            (by (try simp (disch := omega) only [Gh2, Lh2, Fh2, Jh2, Gh1, Lh1, Fh1, Jh1]); exact r.j.pr)
            (by (try simp (disch := omega) only [Gh2, Lh2, Fh2, Jh2, Gh1, Lh1, Fh1, Jh1]); exact r.j.ch)
            (by (try simp (disch := omega) only [Gh2, Lh2, Fh2, Jh2, Gh1, Lh1, Fh1, Jh1]); exact r.j.od)
            (by (try simp (disch := omega) only [Gh2, Lh2, Fh2, Jh2, Gh1, Lh1, Fh1, Jh1]); exact r.j.ok)
            (by (try simp (disch := omega) only [Gh2, Lh2, Fh2, Jh2, Gh1, Lh1, Fh1, Jh1]); exact r.j.tb)
            (by (try simp (disch := omega) only [Gh2, Lh2, Fh2, Jh2, Gh1, Lh1, Fh1, Jh1]); exact r.j.db)))
      · skip
        have c := c_X9_holds r.S t u
        simp only [uHolds, ki, if_pos g0, if_pos g1, if_neg g2] at c
        have m := c_X10_holds r.S t u
        simp only [mHolds, ki, if_pos g0, if_pos g1, if_neg g2] at m
        exact JJ_upd c m ev r
    · skip
      have c := c_X9_holds r.S t u
      simp only [uHolds, ki, if_pos g0, if_neg g1] at c
      have m := c_X10_holds r.S t u
      simp only [mHolds, ki, if_pos g0, if_neg g1] at m
      exact JJ_upd c m ev r
  · skip
    have c := c_X9_holds r.S t u
    simp only [uHolds, if_neg g0] at c
    have m := c_X10_holds r.S t u
    simp only [mHolds, if_neg g0] at m
    exact JJ_upd c m ev r
theorem J_limit {h : HF} {nb nl nr nt nd nj np : Nat} (r : Rel h nb nl nr nt nd nj np) (v : Int32) : JJ mX9_limit mX10_limit [.ref 1, .int v] [.ref 132, .int v] h := by
  have ev : vLim (fI h 1 10) v = vLim (fI h 132 30) v := by rw [r.f.lim]
  by_cases g0 : inB v 0 1000000 = true
  · skip
    have c := c_X9_limit r.S v
    simp only [uLim, if_pos g0] at c
    obtain ⟨h1, eh1⟩ : ∃ zz : HF, zz = sI h 1 10 v := ⟨_, rfl⟩
    replace c := Mc_h eh1 c
    have Sh1 : Sh h1 := by rw [eh1]; (repeat (first | exact r.S | apply Sh.si | apply Sh.sI | apply Sh.sJ | apply Sh.sl))
    have Gh1 : ∀ x, gi h1 x = gi h x := by
      intro x ; rw [eh1]; (try simp (disch := first | assumption | omega) only [gi_si_ne, gi_sI, gi_sJ, gi_sl, gl_sl_ne, gl_si, gl_sI, gl_sJ, fI_si, fI_sl, fI_sJ, fI_sI_ne, fI_sI_k, fJ_si, fJ_sl, fJ_sI, fJ_sJ_ne])
    have Lh1 : ∀ x, gl h1 x = gl h x := by
      intro x ; rw [eh1]; (try simp (disch := first | assumption | omega) only [gi_si_ne, gi_sI, gi_sJ, gi_sl, gl_sl_ne, gl_si, gl_sI, gl_sJ, fI_si, fI_sl, fI_sJ, fI_sI_ne, fI_sI_k, fJ_si, fJ_sl, fJ_sI, fJ_sJ_ne])
    have Fh1 : ∀ x kk, ¬ (x = 1 ∧ kk = 10) → fI h1 x kk = fI h x kk := by
      intro x kk q0; rw [eh1]; first | rfl | (simp (disch := first | assumption | omega) only [fI_si, fI_sl, fI_sJ, fI_sI_o])
    have Jh1 : ∀ x kk, fJ h1 x kk = fJ h x kk := by
      intro x kk ; rw [eh1]; first | rfl | (simp (disch := first | assumption | omega) only [fJ_si, fJ_sl, fJ_sI, fJ_sJ_o])
    have c4 : fI h1 1 10 = v := by
      rw [eh1]; simp (disch := first | omega | ((repeat (first | exact r.S | apply Sh.si | apply Sh.sI | apply Sh.sJ | apply Sh.sl)); done) | decide | exact kF_K ‹_› (by omega) | exact kI_of (shT_B ‹_›).2.2 | exact kI_of (shT_K ‹_›).2.2.1 | exact kI_of (shT_K ‹_›).2.2.2 | exact kFB ‹_› | exact kFM ‹_› | exact kJM ‹_› | exact kFN ‹_› | exact kJN ‹_› | rfl) only [gi_si_ne, gi_sI, gi_sJ, gi_sl, gl_sl_ne, gl_si, gl_sI, gl_sJ, fI_si, fI_sl, fI_sJ, fI_sI_ne, fI_sI_k, fJ_si, fJ_sl, fJ_sI, fJ_sJ_ne, gi_si_eq, gl_sl_eq, fI_sI_eq, fJ_sJ_eq]
    have m := c_X10_limit Sh1 v
    rw [Fh1 132 30 (by omega)] at m
    simp only [mLim, if_pos g0] at m
    obtain ⟨h2, eh2⟩ : ∃ zz : HF, zz = sI h1 132 30 v := ⟨_, rfl⟩
    replace m := Mc_h eh2 m
    have Sh2 : Sh h2 := by rw [eh2]; (repeat (first | exact Sh1 | apply Sh.si | apply Sh.sI | apply Sh.sJ | apply Sh.sl))
    have Gh2 : ∀ x, gi h2 x = gi h1 x := by
      intro x ; rw [eh2]; (try simp (disch := first | assumption | omega) only [gi_si_ne, gi_sI, gi_sJ, gi_sl, gl_sl_ne, gl_si, gl_sI, gl_sJ, fI_si, fI_sl, fI_sJ, fI_sI_ne, fI_sI_k, fJ_si, fJ_sl, fJ_sI, fJ_sJ_ne])
    have Lh2 : ∀ x, gl h2 x = gl h1 x := by
      intro x ; rw [eh2]; (try simp (disch := first | assumption | omega) only [gi_si_ne, gi_sI, gi_sJ, gi_sl, gl_sl_ne, gl_si, gl_sI, gl_sJ, fI_si, fI_sl, fI_sJ, fI_sI_ne, fI_sI_k, fJ_si, fJ_sl, fJ_sI, fJ_sJ_ne])
    have Fh2 : ∀ x kk, ¬ (x = 132 ∧ kk = 30) → fI h2 x kk = fI h1 x kk := by
      intro x kk q0; rw [eh2]; first | rfl | (simp (disch := first | assumption | omega) only [fI_si, fI_sl, fI_sJ, fI_sI_o])
    have Jh2 : ∀ x kk, fJ h2 x kk = fJ h1 x kk := by
      intro x kk ; rw [eh2]; first | rfl | (simp (disch := first | assumption | omega) only [fJ_si, fJ_sl, fJ_sI, fJ_sJ_o])
    have m4 : fI h2 132 30 = v := by
      rw [eh2]; simp (disch := first | omega | ((repeat (first | exact Sh1 | apply Sh.si | apply Sh.sI | apply Sh.sJ | apply Sh.sl)); done) | decide | exact kF_K ‹_› (by omega) | exact kI_of (shT_B ‹_›).2.2 | exact kI_of (shT_K ‹_›).2.2.1 | exact kI_of (shT_K ‹_›).2.2.2 | exact kFB ‹_› | exact kFM ‹_› | exact kJM ‹_› | exact kFN ‹_› | exact kJN ‹_› | rfl) only [gi_si_ne, gi_sI, gi_sJ, gi_sl, gl_sl_ne, gl_si, gl_sI, gl_sJ, fI_si, fI_sl, fI_sJ, fI_sI_ne, fI_sI_k, fJ_si, fJ_sl, fJ_sI, fJ_sJ_ne, gi_si_eq, gl_sl_eq, fI_sI_eq, fJ_sJ_eq]
    have q1 := inB_i g0
    simp only [Int32.reduceToInt] at q1
    exact JJ_upd c m ev (Rel.of (Sh2)
        (Ra.of (by (try simp (disch := omega) only [Gh2, Lh2, Fh2, Jh2, Gh1, Lh1, Fh1, Jh1]); exact r.a.c)
        (by (try simp (disch := omega) only [Gh2, Lh2, Fh2, Jh2, Gh1, Lh1, Fh1, Jh1]); exact r.a.m)
        (by (try simp (disch := omega) only [Gh2, Lh2, Fh2, Jh2, Gh1, Lh1, Fh1, Jh1]); exact r.a.le)
        (by (try simp (disch := omega) only [Gh2, Lh2, Fh2, Jh2, Gh1, Lh1, Fh1, Jh1]); exact r.a.A)
        (by (try simp (disch := omega) only [Gh2, Lh2, Fh2, Jh2, Gh1, Lh1, Fh1, Jh1]); exact r.a.P))
        (Rb.of (by (try simp (disch := omega) only [Gh2, Lh2, Fh2, Jh2, Gh1, Lh1, Fh1, Jh1]); exact r.b.c)
        (by (try simp (disch := omega) only [Gh2, Lh2, Fh2, Jh2, Gh1, Lh1, Fh1, Jh1]); exact r.b.m)
        (by (try simp (disch := omega) only [Gh2, Lh2, Fh2, Jh2, Gh1, Lh1, Fh1, Jh1]); exact r.b.le)
        (by (try simp (disch := omega) only [Gh2, Lh2, Fh2, Jh2, Gh1, Lh1, Fh1, Jh1]); exact r.b.day)
        (by (try simp (disch := omega) only [Gh2, Lh2, Fh2, Jh2, Gh1, Lh1, Fh1, Jh1]); exact r.b.B)
        (by (try simp (disch := omega) only [Gh2, Lh2, Fh2, Jh2, Gh1, Lh1, Fh1, Jh1]); exact r.b.S)
        (by (try simp (disch := omega) only [Gh2, Lh2, Fh2, Jh2, Gh1, Lh1, Fh1, Jh1]); exact r.b.L)
        (by (try simp (disch := omega) only [Gh2, Lh2, Fh2, Jh2, Gh1, Lh1, Fh1, Jh1]); exact r.b.P)
        (by (try simp (disch := omega) only [Gh2, Lh2, Fh2, Jh2, Gh1, Lh1, Fh1, Jh1]); exact r.b.lb))
        (Rc.of (by (try simp (disch := omega) only [Gh2, Lh2, Fh2, Jh2, Gh1, Lh1, Fh1, Jh1]); exact r.c.c)
        (by (try simp (disch := omega) only [Gh2, Lh2, Fh2, Jh2, Gh1, Lh1, Fh1, Jh1]); exact r.c.m)
        (by (try simp (disch := omega) only [Gh2, Lh2, Fh2, Jh2, Gh1, Lh1, Fh1, Jh1]); exact r.c.le)
        (by (try simp (disch := omega) only [Gh2, Lh2, Fh2, Jh2, Gh1, Lh1, Fh1, Jh1]); exact r.c.E)
        (by (try simp (disch := omega) only [Gh2, Lh2, Fh2, Jh2, Gh1, Lh1, Fh1, Jh1]); exact r.c.S)
        (by (try simp (disch := omega) only [Gh2, Lh2, Fh2, Jh2, Gh1, Lh1, Fh1, Jh1]); exact r.c.T)
        (by (try simp (disch := omega) only [Gh2, Lh2, Fh2, Jh2, Gh1, Lh1, Fh1, Jh1]); exact r.c.C)
        (by (try simp (disch := omega) only [Gh2, Lh2, Fh2, Jh2, Gh1, Lh1, Fh1, Jh1]); exact r.c.N)
        (by (try simp (disch := omega) only [Gh2, Lh2, Fh2, Jh2, Gh1, Lh1, Fh1, Jh1]); exact r.c.ok)
        (by (try simp (disch := omega) only [Gh2, Lh2, Fh2, Jh2, Gh1, Lh1, Fh1, Jh1]); exact r.c.tm)
        (by (try simp (disch := omega) only [Gh2, Lh2, Fh2, Jh2, Gh1, Lh1, Fh1, Jh1]); exact r.c.tz)
        (by (try simp (disch := omega) only [Gh2, Lh2, Fh2, Jh2, Gh1, Lh1, Fh1, Jh1]); exact r.c.cz)
        (by (try simp (disch := omega) only [Gh2, Lh2, Fh2, Jh2, Gh1, Lh1, Fh1, Jh1]); exact r.c.nn))
        (Rd.of (by (try simp (disch := omega) only [Gh2, Lh2, Fh2, Jh2, Gh1, Lh1, Fh1, Jh1]); exact r.d.c)
        (by (try simp (disch := omega) only [Gh2, Lh2, Fh2, Jh2, Gh1, Lh1, Fh1, Jh1]); exact r.d.m)
        (by (try simp (disch := omega) only [Gh2, Lh2, Fh2, Jh2, Gh1, Lh1, Fh1, Jh1]); exact r.d.le)
        (fun k hk => RdK.of (by (try simp (disch := omega) only [Gh2, Lh2, Fh2, Jh2, Gh1, Lh1, Fh1, Jh1]); exact (r.d.K k hk).am)
          (by (try simp (disch := omega) only [Gh2, Lh2, Fh2, Jh2, Gh1, Lh1, Fh1, Jh1]); exact (r.d.K k hk).bd)
          (by (try simp (disch := omega) only [Gh2, Lh2, Fh2, Jh2, Gh1, Lh1, Fh1, Jh1]); exact (r.d.K k hk).zr)
          (by (try simp (disch := omega) only [Gh2, Lh2, Fh2, Jh2, Gh1, Lh1, Fh1, Jh1]); exact (r.d.K k hk).un)
          (by (try simp (disch := omega) only [Gh2, Lh2, Fh2, Jh2, Gh1, Lh1, Fh1, Jh1]); exact (r.d.K k hk).ul)
          (by (try simp (disch := omega) only [Gh2, Lh2, Fh2, Jh2, Gh1, Lh1, Fh1, Jh1]); exact (r.d.K k hk).lo)
          (by (try simp (disch := omega) only [Gh2, Lh2, Fh2, Jh2, Gh1, Lh1, Fh1, Jh1]); exact (r.d.K k hk).lb)
          (by (try simp (disch := omega) only [Gh2, Lh2, Fh2, Jh2, Gh1, Lh1, Fh1, Jh1]); exact (r.d.K k hk).po)))
        (Re.of (by (try simp (disch := omega) only [Gh2, Lh2, Fh2, Jh2, Gh1, Lh1, Fh1, Jh1]); exact r.e.fd)
        (by (try simp (disch := omega) only [Gh2, Lh2, Fh2, Jh2, Gh1, Lh1, Fh1, Jh1]); exact r.e.be)
        (by (try simp (disch := omega) only [Gh2, Lh2, Fh2, Jh2, Gh1, Lh1, Fh1, Jh1]); exact r.e.bb)
        (by (try simp (disch := omega) only [Gh2, Lh2, Fh2, Jh2, Gh1, Lh1, Fh1, Jh1]); exact r.e.z))
        (Rf.of (by rw [Fh2 _ _ (by omega), c4, m4])
        (by rw [m4]; omega)
        (by (try simp (disch := omega) only [Gh2, Lh2, Fh2, Jh2, Gh1, Lh1, Fh1, Jh1]); exact r.f.cl)
        (by (try simp (disch := omega) only [Gh2, Lh2, Fh2, Jh2, Gh1, Lh1, Fh1, Jh1]); exact r.f.no)
        (fun t ht => RfK.of (by (try simp (disch := omega) only [Gh2, Lh2, Fh2, Jh2, Gh1, Lh1, Fh1, Jh1]); exact (r.f.K t ht).ins)
          (by (try simp (disch := omega) only [Gh2, Lh2, Fh2, Jh2, Gh1, Lh1, Fh1, Jh1]); exact (r.f.K t ht).siz)
          (by (try simp (disch := omega) only [Gh2, Lh2, Fh2, Jh2, Gh1, Lh1, Fh1, Jh1]); exact (r.f.K t ht).bat)
          (by (try simp (disch := omega) only [Gh2, Lh2, Fh2, Jh2, Gh1, Lh1, Fh1, Jh1]); exact (r.f.K t ht).tap)
          (by (try simp (disch := omega) only [Gh2, Lh2, Fh2, Jh2, Gh1, Lh1, Fh1, Jh1]); exact (r.f.K t ht).stn)
          (by (try simp (disch := omega) only [Gh2, Lh2, Fh2, Jh2, Gh1, Lh1, Fh1, Jh1]); exact (r.f.K t ht).sta)
          (by (try simp (disch := omega) only [Gh2, Lh2, Fh2, Jh2, Gh1, Lh1, Fh1, Jh1]); exact (r.f.K t ht).am)
          (by (try simp (disch := omega) only [Gh2, Lh2, Fh2, Jh2, Gh1, Lh1, Fh1, Jh1]); exact (r.f.K t ht).zr)
          (by (try simp (disch := omega) only [Gh2, Lh2, Fh2, Jh2, Gh1, Lh1, Fh1, Jh1]); exact (r.f.K t ht).lo)
          (by (try simp (disch := omega) only [Gh2, Lh2, Fh2, Jh2, Gh1, Lh1, Fh1, Jh1]); exact (r.f.K t ht).h0)
          (by (try simp (disch := omega) only [Gh2, Lh2, Fh2, Jh2, Gh1, Lh1, Fh1, Jh1]); exact (r.f.K t ht).hr)
          (by (try simp (disch := omega) only [Gh2, Lh2, Fh2, Jh2, Gh1, Lh1, Fh1, Jh1]); exact (r.f.K t ht).r6)
          (by (try simp (disch := omega) only [Gh2, Lh2, Fh2, Jh2, Gh1, Lh1, Fh1, Jh1]); exact (r.f.K t ht).hs)
          (by (try simp (disch := omega) only [Gh2, Lh2, Fh2, Jh2, Gh1, Lh1, Fh1, Jh1]); exact (r.f.K t ht).lb)
          (by (try simp (disch := omega) only [Gh2, Lh2, Fh2, Jh2, Gh1, Lh1, Fh1, Jh1]); exact (r.f.K t ht).bb)))
        (Rg.of (by (try simp (disch := omega) only [Gh2, Lh2, Fh2, Jh2, Gh1, Lh1, Fh1, Jh1]); exact r.g.c)
        (by (try simp (disch := omega) only [Gh2, Lh2, Fh2, Jh2, Gh1, Lh1, Fh1, Jh1]); exact r.g.m)
        (by (try simp (disch := omega) only [Gh2, Lh2, Fh2, Jh2, Gh1, Lh1, Fh1, Jh1]); exact r.g.le)
        (by (try simp (disch := omega) only [Gh2, Lh2, Fh2, Jh2, Gh1, Lh1, Fh1, Jh1]); exact r.g.u)
        (by (try simp (disch := omega) only [Gh2, Lh2, Fh2, Jh2, Gh1, Lh1, Fh1, Jh1]); exact r.g.t)
        (by (try simp (disch := omega) only [Gh2, Lh2, Fh2, Jh2, Gh1, Lh1, Fh1, Jh1]); exact r.g.d)
        (by (try simp (disch := omega) only [Gh2, Lh2, Fh2, Jh2, Gh1, Lh1, Fh1, Jh1]); exact r.g.b)
        (by (try simp (disch := omega) only [Gh2, Lh2, Fh2, Jh2, Gh1, Lh1, Fh1, Jh1]); exact r.g.l)
        (by (try simp (disch := omega) only [Gh2, Lh2, Fh2, Jh2, Gh1, Lh1, Fh1, Jh1]); exact r.g.bb)
        (by (try simp (disch := omega) only [Gh2, Lh2, Fh2, Jh2, Gh1, Lh1, Fh1, Jh1]); exact r.g.lb))
        (Rh.of (by (try simp (disch := omega) only [Gh2, Lh2, Fh2, Jh2, Gh1, Lh1, Fh1, Jh1]); exact r.j.c)
        (by (try simp (disch := omega) only [Gh2, Lh2, Fh2, Jh2, Gh1, Lh1, Fh1, Jh1]); exact r.j.m)
        (by (try simp (disch := omega) only [Gh2, Lh2, Fh2, Jh2, Gh1, Lh1, Fh1, Jh1]); exact r.j.le)
        (by (try simp (disch := omega) only [Gh2, Lh2, Fh2, Jh2, Gh1, Lh1, Fh1, Jh1]); exact r.j.pc)
        (by (try simp (disch := omega) only [Gh2, Lh2, Fh2, Jh2, Gh1, Lh1, Fh1, Jh1]); exact r.j.pm)
        (by (try simp (disch := omega) only [Gh2, Lh2, Fh2, Jh2, Gh1, Lh1, Fh1, Jh1]); exact r.j.pl)
        (by (try simp (disch := omega) only [Gh2, Lh2, Fh2, Jh2, Gh1, Lh1, Fh1, Jh1]); exact r.j.hu)
        (by (try simp (disch := omega) only [Gh2, Lh2, Fh2, Jh2, Gh1, Lh1, Fh1, Jh1]); exact r.j.ti)
        (by (try simp (disch := omega) only [Gh2, Lh2, Fh2, Jh2, Gh1, Lh1, Fh1, Jh1]); exact r.j.du)
        (by (try simp (disch := omega) only [Gh2, Lh2, Fh2, Jh2, Gh1, Lh1, Fh1, Jh1]); exact r.j.pr)
        (by (try simp (disch := omega) only [Gh2, Lh2, Fh2, Jh2, Gh1, Lh1, Fh1, Jh1]); exact r.j.ch)
        (by (try simp (disch := omega) only [Gh2, Lh2, Fh2, Jh2, Gh1, Lh1, Fh1, Jh1]); exact r.j.od)
        (by (try simp (disch := omega) only [Gh2, Lh2, Fh2, Jh2, Gh1, Lh1, Fh1, Jh1]); exact r.j.ok)
        (by (try simp (disch := omega) only [Gh2, Lh2, Fh2, Jh2, Gh1, Lh1, Fh1, Jh1]); exact r.j.tb)
        (by (try simp (disch := omega) only [Gh2, Lh2, Fh2, Jh2, Gh1, Lh1, Fh1, Jh1]); exact r.j.db)))
  · skip
    have c := c_X9_limit r.S v
    simp only [uLim, if_neg g0] at c
    have m := c_X10_limit r.S v
    simp only [mLim, if_neg g0] at m
    exact JJ_upd c m ev r
theorem J_clean {h : HF} {nb nl nr nt nd nj np : Nat} (r : Rel h nb nl nr nt nd nj np) (t : Int32) : JJ mX9_clean mX10_clean [.ref 1, .int t] [.ref 132, .int t] h := by
  have ev : vClean (fun t => fI h (112 + 4 * t) 2) (fun t => fI h (112 + 4 * t) 6) t = vClean (gi h 150) (gi h 151) t := by
    unfold vClean
    refine if_same (fun q => ?_)
    have ht := inB_cl (n := 4) (by decide) q
    simp only [(r.f.K _ ht).ins, (r.f.K _ ht).stn]
  by_cases g0 : inB t 0 4 = true
  · skip
    have ht := inB_cl (n := 4) (by decide) g0
    have k0 := r.f.K _ ht
    have ki := k0.ins
    have ks := k0.stn
    by_cases g1 : gi h 150 t.toNatClampNeg ≤ 0
    · skip
      have c := c_X9_clean r.S t
      simp only [uClean, ki, if_pos g0, if_pos g1] at c
      by_cases g2 : gi h 151 t.toNatClampNeg = 0
      · simp only [ks, if_pos g2] at c
        have m := c_X10_clean r.S t
        simp only [mClean, if_pos g0, if_pos g1, if_pos g2] at m
        obtain ⟨h2, eh2⟩ : ∃ zz : HF, zz = si (sI h 132 37 (fI h 132 37 + 0)) 151 (upd (gi h 151) t.toNatClampNeg 0) := ⟨_, rfl⟩
        replace m := Mc_h eh2 m
        have Sh2 : Sh h2 := by rw [eh2]; (repeat (first | exact r.S | apply Sh.si | apply Sh.sI | apply Sh.sJ | apply Sh.sl))
        have Gh2 : ∀ x, x ≠ 151 → gi h2 x = gi h x := by
          intro x q0; rw [eh2]; (try simp (disch := first | assumption | omega) only [gi_si_ne, gi_sI, gi_sJ, gi_sl, gl_sl_ne, gl_si, gl_sI, gl_sJ, fI_si, fI_sl, fI_sJ, fI_sI_ne, fI_sI_k, fJ_si, fJ_sl, fJ_sI, fJ_sJ_ne])
        have Lh2 : ∀ x, gl h2 x = gl h x := by
          intro x ; rw [eh2]; (try simp (disch := first | assumption | omega) only [gi_si_ne, gi_sI, gi_sJ, gi_sl, gl_sl_ne, gl_si, gl_sI, gl_sJ, fI_si, fI_sl, fI_sJ, fI_sI_ne, fI_sI_k, fJ_si, fJ_sl, fJ_sI, fJ_sJ_ne])
        have Fh2 : ∀ x kk, ¬ (x = 132 ∧ kk = 37) → fI h2 x kk = fI h x kk := by
          intro x kk q0; rw [eh2]; first | rfl | (simp (disch := first | assumption | omega) only [fI_si, fI_sl, fI_sJ, fI_sI_o])
        have Jh2 : ∀ x kk, fJ h2 x kk = fJ h x kk := by
          intro x kk ; rw [eh2]; first | rfl | (simp (disch := first | assumption | omega) only [fJ_si, fJ_sl, fJ_sI, fJ_sJ_o])
        have m4 : gi h2 151 = upd (gi h 151) t.toNatClampNeg 0 := by
          rw [eh2]; simp (disch := first | omega | ((repeat (first | exact r.S | apply Sh.si | apply Sh.sI | apply Sh.sJ | apply Sh.sl)); done) | decide | exact kF_K ‹_› (by omega) | exact kI_of (shT_B ‹_›).2.2 | exact kI_of (shT_K ‹_›).2.2.1 | exact kI_of (shT_K ‹_›).2.2.2 | exact kFB ‹_› | exact kFM ‹_› | exact kJM ‹_› | exact kFN ‹_› | exact kJN ‹_› | rfl) only [gi_si_ne, gi_sI, gi_sJ, gi_sl, gl_sl_ne, gl_si, gl_sI, gl_sJ, fI_si, fI_sl, fI_sJ, fI_sI_ne, fI_sI_k, fJ_si, fJ_sl, fJ_sI, fJ_sJ_ne, gi_si_eq, gl_sl_eq, fI_sI_eq, fJ_sJ_eq]
        have m5 : gi h2 151 = gi h 151 := by
          rw [m4]; funext j; simp only [upd]; split
          · rename_i e; rw [e, g2]
          · rfl
        have m6 : fI h2 132 37 = fI h 132 37 := by
          rw [eh2, fI_si, fI_sI_eq r.S (by decide) (by decide) rfl, Int32.add_zero]
        exact JJ_upd c m ev (Rel.of (Sh2)
            (Ra.of (by (try simp (disch := omega) only [Gh2, Lh2, Fh2, Jh2, m5, m6]); exact r.a.c)
            (by (try simp (disch := omega) only [Gh2, Lh2, Fh2, Jh2, m5, m6]); exact r.a.m)
            (by (try simp (disch := omega) only [Gh2, Lh2, Fh2, Jh2, m5, m6]); exact r.a.le)
            (by (try simp (disch := omega) only [Gh2, Lh2, Fh2, Jh2, m5, m6]); exact r.a.A)
            (by (try simp (disch := omega) only [Gh2, Lh2, Fh2, Jh2, m5, m6]); exact r.a.P))
            (Rb.of (by (try simp (disch := omega) only [Gh2, Lh2, Fh2, Jh2, m5, m6]); exact r.b.c)
            (by (try simp (disch := omega) only [Gh2, Lh2, Fh2, Jh2, m5, m6]); exact r.b.m)
            (by (try simp (disch := omega) only [Gh2, Lh2, Fh2, Jh2, m5, m6]); exact r.b.le)
            (by (try simp (disch := omega) only [Gh2, Lh2, Fh2, Jh2, m5, m6]); exact r.b.day)
            (by (try simp (disch := omega) only [Gh2, Lh2, Fh2, Jh2, m5, m6]); exact r.b.B)
            (by (try simp (disch := omega) only [Gh2, Lh2, Fh2, Jh2, m5, m6]); exact r.b.S)
            (by (try simp (disch := omega) only [Gh2, Lh2, Fh2, Jh2, m5, m6]); exact r.b.L)
            (by (try simp (disch := omega) only [Gh2, Lh2, Fh2, Jh2, m5, m6]); exact r.b.P)
            (by (try simp (disch := omega) only [Gh2, Lh2, Fh2, Jh2, m5, m6]); exact r.b.lb))
            (Rc.of (by (try simp (disch := omega) only [Gh2, Lh2, Fh2, Jh2, m5, m6]); exact r.c.c)
            (by (try simp (disch := omega) only [Gh2, Lh2, Fh2, Jh2, m5, m6]); exact r.c.m)
            (by (try simp (disch := omega) only [Gh2, Lh2, Fh2, Jh2, m5, m6]); exact r.c.le)
            (by (try simp (disch := omega) only [Gh2, Lh2, Fh2, Jh2, m5, m6]); exact r.c.E)
            (by (try simp (disch := omega) only [Gh2, Lh2, Fh2, Jh2, m5, m6]); exact r.c.S)
            (by (try simp (disch := omega) only [Gh2, Lh2, Fh2, Jh2, m5, m6]); exact r.c.T)
            (by (try simp (disch := omega) only [Gh2, Lh2, Fh2, Jh2, m5, m6]); exact r.c.C)
            (by (try simp (disch := omega) only [Gh2, Lh2, Fh2, Jh2, m5, m6]); exact r.c.N)
            (by (try simp (disch := omega) only [Gh2, Lh2, Fh2, Jh2, m5, m6]); exact r.c.ok)
            (by (try simp (disch := omega) only [Gh2, Lh2, Fh2, Jh2, m5, m6]); exact r.c.tm)
            (by (try simp (disch := omega) only [Gh2, Lh2, Fh2, Jh2, m5, m6]); exact r.c.tz)
            (by (try simp (disch := omega) only [Gh2, Lh2, Fh2, Jh2, m5, m6]); exact r.c.cz)
            (by (try simp (disch := omega) only [Gh2, Lh2, Fh2, Jh2, m5, m6]); exact r.c.nn))
            (Rd.of (by (try simp (disch := omega) only [Gh2, Lh2, Fh2, Jh2, m5, m6]); exact r.d.c)
            (by (try simp (disch := omega) only [Gh2, Lh2, Fh2, Jh2, m5, m6]); exact r.d.m)
            (by (try simp (disch := omega) only [Gh2, Lh2, Fh2, Jh2, m5, m6]); exact r.d.le)
            (fun k hk => RdK.of (by (try simp (disch := omega) only [Gh2, Lh2, Fh2, Jh2, m5, m6]); exact (r.d.K k hk).am)
              (by (try simp (disch := omega) only [Gh2, Lh2, Fh2, Jh2, m5, m6]); exact (r.d.K k hk).bd)
              (by (try simp (disch := omega) only [Gh2, Lh2, Fh2, Jh2, m5, m6]); exact (r.d.K k hk).zr)
              (by (try simp (disch := omega) only [Gh2, Lh2, Fh2, Jh2, m5, m6]); exact (r.d.K k hk).un)
              (by (try simp (disch := omega) only [Gh2, Lh2, Fh2, Jh2, m5, m6]); exact (r.d.K k hk).ul)
              (by (try simp (disch := omega) only [Gh2, Lh2, Fh2, Jh2, m5, m6]); exact (r.d.K k hk).lo)
              (by (try simp (disch := omega) only [Gh2, Lh2, Fh2, Jh2, m5, m6]); exact (r.d.K k hk).lb)
              (by (try simp (disch := omega) only [Gh2, Lh2, Fh2, Jh2, m5, m6]); exact (r.d.K k hk).po)))
            (Re.of (by (try simp (disch := omega) only [Gh2, Lh2, Fh2, Jh2, m5, m6]); exact r.e.fd)
            (by (try simp (disch := omega) only [Gh2, Lh2, Fh2, Jh2, m5, m6]); exact r.e.be)
            (by (try simp (disch := omega) only [Gh2, Lh2, Fh2, Jh2, m5, m6]); exact r.e.bb)
            (by (try simp (disch := omega) only [Gh2, Lh2, Fh2, Jh2, m5, m6]); exact r.e.z))
            (Rf.of (by (try simp (disch := omega) only [Gh2, Lh2, Fh2, Jh2, m5, m6]); exact r.f.lim)
            (by (try simp (disch := omega) only [Gh2, Lh2, Fh2, Jh2, m5, m6]); exact r.f.l0)
            (by (try simp (disch := omega) only [Gh2, Lh2, Fh2, Jh2, m5, m6]); exact r.f.cl)
            (by (try simp (disch := omega) only [Gh2, Lh2, Fh2, Jh2, m5, m6]); exact r.f.no)
            (fun t ht => RfK.of (by (try simp (disch := omega) only [Gh2, Lh2, Fh2, Jh2, m5, m6]); exact (r.f.K t ht).ins)
              (by (try simp (disch := omega) only [Gh2, Lh2, Fh2, Jh2, m5, m6]); exact (r.f.K t ht).siz)
              (by (try simp (disch := omega) only [Gh2, Lh2, Fh2, Jh2, m5, m6]); exact (r.f.K t ht).bat)
              (by (try simp (disch := omega) only [Gh2, Lh2, Fh2, Jh2, m5, m6]); exact (r.f.K t ht).tap)
              (by (try simp (disch := omega) only [Gh2, Lh2, Fh2, Jh2, m5, m6]); exact (r.f.K t ht).stn)
              (by (try simp (disch := omega) only [Gh2, Lh2, Fh2, Jh2, m5, m6]); exact (r.f.K t ht).sta)
              (by (try simp (disch := omega) only [Gh2, Lh2, Fh2, Jh2, m5, m6]); exact (r.f.K t ht).am)
              (by (try simp (disch := omega) only [Gh2, Lh2, Fh2, Jh2, m5, m6]); exact (r.f.K t ht).zr)
              (by (try simp (disch := omega) only [Gh2, Lh2, Fh2, Jh2, m5, m6]); exact (r.f.K t ht).lo)
              (by (try simp (disch := omega) only [Gh2, Lh2, Fh2, Jh2, m5, m6]); exact (r.f.K t ht).h0)
              (by (try simp (disch := omega) only [Gh2, Lh2, Fh2, Jh2, m5, m6]); exact (r.f.K t ht).hr)
              (by (try simp (disch := omega) only [Gh2, Lh2, Fh2, Jh2, m5, m6]); exact (r.f.K t ht).r6)
              (by (try simp (disch := omega) only [Gh2, Lh2, Fh2, Jh2, m5, m6]); exact (r.f.K t ht).hs)
              (by (try simp (disch := omega) only [Gh2, Lh2, Fh2, Jh2, m5, m6]); exact (r.f.K t ht).lb)
              (by (try simp (disch := omega) only [Gh2, Lh2, Fh2, Jh2, m5, m6]); exact (r.f.K t ht).bb)))
            (Rg.of (by (try simp (disch := omega) only [Gh2, Lh2, Fh2, Jh2, m5, m6]); exact r.g.c)
            (by (try simp (disch := omega) only [Gh2, Lh2, Fh2, Jh2, m5, m6]); exact r.g.m)
            (by (try simp (disch := omega) only [Gh2, Lh2, Fh2, Jh2, m5, m6]); exact r.g.le)
            (by (try simp (disch := omega) only [Gh2, Lh2, Fh2, Jh2, m5, m6]); exact r.g.u)
            (by (try simp (disch := omega) only [Gh2, Lh2, Fh2, Jh2, m5, m6]); exact r.g.t)
            (by (try simp (disch := omega) only [Gh2, Lh2, Fh2, Jh2, m5, m6]); exact r.g.d)
            (by (try simp (disch := omega) only [Gh2, Lh2, Fh2, Jh2, m5, m6]); exact r.g.b)
            (by (try simp (disch := omega) only [Gh2, Lh2, Fh2, Jh2, m5, m6]); exact r.g.l)
            (by (try simp (disch := omega) only [Gh2, Lh2, Fh2, Jh2, m5, m6]); exact r.g.bb)
            (by (try simp (disch := omega) only [Gh2, Lh2, Fh2, Jh2, m5, m6]); exact r.g.lb))
            (Rh.of (by (try simp (disch := omega) only [Gh2, Lh2, Fh2, Jh2, m5, m6]); exact r.j.c)
            (by (try simp (disch := omega) only [Gh2, Lh2, Fh2, Jh2, m5, m6]); exact r.j.m)
            (by (try simp (disch := omega) only [Gh2, Lh2, Fh2, Jh2, m5, m6]); exact r.j.le)
            (by (try simp (disch := omega) only [Gh2, Lh2, Fh2, Jh2, m5, m6]); exact r.j.pc)
            (by (try simp (disch := omega) only [Gh2, Lh2, Fh2, Jh2, m5, m6]); exact r.j.pm)
            (by (try simp (disch := omega) only [Gh2, Lh2, Fh2, Jh2, m5, m6]); exact r.j.pl)
            (by (try simp (disch := omega) only [Gh2, Lh2, Fh2, Jh2, m5, m6]); exact r.j.hu)
            (by (try simp (disch := omega) only [Gh2, Lh2, Fh2, Jh2, m5, m6]); exact r.j.ti)
            (by (try simp (disch := omega) only [Gh2, Lh2, Fh2, Jh2, m5, m6]); exact r.j.du)
            (by (try simp (disch := omega) only [Gh2, Lh2, Fh2, Jh2, m5, m6]); exact r.j.pr)
            (by (try simp (disch := omega) only [Gh2, Lh2, Fh2, Jh2, m5, m6]); exact r.j.ch)
            (by (try simp (disch := omega) only [Gh2, Lh2, Fh2, Jh2, m5, m6]); exact r.j.od)
            (by (try simp (disch := omega) only [Gh2, Lh2, Fh2, Jh2, m5, m6]); exact r.j.ok)
            (by (try simp (disch := omega) only [Gh2, Lh2, Fh2, Jh2, m5, m6]); exact r.j.tb)
            (by (try simp (disch := omega) only [Gh2, Lh2, Fh2, Jh2, m5, m6]); exact r.j.db)))
      · simp only [ks, if_neg g2] at c
        obtain ⟨h1, eh1⟩ : ∃ zz : HF, zz = sI (sI h (112 + 4 * t.toNatClampNeg) 6 0) 1 11 (fI h 1 11 + 1) := ⟨_, rfl⟩
        replace c := Mc_h eh1 c
        have Sh1 : Sh h1 := by rw [eh1]; (repeat (first | exact r.S | apply Sh.si | apply Sh.sI | apply Sh.sJ | apply Sh.sl))
        have Gh1 : ∀ x, gi h1 x = gi h x := by
          intro x ; rw [eh1]; (try simp (disch := first | assumption | omega) only [gi_si_ne, gi_sI, gi_sJ, gi_sl, gl_sl_ne, gl_si, gl_sI, gl_sJ, fI_si, fI_sl, fI_sJ, fI_sI_ne, fI_sI_k, fJ_si, fJ_sl, fJ_sI, fJ_sJ_ne])
        have Lh1 : ∀ x, gl h1 x = gl h x := by
          intro x ; rw [eh1]; (try simp (disch := first | assumption | omega) only [gi_si_ne, gi_sI, gi_sJ, gi_sl, gl_sl_ne, gl_si, gl_sI, gl_sJ, fI_si, fI_sl, fI_sJ, fI_sI_ne, fI_sI_k, fJ_si, fJ_sl, fJ_sI, fJ_sJ_ne])
        have Fh1 : ∀ x kk, ¬ (x = 112 + 4 * t.toNatClampNeg ∧ kk = 6) → ¬ (x = 1 ∧ kk = 11) → fI h1 x kk = fI h x kk := by
          intro x kk q0 q1; rw [eh1]; first | rfl | (simp (disch := first | assumption | omega) only [fI_si, fI_sl, fI_sJ, fI_sI_o])
        have Jh1 : ∀ x kk, fJ h1 x kk = fJ h x kk := by
          intro x kk ; rw [eh1]; first | rfl | (simp (disch := first | assumption | omega) only [fJ_si, fJ_sl, fJ_sI, fJ_sJ_o])
        have c4 : fI h1 (112 + 4 * t.toNatClampNeg) 6 = 0 := by
          rw [eh1]; simp (disch := first | omega | ((repeat (first | exact r.S | apply Sh.si | apply Sh.sI | apply Sh.sJ | apply Sh.sl)); done) | decide | exact kF_K ‹_› (by omega) | exact kI_of (shT_B ‹_›).2.2 | exact kI_of (shT_K ‹_›).2.2.1 | exact kI_of (shT_K ‹_›).2.2.2 | exact kFB ‹_› | exact kFM ‹_› | exact kJM ‹_› | exact kFN ‹_› | exact kJN ‹_› | rfl) only [gi_si_ne, gi_sI, gi_sJ, gi_sl, gl_sl_ne, gl_si, gl_sI, gl_sJ, fI_si, fI_sl, fI_sJ, fI_sI_ne, fI_sI_k, fJ_si, fJ_sl, fJ_sI, fJ_sJ_ne, gi_si_eq, gl_sl_eq, fI_sI_eq, fJ_sJ_eq]
        have c5 : fI h1 1 11 = fI h 1 11 + 1 := by
          rw [eh1]; simp (disch := first | omega | ((repeat (first | exact r.S | apply Sh.si | apply Sh.sI | apply Sh.sJ | apply Sh.sl)); done) | decide | exact kF_K ‹_› (by omega) | exact kI_of (shT_B ‹_›).2.2 | exact kI_of (shT_K ‹_›).2.2.1 | exact kI_of (shT_K ‹_›).2.2.2 | exact kFB ‹_› | exact kFM ‹_› | exact kJM ‹_› | exact kFN ‹_› | exact kJN ‹_› | rfl) only [gi_si_ne, gi_sI, gi_sJ, gi_sl, gl_sl_ne, gl_si, gl_sI, gl_sJ, fI_si, fI_sl, fI_sJ, fI_sI_ne, fI_sI_k, fJ_si, fJ_sl, fJ_sI, fJ_sJ_ne, gi_si_eq, gl_sl_eq, fI_sI_eq, fJ_sJ_eq]
        have m := c_X10_clean Sh1 t
        rw [Gh1 150, Gh1 151] at m
        have g3 : gi h1 150 t.toNatClampNeg ≤ 0 := by rw [Gh1 150]; exact g1
        have g4 : ¬ gi h1 151 t.toNatClampNeg = 0 := by rw [Gh1 151]; exact g2
        simp only [mClean, if_pos g0, if_pos g3, if_neg g4] at m
        obtain ⟨h2, eh2⟩ : ∃ zz : HF, zz = si (sI h1 132 37 (fI h1 132 37 + 1)) 151 (upd (gi h1 151) t.toNatClampNeg 0) := ⟨_, rfl⟩
        replace m := Mc_h eh2 m
        have Sh2 : Sh h2 := by rw [eh2]; (repeat (first | exact Sh1 | apply Sh.si | apply Sh.sI | apply Sh.sJ | apply Sh.sl))
        have Gh2 : ∀ x, x ≠ 151 → gi h2 x = gi h1 x := by
          intro x q0; rw [eh2]; (try simp (disch := first | assumption | omega) only [gi_si_ne, gi_sI, gi_sJ, gi_sl, gl_sl_ne, gl_si, gl_sI, gl_sJ, fI_si, fI_sl, fI_sJ, fI_sI_ne, fI_sI_k, fJ_si, fJ_sl, fJ_sI, fJ_sJ_ne])
        have Lh2 : ∀ x, gl h2 x = gl h1 x := by
          intro x ; rw [eh2]; (try simp (disch := first | assumption | omega) only [gi_si_ne, gi_sI, gi_sJ, gi_sl, gl_sl_ne, gl_si, gl_sI, gl_sJ, fI_si, fI_sl, fI_sJ, fI_sI_ne, fI_sI_k, fJ_si, fJ_sl, fJ_sI, fJ_sJ_ne])
        have Fh2 : ∀ x kk, ¬ (x = 132 ∧ kk = 37) → fI h2 x kk = fI h1 x kk := by
          intro x kk q0; rw [eh2]; first | rfl | (simp (disch := first | assumption | omega) only [fI_si, fI_sl, fI_sJ, fI_sI_o])
        have Jh2 : ∀ x kk, fJ h2 x kk = fJ h1 x kk := by
          intro x kk ; rw [eh2]; first | rfl | (simp (disch := first | assumption | omega) only [fJ_si, fJ_sl, fJ_sI, fJ_sJ_o])
        have m4 : gi h2 151 = upd (gi h1 151) t.toNatClampNeg 0 := by
          rw [eh2]; simp (disch := first | omega | ((repeat (first | exact Sh1 | apply Sh.si | apply Sh.sI | apply Sh.sJ | apply Sh.sl)); done) | decide | exact kF_K ‹_› (by omega) | exact kI_of (shT_B ‹_›).2.2 | exact kI_of (shT_K ‹_›).2.2.1 | exact kI_of (shT_K ‹_›).2.2.2 | exact kFB ‹_› | exact kFM ‹_› | exact kJM ‹_› | exact kFN ‹_› | exact kJN ‹_› | rfl) only [gi_si_ne, gi_sI, gi_sJ, gi_sl, gl_sl_ne, gl_si, gl_sI, gl_sJ, fI_si, fI_sl, fI_sJ, fI_sI_ne, fI_sI_k, fJ_si, fJ_sl, fJ_sI, fJ_sJ_ne, gi_si_eq, gl_sl_eq, fI_sI_eq, fJ_sJ_eq]
        have m6 : fI h2 132 37 = fI h 132 37 + 1 := by
          rw [eh2, fI_si, fI_sI_eq Sh1 (by decide) (by decide) rfl, Fh1 _ _ (by omega) (by omega)]
        exact JJ_upd c m ev (Rel.of (Sh2)
            (Ra.of (by (try simp (disch := omega) only [Gh2, Lh2, Fh2, Jh2, Gh1, Lh1, Fh1, Jh1]); exact r.a.c)
            (by (try simp (disch := omega) only [Gh2, Lh2, Fh2, Jh2, Gh1, Lh1, Fh1, Jh1]); exact r.a.m)
            (by (try simp (disch := omega) only [Gh2, Lh2, Fh2, Jh2, Gh1, Lh1, Fh1, Jh1]); exact r.a.le)
            (by (try simp (disch := omega) only [Gh2, Lh2, Fh2, Jh2, Gh1, Lh1, Fh1, Jh1]); exact r.a.A)
            (by (try simp (disch := omega) only [Gh2, Lh2, Fh2, Jh2, Gh1, Lh1, Fh1, Jh1]); exact r.a.P))
            (Rb.of (by (try simp (disch := omega) only [Gh2, Lh2, Fh2, Jh2, Gh1, Lh1, Fh1, Jh1]); exact r.b.c)
            (by (try simp (disch := omega) only [Gh2, Lh2, Fh2, Jh2, Gh1, Lh1, Fh1, Jh1]); exact r.b.m)
            (by (try simp (disch := omega) only [Gh2, Lh2, Fh2, Jh2, Gh1, Lh1, Fh1, Jh1]); exact r.b.le)
            (by (try simp (disch := omega) only [Gh2, Lh2, Fh2, Jh2, Gh1, Lh1, Fh1, Jh1]); exact r.b.day)
            (by (try simp (disch := omega) only [Gh2, Lh2, Fh2, Jh2, Gh1, Lh1, Fh1, Jh1]); exact r.b.B)
            (by (try simp (disch := omega) only [Gh2, Lh2, Fh2, Jh2, Gh1, Lh1, Fh1, Jh1]); exact r.b.S)
            (by (try simp (disch := omega) only [Gh2, Lh2, Fh2, Jh2, Gh1, Lh1, Fh1, Jh1]); exact r.b.L)
            (by (try simp (disch := omega) only [Gh2, Lh2, Fh2, Jh2, Gh1, Lh1, Fh1, Jh1]); exact r.b.P)
            (by (try simp (disch := omega) only [Gh2, Lh2, Fh2, Jh2, Gh1, Lh1, Fh1, Jh1]); exact r.b.lb))
            (Rc.of (by (try simp (disch := omega) only [Gh2, Lh2, Fh2, Jh2, Gh1, Lh1, Fh1, Jh1]); exact r.c.c)
            (by (try simp (disch := omega) only [Gh2, Lh2, Fh2, Jh2, Gh1, Lh1, Fh1, Jh1]); exact r.c.m)
            (by (try simp (disch := omega) only [Gh2, Lh2, Fh2, Jh2, Gh1, Lh1, Fh1, Jh1]); exact r.c.le)
            (by (try simp (disch := omega) only [Gh2, Lh2, Fh2, Jh2, Gh1, Lh1, Fh1, Jh1]); exact r.c.E)
            (by (try simp (disch := omega) only [Gh2, Lh2, Fh2, Jh2, Gh1, Lh1, Fh1, Jh1]); exact r.c.S)
            (by (try simp (disch := omega) only [Gh2, Lh2, Fh2, Jh2, Gh1, Lh1, Fh1, Jh1]); exact r.c.T)
            (by (try simp (disch := omega) only [Gh2, Lh2, Fh2, Jh2, Gh1, Lh1, Fh1, Jh1]); exact r.c.C)
            (by (try simp (disch := omega) only [Gh2, Lh2, Fh2, Jh2, Gh1, Lh1, Fh1, Jh1]); exact r.c.N)
            (by (try simp (disch := omega) only [Gh2, Lh2, Fh2, Jh2, Gh1, Lh1, Fh1, Jh1]); exact r.c.ok)
            (by (try simp (disch := omega) only [Gh2, Lh2, Fh2, Jh2, Gh1, Lh1, Fh1, Jh1]); exact r.c.tm)
            (by (try simp (disch := omega) only [Gh2, Lh2, Fh2, Jh2, Gh1, Lh1, Fh1, Jh1]); exact r.c.tz)
            (by (try simp (disch := omega) only [Gh2, Lh2, Fh2, Jh2, Gh1, Lh1, Fh1, Jh1]); exact r.c.cz)
            (by (try simp (disch := omega) only [Gh2, Lh2, Fh2, Jh2, Gh1, Lh1, Fh1, Jh1]); exact r.c.nn))
            (Rd.of (by (try simp (disch := omega) only [Gh2, Lh2, Fh2, Jh2, Gh1, Lh1, Fh1, Jh1]); exact r.d.c)
            (by (try simp (disch := omega) only [Gh2, Lh2, Fh2, Jh2, Gh1, Lh1, Fh1, Jh1]); exact r.d.m)
            (by (try simp (disch := omega) only [Gh2, Lh2, Fh2, Jh2, Gh1, Lh1, Fh1, Jh1]); exact r.d.le)
            (fun k hk => RdK.of (by (try simp (disch := omega) only [Gh2, Lh2, Fh2, Jh2, Gh1, Lh1, Fh1, Jh1]); exact (r.d.K k hk).am)
              (by (try simp (disch := omega) only [Gh2, Lh2, Fh2, Jh2, Gh1, Lh1, Fh1, Jh1]); exact (r.d.K k hk).bd)
              (by (try simp (disch := omega) only [Gh2, Lh2, Fh2, Jh2, Gh1, Lh1, Fh1, Jh1]); exact (r.d.K k hk).zr)
              (by (try simp (disch := omega) only [Gh2, Lh2, Fh2, Jh2, Gh1, Lh1, Fh1, Jh1]); exact (r.d.K k hk).un)
              (by (try simp (disch := omega) only [Gh2, Lh2, Fh2, Jh2, Gh1, Lh1, Fh1, Jh1]); exact (r.d.K k hk).ul)
              (by (try simp (disch := omega) only [Gh2, Lh2, Fh2, Jh2, Gh1, Lh1, Fh1, Jh1]); exact (r.d.K k hk).lo)
              (by (try simp (disch := omega) only [Gh2, Lh2, Fh2, Jh2, Gh1, Lh1, Fh1, Jh1]); exact (r.d.K k hk).lb)
              (by (try simp (disch := omega) only [Gh2, Lh2, Fh2, Jh2, Gh1, Lh1, Fh1, Jh1]); exact (r.d.K k hk).po)))
            (Re.of (by (try simp (disch := omega) only [Gh2, Lh2, Fh2, Jh2, Gh1, Lh1, Fh1, Jh1]); exact r.e.fd)
            (by (try simp (disch := omega) only [Gh2, Lh2, Fh2, Jh2, Gh1, Lh1, Fh1, Jh1]); exact r.e.be)
            (by (try simp (disch := omega) only [Gh2, Lh2, Fh2, Jh2, Gh1, Lh1, Fh1, Jh1]); exact r.e.bb)
            (by (try simp (disch := omega) only [Gh2, Lh2, Fh2, Jh2, Gh1, Lh1, Fh1, Jh1]); exact r.e.z))
            (Rf.of (by (try simp (disch := omega) only [Gh2, Lh2, Fh2, Jh2, Gh1, Lh1, Fh1, Jh1]); exact r.f.lim)
            (by (try simp (disch := omega) only [Gh2, Lh2, Fh2, Jh2, Gh1, Lh1, Fh1, Jh1]); exact r.f.l0)
            (by rw [Fh2 _ _ (by omega), c5, m6, r.f.cl])
            (by (try simp (disch := omega) only [Gh2, Lh2, Fh2, Jh2, Gh1, Lh1, Fh1, Jh1]); exact r.f.no)
            (by
            intro t' ht'
            by_cases e : t' = t.toNatClampNeg
            · subst e
              have q3 : gi h2 151 t.toNatClampNeg = 0 := by rw [m4]; simp only [upd, if_pos]
              exact RfK.of (by (try simp (disch := omega) only [Gh2, Lh2, Fh2, Jh2, Gh1, Lh1, Fh1, Jh1]); exact k0.ins)
                (by (try simp (disch := omega) only [Gh2, Lh2, Fh2, Jh2, Gh1, Lh1, Fh1, Jh1]); exact k0.siz)
                (by (try simp (disch := omega) only [Gh2, Lh2, Fh2, Jh2, Gh1, Lh1, Fh1, Jh1]); exact k0.bat)
                (by (try simp (disch := omega) only [Gh2, Lh2, Fh2, Jh2, Gh1, Lh1, Fh1, Jh1]); exact k0.tap)
                (by rw [Fh2 _ _ (by omega), c4, q3])
                (by (try simp (disch := omega) only [Gh2, Lh2, Fh2, Jh2, Gh1, Lh1, Fh1, Jh1]); exact k0.sta)
                (by (try simp (disch := omega) only [Gh2, Lh2, Fh2, Jh2, Gh1, Lh1, Fh1, Jh1]); exact k0.am)
                (by (try simp (disch := omega) only [Gh2, Lh2, Fh2, Jh2, Gh1, Lh1, Fh1, Jh1]); exact k0.zr)
                (by (try simp (disch := omega) only [Gh2, Lh2, Fh2, Jh2, Gh1, Lh1, Fh1, Jh1]); exact k0.lo)
                (by (try simp (disch := omega) only [Gh2, Lh2, Fh2, Jh2, Gh1, Lh1, Fh1, Jh1]); exact k0.h0)
                (by (try simp (disch := omega) only [Gh2, Lh2, Fh2, Jh2, Gh1, Lh1, Fh1, Jh1]); exact k0.hr)
                (by (try simp (disch := omega) only [Gh2, Lh2, Fh2, Jh2, Gh1, Lh1, Fh1, Jh1]); exact k0.r6)
                (fun _ => q3)
                (by (try simp (disch := omega) only [Gh2, Lh2, Fh2, Jh2, Gh1, Lh1, Fh1, Jh1]); exact k0.lb)
                (by (try simp (disch := omega) only [Gh2, Lh2, Fh2, Jh2, Gh1, Lh1, Fh1, Jh1]); exact k0.bb)
            · have q3 : gi h2 151 t' = gi h 151 t' := by rw [m4, Gh1 151]; simp only [upd, if_neg e]
              exact RfK.of (by (try simp (disch := omega) only [Gh2, Lh2, Fh2, Jh2, Gh1, Lh1, Fh1, Jh1]); exact (r.f.K t' ht').ins)
                (by (try simp (disch := omega) only [Gh2, Lh2, Fh2, Jh2, Gh1, Lh1, Fh1, Jh1]); exact (r.f.K t' ht').siz)
                (by (try simp (disch := omega) only [Gh2, Lh2, Fh2, Jh2, Gh1, Lh1, Fh1, Jh1]); exact (r.f.K t' ht').bat)
                (by (try simp (disch := omega) only [Gh2, Lh2, Fh2, Jh2, Gh1, Lh1, Fh1, Jh1]); exact (r.f.K t' ht').tap)
                (by rw [Fh2 _ _ (by omega), Fh1 _ _ (by omega) (by omega), q3]; exact (r.f.K t' ht').stn)
                (by (try simp (disch := omega) only [Gh2, Lh2, Fh2, Jh2, Gh1, Lh1, Fh1, Jh1]); exact (r.f.K t' ht').sta)
                (by (try simp (disch := omega) only [Gh2, Lh2, Fh2, Jh2, Gh1, Lh1, Fh1, Jh1]); exact (r.f.K t' ht').am)
                (by (try simp (disch := omega) only [Gh2, Lh2, Fh2, Jh2, Gh1, Lh1, Fh1, Jh1]); exact (r.f.K t' ht').zr)
                (by (try simp (disch := omega) only [Gh2, Lh2, Fh2, Jh2, Gh1, Lh1, Fh1, Jh1]); exact (r.f.K t' ht').lo)
                (by (try simp (disch := omega) only [Gh2, Lh2, Fh2, Jh2, Gh1, Lh1, Fh1, Jh1]); exact (r.f.K t' ht').h0)
                (by (try simp (disch := omega) only [Gh2, Lh2, Fh2, Jh2, Gh1, Lh1, Fh1, Jh1]); exact (r.f.K t' ht').hr)
                (by (try simp (disch := omega) only [Gh2, Lh2, Fh2, Jh2, Gh1, Lh1, Fh1, Jh1]); exact (r.f.K t' ht').r6)
                (by rw [q3, Gh2 150 (by omega), Gh1 150]; exact (r.f.K t' ht').hs)
                (by (try simp (disch := omega) only [Gh2, Lh2, Fh2, Jh2, Gh1, Lh1, Fh1, Jh1]); exact (r.f.K t' ht').lb)
                (by (try simp (disch := omega) only [Gh2, Lh2, Fh2, Jh2, Gh1, Lh1, Fh1, Jh1]); exact (r.f.K t' ht').bb)))
            (Rg.of (by (try simp (disch := omega) only [Gh2, Lh2, Fh2, Jh2, Gh1, Lh1, Fh1, Jh1]); exact r.g.c)
            (by (try simp (disch := omega) only [Gh2, Lh2, Fh2, Jh2, Gh1, Lh1, Fh1, Jh1]); exact r.g.m)
            (by (try simp (disch := omega) only [Gh2, Lh2, Fh2, Jh2, Gh1, Lh1, Fh1, Jh1]); exact r.g.le)
            (by (try simp (disch := omega) only [Gh2, Lh2, Fh2, Jh2, Gh1, Lh1, Fh1, Jh1]); exact r.g.u)
            (by (try simp (disch := omega) only [Gh2, Lh2, Fh2, Jh2, Gh1, Lh1, Fh1, Jh1]); exact r.g.t)
            (by (try simp (disch := omega) only [Gh2, Lh2, Fh2, Jh2, Gh1, Lh1, Fh1, Jh1]); exact r.g.d)
            (by (try simp (disch := omega) only [Gh2, Lh2, Fh2, Jh2, Gh1, Lh1, Fh1, Jh1]); exact r.g.b)
            (by (try simp (disch := omega) only [Gh2, Lh2, Fh2, Jh2, Gh1, Lh1, Fh1, Jh1]); exact r.g.l)
            (by (try simp (disch := omega) only [Gh2, Lh2, Fh2, Jh2, Gh1, Lh1, Fh1, Jh1]); exact r.g.bb)
            (by (try simp (disch := omega) only [Gh2, Lh2, Fh2, Jh2, Gh1, Lh1, Fh1, Jh1]); exact r.g.lb))
            (Rh.of (by (try simp (disch := omega) only [Gh2, Lh2, Fh2, Jh2, Gh1, Lh1, Fh1, Jh1]); exact r.j.c)
            (by (try simp (disch := omega) only [Gh2, Lh2, Fh2, Jh2, Gh1, Lh1, Fh1, Jh1]); exact r.j.m)
            (by (try simp (disch := omega) only [Gh2, Lh2, Fh2, Jh2, Gh1, Lh1, Fh1, Jh1]); exact r.j.le)
            (by (try simp (disch := omega) only [Gh2, Lh2, Fh2, Jh2, Gh1, Lh1, Fh1, Jh1]); exact r.j.pc)
            (by (try simp (disch := omega) only [Gh2, Lh2, Fh2, Jh2, Gh1, Lh1, Fh1, Jh1]); exact r.j.pm)
            (by (try simp (disch := omega) only [Gh2, Lh2, Fh2, Jh2, Gh1, Lh1, Fh1, Jh1]); exact r.j.pl)
            (by (try simp (disch := omega) only [Gh2, Lh2, Fh2, Jh2, Gh1, Lh1, Fh1, Jh1]); exact r.j.hu)
            (by (try simp (disch := omega) only [Gh2, Lh2, Fh2, Jh2, Gh1, Lh1, Fh1, Jh1]); exact r.j.ti)
            (by (try simp (disch := omega) only [Gh2, Lh2, Fh2, Jh2, Gh1, Lh1, Fh1, Jh1]); exact r.j.du)
            (by (try simp (disch := omega) only [Gh2, Lh2, Fh2, Jh2, Gh1, Lh1, Fh1, Jh1]); exact r.j.pr)
            (by (try simp (disch := omega) only [Gh2, Lh2, Fh2, Jh2, Gh1, Lh1, Fh1, Jh1]); exact r.j.ch)
            (by (try simp (disch := omega) only [Gh2, Lh2, Fh2, Jh2, Gh1, Lh1, Fh1, Jh1]); exact r.j.od)
            (by (try simp (disch := omega) only [Gh2, Lh2, Fh2, Jh2, Gh1, Lh1, Fh1, Jh1]); exact r.j.ok)
            (by (try simp (disch := omega) only [Gh2, Lh2, Fh2, Jh2, Gh1, Lh1, Fh1, Jh1]); exact r.j.tb)
            (by (try simp (disch := omega) only [Gh2, Lh2, Fh2, Jh2, Gh1, Lh1, Fh1, Jh1]); exact r.j.db)))
    · skip
      have c := c_X9_clean r.S t
      simp only [uClean, ki, if_pos g0, if_neg g1] at c
      have m := c_X10_clean r.S t
      simp only [mClean, ki, if_pos g0, if_neg g1] at m
      exact JJ_upd c m ev r
  · skip
    have c := c_X9_clean r.S t
    simp only [uClean, if_neg g0] at c
    have m := c_X10_clean r.S t
    simp only [mClean, if_neg g0] at m
    exact JJ_upd c m ev r
theorem J_job {h : HF} {nb nl nr nt nd nj np : Nat} (r : Rel h nb nl nr nt nd nj np) (u a b c : Int32) : JJ mX9_job mX10_job [.ref 1, .int u, .int a, .int b, .int c] [.ref 132, .int u, .int a, .int b, .int c] h := by
  by_cases g0 : nj < 8
  · skip
    by_cases g1 : inB u 0 5 = true
    · skip
      by_cases g2 : inB a 1 100 = true
      · skip
        by_cases g3 : inB b 0 1000 = true
        · skip
          by_cases g4 : inB c 0 100 = true
          · skip
            have k0 := c_X9_job r.S u a b c nj r.j.c r.j.le
            simp only [uJob, gJob, if_pos g0, if_pos g1, if_pos g2, if_pos g3, if_pos g4] at k0
            have c0 := c_X9_job r.S u a b c nj r.j.c r.j.le
            simp only [uJob, gJob, if_pos g0, if_pos g1, if_pos g2, if_pos g3, if_pos g4] at c0
            obtain ⟨h1, eh1⟩ : ∃ zz : HF, zz = sI (si (si (si (si h 32 (upd (gi h 32) nj u)) 33 (upd (gi h 33) nj a)) 34 (upd (gi h 34) nj b)) 35 (upd (gi h 35) nj c)) 31 4 (nI (nj + 1)) := ⟨_, rfl⟩
            replace c0 := Mc_h eh1 c0
            have Sh1 : Sh h1 := by rw [eh1]; (repeat (first | exact r.S | apply Sh.si | apply Sh.sI | apply Sh.sJ | apply Sh.sl))
            have Gh1 : ∀ x, x ≠ 32 → x ≠ 33 → x ≠ 34 → x ≠ 35 → gi h1 x = gi h x := by
              intro x q0 q1 q2 q3; rw [eh1]; (try simp (disch := first | assumption | omega) only [gi_si_ne, gi_sI, gi_sJ, gi_sl, gl_sl_ne, gl_si, gl_sI, gl_sJ, fI_si, fI_sl, fI_sJ, fI_sI_ne, fI_sI_k, fJ_si, fJ_sl, fJ_sI, fJ_sJ_ne])
            have Lh1 : ∀ x, gl h1 x = gl h x := by
              intro x ; rw [eh1]; (try simp (disch := first | assumption | omega) only [gi_si_ne, gi_sI, gi_sJ, gi_sl, gl_sl_ne, gl_si, gl_sI, gl_sJ, fI_si, fI_sl, fI_sJ, fI_sI_ne, fI_sI_k, fJ_si, fJ_sl, fJ_sI, fJ_sJ_ne])
            have Fh1 : ∀ x kk, ¬ (x = 31 ∧ kk = 4) → fI h1 x kk = fI h x kk := by
              intro x kk q0; rw [eh1]; first | rfl | (simp (disch := first | assumption | omega) only [fI_si, fI_sl, fI_sJ, fI_sI_o])
            have Jh1 : ∀ x kk, fJ h1 x kk = fJ h x kk := by
              intro x kk ; rw [eh1]; first | rfl | (simp (disch := first | assumption | omega) only [fJ_si, fJ_sl, fJ_sI, fJ_sJ_o])
            have c32 : gi h1 32 = upd (gi h 32) nj u := by
              rw [eh1]; simp (disch := first | omega | ((repeat (first | exact r.S | apply Sh.si | apply Sh.sI | apply Sh.sJ | apply Sh.sl)); done) | decide | exact kF_K ‹_› (by omega) | exact kI_of (shT_B ‹_›).2.2 | exact kI_of (shT_K ‹_›).2.2.1 | exact kI_of (shT_K ‹_›).2.2.2 | exact kFB ‹_› | exact kFM ‹_› | exact kJM ‹_› | exact kFN ‹_› | exact kJN ‹_› | rfl) only [gi_si_ne, gi_sI, gi_sJ, gi_sl, gl_sl_ne, gl_si, gl_sI, gl_sJ, fI_si, fI_sl, fI_sJ, fI_sI_ne, fI_sI_k, fJ_si, fJ_sl, fJ_sI, fJ_sJ_ne, gi_si_eq, gl_sl_eq, fI_sI_eq, fJ_sJ_eq]
            have c33 : gi h1 33 = upd (gi h 33) nj a := by
              rw [eh1]; simp (disch := first | omega | ((repeat (first | exact r.S | apply Sh.si | apply Sh.sI | apply Sh.sJ | apply Sh.sl)); done) | decide | exact kF_K ‹_› (by omega) | exact kI_of (shT_B ‹_›).2.2 | exact kI_of (shT_K ‹_›).2.2.1 | exact kI_of (shT_K ‹_›).2.2.2 | exact kFB ‹_› | exact kFM ‹_› | exact kJM ‹_› | exact kFN ‹_› | exact kJN ‹_› | rfl) only [gi_si_ne, gi_sI, gi_sJ, gi_sl, gl_sl_ne, gl_si, gl_sI, gl_sJ, fI_si, fI_sl, fI_sJ, fI_sI_ne, fI_sI_k, fJ_si, fJ_sl, fJ_sI, fJ_sJ_ne, gi_si_eq, gl_sl_eq, fI_sI_eq, fJ_sJ_eq]
            have c34 : gi h1 34 = upd (gi h 34) nj b := by
              rw [eh1]; simp (disch := first | omega | ((repeat (first | exact r.S | apply Sh.si | apply Sh.sI | apply Sh.sJ | apply Sh.sl)); done) | decide | exact kF_K ‹_› (by omega) | exact kI_of (shT_B ‹_›).2.2 | exact kI_of (shT_K ‹_›).2.2.1 | exact kI_of (shT_K ‹_›).2.2.2 | exact kFB ‹_› | exact kFM ‹_› | exact kJM ‹_› | exact kFN ‹_› | exact kJN ‹_› | rfl) only [gi_si_ne, gi_sI, gi_sJ, gi_sl, gl_sl_ne, gl_si, gl_sI, gl_sJ, fI_si, fI_sl, fI_sJ, fI_sI_ne, fI_sI_k, fJ_si, fJ_sl, fJ_sI, fJ_sJ_ne, gi_si_eq, gl_sl_eq, fI_sI_eq, fJ_sJ_eq]
            have c35 : gi h1 35 = upd (gi h 35) nj c := by
              rw [eh1]; simp (disch := first | omega | ((repeat (first | exact r.S | apply Sh.si | apply Sh.sI | apply Sh.sJ | apply Sh.sl)); done) | decide | exact kF_K ‹_› (by omega) | exact kI_of (shT_B ‹_›).2.2 | exact kI_of (shT_K ‹_›).2.2.1 | exact kI_of (shT_K ‹_›).2.2.2 | exact kFB ‹_› | exact kFM ‹_› | exact kJM ‹_› | exact kFN ‹_› | exact kJN ‹_› | rfl) only [gi_si_ne, gi_sI, gi_sJ, gi_sl, gl_sl_ne, gl_si, gl_sI, gl_sJ, fI_si, fI_sl, fI_sJ, fI_sI_ne, fI_sI_k, fJ_si, fJ_sl, fJ_sI, fJ_sJ_ne, gi_si_eq, gl_sl_eq, fI_sI_eq, fJ_sJ_eq]
            have c4 : fI h1 31 4 = nI (nj + 1) := by
              rw [eh1]; simp (disch := first | omega | ((repeat (first | exact r.S | apply Sh.si | apply Sh.sI | apply Sh.sJ | apply Sh.sl)); done) | decide | exact kF_K ‹_› (by omega) | exact kI_of (shT_B ‹_›).2.2 | exact kI_of (shT_K ‹_›).2.2.1 | exact kI_of (shT_K ‹_›).2.2.2 | exact kFB ‹_› | exact kFM ‹_› | exact kJM ‹_› | exact kFN ‹_› | exact kJN ‹_› | rfl) only [gi_si_ne, gi_sI, gi_sJ, gi_sl, gl_sl_ne, gl_si, gl_sI, gl_sJ, fI_si, fI_sl, fI_sJ, fI_sI_ne, fI_sI_k, fJ_si, fJ_sl, fJ_sI, fJ_sJ_ne, gi_si_eq, gl_sl_eq, fI_sI_eq, fJ_sJ_eq]
            have m := c_X10_job Sh1 u a b c nj (by rw [Fh1 _ _ (by omega)]; exact r.j.m) g0
            simp only [mJob, mJobF, if_pos g0, if_pos g1, if_pos g2, if_pos g3, if_pos g4] at m
            obtain ⟨h2, eh2⟩ : ∃ zz : HF, zz = sI (si (si (si (si h1 162 (upd (gi h1 162) nj u)) 163 (upd (gi h1 163) nj a)) 164 (upd (gi h1 164) nj b)) 165 (upd (gi h1 165) nj c)) 132 38 (nI (nj + 1)) := ⟨_, rfl⟩
            replace m := Mc_h eh2 m
            have Sh2 : Sh h2 := by rw [eh2]; (repeat (first | exact Sh1 | apply Sh.si | apply Sh.sI | apply Sh.sJ | apply Sh.sl))
            have Gh2 : ∀ x, x ≠ 162 → x ≠ 163 → x ≠ 164 → x ≠ 165 → gi h2 x = gi h1 x := by
              intro x q0 q1 q2 q3; rw [eh2]; (try simp (disch := first | assumption | omega) only [gi_si_ne, gi_sI, gi_sJ, gi_sl, gl_sl_ne, gl_si, gl_sI, gl_sJ, fI_si, fI_sl, fI_sJ, fI_sI_ne, fI_sI_k, fJ_si, fJ_sl, fJ_sI, fJ_sJ_ne])
            have Lh2 : ∀ x, gl h2 x = gl h1 x := by
              intro x ; rw [eh2]; (try simp (disch := first | assumption | omega) only [gi_si_ne, gi_sI, gi_sJ, gi_sl, gl_sl_ne, gl_si, gl_sI, gl_sJ, fI_si, fI_sl, fI_sJ, fI_sI_ne, fI_sI_k, fJ_si, fJ_sl, fJ_sI, fJ_sJ_ne])
            have Fh2 : ∀ x kk, ¬ (x = 132 ∧ kk = 38) → fI h2 x kk = fI h1 x kk := by
              intro x kk q0; rw [eh2]; first | rfl | (simp (disch := first | assumption | omega) only [fI_si, fI_sl, fI_sJ, fI_sI_o])
            have Jh2 : ∀ x kk, fJ h2 x kk = fJ h1 x kk := by
              intro x kk ; rw [eh2]; first | rfl | (simp (disch := first | assumption | omega) only [fJ_si, fJ_sl, fJ_sI, fJ_sJ_o])
            have m162 : gi h2 162 = upd (gi h1 162) nj u := by
              rw [eh2]; simp (disch := first | omega | ((repeat (first | exact Sh1 | apply Sh.si | apply Sh.sI | apply Sh.sJ | apply Sh.sl)); done) | decide | exact kF_K ‹_› (by omega) | exact kI_of (shT_B ‹_›).2.2 | exact kI_of (shT_K ‹_›).2.2.1 | exact kI_of (shT_K ‹_›).2.2.2 | exact kFB ‹_› | exact kFM ‹_› | exact kJM ‹_› | exact kFN ‹_› | exact kJN ‹_› | rfl) only [gi_si_ne, gi_sI, gi_sJ, gi_sl, gl_sl_ne, gl_si, gl_sI, gl_sJ, fI_si, fI_sl, fI_sJ, fI_sI_ne, fI_sI_k, fJ_si, fJ_sl, fJ_sI, fJ_sJ_ne, gi_si_eq, gl_sl_eq, fI_sI_eq, fJ_sJ_eq]
            have m163 : gi h2 163 = upd (gi h1 163) nj a := by
              rw [eh2]; simp (disch := first | omega | ((repeat (first | exact Sh1 | apply Sh.si | apply Sh.sI | apply Sh.sJ | apply Sh.sl)); done) | decide | exact kF_K ‹_› (by omega) | exact kI_of (shT_B ‹_›).2.2 | exact kI_of (shT_K ‹_›).2.2.1 | exact kI_of (shT_K ‹_›).2.2.2 | exact kFB ‹_› | exact kFM ‹_› | exact kJM ‹_› | exact kFN ‹_› | exact kJN ‹_› | rfl) only [gi_si_ne, gi_sI, gi_sJ, gi_sl, gl_sl_ne, gl_si, gl_sI, gl_sJ, fI_si, fI_sl, fI_sJ, fI_sI_ne, fI_sI_k, fJ_si, fJ_sl, fJ_sI, fJ_sJ_ne, gi_si_eq, gl_sl_eq, fI_sI_eq, fJ_sJ_eq]
            have m164 : gi h2 164 = upd (gi h1 164) nj b := by
              rw [eh2]; simp (disch := first | omega | ((repeat (first | exact Sh1 | apply Sh.si | apply Sh.sI | apply Sh.sJ | apply Sh.sl)); done) | decide | exact kF_K ‹_› (by omega) | exact kI_of (shT_B ‹_›).2.2 | exact kI_of (shT_K ‹_›).2.2.1 | exact kI_of (shT_K ‹_›).2.2.2 | exact kFB ‹_› | exact kFM ‹_› | exact kJM ‹_› | exact kFN ‹_› | exact kJN ‹_› | rfl) only [gi_si_ne, gi_sI, gi_sJ, gi_sl, gl_sl_ne, gl_si, gl_sI, gl_sJ, fI_si, fI_sl, fI_sJ, fI_sI_ne, fI_sI_k, fJ_si, fJ_sl, fJ_sI, fJ_sJ_ne, gi_si_eq, gl_sl_eq, fI_sI_eq, fJ_sJ_eq]
            have m165 : gi h2 165 = upd (gi h1 165) nj c := by
              rw [eh2]; simp (disch := first | omega | ((repeat (first | exact Sh1 | apply Sh.si | apply Sh.sI | apply Sh.sJ | apply Sh.sl)); done) | decide | exact kF_K ‹_› (by omega) | exact kI_of (shT_B ‹_›).2.2 | exact kI_of (shT_K ‹_›).2.2.1 | exact kI_of (shT_K ‹_›).2.2.2 | exact kFB ‹_› | exact kFM ‹_› | exact kJM ‹_› | exact kFN ‹_› | exact kJN ‹_› | rfl) only [gi_si_ne, gi_sI, gi_sJ, gi_sl, gl_sl_ne, gl_si, gl_sI, gl_sJ, fI_si, fI_sl, fI_sJ, fI_sI_ne, fI_sI_k, fJ_si, fJ_sl, fJ_sI, fJ_sJ_ne, gi_si_eq, gl_sl_eq, fI_sI_eq, fJ_sJ_eq]
            have m4 : fI h2 132 38 = nI (nj + 1) := by
              rw [eh2]; simp (disch := first | omega | ((repeat (first | exact Sh1 | apply Sh.si | apply Sh.sI | apply Sh.sJ | apply Sh.sl)); done) | decide | exact kF_K ‹_› (by omega) | exact kI_of (shT_B ‹_›).2.2 | exact kI_of (shT_K ‹_›).2.2.1 | exact kI_of (shT_K ‹_›).2.2.2 | exact kFB ‹_› | exact kFM ‹_› | exact kJM ‹_› | exact kFN ‹_› | exact kJN ‹_› | rfl) only [gi_si_ne, gi_sI, gi_sJ, gi_sl, gl_sl_ne, gl_si, gl_sI, gl_sJ, fI_si, fI_sl, fI_sJ, fI_sI_ne, fI_sI_k, fJ_si, fJ_sl, fJ_sI, fJ_sJ_ne, gi_si_eq, gl_sl_eq, fI_sI_eq, fJ_sJ_eq]
            have n162 : gi h1 162 = gi h 162 := Gh1 162 (by omega) (by omega) (by omega) (by omega)
            have n163 : gi h1 163 = gi h 163 := Gh1 163 (by omega) (by omega) (by omega) (by omega)
            have n164 : gi h1 164 = gi h 164 := Gh1 164 (by omega) (by omega) (by omega) (by omega)
            have n165 : gi h1 165 = gi h 165 := Gh1 165 (by omega) (by omega) (by omega) (by omega)
            exact JJ_upd c0 m rfl (nj := nj + 1) (Rel.of (Sh2)
                (Ra.of (by (try simp (disch := omega) only [Gh2, Lh2, Fh2, Jh2, Gh1, Lh1, Fh1, Jh1]); exact r.a.c)
                (by (try simp (disch := omega) only [Gh2, Lh2, Fh2, Jh2, Gh1, Lh1, Fh1, Jh1]); exact r.a.m)
                (by (try simp (disch := omega) only [Gh2, Lh2, Fh2, Jh2, Gh1, Lh1, Fh1, Jh1]); exact r.a.le)
                (by (try simp (disch := omega) only [Gh2, Lh2, Fh2, Jh2, Gh1, Lh1, Fh1, Jh1]); exact r.a.A)
                (by (try simp (disch := omega) only [Gh2, Lh2, Fh2, Jh2, Gh1, Lh1, Fh1, Jh1]); exact r.a.P))
                (Rb.of (by (try simp (disch := omega) only [Gh2, Lh2, Fh2, Jh2, Gh1, Lh1, Fh1, Jh1]); exact r.b.c)
                (by (try simp (disch := omega) only [Gh2, Lh2, Fh2, Jh2, Gh1, Lh1, Fh1, Jh1]); exact r.b.m)
                (by (try simp (disch := omega) only [Gh2, Lh2, Fh2, Jh2, Gh1, Lh1, Fh1, Jh1]); exact r.b.le)
                (by (try simp (disch := omega) only [Gh2, Lh2, Fh2, Jh2, Gh1, Lh1, Fh1, Jh1]); exact r.b.day)
                (by (try simp (disch := omega) only [Gh2, Lh2, Fh2, Jh2, Gh1, Lh1, Fh1, Jh1]); exact r.b.B)
                (by (try simp (disch := omega) only [Gh2, Lh2, Fh2, Jh2, Gh1, Lh1, Fh1, Jh1]); exact r.b.S)
                (by (try simp (disch := omega) only [Gh2, Lh2, Fh2, Jh2, Gh1, Lh1, Fh1, Jh1]); exact r.b.L)
                (by (try simp (disch := omega) only [Gh2, Lh2, Fh2, Jh2, Gh1, Lh1, Fh1, Jh1]); exact r.b.P)
                (by (try simp (disch := omega) only [Gh2, Lh2, Fh2, Jh2, Gh1, Lh1, Fh1, Jh1]); exact r.b.lb))
                (Rc.of (by (try simp (disch := omega) only [Gh2, Lh2, Fh2, Jh2, Gh1, Lh1, Fh1, Jh1]); exact r.c.c)
                (by (try simp (disch := omega) only [Gh2, Lh2, Fh2, Jh2, Gh1, Lh1, Fh1, Jh1]); exact r.c.m)
                (by (try simp (disch := omega) only [Gh2, Lh2, Fh2, Jh2, Gh1, Lh1, Fh1, Jh1]); exact r.c.le)
                (by (try simp (disch := omega) only [Gh2, Lh2, Fh2, Jh2, Gh1, Lh1, Fh1, Jh1]); exact r.c.E)
                (by (try simp (disch := omega) only [Gh2, Lh2, Fh2, Jh2, Gh1, Lh1, Fh1, Jh1]); exact r.c.S)
                (by (try simp (disch := omega) only [Gh2, Lh2, Fh2, Jh2, Gh1, Lh1, Fh1, Jh1]); exact r.c.T)
                (by (try simp (disch := omega) only [Gh2, Lh2, Fh2, Jh2, Gh1, Lh1, Fh1, Jh1]); exact r.c.C)
                (by (try simp (disch := omega) only [Gh2, Lh2, Fh2, Jh2, Gh1, Lh1, Fh1, Jh1]); exact r.c.N)
                (by (try simp (disch := omega) only [Gh2, Lh2, Fh2, Jh2, Gh1, Lh1, Fh1, Jh1]); exact r.c.ok)
                (by (try simp (disch := omega) only [Gh2, Lh2, Fh2, Jh2, Gh1, Lh1, Fh1, Jh1]); exact r.c.tm)
                (by (try simp (disch := omega) only [Gh2, Lh2, Fh2, Jh2, Gh1, Lh1, Fh1, Jh1]); exact r.c.tz)
                (by (try simp (disch := omega) only [Gh2, Lh2, Fh2, Jh2, Gh1, Lh1, Fh1, Jh1]); exact r.c.cz)
                (by (try simp (disch := omega) only [Gh2, Lh2, Fh2, Jh2, Gh1, Lh1, Fh1, Jh1]); exact r.c.nn))
                (Rd.of (by (try simp (disch := omega) only [Gh2, Lh2, Fh2, Jh2, Gh1, Lh1, Fh1, Jh1]); exact r.d.c)
                (by (try simp (disch := omega) only [Gh2, Lh2, Fh2, Jh2, Gh1, Lh1, Fh1, Jh1]); exact r.d.m)
                (by (try simp (disch := omega) only [Gh2, Lh2, Fh2, Jh2, Gh1, Lh1, Fh1, Jh1]); exact r.d.le)
                (fun k hk => RdK.of (by (try simp (disch := omega) only [Gh2, Lh2, Fh2, Jh2, Gh1, Lh1, Fh1, Jh1]); exact (r.d.K k hk).am)
                  (by (try simp (disch := omega) only [Gh2, Lh2, Fh2, Jh2, Gh1, Lh1, Fh1, Jh1]); exact (r.d.K k hk).bd)
                  (by (try simp (disch := omega) only [Gh2, Lh2, Fh2, Jh2, Gh1, Lh1, Fh1, Jh1]); exact (r.d.K k hk).zr)
                  (by (try simp (disch := omega) only [Gh2, Lh2, Fh2, Jh2, Gh1, Lh1, Fh1, Jh1]); exact (r.d.K k hk).un)
                  (by (try simp (disch := omega) only [Gh2, Lh2, Fh2, Jh2, Gh1, Lh1, Fh1, Jh1]); exact (r.d.K k hk).ul)
                  (by (try simp (disch := omega) only [Gh2, Lh2, Fh2, Jh2, Gh1, Lh1, Fh1, Jh1]); exact (r.d.K k hk).lo)
                  (by (try simp (disch := omega) only [Gh2, Lh2, Fh2, Jh2, Gh1, Lh1, Fh1, Jh1]); exact (r.d.K k hk).lb)
                  (by (try simp (disch := omega) only [Gh2, Lh2, Fh2, Jh2, Gh1, Lh1, Fh1, Jh1]); exact (r.d.K k hk).po)))
                (Re.of (by (try simp (disch := omega) only [Gh2, Lh2, Fh2, Jh2, Gh1, Lh1, Fh1, Jh1]); exact r.e.fd)
                (by (try simp (disch := omega) only [Gh2, Lh2, Fh2, Jh2, Gh1, Lh1, Fh1, Jh1]); exact r.e.be)
                (by (try simp (disch := omega) only [Gh2, Lh2, Fh2, Jh2, Gh1, Lh1, Fh1, Jh1]); exact r.e.bb)
                (by (try simp (disch := omega) only [Gh2, Lh2, Fh2, Jh2, Gh1, Lh1, Fh1, Jh1]); exact r.e.z))
                (Rf.of (by (try simp (disch := omega) only [Gh2, Lh2, Fh2, Jh2, Gh1, Lh1, Fh1, Jh1]); exact r.f.lim)
                (by (try simp (disch := omega) only [Gh2, Lh2, Fh2, Jh2, Gh1, Lh1, Fh1, Jh1]); exact r.f.l0)
                (by (try simp (disch := omega) only [Gh2, Lh2, Fh2, Jh2, Gh1, Lh1, Fh1, Jh1]); exact r.f.cl)
                (by (try simp (disch := omega) only [Gh2, Lh2, Fh2, Jh2, Gh1, Lh1, Fh1, Jh1]); exact r.f.no)
                (fun t ht => RfK.of (by (try simp (disch := omega) only [Gh2, Lh2, Fh2, Jh2, Gh1, Lh1, Fh1, Jh1]); exact (r.f.K t ht).ins)
                  (by (try simp (disch := omega) only [Gh2, Lh2, Fh2, Jh2, Gh1, Lh1, Fh1, Jh1]); exact (r.f.K t ht).siz)
                  (by (try simp (disch := omega) only [Gh2, Lh2, Fh2, Jh2, Gh1, Lh1, Fh1, Jh1]); exact (r.f.K t ht).bat)
                  (by (try simp (disch := omega) only [Gh2, Lh2, Fh2, Jh2, Gh1, Lh1, Fh1, Jh1]); exact (r.f.K t ht).tap)
                  (by (try simp (disch := omega) only [Gh2, Lh2, Fh2, Jh2, Gh1, Lh1, Fh1, Jh1]); exact (r.f.K t ht).stn)
                  (by (try simp (disch := omega) only [Gh2, Lh2, Fh2, Jh2, Gh1, Lh1, Fh1, Jh1]); exact (r.f.K t ht).sta)
                  (by (try simp (disch := omega) only [Gh2, Lh2, Fh2, Jh2, Gh1, Lh1, Fh1, Jh1]); exact (r.f.K t ht).am)
                  (by (try simp (disch := omega) only [Gh2, Lh2, Fh2, Jh2, Gh1, Lh1, Fh1, Jh1]); exact (r.f.K t ht).zr)
                  (by (try simp (disch := omega) only [Gh2, Lh2, Fh2, Jh2, Gh1, Lh1, Fh1, Jh1]); exact (r.f.K t ht).lo)
                  (by (try simp (disch := omega) only [Gh2, Lh2, Fh2, Jh2, Gh1, Lh1, Fh1, Jh1]); exact (r.f.K t ht).h0)
                  (by (try simp (disch := omega) only [Gh2, Lh2, Fh2, Jh2, Gh1, Lh1, Fh1, Jh1]); exact (r.f.K t ht).hr)
                  (by (try simp (disch := omega) only [Gh2, Lh2, Fh2, Jh2, Gh1, Lh1, Fh1, Jh1]); exact (r.f.K t ht).r6)
                  (by (try simp (disch := omega) only [Gh2, Lh2, Fh2, Jh2, Gh1, Lh1, Fh1, Jh1]); exact (r.f.K t ht).hs)
                  (by (try simp (disch := omega) only [Gh2, Lh2, Fh2, Jh2, Gh1, Lh1, Fh1, Jh1]); exact (r.f.K t ht).lb)
                  (by (try simp (disch := omega) only [Gh2, Lh2, Fh2, Jh2, Gh1, Lh1, Fh1, Jh1]); exact (r.f.K t ht).bb)))
                (Rg.of (by (try simp (disch := omega) only [Gh2, Lh2, Fh2, Jh2, Gh1, Lh1, Fh1, Jh1]); exact r.g.c)
                (by (try simp (disch := omega) only [Gh2, Lh2, Fh2, Jh2, Gh1, Lh1, Fh1, Jh1]); exact r.g.m)
                (by (try simp (disch := omega) only [Gh2, Lh2, Fh2, Jh2, Gh1, Lh1, Fh1, Jh1]); exact r.g.le)
                (by (try simp (disch := omega) only [Gh2, Lh2, Fh2, Jh2, Gh1, Lh1, Fh1, Jh1]); exact r.g.u)
                (by (try simp (disch := omega) only [Gh2, Lh2, Fh2, Jh2, Gh1, Lh1, Fh1, Jh1]); exact r.g.t)
                (by (try simp (disch := omega) only [Gh2, Lh2, Fh2, Jh2, Gh1, Lh1, Fh1, Jh1]); exact r.g.d)
                (by (try simp (disch := omega) only [Gh2, Lh2, Fh2, Jh2, Gh1, Lh1, Fh1, Jh1]); exact r.g.b)
                (by (try simp (disch := omega) only [Gh2, Lh2, Fh2, Jh2, Gh1, Lh1, Fh1, Jh1]); exact r.g.l)
                (by (try simp (disch := omega) only [Gh2, Lh2, Fh2, Jh2, Gh1, Lh1, Fh1, Jh1]); exact r.g.bb)
                (by (try simp (disch := omega) only [Gh2, Lh2, Fh2, Jh2, Gh1, Lh1, Fh1, Jh1]); exact r.g.lb))
                (Rh.of (by rw [Fh2 _ _ (by omega)]; exact c4)
                (m4)
                (by omega)
                (by (try simp (disch := omega) only [Gh2, Lh2, Fh2, Jh2, Gh1, Lh1, Fh1, Jh1]); exact r.j.pc)
                (by (try simp (disch := omega) only [Gh2, Lh2, Fh2, Jh2, Gh1, Lh1, Fh1, Jh1]); exact r.j.pm)
                (by (try simp (disch := omega) only [Gh2, Lh2, Fh2, Jh2, Gh1, Lh1, Fh1, Jh1]); exact r.j.pl)
                (by rw [Gh2 32 (by omega) (by omega) (by omega) (by omega), c32, m162, n162, r.j.hu])
                (by rw [Gh2 33 (by omega) (by omega) (by omega) (by omega), c33, m163, n163, r.j.ti])
                (by rw [Gh2 34 (by omega) (by omega) (by omega) (by omega), c34, m164, n164, r.j.du])
                (by rw [Gh2 35 (by omega) (by omega) (by omega) (by omega), c35, m165, n165, r.j.pr])
                (by (try simp (disch := omega) only [Gh2, Lh2, Fh2, Jh2, Gh1, Lh1, Fh1, Jh1]); exact r.j.ch)
                (by (try simp (disch := omega) only [Gh2, Lh2, Fh2, Jh2, Gh1, Lh1, Fh1, Jh1]); exact r.j.od)
                (by
                intro j hj
                rw [m162, n162]
                simp only [upd]
                split
                · obtain ⟨u', hu, e⟩ := inB_of (n := 5) (by decide) g1
                  exact ⟨u', by omega, e⟩
                · exact r.j.ok j (by omega))
                (by
                intro j
                rw [m163, n163]
                simp only [upd]
                split
                · have q := inB_i g2
                  simp only [Int32.reduceToInt] at q
                  omega
                · exact r.j.tb j)
                (by
                intro j
                rw [m164, n164]
                simp only [upd]
                split
                · have q := inB_i g3
                  simp only [Int32.reduceToInt] at q
                  omega
                · exact r.j.db j)))
          · skip
            have k0 := c_X9_job r.S u a b c nj r.j.c r.j.le
            simp only [uJob, gJob, if_pos g0, if_pos g1, if_pos g2, if_pos g3, if_neg g4] at k0
            have m := c_X10_job r.S u a b c nj r.j.m g0
            simp only [mJob, if_pos g0, if_pos g1, if_pos g2, if_pos g3, if_neg g4] at m
            exact JJ_upd k0 m rfl r
        · skip
          have k0 := c_X9_job r.S u a b c nj r.j.c r.j.le
          simp only [uJob, gJob, if_pos g0, if_pos g1, if_pos g2, if_neg g3] at k0
          have m := c_X10_job r.S u a b c nj r.j.m g0
          simp only [mJob, if_pos g0, if_pos g1, if_pos g2, if_neg g3] at m
          exact JJ_upd k0 m rfl r
      · skip
        have k0 := c_X9_job r.S u a b c nj r.j.c r.j.le
        simp only [uJob, gJob, if_pos g0, if_pos g1, if_neg g2] at k0
        have m := c_X10_job r.S u a b c nj r.j.m g0
        simp only [mJob, if_pos g0, if_pos g1, if_neg g2] at m
        exact JJ_upd k0 m rfl r
    · skip
      have k0 := c_X9_job r.S u a b c nj r.j.c r.j.le
      simp only [uJob, gJob, if_pos g0, if_neg g1] at k0
      have m := c_X10_job r.S u a b c nj r.j.m g0
      simp only [mJob, if_pos g0, if_neg g1] at m
      exact JJ_upd k0 m rfl r
  · obtain rfl : nj = 8 := by have := r.j.le; omega
    have k0 := c_X9_job r.S u a b c 8 r.j.c r.j.le
    simp only [uJob, gJob, Nat.lt_irrefl, if_false, ite_self] at k0
    have m := c_X10_job_full r.S u a b c r.j.m
    simp only [mJob, Nat.lt_irrefl, if_false, ite_self] at m
    exact JJ_upd k0 m rfl r
theorem J_cleaning {h : HF} {nb nl nr nt nd nj np : Nat} (r : Rel h nb nl nr nt nd nj np) (a b v : Int32) : JJ mX9_cleaning mX10_cleaning [.ref 1, .int a, .int b, .int v] [.ref 132, .int a, .int b, .int v] h := by
  have ev : vCng (gi h 36) a b v = vCng (gi h 166) a b v := by rw [r.j.ch]
  by_cases g0 : inB a 0 5 = true
  · skip
    by_cases g1 : inB b 0 5 = true
    · skip
      by_cases g2 : inB v 0 1000 = true
      · skip
        have c := c_X9_cleaning r.S a b v
        simp only [uCng, if_pos g0, if_pos g1, if_pos g2] at c
        obtain ⟨h1, eh1⟩ : ∃ zz : HF, zz = si h 36 (upd (gi h 36) (a.toNatClampNeg * 6 + b.toNatClampNeg) v) := ⟨_, rfl⟩
        replace c := Mc_h eh1 c
        have Sh1 : Sh h1 := by rw [eh1]; (repeat (first | exact r.S | apply Sh.si | apply Sh.sI | apply Sh.sJ | apply Sh.sl))
        have Gh1 : ∀ x, x ≠ 36 → gi h1 x = gi h x := by
          intro x q0; rw [eh1]; (try simp (disch := first | assumption | omega) only [gi_si_ne, gi_sI, gi_sJ, gi_sl, gl_sl_ne, gl_si, gl_sI, gl_sJ, fI_si, fI_sl, fI_sJ, fI_sI_ne, fI_sI_k, fJ_si, fJ_sl, fJ_sI, fJ_sJ_ne])
        have Lh1 : ∀ x, gl h1 x = gl h x := by
          intro x ; rw [eh1]; (try simp (disch := first | assumption | omega) only [gi_si_ne, gi_sI, gi_sJ, gi_sl, gl_sl_ne, gl_si, gl_sI, gl_sJ, fI_si, fI_sl, fI_sJ, fI_sI_ne, fI_sI_k, fJ_si, fJ_sl, fJ_sI, fJ_sJ_ne])
        have Fh1 : ∀ x kk, fI h1 x kk = fI h x kk := by
          intro x kk ; rw [eh1]; first | rfl | (simp (disch := first | assumption | omega) only [fI_si, fI_sl, fI_sJ, fI_sI_o])
        have Jh1 : ∀ x kk, fJ h1 x kk = fJ h x kk := by
          intro x kk ; rw [eh1]; first | rfl | (simp (disch := first | assumption | omega) only [fJ_si, fJ_sl, fJ_sI, fJ_sJ_o])
        have c4 : gi h1 36 = upd (gi h 36) (a.toNatClampNeg * 6 + b.toNatClampNeg) v := by
          rw [eh1]; simp (disch := first | omega | ((repeat (first | exact r.S | apply Sh.si | apply Sh.sI | apply Sh.sJ | apply Sh.sl)); done) | decide | exact kF_K ‹_› (by omega) | exact kI_of (shT_B ‹_›).2.2 | exact kI_of (shT_K ‹_›).2.2.1 | exact kI_of (shT_K ‹_›).2.2.2 | exact kFB ‹_› | exact kFM ‹_› | exact kJM ‹_› | exact kFN ‹_› | exact kJN ‹_› | rfl) only [gi_si_ne, gi_sI, gi_sJ, gi_sl, gl_sl_ne, gl_si, gl_sI, gl_sJ, fI_si, fI_sl, fI_sJ, fI_sI_ne, fI_sI_k, fJ_si, fJ_sl, fJ_sI, fJ_sJ_ne, gi_si_eq, gl_sl_eq, fI_sI_eq, fJ_sJ_eq]
        have m := c_X10_cleaning Sh1 a b v
        rw [Gh1 166 (by omega)] at m
        simp only [mCng, if_pos g0, if_pos g1, if_pos g2] at m
        obtain ⟨h2, eh2⟩ : ∃ zz : HF, zz = si h1 166 (upd (gi h1 166) (6 * a.toNatClampNeg + b.toNatClampNeg) v) := ⟨_, rfl⟩
        replace m := Mc_h eh2 m
        have Sh2 : Sh h2 := by rw [eh2]; (repeat (first | exact Sh1 | apply Sh.si | apply Sh.sI | apply Sh.sJ | apply Sh.sl))
        have Gh2 : ∀ x, x ≠ 166 → gi h2 x = gi h1 x := by
          intro x q0; rw [eh2]; (try simp (disch := first | assumption | omega) only [gi_si_ne, gi_sI, gi_sJ, gi_sl, gl_sl_ne, gl_si, gl_sI, gl_sJ, fI_si, fI_sl, fI_sJ, fI_sI_ne, fI_sI_k, fJ_si, fJ_sl, fJ_sI, fJ_sJ_ne])
        have Lh2 : ∀ x, gl h2 x = gl h1 x := by
          intro x ; rw [eh2]; (try simp (disch := first | assumption | omega) only [gi_si_ne, gi_sI, gi_sJ, gi_sl, gl_sl_ne, gl_si, gl_sI, gl_sJ, fI_si, fI_sl, fI_sJ, fI_sI_ne, fI_sI_k, fJ_si, fJ_sl, fJ_sI, fJ_sJ_ne])
        have Fh2 : ∀ x kk, fI h2 x kk = fI h1 x kk := by
          intro x kk ; rw [eh2]; first | rfl | (simp (disch := first | assumption | omega) only [fI_si, fI_sl, fI_sJ, fI_sI_o])
        have Jh2 : ∀ x kk, fJ h2 x kk = fJ h1 x kk := by
          intro x kk ; rw [eh2]; first | rfl | (simp (disch := first | assumption | omega) only [fJ_si, fJ_sl, fJ_sI, fJ_sJ_o])
        have m4 : gi h2 166 = upd (gi h1 166) (6 * a.toNatClampNeg + b.toNatClampNeg) v := by
          rw [eh2]; simp (disch := first | omega | ((repeat (first | exact Sh1 | apply Sh.si | apply Sh.sI | apply Sh.sJ | apply Sh.sl)); done) | decide | exact kF_K ‹_› (by omega) | exact kI_of (shT_B ‹_›).2.2 | exact kI_of (shT_K ‹_›).2.2.1 | exact kI_of (shT_K ‹_›).2.2.2 | exact kFB ‹_› | exact kFM ‹_› | exact kJM ‹_› | exact kFN ‹_› | exact kJN ‹_› | rfl) only [gi_si_ne, gi_sI, gi_sJ, gi_sl, gl_sl_ne, gl_si, gl_sI, gl_sJ, fI_si, fI_sl, fI_sJ, fI_sI_ne, fI_sI_k, fJ_si, fJ_sl, fJ_sI, fJ_sJ_ne, gi_si_eq, gl_sl_eq, fI_sI_eq, fJ_sJ_eq]
        exact JJ_upd c m ev (Rel.of (Sh2)
            (Ra.of (by (try simp (disch := omega) only [Gh2, Lh2, Fh2, Jh2, Gh1, Lh1, Fh1, Jh1]); exact r.a.c)
            (by (try simp (disch := omega) only [Gh2, Lh2, Fh2, Jh2, Gh1, Lh1, Fh1, Jh1]); exact r.a.m)
            (by (try simp (disch := omega) only [Gh2, Lh2, Fh2, Jh2, Gh1, Lh1, Fh1, Jh1]); exact r.a.le)
            (by (try simp (disch := omega) only [Gh2, Lh2, Fh2, Jh2, Gh1, Lh1, Fh1, Jh1]); exact r.a.A)
            (by (try simp (disch := omega) only [Gh2, Lh2, Fh2, Jh2, Gh1, Lh1, Fh1, Jh1]); exact r.a.P))
            (Rb.of (by (try simp (disch := omega) only [Gh2, Lh2, Fh2, Jh2, Gh1, Lh1, Fh1, Jh1]); exact r.b.c)
            (by (try simp (disch := omega) only [Gh2, Lh2, Fh2, Jh2, Gh1, Lh1, Fh1, Jh1]); exact r.b.m)
            (by (try simp (disch := omega) only [Gh2, Lh2, Fh2, Jh2, Gh1, Lh1, Fh1, Jh1]); exact r.b.le)
            (by (try simp (disch := omega) only [Gh2, Lh2, Fh2, Jh2, Gh1, Lh1, Fh1, Jh1]); exact r.b.day)
            (by (try simp (disch := omega) only [Gh2, Lh2, Fh2, Jh2, Gh1, Lh1, Fh1, Jh1]); exact r.b.B)
            (by (try simp (disch := omega) only [Gh2, Lh2, Fh2, Jh2, Gh1, Lh1, Fh1, Jh1]); exact r.b.S)
            (by (try simp (disch := omega) only [Gh2, Lh2, Fh2, Jh2, Gh1, Lh1, Fh1, Jh1]); exact r.b.L)
            (by (try simp (disch := omega) only [Gh2, Lh2, Fh2, Jh2, Gh1, Lh1, Fh1, Jh1]); exact r.b.P)
            (by (try simp (disch := omega) only [Gh2, Lh2, Fh2, Jh2, Gh1, Lh1, Fh1, Jh1]); exact r.b.lb))
            (Rc.of (by (try simp (disch := omega) only [Gh2, Lh2, Fh2, Jh2, Gh1, Lh1, Fh1, Jh1]); exact r.c.c)
            (by (try simp (disch := omega) only [Gh2, Lh2, Fh2, Jh2, Gh1, Lh1, Fh1, Jh1]); exact r.c.m)
            (by (try simp (disch := omega) only [Gh2, Lh2, Fh2, Jh2, Gh1, Lh1, Fh1, Jh1]); exact r.c.le)
            (by (try simp (disch := omega) only [Gh2, Lh2, Fh2, Jh2, Gh1, Lh1, Fh1, Jh1]); exact r.c.E)
            (by (try simp (disch := omega) only [Gh2, Lh2, Fh2, Jh2, Gh1, Lh1, Fh1, Jh1]); exact r.c.S)
            (by (try simp (disch := omega) only [Gh2, Lh2, Fh2, Jh2, Gh1, Lh1, Fh1, Jh1]); exact r.c.T)
            (by (try simp (disch := omega) only [Gh2, Lh2, Fh2, Jh2, Gh1, Lh1, Fh1, Jh1]); exact r.c.C)
            (by (try simp (disch := omega) only [Gh2, Lh2, Fh2, Jh2, Gh1, Lh1, Fh1, Jh1]); exact r.c.N)
            (by (try simp (disch := omega) only [Gh2, Lh2, Fh2, Jh2, Gh1, Lh1, Fh1, Jh1]); exact r.c.ok)
            (by (try simp (disch := omega) only [Gh2, Lh2, Fh2, Jh2, Gh1, Lh1, Fh1, Jh1]); exact r.c.tm)
            (by (try simp (disch := omega) only [Gh2, Lh2, Fh2, Jh2, Gh1, Lh1, Fh1, Jh1]); exact r.c.tz)
            (by (try simp (disch := omega) only [Gh2, Lh2, Fh2, Jh2, Gh1, Lh1, Fh1, Jh1]); exact r.c.cz)
            (by (try simp (disch := omega) only [Gh2, Lh2, Fh2, Jh2, Gh1, Lh1, Fh1, Jh1]); exact r.c.nn))
            (Rd.of (by (try simp (disch := omega) only [Gh2, Lh2, Fh2, Jh2, Gh1, Lh1, Fh1, Jh1]); exact r.d.c)
            (by (try simp (disch := omega) only [Gh2, Lh2, Fh2, Jh2, Gh1, Lh1, Fh1, Jh1]); exact r.d.m)
            (by (try simp (disch := omega) only [Gh2, Lh2, Fh2, Jh2, Gh1, Lh1, Fh1, Jh1]); exact r.d.le)
            (fun k hk => RdK.of (by (try simp (disch := omega) only [Gh2, Lh2, Fh2, Jh2, Gh1, Lh1, Fh1, Jh1]); exact (r.d.K k hk).am)
              (by (try simp (disch := omega) only [Gh2, Lh2, Fh2, Jh2, Gh1, Lh1, Fh1, Jh1]); exact (r.d.K k hk).bd)
              (by (try simp (disch := omega) only [Gh2, Lh2, Fh2, Jh2, Gh1, Lh1, Fh1, Jh1]); exact (r.d.K k hk).zr)
              (by (try simp (disch := omega) only [Gh2, Lh2, Fh2, Jh2, Gh1, Lh1, Fh1, Jh1]); exact (r.d.K k hk).un)
              (by (try simp (disch := omega) only [Gh2, Lh2, Fh2, Jh2, Gh1, Lh1, Fh1, Jh1]); exact (r.d.K k hk).ul)
              (by (try simp (disch := omega) only [Gh2, Lh2, Fh2, Jh2, Gh1, Lh1, Fh1, Jh1]); exact (r.d.K k hk).lo)
              (by (try simp (disch := omega) only [Gh2, Lh2, Fh2, Jh2, Gh1, Lh1, Fh1, Jh1]); exact (r.d.K k hk).lb)
              (by (try simp (disch := omega) only [Gh2, Lh2, Fh2, Jh2, Gh1, Lh1, Fh1, Jh1]); exact (r.d.K k hk).po)))
            (Re.of (by (try simp (disch := omega) only [Gh2, Lh2, Fh2, Jh2, Gh1, Lh1, Fh1, Jh1]); exact r.e.fd)
            (by (try simp (disch := omega) only [Gh2, Lh2, Fh2, Jh2, Gh1, Lh1, Fh1, Jh1]); exact r.e.be)
            (by (try simp (disch := omega) only [Gh2, Lh2, Fh2, Jh2, Gh1, Lh1, Fh1, Jh1]); exact r.e.bb)
            (by (try simp (disch := omega) only [Gh2, Lh2, Fh2, Jh2, Gh1, Lh1, Fh1, Jh1]); exact r.e.z))
            (Rf.of (by (try simp (disch := omega) only [Gh2, Lh2, Fh2, Jh2, Gh1, Lh1, Fh1, Jh1]); exact r.f.lim)
            (by (try simp (disch := omega) only [Gh2, Lh2, Fh2, Jh2, Gh1, Lh1, Fh1, Jh1]); exact r.f.l0)
            (by (try simp (disch := omega) only [Gh2, Lh2, Fh2, Jh2, Gh1, Lh1, Fh1, Jh1]); exact r.f.cl)
            (by (try simp (disch := omega) only [Gh2, Lh2, Fh2, Jh2, Gh1, Lh1, Fh1, Jh1]); exact r.f.no)
            (fun t ht => RfK.of (by (try simp (disch := omega) only [Gh2, Lh2, Fh2, Jh2, Gh1, Lh1, Fh1, Jh1]); exact (r.f.K t ht).ins)
              (by (try simp (disch := omega) only [Gh2, Lh2, Fh2, Jh2, Gh1, Lh1, Fh1, Jh1]); exact (r.f.K t ht).siz)
              (by (try simp (disch := omega) only [Gh2, Lh2, Fh2, Jh2, Gh1, Lh1, Fh1, Jh1]); exact (r.f.K t ht).bat)
              (by (try simp (disch := omega) only [Gh2, Lh2, Fh2, Jh2, Gh1, Lh1, Fh1, Jh1]); exact (r.f.K t ht).tap)
              (by (try simp (disch := omega) only [Gh2, Lh2, Fh2, Jh2, Gh1, Lh1, Fh1, Jh1]); exact (r.f.K t ht).stn)
              (by (try simp (disch := omega) only [Gh2, Lh2, Fh2, Jh2, Gh1, Lh1, Fh1, Jh1]); exact (r.f.K t ht).sta)
              (by (try simp (disch := omega) only [Gh2, Lh2, Fh2, Jh2, Gh1, Lh1, Fh1, Jh1]); exact (r.f.K t ht).am)
              (by (try simp (disch := omega) only [Gh2, Lh2, Fh2, Jh2, Gh1, Lh1, Fh1, Jh1]); exact (r.f.K t ht).zr)
              (by (try simp (disch := omega) only [Gh2, Lh2, Fh2, Jh2, Gh1, Lh1, Fh1, Jh1]); exact (r.f.K t ht).lo)
              (by (try simp (disch := omega) only [Gh2, Lh2, Fh2, Jh2, Gh1, Lh1, Fh1, Jh1]); exact (r.f.K t ht).h0)
              (by (try simp (disch := omega) only [Gh2, Lh2, Fh2, Jh2, Gh1, Lh1, Fh1, Jh1]); exact (r.f.K t ht).hr)
              (by (try simp (disch := omega) only [Gh2, Lh2, Fh2, Jh2, Gh1, Lh1, Fh1, Jh1]); exact (r.f.K t ht).r6)
              (by (try simp (disch := omega) only [Gh2, Lh2, Fh2, Jh2, Gh1, Lh1, Fh1, Jh1]); exact (r.f.K t ht).hs)
              (by (try simp (disch := omega) only [Gh2, Lh2, Fh2, Jh2, Gh1, Lh1, Fh1, Jh1]); exact (r.f.K t ht).lb)
              (by (try simp (disch := omega) only [Gh2, Lh2, Fh2, Jh2, Gh1, Lh1, Fh1, Jh1]); exact (r.f.K t ht).bb)))
            (Rg.of (by (try simp (disch := omega) only [Gh2, Lh2, Fh2, Jh2, Gh1, Lh1, Fh1, Jh1]); exact r.g.c)
            (by (try simp (disch := omega) only [Gh2, Lh2, Fh2, Jh2, Gh1, Lh1, Fh1, Jh1]); exact r.g.m)
            (by (try simp (disch := omega) only [Gh2, Lh2, Fh2, Jh2, Gh1, Lh1, Fh1, Jh1]); exact r.g.le)
            (by (try simp (disch := omega) only [Gh2, Lh2, Fh2, Jh2, Gh1, Lh1, Fh1, Jh1]); exact r.g.u)
            (by (try simp (disch := omega) only [Gh2, Lh2, Fh2, Jh2, Gh1, Lh1, Fh1, Jh1]); exact r.g.t)
            (by (try simp (disch := omega) only [Gh2, Lh2, Fh2, Jh2, Gh1, Lh1, Fh1, Jh1]); exact r.g.d)
            (by (try simp (disch := omega) only [Gh2, Lh2, Fh2, Jh2, Gh1, Lh1, Fh1, Jh1]); exact r.g.b)
            (by (try simp (disch := omega) only [Gh2, Lh2, Fh2, Jh2, Gh1, Lh1, Fh1, Jh1]); exact r.g.l)
            (by (try simp (disch := omega) only [Gh2, Lh2, Fh2, Jh2, Gh1, Lh1, Fh1, Jh1]); exact r.g.bb)
            (by (try simp (disch := omega) only [Gh2, Lh2, Fh2, Jh2, Gh1, Lh1, Fh1, Jh1]); exact r.g.lb))
            (Rh.of (by (try simp (disch := omega) only [Gh2, Lh2, Fh2, Jh2, Gh1, Lh1, Fh1, Jh1]); exact r.j.c)
            (by (try simp (disch := omega) only [Gh2, Lh2, Fh2, Jh2, Gh1, Lh1, Fh1, Jh1]); exact r.j.m)
            (by (try simp (disch := omega) only [Gh2, Lh2, Fh2, Jh2, Gh1, Lh1, Fh1, Jh1]); exact r.j.le)
            (by (try simp (disch := omega) only [Gh2, Lh2, Fh2, Jh2, Gh1, Lh1, Fh1, Jh1]); exact r.j.pc)
            (by (try simp (disch := omega) only [Gh2, Lh2, Fh2, Jh2, Gh1, Lh1, Fh1, Jh1]); exact r.j.pm)
            (by (try simp (disch := omega) only [Gh2, Lh2, Fh2, Jh2, Gh1, Lh1, Fh1, Jh1]); exact r.j.pl)
            (by (try simp (disch := omega) only [Gh2, Lh2, Fh2, Jh2, Gh1, Lh1, Fh1, Jh1]); exact r.j.hu)
            (by (try simp (disch := omega) only [Gh2, Lh2, Fh2, Jh2, Gh1, Lh1, Fh1, Jh1]); exact r.j.ti)
            (by (try simp (disch := omega) only [Gh2, Lh2, Fh2, Jh2, Gh1, Lh1, Fh1, Jh1]); exact r.j.du)
            (by (try simp (disch := omega) only [Gh2, Lh2, Fh2, Jh2, Gh1, Lh1, Fh1, Jh1]); exact r.j.pr)
            (by rw [Gh2 36 (by omega), c4, m4, Gh1 166 (by omega), r.j.ch, show a.toNatClampNeg * 6 + b.toNatClampNeg = 6 * a.toNatClampNeg + b.toNatClampNeg by omega])
            (by (try simp (disch := omega) only [Gh2, Lh2, Fh2, Jh2, Gh1, Lh1, Fh1, Jh1]); exact r.j.od)
            (by (try simp (disch := omega) only [Gh2, Lh2, Fh2, Jh2, Gh1, Lh1, Fh1, Jh1]); exact r.j.ok)
            (by (try simp (disch := omega) only [Gh2, Lh2, Fh2, Jh2, Gh1, Lh1, Fh1, Jh1]); exact r.j.tb)
            (by (try simp (disch := omega) only [Gh2, Lh2, Fh2, Jh2, Gh1, Lh1, Fh1, Jh1]); exact r.j.db)))
      · skip
        have c := c_X9_cleaning r.S a b v
        simp only [uCng, if_pos g0, if_pos g1, if_neg g2] at c
        have m := c_X10_cleaning r.S a b v
        simp only [mCng, if_pos g0, if_pos g1, if_neg g2] at m
        exact JJ_upd c m ev r
    · skip
      have c := c_X9_cleaning r.S a b v
      simp only [uCng, if_pos g0, if_neg g1] at c
      have m := c_X10_cleaning r.S a b v
      simp only [mCng, if_pos g0, if_neg g1] at m
      exact JJ_upd c m ev r
  · skip
    have c := c_X9_cleaning r.S a b v
    simp only [uCng, if_neg g0] at c
    have m := c_X10_cleaning r.S a b v
    simp only [mCng, if_neg g0] at m
    exact JJ_upd c m ev r
theorem J_idle {h : HF} {nb nl nr nt nd nj np : Nat} (r : Rel h nb nl nr nt nd nj np) : JJ mX9_idle mX10_idle [.ref 1] [.ref 132] h := by
  have c := c_X9_idle r.S
  obtain ⟨h1, eh1⟩ : ∃ zz : HF, zz = sI h 31 4 0 := ⟨_, rfl⟩
  replace c := Mc_h eh1 c
  have Sh1 : Sh h1 := by rw [eh1]; (repeat (first | exact r.S | apply Sh.si | apply Sh.sI | apply Sh.sJ | apply Sh.sl))
  have Gh1 : ∀ x, gi h1 x = gi h x := by
    intro x ; rw [eh1]; (try simp (disch := first | assumption | omega) only [gi_si_ne, gi_sI, gi_sJ, gi_sl, gl_sl_ne, gl_si, gl_sI, gl_sJ, fI_si, fI_sl, fI_sJ, fI_sI_ne, fI_sI_k, fJ_si, fJ_sl, fJ_sI, fJ_sJ_ne])
  have Lh1 : ∀ x, gl h1 x = gl h x := by
    intro x ; rw [eh1]; (try simp (disch := first | assumption | omega) only [gi_si_ne, gi_sI, gi_sJ, gi_sl, gl_sl_ne, gl_si, gl_sI, gl_sJ, fI_si, fI_sl, fI_sJ, fI_sI_ne, fI_sI_k, fJ_si, fJ_sl, fJ_sI, fJ_sJ_ne])
  have Fh1 : ∀ x kk, ¬ (x = 31 ∧ kk = 4) → fI h1 x kk = fI h x kk := by
    intro x kk q0; rw [eh1]; first | rfl | (simp (disch := first | assumption | omega) only [fI_si, fI_sl, fI_sJ, fI_sI_o])
  have Jh1 : ∀ x kk, fJ h1 x kk = fJ h x kk := by
    intro x kk ; rw [eh1]; first | rfl | (simp (disch := first | assumption | omega) only [fJ_si, fJ_sl, fJ_sI, fJ_sJ_o])
  have c4 : fI h1 31 4 = 0 := by
    rw [eh1]; simp (disch := first | omega | ((repeat (first | exact r.S | apply Sh.si | apply Sh.sI | apply Sh.sJ | apply Sh.sl)); done) | decide | exact kF_K ‹_› (by omega) | exact kI_of (shT_B ‹_›).2.2 | exact kI_of (shT_K ‹_›).2.2.1 | exact kI_of (shT_K ‹_›).2.2.2 | exact kFB ‹_› | exact kFM ‹_› | exact kJM ‹_› | exact kFN ‹_› | exact kJN ‹_› | rfl) only [gi_si_ne, gi_sI, gi_sJ, gi_sl, gl_sl_ne, gl_si, gl_sI, gl_sJ, fI_si, fI_sl, fI_sJ, fI_sI_ne, fI_sI_k, fJ_si, fJ_sl, fJ_sI, fJ_sJ_ne, gi_si_eq, gl_sl_eq, fI_sI_eq, fJ_sJ_eq]
  have m := c_X10_idle Sh1
  rw [Fh1 132 38 (by omega)] at m
  obtain ⟨h2, eh2⟩ : ∃ zz : HF, zz = sI h1 132 38 0 := ⟨_, rfl⟩
  replace m := Mc_h eh2 m
  have Sh2 : Sh h2 := by rw [eh2]; (repeat (first | exact Sh1 | apply Sh.si | apply Sh.sI | apply Sh.sJ | apply Sh.sl))
  have Gh2 : ∀ x, gi h2 x = gi h1 x := by
    intro x ; rw [eh2]; (try simp (disch := first | assumption | omega) only [gi_si_ne, gi_sI, gi_sJ, gi_sl, gl_sl_ne, gl_si, gl_sI, gl_sJ, fI_si, fI_sl, fI_sJ, fI_sI_ne, fI_sI_k, fJ_si, fJ_sl, fJ_sI, fJ_sJ_ne])
  have Lh2 : ∀ x, gl h2 x = gl h1 x := by
    intro x ; rw [eh2]; (try simp (disch := first | assumption | omega) only [gi_si_ne, gi_sI, gi_sJ, gi_sl, gl_sl_ne, gl_si, gl_sI, gl_sJ, fI_si, fI_sl, fI_sJ, fI_sI_ne, fI_sI_k, fJ_si, fJ_sl, fJ_sI, fJ_sJ_ne])
  have Fh2 : ∀ x kk, ¬ (x = 132 ∧ kk = 38) → fI h2 x kk = fI h1 x kk := by
    intro x kk q0; rw [eh2]; first | rfl | (simp (disch := first | assumption | omega) only [fI_si, fI_sl, fI_sJ, fI_sI_o])
  have Jh2 : ∀ x kk, fJ h2 x kk = fJ h1 x kk := by
    intro x kk ; rw [eh2]; first | rfl | (simp (disch := first | assumption | omega) only [fJ_si, fJ_sl, fJ_sI, fJ_sJ_o])
  have m4 : fI h2 132 38 = 0 := by
    rw [eh2]; simp (disch := first | omega | ((repeat (first | exact Sh1 | apply Sh.si | apply Sh.sI | apply Sh.sJ | apply Sh.sl)); done) | decide | exact kF_K ‹_› (by omega) | exact kI_of (shT_B ‹_›).2.2 | exact kI_of (shT_K ‹_›).2.2.1 | exact kI_of (shT_K ‹_›).2.2.2 | exact kFB ‹_› | exact kFM ‹_› | exact kJM ‹_› | exact kFN ‹_› | exact kJN ‹_› | rfl) only [gi_si_ne, gi_sI, gi_sJ, gi_sl, gl_sl_ne, gl_si, gl_sI, gl_sJ, fI_si, fI_sl, fI_sJ, fI_sI_ne, fI_sI_k, fJ_si, fJ_sl, fJ_sI, fJ_sJ_ne, gi_si_eq, gl_sl_eq, fI_sI_eq, fJ_sJ_eq]
  exact JJ_upd c m (by rw [r.j.c, r.j.m]) (nj := 0) (Rel.of (Sh2)
      (Ra.of (by (try simp (disch := omega) only [Gh2, Lh2, Fh2, Jh2, Gh1, Lh1, Fh1, Jh1]); exact r.a.c)
      (by (try simp (disch := omega) only [Gh2, Lh2, Fh2, Jh2, Gh1, Lh1, Fh1, Jh1]); exact r.a.m)
      (by (try simp (disch := omega) only [Gh2, Lh2, Fh2, Jh2, Gh1, Lh1, Fh1, Jh1]); exact r.a.le)
      (by (try simp (disch := omega) only [Gh2, Lh2, Fh2, Jh2, Gh1, Lh1, Fh1, Jh1]); exact r.a.A)
      (by (try simp (disch := omega) only [Gh2, Lh2, Fh2, Jh2, Gh1, Lh1, Fh1, Jh1]); exact r.a.P))
      (Rb.of (by (try simp (disch := omega) only [Gh2, Lh2, Fh2, Jh2, Gh1, Lh1, Fh1, Jh1]); exact r.b.c)
      (by (try simp (disch := omega) only [Gh2, Lh2, Fh2, Jh2, Gh1, Lh1, Fh1, Jh1]); exact r.b.m)
      (by (try simp (disch := omega) only [Gh2, Lh2, Fh2, Jh2, Gh1, Lh1, Fh1, Jh1]); exact r.b.le)
      (by (try simp (disch := omega) only [Gh2, Lh2, Fh2, Jh2, Gh1, Lh1, Fh1, Jh1]); exact r.b.day)
      (by (try simp (disch := omega) only [Gh2, Lh2, Fh2, Jh2, Gh1, Lh1, Fh1, Jh1]); exact r.b.B)
      (by (try simp (disch := omega) only [Gh2, Lh2, Fh2, Jh2, Gh1, Lh1, Fh1, Jh1]); exact r.b.S)
      (by (try simp (disch := omega) only [Gh2, Lh2, Fh2, Jh2, Gh1, Lh1, Fh1, Jh1]); exact r.b.L)
      (by (try simp (disch := omega) only [Gh2, Lh2, Fh2, Jh2, Gh1, Lh1, Fh1, Jh1]); exact r.b.P)
      (by (try simp (disch := omega) only [Gh2, Lh2, Fh2, Jh2, Gh1, Lh1, Fh1, Jh1]); exact r.b.lb))
      (Rc.of (by (try simp (disch := omega) only [Gh2, Lh2, Fh2, Jh2, Gh1, Lh1, Fh1, Jh1]); exact r.c.c)
      (by (try simp (disch := omega) only [Gh2, Lh2, Fh2, Jh2, Gh1, Lh1, Fh1, Jh1]); exact r.c.m)
      (by (try simp (disch := omega) only [Gh2, Lh2, Fh2, Jh2, Gh1, Lh1, Fh1, Jh1]); exact r.c.le)
      (by (try simp (disch := omega) only [Gh2, Lh2, Fh2, Jh2, Gh1, Lh1, Fh1, Jh1]); exact r.c.E)
      (by (try simp (disch := omega) only [Gh2, Lh2, Fh2, Jh2, Gh1, Lh1, Fh1, Jh1]); exact r.c.S)
      (by (try simp (disch := omega) only [Gh2, Lh2, Fh2, Jh2, Gh1, Lh1, Fh1, Jh1]); exact r.c.T)
      (by (try simp (disch := omega) only [Gh2, Lh2, Fh2, Jh2, Gh1, Lh1, Fh1, Jh1]); exact r.c.C)
      (by (try simp (disch := omega) only [Gh2, Lh2, Fh2, Jh2, Gh1, Lh1, Fh1, Jh1]); exact r.c.N)
      (by (try simp (disch := omega) only [Gh2, Lh2, Fh2, Jh2, Gh1, Lh1, Fh1, Jh1]); exact r.c.ok)
      (by (try simp (disch := omega) only [Gh2, Lh2, Fh2, Jh2, Gh1, Lh1, Fh1, Jh1]); exact r.c.tm)
      (by (try simp (disch := omega) only [Gh2, Lh2, Fh2, Jh2, Gh1, Lh1, Fh1, Jh1]); exact r.c.tz)
      (by (try simp (disch := omega) only [Gh2, Lh2, Fh2, Jh2, Gh1, Lh1, Fh1, Jh1]); exact r.c.cz)
      (by (try simp (disch := omega) only [Gh2, Lh2, Fh2, Jh2, Gh1, Lh1, Fh1, Jh1]); exact r.c.nn))
      (Rd.of (by (try simp (disch := omega) only [Gh2, Lh2, Fh2, Jh2, Gh1, Lh1, Fh1, Jh1]); exact r.d.c)
      (by (try simp (disch := omega) only [Gh2, Lh2, Fh2, Jh2, Gh1, Lh1, Fh1, Jh1]); exact r.d.m)
      (by (try simp (disch := omega) only [Gh2, Lh2, Fh2, Jh2, Gh1, Lh1, Fh1, Jh1]); exact r.d.le)
      (fun k hk => RdK.of (by (try simp (disch := omega) only [Gh2, Lh2, Fh2, Jh2, Gh1, Lh1, Fh1, Jh1]); exact (r.d.K k hk).am)
        (by (try simp (disch := omega) only [Gh2, Lh2, Fh2, Jh2, Gh1, Lh1, Fh1, Jh1]); exact (r.d.K k hk).bd)
        (by (try simp (disch := omega) only [Gh2, Lh2, Fh2, Jh2, Gh1, Lh1, Fh1, Jh1]); exact (r.d.K k hk).zr)
        (by (try simp (disch := omega) only [Gh2, Lh2, Fh2, Jh2, Gh1, Lh1, Fh1, Jh1]); exact (r.d.K k hk).un)
        (by (try simp (disch := omega) only [Gh2, Lh2, Fh2, Jh2, Gh1, Lh1, Fh1, Jh1]); exact (r.d.K k hk).ul)
        (by (try simp (disch := omega) only [Gh2, Lh2, Fh2, Jh2, Gh1, Lh1, Fh1, Jh1]); exact (r.d.K k hk).lo)
        (by (try simp (disch := omega) only [Gh2, Lh2, Fh2, Jh2, Gh1, Lh1, Fh1, Jh1]); exact (r.d.K k hk).lb)
        (by (try simp (disch := omega) only [Gh2, Lh2, Fh2, Jh2, Gh1, Lh1, Fh1, Jh1]); exact (r.d.K k hk).po)))
      (Re.of (by (try simp (disch := omega) only [Gh2, Lh2, Fh2, Jh2, Gh1, Lh1, Fh1, Jh1]); exact r.e.fd)
      (by (try simp (disch := omega) only [Gh2, Lh2, Fh2, Jh2, Gh1, Lh1, Fh1, Jh1]); exact r.e.be)
      (by (try simp (disch := omega) only [Gh2, Lh2, Fh2, Jh2, Gh1, Lh1, Fh1, Jh1]); exact r.e.bb)
      (by (try simp (disch := omega) only [Gh2, Lh2, Fh2, Jh2, Gh1, Lh1, Fh1, Jh1]); exact r.e.z))
      (Rf.of (by (try simp (disch := omega) only [Gh2, Lh2, Fh2, Jh2, Gh1, Lh1, Fh1, Jh1]); exact r.f.lim)
      (by (try simp (disch := omega) only [Gh2, Lh2, Fh2, Jh2, Gh1, Lh1, Fh1, Jh1]); exact r.f.l0)
      (by (try simp (disch := omega) only [Gh2, Lh2, Fh2, Jh2, Gh1, Lh1, Fh1, Jh1]); exact r.f.cl)
      (by (try simp (disch := omega) only [Gh2, Lh2, Fh2, Jh2, Gh1, Lh1, Fh1, Jh1]); exact r.f.no)
      (fun t ht => RfK.of (by (try simp (disch := omega) only [Gh2, Lh2, Fh2, Jh2, Gh1, Lh1, Fh1, Jh1]); exact (r.f.K t ht).ins)
        (by (try simp (disch := omega) only [Gh2, Lh2, Fh2, Jh2, Gh1, Lh1, Fh1, Jh1]); exact (r.f.K t ht).siz)
        (by (try simp (disch := omega) only [Gh2, Lh2, Fh2, Jh2, Gh1, Lh1, Fh1, Jh1]); exact (r.f.K t ht).bat)
        (by (try simp (disch := omega) only [Gh2, Lh2, Fh2, Jh2, Gh1, Lh1, Fh1, Jh1]); exact (r.f.K t ht).tap)
        (by (try simp (disch := omega) only [Gh2, Lh2, Fh2, Jh2, Gh1, Lh1, Fh1, Jh1]); exact (r.f.K t ht).stn)
        (by (try simp (disch := omega) only [Gh2, Lh2, Fh2, Jh2, Gh1, Lh1, Fh1, Jh1]); exact (r.f.K t ht).sta)
        (by (try simp (disch := omega) only [Gh2, Lh2, Fh2, Jh2, Gh1, Lh1, Fh1, Jh1]); exact (r.f.K t ht).am)
        (by (try simp (disch := omega) only [Gh2, Lh2, Fh2, Jh2, Gh1, Lh1, Fh1, Jh1]); exact (r.f.K t ht).zr)
        (by (try simp (disch := omega) only [Gh2, Lh2, Fh2, Jh2, Gh1, Lh1, Fh1, Jh1]); exact (r.f.K t ht).lo)
        (by (try simp (disch := omega) only [Gh2, Lh2, Fh2, Jh2, Gh1, Lh1, Fh1, Jh1]); exact (r.f.K t ht).h0)
        (by (try simp (disch := omega) only [Gh2, Lh2, Fh2, Jh2, Gh1, Lh1, Fh1, Jh1]); exact (r.f.K t ht).hr)
        (by (try simp (disch := omega) only [Gh2, Lh2, Fh2, Jh2, Gh1, Lh1, Fh1, Jh1]); exact (r.f.K t ht).r6)
        (by (try simp (disch := omega) only [Gh2, Lh2, Fh2, Jh2, Gh1, Lh1, Fh1, Jh1]); exact (r.f.K t ht).hs)
        (by (try simp (disch := omega) only [Gh2, Lh2, Fh2, Jh2, Gh1, Lh1, Fh1, Jh1]); exact (r.f.K t ht).lb)
        (by (try simp (disch := omega) only [Gh2, Lh2, Fh2, Jh2, Gh1, Lh1, Fh1, Jh1]); exact (r.f.K t ht).bb)))
      (Rg.of (by (try simp (disch := omega) only [Gh2, Lh2, Fh2, Jh2, Gh1, Lh1, Fh1, Jh1]); exact r.g.c)
      (by (try simp (disch := omega) only [Gh2, Lh2, Fh2, Jh2, Gh1, Lh1, Fh1, Jh1]); exact r.g.m)
      (by (try simp (disch := omega) only [Gh2, Lh2, Fh2, Jh2, Gh1, Lh1, Fh1, Jh1]); exact r.g.le)
      (by (try simp (disch := omega) only [Gh2, Lh2, Fh2, Jh2, Gh1, Lh1, Fh1, Jh1]); exact r.g.u)
      (by (try simp (disch := omega) only [Gh2, Lh2, Fh2, Jh2, Gh1, Lh1, Fh1, Jh1]); exact r.g.t)
      (by (try simp (disch := omega) only [Gh2, Lh2, Fh2, Jh2, Gh1, Lh1, Fh1, Jh1]); exact r.g.d)
      (by (try simp (disch := omega) only [Gh2, Lh2, Fh2, Jh2, Gh1, Lh1, Fh1, Jh1]); exact r.g.b)
      (by (try simp (disch := omega) only [Gh2, Lh2, Fh2, Jh2, Gh1, Lh1, Fh1, Jh1]); exact r.g.l)
      (by (try simp (disch := omega) only [Gh2, Lh2, Fh2, Jh2, Gh1, Lh1, Fh1, Jh1]); exact r.g.bb)
      (by (try simp (disch := omega) only [Gh2, Lh2, Fh2, Jh2, Gh1, Lh1, Fh1, Jh1]); exact r.g.lb))
      (Rh.of (by rw [Fh2 _ _ (by omega)]; exact c4)
      (m4)
      (by omega)
      (by (try simp (disch := omega) only [Gh2, Lh2, Fh2, Jh2, Gh1, Lh1, Fh1, Jh1]); exact r.j.pc)
      (by (try simp (disch := omega) only [Gh2, Lh2, Fh2, Jh2, Gh1, Lh1, Fh1, Jh1]); exact r.j.pm)
      (by (try simp (disch := omega) only [Gh2, Lh2, Fh2, Jh2, Gh1, Lh1, Fh1, Jh1]); exact r.j.pl)
      (by (try simp (disch := omega) only [Gh2, Lh2, Fh2, Jh2, Gh1, Lh1, Fh1, Jh1]); exact r.j.hu)
      (by (try simp (disch := omega) only [Gh2, Lh2, Fh2, Jh2, Gh1, Lh1, Fh1, Jh1]); exact r.j.ti)
      (by (try simp (disch := omega) only [Gh2, Lh2, Fh2, Jh2, Gh1, Lh1, Fh1, Jh1]); exact r.j.du)
      (by (try simp (disch := omega) only [Gh2, Lh2, Fh2, Jh2, Gh1, Lh1, Fh1, Jh1]); exact r.j.pr)
      (by (try simp (disch := omega) only [Gh2, Lh2, Fh2, Jh2, Gh1, Lh1, Fh1, Jh1]); exact r.j.ch)
      (by (try simp (disch := omega) only [Gh2, Lh2, Fh2, Jh2, Gh1, Lh1, Fh1, Jh1]); exact r.j.od)
      (fun j hj => absurd hj (by omega))
      (by (try simp (disch := omega) only [Gh2, Lh2, Fh2, Jh2, Gh1, Lh1, Fh1, Jh1]); exact r.j.tb)
      (by (try simp (disch := omega) only [Gh2, Lh2, Fh2, Jh2, Gh1, Lh1, Fh1, Jh1]); exact r.j.db)))
