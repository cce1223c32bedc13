theorem Rel39 {h : HF} {nb nl nr nt nd nj np : Nat} (r : Rel h nb nl nr nt nd nj np) (f : Nat → Int32) : Rel (si h 39 f) nb nl nr nt nd nj np :=
  Rel.of (r.S.si _ _)
    (Ra.of (by (try simp (disch := omega) only [gi_si_ne, gi_sI, gi_sJ, gi_sl, gl_sl_ne, gl_si, gl_sI, gl_sJ, fI_si, fI_sl, fI_sJ, fI_sI_ne, fI_sI_k, fJ_si, fJ_sl, fJ_sI, fJ_sJ_ne]); exact r.a.c)
    (by (try simp (disch := omega) only [gi_si_ne, gi_sI, gi_sJ, gi_sl, gl_sl_ne, gl_si, gl_sI, gl_sJ, fI_si, fI_sl, fI_sJ, fI_sI_ne, fI_sI_k, fJ_si, fJ_sl, fJ_sI, fJ_sJ_ne]); exact r.a.m)
    (by (try simp (disch := omega) only [gi_si_ne, gi_sI, gi_sJ, gi_sl, gl_sl_ne, gl_si, gl_sI, gl_sJ, fI_si, fI_sl, fI_sJ, fI_sI_ne, fI_sI_k, fJ_si, fJ_sl, fJ_sI, fJ_sJ_ne]); exact r.a.le)
    (by (try simp (disch := omega) only [gi_si_ne, gi_sI, gi_sJ, gi_sl, gl_sl_ne, gl_si, gl_sI, gl_sJ, fI_si, fI_sl, fI_sJ, fI_sI_ne, fI_sI_k, fJ_si, fJ_sl, fJ_sI, fJ_sJ_ne]); exact r.a.A)
    (by (try simp (disch := omega) only [gi_si_ne, gi_sI, gi_sJ, gi_sl, gl_sl_ne, gl_si, gl_sI, gl_sJ, fI_si, fI_sl, fI_sJ, fI_sI_ne, fI_sI_k, fJ_si, fJ_sl, fJ_sI, fJ_sJ_ne]); exact r.a.P))
    (Rb.of (by (try simp (disch := omega) only [gi_si_ne, gi_sI, gi_sJ, gi_sl, gl_sl_ne, gl_si, gl_sI, gl_sJ, fI_si, fI_sl, fI_sJ, fI_sI_ne, fI_sI_k, fJ_si, fJ_sl, fJ_sI, fJ_sJ_ne]); exact r.b.c)
    (by (try simp (disch := omega) only [gi_si_ne, gi_sI, gi_sJ, gi_sl, gl_sl_ne, gl_si, gl_sI, gl_sJ, fI_si, fI_sl, fI_sJ, fI_sI_ne, fI_sI_k, fJ_si, fJ_sl, fJ_sI, fJ_sJ_ne]); exact r.b.m)
    (by (try simp (disch := omega) only [gi_si_ne, gi_sI, gi_sJ, gi_sl, gl_sl_ne, gl_si, gl_sI, gl_sJ, fI_si, fI_sl, fI_sJ, fI_sI_ne, fI_sI_k, fJ_si, fJ_sl, fJ_sI, fJ_sJ_ne]); exact r.b.le)
    (by (try simp (disch := omega) only [gi_si_ne, gi_sI, gi_sJ, gi_sl, gl_sl_ne, gl_si, gl_sI, gl_sJ, fI_si, fI_sl, fI_sJ, fI_sI_ne, fI_sI_k, fJ_si, fJ_sl, fJ_sI, fJ_sJ_ne]); exact r.b.day)
    (by (try simp (disch := omega) only [gi_si_ne, gi_sI, gi_sJ, gi_sl, gl_sl_ne, gl_si, gl_sI, gl_sJ, fI_si, fI_sl, fI_sJ, fI_sI_ne, fI_sI_k, fJ_si, fJ_sl, fJ_sI, fJ_sJ_ne]); exact r.b.B)
    (by (try simp (disch := omega) only [gi_si_ne, gi_sI, gi_sJ, gi_sl, gl_sl_ne, gl_si, gl_sI, gl_sJ, fI_si, fI_sl, fI_sJ, fI_sI_ne, fI_sI_k, fJ_si, fJ_sl, fJ_sI, fJ_sJ_ne]); exact r.b.S)
    (by (try simp (disch := omega) only [gi_si_ne, gi_sI, gi_sJ, gi_sl, gl_sl_ne, gl_si, gl_sI, gl_sJ, fI_si, fI_sl, fI_sJ, fI_sI_ne, fI_sI_k, fJ_si, fJ_sl, fJ_sI, fJ_sJ_ne]); exact r.b.L)
    (by (try simp (disch := omega) only [gi_si_ne, gi_sI, gi_sJ, gi_sl, gl_sl_ne, gl_si, gl_sI, gl_sJ, fI_si, fI_sl, fI_sJ, fI_sI_ne, fI_sI_k, fJ_si, fJ_sl, fJ_sI, fJ_sJ_ne]); exact r.b.P)
    (by (try simp (disch := omega) only [gi_si_ne, gi_sI, gi_sJ, gi_sl, gl_sl_ne, gl_si, gl_sI, gl_sJ, fI_si, fI_sl, fI_sJ, fI_sI_ne, fI_sI_k, fJ_si, fJ_sl, fJ_sI, fJ_sJ_ne]); exact r.b.lb))
    (Rc.of (by (try simp (disch := omega) only [gi_si_ne, gi_sI, gi_sJ, gi_sl, gl_sl_ne, gl_si, gl_sI, gl_sJ, fI_si, fI_sl, fI_sJ, fI_sI_ne, fI_sI_k, fJ_si, fJ_sl, fJ_sI, fJ_sJ_ne]); exact r.c.c)
    (by (try simp (disch := omega) only [gi_si_ne, gi_sI, gi_sJ, gi_sl, gl_sl_ne, gl_si, gl_sI, gl_sJ, fI_si, fI_sl, fI_sJ, fI_sI_ne, fI_sI_k, fJ_si, fJ_sl, fJ_sI, fJ_sJ_ne]); exact r.c.m)
    (by (try simp (disch := omega) only [gi_si_ne, gi_sI, gi_sJ, gi_sl, gl_sl_ne, gl_si, gl_sI, gl_sJ, fI_si, fI_sl, fI_sJ, fI_sI_ne, fI_sI_k, fJ_si, fJ_sl, fJ_sI, fJ_sJ_ne]); exact r.c.le)
    (by (try simp (disch := omega) only [gi_si_ne, gi_sI, gi_sJ, gi_sl, gl_sl_ne, gl_si, gl_sI, gl_sJ, fI_si, fI_sl, fI_sJ, fI_sI_ne, fI_sI_k, fJ_si, fJ_sl, fJ_sI, fJ_sJ_ne]); exact r.c.E)
    (by (try simp (disch := omega) only [gi_si_ne, gi_sI, gi_sJ, gi_sl, gl_sl_ne, gl_si, gl_sI, gl_sJ, fI_si, fI_sl, fI_sJ, fI_sI_ne, fI_sI_k, fJ_si, fJ_sl, fJ_sI, fJ_sJ_ne]); exact r.c.S)
    (by (try simp (disch := omega) only [gi_si_ne, gi_sI, gi_sJ, gi_sl, gl_sl_ne, gl_si, gl_sI, gl_sJ, fI_si, fI_sl, fI_sJ, fI_sI_ne, fI_sI_k, fJ_si, fJ_sl, fJ_sI, fJ_sJ_ne]); exact r.c.T)
    (by (try simp (disch := omega) only [gi_si_ne, gi_sI, gi_sJ, gi_sl, gl_sl_ne, gl_si, gl_sI, gl_sJ, fI_si, fI_sl, fI_sJ, fI_sI_ne, fI_sI_k, fJ_si, fJ_sl, fJ_sI, fJ_sJ_ne]); exact r.c.C)
    (by (try simp (disch := omega) only [gi_si_ne, gi_sI, gi_sJ, gi_sl, gl_sl_ne, gl_si, gl_sI, gl_sJ, fI_si, fI_sl, fI_sJ, fI_sI_ne, fI_sI_k, fJ_si, fJ_sl, fJ_sI, fJ_sJ_ne]); exact r.c.N)
    (by (try simp (disch := omega) only [gi_si_ne, gi_sI, gi_sJ, gi_sl, gl_sl_ne, gl_si, gl_sI, gl_sJ, fI_si, fI_sl, fI_sJ, fI_sI_ne, fI_sI_k, fJ_si, fJ_sl, fJ_sI, fJ_sJ_ne]); exact r.c.ok)
    (by (try simp (disch := omega) only [gi_si_ne, gi_sI, gi_sJ, gi_sl, gl_sl_ne, gl_si, gl_sI, gl_sJ, fI_si, fI_sl, fI_sJ, fI_sI_ne, fI_sI_k, fJ_si, fJ_sl, fJ_sI, fJ_sJ_ne]); exact r.c.tm)
    (by (try simp (disch := omega) only [gi_si_ne, gi_sI, gi_sJ, gi_sl, gl_sl_ne, gl_si, gl_sI, gl_sJ, fI_si, fI_sl, fI_sJ, fI_sI_ne, fI_sI_k, fJ_si, fJ_sl, fJ_sI, fJ_sJ_ne]); exact r.c.tz)
    (by (try simp (disch := omega) only [gi_si_ne, gi_sI, gi_sJ, gi_sl, gl_sl_ne, gl_si, gl_sI, gl_sJ, fI_si, fI_sl, fI_sJ, fI_sI_ne, fI_sI_k, fJ_si, fJ_sl, fJ_sI, fJ_sJ_ne]); exact r.c.cz)
    (by (try simp (disch := omega) only [gi_si_ne, gi_sI, gi_sJ, gi_sl, gl_sl_ne, gl_si, gl_sI, gl_sJ, fI_si, fI_sl, fI_sJ, fI_sI_ne, fI_sI_k, fJ_si, fJ_sl, fJ_sI, fJ_sJ_ne]); exact r.c.nn))
    (Rd.of (by (try simp (disch := omega) only [gi_si_ne, gi_sI, gi_sJ, gi_sl, gl_sl_ne, gl_si, gl_sI, gl_sJ, fI_si, fI_sl, fI_sJ, fI_sI_ne, fI_sI_k, fJ_si, fJ_sl, fJ_sI, fJ_sJ_ne]); exact r.d.c)
    (by (try simp (disch := omega) only [gi_si_ne, gi_sI, gi_sJ, gi_sl, gl_sl_ne, gl_si, gl_sI, gl_sJ, fI_si, fI_sl, fI_sJ, fI_sI_ne, fI_sI_k, fJ_si, fJ_sl, fJ_sI, fJ_sJ_ne]); exact r.d.m)
    (by (try simp (disch := omega) only [gi_si_ne, gi_sI, gi_sJ, gi_sl, gl_sl_ne, gl_si, gl_sI, gl_sJ, fI_si, fI_sl, fI_sJ, fI_sI_ne, fI_sI_k, fJ_si, fJ_sl, fJ_sI, fJ_sJ_ne]); exact r.d.le)
    (fun k hk => RdK.of (by (try simp (disch := omega) only [gi_si_ne, gi_sI, gi_sJ, gi_sl, gl_sl_ne, gl_si, gl_sI, gl_sJ, fI_si, fI_sl, fI_sJ, fI_sI_ne, fI_sI_k, fJ_si, fJ_sl, fJ_sI, fJ_sJ_ne]); exact (r.d.K k hk).am)
      (by (try simp (disch := omega) only [gi_si_ne, gi_sI, gi_sJ, gi_sl, gl_sl_ne, gl_si, gl_sI, gl_sJ, fI_si, fI_sl, fI_sJ, fI_sI_ne, fI_sI_k, fJ_si, fJ_sl, fJ_sI, fJ_sJ_ne]); exact (r.d.K k hk).bd)
      (by (try simp (disch := omega) only [gi_si_ne, gi_sI, gi_sJ, gi_sl, gl_sl_ne, gl_si, gl_sI, gl_sJ, fI_si, fI_sl, fI_sJ, fI_sI_ne, fI_sI_k, fJ_si, fJ_sl, fJ_sI, fJ_sJ_ne]); exact (r.d.K k hk).zr)
      (by (try simp (disch := omega) only [gi_si_ne, gi_sI, gi_sJ, gi_sl, gl_sl_ne, gl_si, gl_sI, gl_sJ, fI_si, fI_sl, fI_sJ, fI_sI_ne, fI_sI_k, fJ_si, fJ_sl, fJ_sI, fJ_sJ_ne]); exact (r.d.K k hk).un)
      (by (try simp (disch := omega) only [gi_si_ne, gi_sI, gi_sJ, gi_sl, gl_sl_ne, gl_si, gl_sI, gl_sJ, fI_si, fI_sl, fI_sJ, fI_sI_ne, fI_sI_k, fJ_si, fJ_sl, fJ_sI, fJ_sJ_ne]); exact (r.d.K k hk).ul)
      (by (try simp (disch := omega) only [gi_si_ne, gi_sI, gi_sJ, gi_sl, gl_sl_ne, gl_si, gl_sI, gl_sJ, fI_si, fI_sl, fI_sJ, fI_sI_ne, fI_sI_k, fJ_si, fJ_sl, fJ_sI, fJ_sJ_ne]); exact (r.d.K k hk).lo)
      (by (try simp (disch := omega) only [gi_si_ne, gi_sI, gi_sJ, gi_sl, gl_sl_ne, gl_si, gl_sI, gl_sJ, fI_si, fI_sl, fI_sJ, fI_sI_ne, fI_sI_k, fJ_si, fJ_sl, fJ_sI, fJ_sJ_ne]); exact (r.d.K k hk).lb)
      (by (try simp (disch := omega) only [gi_si_ne, gi_sI, gi_sJ, gi_sl, gl_sl_ne, gl_si, gl_sI, gl_sJ, fI_si, fI_sl, fI_sJ, fI_sI_ne, fI_sI_k, fJ_si, fJ_sl, fJ_sI, fJ_sJ_ne]); exact (r.d.K k hk).po)))
    (Re.of (by (try simp (disch := omega) only [gi_si_ne, gi_sI, gi_sJ, gi_sl, gl_sl_ne, gl_si, gl_sI, gl_sJ, fI_si, fI_sl, fI_sJ, fI_sI_ne, fI_sI_k, fJ_si, fJ_sl, fJ_sI, fJ_sJ_ne]); exact r.e.fd)
    (by (try simp (disch := omega) only [gi_si_ne, gi_sI, gi_sJ, gi_sl, gl_sl_ne, gl_si, gl_sI, gl_sJ, fI_si, fI_sl, fI_sJ, fI_sI_ne, fI_sI_k, fJ_si, fJ_sl, fJ_sI, fJ_sJ_ne]); exact r.e.be)
    (by (try simp (disch := omega) only [gi_si_ne, gi_sI, gi_sJ, gi_sl, gl_sl_ne, gl_si, gl_sI, gl_sJ, fI_si, fI_sl, fI_sJ, fI_sI_ne, fI_sI_k, fJ_si, fJ_sl, fJ_sI, fJ_sJ_ne]); exact r.e.bb)
    (by (try simp (disch := omega) only [gi_si_ne, gi_sI, gi_sJ, gi_sl, gl_sl_ne, gl_si, gl_sI, gl_sJ, fI_si, fI_sl, fI_sJ, fI_sI_ne, fI_sI_k, fJ_si, fJ_sl, fJ_sI, fJ_sJ_ne]); exact r.e.z))
    (Rf.of (by (try simp (disch := omega) only [gi_si_ne, gi_sI, gi_sJ, gi_sl, gl_sl_ne, gl_si, gl_sI, gl_sJ, fI_si, fI_sl, fI_sJ, fI_sI_ne, fI_sI_k, fJ_si, fJ_sl, fJ_sI, fJ_sJ_ne]); exact r.f.lim)
    (by (try simp (disch := omega) only [gi_si_ne, gi_sI, gi_sJ, gi_sl, gl_sl_ne, gl_si, gl_sI, gl_sJ, fI_si, fI_sl, fI_sJ, fI_sI_ne, fI_sI_k, fJ_si, fJ_sl, fJ_sI, fJ_sJ_ne]); exact r.f.l0)
    (by (try simp (disch := omega) only [gi_si_ne, gi_sI, gi_sJ, gi_sl, gl_sl_ne, gl_si, gl_sI, gl_sJ, fI_si, fI_sl, fI_sJ, fI_sI_ne, fI_sI_k, fJ_si, fJ_sl, fJ_sI, fJ_sJ_ne]); exact r.f.cl)
    (by (try simp (disch := omega) only [gi_si_ne, gi_sI, gi_sJ, gi_sl, gl_sl_ne, gl_si, gl_sI, gl_sJ, fI_si, fI_sl, fI_sJ, fI_sI_ne, fI_sI_k, fJ_si, fJ_sl, fJ_sI, fJ_sJ_ne]); exact r.f.no)
    (fun t ht => RfK.of (by (try simp (disch := omega) only [gi_si_ne, gi_sI, gi_sJ, gi_sl, gl_sl_ne, gl_si, gl_sI, gl_sJ, fI_si, fI_sl, fI_sJ, fI_sI_ne, fI_sI_k, fJ_si, fJ_sl, fJ_sI, fJ_sJ_ne]); exact (r.f.K t ht).ins)
      (by (try simp (disch := omega) only [gi_si_ne, gi_sI, gi_sJ, gi_sl, gl_sl_ne, gl_si, gl_sI, gl_sJ, fI_si, fI_sl, fI_sJ, fI_sI_ne, fI_sI_k, fJ_si, fJ_sl, fJ_sI, fJ_sJ_ne]); exact (r.f.K t ht).siz)
      (by (try simp (disch := omega) only [gi_si_ne, gi_sI, gi_sJ, gi_sl, gl_sl_ne, gl_si, gl_sI, gl_sJ, fI_si, fI_sl, fI_sJ, fI_sI_ne, fI_sI_k, fJ_si, fJ_sl, fJ_sI, fJ_sJ_ne]); exact (r.f.K t ht).bat)
      (by (try simp (disch := omega) only [gi_si_ne, gi_sI, gi_sJ, gi_sl, gl_sl_ne, gl_si, gl_sI, gl_sJ, fI_si, fI_sl, fI_sJ, fI_sI_ne, fI_sI_k, fJ_si, fJ_sl, fJ_sI, fJ_sJ_ne]); exact (r.f.K t ht).tap)
      (by (try simp (disch := omega) only [gi_si_ne, gi_sI, gi_sJ, gi_sl, gl_sl_ne, gl_si, gl_sI, gl_sJ, fI_si, fI_sl, fI_sJ, fI_sI_ne, fI_sI_k, fJ_si, fJ_sl, fJ_sI, fJ_sJ_ne]); exact (r.f.K t ht).stn)
      (by (try simp (disch := omega) only [gi_si_ne, gi_sI, gi_sJ, gi_sl, gl_sl_ne, gl_si, gl_sI, gl_sJ, fI_si, fI_sl, fI_sJ, fI_sI_ne, fI_sI_k, fJ_si, fJ_sl, fJ_sI, fJ_sJ_ne]); exact (r.f.K t ht).sta)
      (by (try simp (disch := omega) only [gi_si_ne, gi_sI, gi_sJ, gi_sl, gl_sl_ne, gl_si, gl_sI, gl_sJ, fI_si, fI_sl, fI_sJ, fI_sI_ne, fI_sI_k, fJ_si, fJ_sl, fJ_sI, fJ_sJ_ne]); exact (r.f.K t ht).am)
      (by (try simp (disch := omega) only [gi_si_ne, gi_sI, gi_sJ, gi_sl, gl_sl_ne, gl_si, gl_sI, gl_sJ, fI_si, fI_sl, fI_sJ, fI_sI_ne, fI_sI_k, fJ_si, fJ_sl, fJ_sI, fJ_sJ_ne]); exact (r.f.K t ht).zr)
      (by (try simp (disch := omega) only [gi_si_ne, gi_sI, gi_sJ, gi_sl, gl_sl_ne, gl_si, gl_sI, gl_sJ, fI_si, fI_sl, fI_sJ, fI_sI_ne, fI_sI_k, fJ_si, fJ_sl, fJ_sI, fJ_sJ_ne]); exact (r.f.K t ht).lo)
      (by (try simp (disch := omega) only [gi_si_ne, gi_sI, gi_sJ, gi_sl, gl_sl_ne, gl_si, gl_sI, gl_sJ, fI_si, fI_sl, fI_sJ, fI_sI_ne, fI_sI_k, fJ_si, fJ_sl, fJ_sI, fJ_sJ_ne]); exact (r.f.K t ht).h0)
      (by (try simp (disch := omega) only [gi_si_ne, gi_sI, gi_sJ, gi_sl, gl_sl_ne, gl_si, gl_sI, gl_sJ, fI_si, fI_sl, fI_sJ, fI_sI_ne, fI_sI_k, fJ_si, fJ_sl, fJ_sI, fJ_sJ_ne]); exact (r.f.K t ht).hr)
      (by (try simp (disch := omega) only [gi_si_ne, gi_sI, gi_sJ, gi_sl, gl_sl_ne, gl_si, gl_sI, gl_sJ, fI_si, fI_sl, fI_sJ, fI_sI_ne, fI_sI_k, fJ_si, fJ_sl, fJ_sI, fJ_sJ_ne]); exact (r.f.K t ht).r6)
      (by (try simp (disch := omega) only [gi_si_ne, gi_sI, gi_sJ, gi_sl, gl_sl_ne, gl_si, gl_sI, gl_sJ, fI_si, fI_sl, fI_sJ, fI_sI_ne, fI_sI_k, fJ_si, fJ_sl, fJ_sI, fJ_sJ_ne]); exact (r.f.K t ht).hs)
      (by (try simp (disch := omega) only [gi_si_ne, gi_sI, gi_sJ, gi_sl, gl_sl_ne, gl_si, gl_sI, gl_sJ, fI_si, fI_sl, fI_sJ, fI_sI_ne, fI_sI_k, fJ_si, fJ_sl, fJ_sI, fJ_sJ_ne]); exact (r.f.K t ht).lb)
      (by (try simp (disch := omega) only [gi_si_ne, gi_sI, gi_sJ, gi_sl, gl_sl_ne, gl_si, gl_sI, gl_sJ, fI_si, fI_sl, fI_sJ, fI_sI_ne, fI_sI_k, fJ_si, fJ_sl, fJ_sI, fJ_sJ_ne]); exact (r.f.K t ht).bb)))
    (Rg.of (by (try simp (disch := omega) only [gi_si_ne, gi_sI, gi_sJ, gi_sl, gl_sl_ne, gl_si, gl_sI, gl_sJ, fI_si, fI_sl, fI_sJ, fI_sI_ne, fI_sI_k, fJ_si, fJ_sl, fJ_sI, fJ_sJ_ne]); exact r.g.c)
    (by (try simp (disch := omega) only [gi_si_ne, gi_sI, gi_sJ, gi_sl, gl_sl_ne, gl_si, gl_sI, gl_sJ, fI_si, fI_sl, fI_sJ, fI_sI_ne, fI_sI_k, fJ_si, fJ_sl, fJ_sI, fJ_sJ_ne]); exact r.g.m)
    (by (try simp (disch := omega) only [gi_si_ne, gi_sI, gi_sJ, gi_sl, gl_sl_ne, gl_si, gl_sI, gl_sJ, fI_si, fI_sl, fI_sJ, fI_sI_ne, fI_sI_k, fJ_si, fJ_sl, fJ_sI, fJ_sJ_ne]); exact r.g.le)
    (by (try simp (disch := omega) only [gi_si_ne, gi_sI, gi_sJ, gi_sl, gl_sl_ne, gl_si, gl_sI, gl_sJ, fI_si, fI_sl, fI_sJ, fI_sI_ne, fI_sI_k, fJ_si, fJ_sl, fJ_sI, fJ_sJ_ne]); exact r.g.u)
    (by (try simp (disch := omega) only [gi_si_ne, gi_sI, gi_sJ, gi_sl, gl_sl_ne, gl_si, gl_sI, gl_sJ, fI_si, fI_sl, fI_sJ, fI_sI_ne, fI_sI_k, fJ_si, fJ_sl, fJ_sI, fJ_sJ_ne]); exact r.g.t)
    (by (try simp (disch := omega) only [gi_si_ne, gi_sI, gi_sJ, gi_sl, gl_sl_ne, gl_si, gl_sI, gl_sJ, fI_si, fI_sl, fI_sJ, fI_sI_ne, fI_sI_k, fJ_si, fJ_sl, fJ_sI, fJ_sJ_ne]); exact r.g.d)
    (by (try simp (disch := omega) only [gi_si_ne, gi_sI, gi_sJ, gi_sl, gl_sl_ne, gl_si, gl_sI, gl_sJ, fI_si, fI_sl, fI_sJ, fI_sI_ne, fI_sI_k, fJ_si, fJ_sl, fJ_sI, fJ_sJ_ne]); exact r.g.b)
    (by (try simp (disch := omega) only [gi_si_ne, gi_sI, gi_sJ, gi_sl, gl_sl_ne, gl_si, gl_sI, gl_sJ, fI_si, fI_sl, fI_sJ, fI_sI_ne, fI_sI_k, fJ_si, fJ_sl, fJ_sI, fJ_sJ_ne]); exact r.g.l)
    (by (try simp (disch := omega) only [gi_si_ne, gi_sI, gi_sJ, gi_sl, gl_sl_ne, gl_si, gl_sI, gl_sJ, fI_si, fI_sl, fI_sJ, fI_sI_ne, fI_sI_k, fJ_si, fJ_sl, fJ_sI, fJ_sJ_ne]); exact r.g.bb)
    (by (try simp (disch := omega) only [gi_si_ne, gi_sI, gi_sJ, gi_sl, gl_sl_ne, gl_si, gl_sI, gl_sJ, fI_si, fI_sl, fI_sJ, fI_sI_ne, fI_sI_k, fJ_si, fJ_sl, fJ_sI, fJ_sJ_ne]); exact r.g.lb))
    (Rh.of (by (try simp (disch := omega) only [gi_si_ne, gi_sI, gi_sJ, gi_sl, gl_sl_ne, gl_si, gl_sI, gl_sJ, fI_si, fI_sl, fI_sJ, fI_sI_ne, fI_sI_k, fJ_si, fJ_sl, fJ_sI, fJ_sJ_ne]); exact r.j.c)
    (by (try simp (disch := omega) only [gi_si_ne, gi_sI, gi_sJ, gi_sl, gl_sl_ne, gl_si, gl_sI, gl_sJ, fI_si, fI_sl, fI_sJ, fI_sI_ne, fI_sI_k, fJ_si, fJ_sl, fJ_sI, fJ_sJ_ne]); exact r.j.m)
    (by (try simp (disch := omega) only [gi_si_ne, gi_sI, gi_sJ, gi_sl, gl_sl_ne, gl_si, gl_sI, gl_sJ, fI_si, fI_sl, fI_sJ, fI_sI_ne, fI_sI_k, fJ_si, fJ_sl, fJ_sI, fJ_sJ_ne]); exact r.j.le)
    (by (try simp (disch := omega) only [gi_si_ne, gi_sI, gi_sJ, gi_sl, gl_sl_ne, gl_si, gl_sI, gl_sJ, fI_si, fI_sl, fI_sJ, fI_sI_ne, fI_sI_k, fJ_si, fJ_sl, fJ_sI, fJ_sJ_ne]); exact r.j.pc)
    (by (try simp (disch := omega) only [gi_si_ne, gi_sI, gi_sJ, gi_sl, gl_sl_ne, gl_si, gl_sI, gl_sJ, fI_si, fI_sl, fI_sJ, fI_sI_ne, fI_sI_k, fJ_si, fJ_sl, fJ_sI, fJ_sJ_ne]); exact r.j.pm)
    (by (try simp (disch := omega) only [gi_si_ne, gi_sI, gi_sJ, gi_sl, gl_sl_ne, gl_si, gl_sI, gl_sJ, fI_si, fI_sl, fI_sJ, fI_sI_ne, fI_sI_k, fJ_si, fJ_sl, fJ_sI, fJ_sJ_ne]); exact r.j.pl)
    (by (try simp (disch := omega) only [gi_si_ne, gi_sI, gi_sJ, gi_sl, gl_sl_ne, gl_si, gl_sI, gl_sJ, fI_si, fI_sl, fI_sJ, fI_sI_ne, fI_sI_k, fJ_si, fJ_sl, fJ_sI, fJ_sJ_ne]); exact r.j.hu)
    (by (try simp (disch := omega) only [gi_si_ne, gi_sI, gi_sJ, gi_sl, gl_sl_ne, gl_si, gl_sI, gl_sJ, fI_si, fI_sl, fI_sJ, fI_sI_ne, fI_sI_k, fJ_si, fJ_sl, fJ_sI, fJ_sJ_ne]); exact r.j.ti)
    (by (try simp (disch := omega) only [gi_si_ne, gi_sI, gi_sJ, gi_sl, gl_sl_ne, gl_si, gl_sI, gl_sJ, fI_si, fI_sl, fI_sJ, fI_sI_ne, fI_sI_k, fJ_si, fJ_sl, fJ_sI, fJ_sJ_ne]); exact r.j.du)
    (by (try simp (disch := omega) only [gi_si_ne, gi_sI, gi_sJ, gi_sl, gl_sl_ne, gl_si, gl_sI, gl_sJ, fI_si, fI_sl, fI_sJ, fI_sI_ne, fI_sI_k, fJ_si, fJ_sl, fJ_sI, fJ_sJ_ne]); exact r.j.pr)
    (by (try simp (disch := omega) only [gi_si_ne, gi_sI, gi_sJ, gi_sl, gl_sl_ne, gl_si, gl_sI, gl_sJ, fI_si, fI_sl, fI_sJ, fI_sI_ne, fI_sI_k, fJ_si, fJ_sl, fJ_sI, fJ_sJ_ne]); exact r.j.ch)
    (by (try simp (disch := omega) only [gi_si_ne, gi_sI, gi_sJ, gi_sl, gl_sl_ne, gl_si, gl_sI, gl_sJ, fI_si, fI_sl, fI_sJ, fI_sI_ne, fI_sI_k, fJ_si, fJ_sl, fJ_sI, fJ_sJ_ne]); exact r.j.od)
    (by (try simp (disch := omega) only [gi_si_ne, gi_sI, gi_sJ, gi_sl, gl_sl_ne, gl_si, gl_sI, gl_sJ, fI_si, fI_sl, fI_sJ, fI_sI_ne, fI_sI_k, fJ_si, fJ_sl, fJ_sI, fJ_sJ_ne]); exact r.j.ok)
    (by (try simp (disch := omega) only [gi_si_ne, gi_sI, gi_sJ, gi_sl, gl_sl_ne, gl_si, gl_sI, gl_sJ, fI_si, fI_sl, fI_sJ, fI_sI_ne, fI_sI_k, fJ_si, fJ_sl, fJ_sI, fJ_sJ_ne]); exact r.j.tb)
    (by (try simp (disch := omega) only [gi_si_ne, gi_sI, gi_sJ, gi_sl, gl_sl_ne, gl_si, gl_sI, gl_sJ, fI_si, fI_sl, fI_sJ, fI_sI_ne, fI_sI_k, fJ_si, fJ_sl, fJ_sI, fJ_sJ_ne]); exact r.j.db))
theorem TW_ok {h : HF} {nb nl nr nt nd nj np : Nat} (r : Rel h nb nl nr nt nd nj np) {k : Nat} (hk : k < 24) {w' c : Nat → Int32} (hw' : ∀ b, b < 8 → w' b = gi h 39 b) (hc : ∀ b, b < 8 → (0 < c b ↔ 0 < w' b)) (hw : ∀ b, b < 8 → 0 ≤ (gi h 39 b).toInt ∧ (gi h 39 b).toInt ≤ 1000000000) : Sh (uTW h k nl) ∧ (∀ j, fI (uTW h k nl) 132 j = fI h 132 j) ∧ (∀ x, 132 ≤ x → gi (uTW h k nl) x = gi h x) ∧ (∀ x, gl (uTW h k nl) x = gl h x) ∧ vTW h k nl = (if gi h 146 k = 0 then if lkB w' (fun b => sU (gi h 135) (gi h 137) (gi h 136) (fI h 132 0) (nI b) nl) 8 = true then -5 else if usum (gi h 144) k 8 + fsum w' 8 ≤ 20000 then usum (gi (mtL k nl c w' 8 (uTW h k nl)) 144) k 8 else -6 else -4) ∧ Rel (if gi h 146 k = 0 then if lkB w' (fun b => sU (gi h 135) (gi h 137) (gi h 136) (fI h 132 0) (nI b) nl) 8 = true then uTW h k nl else if usum (gi h 144) k 8 + fsum w' 8 ≤ 20000 then mtL k nl c w' 8 (uTW h k nl) else uTW h k nl else uTW h k nl) nb nl nr nt nd nj np := by
  have D := r.d.K k hk
  have eL : lkB (gi h 39) (fun b => sU (gi h 6) (gi h 8) (gi h 7) (fI h 5 4) (nI b) nl) 8 = lkB w' (fun b => sU (gi h 135) (gi h 137) (gi h 136) (fI h 132 0) (nI b) nl) 8 := by
    rw [r.b.B, r.b.L, r.b.S, r.b.day]; exact (lkB_congr hw').symm
  have eF : fsum (gi h 39) 8 = fsum w' 8 := (fsum_congr hw').symm
  simp only [vTW, uTW, D.po, D.un, eL, eF]
  by_cases g3 : gi h 146 k = 0
  · by_cases g4 : lkB w' (fun b => sU (gi h 135) (gi h 137) (gi h 136) (fI h 132 0) (nI b) nl) 8 = true
    · simp only [if_pos g3, if_pos g4]
      refine ⟨r.S, ?_, ?_, ?_, ?_, r⟩ <;> intros <;> first | trivial | rfl
    · by_cases g5 : usum (gi h 144) k 8 + fsum w' 8 ≤ 20000
      · simp only [if_pos g3, if_neg g4, if_pos g5]
        exact take_ok r hk hw' hc hw (by rw [← lkB_congr hw']; exact Bool.eq_false_iff.mpr g4) (by rw [eF]; exact g5)
      · simp only [if_pos g3, if_neg g4, if_neg g5]
        refine ⟨r.S, ?_, ?_, ?_, ?_, r⟩ <;> intros <;> first | trivial | rfl
  · simp only [if_neg g3]
    refine ⟨r.S, ?_, ?_, ?_, ?_, r⟩ <;> intros <;> first | trivial | rfl
def one (j : Nat) (n : Int32) : Nat → Int32 := fun i => if i = j then n else 0
theorem lkB_one {j : Nat} {n : Int32} {F : Nat → Int32} (hn : 0 < n) : ∀ m : Nat, lkB (one j n) F m = (decide (j < m) && decide (F j < n))
  | 0 => by simp [lkB]
  | m + 1 => by
    rw [lkB, lkB_one hn m, one]
    by_cases e : m = j
    · subst e
      rw [if_pos rfl, decide_eq_true hn, decide_eq_false (Nat.lt_irrefl _), decide_eq_true (Nat.lt_succ_self m)]
      simp
    · rw [if_neg e]
      by_cases q : j < m
      · rw [decide_eq_true q, decide_eq_true (show j < m + 1 by omega)]; simp
      · rw [decide_eq_false q, decide_eq_false (show ¬ j < m + 1 by omega)]; simp
theorem fsum_one {j : Nat} {n : Int32} : ∀ m : Nat, fsum (one j n) m = if j < m then n else 0
  | 0 => rfl
  | m + 1 => by
    rw [fsum, fsum_one m, one]
    by_cases e : m = j
    · subst e; rw [if_pos rfl, if_neg (by omega), if_pos (by omega), Int32.zero_add]
    · rw [if_neg e, Int32.add_zero]
      by_cases q : j < m
      · rw [if_pos q, if_pos (by omega)]
      · rw [if_neg q, if_neg (by omega)]
theorem mtL_one {k nl j : Nat} {n : Int32} (hn : 0 < n) (h : HF) : ∀ m : Nat, mtL k nl (one j n) (one j n) m h = if j < m then mTk h k j n nl else h
  | 0 => rfl
  | m + 1 => by
    rw [mtL, mtL_one hn h m]
    by_cases e : m = j
    · subst e; rw [show one m n m = n from if_pos rfl, if_pos hn, if_neg (by omega), if_pos (by omega)]
    · rw [show one j n m = 0 from if_neg e, if_neg (by decide)]
      by_cases q : j < m
      · rw [if_pos q, if_pos (by omega)]
      · rw [if_neg q, if_neg (by omega)]
theorem tI_mul {x y : Int32} (h1 : -2000000000 ≤ x.toInt * y.toInt) (h2 : x.toInt * y.toInt ≤ 2000000000) : (x * y).toInt = x.toInt * y.toInt := by
  rw [Int32.toInt_mul]; exact Int.bmod_eq_of_le (by omega) (by omega)
theorem umW2_one {h1 h : HF} {k j nl : Nat} {n : Int32} (hj : j < 8) (hn : 0 < n) (G : ∀ x, 132 ≤ x → gi h1 x = gi h x) (F0 : fI h1 132 0 = fI h 132 0) : vmW2 h1 k j n nl = (if gi h 146 k = 0 then if lkB (one j n) (fun b => sU (gi h 135) (gi h 137) (gi h 136) (fI h 132 0) (nI b) nl) 8 = true then -5 else if usum (gi h 144) k 8 + fsum (one j n) 8 ≤ 20000 then usum (gi (mtL k nl (one j n) (one j n) 8 h1) 144) k 8 else -6 else -4) ∧ umW2 h1 k j n nl = (if gi h 146 k = 0 then if lkB (one j n) (fun b => sU (gi h 135) (gi h 137) (gi h 136) (fI h 132 0) (nI b) nl) 8 = true then h1 else if usum (gi h 144) k 8 + fsum (one j n) 8 ≤ 20000 then mtL k nl (one j n) (one j n) 8 h1 else h1 else h1) := by
  rw [vmW2, umW2, G 146 (by omega), G 135 (by omega), G 136 (by omega), G 137 (by omega), G 144 (by omega), F0, mtL_one hn, if_pos hj, fsum_one, if_pos hj, lkB_one hn, decide_eq_true hj, Bool.true_and]
  by_cases q : n ≤ sU (gi h 135) (gi h 137) (gi h 136) (fI h 132 0) (nI j) nl
  · rw [if_pos q, if_pos q, decide_eq_false (Int32.not_lt.mpr q)]
    exact ⟨rfl, rfl⟩
  · rw [if_neg q, if_neg q, decide_eq_true (Int32.not_le.mp q)]
    exact ⟨rfl, rfl⟩
theorem J_weigh {h : HF} {nb nl nr nt nd nj np : Nat} (r : Rel h nb nl nr nt nd nj np) (t b n : Int32) : JJ mX9_weigh mX10_weigh [.ref 1, .int t, .int b, .int n] [.ref 132, .int t, .int b, .int n] h := by
  have c := c_X9_weigh r.S t b n nt r.d.c r.d.le nb r.a.c r.a.le nl r.b.c r.b.le
  have m0 := c_X10_weigh r.S t b n nt r.d.m r.d.le nb r.a.m r.a.le nl r.b.m r.b.le r.b.P
  by_cases g0 : ltB t (nI nt) = true
  · by_cases g1 : ltB b (nI nb) = true
    · by_cases g2 : inB n 1 20000 = true
      · have hk : t.toNatClampNeg < 24 := by have := ltB_cl (by have := r.d.le; omega) g0; have := r.d.le; omega
        have hj : b.toNatClampNeg < 8 := by have := ltB_cl (by have := r.a.le; omega) g1; have := r.a.le; omega
        have gn := inB_i g2
        simp only [Int32.reduceToInt] at gn
        have hn : 0 < n := (tI_lt0 _).mpr (by omega)
        simp only [uWeigh, vWeigh, if_pos g0, if_pos g1, if_pos g2] at c
        have r0 : Rel (hW0 h b.toNatClampNeg n) nb nl nr nt nd nj np := Rel39 r _
        have w39 : gi (hW0 h b.toNatClampNeg n) 39 = upd (filF (gi h 39) 0 8) b.toNatClampNeg n := by rw [hW0, gi_si_eq r.S (by decide) (by decide) rfl]
        have hw' : ∀ i, i < 8 → one b.toNatClampNeg n i = gi (hW0 h b.toNatClampNeg n) 39 i := by
          intro i hi
          rw [w39, one]
          simp only [upd, filF, if_pos hi]
        obtain ⟨S1, F1, G1, L1, ev, r1⟩ := TW_ok r0 hk hw' (fun i hi => Iff.rfl) (fun i hi => by
          rw [← hw' i hi, one]
          split
          · omega
          · exact ⟨by decide, by decide⟩)
        have m := c_X10_weigh S1 t b n nt (by rw [F1]; exact r0.d.m) r0.d.le nb (by rw [F1]; exact r0.a.m) r0.a.le nl (by rw [F1]; exact r0.b.m) r0.b.le (by rw [G1 136 (by omega)]; exact r0.b.P)
        simp only [umW, vmW, if_pos g0, if_pos g1, if_pos g2] at m
        obtain ⟨e1, e2⟩ := umW2_one (k := t.toNatClampNeg) (nl := nl) hj hn G1 (F1 0)
        rw [e1, e2] at m
        exact JJ_upd c m ev r1
      · simp only [uWeigh, vWeigh, if_pos g0, if_pos g1, if_neg g2] at c
        simp only [umW, vmW, if_pos g0, if_pos g1, if_neg g2] at m0
        exact JJ_upd c m0 rfl r
    · simp only [uWeigh, vWeigh, if_pos g0, if_neg g1] at c
      simp only [umW, vmW, if_pos g0, if_neg g1] at m0
      exact JJ_upd c m0 rfl r
  · simp only [uWeigh, vWeigh, if_neg g0] at c
    simp only [umW, vmW, if_neg g0] at m0
    exact JJ_upd c m0 rfl r
theorem need_rng {h : HF} {nb nl nr nt nd nj np : Nat} (r : Rel h nb nl nr nt nd nj np) {n : Int32} (gn : 1 ≤ n.toInt ∧ n.toInt ≤ 100) (i : Nat) : 0 ≤ (n * gi h 142 i).toInt ∧ (n * gi h 142 i).toInt ≤ 2000000 ∧ (0 < gi h 142 i ↔ 0 < n * gi h 142 i) := by
  have q := r.c.nn i
  have p1 : 0 ≤ n.toInt * (gi h 142 i).toInt := Int.mul_nonneg (by omega) q.1
  have p2 : n.toInt * (gi h 142 i).toInt ≤ 100 * 20000 := Int.mul_le_mul gn.2 q.2 q.1 (by omega)
  have e := tI_mul (x := n) (y := gi h 142 i) (by omega) (by omega)
  rw [tI_lt0, tI_lt0, e]
  refine ⟨by omega, by omega, fun z => Int.mul_pos (by omega) z, fun z => ?_⟩
  rcases Int.lt_or_eq_of_le q.1 with y | y
  · exact y
  · rw [← y, Int.mul_zero] at z; omega
theorem J_brew {h : HF} {nb nl nr nt nd nj np : Nat} (r : Rel h nb nl nr nt nd nj np) (t q n : Int32) : JJ mX9_brew mX10_brew [.ref 1, .int t, .int q, .int n] [.ref 132, .int t, .int q, .int n] h := by
  have c := c_X9_brew r.S t q n nt r.d.c r.d.le nr r.c.c r.c.le nl r.b.c r.b.le
  have m0 := c_X10_brew r.S t q n nt r.d.m r.d.le nr r.c.m r.c.le nl r.b.m r.b.le r.b.P (fun x i _ _ g => by
    have gn := inB_i g
    simp only [Int32.reduceToInt] at gn
    have q := need_rng r gn (8 * x + i)
    omega)
  by_cases g0 : ltB t (nI nt) = true
  · by_cases g1 : ltB q (nI nr) = true
    · by_cases g2 : inB n 1 100 = true
      · have hk : t.toNatClampNeg < 24 := by have := ltB_cl (by have := r.d.le; omega) g0; have := r.d.le; omega
        have gn := inB_i g2
        simp only [Int32.reduceToInt] at gn
        simp only [uBrew, vBrew, if_pos g0, if_pos g1, if_pos g2] at c
        have r0 : Rel (hB0 h q.toNatClampNeg n) nb nl nr nt nd nj np := Rel39 r _
        have w39 : gi (hB0 h q.toNatClampNeg n) 39 = capF (gi h 39) (fun j => n * gi h 14 (q.toNatClampNeg * 8 + j)) 8 := by rw [hB0, gi_si_eq r.S (by decide) (by decide) rfl]
        have n142 : gi (hB0 h q.toNatClampNeg n) 142 = gi h 142 := by rw [hB0, gi_si_ne (by decide)]
        have hw' : ∀ i, i < 8 → (fun i => n * gi h 142 (8 * q.toNatClampNeg + i)) i = gi (hB0 h q.toNatClampNeg n) 39 i := by
          intro i hi
          rw [w39]
          simp only [capF, if_pos hi]
          rw [r.c.N, Nat.mul_comm 8]
        have hrg : ∀ i, i < 8 → 0 ≤ (gi (hB0 h q.toNatClampNeg n) 39 i).toInt ∧ (gi (hB0 h q.toNatClampNeg n) 39 i).toInt ≤ 1000000000 := fun i hi => by
          rw [← hw' i hi]; have z := need_rng r gn (8 * q.toNatClampNeg + i); exact ⟨z.1, Int.le_trans z.2.1 (by decide)⟩
        obtain ⟨S1, F1, G1, L1, ev, r1⟩ := TW_ok r0 hk (c := fun i => gi h 142 (8 * q.toNatClampNeg + i)) hw' (fun i hi => (need_rng r gn (8 * q.toNatClampNeg + i)).2.2) hrg
        have eF : fsum (gi (hB0 h q.toNatClampNeg n) 39) 8 = fsum (fun i => n * gi h 142 (8 * q.toNatClampNeg + i)) 8 := (fsum_congr hw').symm
        simp only [uBr2, vBr2, eF] at c
        by_cases gz : fsum (fun i => n * gi h 142 (8 * q.toNatClampNeg + i)) 8 = 0
        · simp only [if_pos gz] at c
          have m := c_X10_brew r0.S t q n nt r0.d.m r0.d.le nr r0.c.m r0.c.le nl r0.b.m r0.b.le r0.b.P (fun x i _ _ g => by
            have z := need_rng r0 gn (8 * x + i)
            omega)
          simp only [umBr, vmBr, if_pos g0, if_pos g1, if_pos g2, umB2, vmB2, n142, if_pos gz, ite_self] at m
          exact JJ_upd c m rfl r0
        · simp only [if_neg gz] at c
          have m := c_X10_brew S1 t q n nt (by rw [F1]; exact r0.d.m) r0.d.le nr (by rw [F1]; exact r0.c.m) r0.c.le nl (by rw [F1]; exact r0.b.m) r0.b.le (by rw [G1 136 (by omega)]; exact r0.b.P) (fun x i _ _ g => by
            rw [G1 142 (by omega)]
            have z := need_rng r0 gn (8 * x + i)
            omega)
          simp only [umBr, vmBr, if_pos g0, if_pos g1, if_pos g2, umB2, vmB2, G1 142 (by omega), G1 146 (by omega), G1 135 (by omega), G1 136 (by omega), G1 137 (by omega), G1 144 (by omega), F1, n142, if_neg gz] at m
          exact JJ_upd c m ev r1
      · simp only [uBrew, vBrew, if_pos g0, if_pos g1, if_neg g2] at c
        simp only [umBr, vmBr, if_pos g0, if_pos g1, if_neg g2] at m0
        exact JJ_upd c m0 rfl r
    · simp only [uBrew, vBrew, if_pos g0, if_neg g1] at c
      simp only [umBr, vmBr, if_pos g0, if_neg g1] at m0
      exact JJ_upd c m0 rfl r
  · simp only [uBrew, vBrew, if_neg g0] at c
    simp only [umBr, vmBr, if_neg g0] at m0
    exact JJ_upd c m0 rfl r
theorem J_dropIn {h : HF} {nb nl nr nt nd nj np : Nat} (r : Rel h nb nl nr nt nd nj np) (t : Int32) : JJ mX9_dropIn mX10_dropIn [.ref 1, .int t] [.ref 132, .int t] h := by
  have c := c_X9_dropIn r.S t nt r.d.c r.d.le nl r.b.c r.b.le
  have m0 := c_X10_dropIn r.S t nt r.d.m r.d.le nl r.b.m r.b.le r.b.P (fun i hi => by have := r.e.bb i hi; omega)
  by_cases g0 : ltB t (nI nt) = true
  · have hk : t.toNatClampNeg < 24 := by have := ltB_cl (by have := r.d.le; omega) g0; have := r.d.le; omega
    by_cases g1 : fI h 132 19 = 0
    · simp only [uDI, vDI, if_pos g0, r.e.fd, if_pos g1] at c
      simp only [umDI, vmDI, if_pos g0, if_pos g1, ite_self] at m0
      exact JJ_upd c m0 rfl r
    · simp only [uDI, vDI, if_pos g0, r.e.fd, if_neg g1] at c
      have r0 : Rel (hD0 h) nb nl nr nt nd nj np := Rel39 r _
      have w39 : gi (hD0 h) 39 = va_cpy (gi h 18) (gi h 39) 0 0 8 := by rw [hD0, gi_si_eq r.S (by decide) (by decide) rfl]
      have n147 : gi (hD0 h) 147 = gi h 147 := by rw [hD0, gi_si_ne (by decide)]
      have n19 : fI (hD0 h) 132 19 = fI h 132 19 := by rw [hD0, fI_si]
      have hw' : ∀ i, i < 8 → gi h 147 i = gi (hD0 h) 39 i := by
        intro i hi
        rw [w39, va_cpy, if_pos (by omega), ← r.e.be i hi]
        congr 1; omega
      obtain ⟨S1, F1, G1, L1, ev, r1⟩ := TW_ok r0 hk hw' (fun i hi => Iff.rfl) (fun i hi => by
        rw [← hw' i hi]; have z := r.e.bb i hi; omega)
      have m := c_X10_dropIn S1 t nt (by rw [F1]; exact r0.d.m) r0.d.le nl (by rw [F1]; exact r0.b.m) r0.b.le (by rw [G1 136 (by omega)]; exact r0.b.P) (fun i hi => by rw [G1 147 (by omega)]; have := r0.e.bb i hi; omega)
      simp only [umDI, vmDI, if_pos g0, umD2, vmD2, G1 147 (by omega), G1 146 (by omega), G1 135 (by omega), G1 136 (by omega), G1 137 (by omega), G1 144 (by omega), F1, n147, n19, if_neg g1] at m
      exact JJ_upd c m ev r1
  · simp only [uDI, vDI, if_neg g0] at c
    simp only [umDI, vmDI, if_neg g0] at m0
    exact JJ_upd c m0 rfl r
