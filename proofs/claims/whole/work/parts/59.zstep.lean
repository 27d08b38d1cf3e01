set_option maxHeartbeats 1000000 in
theorem zr_where {u v : List zE} (h : zRel u v) (v1 v2 : Int32) : zStep mX11_where mX12_where [.int v1, .int v2] u v := by
  obtain ⟨R, t1, t2, t3, t4, t5, t6, L, cr, ho, P, pr, po, i, y, a, f1, f2, mn, sp, fp, ca, cs, ct, cv, M, dr, tr, ps, im, ke, rfl, rfl, hI⟩ := h
  obtain ⟨⟨hs, hla, hmn⟩, ⟨ht1, ht4⟩, ⟨hL, hE⟩, hy, ha, hP, hIm⟩ := id hI
  obtain ⟨la, sz, it⟩ := R
  have hw := hL.1
  have hm : lM L ≤ 1000 := by have := hL.2.1; omega
  have gM := zGd_eq hE hL
  have hwM := gM.1
  have hmM : lM M ≤ 1000 := by have := gM.2.1; omega
  have hy1 := hy.1
  refine ⟨6, 6, _, _, by decide, by decide, qX11_where (la, sz, it) (t1, t2, t3, t4, t5, t6) L cr ho P pr po i y a (f1, f2) hw hm v1 v2, qX12_where (mLa la sz, mn, mIt it, sp, f2) (t4, t1, f1, fp, ca, cs, ct, cv) M dr tr (ps, y.1, im, ke) (a.2.2.2.2, a.2.2.2.1) hwM hmM v1 v2, ?_⟩
  rintro z u' z' v' ⟨rfl, cr9, ho9, p9, rfl⟩ ⟨rfl, sp9, dr9, tr9, rfl⟩
  exact ⟨aWhere_eq hE hw v1 v2, zRel_mk hI⟩
set_option maxHeartbeats 1000000 in
theorem zr_tram {u v : List zE} (h : zRel u v) (v1 : Int32) : zStep mX11_tram mX12_tram [.int v1] u v := by
  obtain ⟨R, t1, t2, t3, t4, t5, t6, L, cr, ho, P, pr, po, i, y, a, f1, f2, mn, sp, fp, ca, cs, ct, cv, M, dr, tr, ps, im, ke, rfl, rfl, hI⟩ := h
  obtain ⟨⟨hs, hla, hmn⟩, ⟨ht1, ht4⟩, ⟨hL, hE⟩, hy, ha, hP, hIm⟩ := id hI
  obtain ⟨la, sz, it⟩ := R
  have hw := hL.1
  have hm : lM L ≤ 1000 := by have := hL.2.1; omega
  have gM := zGd_eq hE hL
  have hwM := gM.1
  have hmM : lM M ≤ 1000 := by have := gM.2.1; omega
  have hy1 := hy.1
  refine ⟨6, 6, _, _, by decide, by decide, qX11_tram (la, sz, it) (t1, t2, t3, t4, t5, t6) L cr ho P pr po i y a (f1, f2) hw hm v1, qX12_tram (mLa la sz, mn, mIt it, sp, f2) (t4, t1, f1, fp, ca, cs, ct, cv) M dr tr (ps, y.1, im, ke) (a.2.2.2.2, a.2.2.2.1) hwM hmM v1, ?_⟩
  rintro z u' z' v' ⟨rfl, cr9, ho9, p9, rfl⟩ ⟨rfl, sp9, dr9, tr9, rfl⟩
  exact ⟨aTram_eq hE v1, zRel_mk hI⟩
set_option maxHeartbeats 1000000 in
theorem zr_there {u v : List zE} (h : zRel u v) (v1 : Int32) : zStep mX11_there mX12_there [.int v1] u v := by
  obtain ⟨R, t1, t2, t3, t4, t5, t6, L, cr, ho, P, pr, po, i, y, a, f1, f2, mn, sp, fp, ca, cs, ct, cv, M, dr, tr, ps, im, ke, rfl, rfl, hI⟩ := h
  obtain ⟨⟨hs, hla, hmn⟩, ⟨ht1, ht4⟩, ⟨hL, hE⟩, hy, ha, hP, hIm⟩ := id hI
  obtain ⟨la, sz, it⟩ := R
  have hw := hL.1
  have hm : lM L ≤ 1000 := by have := hL.2.1; omega
  have gM := zGd_eq hE hL
  have hwM := gM.1
  have hmM : lM M ≤ 1000 := by have := gM.2.1; omega
  have hy1 := hy.1
  refine ⟨6, 6, _, _, by decide, by decide, qX11_there (la, sz, it) (t1, t2, t3, t4, t5, t6) L cr ho P pr po i y a (f1, f2) hw hm v1, qX12_there (mLa la sz, mn, mIt it, sp, f2) (t4, t1, f1, fp, ca, cs, ct, cv) M dr tr (ps, y.1, im, ke) (a.2.2.2.2, a.2.2.2.1) hwM hmM v1, ?_⟩
  rintro z u' z' v' ⟨rfl, cr9, ho9, p9, rfl⟩ ⟨rfl, sp9, dr9, tr9, rfl⟩
  exact ⟨aThere_eq hE v1, zRel_mk hI⟩
set_option maxHeartbeats 1000000 in
theorem zr_when {u v : List zE} (h : zRel u v) (v1 : Int32) : zStep mX11_when mX12_when [.int v1] u v := by
  obtain ⟨R, t1, t2, t3, t4, t5, t6, L, cr, ho, P, pr, po, i, y, a, f1, f2, mn, sp, fp, ca, cs, ct, cv, M, dr, tr, ps, im, ke, rfl, rfl, hI⟩ := h
  obtain ⟨⟨hs, hla, hmn⟩, ⟨ht1, ht4⟩, ⟨hL, hE⟩, hy, ha, hP, hIm⟩ := id hI
  obtain ⟨la, sz, it⟩ := R
  have hw := hL.1
  have hm : lM L ≤ 1000 := by have := hL.2.1; omega
  have gM := zGd_eq hE hL
  have hwM := gM.1
  have hmM : lM M ≤ 1000 := by have := gM.2.1; omega
  have hy1 := hy.1
  refine ⟨6, 6, _, _, by decide, by decide, qX11_when (la, sz, it) (t1, t2, t3, t4, t5, t6) L cr ho P pr po i y a (f1, f2) hw hm v1, qX12_when (mLa la sz, mn, mIt it, sp, f2) (t4, t1, f1, fp, ca, cs, ct, cv) M dr tr (ps, y.1, im, ke) (a.2.2.2.2, a.2.2.2.1) hwM hmM v1, ?_⟩
  rintro z u' z' v' ⟨rfl, cr9, ho9, p9, rfl⟩ ⟨rfl, sp9, dr9, tr9, rfl⟩
  exact ⟨aWhen_eq hE v1, zRel_mk hI⟩
set_option maxHeartbeats 1000000 in
theorem zr_all {u v : List zE} (h : zRel u v) : zStep mX11_all mX12_all [] u v := by
  obtain ⟨R, t1, t2, t3, t4, t5, t6, L, cr, ho, P, pr, po, i, y, a, f1, f2, mn, sp, fp, ca, cs, ct, cv, M, dr, tr, ps, im, ke, rfl, rfl, hI⟩ := h
  obtain ⟨⟨hs, hla, hmn⟩, ⟨ht1, ht4⟩, ⟨hL, hE⟩, hy, ha, hP, hIm⟩ := id hI
  obtain ⟨la, sz, it⟩ := R
  have hw := hL.1
  have hm : lM L ≤ 1000 := by have := hL.2.1; omega
  have gM := zGd_eq hE hL
  have hwM := gM.1
  have hmM : lM M ≤ 1000 := by have := gM.2.1; omega
  have hy1 := hy.1
  refine ⟨6, 6, _, _, by decide, by decide, qX11_all (la, sz, it) (t1, t2, t3, t4, t5, t6) L cr ho P pr po i y a (f1, f2) hw hm , qX12_all (mLa la sz, mn, mIt it, sp, f2) (t4, t1, f1, fp, ca, cs, ct, cv) M dr tr (ps, y.1, im, ke) (a.2.2.2.2, a.2.2.2.1) hwM hmM , ?_⟩
  rintro z u' z' v' ⟨rfl, cr9, ho9, p9, rfl⟩ ⟨rfl, sp9, dr9, tr9, rfl⟩
  exact ⟨aAll_eq hE, zRel_mk hI⟩
set_option maxHeartbeats 1000000 in
theorem zr_never {u v : List zE} (h : zRel u v) : zStep mX11_never mX12_never [] u v := by
  obtain ⟨R, t1, t2, t3, t4, t5, t6, L, cr, ho, P, pr, po, i, y, a, f1, f2, mn, sp, fp, ca, cs, ct, cv, M, dr, tr, ps, im, ke, rfl, rfl, hI⟩ := h
  obtain ⟨⟨hs, hla, hmn⟩, ⟨ht1, ht4⟩, ⟨hL, hE⟩, hy, ha, hP, hIm⟩ := id hI
  obtain ⟨la, sz, it⟩ := R
  have hw := hL.1
  have hm : lM L ≤ 1000 := by have := hL.2.1; omega
  have gM := zGd_eq hE hL
  have hwM := gM.1
  have hmM : lM M ≤ 1000 := by have := gM.2.1; omega
  have hy1 := hy.1
  refine ⟨6, 6, _, _, by decide, by decide, qX11_never (la, sz, it) (t1, t2, t3, t4, t5, t6) L cr ho P pr po i y a (f1, f2) hw hm , qX12_never (mLa la sz, mn, mIt it, sp, f2) (t4, t1, f1, fp, ca, cs, ct, cv) M dr tr (ps, y.1, im, ke) (a.2.2.2.2, a.2.2.2.1) hwM hmM , ?_⟩
  rintro z u' z' v' ⟨rfl, cr9, ho9, p9, rfl⟩ ⟨rfl, sp9, dr9, tr9, rfl⟩
  exact ⟨aNever_eq hE, zRel_mk hI⟩
set_option maxHeartbeats 1000000 in
theorem zr_holding {u v : List zE} (h : zRel u v) : zStep mX11_holding mX12_holding [] u v := by
  obtain ⟨R, t1, t2, t3, t4, t5, t6, L, cr, ho, P, pr, po, i, y, a, f1, f2, mn, sp, fp, ca, cs, ct, cv, M, dr, tr, ps, im, ke, rfl, rfl, hI⟩ := h
  obtain ⟨⟨hs, hla, hmn⟩, ⟨ht1, ht4⟩, ⟨hL, hE⟩, hy, ha, hP, hIm⟩ := id hI
  obtain ⟨la, sz, it⟩ := R
  have hw := hL.1
  have hm : lM L ≤ 1000 := by have := hL.2.1; omega
  have gM := zGd_eq hE hL
  have hwM := gM.1
  have hmM : lM M ≤ 1000 := by have := gM.2.1; omega
  have hy1 := hy.1
  refine ⟨5, 5, _, _, by decide, by decide, qX11_holding (la, sz, it) (t1, t2, t3, t4, t5, t6) L cr ho P pr po i y a (f1, f2) hw hm , qX12_holding (mLa la sz, mn, mIt it, sp, f2) (t4, t1, f1, fp, ca, cs, ct, cv) M dr tr (ps, y.1, im, ke) (a.2.2.2.2, a.2.2.2.1) hwM hmM , ?_⟩
  rintro z u' z' v' ⟨rfl, cr9, ho9, p9, rfl⟩ ⟨rfl, sp9, dr9, tr9, rfl⟩
  exact ⟨aHold_eq hE, zRel_mk hI⟩
set_option maxHeartbeats 1000000 in
theorem zr_kind {u v : List zE} (h : zRel u v) (v1 : Int32) : zStep mX11_kind mX12_kind [.int v1] u v := by
  obtain ⟨R, t1, t2, t3, t4, t5, t6, L, cr, ho, P, pr, po, i, y, a, f1, f2, mn, sp, fp, ca, cs, ct, cv, M, dr, tr, ps, im, ke, rfl, rfl, hI⟩ := h
  obtain ⟨⟨hs, hla, hmn⟩, ⟨ht1, ht4⟩, ⟨hL, hE⟩, hy, ha, hP, hIm⟩ := id hI
  obtain ⟨la, sz, it⟩ := R
  have hw := hL.1
  have hm : lM L ≤ 1000 := by have := hL.2.1; omega
  have gM := zGd_eq hE hL
  have hwM := gM.1
  have hmM : lM M ≤ 1000 := by have := gM.2.1; omega
  have hy1 := hy.1
  refine ⟨2, 2, _, _, by decide, by decide, qX11_kind (la, sz, it) (t1, t2, t3, t4, t5, t6) L cr ho P pr po i y a (f1, f2) hw hm v1, qX12_kind (mLa la sz, mn, mIt it, sp, f2) (t4, t1, f1, fp, ca, cs, ct, cv) M dr tr (ps, y.1, im, ke) (a.2.2.2.2, a.2.2.2.1) hwM hmM v1, ?_⟩
  rintro z u' z' v' ⟨rfl, cr9, ho9, p9, rfl⟩ ⟨rfl, sp9, dr9, tr9, rfl⟩
  exact ⟨aKind_eq hE hw v1, zRel_mk hI⟩
set_option maxHeartbeats 1000000 in
theorem zr_stop {u v : List zE} (h : zRel u v) (v1 v2 : Int32) : zStep mX11_stop mX12_stop [.int v1, .int v2] u v := by
  obtain ⟨R, t1, t2, t3, t4, t5, t6, L, cr, ho, P, pr, po, i, y, a, f1, f2, mn, sp, fp, ca, cs, ct, cv, M, dr, tr, ps, im, ke, rfl, rfl, hI⟩ := h
  obtain ⟨⟨hs, hla, hmn⟩, ⟨ht1, ht4⟩, ⟨hL, hE⟩, hy, ha, hP, hIm⟩ := id hI
  obtain ⟨la, sz, it⟩ := R
  have hw := hL.1
  have hm : lM L ≤ 1000 := by have := hL.2.1; omega
  have gM := zGd_eq hE hL
  have hwM := gM.1
  have hmM : lM M ≤ 1000 := by have := gM.2.1; omega
  have hy1 := hy.1
  refine ⟨5, 5, _, _, by decide, by decide, qX11_stop (la, sz, it) (t1, t2, t3, t4, t5, t6) L cr ho P pr po i y a (f1, f2) hw hm v1 v2, qX12_stop (mLa la sz, mn, mIt it, sp, f2) (t4, t1, f1, fp, ca, cs, ct, cv) M dr tr (ps, y.1, im, ke) (a.2.2.2.2, a.2.2.2.1) hwM hmM v1 v2, ?_⟩
  rintro z u' z' v' ⟨rfl, cr9, ho9, p9, rfl⟩ ⟨rfl, sp9, dr9, tr9, rfl⟩
  exact ⟨aStop_eq hE v1 v2, zRel_mk hI⟩
set_option maxHeartbeats 1000000 in
theorem zr_person {u v : List zE} (h : zRel u v) (v1 v2 : Int32) : zStep mX11_person mX12_person [.int v1, .int v2] u v := by
  obtain ⟨R, t1, t2, t3, t4, t5, t6, L, cr, ho, P, pr, po, i, y, a, f1, f2, mn, sp, fp, ca, cs, ct, cv, M, dr, tr, ps, im, ke, rfl, rfl, hI⟩ := h
  obtain ⟨⟨hs, hla, hmn⟩, ⟨ht1, ht4⟩, ⟨hL, hE⟩, hy, ha, hP, hIm⟩ := id hI
  obtain ⟨la, sz, it⟩ := R
  have hw := hL.1
  have hm : lM L ≤ 1000 := by have := hL.2.1; omega
  have gM := zGd_eq hE hL
  have hwM := gM.1
  have hmM : lM M ≤ 1000 := by have := gM.2.1; omega
  have hy1 := hy.1
  refine ⟨3, 3, _, _, by decide, by decide, qX11_person (la, sz, it) (t1, t2, t3, t4, t5, t6) L cr ho P pr po i y a (f1, f2) hw hm v1 v2, qX12_person (mLa la sz, mn, mIt it, sp, f2) (t4, t1, f1, fp, ca, cs, ct, cv) M dr tr (ps, y.1, im, ke) (a.2.2.2.2, a.2.2.2.1) hwM hmM v1 v2, ?_⟩
  rintro z u' z' v' ⟨rfl, cr9, ho9, p9, rfl⟩ ⟨rfl, sp9, dr9, tr9, rfl⟩
  exact ⟨aPerson_eq hE hw v1 v2, zRel_mk hI⟩
set_option maxHeartbeats 1000000 in
theorem zr_call {u v : List zE} (h : zRel u v) (v1 v2 : Int32) : zStep mX11_call mX12_call [.int v1, .int v2] u v := by
  obtain ⟨R, t1, t2, t3, t4, t5, t6, L, cr, ho, P, pr, po, i, y, a, f1, f2, mn, sp, fp, ca, cs, ct, cv, M, dr, tr, ps, im, ke, rfl, rfl, hI⟩ := h
  obtain ⟨⟨hs, hla, hmn⟩, ⟨ht1, ht4⟩, ⟨hL, hE⟩, hy, ha, hP, hIm⟩ := id hI
  obtain ⟨la, sz, it⟩ := R
  have hw := hL.1
  have hm : lM L ≤ 1000 := by have := hL.2.1; omega
  have gM := zGd_eq hE hL
  have hwM := gM.1
  have hmM : lM M ≤ 1000 := by have := gM.2.1; omega
  have hy1 := hy.1
  refine ⟨6, 6, _, _, by decide, by decide, qX11_call (la, sz, it) (t1, t2, t3, t4, t5, t6) L cr ho P pr po i y a (f1, f2) hw hm hL.2.2 v1 v2, qX12_call (mLa la sz, mn, mIt it, sp, f2) (t4, t1, f1, fp, ca, cs, ct, cv) M dr tr (ps, y.1, im, ke) (a.2.2.2.2, a.2.2.2.1) hwM hmM gM.2.2 v1 v2, ?_⟩
  rintro z u' z' v' ⟨rfl, cr9, ho9, p9, rfl⟩ ⟨rfl, sp9, dr9, tr9, rfl⟩
  exact ⟨aCall_eq hE v1 v2, zRel_mk hI⟩
set_option maxHeartbeats 1000000 in
theorem zr_go {u v : List zE} (h : zRel u v) (v1 v2 : Int32) : zStep mX11_go mX12_go [.int v1, .int v2] u v := by
  obtain ⟨R, t1, t2, t3, t4, t5, t6, L, cr, ho, P, pr, po, i, y, a, f1, f2, mn, sp, fp, ca, cs, ct, cv, M, dr, tr, ps, im, ke, rfl, rfl, hI⟩ := h
  obtain ⟨⟨hs, hla, hmn⟩, ⟨ht1, ht4⟩, ⟨hL, hE⟩, hy, ha, hP, hIm⟩ := id hI
  obtain ⟨la, sz, it⟩ := R
  have hw := hL.1
  have hm : lM L ≤ 1000 := by have := hL.2.1; omega
  have gM := zGd_eq hE hL
  have hwM := gM.1
  have hmM : lM M ≤ 1000 := by have := gM.2.1; omega
  have hy1 := hy.1
  refine ⟨7, 6, _, _, by decide, by decide, qX11_go (la, sz, it) (t1, t2, t3, t4, t5, t6) L cr ho P pr po i y a (f1, f2) hw hm v1 v2, qX12_go (mLa la sz, mn, mIt it, sp, f2) (t4, t1, f1, fp, ca, cs, ct, cv) M dr tr (ps, y.1, im, ke) (a.2.2.2.2, a.2.2.2.1) hwM hmM v1 v2, ?_⟩
  rintro z u' z' v' ⟨rfl, cr9, ho9, p9, rfl⟩ ⟨rfl, sp9, dr9, tr9, rfl⟩
  exact ⟨aGo_eq hE hw v1 v2, zRel_mk hI⟩
set_option maxHeartbeats 1000000 in
theorem zr_walkers {u v : List zE} (h : zRel u v) (v1 v2 : Int32) : zStep mX11_walkers mX12_walkers [.int v1, .int v2] u v := by
  obtain ⟨R, t1, t2, t3, t4, t5, t6, L, cr, ho, P, pr, po, i, y, a, f1, f2, mn, sp, fp, ca, cs, ct, cv, M, dr, tr, ps, im, ke, rfl, rfl, hI⟩ := h
  obtain ⟨⟨hs, hla, hmn⟩, ⟨ht1, ht4⟩, ⟨hL, hE⟩, hy, ha, hP, hIm⟩ := id hI
  obtain ⟨la, sz, it⟩ := R
  have hw := hL.1
  have hm : lM L ≤ 1000 := by have := hL.2.1; omega
  have gM := zGd_eq hE hL
  have hwM := gM.1
  have hmM : lM M ≤ 1000 := by have := gM.2.1; omega
  have hy1 := hy.1
  refine ⟨7, 6, _, _, by decide, by decide, qX11_walkers (la, sz, it) (t1, t2, t3, t4, t5, t6) L cr ho P pr po i y a (f1, f2) hw hm v1 v2, qX12_walkers (mLa la sz, mn, mIt it, sp, f2) (t4, t1, f1, fp, ca, cs, ct, cv) M dr tr (ps, y.1, im, ke) (a.2.2.2.2, a.2.2.2.1) hwM hmM v1 v2, ?_⟩
  rintro z u' z' v' ⟨rfl, cr9, ho9, p9, rfl⟩ ⟨rfl, sp9, dr9, tr9, rfl⟩
  exact ⟨aWalk_eq hE v1 v2, zRel_mk hI⟩
set_option maxHeartbeats 1000000 in
theorem zr_rain {u v : List zE} (h : zRel u v) (v1 v2 v3 : Int32) : zStep mX11_rain mX12_rain [.int v1, .int v2, .int v3] u v := by
  obtain ⟨R, t1, t2, t3, t4, t5, t6, L, cr, ho, P, pr, po, i, y, a, f1, f2, mn, sp, fp, ca, cs, ct, cv, M, dr, tr, ps, im, ke, rfl, rfl, hI⟩ := h
  obtain ⟨⟨hs, hla, hmn⟩, ⟨ht1, ht4⟩, ⟨hL, hE⟩, hy, ha, hP, hIm⟩ := id hI
  obtain ⟨la, sz, it⟩ := R
  have hw := hL.1
  have hm : lM L ≤ 1000 := by have := hL.2.1; omega
  have gM := zGd_eq hE hL
  have hwM := gM.1
  have hmM : lM M ≤ 1000 := by have := gM.2.1; omega
  have hy1 := hy.1
  refine ⟨5, 5, _, _, by decide, by decide, qX11_rain la sz it (t1, t2, t3, t4, t5, t6) L cr ho P pr po i y a f1 f2 hw hm hs v1 v2 v3, qX12_rain (mLa la sz, mn, mIt it, sp, f2) (t4, t1, f1, fp, ca, cs, ct, cv) M dr tr (ps, y.1, im, ke) (a.2.2.2.2, a.2.2.2.1) hwM hmM v1 v2 v3, ?_⟩
  rintro z u' z' v' ⟨rfl, cr9, ho9, rfl⟩ ⟨rfl, sp9, dr9, tr9, rfl⟩
  exact ⟨aRain_eq hE v1 v2 v3, zRel_mk hI⟩
set_option maxHeartbeats 1000000 in
theorem zr_drawn {u v : List zE} (h : zRel u v) (v1 v2 v3 : Int32) : zStep mX11_drawn mX12_drawn [.int v1, .int v2, .int v3] u v := by
  obtain ⟨R, t1, t2, t3, t4, t5, t6, L, cr, ho, P, pr, po, i, y, a, f1, f2, mn, sp, fp, ca, cs, ct, cv, M, dr, tr, ps, im, ke, rfl, rfl, hI⟩ := h
  obtain ⟨⟨hs, hla, hmn⟩, ⟨ht1, ht4⟩, ⟨hL, hE⟩, hy, ha, hP, hIm⟩ := id hI
  obtain ⟨la, sz, it⟩ := R
  have hw := hL.1
  have hm : lM L ≤ 1000 := by have := hL.2.1; omega
  have gM := zGd_eq hE hL
  have hwM := gM.1
  have hmM : lM M ≤ 1000 := by have := gM.2.1; omega
  have hy1 := hy.1
  refine ⟨6, 6, _, _, by decide, by decide, qX11_drawn la sz it (t1, t2, t3, t4, t5, t6) L cr ho P pr po i y a f1 f2 hw hm hs v1 v2 v3, qX12_drawn (mLa la sz, mn, mIt it, sp, f2) (t4, t1, f1, fp, ca, cs, ct, cv) M dr tr (ps, y.1, im, ke) (a.2.2.2.2, a.2.2.2.1) hwM hmM v1 v2 v3, ?_⟩
  rintro z u' z' v' ⟨rfl, p9, rfl⟩ ⟨rfl, sp9, dr9, tr9, rfl⟩
  exact ⟨aDrwn_eq hE v1 v2 v3, zRel_mk hI⟩
set_option maxHeartbeats 1000000 in
theorem zr_fits {u v : List zE} (h : zRel u v) (v1 v2 v3 v4 v5 : Int32) : zStep mX11_fits mX12_fits [.int v1, .int v2, .int v3, .int v4, .int v5] u v := by
  obtain ⟨R, t1, t2, t3, t4, t5, t6, L, cr, ho, P, pr, po, i, y, a, f1, f2, mn, sp, fp, ca, cs, ct, cv, M, dr, tr, ps, im, ke, rfl, rfl, hI⟩ := h
  obtain ⟨⟨hs, hla, hmn⟩, ⟨ht1, ht4⟩, ⟨hL, hE⟩, hy, ha, hP, hIm⟩ := id hI
  obtain ⟨la, sz, it⟩ := R
  have hw := hL.1
  have hm : lM L ≤ 1000 := by have := hL.2.1; omega
  have gM := zGd_eq hE hL
  have hwM := gM.1
  have hmM : lM M ≤ 1000 := by have := gM.2.1; omega
  have hy1 := hy.1
  refine ⟨8, 8, _, _, by decide, by decide, qX11_fits la sz it (t1, t2, t3, t4, t5, t6) L cr ho P pr po i y a f1 f2 hw hm hs v1 v2 v3 v4 v5, qX12_fits la sz it mn sp f2 (t4, t1, f1, fp, ca, cs, ct, cv) M dr tr (ps, y.1, im, ke) (a.2.2.2.2, a.2.2.2.1) hs hla hmn hwM hmM v1 v2 v3 v4 v5, ?_⟩
  rintro z u' z' v' ⟨s9, p9, e1, rfl⟩ ⟨s8, tr9, e2, rfl⟩
  rw [aFits_eq hE (la, sz, it) f2 v1 v2 v3 v4 v5] at e1
  have e3 := e1.trans e2.symm
  cases e3
  exact ⟨rfl, zRel_mk hI⟩
set_option maxHeartbeats 1000000 in
theorem zr_bounds {u v : List zE} (h : zRel u v) (v1 v2 v3 : Int32) : zStep mX11_bounds mX12_bounds [.int v1, .int v2, .int v3] u v := by
  obtain ⟨R, t1, t2, t3, t4, t5, t6, L, cr, ho, P, pr, po, i, y, a, f1, f2, mn, sp, fp, ca, cs, ct, cv, M, dr, tr, ps, im, ke, rfl, rfl, hI⟩ := h
  obtain ⟨⟨hs, hla, hmn⟩, ⟨ht1, ht4⟩, ⟨hL, hE⟩, hy, ha, hP, hIm⟩ := id hI
  obtain ⟨la, sz, it⟩ := R
  have hw := hL.1
  have hm : lM L ≤ 1000 := by have := hL.2.1; omega
  have gM := zGd_eq hE hL
  have hwM := gM.1
  have hmM : lM M ≤ 1000 := by have := gM.2.1; omega
  have hy1 := hy.1
  refine ⟨8, 8, _, _, by decide, by decide, qX11_bounds la sz it (t1, t2, t3, t4, t5, t6) L cr ho P pr po i y a f1 f2 hw hm hs v1 v2 v3, qX12_bounds la sz it mn sp f2 (t4, t1, f1, fp, ca, cs, ct, cv) M dr tr (ps, y.1, im, ke) (a.2.2.2.2, a.2.2.2.1) hs hla hmn hwM hmM v1 v2 v3, ?_⟩
  rintro z u' z' v' ⟨s9, p9, e1, rfl⟩ ⟨s8, tr9, e2, rfl⟩
  rw [aBnds_eq hE (la, sz, it) f2 v1 v2 v3] at e1
  have e3 := e1.trans e2.symm
  cases e3
  exact ⟨rfl, zRel_mk hI⟩
def zRk (R : zRw) : Prop := zRok R.2.1 ∧ ∀ j, R.1 j ≤ 2
theorem aRow_ok {R : zRw} (h : zRk R) (s : Nat) (v w x : Int32) : zRk (aRow R s v w x).2.1 := by
  unfold aRow
  by_cases c : inR 0 7 v ∧ inR 0 2 w ∧ x ≤ nI 40
  · rw [zIG_t c]
    by_cases d : x < 0
    · rw [zIG_t d]; exact h
    · rw [zIG_f d]
      obtain ⟨zx, hx, rfl⟩ := z_nn c.2.2 d (by decide)
      obtain ⟨ze, -, he, rfl⟩ := c.2.1
      rw [zNat_nI (n := zx) (by omega), zNat_nI (n := ze) (by omega)]
      refine ⟨fun j n hj => ?_, fun j => ?_⟩
      · have hj : zuo R.2.1 (zNat v) (some zx) j = some n := hj
        by_cases e : j = zNat v
        · rw [e, zuo_s] at hj; cases hj; exact hx
        · rw [zuo_n e] at hj; exact h.1 j n hj
      · show zup R.1 (zNat v) ze j ≤ 2
        unfold zup
        split
        · exact he
        · exact h.2 j
  · rw [zIG_f c]; exact h
theorem aSet_ok {R : zRw} (h : zRk R) (s : Nat) (v w x : Int32) : zRk (aSet R s v w x).2.1 := by
  unfold aSet
  by_cases c : inR 0 7 v
  · rw [zIG_t c]
    by_cases d : zFnd (R.2.1 (zNat v)) w (nI 1) = 0
    · rw [zIG_t d]; exact h
    · rw [zIG_f d]; exact h
  · rw [zIG_f c]; exact h
theorem aCopy_ok {R : zRw} (h : zRk R) (s : Nat) (v i w j n : Int32) : zRk (aCopy R s v i w j n).2.1 := by
  unfold aCopy
  by_cases c : inR 0 7 v ∧ inR 0 7 w
  · rw [zIG_t c]
    by_cases d : zFnm R.1 R.2.1 (zNat v) (zNat w) i j n = 0
    · rw [zIG_t d]; exact h
    · rw [zIG_f d]; exact h
  · rw [zIG_f c]; exact h
theorem aDrop_ok {R : zRw} (h : zRk R) (s : Nat) (v : Int32) : zRk (aDrop R s v).2.1 := by
  unfold aDrop
  by_cases c : inR 0 7 v
  · rw [zIG_t c]
    by_cases d : R.2.1 (zNat v) = none
    · rw [zIG_t d]; exact h
    · rw [zIG_f d]
      refine ⟨fun j n hj => ?_, h.2⟩
      have hj : zuo R.2.1 (zNat v) none j = some n := hj
      by_cases e : j = zNat v
      · rw [e, zuo_s] at hj; cases hj
      · rw [zuo_n e] at hj; exact h.1 j n hj
  · rw [zIG_f c]; exact h
set_option maxHeartbeats 1000000 in
theorem zr_row {u v : List zE} (h : zRel u v) (v1 v2 v3 : Int32) : zStep mX11_row mX12_row [.int v1, .int v2, .int v3] u v := by
  obtain ⟨R, t1, t2, t3, t4, t5, t6, L, cr, ho, P, pr, po, i, y, a, f1, f2, mn, sp, fp, ca, cs, ct, cv, M, dr, tr, ps, im, ke, rfl, rfl, hI⟩ := h
  obtain ⟨⟨hs, hla, hmn⟩, ⟨ht1, ht4⟩, ⟨hL, hE⟩, hy, ha, hP, hIm⟩ := id hI
  obtain ⟨la, sz, it⟩ := R
  have hw := hL.1
  have hm : lM L ≤ 1000 := by have := hL.2.1; omega
  have gM := zGd_eq hE hL
  have hwM := gM.1
  have hmM : lM M ≤ 1000 := by have := gM.2.1; omega
  have hy1 := hy.1
  refine ⟨2, 2, _, _, by decide, by decide, qX11_row la sz it (t1, t2, t3, t4, t5, t6) (L, cr, ho) (P, pr, po) i y a f1 f2 hs hla v1 v2 v3, qX12_row la sz it mn sp f2 (t4, t1, f1, fp, ca, cs, ct, cv) M dr tr (ps, y.1, im, ke) (a.2.2.2.2, a.2.2.2.1) hs hla hmn v1 v2 v3, ?_⟩
  rintro z u' z' v' ⟨R9, s9, e1, rfl⟩ ⟨R8, s8, mn9, sp9, e2, hmn9, rfl⟩
  have hk := aRow_ok (R := (la, sz, it)) ⟨hs, hla⟩ f2 v1 v2 v3
  rw [← e1] at hk
  have e3 := e1.trans e2.symm
  cases e3
  exact ⟨rfl, zRel_mk ⟨⟨hk.1, hk.2, hmn9⟩, hI.2⟩⟩
set_option maxHeartbeats 1000000 in
theorem zr_set {u v : List zE} (h : zRel u v) (v1 v2 v3 : Int32) : zStep mX11_set mX12_set [.int v1, .int v2, .int v3] u v := by
  obtain ⟨R, t1, t2, t3, t4, t5, t6, L, cr, ho, P, pr, po, i, y, a, f1, f2, mn, sp, fp, ca, cs, ct, cv, M, dr, tr, ps, im, ke, rfl, rfl, hI⟩ := h
  obtain ⟨⟨hs, hla, hmn⟩, ⟨ht1, ht4⟩, ⟨hL, hE⟩, hy, ha, hP, hIm⟩ := id hI
  obtain ⟨la, sz, it⟩ := R
  have hw := hL.1
  have hm : lM L ≤ 1000 := by have := hL.2.1; omega
  have gM := zGd_eq hE hL
  have hwM := gM.1
  have hmM : lM M ≤ 1000 := by have := gM.2.1; omega
  have hy1 := hy.1
  refine ⟨2, 2, _, _, by decide, by decide, qX11_set la sz it (t1, t2, t3, t4, t5, t6) (L, cr, ho) (P, pr, po) i y a f1 f2 hs hla v1 v2 v3, qX12_set la sz it mn sp f2 (t4, t1, f1, fp, ca, cs, ct, cv) M dr tr (ps, y.1, im, ke) (a.2.2.2.2, a.2.2.2.1) hs hla hmn v1 v2 v3, ?_⟩
  rintro z u' z' v' ⟨R9, s9, e1, rfl⟩ ⟨R8, s8, mn9, sp9, e2, hmn9, rfl⟩
  have hk := aSet_ok (R := (la, sz, it)) ⟨hs, hla⟩ f2 v1 v2 v3
  rw [← e1] at hk
  have e3 := e1.trans e2.symm
  cases e3
  exact ⟨rfl, zRel_mk ⟨⟨hk.1, hk.2, hmn9⟩, hI.2⟩⟩
set_option maxHeartbeats 1000000 in
theorem zr_copy {u v : List zE} (h : zRel u v) (v1 v2 v3 v4 v5 : Int32) : zStep mX11_copy mX12_copy [.int v1, .int v2, .int v3, .int v4, .int v5] u v := by
  obtain ⟨R, t1, t2, t3, t4, t5, t6, L, cr, ho, P, pr, po, i, y, a, f1, f2, mn, sp, fp, ca, cs, ct, cv, M, dr, tr, ps, im, ke, rfl, rfl, hI⟩ := h
  obtain ⟨⟨hs, hla, hmn⟩, ⟨ht1, ht4⟩, ⟨hL, hE⟩, hy, ha, hP, hIm⟩ := id hI
  obtain ⟨la, sz, it⟩ := R
  have hw := hL.1
  have hm : lM L ≤ 1000 := by have := hL.2.1; omega
  have gM := zGd_eq hE hL
  have hwM := gM.1
  have hmM : lM M ≤ 1000 := by have := gM.2.1; omega
  have hy1 := hy.1
  refine ⟨2, 2, _, _, by decide, by decide, qX11_copy la sz it (t1, t2, t3, t4, t5, t6) (L, cr, ho) (P, pr, po) i y a f1 f2 hs hla v1 v2 v3 v4 v5, qX12_copy la sz it mn sp f2 (t4, t1, f1, fp, ca, cs, ct, cv) M dr tr (ps, y.1, im, ke) (a.2.2.2.2, a.2.2.2.1) hs hla hmn v1 v2 v3 v4 v5, ?_⟩
  rintro z u' z' v' ⟨R9, s9, e1, rfl⟩ ⟨R8, s8, mn9, sp9, e2, hmn9, rfl⟩
  have hk := aCopy_ok (R := (la, sz, it)) ⟨hs, hla⟩ f2 v1 v2 v3 v4 v5
  rw [← e1] at hk
  have e3 := e1.trans e2.symm
  cases e3
  exact ⟨rfl, zRel_mk ⟨⟨hk.1, hk.2, hmn9⟩, hI.2⟩⟩
set_option maxHeartbeats 1000000 in
theorem zr_drop {u v : List zE} (h : zRel u v) (v1 : Int32) : zStep mX11_drop mX12_drop [.int v1] u v := by
  obtain ⟨R, t1, t2, t3, t4, t5, t6, L, cr, ho, P, pr, po, i, y, a, f1, f2, mn, sp, fp, ca, cs, ct, cv, M, dr, tr, ps, im, ke, rfl, rfl, hI⟩ := h
  obtain ⟨⟨hs, hla, hmn⟩, ⟨ht1, ht4⟩, ⟨hL, hE⟩, hy, ha, hP, hIm⟩ := id hI
  obtain ⟨la, sz, it⟩ := R
  have hw := hL.1
  have hm : lM L ≤ 1000 := by have := hL.2.1; omega
  have gM := zGd_eq hE hL
  have hwM := gM.1
  have hmM : lM M ≤ 1000 := by have := gM.2.1; omega
  have hy1 := hy.1
  refine ⟨2, 2, _, _, by decide, by decide, qX11_drop la sz it (t1, t2, t3, t4, t5, t6) (L, cr, ho) (P, pr, po) i y a f1 f2 hs hla v1, qX12_drop la sz it mn sp f2 (t4, t1, f1, fp, ca, cs, ct, cv) M dr tr (ps, y.1, im, ke) (a.2.2.2.2, a.2.2.2.1) hs hla hmn v1, ?_⟩
  rintro z u' z' v' ⟨R9, s9, e1, rfl⟩ ⟨R8, s8, mn9, sp9, e2, hmn9, rfl⟩
  have hk := aDrop_ok (R := (la, sz, it)) ⟨hs, hla⟩ f2 v1
  rw [← e1] at hk
  have e3 := e1.trans e2.symm
  cases e3
  exact ⟨rfl, zRel_mk ⟨⟨hk.1, hk.2, hmn9⟩, hI.2⟩⟩
set_option maxHeartbeats 1000000 in
theorem zr_status {u v : List zE} (h : zRel u v) : zStep mX11_status mX12_status [] u v := by
  obtain ⟨R, t1, t2, t3, t4, t5, t6, L, cr, ho, P, pr, po, i, y, a, f1, f2, mn, sp, fp, ca, cs, ct, cv, M, dr, tr, ps, im, ke, rfl, rfl, hI⟩ := h
  obtain ⟨⟨hs, hla, hmn⟩, ⟨ht1, ht4⟩, ⟨hL, hE⟩, hy, ha, hP, hIm⟩ := id hI
  obtain ⟨la, sz, it⟩ := R
  have hw := hL.1
  have hm : lM L ≤ 1000 := by have := hL.2.1; omega
  have gM := zGd_eq hE hL
  have hwM := gM.1
  have hmM : lM M ≤ 1000 := by have := gM.2.1; omega
  have hy1 := hy.1
  refine ⟨0, 0, _, _, by decide, by decide, qX11_status (la, sz, it) (t1, t2, t3, t4, t5, t6) (L, cr, ho) (P, pr, po) i y a f1 f2, qX12_status (mLa la sz) mn (mIt it) sp f2 (t4, t1, f1, fp, ca, cs, ct, cv) M dr tr (ps, y.1, im, ke) (a.2.2.2.2, a.2.2.2.1), ?_⟩
  rintro z u' z' v' ⟨rfl, rfl⟩ ⟨rfl, rfl⟩
  exact ⟨rfl, zRel_mk hI⟩
set_option maxHeartbeats 1000000 in
theorem zr_fault {u v : List zE} (h : zRel u v) : zStep mX11_fault mX12_fault [] u v := by
  obtain ⟨R, t1, t2, t3, t4, t5, t6, L, cr, ho, P, pr, po, i, y, a, f1, f2, mn, sp, fp, ca, cs, ct, cv, M, dr, tr, ps, im, ke, rfl, rfl, hI⟩ := h
  obtain ⟨⟨hs, hla, hmn⟩, ⟨ht1, ht4⟩, ⟨hL, hE⟩, hy, ha, hP, hIm⟩ := id hI
  obtain ⟨la, sz, it⟩ := R
  have hw := hL.1
  have hm : lM L ≤ 1000 := by have := hL.2.1; omega
  have gM := zGd_eq hE hL
  have hwM := gM.1
  have hmM : lM M ≤ 1000 := by have := gM.2.1; omega
  have hy1 := hy.1
  refine ⟨0, 0, _, _, by decide, by decide, qX11_fault (la, sz, it) (t1, t2, t3, t4, t5, t6) (L, cr, ho) (P, pr, po) i y a f1 f2, qX12_fault (mLa la sz, mn, mIt it, sp, f2) t4 t1 f1 fp ca cs ct cv M dr tr (ps, y.1, im, ke) (a.2.2.2.2, a.2.2.2.1), ?_⟩
  rintro z u' z' v' ⟨rfl, rfl⟩ ⟨rfl, rfl⟩
  exact ⟨rfl, zRel_mk hI⟩
set_option maxHeartbeats 1000000 in
theorem zr_trace {u v : List zE} (h : zRel u v) (v1 : Int32) : zStep mX11_trace mX12_trace [.int v1] u v := by
  obtain ⟨R, t1, t2, t3, t4, t5, t6, L, cr, ho, P, pr, po, i, y, a, f1, f2, mn, sp, fp, ca, cs, ct, cv, M, dr, tr, ps, im, ke, rfl, rfl, hI⟩ := h
  obtain ⟨⟨hs, hla, hmn⟩, ⟨ht1, ht4⟩, ⟨hL, hE⟩, hy, ha, hP, hIm⟩ := id hI
  obtain ⟨la, sz, it⟩ := R
  have hw := hL.1
  have hm : lM L ≤ 1000 := by have := hL.2.1; omega
  have gM := zGd_eq hE hL
  have hwM := gM.1
  have hmM : lM M ≤ 1000 := by have := gM.2.1; omega
  have hy1 := hy.1
  refine ⟨2, 1, _, _, by decide, by decide, qX11_trace (la, sz, it) (t1, t2, t3, t4, t5, t6) L cr ho (P, pr, po) i y a (f1, f2) hw ha v1, qX12_trace (mLa la sz, mn, mIt it, sp, f2) (t4, t1, f1, fp, ca, cs, ct, cv) M dr tr (ps, y.1, im, ke) a.2.2.2.2 a.2.2.2.1 ha v1, ?_⟩
  rintro z u' z' v' ⟨rfl, rfl⟩ ⟨rfl, rfl⟩
  exact ⟨rfl, zRel_mk hI⟩
set_option maxHeartbeats 1000000 in
theorem zr_count {u v : List zE} (h : zRel u v) (v1 : Int32) : zStep mX11_count mX12_count [.int v1] u v := by
  obtain ⟨R, t1, t2, t3, t4, t5, t6, L, cr, ho, P, pr, po, i, y, a, f1, f2, mn, sp, fp, ca, cs, ct, cv, M, dr, tr, ps, im, ke, rfl, rfl, hI⟩ := h
  obtain ⟨⟨hs, hla, hmn⟩, ⟨ht1, ht4⟩, ⟨hL, hE⟩, hy, ha, hP, hIm⟩ := id hI
  obtain ⟨la, sz, it⟩ := R
  have hw := hL.1
  have hm : lM L ≤ 1000 := by have := hL.2.1; omega
  have gM := zGd_eq hE hL
  have hwM := gM.1
  have hmM : lM M ≤ 1000 := by have := gM.2.1; omega
  have hy1 := hy.1
  refine ⟨2, 2, _, _, by decide, by decide, qX11_count la sz it t1 t2 t3 t4 t5 t6 L cr ho (P, pr, po) i y.1 y.2.1 y.2.2 a (f1, f2) hw hs v1, qX12_count la sz it mn sp f2 (t4, t1, f1, fp, ca, cs, ct, cv) M dr tr (ps, y.1, im, ke) (a.2.2.2.2, a.2.2.2.1) hs hla hmn hwM v1, ?_⟩
  rintro z u' z' v' ⟨rfl, rfl⟩ ⟨rfl, rfl⟩
  exact ⟨aCnt_eq hE sz y.1 t1 v1, zRel_mk hI⟩
set_option maxHeartbeats 1000000 in
theorem zr_as {u v : List zE} (h : zRel u v) (v1 v2 : Int32) : zStep mX11_as mX12_as [.int v1, .int v2] u v := by
  obtain ⟨R, t1, t2, t3, t4, t5, t6, L, cr, ho, P, pr, po, i, y, a, f1, f2, mn, sp, fp, ca, cs, ct, cv, M, dr, tr, ps, im, ke, rfl, rfl, hI⟩ := h
  obtain ⟨⟨hs, hla, hmn⟩, ⟨ht1, ht4⟩, ⟨hL, hE⟩, hy, ha, hP, hIm⟩ := id hI
  obtain ⟨la, sz, it⟩ := R
  have hw := hL.1
  have hm : lM L ≤ 1000 := by have := hL.2.1; omega
  have gM := zGd_eq hE hL
  have hwM := gM.1
  have hmM : lM M ≤ 1000 := by have := gM.2.1; omega
  have hy1 := hy.1
  refine ⟨2, 2, _, _, by decide, by decide, qX11_as (la, sz, it) (t1, t2, t3, t4, t5, t6) L cr ho (P, pr, po) i y a f1 f2 hw v1 v2, qX12_as (mLa la sz, mn, mIt it, sp, f2) (t4, t1, f1, fp, ca, cs, ct, cv) M dr tr (ps, y.1, im, ke) (a.2.2.2.2, a.2.2.2.1) hwM v1 v2, ?_⟩
  rintro z u' z' v' ⟨s9, e1, rfl⟩ ⟨s8, e2, rfl⟩
  rw [aAs_eq hE hw] at e1
  have e3 := e1.trans e2.symm
  cases e3
  exact ⟨rfl, zRel_mk hI⟩
theorem zask_t {L M : zL} {v w : Int32} {a : zAs} (e : aBod L v w = aBod M v w) (ha : a.2.2.2.1 ≤ 16) : (zOa (aBod L v w) L v a).2.2.2.2 = (zOb (aBod M v w) (a.2.2.2.2, a.2.2.2.1)).1 ∧ (zOa (aBod L v w) L v a).2.2.2.1 = (zOb (aBod M v w) (a.2.2.2.2, a.2.2.2.1)).2 ∧ (zOa (aBod L v w) L v a).2.2.2.1 ≤ 16 := by
  rw [e]
  unfold aBod
  by_cases c : inP (lP M) v ∧ inR 0 1 w
  · rw [zIG_t c]
    refine ⟨rfl, rfl, ?_⟩
    show (if _ then _ else _ : List Nat).length ≤ 16
    unfold zSl zNl
    repeat' split
    all_goals decide
  · rw [zIG_f c]
    exact ⟨rfl, rfl, ha⟩
set_option maxHeartbeats 1000000 in
theorem zr_ask {u v : List zE} (h : zRel u v) (v1 v2 : Int32) : zStep mX11_ask mX12_ask [.int v1, .int v2] u v := by
  obtain ⟨R, t1, t2, t3, t4, t5, t6, L, cr, ho, P, pr, po, i, y, a, f1, f2, mn, sp, fp, ca, cs, ct, cv, M, dr, tr, ps, im, ke, rfl, rfl, hI⟩ := h
  obtain ⟨⟨hs, hla, hmn⟩, ⟨ht1, ht4⟩, ⟨hL, hE⟩, hy, ha, hP, hIm⟩ := id hI
  obtain ⟨la, sz, it⟩ := R
  have hw := hL.1
  have hm : lM L ≤ 1000 := by have := hL.2.1; omega
  have gM := zGd_eq hE hL
  have hwM := gM.1
  have hmM : lM M ≤ 1000 := by have := gM.2.1; omega
  have hy1 := hy.1
  have hz := zask_t (a := a) (aBod_eq hE hw v1 v2) ha
  have hf : ∀ z u' z' v', (z = aAsk L v1 v2 ∧ u' = hC ((la, sz, it), (t1, t2, t3, t4, t5, t6), (L, cr, ho), (P, pr, po), i, y, zOa (aBod L v1 v2) L v1 a, (f1, f2))) → (z' = aAsk M v1 v2 ∧ v' = hM (mLa la sz, mn, mIt it, sp, f2) (t4, t1, f1, fp, ca, cs, ct, cv) M dr tr (ps, y.1, im, ke) (zOb (aBod M v1 v2) (a.2.2.2.2, a.2.2.2.1))) → z = z' ∧ zRel u' v' := by
    rintro z u' z' v' ⟨rfl, rfl⟩ ⟨rfl, rfl⟩
    refine ⟨aAsk_eq hE hw v1 v2, ?_⟩
    have e : zOb (aBod M v1 v2) (a.2.2.2.2, a.2.2.2.1) = ((zOa (aBod L v1 v2) L v1 a).2.2.2.2, (zOa (aBod L v1 v2) L v1 a).2.2.2.1) := Prod.ext hz.1.symm hz.2.1.symm
    rw [e]
    exact zRel_mk ⟨hI.1, hI.2.1, hI.2.2.1, hI.2.2.2.1, hz.2.2, hI.2.2.2.2.2⟩
  by_cases c : inP (lP L) v1
  · exact ⟨7, 5, _, _, by decide, by decide, qX11_ask (la, sz, it) (t1, t2, t3, t4, t5, t6) L cr ho (P, pr, po) i y a (f1, f2) hw v1 v2 c, qX12_ask (mLa la sz, mn, mIt it, sp, f2) (t4, t1, f1, fp, ca, cs, ct, cv) M dr tr (ps, y.1, im, ke) (a.2.2.2.2, a.2.2.2.1) hwM v1 v2 (by rw [← hE.n.2.2.1]; exact c), hf⟩
  · exact ⟨2, 2, _, _, by decide, by decide, qX11_ask_bad (la, sz, it) (t1, t2, t3, t4, t5, t6) L cr ho (P, pr, po) i y a (f1, f2) hw v1 v2 c, qX12_ask_bad (mLa la sz, mn, mIt it, sp, f2) (t4, t1, f1, fp, ca, cs, ct, cv) M dr tr (ps, y.1, im, ke) (a.2.2.2.2, a.2.2.2.1) hwM v1 v2 (by rw [← hE.n.2.2.1]; exact c), hf⟩
theorem aFeed_ok {n : Nat} {v : Int32} {t4 : Nat → Nat} (h1 : n ≤ 100) (h4 : ∀ j, t4 j ≤ 255) (t2 t3 t5 t6 : Nat) : (zOt (aFeed n v).2 n t2 t3 t4 t5 t6).1 ≤ 100 ∧ ∀ j, (zOt (aFeed n v).2 n t2 t3 t4 t5 t6).2.2.2.1 j ≤ 255 := by
  unfold aFeed
  by_cases c : inR 0 255 v
  · rw [zIG_t c]
    by_cases d : n < 100
    · rw [zIG_t d]
      obtain ⟨k, -, hk, rfl⟩ := c
      rw [zNat_nI (n := k) (by omega)]
      refine ⟨by show n + 1 ≤ 100; omega, fun j => ?_⟩
      show zup t4 n k j ≤ 255
      unfold zup
      split
      · exact hk
      · exact h4 j
    · rw [zIG_f d]; exact ⟨h1, h4⟩
  · rw [zIG_f c]; exact ⟨h1, h4⟩
set_option maxHeartbeats 1000000 in
theorem zr_feed {u v : List zE} (h : zRel u v) (v1 : Int32) : zStep mX11_feed mX12_feed [.int v1] u v := by
  obtain ⟨R, t1, t2, t3, t4, t5, t6, L, cr, ho, P, pr, po, i, y, a, f1, f2, mn, sp, fp, ca, cs, ct, cv, M, dr, tr, ps, im, ke, rfl, rfl, hI⟩ := h
  obtain ⟨⟨hs, hla, hmn⟩, ⟨ht1, ht4⟩, ⟨hL, hE⟩, hy, ha, hP, hIm⟩ := id hI
  obtain ⟨la, sz, it⟩ := R
  have hw := hL.1
  have hm : lM L ≤ 1000 := by have := hL.2.1; omega
  have gM := zGd_eq hE hL
  have hwM := gM.1
  have hmM : lM M ≤ 1000 := by have := gM.2.1; omega
  have hy1 := hy.1
  refine ⟨2, 1, _, _, by decide, by decide, qX11_feed (la, sz, it) t1 t2 t3 t4 t5 t6 (L, cr, ho) (P, pr, po) i y a (f1, f2) ht1 v1, qX12_feed (mLa la sz, mn, mIt it, sp, f2) t4 t1 f1 fp ca cs ct cv M dr tr (ps, y.1, im, ke) (a.2.2.2.2, a.2.2.2.1) ht1 v1, ?_⟩
  rintro z u' z' v' ⟨o9, e1, rfl⟩ ⟨o8, e2, rfl⟩
  have hk := aFeed_ok (v := v1) ht1 ht4 t2 t3 t5 t6
  rw [← e1] at hk
  have e3 := e1.trans e2.symm
  cases e3
  cases o9 with
  | none => exact ⟨rfl, zRel_mk hI⟩
  | some c9 => exact ⟨rfl, zRel_mk ⟨hI.1, hk, hI.2.2⟩⟩
theorem aMin_ok (L : zL) (v : Int32) (h : lM L ≤ 999) : lM L + (aMin L v).2 ≤ 999 := by
  unfold aMin
  by_cases c : 0 < lS L
  · rw [zIG_t c]
    by_cases d : inR 1 24 v
    · rw [zIG_t d]
      by_cases e : lM L + zNat v ≤ 999
      · rw [zIG_t e]; exact e
      · rw [zIG_f e]; exact h
    · rw [zIG_f d]; exact h
  · rw [zIG_f c]; exact h
set_option maxHeartbeats 1000000 in
theorem zr_minutes {u v : List zE} (h : zRel u v) (v1 : Int32) : zStep mX11_minutes mX12_minutes [.int v1] u v := by
  obtain ⟨R, t1, t2, t3, t4, t5, t6, L, cr, ho, P, pr, po, i, y, a, f1, f2, mn, sp, fp, ca, cs, ct, cv, M, dr, tr, ps, im, ke, rfl, rfl, hI⟩ := h
  obtain ⟨⟨hs, hla, hmn⟩, ⟨ht1, ht4⟩, ⟨hL, hE⟩, hy, ha, hP, hIm⟩ := id hI
  obtain ⟨la, sz, it⟩ := R
  have hw := hL.1
  have hm : lM L ≤ 1000 := by have := hL.2.1; omega
  have gM := zGd_eq hE hL
  have hwM := gM.1
  have hmM : lM M ≤ 1000 := by have := gM.2.1; omega
  have hy1 := hy.1
  refine ⟨6, 6, _, _, by decide, by decide, qX11_minutes (la, sz, it) (t1, t2, t3, t4, t5, t6) L cr ho (P, pr, po) i y a (f1, f2) hw hm hy v1, qX12_minutes (mLa la sz, mn, mIt it, sp, f2) (t4, t1, f1, fp, ca, cs, ct, cv) M dr tr ps y.1 im ke (a.2.2.2.2, a.2.2.2.1) hwM hmM hy1 v1, ?_⟩
  rintro z u' z' v' ⟨d9, cr9, ho9, e1, rfl⟩ ⟨d8, e2, rfl⟩
  have hk := aMin_ok L v1 hL.2.1
  rw [← e1] at hk
  rw [aMin_eq hE] at e1
  have e3 := e1.trans e2.symm
  cases e3
  obtain ⟨k1, k2⟩ := zPst_it hy hL hE hP d9 hk
  rw [← k2]
  exact ⟨rfl, zRel_mk ⟨hI.1, hI.2.1, ⟨zGd_it hL d9 hk, zIt_eq hE 0 d9⟩, zKi_ok L hy d9, ha, k1, hIm⟩⟩
set_option maxHeartbeats 1000000 in
theorem zr_walk {u v : List zE} (h : zRel u v) (v1 v2 : Int32) : zStep mX11_walk mX12_walk [.int v1, .int v2] u v := by
  obtain ⟨R, t1, t2, t3, t4, t5, t6, L, cr, ho, P, pr, po, i, y, a, f1, f2, mn, sp, fp, ca, cs, ct, cv, M, dr, tr, ps, im, ke, rfl, rfl, hI⟩ := h
  obtain ⟨⟨hs, hla, hmn⟩, ⟨ht1, ht4⟩, ⟨hL, hE⟩, hy, ha, hP, hIm⟩ := id hI
  obtain ⟨la, sz, it⟩ := R
  have hw := hL.1
  have hm : lM L ≤ 1000 := by have := hL.2.1; omega
  have gM := zGd_eq hE hL
  have hwM := gM.1
  have hmM : lM M ≤ 1000 := by have := gM.2.1; omega
  have hy1 := hy.1
  refine ⟨3, 3, _, _, by decide, by decide, qX11_walk (la, sz, it) (t1, t2, t3, t4, t5, t6) L cr ho (P, pr, po) i y a (f1, f2) hw hm hy v1 v2, qX12_walk (mLa la sz, mn, mIt it, sp, f2) (t4, t1, f1, fp, ca, cs, ct, cv) M dr tr ps y.1 im ke (a.2.2.2.2, a.2.2.2.1) hwM hmM hy1 v1 v2, ?_⟩
  rintro z u' z' v' ⟨o9, e1, rfl⟩ ⟨o8, e2, rfl⟩
  obtain ⟨q1, q2⟩ := aWlk_eq hE hw v1 v2
  have q3 := fun N => aWlk_gd hL v1 v2 (M := N)
  rw [← e1, ← e2] at q1 q2
  rw [← e1] at q3
  refine ⟨q1, ?_⟩
  rcases q2 with ⟨j1, j2⟩ | ⟨L9, M9, j1, j2, j3⟩
  · have j1 : o9 = none := j1
    have j2 : o8 = none := j2
    subst j1 j2
    exact zRel_mk hI
  · have j1 : o9 = some L9 := j1
    have j2 : o8 = some M9 := j2
    subst j1 j2
    obtain ⟨g1, g2⟩ := q3 L9 rfl
    have k1 := zPst_sm g2 (zPst_keep hy hL hE hP)
    have k2 := zNt_n ps y L M
    show zRel (hC ((la, sz, it), (t1, t2, t3, t4, t5, t6), (L9, cr, ho), (P, pr, po), i, zKp y L, a, (f1, f2))) (hM (mLa la sz, mn, mIt it, sp, f2) (t4, t1, f1, fp, ca, cs, ct, cv) M9 dr tr ((zNt ps y.1 M).1, (zNt ps y.1 M).2, im, ke) (a.2.2.2.2, a.2.2.2.1))
    rw [← k2]
    exact zRel_mk ⟨hI.1, hI.2.1, ⟨g1, j3⟩, (zKp_ok L hy).1, ha, k1, hIm⟩
set_option maxHeartbeats 1000000 in
theorem zr_preach {u v : List zE} (h : zRel u v) (v1 v2 : Int32) : zStep mX11_preach mX12_preach [.int v1, .int v2] u v := by
  obtain ⟨R, t1, t2, t3, t4, t5, t6, L, cr, ho, P, pr, po, i, y, a, f1, f2, mn, sp, fp, ca, cs, ct, cv, M, dr, tr, ps, im, ke, rfl, rfl, hI⟩ := h
  obtain ⟨⟨hs, hla, hmn⟩, ⟨ht1, ht4⟩, ⟨hL, hE⟩, hy, ha, hP, hIm⟩ := id hI
  obtain ⟨la, sz, it⟩ := R
  have hw := hL.1
  have hm : lM L ≤ 1000 := by have := hL.2.1; omega
  have gM := zGd_eq hE hL
  have hwM := gM.1
  have hmM : lM M ≤ 1000 := by have := gM.2.1; omega
  have hy1 := hy.1
  refine ⟨3, 4, _, _, by decide, by decide, qX11_preach (la, sz, it) (t1, t2, t3, t4, t5, t6) L cr ho (P, pr, po) i y a (f1, f2) hw hm hy v1 v2, qX12_preach (mLa la sz, mn, mIt it, sp, f2) (t4, t1, f1, fp, ca, cs, ct, cv) M dr tr ps y.1 im ke (a.2.2.2.2, a.2.2.2.1) hwM hmM hy1 v1 v2, ?_⟩
  rintro z u' z' v' ⟨o9, e1, rfl⟩ ⟨o8, e2, rfl⟩
  obtain ⟨q1, q2⟩ := aPre_eq hE hw v1 v2
  have q3 := fun N => aPre_gd hL v1 v2 (M := N)
  rw [← e1, ← e2] at q1 q2
  rw [← e1] at q3
  refine ⟨q1, ?_⟩
  rcases q2 with ⟨j1, j2⟩ | ⟨L9, M9, j1, j2, j3⟩
  · have j1 : o9 = none := j1
    have j2 : o8 = none := j2
    subst j1 j2
    exact zRel_mk hI
  · have j1 : o9 = some L9 := j1
    have j2 : o8 = some M9 := j2
    subst j1 j2
    obtain ⟨g1, g2⟩ := q3 L9 rfl
    have k1 := zPst_sm g2 (zPst_keep hy hL hE hP)
    have k2 := zNt_n ps y L M
    show zRel (hC ((la, sz, it), (t1, t2, t3, t4, t5, t6), (L9, cr, ho), (P, pr, po), i, zKp y L, a, (f1, f2))) (hM (mLa la sz, mn, mIt it, sp, f2) (t4, t1, f1, fp, ca, cs, ct, cv) M9 dr tr ((zNt ps y.1 M).1, (zNt ps y.1 M).2, im, ke) (a.2.2.2.2, a.2.2.2.1))
    rw [← k2]
    exact zRel_mk ⟨hI.1, hI.2.1, ⟨g1, j3⟩, (zKp_ok L hy).1, ha, k1, hIm⟩
set_option maxHeartbeats 1000000 in
theorem zr_wish {u v : List zE} (h : zRel u v) (v1 v2 : Int32) : zStep mX11_wish mX12_wish [.int v1, .int v2] u v := by
  obtain ⟨R, t1, t2, t3, t4, t5, t6, L, cr, ho, P, pr, po, i, y, a, f1, f2, mn, sp, fp, ca, cs, ct, cv, M, dr, tr, ps, im, ke, rfl, rfl, hI⟩ := h
  obtain ⟨⟨hs, hla, hmn⟩, ⟨ht1, ht4⟩, ⟨hL, hE⟩, hy, ha, hP, hIm⟩ := id hI
  obtain ⟨la, sz, it⟩ := R
  have hw := hL.1
  have hm : lM L ≤ 1000 := by have := hL.2.1; omega
  have gM := zGd_eq hE hL
  have hwM := gM.1
  have hmM : lM M ≤ 1000 := by have := gM.2.1; omega
  have hy1 := hy.1
  refine ⟨3, 4, _, _, by decide, by decide, qX11_wish (la, sz, it) (t1, t2, t3, t4, t5, t6) L cr ho (P, pr, po) i y a (f1, f2) hw hm hy v1 v2, qX12_wish (mLa la sz, mn, mIt it, sp, f2) (t4, t1, f1, fp, ca, cs, ct, cv) M dr tr ps y.1 im ke (a.2.2.2.2, a.2.2.2.1) hwM hmM hy1 v1 v2, ?_⟩
  rintro z u' z' v' ⟨o9, e1, rfl⟩ ⟨o8, e2, rfl⟩
  obtain ⟨q1, q2⟩ := aWsh_eq hE hw v1 v2
  have q3 := fun N => aWsh_gd hL v1 v2 (M := N)
  rw [← e1, ← e2] at q1 q2
  rw [← e1] at q3
  refine ⟨q1, ?_⟩
  rcases q2 with ⟨j1, j2⟩ | ⟨L9, M9, j1, j2, j3⟩
  · have j1 : o9 = none := j1
    have j2 : o8 = none := j2
    subst j1 j2
    exact zRel_mk hI
  · have j1 : o9 = some L9 := j1
    have j2 : o8 = some M9 := j2
    subst j1 j2
    obtain ⟨g1, g2⟩ := q3 L9 rfl
    have k1 := zPst_sm g2 (zPst_keep hy hL hE hP)
    have k2 := zNt_n ps y L M
    show zRel (hC ((la, sz, it), (t1, t2, t3, t4, t5, t6), (L9, cr, ho), (P, pr, po), i, zKp y L, a, (f1, f2))) (hM (mLa la sz, mn, mIt it, sp, f2) (t4, t1, f1, fp, ca, cs, ct, cv) M9 dr tr ((zNt ps y.1 M).1, (zNt ps y.1 M).2, im, ke) (a.2.2.2.2, a.2.2.2.1))
    rw [← k2]
    exact zRel_mk ⟨hI.1, hI.2.1, ⟨g1, j3⟩, (zKp_ok L hy).1, ha, k1, hIm⟩
theorem zPl_y (L : zL) (k1 k2 o : Nat) (pg : Nat → Nat) (j : Nat) : zPl L (k1, o, pg) j = zPl L (k2, o, pg) j := rfl
theorem zPl_zPl (L : zL) (y y2 : zPy) (j k : Nat) : zPl (zPl L y2 k) y j = zPl L y j := rfl
set_option maxHeartbeats 1000000 in
theorem zr_undo {u v : List zE} (h : zRel u v) : zStep mX11_undo mX12_undo [] u v := by
  obtain ⟨R, t1, t2, t3, t4, t5, t6, L, cr, ho, P, pr, po, i, y, a, f1, f2, mn, sp, fp, ca, cs, ct, cv, M, dr, tr, ps, im, ke, rfl, rfl, hI⟩ := h
  obtain ⟨⟨hs, hla, hmn⟩, ⟨ht1, ht4⟩, ⟨hL, hE⟩, hy, ha, hP, hIm⟩ := id hI
  obtain ⟨la, sz, it⟩ := R
  have hw := hL.1
  have hm : lM L ≤ 1000 := by have := hL.2.1; omega
  have gM := zGd_eq hE hL
  have hwM := gM.1
  have hmM : lM M ≤ 1000 := by have := gM.2.1; omega
  have hy1 := hy.1
  obtain ⟨yk, yo, pg⟩ := y
  by_cases h0 : yk = 0
  · refine ⟨2, 1, _, _, by decide, by decide, qX11_undo (la, sz, it) (t1, t2, t3, t4, t5, t6) L cr ho (P, pr, po) i yk yo pg a (f1, f2) hw hm hy, qX12_undo (mLa la sz, mn, mIt it, sp, f2) (t4, t1, f1, fp, ca, cs, ct, cv) M dr tr ps yk im ke (a.2.2.2.2, a.2.2.2.1) hwM hmM hy1 M (fun q => absurd q (by omega)), ?_⟩
    rintro z u' z' v' ⟨e1, -⟩ ⟨e2, -⟩
    obtain ⟨rfl, rfl⟩ := e1 h0
    obtain ⟨rfl, rfl⟩ := e2 h0
    exact ⟨rfl, zRel_mk hI⟩
  · have hp : 0 < yk := by omega
    obtain ⟨g1, N, g2, g3⟩ := hP (yk - 1) (by show yk - 1 < yk; omega)
    refine ⟨2, 1, _, _, by decide, by decide, qX11_undo (la, sz, it) (t1, t2, t3, t4, t5, t6) L cr ho (P, pr, po) i yk yo pg a (f1, f2) hw hm hy, qX12_undo (mLa la sz, mn, mIt it, sp, f2) (t4, t1, f1, fp, ca, cs, ct, cv) M dr tr ps yk im ke (a.2.2.2.2, a.2.2.2.1) hwM hmM hy1 N (fun _ => g2), ?_⟩
    rintro z u' z' v' ⟨-, e1⟩ ⟨-, e2⟩
    obtain ⟨rfl, rfl⟩ := e1 hp
    obtain ⟨rfl, rfl⟩ := e2 hp
    refine ⟨rfl, ?_⟩
    have hP9 : zPst (zPl L (yk, yo, pg) (yk - 1)) (yk - 1, yo, pg) ps := fun k hk => by
      have hk : k < yk - 1 := hk
      exact hP k (by show k < yk; omega)
    have hy9 : zYok (yk - 1, yo, pg) := ⟨by show yk - 1 ≤ 24; have : yk ≤ 24 := hy1; omega, hy.2⟩
    exact zRel_mk (y := (yk - 1, yo, pg)) ⟨hI.1, hI.2.1, ⟨g1, g3⟩, hy9, ha, hP9, hIm⟩
theorem zIm_o {o : Option Nat} {L : zL} {i : zLk × zLk} {k : Nat} (hk : k < 2) (ho : ∀ j, o = some j → j < 2) : zIm (zOi o L i) k = if o = some k then L else zIm i k := by
  cases o with
  | none => rw [if_neg (by simp)]; rfl
  | some j =>
    have hj := ho j rfl
    rcases (show k = 0 ∨ k = 1 by omega) with rfl | rfl
    · rcases (show j = 0 ∨ j = 1 by omega) with rfl | rfl
      · rfl
      · rfl
    · rcases (show j = 0 ∨ j = 1 by omega) with rfl | rfl
      · rfl
      · rfl
theorem aImg_ok {L : zL} {v : Int32} {j : Nat} (h : (aImg L v).2 = some j) : j < 2 ∧ 0 < lS L := by
  unfold aImg at h
  by_cases c : inR 0 1 v
  · rw [zIG_t c] at h
    by_cases d : 0 < lS L
    · rw [zIG_t d] at h
      cases h
      obtain ⟨k, -, hk, rfl⟩ := c
      rw [zNat_nI (by omega)]
      exact ⟨by omega, d⟩
    · rw [zIG_f d] at h; cases h
  · rw [zIG_f c] at h; cases h
theorem aImg_eq {L M : zL} (h : zEq L M) (v : Int32) : aImg L v = aImg M v := by unfold aImg; rw [h.n.1]
theorem zne10 : ¬ (1 : Int32) = 0 := by decide
theorem zImr_o {L M : zL} {i : zLk × zLk} {im : Nat → Nat} {ke : Nat → Int32} (hL : zGd L) (hE : zEq L M) {o : Option Nat} (ho : ∀ j, o = some j → j < 2 ∧ 0 < lS L) (h : zImr i im ke) : zImr (zOi o L i) (zOm o im M) (zOk9 o ke) := fun k hk => by
  rw [zIm_o hk (fun j hj => (ho j hj).1)]
  cases o with
  | none => rw [if_neg (by simp)]; exact h k hk
  | some j =>
    obtain ⟨hj, hS⟩ := ho j rfl
    by_cases e : j = k
    · subst e
      rw [if_pos rfl]
      refine Or.inr ⟨?_, hS, hL, M, fun q hq => ?_, hE⟩
      · show ¬ upd ke j 1 j = 0
        rw [show upd ke j 1 j = 1 from if_pos rfl]; exact zne10
      · show zSg im (34 * j) M (34 * j + q) = fl M q
        unfold zSg
        rw [if_pos (by omega)]
        congr 1; omega
    · rw [if_neg (fun q => e (Option.some.inj q))]
      have hke : zOk9 (some j) ke k = ke k := if_neg (fun q => e q.symm)
      rw [hke]
      rcases h k hk with h1 | ⟨h1, h2, h3, N, h4, h5⟩
      · exact Or.inl h1
      · refine Or.inr ⟨h1, h2, h3, N, fun q hq => ?_, h5⟩
        show zSg im (34 * j) M (34 * k + q) = fl N q
        unfold zSg
        rw [if_neg (by omega)]
        exact h4 q hq
set_option maxHeartbeats 1000000 in
theorem zr_image {u v : List zE} (h : zRel u v) (v1 : Int32) : zStep mX11_image mX12_image [.int v1] u v := by
  obtain ⟨R, t1, t2, t3, t4, t5, t6, L, cr, ho, P, pr, po, i, y, a, f1, f2, mn, sp, fp, ca, cs, ct, cv, M, dr, tr, ps, im, ke, rfl, rfl, hI⟩ := h
  obtain ⟨⟨hs, hla, hmn⟩, ⟨ht1, ht4⟩, ⟨hL, hE⟩, hy, ha, hP, hIm⟩ := id hI
  obtain ⟨la, sz, it⟩ := R
  have hw := hL.1
  have hm : lM L ≤ 1000 := by have := hL.2.1; omega
  have gM := zGd_eq hE hL
  have hwM := gM.1
  have hmM : lM M ≤ 1000 := by have := gM.2.1; omega
  have hy1 := hy.1
  obtain ⟨⟨I, ir, io⟩, ⟨Q, jr, jo⟩⟩ := i
  refine ⟨2, 2, _, _, by decide, by decide, qX11_image (la, sz, it) (t1, t2, t3, t4, t5, t6) L cr ho (P, pr, po) I ir io Q jr jo y a (f1, f2) hw hm hy v1, qX12_image (mLa la sz, mn, mIt it, sp, f2) (t4, t1, f1, fp, ca, cs, ct, cv) M dr tr ps y.1 im ke (a.2.2.2.2, a.2.2.2.1) hwM hmM hy1 v1, ?_⟩
  rintro z u' z' v' ⟨o9, e1, rfl⟩ ⟨o8, e2, rfl⟩
  have hk := fun j => aImg_ok (L := L) (v := v1) (j := j)
  rw [← e1] at hk
  rw [aImg_eq hE] at e1
  have e3 := e1.trans e2.symm
  cases e3
  exact ⟨rfl, zRel_mk ⟨hI.1, hI.2.1, hI.2.2.1, hI.2.2.2.1, ha, hP, zImr_o hL hE hk hIm⟩⟩
theorem zRst_c {i : zLk × zLk} {im : Nat → Nat} {ke : Nat → Int32} (h : zImr i im ke) : ∃ N : Nat → zL, (∀ k, k < 2 → ¬ ke k = 0 → ∀ j, j < 34 → im (34 * k + j) = fl (N k) j) ∧ ∀ v : Int32, zOe (aRst i v) (aRsm ke N v) ∧ ∀ M, (aRst i v).2 = some M → zGd M := by
  have h0 : ∀ k, ∃ N : zL, k < 2 → ¬ ke k = 0 → (∀ j, j < 34 → im (34 * k + j) = fl N j) ∧ zEq (zIm i k) N := fun k => by
    by_cases hk : k < 2
    · rcases h k hk with ⟨h1, -⟩ | ⟨h1, h2, h3, N, h4, h5⟩
      · exact ⟨zZ0, fun _ q => absurd h1 q⟩
      · exact ⟨N, fun _ _ => ⟨h4, h5⟩⟩
    · exact ⟨zZ0, fun q => absurd q hk⟩
  obtain ⟨N, hN⟩ := Classical.axiomOfChoice h0
  refine ⟨N, fun k hk hke => (hN k hk hke).1, fun v => ?_⟩
  unfold aRst aRsm
  by_cases c : inR 0 1 v
  · rw [zIG_t c, zIG_t c]
    have hk : zNat v < 2 := by obtain ⟨k, -, hk, rfl⟩ := c; rw [zNat_nI (by omega)]; omega
    rcases h _ hk with ⟨h1, h2⟩ | ⟨h1, h2, h3, -⟩
    · rw [zIG_t h1, zIG_t h2]
      exact ⟨⟨rfl, Or.inl ⟨rfl, rfl⟩⟩, fun M q => by cases q⟩
    · rw [zIG_f h1, zIG_f (Nat.ne_of_gt h2)]
      exact ⟨⟨rfl, Or.inr ⟨_, _, rfl, rfl, (hN _ hk h1).2⟩⟩, fun M q => by cases q; exact h3⟩
  · rw [zIG_f c, zIG_f c]
    exact ⟨⟨rfl, Or.inl ⟨rfl, rfl⟩⟩, fun M q => by cases q⟩
theorem zPst_0 (L : zL) (o : Nat) (pg ps : Nat → Nat) : zPst L (0, o, pg) ps := fun k hk => absurd hk (by show ¬ k < 0; omega)
theorem zImr_S {i : zLk × zLk} {im : Nat → Nat} {ke : Nat → Int32} (h : zImr i im ke) {k : Nat} (hk : k < 2) : lS (zIm i k) < 100 := by
  rcases h k hk with ⟨-, h2⟩ | ⟨-, -, h3, -⟩
  · omega
  · have := h3.1.1; omega
set_option maxHeartbeats 1000000 in
theorem zr_restore {u v : List zE} (h : zRel u v) (v1 : Int32) : zStep mX11_restore mX12_restore [.int v1] u v := by
  obtain ⟨R, t1, t2, t3, t4, t5, t6, L, cr, ho, P, pr, po, i, y, a, f1, f2, mn, sp, fp, ca, cs, ct, cv, M, dr, tr, ps, im, ke, rfl, rfl, hI⟩ := h
  obtain ⟨⟨hs, hla, hmn⟩, ⟨ht1, ht4⟩, ⟨hL, hE⟩, hy, ha, hP, hIm⟩ := id hI
  obtain ⟨la, sz, it⟩ := R
  have hw := hL.1
  have hm : lM L ≤ 1000 := by have := hL.2.1; omega
  have gM := zGd_eq hE hL
  have hwM := gM.1
  have hmM : lM M ≤ 1000 := by have := gM.2.1; omega
  have hy1 := hy.1
  obtain ⟨⟨I, ir, io⟩, ⟨Q, jr, jo⟩⟩ := i
  obtain ⟨N, hN1, hN2⟩ := zRst_c hIm
  refine ⟨2, 2, _, _, by decide, by decide, qX11_restore (la, sz, it) (t1, t2, t3, t4, t5, t6) L cr ho (P, pr, po) I ir io Q jr jo y a (f1, f2) hw hm hy v1 (zImr_S hIm (k := 0) (by decide)) (zImr_S hIm (k := 1) (by decide)), qX12_restore (mLa la sz, mn, mIt it, sp, f2) (t4, t1, f1, fp, ca, cs, ct, cv) M dr tr ps y.1 im ke (a.2.2.2.2, a.2.2.2.1) hwM hmM hy1 N hN1 v1, ?_⟩
  rintro z u' z' v' ⟨o9, e1, rfl⟩ ⟨o8, e2, rfl⟩
  obtain ⟨⟨q1, q2⟩, q3⟩ := hN2 v1
  rw [← e1, ← e2] at q1 q2
  rw [← e1] at q3
  refine ⟨q1, ?_⟩
  rcases q2 with ⟨j1, j2⟩ | ⟨L9, M9, j1, j2, j3⟩
  · have j1 : o9 = none := j1
    have j2 : o8 = none := j2
    subst j1 j2
    exact zRel_mk hI
  · have j1 : o9 = some L9 := j1
    have j2 : o8 = some M9 := j2
    subst j1 j2
    exact zRel_mk (y := (0, y.2.1, y.2.2)) ⟨hI.1, hI.2.1, ⟨q3 L9 rfl, j3⟩, ⟨Nat.zero_le _, hy.2⟩, ha, zPst_0 _ _ _ _, hIm⟩
set_option maxHeartbeats 1000000 in
theorem zr_line {u v : List zE} (h : zRel u v) : zStep mX11_line mX12_line [] u v := by
  obtain ⟨R, t1, t2, t3, t4, t5, t6, L, cr, ho, P, pr, po, i, y, a, f1, f2, mn, sp, fp, ca, cs, ct, cv, M, dr, tr, ps, im, ke, rfl, rfl, hI⟩ := h
  obtain ⟨⟨hs, hla, hmn⟩, ⟨ht1, ht4⟩, ⟨hL, hE⟩, hy, ha, hP, hIm⟩ := id hI
  obtain ⟨la, sz, it⟩ := R
  have hw := hL.1
  have hm : lM L ≤ 1000 := by have := hL.2.1; omega
  have gM := zGd_eq hE hL
  have hwM := gM.1
  have hmM : lM M ≤ 1000 := by have := gM.2.1; omega
  have hy1 := hy.1
  obtain ⟨e1, e2⟩ := zLi_eq t4 t1 P
  refine ⟨7, 6, _, _, by decide, by decide, qX11_line (la, sz, it) t1 t2 t3 t4 t5 t6 L cr ho P pr po i y a f1 f2 ht1 ht4 _ rfl, qX12_line (mLa la sz, mn, mIt it, sp, f2) t4 t1 f1 fp ca cs ct cv M dr tr (ps, y.1, im, ke) (a.2.2.2.2, a.2.2.2.1) ht1 ht4 _ rfl, ?_⟩
  generalize zLi t4 t1 P = F at e1 e2
  generalize zPe t4 t1 7 (zD0 (zLS t4 t1) (zLB t4 t1)) (zL5 t4 t1) = G at e1 e2
  obtain ⟨D, s⟩ := F
  obtain ⟨E, s2⟩ := G
  have e1 : s = s2 := e1
  subst e1
  rintro z u' z' v' ⟨c1, c2⟩ ⟨m1, m2⟩
  by_cases h0 : s.2 = 0
  · obtain ⟨g1, g2⟩ := e2 h0
    obtain ⟨rfl, q2, q3, q5, q6, rfl⟩ := c1 h0
    obtain ⟨rfl, ca9, cs9, ct9, cv9, dr9, rfl⟩ := m1 h0
    refine ⟨congrArg nI g1.n.2.2.1, ?_⟩
    exact zRel_mk (y := (0, y.2.1, y.2.2)) ⟨hI.1, ⟨Nat.zero_le _, ht4⟩, ⟨zLg_Gd g2, g1⟩, ⟨Nat.zero_le _, hy.2⟩, ha, zPst_0 _ _ _ _, hIm⟩
  · obtain ⟨rfl, q2, q3, q5, q6, p9, rfl⟩ := c2 h0
    obtain ⟨rfl, fp9, ca9, cs9, ct9, cv9, dr9, rfl⟩ := m2 h0
    refine ⟨rfl, ?_⟩
    exact zRel_mk ⟨hI.1, ⟨Nat.zero_le _, ht4⟩, hI.2.2⟩
