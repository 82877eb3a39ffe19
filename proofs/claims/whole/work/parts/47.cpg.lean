/-! States and pages that go together. -/
def plk (dn vn rn : Nat) (C P : Int → Int) : Prop := ppk C dn vn rn ∧ ppk P dn vn rn ∧ (∀ v j : Int, 0 ≤ v → v < vn → 0 ≤ j → j < 4 → C (v * 4 + j) = P (4 * v + j)) ∧ ∀ v j : Int, 0 ≤ v → v < vn → dn ≤ j → j < 4 → P (4 * v + j) = 0
def okq (vn : Nat) (R V U : Int → Int) (st dr : Int) (r : Int → Int) (m : Nat) : Prop := agr R r ∧ rbd R ∧ (∀ i : Nat, i < m → V i = r (20 + i) ∧ U i = r (44 + i)) ∧ r 68 = m ∧ Mx vn (zl V U m) ∧ ii st = ii (r 69) ∧ ii dr = ii (r 70)
def okp (vn rn : Nat) (S : pg) (r : Int → Int) : Prop := ∃ (R V U : Int → Int) (st dr : Int) (m : Nat), S = ((rn : Int), R, (m : Int), V, U, st, dr) ∧ okq vn R V U st dr r m
theorem ii_cadd {a b c d : Int} (h : ii a = ii b) (e : c = d) : ii (a + c) = ii (b + d) := by rw [← ii_add, ← ii_add, h, e]
section CPG
variable {C P R V U r x rs sl mv Q Q2 bg wy : Int → Int} {rf ts tl sp kd rd rk rv rr ac k st dr pu be : Int} {m dn rn vn : Nat}
theorem okq_zp (h : okq vn R V U st dr r m) : zp r m = zl V U m := zl_congr fun i hi => ⟨(h.2.2.1 i hi).1.symm, (h.2.2.1 i hi).2.symm⟩
theorem okq_m (h : okq vn R V U st dr r m) (hv : vn ≤ 24) : 1 ≤ m ∧ m ≤ 24 := by
  have h1 := Mx_ne h.2.2.2.2.1
  have h2 := Mb_len h.2.2.2.2.1.1
  rw [zl_len] at h1 h2
  omega
theorem okq_sok (h : okq vn R V U st dr r m) (hv : vn ≤ 24) : sok vn R V U m := ⟨okq_m h hv, fun i h1 h2 => by
  have := Mx_at h.2.2.2.2.1 (i := i.toNat) (by omega)
  rw [show ((i.toNat : Nat) : Int) = i by omega] at this
  omega, h.2.1.1, h.2.1.2⟩
theorem okq_pgk (h : okq vn R V U st dr r m) (hv : vn ≤ 24) : pgk (vn : Int) r m := ⟨h.2.2.2.1, okq_m h hv, fun i h1 h2 => by
  have g := Mx_at h.2.2.2.2.1 (i := i.toNat) (by omega)
  have e := h.2.2.1 i.toNat (by omega)
  rw [show ((i.toNat : Nat) : Int) = i by omega] at g e
  omega, fun a j h1 h2 h3 h4 => by
  have g := h.2.1.1 a j h1 h2 h3 h4
  rw [h.1 _ (by omega) (by omega), Int.mul_comm a 5] at g
  exact g, fun a h1 h2 => by
  have g := h.2.1.2 a h1 h2
  rw [h.1 _ (by omega) (by omega), Int.mul_comm a 5] at g
  exact g⟩
theorem okq_Mx (h : okq vn R V U st dr r m) : Mx vn (zp r m) := by rw [okq_zp h]; exact h.2.2.2.2.1
theorem okq_cpl (h : okq vn R V U st dr r m) (pl : plk dn vn rn C P) : cpl R V U C r P m dn vn := ⟨h.1, h.2.2.1, pl.2.2.1, pl.2.2.2⟩
theorem plk_v (pl : plk dn vn rn C P) : (1 ≤ dn ∧ dn ≤ 4) ∧ (1 ≤ vn ∧ vn ≤ 24) ∧ (1 ≤ rn ∧ rn ≤ 4) := ⟨pl.1.1, pl.1.2.1, pl.1.2.2.1⟩
/-- from two equal mixtures -/
theorem okq_of {V' U' r' : Int → Int} {m' m2 : Nat} {st' dr' : Int} (h : okq vn R V U st dr r m) (e : zl V' U' m' = zp r' m2) (h68 : r' 68 = m2) (hM : Mx vn (zl V' U' m')) (hr : ∀ x : Int, x < 20 → r' x = r x) (hs : ii st' = ii (r' 69)) (hd : ii dr' = ii (r' 70)) : okq vn R V' U' st' dr' r' m' := by
  have em : m' = m2 := by
    have := congrArg List.length e
    unfold zp at this
    rw [zl_len, zl_len] at this
    exact this
  subst em
  refine ⟨fun q h1 h2 => (h.1 q h1 h2).trans (hr q h2).symm, h.2.1, fun i hi => zl_inj e hi, h68, hM, hs, hd⟩
theorem zT_in {how : Int} (hp : pgk (vn : Int) r m) (hP : ppk P dn vn rn) : 0 ≤ zT how r P m dn rn vn ∧ zT how r P m dn rn vn ≤ 100 ∧ (how ≠ 0 → zT how r P m dn rn vn ≤ r (44 + zWorst r P m dn rn)) := by
  have hw := zWorst_in (P := P) (dn := dn) (rn := rn) hp
  have hu := hp.2.2.1 _ hw.1 hw.2
  have h := zam_in (zF (zB how r P m dn (zWorst r P m dn rn)) (zW how r P m dn (zBest r P m dn rn vn) (zWorst r P m dn rn)) rn) (if how = 0 then 100 else (r (44 + zWorst r P m dn rn)).toNat)
  unfold zT
  by_cases e : how = 0
  · rw [if_pos e] at h ⊢; omega
  · rw [if_neg e] at h ⊢; omega
theorem stp_s {how : Int} (hh : how = 0 ∨ (how = 1 ∧ 1 < m) ∨ how = 2) (ok : okq vn R V U st dr r m) (pl : plk dn vn rn C P) : ∃ (t : Int) (m' : Nat) (V' U' r' : Int → Int) (st' dr' : Int), (0 ≤ t ∧ t ≤ 100 ∧ t = zT how r P m dn rn vn) ∧ okq vn R V' U' st' dr' r' m' ∧ (∃ (pu' be' : Int) (x' rs' sl' mv' Q' : Int → Int), ∀ h, Ca 11 [.ref 18, .ref 24, .int (ii how)] (wd [(13, oP (dn : Int) k (vn : Int)), (14, ar 96 C), (18, oD pu be), (19, ar 4 x), (20, ar 4 rs), (21, lr 4 sl), (22, ar 4 mv), (23, ar 24 Q), (24, oS24 (rn : Int) (m : Int) st dr), (25, ar 20 R), (26, ar 24 V), (27, ar 24 U)] h) (.inl (some (.int (ii t))), wd [(13, oP (dn : Int) k (vn : Int)), (14, ar 96 C), (18, oD pu' be'), (19, ar 4 x'), (20, ar 4 rs'), (21, lr 4 sl'), (22, ar 4 mv'), (23, ar 24 Q'), (24, oS24 (rn : Int) (m' : Int) st' dr'), (25, ar 20 R), (26, ar 24 V'), (27, ar 24 U')] h)) ∧ (∃ Q' bg' wy' : Int → Int, ∀ h, Ca 124 [.ref 102, .ref 107, .int (ii how)] (wd [(102, oX6 rf ts sp (dn : Int) kd (vn : Int) (rn : Int) rd rk rv rr ac), (104, ar 128 P), (107, ar 72 r), (112, ar 24 Q2), (113, lr 4 bg), (114, lr 4 wy)] h) (.inl (some (.int (ii t))), wd [(102, oX6 rf ts sp (dn : Int) kd (vn : Int) (rn : Int) rd rk rv rr ac), (104, ar 128 P), (107, ar 72 r'), (112, ar 24 Q'), (113, lr 4 bg'), (114, lr 4 wy')] h)) := by
  have hv := (plk_v pl).2.1
  have hs := okq_sok ok hv.2
  have hp := okq_pgk ok hv.2
  have hc := okq_cpl ok pl
  have hM := ok.2.2.2.2.1
  have hzp := okq_zp ok
  obtain ⟨m1, V1, U1, mv1, Q1, pu1, be1, a1, a2⟩ := c11s (d := (dn : Int)) (k := k) (pu := pu) (be := be) (x := x) (rs := rs) (sl := sl) (mv := mv) (Q := Q) (st := st) (dr := dr) hh hM hs pl.1
  obtain ⟨m2, r2, Q3, bg3, wy3, b1, b2, b3, b4, b5, b6⟩ := c124n (rf := rf) (ts := ts) (sp := sp) (k := kd) (rd := rd) (rk := rk) (rv := rv) (rr := rr) (ac := ac) (Q := Q2) (bg := bg) (wy := wy) hh (okq_Mx ok) hp pl.2.1
  have hh2 : how = 0 ∨ how = 1 ∨ how = 2 := by omega
  have eT := cpl_T hc hs pl.1 hh2
  have eB := cpl_Best hc hs pl.1
  have eW := cpl_Worst hc hs pl.1
  rw [eT, eB, eW] at a1 a2
  rw [hzp] at b1 b5
  have ht := zT_in (how := how) hp pl.2.1
  have hb := zBest_in (r := r) (m := m) pl.2.1
  have hw := zWorst_in (P := P) (dn := dn) (rn := rn) hp
  have hu := (ok.2.2.1 (zWorst r P m dn rn).toNat (by omega)).2
  rw [show (((zWorst r P m dn rn).toNat : Nat) : Int) = zWorst r P m dn rn by omega] at hu
  have hq := stq_ok (V := V) (U := U) hM hh hb (wi := (zWorst r P m dn rn).toNat) (by omega) (t := zT how r P m dn rn vn) ⟨ht.1, ht.2.1, fun e => by
    rw [show (((zWorst r P m dn rn).toNat : Nat) : Int) = zWorst r P m dn rn by omega, hu]
    exact ht.2.2 e⟩
  have hMx : Mx vn (zl V1 U1 m1) := by rw [a1]; exact pos_Mx hq.1 hq.2
  have em : m1 = m2 := by
    have := congrArg List.length (a1.trans b1.symm)
    unfold zp at this
    rw [zl_len, zl_len] at this
    exact this
  refine ⟨zT how r P m dn rn vn, m1, V1, U1, r2, _, _, ⟨ht.1, ht.2.1, rfl⟩, okq_of ok (a1.trans b1.symm) b2 hMx b3 ?_ ?_, ⟨pu1, be1, _, _, _, mv1, Q1, a2⟩, ⟨Q3, bg3, wy3, b6⟩⟩
  · rw [b4]; exact ii_cadd ok.2.2.2.2.2.1 rfl
  · rw [b5, em]; exact ii_cadd ok.2.2.2.2.2.2 rfl
theorem trf_s {i : Nat} {v n : Int} (ok : okq vn R V U st dr r m) (hv : vn ≤ 24) (hi : i < m) (hvv : 0 ≤ v ∧ v < vn) (hn : 0 ≤ n ∧ n ≤ U i) : ∃ (m' : Nat) (V' U' r' : Int → Int), okq vn R V' U' st dr r' m' ∧ (∀ h, Ca 60 [.ref 24, .int (ii (i : Int)), .int (ii v), .int (ii n)] (wd [(24, oS24 (rn : Int) (m : Int) st dr), (26, ar 24 V), (27, ar 24 U)] h) (.inl none, wd [(24, oS24 (rn : Int) (m' : Int) st dr), (26, ar 24 V'), (27, ar 24 U')] h)) ∧ ∀ h, Ca 125 [.ref 107, .int (ii (i : Int)), .int (ii v), .int (ii n)] (wd [(107, ar 72 r)] h) (.inl none, wd [(107, ar 72 r')] h) := by
  have hM := ok.2.2.2.2.1
  have hzp := okq_zp ok
  have hu := ok.2.2.1 i hi
  obtain ⟨m1, V1, U1, a1, a2⟩ := c60s (rn := rn) (st := st) (dr := dr) hM hv hi hvv hn
  obtain ⟨m2, r2, b1, b2, b3, b4⟩ := c125n ok.2.2.2.1 (okq_Mx ok) hv hi hvv (show 0 ≤ n ∧ n ≤ pU r i from by unfold pU; omega)
  rw [hzp] at b1
  have hMx : Mx vn (zl V1 U1 m1) := by rw [a1]; exact trl_Mx hM (zl_get hi) hvv hn
  refine ⟨m1, V1, U1, r2, okq_of ok (a1.trans b1.symm) b2 hMx (fun q hq => b3 q (by omega)) ?_ ?_, a2, b4⟩
  · rw [b3 69 (by omega)]; exact ok.2.2.2.2.2.1
  · rw [b3 70 (by omega)]; exact ok.2.2.2.2.2.2
theorem stp_t {how : Int} (hh : how = 0 ∨ (how = 1 ∧ 1 < m) ∨ how = 2) (ok : okq vn R V U st dr r m) (pl : plk dn vn rn C P) : ∃ (t : Int) (m' : Nat) (V' U' r' : Int → Int) (st' dr' : Int), (0 ≤ t ∧ t ≤ 100 ∧ t = zT how r P m dn rn vn) ∧ okq vn R V' U' st' dr' r' m' ∧ (∃ (pu' be' : Int) (x' rs' sl' mv' Q' : Int → Int), ∀ h, Ca 11 [.ref 18, .ref 28, .int (ii how)] (wd [(13, oP (dn : Int) k (vn : Int)), (14, ar 96 C), (18, oD pu be), (19, ar 4 x), (20, ar 4 rs), (21, lr 4 sl), (22, ar 4 mv), (23, ar 24 Q), (28, oS28 (rn : Int) (m : Int) st dr), (29, ar 20 R), (30, ar 24 V), (31, ar 24 U)] h) (.inl (some (.int (ii t))), wd [(13, oP (dn : Int) k (vn : Int)), (14, ar 96 C), (18, oD pu' be'), (19, ar 4 x'), (20, ar 4 rs'), (21, lr 4 sl'), (22, ar 4 mv'), (23, ar 24 Q'), (28, oS28 (rn : Int) (m' : Int) st' dr'), (29, ar 20 R), (30, ar 24 V'), (31, ar 24 U')] h)) ∧ (∃ Q' bg' wy' : Int → Int, ∀ h, Ca 124 [.ref 102, .ref 108, .int (ii how)] (wd [(102, oX6 rf ts sp (dn : Int) kd (vn : Int) (rn : Int) rd rk rv rr ac), (104, ar 128 P), (108, ar 72 r), (112, ar 24 Q2), (113, lr 4 bg), (114, lr 4 wy)] h) (.inl (some (.int (ii t))), wd [(102, oX6 rf ts sp (dn : Int) kd (vn : Int) (rn : Int) rd rk rv rr ac), (104, ar 128 P), (108, ar 72 r'), (112, ar 24 Q'), (113, lr 4 bg'), (114, lr 4 wy')] h)) := by
  have hv := (plk_v pl).2.1
  have hs := okq_sok ok hv.2
  have hp := okq_pgk ok hv.2
  have hc := okq_cpl ok pl
  have hM := ok.2.2.2.2.1
  have hzp := okq_zp ok
  obtain ⟨m1, V1, U1, mv1, Q1, pu1, be1, a1, a2⟩ := c11t (d := (dn : Int)) (k := k) (pu := pu) (be := be) (x := x) (rs := rs) (sl := sl) (mv := mv) (Q := Q) (st := st) (dr := dr) hh hM hs pl.1
  obtain ⟨m2, r2, Q3, bg3, wy3, b1, b2, b3, b4, b5, b6⟩ := c124t (rf := rf) (ts := ts) (sp := sp) (k := kd) (rd := rd) (rk := rk) (rv := rv) (rr := rr) (ac := ac) (Q := Q2) (bg := bg) (wy := wy) hh (okq_Mx ok) hp pl.2.1
  have hh2 : how = 0 ∨ how = 1 ∨ how = 2 := by omega
  have eT := cpl_T hc hs pl.1 hh2
  have eB := cpl_Best hc hs pl.1
  have eW := cpl_Worst hc hs pl.1
  rw [eT, eB, eW] at a1 a2
  rw [hzp] at b1 b5
  have ht := zT_in (how := how) hp pl.2.1
  have hb := zBest_in (r := r) (m := m) pl.2.1
  have hw := zWorst_in (P := P) (dn := dn) (rn := rn) hp
  have hu := (ok.2.2.1 (zWorst r P m dn rn).toNat (by omega)).2
  rw [show (((zWorst r P m dn rn).toNat : Nat) : Int) = zWorst r P m dn rn by omega] at hu
  have hq := stq_ok (V := V) (U := U) hM hh hb (wi := (zWorst r P m dn rn).toNat) (by omega) (t := zT how r P m dn rn vn) ⟨ht.1, ht.2.1, fun e => by
    rw [show (((zWorst r P m dn rn).toNat : Nat) : Int) = zWorst r P m dn rn by omega, hu]
    exact ht.2.2 e⟩
  have hMx : Mx vn (zl V1 U1 m1) := by rw [a1]; exact pos_Mx hq.1 hq.2
  have em : m1 = m2 := by
    have := congrArg List.length (a1.trans b1.symm)
    unfold zp at this
    rw [zl_len, zl_len] at this
    exact this
  refine ⟨zT how r P m dn rn vn, m1, V1, U1, r2, _, _, ⟨ht.1, ht.2.1, rfl⟩, okq_of ok (a1.trans b1.symm) b2 hMx b3 ?_ ?_, ⟨pu1, be1, _, _, _, mv1, Q1, a2⟩, ⟨Q3, bg3, wy3, b6⟩⟩
  · rw [b4]; exact ii_cadd ok.2.2.2.2.2.1 rfl
  · rw [b5, em]; exact ii_cadd ok.2.2.2.2.2.2 rfl
theorem trf_t {i : Nat} {v n : Int} (ok : okq vn R V U st dr r m) (hv : vn ≤ 24) (hi : i < m) (hvv : 0 ≤ v ∧ v < vn) (hn : 0 ≤ n ∧ n ≤ U i) : ∃ (m' : Nat) (V' U' r' : Int → Int), okq vn R V' U' st dr r' m' ∧ (∀ h, Ca 60 [.ref 28, .int (ii (i : Int)), .int (ii v), .int (ii n)] (wd [(28, oS28 (rn : Int) (m : Int) st dr), (30, ar 24 V), (31, ar 24 U)] h) (.inl none, wd [(28, oS28 (rn : Int) (m' : Int) st dr), (30, ar 24 V'), (31, ar 24 U')] h)) ∧ ∀ h, Ca 125 [.ref 108, .int (ii (i : Int)), .int (ii v), .int (ii n)] (wd [(108, ar 72 r)] h) (.inl none, wd [(108, ar 72 r')] h) := by
  have hM := ok.2.2.2.2.1
  have hzp := okq_zp ok
  have hu := ok.2.2.1 i hi
  obtain ⟨m1, V1, U1, a1, a2⟩ := c60t (rn := rn) (st := st) (dr := dr) hM hv hi hvv hn
  obtain ⟨m2, r2, b1, b2, b3, b4⟩ := c125t ok.2.2.2.1 (okq_Mx ok) hv hi hvv (show 0 ≤ n ∧ n ≤ pU r i from by unfold pU; omega)
  rw [hzp] at b1
  have hMx : Mx vn (zl V1 U1 m1) := by rw [a1]; exact trl_Mx hM (zl_get hi) hvv hn
  refine ⟨m1, V1, U1, r2, okq_of ok (a1.trans b1.symm) b2 hMx (fun q hq => b3 q (by omega)) ?_ ?_, a2, b4⟩
  · rw [b3 69 (by omega)]; exact ok.2.2.2.2.2.1
  · rw [b3 70 (by omega)]; exact ok.2.2.2.2.2.2
/-- the mixture of one vertex -/
theorem rst_ok {v : Int} {V' U' r' : Int → Int} (hR : agr R r) (hb : rbd R) (hv : 0 ≤ v ∧ v < vn) (hV : V' 0 = v) (hU : U' 0 = 100) (e : r' = zu (zu (zu (zu (zu r 20 v) 44 100) 68 1) 69 0) 70 0) : okq vn R V' U' 0 0 r' 1 := by
  subst e
  refine ⟨fun q h1 h2 => ?_, hb, fun i hi => ?_, rfl, ?_, rfl, rfl⟩
  · rw [zu_n _ _ (by omega), zu_n _ _ (by omega), zu_n _ _ (by omega), zu_n _ _ (by omega), zu_n _ _ (by omega)]
    exact hR q h1 h2
  · obtain rfl : i = 0 := by omega
    exact ⟨hV, hU⟩
  · have e : zl V' U' 1 = [(v, 100)] := by
      show [(V' ((0 : Nat) : Int), U' ((0 : Nat) : Int))] = _
      rw [show ((0 : Nat) : Int) = 0 from rfl, hV, hU]
    rw [e]
    refine ⟨⟨fun q hq => ?_, by simp⟩, fun q hq => ?_, by simp [mxs]⟩
    · rw [List.mem_singleton.mp hq]; exact ⟨hv.1, hv.2, by omega⟩
    · rw [List.mem_singleton.mp hq]; show (0 : Int) < 100; omega
theorem zu5 {v : Int} : (zu (zu (zu (zu (zu r 20 v) 44 100) 68 1) 69 0) 70 0) 68 = 1 := rfl
theorem okp_cp {p p0 : pg} {r r' : Int → Int} (h : okp vn rn p r) (hv : vn ≤ 24) (e : ∀ x : Int, 0 ≤ x → x < 72 → r' x = r x) : okp vn rn (pcp p0 p) r' := by
  obtain ⟨R, V, U, st, dr, m, rfl, ok⟩ := h
  have hm := okq_m ok hv
  refine ⟨_, _, _, _, _, m, rfl, fun q h1 h2 => ?_, ⟨fun a j h1 h2 h3 h4 => ?_, fun a h1 h2 => ?_⟩, fun i hi => ?_, ?_, ?_, ?_, ?_⟩
  · show zcpy R p0.2.1 0 0 20 q = r' q
    rw [zcpy_at (by omega), e q h1 (by omega), ← ok.1 q h1 h2]; congr 1; omega
  · show -9 ≤ zcpy R p0.2.1 0 0 20 (a * 5 + j) ∧ zcpy R p0.2.1 0 0 20 (a * 5 + j) ≤ 9
    rw [zcpy_at (by omega), show (0 : Int) + (a * 5 + j - 0) = a * 5 + j by omega]
    exact ok.2.1.1 a j h1 h2 h3 h4
  · show -99 ≤ zcpy R p0.2.1 0 0 20 (a * 5 + 4) ∧ zcpy R p0.2.1 0 0 20 (a * 5 + 4) ≤ 99
    rw [zcpy_at (by omega), show (0 : Int) + (a * 5 + 4 - 0) = a * 5 + 4 by omega]
    exact ok.2.1.2 a h1 h2
  · have := ok.2.2.1 i hi
    constructor
    · show zcpy V p0.2.2.2.1 0 0 24 i = r' (20 + i)
      rw [zcpy_at (by omega), e _ (by omega) (by omega), ← this.1]; congr 1; omega
    · show zcpy U p0.2.2.2.2.1 0 0 24 i = r' (44 + i)
      rw [zcpy_at (by omega), e _ (by omega) (by omega), ← this.2]; congr 1; omega
  · rw [e 68 (by omega) (by omega)]; exact ok.2.2.2.1
  · have : zl (zcpy V p0.2.2.2.1 0 0 24) (zcpy U p0.2.2.2.2.1 0 0 24) m = zl V U m := zl_congr fun i hi => by
      rw [zcpy_at (by omega), zcpy_at (by omega), show (0 : Int) + ((i : Int) - 0) = i by omega]; exact ⟨rfl, rfl⟩
    show Mx vn (zl (zcpy V p0.2.2.2.1 0 0 24) (zcpy U p0.2.2.2.2.1 0 0 24) m)
    rw [this]; exact ok.2.2.2.2.1
  · rw [e 69 (by omega) (by omega)]; exact ok.2.2.2.2.2.1
  · rw [e 70 (by omega) (by omega)]; exact ok.2.2.2.2.2.2
/-- the ring of states and the diary -/
def memk (vn rn c nx : Nat) (M : Nat → pg) (D : Int → Int) : Prop := c ≤ 14 ∧ nx < 14 ∧ ∀ i : Nat, i < c → okp vn rn (M ((nx + 14 - c + i) % 14)) (dpg D i)
theorem memk_new {c nx : Nat} {S : pg} {M : Nat → pg} {D : Int → Int} (h : memk vn rn c nx M D) (hv : vn ≤ 24) (hS : okp vn rn S r) : memk vn rn (if c = 14 then 14 else c + 1) ((nx + 1) % 14) (mup M nx (pcp (M nx) S)) (dnt D r c) := by
  obtain ⟨h1, h2, h3⟩ := h
  refine ⟨by split <;> omega, by omega, fun i hi => ?_⟩
  by_cases e : i = (if c = 14 then 13 else c)
  · have ei : ((nx + 1) % 14 + 14 - (if c = 14 then 14 else c + 1) + i) % 14 = nx := by
      rw [e]; split <;> omega
    rw [ei]
    show okp vn rn (if nx = nx then _ else _) _
    rw [if_pos rfl, e]
    exact okp_cp hS hv fun x g1 g2 => dnt_new h1 ⟨g1, g2⟩
  · have hlt : i < (if c = 14 then 13 else c) := by
      split at hi <;> split at e <;> split <;> omega
    have en : ((nx + 1) % 14 + 14 - (if c = 14 then 14 else c + 1) + i) % 14 ≠ nx := by
      split at hlt <;> split <;> omega
    have eo : ((nx + 1) % 14 + 14 - (if c = 14 then 14 else c + 1) + i) % 14 = (nx + 14 - c + (if c = 14 then i + 1 else i)) % 14 := by
      split <;> omega
    show okp vn rn (if _ = nx then _ else _) _
    rw [if_neg en, eo]
    have ho := h3 (if c = 14 then i + 1 else i) (by split at hlt <;> split <;> omega)
    obtain ⟨R, V, U, st, dr, m, e1, ok⟩ := ho
    have hm := okq_m ok hv
    have old : ∀ x : Int, 0 ≤ x → x < 72 → dpg (dnt D r c) i x = dpg D (if c = 14 then i + 1 else i) x := fun x g1 g2 => dnt_old h1 ⟨g1, g2⟩ hlt
    exact ⟨R, V, U, st, dr, m, e1, fun q g1 g2 => (ok.1 q g1 g2).trans (old q g1 (by omega)).symm, ok.2.1, fun j hj => ⟨(ok.2.2.1 j hj).1.trans (old _ (by omega) (by omega)).symm, (ok.2.2.1 j hj).2.trans (old _ (by omega) (by omega)).symm⟩, (old 68 (by omega) (by omega)).trans ok.2.2.2.1, ok.2.2.2.2.1, by rw [old 69 (by omega) (by omega)]; exact ok.2.2.2.2.2.1, by rw [old 70 (by omega) (by omega)]; exact ok.2.2.2.2.2.2⟩
theorem memk_back {c nx : Nat} {M : Nat → pg} {D : Int → Int} (h : memk vn rn c nx M D) (hc : 1 ≤ c) : memk vn rn (c - 1) ((nx + 13) % 14) M D ∧ okp vn rn (M ((nx + 13) % 14)) (dpg D (c - 1)) := by
  obtain ⟨h1, h2, h3⟩ := h
  refine ⟨⟨by omega, by omega, fun i hi => ?_⟩, ?_⟩
  · rw [show ((nx + 13) % 14 + 14 - (c - 1) + i) % 14 = (nx + 14 - c + i) % 14 by omega]
    exact h3 i (by omega)
  · have := h3 (c - 1) (by omega)
    rw [show (nx + 14 - c + (c - 1)) % 14 = (nx + 13) % 14 by omega] at this
    exact this
theorem memk_0 {M : Nat → pg} {D : Int → Int} : memk vn rn 0 0 M D := ⟨by omega, by omega, fun i hi => by omega⟩
end CPG
