/-! The law's cases one by one: readings. -/
theorem sea_in {t b : Int} (ht : t ≤ 4000000) (hb : b ≤ 4000000) : (0 ≤ seaU t b ∧ seaU t b ≤ 4000000) ∧ (0 ≤ seaL t b ∧ seaL t b ≤ 4000000) := by
  have h1 := Nat.div_le_self t.toNat (Nat.gcd b.toNat t.toNat)
  have h2 := Nat.div_le_self b.toNat (Nat.gcd b.toNat t.toNat)
  unfold seaU seaL
  generalize t.toNat / Nat.gcd b.toNat t.toNat = u1 at h1 ⊢
  generalize b.toNat / Nat.gcd b.toNat t.toNat = u2 at h2 ⊢
  constructor
  · split
    · omega
    · split <;> omega
  · split
    · omega
    · split <;> omega
theorem og_eq {C P R V U r : Int → Int} {m dn rn vn : Nat} {a b c e : Int} (h : cpl R V U C r P m dn vn) (hP : ppk C dn vn rn) : zam (yD C (or4 a b c e)) (vn - 1) = zam (og P a b c e dn) (vn - 1) := by
  have h2 := hP.2.1
  refine zam_cong fun v hv => ?_
  rw [cpl_D h hP (by omega)]
  exact zs_congr fun j _ => Int.mul_comm _ _
theorem k15 {L i n : Nat} {xs : Int → Int} {H : pd_H} (hL : (i : Int) + 5 ≤ L) (hL2 : L ≤ 2560) (hx : ∀ q : Int, -2147483648 ≤ xs q ∧ xs q ≤ 2147483647) (I : Inv L xs n H) : ∃ H2, Inv L xs (n + 1) H2 ∧ ∀ (r : pd_Out × pd_H) (w5 w6 w7 : Value), (∀ w5 w6 w7 : Value, Rn 201 1951 [.ref 0, .ref 1, .ref 102, .ref 116, .int (ii (i : Int)), w5, w6, w7] [] H2 r) → Rn 201 1011 [.ref 0, .ref 1, .ref 102, .ref 116, .int (ii (i : Int)), w5, w6, w7] [] H r := by
  obtain ⟨tl, T, sv, dn, vn, rn, kd, c, nx, F, X, S, Tr, M, W, h, rfl, rel, hn1, hn2⟩ := I
  obtain ⟨ht, hT, b6, b105, b115, pl, ⟨R, V, U, st, dr, m, rfl, ok⟩, mk, s0, s1⟩ := rel
  have hv := plk_v pl
  have hm := okq_m ok hv.2.1.2
  have hs := okq_sok ok hv.2.1.2
  have hp := okq_pgk ok hv.2.1.2
  have hc := okq_cpl ok pl
  have h68 := ok.2.2.2.1
  by_cases q1 : 0 ≤ (xs ((i : Int) + 1)) ∧ (xs ((i : Int) + 1)) < dn
  · have h5 := c78 (tl := tl) (k := kd) (pu := F 13) (be := F 14) (x := X 19) (rs := X 20) (sl := X 21) (st := st) (dr := dr) hs pl.1 q1
    rw [cpl_X hc hs (by omega)] at h5
    have h9 := zX_le hp pl.2.1.2.2.2 (xs ((i : Int) + 1))
    have hcl := Ca_fg (l := FR L xs tl T sv dn vn rn kd c F X (tup rn R m V U st dr) Tr W) (l' := [(0, _), (1, _), (102, _), (116, _), (13, _), (14, _), (24, _), (25, _), (26, _), (27, _), (18, _), (19, _), (20, _), (21, _), (22, _), (23, _), (104, _), (107, _), (112, _), (113, _), (114, _), (108, _), (28, _), (29, _), (30, _), (31, _), (109, _), (2, _), (103, _), (99, _), (111, _), (110, _), (17, _), (100, _), (101, _), (3, _), (4, _), (5, _), (6, _), (7, _), (8, _), (9, _), (10, _), (11, _), (12, _), (105, _), (106, _), (115, _), (90, _), (91, _), (92, _), (93, _), (94, _), (95, _), (96, _), (97, _), (98, _), (15, _), (16, _)]) (h5) (And.intro rfl (And.intro rfl (And.intro rfl (And.intro rfl (And.intro rfl (And.intro rfl (And.intro rfl (And.intro rfl (And.intro rfl (And.intro rfl (And.intro rfl (trivial)))))))))))) rfl rfl (wd (LMm (c : Int) (nx : Int) M) h)
    have hA := put_wd (w190 (o := X 116) hcl (wd_at rfl) (by omega) (wd_at rfl)) rfl
    refine ⟨wd (FR L xs tl T sv dn vn rn kd c (fu F 20 0) (xu (xu (xu (xu X 19 (zfill (X 19) (yX V U (X 14) m) 4)) 20 (zfill (X 20) (eR R V U (X 14) m) rn)) 21 (zfill (X 21) (eS R V U (X 14) m rn) 4)) 116 (zu (X 116) 0 (zX (X 107) (X 104) m (xs ((i : Int) + 1))))) (tup rn R m V U st dr) Tr W) (wd (LMm (c : Int) (nx : Int) M) h), ⟨tl, T, sv, dn, vn, rn, kd, c, nx, (fu F 20 0), (xu (xu (xu (xu X 19 (zfill (X 19) (yX V U (X 14) m) 4)) 20 (zfill (X 20) (eR R V U (X 14) m) rn)) 21 (zfill (X 21) (eS R V U (X 14) m rn) 4)) 116 (zu (X 116) 0 (zX (X 107) (X 104) m (xs ((i : Int) + 1))))), (tup rn R m V U st dr), Tr, M, W, h, rfl, ⟨ht, hT, b6, b105, b115, pl, ⟨R, V, U, st, dr, m, rfl, ok⟩, mk, s0, s1⟩, by omega, by omega⟩, fun r w5 w6 w7 hk => ?_⟩
    exact l15 hL hL2 hx (wd_at rfl) hA (wd_at rfl) (wd_at rfl) (Ca_fg (c157 hp pl.2.1 q1) (And.intro rfl (And.intro rfl (And.intro rfl (trivial)))) rfl rfl _) (wd_at rfl) (Ca_fg c107 (And.intro rfl trivial) rfl rfl _) (wd_at rfl) rfl (by omega) rfl hk
  ·
    have hcl := Ca_fgx (l := FR L xs tl T sv dn vn rn kd c F X (tup rn R m V U st dr) Tr W) (l' := [(0, _), (1, _), (102, _), (116, _), (13, _), (14, _), (24, _), (25, _), (26, _), (27, _), (18, _), (19, _), (20, _), (21, _), (22, _), (23, _), (104, _), (107, _), (112, _), (113, _), (114, _), (108, _), (28, _), (29, _), (30, _), (31, _), (109, _), (2, _), (103, _), (99, _), (111, _), (110, _), (17, _), (100, _), (101, _), (3, _), (4, _), (5, _), (6, _), (7, _), (8, _), (9, _), (10, _), (11, _), (12, _), (105, _), (106, _), (115, _), (90, _), (91, _), (92, _), (93, _), (94, _), (95, _), (96, _), (97, _), (98, _), (15, _), (16, _)]) (c78x (tl := tl) (hx _) hv.1.2 q1) (And.intro rfl (And.intro rfl (trivial))) rfl rfl (wd (LMm (c : Int) (nx : Int) M) h)
    have hA := thr_c (w190x2 hcl (wd_at rfl))
    refine ⟨wd (FR L xs tl T sv dn vn rn kd c (fu F 20 1) X (tup rn R m V U st dr) Tr W) (wd (LMm (c : Int) (nx : Int) M) (pd_thr h)), ⟨tl, T, sv, dn, vn, rn, kd, c, nx, (fu F 20 1), X, (tup rn R m V U st dr), Tr, M, W, (pd_thr h), rfl, ⟨ht, hT, b6, b105, b115, pl, ⟨R, V, U, st, dr, m, rfl, ok⟩, mk, s0, s1⟩, by show h.1.1 + 1 ≤ _; omega, by show h.1.2.1 + 6 ≤ _; omega⟩, fun r w5 w6 w7 hk => ?_⟩
    exact l15x hL hL2 hx (wd_at rfl) hA (wd_at rfl) (wd_at rfl) (Ca_fg (c157x (hx _) hv.1.2 q1) (And.intro rfl (trivial)) rfl rfl _) (wd_at rfl) (Ca_fg c107 (And.intro rfl trivial) rfl rfl _) (by omega) hk
theorem k16 {L i n : Nat} {xs : Int → Int} {H : pd_H} (hL : (i : Int) + 5 ≤ L) (hL2 : L ≤ 2560) (hx : ∀ q : Int, -2147483648 ≤ xs q ∧ xs q ≤ 2147483647) (I : Inv L xs n H) : ∃ H2, Inv L xs (n + 1) H2 ∧ ∀ (r : pd_Out × pd_H) (w5 w6 w7 : Value), (∀ w5 w6 w7 : Value, Rn 201 1951 [.ref 0, .ref 1, .ref 102, .ref 116, .int (ii (i : Int)), w5, w6, w7] [] H2 r) → Rn 201 1067 [.ref 0, .ref 1, .ref 102, .ref 116, .int (ii (i : Int)), w5, w6, w7] [] H r := by
  obtain ⟨tl, T, sv, dn, vn, rn, kd, c, nx, F, X, S, Tr, M, W, h, rfl, rel, hn1, hn2⟩ := I
  obtain ⟨ht, hT, b6, b105, b115, pl, ⟨R, V, U, st, dr, m, rfl, ok⟩, mk, s0, s1⟩ := rel
  have hv := plk_v pl
  have hm := okq_m ok hv.2.1.2
  have hs := okq_sok ok hv.2.1.2
  have hp := okq_pgk ok hv.2.1.2
  have hc := okq_cpl ok pl
  have h68 := ok.2.2.2.1
  by_cases q1 : 0 ≤ (xs ((i : Int) + 1)) ∧ (xs ((i : Int) + 1)) < rn
  · have h5 := c79 (tl := tl) (k := kd) (pu := F 13) (be := F 14) (x := X 19) (rs := X 20) (sl := X 21) (st := st) (dr := dr) hs pl.1 q1
    rw [cpl_Rs hc hs pl.1 (by omega)] at h5
    have h9 := zR_le hp pl.2.1 (k := (xs ((i : Int) + 1))) (by omega)
    have hcl := Ca_fg (l := FR L xs tl T sv dn vn rn kd c F X (tup rn R m V U st dr) Tr W) (l' := [(0, _), (1, _), (102, _), (116, _), (13, _), (14, _), (24, _), (25, _), (26, _), (27, _), (18, _), (19, _), (20, _), (21, _), (22, _), (23, _), (104, _), (107, _), (112, _), (113, _), (114, _), (108, _), (28, _), (29, _), (30, _), (31, _), (109, _), (2, _), (103, _), (99, _), (111, _), (110, _), (17, _), (100, _), (101, _), (3, _), (4, _), (5, _), (6, _), (7, _), (8, _), (9, _), (10, _), (11, _), (12, _), (105, _), (106, _), (115, _), (90, _), (91, _), (92, _), (93, _), (94, _), (95, _), (96, _), (97, _), (98, _), (15, _), (16, _)]) (h5) (And.intro rfl (And.intro rfl (And.intro rfl (And.intro rfl (And.intro rfl (And.intro rfl (And.intro rfl (And.intro rfl (And.intro rfl (And.intro rfl (And.intro rfl (trivial)))))))))))) rfl rfl (wd (LMm (c : Int) (nx : Int) M) h)
    have hA := put_wd (w191 (o := X 116) hcl (wd_at rfl) (by omega) (wd_at rfl)) rfl
    refine ⟨wd (FR L xs tl T sv dn vn rn kd c (fu F 20 0) (xu (xu (xu (xu X 19 (zfill (X 19) (yX V U (X 14) m) 4)) 20 (zfill (X 20) (eR R V U (X 14) m) rn)) 21 (zfill (X 21) (eS R V U (X 14) m rn) 4)) 116 (zu (X 116) 0 (zR (X 107) (X 104) m dn (xs ((i : Int) + 1))))) (tup rn R m V U st dr) Tr W) (wd (LMm (c : Int) (nx : Int) M) h), ⟨tl, T, sv, dn, vn, rn, kd, c, nx, (fu F 20 0), (xu (xu (xu (xu X 19 (zfill (X 19) (yX V U (X 14) m) 4)) 20 (zfill (X 20) (eR R V U (X 14) m) rn)) 21 (zfill (X 21) (eS R V U (X 14) m rn) 4)) 116 (zu (X 116) 0 (zR (X 107) (X 104) m dn (xs ((i : Int) + 1))))), (tup rn R m V U st dr), Tr, M, W, h, rfl, ⟨ht, hT, b6, b105, b115, pl, ⟨R, V, U, st, dr, m, rfl, ok⟩, mk, s0, s1⟩, by omega, by omega⟩, fun r w5 w6 w7 hk => ?_⟩
    exact l16 hL hL2 hx (wd_at rfl) hA (wd_at rfl) (wd_at rfl) (Ca_fg (c158 hp pl.2.1 q1) (And.intro rfl (And.intro rfl (And.intro rfl (trivial)))) rfl rfl _) (wd_at rfl) (Ca_fg c107 (And.intro rfl trivial) rfl rfl _) (wd_at rfl) rfl (by omega) rfl hk
  ·
    have hcl := Ca_fgx (l := FR L xs tl T sv dn vn rn kd c F X (tup rn R m V U st dr) Tr W) (l' := [(0, _), (1, _), (102, _), (116, _), (13, _), (14, _), (24, _), (25, _), (26, _), (27, _), (18, _), (19, _), (20, _), (21, _), (22, _), (23, _), (104, _), (107, _), (112, _), (113, _), (114, _), (108, _), (28, _), (29, _), (30, _), (31, _), (109, _), (2, _), (103, _), (99, _), (111, _), (110, _), (17, _), (100, _), (101, _), (3, _), (4, _), (5, _), (6, _), (7, _), (8, _), (9, _), (10, _), (11, _), (12, _), (105, _), (106, _), (115, _), (90, _), (91, _), (92, _), (93, _), (94, _), (95, _), (96, _), (97, _), (98, _), (15, _), (16, _)]) (c79x (tl := tl) (hx _) hv.2.2.2 q1) (And.intro rfl (And.intro rfl (trivial))) rfl rfl (wd (LMm (c : Int) (nx : Int) M) h)
    have hA := thr_c (w191x2 hcl (wd_at rfl))
    refine ⟨wd (FR L xs tl T sv dn vn rn kd c (fu F 20 1) X (tup rn R m V U st dr) Tr W) (wd (LMm (c : Int) (nx : Int) M) (pd_thr h)), ⟨tl, T, sv, dn, vn, rn, kd, c, nx, (fu F 20 1), X, (tup rn R m V U st dr), Tr, M, W, (pd_thr h), rfl, ⟨ht, hT, b6, b105, b115, pl, ⟨R, V, U, st, dr, m, rfl, ok⟩, mk, s0, s1⟩, by show h.1.1 + 1 ≤ _; omega, by show h.1.2.1 + 6 ≤ _; omega⟩, fun r w5 w6 w7 hk => ?_⟩
    exact l16x hL hL2 hx (wd_at rfl) hA (wd_at rfl) (wd_at rfl) (Ca_fg (c158x (hx _) hv.2.2.2 q1) (And.intro rfl (trivial)) rfl rfl _) (wd_at rfl) (Ca_fg c107 (And.intro rfl trivial) rfl rfl _) (by omega) hk
theorem k17t {L i n : Nat} {xs : Int → Int} {H : pd_H} (hL : (i : Int) + 5 ≤ L) (hL2 : L ≤ 2560) (hx : ∀ q : Int, -2147483648 ≤ xs q ∧ xs q ≤ 2147483647) (hq : (xs ((i : Int) + 2)) = 0) (I : Inv L xs n H) : ∃ H2, Inv L xs (n + 1) H2 ∧ ∀ (r : pd_Out × pd_H) (w5 w6 w7 : Value), (∀ w5 w6 w7 : Value, Rn 201 1951 [.ref 0, .ref 1, .ref 102, .ref 116, .int (ii (i : Int)), w5, w6, w7] [] H2 r) → Rn 201 1123 [.ref 0, .ref 1, .ref 102, .ref 116, .int (ii (i : Int)), w5, w6, w7] [] H r := by
  obtain ⟨tl, T, sv, dn, vn, rn, kd, c, nx, F, X, S, Tr, M, W, h, rfl, rel, hn1, hn2⟩ := I
  obtain ⟨ht, hT, b6, b105, b115, pl, ⟨R, V, U, st, dr, m, rfl, ok⟩, mk, s0, s1⟩ := rel
  have hv := plk_v pl
  have hm := okq_m ok hv.2.1.2
  have hs := okq_sok ok hv.2.1.2
  have hp := okq_pgk ok hv.2.1.2
  have hc := okq_cpl ok pl
  have h68 := ok.2.2.2.1
  by_cases q1 : 0 ≤ (xs ((i : Int) + 1)) ∧ (xs ((i : Int) + 1)) < dn
  · have h5 := c80c (tl := tl) (k := kd) (pu := F 13) (be := F 14) (x := X 19) (rs := X 20) (sl := X 21) (st := st) (dr := dr) hs pl.1 q1
    rw [cpl_S hc hs pl.1 (by omega)] at h5
    have h9 := zSl_le hp pl.2.1 (j := (xs ((i : Int) + 1))) (by omega)
    have hcl := Ca_fg (l := FR L xs tl T sv dn vn rn kd c F X (tup rn R m V U st dr) Tr W) (l' := [(0, _), (1, _), (102, _), (116, _), (13, _), (14, _), (24, _), (25, _), (26, _), (27, _), (18, _), (19, _), (20, _), (21, _), (22, _), (23, _), (104, _), (107, _), (112, _), (113, _), (114, _), (108, _), (28, _), (29, _), (30, _), (31, _), (109, _), (2, _), (103, _), (99, _), (111, _), (110, _), (17, _), (100, _), (101, _), (3, _), (4, _), (5, _), (6, _), (7, _), (8, _), (9, _), (10, _), (11, _), (12, _), (105, _), (106, _), (115, _), (90, _), (91, _), (92, _), (93, _), (94, _), (95, _), (96, _), (97, _), (98, _), (15, _), (16, _)]) (h5) (And.intro rfl (And.intro rfl (And.intro rfl (And.intro rfl (And.intro rfl (And.intro rfl (And.intro rfl (And.intro rfl (And.intro rfl (And.intro rfl (And.intro rfl (trivial)))))))))))) rfl rfl (wd (LMm (c : Int) (nx : Int) M) h)
    have hA := put_wd (w192 (o := X 116) hcl (wd_at rfl) (wd_at rfl)) rfl
    refine ⟨wd (FR L xs tl T sv dn vn rn kd c (fu F 20 0) (xu (xu (xu (xu X 19 (zfill (X 19) (yX V U (X 14) m) 4)) 20 (zfill (X 20) (eR R V U (X 14) m) rn)) 21 (zfill (X 21) (eS R V U (X 14) m rn) 4)) 116 (zu (X 116) 0 (zSl (X 107) (X 104) m dn rn (xs ((i : Int) + 1))))) (tup rn R m V U st dr) Tr W) (wd (LMm (c : Int) (nx : Int) M) h), ⟨tl, T, sv, dn, vn, rn, kd, c, nx, (fu F 20 0), (xu (xu (xu (xu X 19 (zfill (X 19) (yX V U (X 14) m) 4)) 20 (zfill (X 20) (eR R V U (X 14) m) rn)) 21 (zfill (X 21) (eS R V U (X 14) m rn) 4)) 116 (zu (X 116) 0 (zSl (X 107) (X 104) m dn rn (xs ((i : Int) + 1))))), (tup rn R m V U st dr), Tr, M, W, h, rfl, ⟨ht, hT, b6, b105, b115, pl, ⟨R, V, U, st, dr, m, rfl, ok⟩, mk, s0, s1⟩, by omega, by omega⟩, fun r w5 w6 w7 hk => ?_⟩
    exact l17t hL hL2 hx hq (wd_at rfl) hA (wd_at rfl) (wd_at rfl) (Ca_fg (c159c hp pl.2.1 q1) (And.intro rfl (And.intro rfl (And.intro rfl (trivial)))) rfl rfl _) (wd_at rfl) (Ca_fg c107 (And.intro rfl trivial) rfl rfl _) (wd_at rfl) rfl (by omega) rfl hk
  ·
    have hcl := Ca_fgx (l := FR L xs tl T sv dn vn rn kd c F X (tup rn R m V U st dr) Tr W) (l' := [(0, _), (1, _), (102, _), (116, _), (13, _), (14, _), (24, _), (25, _), (26, _), (27, _), (18, _), (19, _), (20, _), (21, _), (22, _), (23, _), (104, _), (107, _), (112, _), (113, _), (114, _), (108, _), (28, _), (29, _), (30, _), (31, _), (109, _), (2, _), (103, _), (99, _), (111, _), (110, _), (17, _), (100, _), (101, _), (3, _), (4, _), (5, _), (6, _), (7, _), (8, _), (9, _), (10, _), (11, _), (12, _), (105, _), (106, _), (115, _), (90, _), (91, _), (92, _), (93, _), (94, _), (95, _), (96, _), (97, _), (98, _), (15, _), (16, _)]) (c80xc (tl := tl) (hx _) hv.1.2 q1) (And.intro rfl (And.intro rfl (trivial))) rfl rfl (wd (LMm (c : Int) (nx : Int) M) h)
    have hA := thr_c (w192x2 hcl (wd_at rfl))
    refine ⟨wd (FR L xs tl T sv dn vn rn kd c (fu F 20 1) X (tup rn R m V U st dr) Tr W) (wd (LMm (c : Int) (nx : Int) M) (pd_thr h)), ⟨tl, T, sv, dn, vn, rn, kd, c, nx, (fu F 20 1), X, (tup rn R m V U st dr), Tr, M, W, (pd_thr h), rfl, ⟨ht, hT, b6, b105, b115, pl, ⟨R, V, U, st, dr, m, rfl, ok⟩, mk, s0, s1⟩, by show h.1.1 + 1 ≤ _; omega, by show h.1.2.1 + 6 ≤ _; omega⟩, fun r w5 w6 w7 hk => ?_⟩
    exact l17tx hL hL2 hx hq (wd_at rfl) hA (wd_at rfl) (wd_at rfl) (Ca_fg (c159xc (hx _) hv.1.2 q1) (And.intro rfl (trivial)) rfl rfl _) (wd_at rfl) (Ca_fg c107 (And.intro rfl trivial) rfl rfl _) (by omega) hk
theorem k17f {L i n : Nat} {xs : Int → Int} {H : pd_H} (hL : (i : Int) + 5 ≤ L) (hL2 : L ≤ 2560) (hx : ∀ q : Int, -2147483648 ≤ xs q ∧ xs q ≤ 2147483647) (hq : ¬ (xs ((i : Int) + 2)) = 0) (I : Inv L xs n H) : ∃ H2, Inv L xs (n + 1) H2 ∧ ∀ (r : pd_Out × pd_H) (w5 w6 w7 : Value), (∀ w5 w6 w7 : Value, Rn 201 1951 [.ref 0, .ref 1, .ref 102, .ref 116, .int (ii (i : Int)), w5, w6, w7] [] H2 r) → Rn 201 1123 [.ref 0, .ref 1, .ref 102, .ref 116, .int (ii (i : Int)), w5, w6, w7] [] H r := by
  obtain ⟨tl, T, sv, dn, vn, rn, kd, c, nx, F, X, S, Tr, M, W, h, rfl, rel, hn1, hn2⟩ := I
  obtain ⟨ht, hT, b6, b105, b115, pl, ⟨R, V, U, st, dr, m, rfl, ok⟩, mk, s0, s1⟩ := rel
  have hv := plk_v pl
  have hm := okq_m ok hv.2.1.2
  have hs := okq_sok ok hv.2.1.2
  have hp := okq_pgk ok hv.2.1.2
  have hc := okq_cpl ok pl
  have h68 := ok.2.2.2.1
  by_cases q1 : 0 ≤ (xs ((i : Int) + 1)) ∧ (xs ((i : Int) + 1)) < vn
  · have h5 := c80v (tl := tl) (k := kd) (pu := F 13) (be := F 14) (x := X 19) (rs := X 20) (sl := X 21) (st := st) (dr := dr) hs pl.1 q1
    rw [cpl_V hc hs pl.1 (by omega)] at h5
    have h9 := zSv_le hp pl.2.1 (xs ((i : Int) + 1))
    have hcl := Ca_fg (l := FR L xs tl T sv dn vn rn kd c F X (tup rn R m V U st dr) Tr W) (l' := [(0, _), (1, _), (102, _), (116, _), (13, _), (14, _), (24, _), (25, _), (26, _), (27, _), (18, _), (19, _), (20, _), (21, _), (22, _), (23, _), (104, _), (107, _), (112, _), (113, _), (114, _), (108, _), (28, _), (29, _), (30, _), (31, _), (109, _), (2, _), (103, _), (99, _), (111, _), (110, _), (17, _), (100, _), (101, _), (3, _), (4, _), (5, _), (6, _), (7, _), (8, _), (9, _), (10, _), (11, _), (12, _), (105, _), (106, _), (115, _), (90, _), (91, _), (92, _), (93, _), (94, _), (95, _), (96, _), (97, _), (98, _), (15, _), (16, _)]) (h5) (And.intro rfl (And.intro rfl (And.intro rfl (And.intro rfl (And.intro rfl (And.intro rfl (And.intro rfl (And.intro rfl (And.intro rfl (And.intro rfl (And.intro rfl (trivial)))))))))))) rfl rfl (wd (LMm (c : Int) (nx : Int) M) h)
    have hA := put_wd (w192 (o := X 116) hcl (wd_at rfl) (wd_at rfl)) rfl
    refine ⟨wd (FR L xs tl T sv dn vn rn kd c (fu F 20 0) (xu (xu (xu (xu X 19 (zfill (X 19) (yX V U (X 14) m) 4)) 20 (zfill (X 20) (eR R V U (X 14) m) rn)) 21 (zfill (X 21) (eS R V U (X 14) m rn) 4)) 116 (zu (X 116) 0 (zSv (X 107) (X 104) m dn rn (xs ((i : Int) + 1))))) (tup rn R m V U st dr) Tr W) (wd (LMm (c : Int) (nx : Int) M) h), ⟨tl, T, sv, dn, vn, rn, kd, c, nx, (fu F 20 0), (xu (xu (xu (xu X 19 (zfill (X 19) (yX V U (X 14) m) 4)) 20 (zfill (X 20) (eR R V U (X 14) m) rn)) 21 (zfill (X 21) (eS R V U (X 14) m rn) 4)) 116 (zu (X 116) 0 (zSv (X 107) (X 104) m dn rn (xs ((i : Int) + 1))))), (tup rn R m V U st dr), Tr, M, W, h, rfl, ⟨ht, hT, b6, b105, b115, pl, ⟨R, V, U, st, dr, m, rfl, ok⟩, mk, s0, s1⟩, by omega, by omega⟩, fun r w5 w6 w7 hk => ?_⟩
    exact l17f hL hL2 hx hq (wd_at rfl) hA (wd_at rfl) (wd_at rfl) (Ca_fg (c159v hp pl.2.1 q1) (And.intro rfl (And.intro rfl (And.intro rfl (trivial)))) rfl rfl _) (wd_at rfl) (Ca_fg c107 (And.intro rfl trivial) rfl rfl _) (wd_at rfl) rfl (by omega) rfl hk
  ·
    have hcl := Ca_fgx (l := FR L xs tl T sv dn vn rn kd c F X (tup rn R m V U st dr) Tr W) (l' := [(0, _), (1, _), (102, _), (116, _), (13, _), (14, _), (24, _), (25, _), (26, _), (27, _), (18, _), (19, _), (20, _), (21, _), (22, _), (23, _), (104, _), (107, _), (112, _), (113, _), (114, _), (108, _), (28, _), (29, _), (30, _), (31, _), (109, _), (2, _), (103, _), (99, _), (111, _), (110, _), (17, _), (100, _), (101, _), (3, _), (4, _), (5, _), (6, _), (7, _), (8, _), (9, _), (10, _), (11, _), (12, _), (105, _), (106, _), (115, _), (90, _), (91, _), (92, _), (93, _), (94, _), (95, _), (96, _), (97, _), (98, _), (15, _), (16, _)]) (c80xv (tl := tl) (hx _) hv.2.1.2 q1) (And.intro rfl (And.intro rfl (trivial))) rfl rfl (wd (LMm (c : Int) (nx : Int) M) h)
    have hA := thr_c (w192x2 hcl (wd_at rfl))
    refine ⟨wd (FR L xs tl T sv dn vn rn kd c (fu F 20 1) X (tup rn R m V U st dr) Tr W) (wd (LMm (c : Int) (nx : Int) M) (pd_thr h)), ⟨tl, T, sv, dn, vn, rn, kd, c, nx, (fu F 20 1), X, (tup rn R m V U st dr), Tr, M, W, (pd_thr h), rfl, ⟨ht, hT, b6, b105, b115, pl, ⟨R, V, U, st, dr, m, rfl, ok⟩, mk, s0, s1⟩, by show h.1.1 + 1 ≤ _; omega, by show h.1.2.1 + 6 ≤ _; omega⟩, fun r w5 w6 w7 hk => ?_⟩
    exact l17fx hL hL2 hx hq (wd_at rfl) hA (wd_at rfl) (wd_at rfl) (Ca_fg (c159xv (hx _) hv.2.1.2 q1) (And.intro rfl (trivial)) rfl rfl _) (wd_at rfl) (Ca_fg c107 (And.intro rfl trivial) rfl rfl _) (by omega) hk
theorem k18 {L i n : Nat} {xs : Int → Int} {H : pd_H} (hL : (i : Int) + 5 ≤ L) (hL2 : L ≤ 2560) (hx : ∀ q : Int, -2147483648 ≤ xs q ∧ xs q ≤ 2147483647) (I : Inv L xs n H) : ∃ H2, Inv L xs (n + 1) H2 ∧ ∀ (r : pd_Out × pd_H) (w5 w6 w7 : Value), (∀ w5 w6 w7 : Value, Rn 201 1951 [.ref 0, .ref 1, .ref 102, .ref 116, .int (ii (i : Int)), w5, w6, w7] [] H2 r) → Rn 201 1206 [.ref 0, .ref 1, .ref 102, .ref 116, .int (ii (i : Int)), w5, w6, w7] [] H r := by
  obtain ⟨tl, T, sv, dn, vn, rn, kd, c, nx, F, X, S, Tr, M, W, h, rfl, rel, hn1, hn2⟩ := I
  obtain ⟨ht, hT, b6, b105, b115, pl, ⟨R, V, U, st, dr, m, rfl, ok⟩, mk, s0, s1⟩ := rel
  have hv := plk_v pl
  have hm := okq_m ok hv.2.1.2
  have hs := okq_sok ok hv.2.1.2
  have hp := okq_pgk ok hv.2.1.2
  have hc := okq_cpl ok pl
  have h68 := ok.2.2.2.1
  have h5 := c81 (tl := tl) (k := kd) (pu := F 13) (be := F 14) (x := X 19) (rs := X 20) (sl := X 21) (st := st) (dr := dr) hs pl.1
  rw [cpl_Val hc hs pl.1] at h5
  have h9 := zV_in hp pl.2.1
  have hcl := Ca_fg (l := FR L xs tl T sv dn vn rn kd c F X (tup rn R m V U st dr) Tr W) (l' := [(0, _), (1, _), (102, _), (116, _), (13, _), (14, _), (24, _), (25, _), (26, _), (27, _), (18, _), (19, _), (20, _), (21, _), (22, _), (23, _), (104, _), (107, _), (112, _), (113, _), (114, _), (108, _), (28, _), (29, _), (30, _), (31, _), (109, _), (2, _), (103, _), (99, _), (111, _), (110, _), (17, _), (100, _), (101, _), (3, _), (4, _), (5, _), (6, _), (7, _), (8, _), (9, _), (10, _), (11, _), (12, _), (105, _), (106, _), (115, _), (90, _), (91, _), (92, _), (93, _), (94, _), (95, _), (96, _), (97, _), (98, _), (15, _), (16, _)]) (h5) (And.intro rfl (And.intro rfl (And.intro rfl (And.intro rfl (And.intro rfl (And.intro rfl (And.intro rfl (And.intro rfl (And.intro rfl (And.intro rfl (And.intro rfl (trivial)))))))))))) rfl rfl (wd (LMm (c : Int) (nx : Int) M) h)
  refine ⟨wd (FR L xs tl T sv dn vn rn kd c (fu F 20 0) (xu (xu (xu X 19 (zfill (X 19) (yX V U (X 14) m) 4)) 20 (zfill (X 20) (eR R V U (X 14) m) rn)) 21 (zfill (X 21) (eS R V U (X 14) m rn) 4)) (tup rn R m V U st dr) Tr W) (wd (LMm (c : Int) (nx : Int) M) h), ⟨tl, T, sv, dn, vn, rn, kd, c, nx, (fu F 20 0), (xu (xu (xu X 19 (zfill (X 19) (yX V U (X 14) m) 4)) 20 (zfill (X 20) (eR R V U (X 14) m) rn)) 21 (zfill (X 21) (eS R V U (X 14) m rn) 4)), (tup rn R m V U st dr), Tr, M, W, h, rfl, ⟨ht, hT, b6, b105, b115, pl, ⟨R, V, U, st, dr, m, rfl, ok⟩, mk, s0, s1⟩, by omega, by omega⟩, fun r w5 w6 w7 hk => ?_⟩
  exact l18 hL hL2 hx (wd_at rfl) hcl (wd_at rfl) (wd_at rfl) (wd_at rfl) (Ca_fg (c160 hp pl.2.1) (And.intro rfl (And.intro rfl (And.intro rfl (trivial)))) rfl rfl _) (by omega) (hk _ _ _)
theorem k19 {L i n : Nat} {xs : Int → Int} {H : pd_H} (hL : (i : Int) + 5 ≤ L) (hL2 : L ≤ 2560) (hx : ∀ q : Int, -2147483648 ≤ xs q ∧ xs q ≤ 2147483647) (I : Inv L xs n H) : ∃ H2, Inv L xs (n + 1) H2 ∧ ∀ (r : pd_Out × pd_H) (w5 w6 w7 : Value), (∀ w5 w6 w7 : Value, Rn 201 1951 [.ref 0, .ref 1, .ref 102, .ref 116, .int (ii (i : Int)), w5, w6, w7] [] H2 r) → Rn 201 1220 [.ref 0, .ref 1, .ref 102, .ref 116, .int (ii (i : Int)), w5, w6, w7] [] H r := by
  obtain ⟨tl, T, sv, dn, vn, rn, kd, c, nx, F, X, S, Tr, M, W, h, rfl, rel, hn1, hn2⟩ := I
  obtain ⟨ht, hT, b6, b105, b115, pl, ⟨R, V, U, st, dr, m, rfl, ok⟩, mk, s0, s1⟩ := rel
  have hv := plk_v pl
  have hm := okq_m ok hv.2.1.2
  have hs := okq_sok ok hv.2.1.2
  have hp := okq_pgk ok hv.2.1.2
  have hc := okq_cpl ok pl
  have h68 := ok.2.2.2.1
  have h5 := c82 (tl := tl) (k := kd) (pu := F 13) (be := F 14) (x := X 19) (rs := X 20) (sl := X 21) (st := st) (dr := dr) hs pl.1
  rw [cpl_Gap hc hs pl.1] at h5
  have h9 := zGap_in hp pl.2.1
  have hcl := Ca_fg (l := FR L xs tl T sv dn vn rn kd c F X (tup rn R m V U st dr) Tr W) (l' := [(0, _), (1, _), (102, _), (116, _), (13, _), (14, _), (24, _), (25, _), (26, _), (27, _), (18, _), (19, _), (20, _), (21, _), (22, _), (23, _), (104, _), (107, _), (112, _), (113, _), (114, _), (108, _), (28, _), (29, _), (30, _), (31, _), (109, _), (2, _), (103, _), (99, _), (111, _), (110, _), (17, _), (100, _), (101, _), (3, _), (4, _), (5, _), (6, _), (7, _), (8, _), (9, _), (10, _), (11, _), (12, _), (105, _), (106, _), (115, _), (90, _), (91, _), (92, _), (93, _), (94, _), (95, _), (96, _), (97, _), (98, _), (15, _), (16, _)]) (h5) (And.intro rfl (And.intro rfl (And.intro rfl (And.intro rfl (And.intro rfl (And.intro rfl (And.intro rfl (And.intro rfl (And.intro rfl (And.intro rfl (And.intro rfl (trivial)))))))))))) rfl rfl (wd (LMm (c : Int) (nx : Int) M) h)
  refine ⟨wd (FR L xs tl T sv dn vn rn kd c (fu F 20 0) (xu (xu (xu X 19 (zfill (X 19) (yX V U (X 14) m) 4)) 20 (zfill (X 20) (eR R V U (X 14) m) rn)) 21 (zfill (X 21) (eS R V U (X 14) m rn) 4)) (tup rn R m V U st dr) Tr W) (wd (LMm (c : Int) (nx : Int) M) h), ⟨tl, T, sv, dn, vn, rn, kd, c, nx, (fu F 20 0), (xu (xu (xu X 19 (zfill (X 19) (yX V U (X 14) m) 4)) 20 (zfill (X 20) (eR R V U (X 14) m) rn)) 21 (zfill (X 21) (eS R V U (X 14) m rn) 4)), (tup rn R m V U st dr), Tr, M, W, h, rfl, ⟨ht, hT, b6, b105, b115, pl, ⟨R, V, U, st, dr, m, rfl, ok⟩, mk, s0, s1⟩, by omega, by omega⟩, fun r w5 w6 w7 hk => ?_⟩
  exact l19 hL hL2 hx (wd_at rfl) hcl (wd_at rfl) (wd_at rfl) (wd_at rfl) (Ca_fg (c161 hp pl.2.1) (And.intro rfl (And.intro rfl (And.intro rfl (trivial)))) rfl rfl _) (by omega) (hk _ _ _)
theorem k20 {L i n : Nat} {xs : Int → Int} {H : pd_H} (hL : (i : Int) + 5 ≤ L) (hL2 : L ≤ 2560) (hx : ∀ q : Int, -2147483648 ≤ xs q ∧ xs q ≤ 2147483647) (I : Inv L xs n H) : ∃ H2, Inv L xs (n + 1) H2 ∧ ∀ (r : pd_Out × pd_H) (w5 w6 w7 : Value), (∀ w5 w6 w7 : Value, Rn 201 1951 [.ref 0, .ref 1, .ref 102, .ref 116, .int (ii (i : Int)), w5, w6, w7] [] H2 r) → Rn 201 1234 [.ref 0, .ref 1, .ref 102, .ref 116, .int (ii (i : Int)), w5, w6, w7] [] H r := by
  obtain ⟨tl, T, sv, dn, vn, rn, kd, c, nx, F, X, S, Tr, M, W, h, rfl, rel, hn1, hn2⟩ := I
  obtain ⟨ht, hT, b6, b105, b115, pl, ⟨R, V, U, st, dr, m, rfl, ok⟩, mk, s0, s1⟩ := rel
  have hv := plk_v pl
  have hm := okq_m ok hv.2.1.2
  have hs := okq_sok ok hv.2.1.2
  have hp := okq_pgk ok hv.2.1.2
  have hc := okq_cpl ok pl
  have h68 := ok.2.2.2.1
  have h5 := c83 (tl := tl) (k := kd) (pu := F 13) (be := F 14) (x := X 19) (rs := X 20) (sl := X 21) (st := st) (dr := dr) hs pl.1
  rw [cpl_Best hc hs pl.1] at h5
  have hcl := Ca_fg (l := FR L xs tl T sv dn vn rn kd c F X (tup rn R m V U st dr) Tr W) (l' := [(0, _), (1, _), (102, _), (116, _), (13, _), (14, _), (24, _), (25, _), (26, _), (27, _), (18, _), (19, _), (20, _), (21, _), (22, _), (23, _), (104, _), (107, _), (112, _), (113, _), (114, _), (108, _), (28, _), (29, _), (30, _), (31, _), (109, _), (2, _), (103, _), (99, _), (111, _), (110, _), (17, _), (100, _), (101, _), (3, _), (4, _), (5, _), (6, _), (7, _), (8, _), (9, _), (10, _), (11, _), (12, _), (105, _), (106, _), (115, _), (90, _), (91, _), (92, _), (93, _), (94, _), (95, _), (96, _), (97, _), (98, _), (15, _), (16, _)]) (h5) (And.intro rfl (And.intro rfl (And.intro rfl (And.intro rfl (And.intro rfl (And.intro rfl (And.intro rfl (And.intro rfl (And.intro rfl (And.intro rfl (And.intro rfl (trivial)))))))))))) rfl rfl (wd (LMm (c : Int) (nx : Int) M) h)
  refine ⟨wd (FR L xs tl T sv dn vn rn kd c (fu F 20 0) (xu (xu (xu X 19 (zfill (X 19) (yX V U (X 14) m) 4)) 20 (zfill (X 20) (eR R V U (X 14) m) rn)) 21 (zfill (X 21) (eS R V U (X 14) m rn) 4)) (tup rn R m V U st dr) Tr W) (wd (LMm (c : Int) (nx : Int) M) h), ⟨tl, T, sv, dn, vn, rn, kd, c, nx, (fu F 20 0), (xu (xu (xu X 19 (zfill (X 19) (yX V U (X 14) m) 4)) 20 (zfill (X 20) (eR R V U (X 14) m) rn)) 21 (zfill (X 21) (eS R V U (X 14) m rn) 4)), (tup rn R m V U st dr), Tr, M, W, h, rfl, ⟨ht, hT, b6, b105, b115, pl, ⟨R, V, U, st, dr, m, rfl, ok⟩, mk, s0, s1⟩, by omega, by omega⟩, fun r w5 w6 w7 hk => ?_⟩
  exact l20 hL hL2 hx (wd_at rfl) hcl (wd_at rfl) (wd_at rfl) (wd_at rfl) (Ca_fg (c162 hp pl.2.1) (And.intro rfl (And.intro rfl (And.intro rfl (trivial)))) rfl rfl _) (hk _ _ _)
theorem k21 {L i n : Nat} {xs : Int → Int} {H : pd_H} (hL : (i : Int) + 5 ≤ L) (hL2 : L ≤ 2560) (hx : ∀ q : Int, -2147483648 ≤ xs q ∧ xs q ≤ 2147483647) (I : Inv L xs n H) : ∃ H2, Inv L xs (n + 1) H2 ∧ ∀ (r : pd_Out × pd_H) (w5 w6 w7 : Value), (∀ w5 w6 w7 : Value, Rn 201 1951 [.ref 0, .ref 1, .ref 102, .ref 116, .int (ii (i : Int)), w5, w6, w7] [] H2 r) → Rn 201 1247 [.ref 0, .ref 1, .ref 102, .ref 116, .int (ii (i : Int)), w5, w6, w7] [] H r := by
  obtain ⟨tl, T, sv, dn, vn, rn, kd, c, nx, F, X, S, Tr, M, W, h, rfl, rel, hn1, hn2⟩ := I
  obtain ⟨ht, hT, b6, b105, b115, pl, ⟨R, V, U, st, dr, m, rfl, ok⟩, mk, s0, s1⟩ := rel
  have hv := plk_v pl
  have hm := okq_m ok hv.2.1.2
  have hs := okq_sok ok hv.2.1.2
  have hp := okq_pgk ok hv.2.1.2
  have hc := okq_cpl ok pl
  have h68 := ok.2.2.2.1
  have h5 := c84 (tl := tl) (k := kd) (pu := F 13) (be := F 14) (x := X 19) (rs := X 20) (sl := X 21) (st := st) (dr := dr) hs pl.1
  rw [cpl_Worst hc hs pl.1] at h5
  have hcl := Ca_fg (l := FR L xs tl T sv dn vn rn kd c F X (tup rn R m V U st dr) Tr W) (l' := [(0, _), (1, _), (102, _), (116, _), (13, _), (14, _), (24, _), (25, _), (26, _), (27, _), (18, _), (19, _), (20, _), (21, _), (22, _), (23, _), (104, _), (107, _), (112, _), (113, _), (114, _), (108, _), (28, _), (29, _), (30, _), (31, _), (109, _), (2, _), (103, _), (99, _), (111, _), (110, _), (17, _), (100, _), (101, _), (3, _), (4, _), (5, _), (6, _), (7, _), (8, _), (9, _), (10, _), (11, _), (12, _), (105, _), (106, _), (115, _), (90, _), (91, _), (92, _), (93, _), (94, _), (95, _), (96, _), (97, _), (98, _), (15, _), (16, _)]) (h5) (And.intro rfl (And.intro rfl (And.intro rfl (And.intro rfl (And.intro rfl (And.intro rfl (And.intro rfl (And.intro rfl (And.intro rfl (And.intro rfl (And.intro rfl (trivial)))))))))))) rfl rfl (wd (LMm (c : Int) (nx : Int) M) h)
  refine ⟨wd (FR L xs tl T sv dn vn rn kd c (fu F 20 0) (xu (xu (xu X 19 (zfill (X 19) (yX V U (X 14) m) 4)) 20 (zfill (X 20) (eR R V U (X 14) m) rn)) 21 (zfill (X 21) (eS R V U (X 14) m rn) 4)) (tup rn R m V U st dr) Tr W) (wd (LMm (c : Int) (nx : Int) M) h), ⟨tl, T, sv, dn, vn, rn, kd, c, nx, (fu F 20 0), (xu (xu (xu X 19 (zfill (X 19) (yX V U (X 14) m) 4)) 20 (zfill (X 20) (eR R V U (X 14) m) rn)) 21 (zfill (X 21) (eS R V U (X 14) m rn) 4)), (tup rn R m V U st dr), Tr, M, W, h, rfl, ⟨ht, hT, b6, b105, b115, pl, ⟨R, V, U, st, dr, m, rfl, ok⟩, mk, s0, s1⟩, by omega, by omega⟩, fun r w5 w6 w7 hk => ?_⟩
  exact l21 hL hL2 hx (wd_at rfl) hcl (wd_at rfl) (wd_at rfl) (wd_at rfl) (Ca_fg (c163 hp pl.2.1) (And.intro rfl (And.intro rfl (And.intro rfl (trivial)))) rfl rfl _) (hk _ _ _)
theorem k22 {L i n : Nat} {xs : Int → Int} {H : pd_H} (hL : (i : Int) + 5 ≤ L) (hL2 : L ≤ 2560) (hx : ∀ q : Int, -2147483648 ≤ xs q ∧ xs q ≤ 2147483647) (I : Inv L xs n H) : ∃ H2, Inv L xs (n + 1) H2 ∧ ∀ (r : pd_Out × pd_H) (w5 w6 w7 : Value), (∀ w5 w6 w7 : Value, Rn 201 1951 [.ref 0, .ref 1, .ref 102, .ref 116, .int (ii (i : Int)), w5, w6, w7] [] H2 r) → Rn 201 1260 [.ref 0, .ref 1, .ref 102, .ref 116, .int (ii (i : Int)), w5, w6, w7] [] H r := by
  obtain ⟨tl, T, sv, dn, vn, rn, kd, c, nx, F, X, S, Tr, M, W, h, rfl, rel, hn1, hn2⟩ := I
  obtain ⟨ht, hT, b6, b105, b115, pl, ⟨R, V, U, st, dr, m, rfl, ok⟩, mk, s0, s1⟩ := rel
  have hv := plk_v pl
  have hm := okq_m ok hv.2.1.2
  have hs := okq_sok ok hv.2.1.2
  have hp := okq_pgk ok hv.2.1.2
  have hc := okq_cpl ok pl
  have h68 := ok.2.2.2.1
  have h5 := c85 (tl := tl) (k := kd) (pu := F 13) (be := F 14) (x := X 19) (rs := X 20) (sl := X 21) (st := st) (dr := dr) hs pl.1
  have hb0 := zBest_in (r := X 107) (m := m) pl.2.1
  rw [fcs_congr (g := zSv (X 107) (X 104) m dn rn) (c := zSv (X 107) (X 104) m dn rn (zBest (X 107) (X 104) m dn rn vn)) (by rw [cpl_Best hc hs pl.1, cpl_V hc hs pl.1 hb0]) (fun v hv2 => cpl_V hc hs pl.1 (by omega))] at h5
  have hcl := Ca_fg (l := FR L xs tl T sv dn vn rn kd c F X (tup rn R m V U st dr) Tr W) (l' := [(0, _), (1, _), (102, _), (116, _), (13, _), (14, _), (24, _), (25, _), (26, _), (27, _), (18, _), (19, _), (20, _), (21, _), (22, _), (23, _), (104, _), (107, _), (112, _), (113, _), (114, _), (108, _), (28, _), (29, _), (30, _), (31, _), (109, _), (2, _), (103, _), (99, _), (111, _), (110, _), (17, _), (100, _), (101, _), (3, _), (4, _), (5, _), (6, _), (7, _), (8, _), (9, _), (10, _), (11, _), (12, _), (105, _), (106, _), (115, _), (90, _), (91, _), (92, _), (93, _), (94, _), (95, _), (96, _), (97, _), (98, _), (15, _), (16, _)]) (h5) (And.intro rfl (And.intro rfl (And.intro rfl (And.intro rfl (And.intro rfl (And.intro rfl (And.intro rfl (And.intro rfl (And.intro rfl (And.intro rfl (And.intro rfl (trivial)))))))))))) rfl rfl (wd (LMm (c : Int) (nx : Int) M) h)
  refine ⟨wd (FR L xs tl T sv dn vn rn kd c (fu F 20 0) (xu (xu (xu X 19 (zfill (X 19) (yX V U (X 14) m) 4)) 20 (zfill (X 20) (eR R V U (X 14) m) rn)) 21 (zfill (X 21) (eS R V U (X 14) m rn) 4)) (tup rn R m V U st dr) Tr W) (wd (LMm (c : Int) (nx : Int) M) h), ⟨tl, T, sv, dn, vn, rn, kd, c, nx, (fu F 20 0), (xu (xu (xu X 19 (zfill (X 19) (yX V U (X 14) m) 4)) 20 (zfill (X 20) (eR R V U (X 14) m) rn)) 21 (zfill (X 21) (eS R V U (X 14) m rn) 4)), (tup rn R m V U st dr), Tr, M, W, h, rfl, ⟨ht, hT, b6, b105, b115, pl, ⟨R, V, U, st, dr, m, rfl, ok⟩, mk, s0, s1⟩, by omega, by omega⟩, fun r w5 w6 w7 hk => ?_⟩
  exact l22 hL hL2 hx (wd_at rfl) hcl (wd_at rfl) (wd_at rfl) (wd_at rfl) (Ca_fg (c164 hp pl.2.1) (And.intro rfl (And.intro rfl (And.intro rfl (trivial)))) rfl rfl _) (hk _ _ _)
theorem k23 {L i n : Nat} {xs : Int → Int} {H : pd_H} (hL : (i : Int) + 5 ≤ L) (hL2 : L ≤ 2560) (hx : ∀ q : Int, -2147483648 ≤ xs q ∧ xs q ≤ 2147483647) (I : Inv L xs n H) : ∃ H2, Inv L xs (n + 1) H2 ∧ ∀ (r : pd_Out × pd_H) (w5 w6 w7 : Value), (∀ w5 w6 w7 : Value, Rn 201 1951 [.ref 0, .ref 1, .ref 102, .ref 116, .int (ii (i : Int)), w5, w6, w7] [] H2 r) → Rn 201 1273 [.ref 0, .ref 1, .ref 102, .ref 116, .int (ii (i : Int)), w5, w6, w7] [] H r := by
  obtain ⟨tl, T, sv, dn, vn, rn, kd, c, nx, F, X, S, Tr, M, W, h, rfl, rel, hn1, hn2⟩ := I
  obtain ⟨ht, hT, b6, b105, b115, pl, ⟨R, V, U, st, dr, m, rfl, ok⟩, mk, s0, s1⟩ := rel
  have hv := plk_v pl
  have hm := okq_m ok hv.2.1.2
  have hs := okq_sok ok hv.2.1.2
  have hp := okq_pgk ok hv.2.1.2
  have hc := okq_cpl ok pl
  have h68 := ok.2.2.2.1
  by_cases q1 : ((-999 ≤ (xs ((i : Int) + 1)) ∧ (xs ((i : Int) + 1)) ≤ 999) ∧ (-999 ≤ (xs ((i : Int) + 2)) ∧ (xs ((i : Int) + 2)) ≤ 999) ∧ (-999 ≤ (xs ((i : Int) + 3)) ∧ (xs ((i : Int) + 3)) ≤ 999) ∧ (-999 ≤ (xs ((i : Int) + 4)) ∧ (xs ((i : Int) + 4)) ≤ 999))
  · have h5 := c86 (tl := tl) (k := kd) (dn := dn) (fa := X 100) q1.1 q1.2.1 q1.2.2.1 q1.2.2.2 pl.1.2.2.2 hv.2.1
    rw [og_eq hc pl.1] at h5
    have h9 := zam_in (og (X 104) (xs ((i : Int) + 1)) (xs ((i : Int) + 2)) (xs ((i : Int) + 3)) (xs ((i : Int) + 4)) dn) (vn - 1)
    have hcl := Ca_fg (l := FR L xs tl T sv dn vn rn kd c F X (tup rn R m V U st dr) Tr W) (l' := [(0, _), (1, _), (102, _), (116, _), (13, _), (14, _), (24, _), (25, _), (26, _), (27, _), (18, _), (19, _), (20, _), (21, _), (22, _), (23, _), (104, _), (107, _), (112, _), (113, _), (114, _), (108, _), (28, _), (29, _), (30, _), (31, _), (109, _), (2, _), (103, _), (99, _), (111, _), (110, _), (17, _), (100, _), (101, _), (3, _), (4, _), (5, _), (6, _), (7, _), (8, _), (9, _), (10, _), (11, _), (12, _), (105, _), (106, _), (115, _), (90, _), (91, _), (92, _), (93, _), (94, _), (95, _), (96, _), (97, _), (98, _), (15, _), (16, _)]) (h5) (And.intro rfl (And.intro rfl (And.intro rfl (And.intro rfl (trivial))))) rfl rfl (wd (LMm (c : Int) (nx : Int) M) h)
    have hA := put_wd (w193 (o := X 116) hcl (wd_at rfl) (by omega) (wd_at rfl)) rfl
    refine ⟨wd (FR L xs tl T sv dn vn rn kd c (fu F 20 0) (xu (xu X 100 (zu (zu (zu (zu (X 100) 0 (xs ((i : Int) + 1))) 1 (xs ((i : Int) + 2))) 2 (xs ((i : Int) + 3))) 3 (xs ((i : Int) + 4)))) 116 (zu (X 116) 0 (zam (og (X 104) (xs ((i : Int) + 1)) (xs ((i : Int) + 2)) (xs ((i : Int) + 3)) (xs ((i : Int) + 4)) dn) (vn - 1)))) (tup rn R m V U st dr) Tr W) (wd (LMm (c : Int) (nx : Int) M) h), ⟨tl, T, sv, dn, vn, rn, kd, c, nx, (fu F 20 0), (xu (xu X 100 (zu (zu (zu (zu (X 100) 0 (xs ((i : Int) + 1))) 1 (xs ((i : Int) + 2))) 2 (xs ((i : Int) + 3))) 3 (xs ((i : Int) + 4)))) 116 (zu (X 116) 0 (zam (og (X 104) (xs ((i : Int) + 1)) (xs ((i : Int) + 2)) (xs ((i : Int) + 3)) (xs ((i : Int) + 4)) dn) (vn - 1)))), (tup rn R m V U st dr), Tr, M, W, h, rfl, ⟨ht, hT, b6, b105, b115, pl, ⟨R, V, U, st, dr, m, rfl, ok⟩, mk, s0, s1⟩, by omega, by omega⟩, fun r w5 w6 w7 hk => ?_⟩
    exact l23 hL hL2 hx (wd_at rfl) hA (wd_at rfl) (wd_at rfl) (Ca_fg (c165 q1.1 q1.2.1 q1.2.2.1 q1.2.2.2 pl.2.1) (And.intro rfl (And.intro rfl (trivial))) rfl rfl _) (wd_at rfl) (Ca_fg c107 (And.intro rfl trivial) rfl rfl _) (wd_at rfl) rfl (by omega) rfl hk
  ·
    have hcl := Ca_fgx (l := FR L xs tl T sv dn vn rn kd c F X (tup rn R m V U st dr) Tr W) (l' := [(0, _), (1, _), (102, _), (116, _), (13, _), (14, _), (24, _), (25, _), (26, _), (27, _), (18, _), (19, _), (20, _), (21, _), (22, _), (23, _), (104, _), (107, _), (112, _), (113, _), (114, _), (108, _), (28, _), (29, _), (30, _), (31, _), (109, _), (2, _), (103, _), (99, _), (111, _), (110, _), (17, _), (100, _), (101, _), (3, _), (4, _), (5, _), (6, _), (7, _), (8, _), (9, _), (10, _), (11, _), (12, _), (105, _), (106, _), (115, _), (90, _), (91, _), (92, _), (93, _), (94, _), (95, _), (96, _), (97, _), (98, _), (15, _), (16, _)]) (c86x (tl := tl) (hx _) (hx _) (hx _) (hx _) q1) (And.intro rfl (trivial)) rfl rfl (wd (LMm (c : Int) (nx : Int) M) h)
    have hA := thr_c (w193x0 hcl (wd_at rfl))
    refine ⟨wd (FR L xs tl T sv dn vn rn kd c (fu F 20 1) X (tup rn R m V U st dr) Tr W) (wd (LMm (c : Int) (nx : Int) M) (pd_thr h)), ⟨tl, T, sv, dn, vn, rn, kd, c, nx, (fu F 20 1), X, (tup rn R m V U st dr), Tr, M, W, (pd_thr h), rfl, ⟨ht, hT, b6, b105, b115, pl, ⟨R, V, U, st, dr, m, rfl, ok⟩, mk, s0, s1⟩, by show h.1.1 + 1 ≤ _; omega, by show h.1.2.1 + 6 ≤ _; omega⟩, fun r w5 w6 w7 hk => ?_⟩
    exact l23x hL hL2 hx (wd_at rfl) hA (wd_at rfl) (wd_at rfl) (Ca_fg (c165x (hx _) (hx _) (hx _) (hx _) q1) (And.intro rfl (trivial)) rfl rfl _) (wd_at rfl) (Ca_fg c107 (And.intro rfl trivial) rfl rfl _) (by omega) hk
theorem k24 {L i n : Nat} {xs : Int → Int} {H : pd_H} (hL : (i : Int) + 5 ≤ L) (hL2 : L ≤ 2560) (hx : ∀ q : Int, -2147483648 ≤ xs q ∧ xs q ≤ 2147483647) (I : Inv L xs n H) : ∃ H2, Inv L xs (n + 1) H2 ∧ ∀ (r : pd_Out × pd_H) (w5 w6 w7 : Value), (∀ w5 w6 w7 : Value, Rn 201 1951 [.ref 0, .ref 1, .ref 102, .ref 116, .int (ii (i : Int)), w5, w6, w7] [] H2 r) → Rn 201 1365 [.ref 0, .ref 1, .ref 102, .ref 116, .int (ii (i : Int)), w5, w6, w7] [] H r := by
  obtain ⟨tl, T, sv, dn, vn, rn, kd, c, nx, F, X, S, Tr, M, W, h, rfl, rel, hn1, hn2⟩ := I
  obtain ⟨ht, hT, b6, b105, b115, pl, ⟨R, V, U, st, dr, m, rfl, ok⟩, mk, s0, s1⟩ := rel
  have hv := plk_v pl
  have hm := okq_m ok hv.2.1.2
  have hs := okq_sok ok hv.2.1.2
  have hp := okq_pgk ok hv.2.1.2
  have hc := okq_cpl ok pl
  have h68 := ok.2.2.2.1
  obtain ⟨x1, rs1, h5⟩ := c87 (tl := tl) (k := kd) (pu := F 13) (be := F 14) (x := X 19) (rs := X 20) (st := st) (dr := dr) hs pl.1
  rw [al_best hc pl.1] at h5
  have hcl := Ca_fg (l := FR L xs tl T sv dn vn rn kd c F X (tup rn R m V U st dr) Tr W) (l' := [(0, _), (1, _), (102, _), (116, _), (13, _), (14, _), (24, _), (25, _), (26, _), (27, _), (18, _), (19, _), (20, _), (21, _), (22, _), (23, _), (104, _), (107, _), (112, _), (113, _), (114, _), (108, _), (28, _), (29, _), (30, _), (31, _), (109, _), (2, _), (103, _), (99, _), (111, _), (110, _), (17, _), (100, _), (101, _), (3, _), (4, _), (5, _), (6, _), (7, _), (8, _), (9, _), (10, _), (11, _), (12, _), (105, _), (106, _), (115, _), (90, _), (91, _), (92, _), (93, _), (94, _), (95, _), (96, _), (97, _), (98, _), (15, _), (16, _)]) (h5) (And.intro rfl (And.intro rfl (And.intro rfl (And.intro rfl (And.intro rfl (And.intro rfl (And.intro rfl (And.intro rfl (trivial))))))))) rfl rfl (wd (LMm (c : Int) (nx : Int) M) h)
  refine ⟨wd (FR L xs tl T sv dn vn rn kd c (fu F 20 0) (xu (xu X 19 x1) 20 rs1) (tup rn R m V U st dr) Tr W) (wd (LMm (c : Int) (nx : Int) M) h), ⟨tl, T, sv, dn, vn, rn, kd, c, nx, (fu F 20 0), (xu (xu X 19 x1) 20 rs1), (tup rn R m V U st dr), Tr, M, W, h, rfl, ⟨ht, hT, b6, b105, b115, pl, ⟨R, V, U, st, dr, m, rfl, ok⟩, mk, s0, s1⟩, by omega, by omega⟩, fun r w5 w6 w7 hk => ?_⟩
  exact l24 hL hL2 hx (wd_at rfl) hcl (wd_at rfl) (wd_at rfl) (wd_at rfl) (Ca_fg (c166 hp pl.2.1) (And.intro rfl (And.intro rfl (And.intro rfl (trivial)))) rfl rfl _) (hk _ _ _)
theorem k25t {L i n : Nat} {xs : Int → Int} {H : pd_H} (hL : (i : Int) + 5 ≤ L) (hL2 : L ≤ 2560) (hx : ∀ q : Int, -2147483648 ≤ xs q ∧ xs q ≤ 2147483647) (hq : (xs ((i : Int) + 3)) = 0) (I : Inv L xs n H) : ∃ H2, Inv L xs (n + 1) H2 ∧ ∀ (r : pd_Out × pd_H) (w5 w6 w7 : Value), (∀ w5 w6 w7 : Value, Rn 201 1951 [.ref 0, .ref 1, .ref 102, .ref 116, .int (ii (i : Int)), w5, w6, w7] [] H2 r) → Rn 201 1378 [.ref 0, .ref 1, .ref 102, .ref 116, .int (ii (i : Int)), w5, w6, w7] [] H r := by
  obtain ⟨tl, T, sv, dn, vn, rn, kd, c, nx, F, X, S, Tr, M, W, h, rfl, rel, hn1, hn2⟩ := I
  obtain ⟨ht, hT, b6, b105, b115, pl, ⟨R, V, U, st, dr, m, rfl, ok⟩, mk, s0, s1⟩ := rel
  have hv := plk_v pl
  have hm := okq_m ok hv.2.1.2
  have hs := okq_sok ok hv.2.1.2
  have hp := okq_pgk ok hv.2.1.2
  have hc := okq_cpl ok pl
  have h68 := ok.2.2.2.1
  by_cases q1 : (0 ≤ (xs ((i : Int) + 1)) ∧ (xs ((i : Int) + 1)) < vn) ∧ (0 ≤ (xs ((i : Int) + 2)) ∧ (xs ((i : Int) + 2)) < vn)
  · have h5 := c88l (tl := tl) (k := kd) (pu := F 13) (be := F 14) (x := X 19) (rs := X 20) (mv := X 22) (st := st) (dr := dr) hs pl.1 q1.1 q1.2
    have eP := se_P hc pl.1 q1.1 q1.2
    have eB := se_B hc pl.1 q1.1 q1.2
    have hin := sHB_in hp pl.2.1 (xs ((i : Int) + 1)) (xs ((i : Int) + 2)) rn (Nat.le_refl _)
    change (-4000000 ≤ sH (X 107) (X 104) dn rn (xs ((i : Int) + 1)) (xs ((i : Int) + 2)) ∧ sH (X 107) (X 104) dn rn (xs ((i : Int) + 1)) (xs ((i : Int) + 2)) ≤ 4000000) ∧ (-4000000 ≤ sB (X 107) (X 104) dn rn (xs ((i : Int) + 1)) (xs ((i : Int) + 2)) ∧ sB (X 107) (X 104) dn rn (xs ((i : Int) + 1)) (xs ((i : Int) + 2)) ≤ 4000000) at hin
    have hma := (sea_math (t := - sH (X 107) (X 104) dn rn (xs ((i : Int) + 1)) (xs ((i : Int) + 2))) (b := sB (X 107) (X 104) dn rn (xs ((i : Int) + 1)) (xs ((i : Int) + 2))) (sB_nn _ _ _ _ _ _) (fun e => by rw [sB_0 e]; rfl)).2
    rw [show -(10000 * - sH (X 107) (X 104) dn rn (xs ((i : Int) + 1)) (xs ((i : Int) + 2))) = 10000 * sH (X 107) (X 104) dn rn (xs ((i : Int) + 1)) (xs ((i : Int) + 2)) by omega, ← eP, ← eB] at hma
    rw [hma] at h5
    have h9 := (sea_in (t := - sH (X 107) (X 104) dn rn (xs ((i : Int) + 1)) (xs ((i : Int) + 2))) (b := sB (X 107) (X 104) dn rn (xs ((i : Int) + 1)) (xs ((i : Int) + 2))) (by omega) (by omega)).2
    have hcl := Ca_fg (l := FR L xs tl T sv dn vn rn kd c F X (tup rn R m V U st dr) Tr W) (l' := [(0, _), (1, _), (102, _), (116, _), (13, _), (14, _), (24, _), (25, _), (26, _), (27, _), (18, _), (19, _), (20, _), (21, _), (22, _), (23, _), (104, _), (107, _), (112, _), (113, _), (114, _), (108, _), (28, _), (29, _), (30, _), (31, _), (109, _), (2, _), (103, _), (99, _), (111, _), (110, _), (17, _), (100, _), (101, _), (3, _), (4, _), (5, _), (6, _), (7, _), (8, _), (9, _), (10, _), (11, _), (12, _), (105, _), (106, _), (115, _), (90, _), (91, _), (92, _), (93, _), (94, _), (95, _), (96, _), (97, _), (98, _), (15, _), (16, _)]) (h5) (And.intro rfl (And.intro rfl (And.intro rfl (And.intro rfl (And.intro rfl (And.intro rfl (And.intro rfl (And.intro rfl (And.intro rfl (trivial)))))))))) rfl rfl (wd (LMm (c : Int) (nx : Int) M) h)
    have hA := put_wd (w194 (o := X 116) hcl (wd_at rfl) (wd_at rfl)) rfl
    refine ⟨wd (FR L xs tl T sv dn vn rn kd c (fu (fu (fu F 13 (yP R (mvP (X 14) 100 (xs ((i : Int) + 1)) (xs ((i : Int) + 2))) (yRs R (fun j => 100 * X 14 ((xs ((i : Int) + 1)) * 4 + j))) rn)) 14 (yB R (mvP (X 14) 100 (xs ((i : Int) + 1)) (xs ((i : Int) + 2))) rn)) 20 0) (xu (xu (xu (xu X 19 (zfill (X 19) (fun j => 100 * X 14 ((xs ((i : Int) + 1)) * 4 + j)) 4)) 20 (zfill (X 20) (yRs R (zfill (X 19) (fun j => 100 * X 14 ((xs ((i : Int) + 1)) * 4 + j)) 4)) rn)) 22 (zfill (X 22) (mvP (X 14) 100 (xs ((i : Int) + 1)) (xs ((i : Int) + 2))) 4)) 116 (zu (X 116) 0 (seaL (- sH (X 107) (X 104) dn rn (xs ((i : Int) + 1)) (xs ((i : Int) + 2))) (sB (X 107) (X 104) dn rn (xs ((i : Int) + 1)) (xs ((i : Int) + 2)))))) (tup rn R m V U st dr) Tr W) (wd (LMm (c : Int) (nx : Int) M) h), ⟨tl, T, sv, dn, vn, rn, kd, c, nx, (fu (fu (fu F 13 (yP R (mvP (X 14) 100 (xs ((i : Int) + 1)) (xs ((i : Int) + 2))) (yRs R (fun j => 100 * X 14 ((xs ((i : Int) + 1)) * 4 + j))) rn)) 14 (yB R (mvP (X 14) 100 (xs ((i : Int) + 1)) (xs ((i : Int) + 2))) rn)) 20 0), (xu (xu (xu (xu X 19 (zfill (X 19) (fun j => 100 * X 14 ((xs ((i : Int) + 1)) * 4 + j)) 4)) 20 (zfill (X 20) (yRs R (zfill (X 19) (fun j => 100 * X 14 ((xs ((i : Int) + 1)) * 4 + j)) 4)) rn)) 22 (zfill (X 22) (mvP (X 14) 100 (xs ((i : Int) + 1)) (xs ((i : Int) + 2))) 4)) 116 (zu (X 116) 0 (seaL (- sH (X 107) (X 104) dn rn (xs ((i : Int) + 1)) (xs ((i : Int) + 2))) (sB (X 107) (X 104) dn rn (xs ((i : Int) + 1)) (xs ((i : Int) + 2)))))), (tup rn R m V U st dr), Tr, M, W, h, rfl, ⟨ht, hT, b6, b105, b115, pl, ⟨R, V, U, st, dr, m, rfl, ok⟩, mk, s0, s1⟩, by omega, by omega⟩, fun r w5 w6 w7 hk => ?_⟩
    exact l25t hL hL2 hx hq (wd_at rfl) hA (wd_at rfl) (wd_at rfl) (Ca_fg (c168l hp pl.2.1 q1.1 q1.2) (And.intro rfl (And.intro rfl (And.intro rfl (trivial)))) rfl rfl _) (wd_at rfl) (Ca_fg c107 (And.intro rfl trivial) rfl rfl _) (wd_at rfl) rfl (by omega) rfl hk
  ·
    have hcl := Ca_fgx (l := FR L xs tl T sv dn vn rn kd c F X (tup rn R m V U st dr) Tr W) (l' := [(0, _), (1, _), (102, _), (116, _), (13, _), (14, _), (24, _), (25, _), (26, _), (27, _), (18, _), (19, _), (20, _), (21, _), (22, _), (23, _), (104, _), (107, _), (112, _), (113, _), (114, _), (108, _), (28, _), (29, _), (30, _), (31, _), (109, _), (2, _), (103, _), (99, _), (111, _), (110, _), (17, _), (100, _), (101, _), (3, _), (4, _), (5, _), (6, _), (7, _), (8, _), (9, _), (10, _), (11, _), (12, _), (105, _), (106, _), (115, _), (90, _), (91, _), (92, _), (93, _), (94, _), (95, _), (96, _), (97, _), (98, _), (15, _), (16, _)]) (c88x (tl := tl) (u := 0) (hx _) (hx _) hv.2.1.2 q1) (And.intro rfl (And.intro rfl (trivial))) rfl rfl (wd (LMm (c : Int) (nx : Int) M) h)
    have hA := thr_c (w194x2 hcl (wd_at rfl))
    refine ⟨wd (FR L xs tl T sv dn vn rn kd c (fu F 20 1) X (tup rn R m V U st dr) Tr W) (wd (LMm (c : Int) (nx : Int) M) (pd_thr h)), ⟨tl, T, sv, dn, vn, rn, kd, c, nx, (fu F 20 1), X, (tup rn R m V U st dr), Tr, M, W, (pd_thr h), rfl, ⟨ht, hT, b6, b105, b115, pl, ⟨R, V, U, st, dr, m, rfl, ok⟩, mk, s0, s1⟩, by show h.1.1 + 1 ≤ _; omega, by show h.1.2.1 + 6 ≤ _; omega⟩, fun r w5 w6 w7 hk => ?_⟩
    exact l25tx hL hL2 hx hq (wd_at rfl) hA (wd_at rfl) (wd_at rfl) (Ca_fg (c168x (u := 0) (hx _) (hx _) hv.2.1.2 q1) (And.intro rfl (trivial)) rfl rfl _) (wd_at rfl) (Ca_fg c107 (And.intro rfl trivial) rfl rfl _) (by omega) hk
theorem k25f {L i n : Nat} {xs : Int → Int} {H : pd_H} (hL : (i : Int) + 5 ≤ L) (hL2 : L ≤ 2560) (hx : ∀ q : Int, -2147483648 ≤ xs q ∧ xs q ≤ 2147483647) (hq : ¬ (xs ((i : Int) + 3)) = 0) (I : Inv L xs n H) : ∃ H2, Inv L xs (n + 1) H2 ∧ ∀ (r : pd_Out × pd_H) (w5 w6 w7 : Value), (∀ w5 w6 w7 : Value, Rn 201 1951 [.ref 0, .ref 1, .ref 102, .ref 116, .int (ii (i : Int)), w5, w6, w7] [] H2 r) → Rn 201 1378 [.ref 0, .ref 1, .ref 102, .ref 116, .int (ii (i : Int)), w5, w6, w7] [] H r := by
  obtain ⟨tl, T, sv, dn, vn, rn, kd, c, nx, F, X, S, Tr, M, W, h, rfl, rel, hn1, hn2⟩ := I
  obtain ⟨ht, hT, b6, b105, b115, pl, ⟨R, V, U, st, dr, m, rfl, ok⟩, mk, s0, s1⟩ := rel
  have hv := plk_v pl
  have hm := okq_m ok hv.2.1.2
  have hs := okq_sok ok hv.2.1.2
  have hp := okq_pgk ok hv.2.1.2
  have hc := okq_cpl ok pl
  have h68 := ok.2.2.2.1
  by_cases q1 : (0 ≤ (xs ((i : Int) + 1)) ∧ (xs ((i : Int) + 1)) < vn) ∧ (0 ≤ (xs ((i : Int) + 2)) ∧ (xs ((i : Int) + 2)) < vn)
  · have h5 := c88u (tl := tl) (k := kd) (pu := F 13) (be := F 14) (x := X 19) (rs := X 20) (mv := X 22) (st := st) (dr := dr) hs pl.1 q1.1 q1.2
    have eP := se_P hc pl.1 q1.1 q1.2
    have eB := se_B hc pl.1 q1.1 q1.2
    have hin := sHB_in hp pl.2.1 (xs ((i : Int) + 1)) (xs ((i : Int) + 2)) rn (Nat.le_refl _)
    change (-4000000 ≤ sH (X 107) (X 104) dn rn (xs ((i : Int) + 1)) (xs ((i : Int) + 2)) ∧ sH (X 107) (X 104) dn rn (xs ((i : Int) + 1)) (xs ((i : Int) + 2)) ≤ 4000000) ∧ (-4000000 ≤ sB (X 107) (X 104) dn rn (xs ((i : Int) + 1)) (xs ((i : Int) + 2)) ∧ sB (X 107) (X 104) dn rn (xs ((i : Int) + 1)) (xs ((i : Int) + 2)) ≤ 4000000) at hin
    have hma := (sea_math (t := - sH (X 107) (X 104) dn rn (xs ((i : Int) + 1)) (xs ((i : Int) + 2))) (b := sB (X 107) (X 104) dn rn (xs ((i : Int) + 1)) (xs ((i : Int) + 2))) (sB_nn _ _ _ _ _ _) (fun e => by rw [sB_0 e]; rfl)).1
    rw [show -(10000 * - sH (X 107) (X 104) dn rn (xs ((i : Int) + 1)) (xs ((i : Int) + 2))) = 10000 * sH (X 107) (X 104) dn rn (xs ((i : Int) + 1)) (xs ((i : Int) + 2)) by omega, ← eP, ← eB] at hma
    rw [hma] at h5
    have h9 := (sea_in (t := - sH (X 107) (X 104) dn rn (xs ((i : Int) + 1)) (xs ((i : Int) + 2))) (b := sB (X 107) (X 104) dn rn (xs ((i : Int) + 1)) (xs ((i : Int) + 2))) (by omega) (by omega)).1
    have hcl := Ca_fg (l := FR L xs tl T sv dn vn rn kd c F X (tup rn R m V U st dr) Tr W) (l' := [(0, _), (1, _), (102, _), (116, _), (13, _), (14, _), (24, _), (25, _), (26, _), (27, _), (18, _), (19, _), (20, _), (21, _), (22, _), (23, _), (104, _), (107, _), (112, _), (113, _), (114, _), (108, _), (28, _), (29, _), (30, _), (31, _), (109, _), (2, _), (103, _), (99, _), (111, _), (110, _), (17, _), (100, _), (101, _), (3, _), (4, _), (5, _), (6, _), (7, _), (8, _), (9, _), (10, _), (11, _), (12, _), (105, _), (106, _), (115, _), (90, _), (91, _), (92, _), (93, _), (94, _), (95, _), (96, _), (97, _), (98, _), (15, _), (16, _)]) (h5) (And.intro rfl (And.intro rfl (And.intro rfl (And.intro rfl (And.intro rfl (And.intro rfl (And.intro rfl (And.intro rfl (And.intro rfl (trivial)))))))))) rfl rfl (wd (LMm (c : Int) (nx : Int) M) h)
    have hA := put_wd (w194 (o := X 116) hcl (wd_at rfl) (wd_at rfl)) rfl
    refine ⟨wd (FR L xs tl T sv dn vn rn kd c (fu (fu (fu F 13 (yP R (mvP (X 14) 100 (xs ((i : Int) + 1)) (xs ((i : Int) + 2))) (yRs R (fun j => 100 * X 14 ((xs ((i : Int) + 1)) * 4 + j))) rn)) 14 (yB R (mvP (X 14) 100 (xs ((i : Int) + 1)) (xs ((i : Int) + 2))) rn)) 20 0) (xu (xu (xu (xu X 19 (zfill (X 19) (fun j => 100 * X 14 ((xs ((i : Int) + 1)) * 4 + j)) 4)) 20 (zfill (X 20) (yRs R (zfill (X 19) (fun j => 100 * X 14 ((xs ((i : Int) + 1)) * 4 + j)) 4)) rn)) 22 (zfill (X 22) (mvP (X 14) 100 (xs ((i : Int) + 1)) (xs ((i : Int) + 2))) 4)) 116 (zu (X 116) 0 (seaU (- sH (X 107) (X 104) dn rn (xs ((i : Int) + 1)) (xs ((i : Int) + 2))) (sB (X 107) (X 104) dn rn (xs ((i : Int) + 1)) (xs ((i : Int) + 2)))))) (tup rn R m V U st dr) Tr W) (wd (LMm (c : Int) (nx : Int) M) h), ⟨tl, T, sv, dn, vn, rn, kd, c, nx, (fu (fu (fu F 13 (yP R (mvP (X 14) 100 (xs ((i : Int) + 1)) (xs ((i : Int) + 2))) (yRs R (fun j => 100 * X 14 ((xs ((i : Int) + 1)) * 4 + j))) rn)) 14 (yB R (mvP (X 14) 100 (xs ((i : Int) + 1)) (xs ((i : Int) + 2))) rn)) 20 0), (xu (xu (xu (xu X 19 (zfill (X 19) (fun j => 100 * X 14 ((xs ((i : Int) + 1)) * 4 + j)) 4)) 20 (zfill (X 20) (yRs R (zfill (X 19) (fun j => 100 * X 14 ((xs ((i : Int) + 1)) * 4 + j)) 4)) rn)) 22 (zfill (X 22) (mvP (X 14) 100 (xs ((i : Int) + 1)) (xs ((i : Int) + 2))) 4)) 116 (zu (X 116) 0 (seaU (- sH (X 107) (X 104) dn rn (xs ((i : Int) + 1)) (xs ((i : Int) + 2))) (sB (X 107) (X 104) dn rn (xs ((i : Int) + 1)) (xs ((i : Int) + 2)))))), (tup rn R m V U st dr), Tr, M, W, h, rfl, ⟨ht, hT, b6, b105, b115, pl, ⟨R, V, U, st, dr, m, rfl, ok⟩, mk, s0, s1⟩, by omega, by omega⟩, fun r w5 w6 w7 hk => ?_⟩
    exact l25f hL hL2 hx hq (wd_at rfl) hA (wd_at rfl) (wd_at rfl) (Ca_fg (c168u hp pl.2.1 q1.1 q1.2) (And.intro rfl (And.intro rfl (And.intro rfl (trivial)))) rfl rfl _) (wd_at rfl) (Ca_fg c107 (And.intro rfl trivial) rfl rfl _) (wd_at rfl) rfl (by omega) rfl hk
  ·
    have hcl := Ca_fgx (l := FR L xs tl T sv dn vn rn kd c F X (tup rn R m V U st dr) Tr W) (l' := [(0, _), (1, _), (102, _), (116, _), (13, _), (14, _), (24, _), (25, _), (26, _), (27, _), (18, _), (19, _), (20, _), (21, _), (22, _), (23, _), (104, _), (107, _), (112, _), (113, _), (114, _), (108, _), (28, _), (29, _), (30, _), (31, _), (109, _), (2, _), (103, _), (99, _), (111, _), (110, _), (17, _), (100, _), (101, _), (3, _), (4, _), (5, _), (6, _), (7, _), (8, _), (9, _), (10, _), (11, _), (12, _), (105, _), (106, _), (115, _), (90, _), (91, _), (92, _), (93, _), (94, _), (95, _), (96, _), (97, _), (98, _), (15, _), (16, _)]) (c88x (tl := tl) (u := 1) (hx _) (hx _) hv.2.1.2 q1) (And.intro rfl (And.intro rfl (trivial))) rfl rfl (wd (LMm (c : Int) (nx : Int) M) h)
    have hA := thr_c (w194x2 hcl (wd_at rfl))
    refine ⟨wd (FR L xs tl T sv dn vn rn kd c (fu F 20 1) X (tup rn R m V U st dr) Tr W) (wd (LMm (c : Int) (nx : Int) M) (pd_thr h)), ⟨tl, T, sv, dn, vn, rn, kd, c, nx, (fu F 20 1), X, (tup rn R m V U st dr), Tr, M, W, (pd_thr h), rfl, ⟨ht, hT, b6, b105, b115, pl, ⟨R, V, U, st, dr, m, rfl, ok⟩, mk, s0, s1⟩, by show h.1.1 + 1 ≤ _; omega, by show h.1.2.1 + 6 ≤ _; omega⟩, fun r w5 w6 w7 hk => ?_⟩
    exact l25fx hL hL2 hx hq (wd_at rfl) hA (wd_at rfl) (wd_at rfl) (Ca_fg (c168x (u := 1) (hx _) (hx _) hv.2.1.2 q1) (And.intro rfl (trivial)) rfl rfl _) (wd_at rfl) (Ca_fg c107 (And.intro rfl trivial) rfl rfl _) (by omega) hk
