/-! The law's cases one by one. -/
theorem t70 {V U : Int → Int} {tl rv st dr i j : Int} {m : Nat} (hm : m ≤ 24) (h1 : 0 ≤ i ∧ i < m) (hj : j = 0) : ∀ h, Ca 70 [.ref 1, .int (ii i), .int (ii j)] (wd [(1, oPD tl), (24, oS24 rv (m : Int) st dr), (26, ar 24 V), (27, ar 24 U)] h) (.inl (some (.int (ii (V i)))), wd [(1, oPD tl), (24, oS24 rv (m : Int) st dr), (26, ar 24 V), (27, ar 24 U)] h) := by subst hj; exact c70a hm h1
theorem u70 {V U : Int → Int} {tl rv st dr i j : Int} {m : Nat} (hm : m ≤ 24) (h1 : 0 ≤ i ∧ i < m) (hj : j = 1) : ∀ h, Ca 70 [.ref 1, .int (ii i), .int (ii j)] (wd [(1, oPD tl), (24, oS24 rv (m : Int) st dr), (26, ar 24 V), (27, ar 24 U)] h) (.inl (some (.int (ii (U i)))), wd [(1, oPD tl), (24, oS24 rv (m : Int) st dr), (26, ar 24 V), (27, ar 24 U)] h) := by subst hj; exact c70b hm h1
theorem t148 {r : Int → Int} {rf ts sp d kd vs rw rd rk rv rr ac i j : Int} {m : Nat} (h68 : r 68 = m) (hm : m ≤ 24) (h1 : 0 ≤ i ∧ i < m) (hj : j = 0) : ∀ h, Ca 148 [.ref 102, .int (ii i), .int (ii j)] (wd [(102, oX6 rf ts sp d kd vs rw rd rk rv rr ac), (107, ar 72 r)] h) (.inl (some (.int (ii (r (20 + i))))), wd [(102, oX6 0 ts sp d kd vs rw rd rk rv rr ac), (107, ar 72 r)] h) := by subst hj; exact c148a h68 hm h1
theorem u148 {r : Int → Int} {rf ts sp d kd vs rw rd rk rv rr ac i j : Int} {m : Nat} (h68 : r 68 = m) (hm : m ≤ 24) (h1 : 0 ≤ i ∧ i < m) (hj : j = 1) : ∀ h, Ca 148 [.ref 102, .int (ii i), .int (ii j)] (wd [(102, oX6 rf ts sp d kd vs rw rd rk rv rr ac), (107, ar 72 r)] h) (.inl (some (.int (ii (r (44 + i))))), wd [(102, oX6 0 ts sp d kd vs rw rd rk rv rr ac), (107, ar 72 r)] h) := by subst hj; exact c148b h68 hm h1
theorem k0 {L i n : Nat} {xs : Int → Int} {H : pd_H} (hL : (i : Int) + 5 ≤ L) (hL2 : L ≤ 2560) (hx : ∀ q : Int, -2147483648 ≤ xs q ∧ xs q ≤ 2147483647) (I : Inv L xs n H) : ∃ H2, Inv L xs (n + 1) H2 ∧ ∀ (r : pd_Out × pd_H) (w5 w6 w7 : Value), (∀ w5 w6 w7 : Value, Rn 201 1951 [.ref 0, .ref 1, .ref 102, .ref 116, .int (ii (i : Int)), w5, w6, w7] [] H2 r) → Rn 201 180 [.ref 0, .ref 1, .ref 102, .ref 116, .int (ii (i : Int)), w5, w6, w7] [] H r := by
  obtain ⟨tl, T, sv, dn, vn, rn, kd, c, nx, F, X, S, Tr, M, W, h, rfl, rel, hn1, hn2⟩ := I
  obtain ⟨ht, hT, b6, b105, b115, pl, ⟨R, V, U, st, dr, m, rfl, ok⟩, mk, s0, s1⟩ := rel
  have hv := plk_v pl
  have hm := okq_m ok hv.2.1.2
  have hs := okq_sok ok hv.2.1.2
  have hp := okq_pgk ok hv.2.1.2
  have hc := okq_cpl ok pl
  have h68 := ok.2.2.2.1
  by_cases q1 : 0 ≤ (xs ((i : Int) + 1)) ∧ (xs ((i : Int) + 1)) ≤ 255
  · by_cases q2 : tl < 90
    ·
      have hcl := Ca_fg (l := FR L xs tl T sv dn vn rn kd c F X (tup rn R m V U st dr) Tr W) (l' := [(0, _), (1, _), (102, _), (116, _), (13, _), (14, _), (24, _), (25, _), (26, _), (27, _), (18, _), (19, _), (20, _), (21, _), (22, _), (23, _), (104, _), (107, _), (112, _), (113, _), (114, _), (108, _), (28, _), (29, _), (30, _), (31, _), (109, _), (2, _), (103, _), (99, _), (111, _), (110, _), (17, _), (100, _), (101, _), (3, _), (4, _), (5, _), (6, _), (7, _), (8, _), (9, _), (10, _), (11, _), (12, _), (105, _), (106, _), (115, _), (90, _), (91, _), (92, _), (93, _), (94, _), (95, _), (96, _), (97, _), (98, _), (15, _), (16, _)]) (c63a (T := T) (tl := tl) (c := (xs ((i : Int) + 1))) q1 (by omega)) (And.intro rfl (And.intro rfl (trivial))) rfl rfl (wd (LMm (c : Int) (nx : Int) M) h)
      have hA := put_wd (w178 (o := X 116) hcl (wd_at rfl) (by omega) (wd_at rfl)) rfl
      refine ⟨wd (FR L xs (tl + 1) (zu T tl (xs ((i : Int) + 1))) sv dn vn rn kd c (fu F 20 0) (xu X 116 (zu (X 116) 0 (tl + 1))) (tup rn R m V U st dr) Tr W) (wd (LMm (c : Int) (nx : Int) M) h), ⟨(tl + 1), (zu T tl (xs ((i : Int) + 1))), sv, dn, vn, rn, kd, c, nx, (fu F 20 0), (xu X 116 (zu (X 116) 0 (tl + 1))), (tup rn R m V U st dr), Tr, M, W, h, rfl, ⟨by omega, fun j => by unfold zu; split; exact q1; exact hT j, b6, b105, b115, pl, ⟨R, V, U, st, dr, m, rfl, ok⟩, mk, s0, s1⟩, by omega, by omega⟩, fun r w5 w6 w7 hk => ?_⟩
      exact l0 hL hL2 hx (wd_at rfl) hA (wd_at rfl) (wd_at rfl) (Ca_fg (c127a (c := (xs ((i : Int) + 1))) q1 (by omega)) (And.intro rfl (And.intro rfl (trivial))) rfl rfl _) (wd_at rfl) (Ca_fg c107 (And.intro rfl trivial) rfl rfl _) (wd_at rfl) rfl (by omega) rfl hk
    · obtain rfl : tl = 90 := by omega
      have hcl := Ca_fgx (l := FR L xs 90 T sv dn vn rn kd c F X (tup rn R m V U st dr) Tr W) (l' := [(0, _), (1, _), (102, _), (116, _), (13, _), (14, _), (24, _), (25, _), (26, _), (27, _), (18, _), (19, _), (20, _), (21, _), (22, _), (23, _), (104, _), (107, _), (112, _), (113, _), (114, _), (108, _), (28, _), (29, _), (30, _), (31, _), (109, _), (2, _), (103, _), (99, _), (111, _), (110, _), (17, _), (100, _), (101, _), (3, _), (4, _), (5, _), (6, _), (7, _), (8, _), (9, _), (10, _), (11, _), (12, _), (105, _), (106, _), (115, _), (90, _), (91, _), (92, _), (93, _), (94, _), (95, _), (96, _), (97, _), (98, _), (15, _), (16, _)]) (c63y (c := (xs ((i : Int) + 1))) q1) (And.intro rfl (trivial)) rfl rfl (wd (LMm (c : Int) (nx : Int) M) h)
      have hA := thr_c (w178x1 hcl (wd_at rfl))
      refine ⟨wd (FR L xs 90 T sv dn vn rn kd c (fu F 20 2) X (tup rn R m V U st dr) Tr W) (wd (LMm (c : Int) (nx : Int) M) (pd_thr h)), ⟨90, T, sv, dn, vn, rn, kd, c, nx, (fu F 20 2), X, (tup rn R m V U st dr), Tr, M, W, (pd_thr h), rfl, ⟨ht, hT, b6, b105, b115, pl, ⟨R, V, U, st, dr, m, rfl, ok⟩, mk, s0, s1⟩, by show h.1.1 + 1 ≤ _; omega, by show h.1.2.1 + 6 ≤ _; omega⟩, fun r w5 w6 w7 hk => ?_⟩
      exact l0x hL hL2 hx (wd_at rfl) hA (wd_at rfl) (wd_at rfl) (Ca_fg (c127y (c := (xs ((i : Int) + 1))) q1) (And.intro rfl (trivial)) rfl rfl _) (wd_at rfl) (Ca_fg c107 (And.intro rfl trivial) rfl rfl _) (by omega) hk
  ·
    have hcl := Ca_fgx (l := FR L xs tl T sv dn vn rn kd c F X (tup rn R m V U st dr) Tr W) (l' := [(0, _), (1, _), (102, _), (116, _), (13, _), (14, _), (24, _), (25, _), (26, _), (27, _), (18, _), (19, _), (20, _), (21, _), (22, _), (23, _), (104, _), (107, _), (112, _), (113, _), (114, _), (108, _), (28, _), (29, _), (30, _), (31, _), (109, _), (2, _), (103, _), (99, _), (111, _), (110, _), (17, _), (100, _), (101, _), (3, _), (4, _), (5, _), (6, _), (7, _), (8, _), (9, _), (10, _), (11, _), (12, _), (105, _), (106, _), (115, _), (90, _), (91, _), (92, _), (93, _), (94, _), (95, _), (96, _), (97, _), (98, _), (15, _), (16, _)]) (c63x (tl := tl) (c := (xs ((i : Int) + 1))) (hx _) q1) (And.intro rfl (trivial)) rfl rfl (wd (LMm (c : Int) (nx : Int) M) h)
    have hA := thr_c (w178x0 hcl (wd_at rfl))
    refine ⟨wd (FR L xs tl T sv dn vn rn kd c (fu F 20 1) X (tup rn R m V U st dr) Tr W) (wd (LMm (c : Int) (nx : Int) M) (pd_thr h)), ⟨tl, T, sv, dn, vn, rn, kd, c, nx, (fu F 20 1), X, (tup rn R m V U st dr), Tr, M, W, (pd_thr h), rfl, ⟨ht, hT, b6, b105, b115, pl, ⟨R, V, U, st, dr, m, rfl, ok⟩, mk, s0, s1⟩, by show h.1.1 + 1 ≤ _; omega, by show h.1.2.1 + 6 ≤ _; omega⟩, fun r w5 w6 w7 hk => ?_⟩
    exact l0x hL hL2 hx (wd_at rfl) hA (wd_at rfl) (wd_at rfl) (Ca_fg (c127x (c := (xs ((i : Int) + 1))) (hx _) q1) (And.intro rfl (trivial)) rfl rfl _) (wd_at rfl) (Ca_fg c107 (And.intro rfl trivial) rfl rfl _) (by omega) hk
theorem k1 {L i n : Nat} {xs : Int → Int} {H : pd_H} (hL : (i : Int) + 5 ≤ L) (hL2 : L ≤ 2560) (hx : ∀ q : Int, -2147483648 ≤ xs q ∧ xs q ≤ 2147483647) (I : Inv L xs n H) : ∃ H2, Inv L xs (n + 1) H2 ∧ ∀ (r : pd_Out × pd_H) (w5 w6 w7 : Value), (∀ w5 w6 w7 : Value, Rn 201 1951 [.ref 0, .ref 1, .ref 102, .ref 116, .int (ii (i : Int)), w5, w6, w7] [] H2 r) → Rn 201 236 [.ref 0, .ref 1, .ref 102, .ref 116, .int (ii (i : Int)), w5, w6, w7] [] H r := by
  obtain ⟨tl, T, sv, dn, vn, rn, kd, c, nx, F, X, S, Tr, M, W, h, rfl, rel, hn1, hn2⟩ := I
  obtain ⟨ht, hT, b6, b105, b115, pl, ⟨R, V, U, st, dr, m, rfl, ok⟩, mk, s0, s1⟩ := rel
  have hv := plk_v pl
  have hm := okq_m ok hv.2.1.2
  have hs := okq_sok ok hv.2.1.2
  have hp := okq_pgk ok hv.2.1.2
  have hc := okq_cpl ok pl
  have h68 := ok.2.2.2.1
  have hcl := Ca_fg (l := FR L xs tl T sv dn vn rn kd c F X (tup rn R m V U st dr) Tr W) (l' := [(0, _), (1, _), (102, _), (116, _), (13, _), (14, _), (24, _), (25, _), (26, _), (27, _), (18, _), (19, _), (20, _), (21, _), (22, _), (23, _), (104, _), (107, _), (112, _), (113, _), (114, _), (108, _), (28, _), (29, _), (30, _), (31, _), (109, _), (2, _), (103, _), (99, _), (111, _), (110, _), (17, _), (100, _), (101, _), (3, _), (4, _), (5, _), (6, _), (7, _), (8, _), (9, _), (10, _), (11, _), (12, _), (105, _), (106, _), (115, _), (90, _), (91, _), (92, _), (93, _), (94, _), (95, _), (96, _), (97, _), (98, _), (15, _), (16, _)]) (c64 (tl := tl)) (And.intro rfl (trivial)) rfl rfl (wd (LMm (c : Int) (nx : Int) M) h)
  refine ⟨wd (FR L xs 0 T sv dn vn rn kd c (fu F 20 0) X (tup rn R m V U st dr) Tr W) (wd (LMm (c : Int) (nx : Int) M) h), ⟨0, T, sv, dn, vn, rn, kd, c, nx, (fu F 20 0), X, (tup rn R m V U st dr), Tr, M, W, h, rfl, ⟨by omega, hT, b6, b105, b115, pl, ⟨R, V, U, st, dr, m, rfl, ok⟩, mk, s0, s1⟩, by omega, by omega⟩, fun r w5 w6 w7 hk => ?_⟩
  exact l1 hL hL2 hx (wd_at rfl) hcl (wd_at rfl) (wd_at rfl) (wd_at rfl) (Ca_fg (c128) (And.intro rfl (trivial)) rfl rfl _) (hk _ _ _)
theorem k4 {L i n : Nat} {xs : Int → Int} {H : pd_H} (hL : (i : Int) + 5 ≤ L) (hL2 : L ≤ 2560) (hx : ∀ q : Int, -2147483648 ≤ xs q ∧ xs q ≤ 2147483647) (I : Inv L xs n H) : ∃ H2, Inv L xs (n + 1) H2 ∧ ∀ (r : pd_Out × pd_H) (w5 w6 w7 : Value), (∀ w5 w6 w7 : Value, Rn 201 1951 [.ref 0, .ref 1, .ref 102, .ref 116, .int (ii (i : Int)), w5, w6, w7] [] H2 r) → Rn 201 306 [.ref 0, .ref 1, .ref 102, .ref 116, .int (ii (i : Int)), w5, w6, w7] [] H r := by
  obtain ⟨tl, T, sv, dn, vn, rn, kd, c, nx, F, X, S, Tr, M, W, h, rfl, rel, hn1, hn2⟩ := I
  obtain ⟨ht, hT, b6, b105, b115, pl, ⟨R, V, U, st, dr, m, rfl, ok⟩, mk, s0, s1⟩ := rel
  have hv := plk_v pl
  have hm := okq_m ok hv.2.1.2
  have hs := okq_sok ok hv.2.1.2
  have hp := okq_pgk ok hv.2.1.2
  have hc := okq_cpl ok pl
  have h68 := ok.2.2.2.1
  by_cases q1 : 0 ≤ (xs ((i : Int) + 1)) ∧ (xs ((i : Int) + 1)) ≤ 6
  · obtain ⟨z, hz1, hz2⟩ := ii_rng (ab7 (dn : Int) kd (vn : Int) (rn : Int) (m : Int) st dr (xs ((i : Int) + 1)))
    have hz3 : ii (ab7 (dn : Int) kd (vn : Int) (rn : Int) (X 107 68) (X 107 69) (X 107 70) (xs ((i : Int) + 1))) = ii z := by
      rw [← hz1, h68]
      have h7 : (xs ((i : Int) + 1)) = 0 ∨ (xs ((i : Int) + 1)) = 1 ∨ (xs ((i : Int) + 1)) = 2 ∨ (xs ((i : Int) + 1)) = 3 ∨ (xs ((i : Int) + 1)) = 4 ∨ (xs ((i : Int) + 1)) = 5 ∨ (xs ((i : Int) + 1)) = 6 := by omega
      rcases h7 with e | e | e | e | e | e | e <;> rw [e] <;> unfold ab7
      · rfl
      · rfl
      · rfl
      · rfl
      · rfl
      · exact ok.2.2.2.2.2.1.symm
      · exact ok.2.2.2.2.2.2.symm
    have h67 := c67 (tl := tl) (d := (dn : Int)) (kd := kd) (vs := (vn : Int)) (rv := (rn : Int)) (m := m) (st := st) (dr := dr) q1
    have h143 := c143 (rf := F 20) (ts := tl) (sp := F 22) (d := (dn : Int)) (kd := kd) (vs := (vn : Int)) (rw := (rn : Int)) (rd := F 27) (rk := F 28) (rv := F 29) (rr := F 30) (ac := (c : Int)) (r := X 107) q1
    rw [hz1] at h67
    rw [hz3] at h143
    have hcl := Ca_fg (l := FR L xs tl T sv dn vn rn kd c F X (tup rn R m V U st dr) Tr W) (l' := [(0, _), (1, _), (102, _), (116, _), (13, _), (14, _), (24, _), (25, _), (26, _), (27, _), (18, _), (19, _), (20, _), (21, _), (22, _), (23, _), (104, _), (107, _), (112, _), (113, _), (114, _), (108, _), (28, _), (29, _), (30, _), (31, _), (109, _), (2, _), (103, _), (99, _), (111, _), (110, _), (17, _), (100, _), (101, _), (3, _), (4, _), (5, _), (6, _), (7, _), (8, _), (9, _), (10, _), (11, _), (12, _), (105, _), (106, _), (115, _), (90, _), (91, _), (92, _), (93, _), (94, _), (95, _), (96, _), (97, _), (98, _), (15, _), (16, _)]) (h67) (And.intro rfl (And.intro rfl (And.intro rfl (trivial)))) rfl rfl (wd (LMm (c : Int) (nx : Int) M) h)
    have hA := put_wd (w180 (o := X 116) hcl (wd_at rfl) (hz2) (wd_at rfl)) rfl
    refine ⟨wd (FR L xs tl T sv dn vn rn kd c (fu F 20 0) (xu X 116 (zu (X 116) 0 z)) (tup rn R m V U st dr) Tr W) (wd (LMm (c : Int) (nx : Int) M) h), ⟨tl, T, sv, dn, vn, rn, kd, c, nx, (fu F 20 0), (xu X 116 (zu (X 116) 0 z)), (tup rn R m V U st dr), Tr, M, W, h, rfl, ⟨ht, hT, b6, b105, b115, pl, ⟨R, V, U, st, dr, m, rfl, ok⟩, mk, s0, s1⟩, by omega, by omega⟩, fun r w5 w6 w7 hk => ?_⟩
    exact l4 hL hL2 hx (wd_at rfl) hA (wd_at rfl) (wd_at rfl) (Ca_fg (h143) (And.intro rfl (And.intro rfl (trivial))) rfl rfl _) (wd_at rfl) (Ca_fg c107 (And.intro rfl trivial) rfl rfl _) (wd_at rfl) rfl (hz2) rfl hk
  ·
    have hcl := Ca_fgx (l := FR L xs tl T sv dn vn rn kd c F X (tup rn R m V U st dr) Tr W) (l' := [(0, _), (1, _), (102, _), (116, _), (13, _), (14, _), (24, _), (25, _), (26, _), (27, _), (18, _), (19, _), (20, _), (21, _), (22, _), (23, _), (104, _), (107, _), (112, _), (113, _), (114, _), (108, _), (28, _), (29, _), (30, _), (31, _), (109, _), (2, _), (103, _), (99, _), (111, _), (110, _), (17, _), (100, _), (101, _), (3, _), (4, _), (5, _), (6, _), (7, _), (8, _), (9, _), (10, _), (11, _), (12, _), (105, _), (106, _), (115, _), (90, _), (91, _), (92, _), (93, _), (94, _), (95, _), (96, _), (97, _), (98, _), (15, _), (16, _)]) (c67x (tl := tl) (hx _) q1) (And.intro rfl (trivial)) rfl rfl (wd (LMm (c : Int) (nx : Int) M) h)
    have hA := thr_c (w180x0 hcl (wd_at rfl))
    refine ⟨wd (FR L xs tl T sv dn vn rn kd c (fu F 20 1) X (tup rn R m V U st dr) Tr W) (wd (LMm (c : Int) (nx : Int) M) (pd_thr h)), ⟨tl, T, sv, dn, vn, rn, kd, c, nx, (fu F 20 1), X, (tup rn R m V U st dr), Tr, M, W, (pd_thr h), rfl, ⟨ht, hT, b6, b105, b115, pl, ⟨R, V, U, st, dr, m, rfl, ok⟩, mk, s0, s1⟩, by show h.1.1 + 1 ≤ _; omega, by show h.1.2.1 + 6 ≤ _; omega⟩, fun r w5 w6 w7 hk => ?_⟩
    exact l4x hL hL2 hx (wd_at rfl) hA (wd_at rfl) (wd_at rfl) (Ca_fg (c143x (hx _) q1) (And.intro rfl (trivial)) rfl rfl _) (wd_at rfl) (Ca_fg c107 (And.intro rfl trivial) rfl rfl _) (by omega) hk
theorem k5 {L i n : Nat} {xs : Int → Int} {H : pd_H} (hL : (i : Int) + 5 ≤ L) (hL2 : L ≤ 2560) (hx : ∀ q : Int, -2147483648 ≤ xs q ∧ xs q ≤ 2147483647) (I : Inv L xs n H) : ∃ H2, Inv L xs (n + 1) H2 ∧ ∀ (r : pd_Out × pd_H) (w5 w6 w7 : Value), (∀ w5 w6 w7 : Value, Rn 201 1951 [.ref 0, .ref 1, .ref 102, .ref 116, .int (ii (i : Int)), w5, w6, w7] [] H2 r) → Rn 201 362 [.ref 0, .ref 1, .ref 102, .ref 116, .int (ii (i : Int)), w5, w6, w7] [] H r := by
  obtain ⟨tl, T, sv, dn, vn, rn, kd, c, nx, F, X, S, Tr, M, W, h, rfl, rel, hn1, hn2⟩ := I
  obtain ⟨ht, hT, b6, b105, b115, pl, ⟨R, V, U, st, dr, m, rfl, ok⟩, mk, s0, s1⟩ := rel
  have hv := plk_v pl
  have hm := okq_m ok hv.2.1.2
  have hs := okq_sok ok hv.2.1.2
  have hp := okq_pgk ok hv.2.1.2
  have hc := okq_cpl ok pl
  have h68 := ok.2.2.2.1
  by_cases q1 : (0 ≤ (xs ((i : Int) + 1)) ∧ (xs ((i : Int) + 1)) < vn) ∧ (0 ≤ (xs ((i : Int) + 2)) ∧ (xs ((i : Int) + 2)) < dn)
  · have e5 := pl.2.2.1 _ _ q1.1.1 q1.1.2 q1.2.1 (by omega)
    have h9 := pl.2.1.2.2.2 (4 * (xs ((i : Int) + 1)) + (xs ((i : Int) + 2)))
    have h5 := c68 (tl := tl) (kd := kd) (C := X 14) hv.1.2 hv.2.1.2 q1.1 q1.2
    rw [e5] at h5
    have hcl := Ca_fg (l := FR L xs tl T sv dn vn rn kd c F X (tup rn R m V U st dr) Tr W) (l' := [(0, _), (1, _), (102, _), (116, _), (13, _), (14, _), (24, _), (25, _), (26, _), (27, _), (18, _), (19, _), (20, _), (21, _), (22, _), (23, _), (104, _), (107, _), (112, _), (113, _), (114, _), (108, _), (28, _), (29, _), (30, _), (31, _), (109, _), (2, _), (103, _), (99, _), (111, _), (110, _), (17, _), (100, _), (101, _), (3, _), (4, _), (5, _), (6, _), (7, _), (8, _), (9, _), (10, _), (11, _), (12, _), (105, _), (106, _), (115, _), (90, _), (91, _), (92, _), (93, _), (94, _), (95, _), (96, _), (97, _), (98, _), (15, _), (16, _)]) (h5) (And.intro rfl (And.intro rfl (And.intro rfl (trivial)))) rfl rfl (wd (LMm (c : Int) (nx : Int) M) h)
    have hA := put_wd (w181 (o := X 116) hcl (wd_at rfl) (by omega) (wd_at rfl)) rfl
    refine ⟨wd (FR L xs tl T sv dn vn rn kd c (fu F 20 0) (xu X 116 (zu (X 116) 0 (X 104 (4 * (xs ((i : Int) + 1)) + (xs ((i : Int) + 2)))))) (tup rn R m V U st dr) Tr W) (wd (LMm (c : Int) (nx : Int) M) h), ⟨tl, T, sv, dn, vn, rn, kd, c, nx, (fu F 20 0), (xu X 116 (zu (X 116) 0 (X 104 (4 * (xs ((i : Int) + 1)) + (xs ((i : Int) + 2)))))), (tup rn R m V U st dr), Tr, M, W, h, rfl, ⟨ht, hT, b6, b105, b115, pl, ⟨R, V, U, st, dr, m, rfl, ok⟩, mk, s0, s1⟩, by omega, by omega⟩, fun r w5 w6 w7 hk => ?_⟩
    exact l5 hL hL2 hx (wd_at rfl) hA (wd_at rfl) (wd_at rfl) (Ca_fg (c144 hv.1.2 hv.2.1.2 q1.1 q1.2) (And.intro rfl (And.intro rfl (trivial))) rfl rfl _) (wd_at rfl) (Ca_fg c107 (And.intro rfl trivial) rfl rfl _) (wd_at rfl) rfl (by omega) rfl hk
  ·
    have hcl := Ca_fgx (l := FR L xs tl T sv dn vn rn kd c F X (tup rn R m V U st dr) Tr W) (l' := [(0, _), (1, _), (102, _), (116, _), (13, _), (14, _), (24, _), (25, _), (26, _), (27, _), (18, _), (19, _), (20, _), (21, _), (22, _), (23, _), (104, _), (107, _), (112, _), (113, _), (114, _), (108, _), (28, _), (29, _), (30, _), (31, _), (109, _), (2, _), (103, _), (99, _), (111, _), (110, _), (17, _), (100, _), (101, _), (3, _), (4, _), (5, _), (6, _), (7, _), (8, _), (9, _), (10, _), (11, _), (12, _), (105, _), (106, _), (115, _), (90, _), (91, _), (92, _), (93, _), (94, _), (95, _), (96, _), (97, _), (98, _), (15, _), (16, _)]) (c68x (tl := tl) (hx _) (hx _) hv.1.2 hv.2.1.2 q1) (And.intro rfl (And.intro rfl (trivial))) rfl rfl (wd (LMm (c : Int) (nx : Int) M) h)
    have hA := thr_c (w181x2 hcl (wd_at rfl))
    refine ⟨wd (FR L xs tl T sv dn vn rn kd c (fu F 20 1) X (tup rn R m V U st dr) Tr W) (wd (LMm (c : Int) (nx : Int) M) (pd_thr h)), ⟨tl, T, sv, dn, vn, rn, kd, c, nx, (fu F 20 1), X, (tup rn R m V U st dr), Tr, M, W, (pd_thr h), rfl, ⟨ht, hT, b6, b105, b115, pl, ⟨R, V, U, st, dr, m, rfl, ok⟩, mk, s0, s1⟩, by show h.1.1 + 1 ≤ _; omega, by show h.1.2.1 + 6 ≤ _; omega⟩, fun r w5 w6 w7 hk => ?_⟩
    exact l5x hL hL2 hx (wd_at rfl) hA (wd_at rfl) (wd_at rfl) (Ca_fg (c144x (hx _) (hx _) hv.1.2 hv.2.1.2 q1) (And.intro rfl (trivial)) rfl rfl _) (wd_at rfl) (Ca_fg c107 (And.intro rfl trivial) rfl rfl _) (by omega) hk
theorem k6 {L i n : Nat} {xs : Int → Int} {H : pd_H} (hL : (i : Int) + 5 ≤ L) (hL2 : L ≤ 2560) (hx : ∀ q : Int, -2147483648 ≤ xs q ∧ xs q ≤ 2147483647) (I : Inv L xs n H) : ∃ H2, Inv L xs (n + 1) H2 ∧ ∀ (r : pd_Out × pd_H) (w5 w6 w7 : Value), (∀ w5 w6 w7 : Value, Rn 201 1951 [.ref 0, .ref 1, .ref 102, .ref 116, .int (ii (i : Int)), w5, w6, w7] [] H2 r) → Rn 201 430 [.ref 0, .ref 1, .ref 102, .ref 116, .int (ii (i : Int)), w5, w6, w7] [] H r := by
  obtain ⟨tl, T, sv, dn, vn, rn, kd, c, nx, F, X, S, Tr, M, W, h, rfl, rel, hn1, hn2⟩ := I
  obtain ⟨ht, hT, b6, b105, b115, pl, ⟨R, V, U, st, dr, m, rfl, ok⟩, mk, s0, s1⟩ := rel
  have hv := plk_v pl
  have hm := okq_m ok hv.2.1.2
  have hs := okq_sok ok hv.2.1.2
  have hp := okq_pgk ok hv.2.1.2
  have hc := okq_cpl ok pl
  have h68 := ok.2.2.2.1
  by_cases q1 : (0 ≤ (xs ((i : Int) + 1)) ∧ (xs ((i : Int) + 1)) < rn) ∧ (0 ≤ (xs ((i : Int) + 2)) ∧ (xs ((i : Int) + 2)) ≤ dn)
  · have hcl0 := cel hv.1.2 q1.2
    have e5 : R ((xs ((i : Int) + 1)) * 5 + (if (xs ((i : Int) + 2)) = (dn : Int) then 4 else (xs ((i : Int) + 2)))) = X 107 (5 * (xs ((i : Int) + 1)) + (if (xs ((i : Int) + 2)) = (dn : Int) then 4 else (xs ((i : Int) + 2)))) := by rw [ok.1 _ (by omega) (by omega), Int.mul_comm (xs ((i : Int) + 1)) 5]
    have h9 : -99 ≤ R ((xs ((i : Int) + 1)) * 5 + (if (xs ((i : Int) + 2)) = (dn : Int) then 4 else (xs ((i : Int) + 2)))) ∧ R ((xs ((i : Int) + 1)) * 5 + (if (xs ((i : Int) + 2)) = (dn : Int) then 4 else (xs ((i : Int) + 2)))) ≤ 99 := by
      by_cases e : (xs ((i : Int) + 2)) = (dn : Int)
      · rw [if_pos e]; exact ok.2.1.2 _ (by omega) (by omega)
      · rw [if_neg e]
        have := ok.2.1.1 (xs ((i : Int) + 1)) (xs ((i : Int) + 2)) (by omega) (by omega) (by omega) (by omega)
        omega
    have h5 := c69 (tl := tl) (kd := kd) (vn := vn) (m := m) (st := st) (dr := dr) (R := R) hv.1.2 hv.2.2.2 q1.1 q1.2
    rw [e5] at h5 h9
    have hcl := Ca_fg (l := FR L xs tl T sv dn vn rn kd c F X (tup rn R m V U st dr) Tr W) (l' := [(0, _), (1, _), (102, _), (116, _), (13, _), (14, _), (24, _), (25, _), (26, _), (27, _), (18, _), (19, _), (20, _), (21, _), (22, _), (23, _), (104, _), (107, _), (112, _), (113, _), (114, _), (108, _), (28, _), (29, _), (30, _), (31, _), (109, _), (2, _), (103, _), (99, _), (111, _), (110, _), (17, _), (100, _), (101, _), (3, _), (4, _), (5, _), (6, _), (7, _), (8, _), (9, _), (10, _), (11, _), (12, _), (105, _), (106, _), (115, _), (90, _), (91, _), (92, _), (93, _), (94, _), (95, _), (96, _), (97, _), (98, _), (15, _), (16, _)]) (h5) (And.intro rfl (And.intro rfl (And.intro rfl (And.intro rfl (trivial))))) rfl rfl (wd (LMm (c : Int) (nx : Int) M) h)
    have hA := put_wd (w182 (o := X 116) hcl (wd_at rfl) (by omega) (wd_at rfl)) rfl
    refine ⟨wd (FR L xs tl T sv dn vn rn kd c (fu F 20 0) (xu X 116 (zu (X 116) 0 (X 107 (5 * (xs ((i : Int) + 1)) + (if (xs ((i : Int) + 2)) = (dn : Int) then 4 else (xs ((i : Int) + 2))))))) (tup rn R m V U st dr) Tr W) (wd (LMm (c : Int) (nx : Int) M) h), ⟨tl, T, sv, dn, vn, rn, kd, c, nx, (fu F 20 0), (xu X 116 (zu (X 116) 0 (X 107 (5 * (xs ((i : Int) + 1)) + (if (xs ((i : Int) + 2)) = (dn : Int) then 4 else (xs ((i : Int) + 2))))))), (tup rn R m V U st dr), Tr, M, W, h, rfl, ⟨ht, hT, b6, b105, b115, pl, ⟨R, V, U, st, dr, m, rfl, ok⟩, mk, s0, s1⟩, by omega, by omega⟩, fun r w5 w6 w7 hk => ?_⟩
    exact l6 hL hL2 hx (wd_at rfl) hA (wd_at rfl) (wd_at rfl) (Ca_fg (c147 hv.1.2 hv.2.2.2 q1.1 q1.2) (And.intro rfl (And.intro rfl (trivial))) rfl rfl _) (wd_at rfl) (Ca_fg c107 (And.intro rfl trivial) rfl rfl _) (wd_at rfl) rfl (by omega) rfl hk
  ·
    have hcl := Ca_fgx (l := FR L xs tl T sv dn vn rn kd c F X (tup rn R m V U st dr) Tr W) (l' := [(0, _), (1, _), (102, _), (116, _), (13, _), (14, _), (24, _), (25, _), (26, _), (27, _), (18, _), (19, _), (20, _), (21, _), (22, _), (23, _), (104, _), (107, _), (112, _), (113, _), (114, _), (108, _), (28, _), (29, _), (30, _), (31, _), (109, _), (2, _), (103, _), (99, _), (111, _), (110, _), (17, _), (100, _), (101, _), (3, _), (4, _), (5, _), (6, _), (7, _), (8, _), (9, _), (10, _), (11, _), (12, _), (105, _), (106, _), (115, _), (90, _), (91, _), (92, _), (93, _), (94, _), (95, _), (96, _), (97, _), (98, _), (15, _), (16, _)]) (c69x (tl := tl) (hx _) (hx _) hv.1.2 hv.2.2.2 q1) (And.intro rfl (And.intro rfl (And.intro rfl (trivial)))) rfl rfl (wd (LMm (c : Int) (nx : Int) M) h)
    have hA := thr_c (w182x2 hcl (wd_at rfl))
    refine ⟨wd (FR L xs tl T sv dn vn rn kd c (fu F 20 1) X (tup rn R m V U st dr) Tr W) (wd (LMm (c : Int) (nx : Int) M) (pd_thr h)), ⟨tl, T, sv, dn, vn, rn, kd, c, nx, (fu F 20 1), X, (tup rn R m V U st dr), Tr, M, W, (pd_thr h), rfl, ⟨ht, hT, b6, b105, b115, pl, ⟨R, V, U, st, dr, m, rfl, ok⟩, mk, s0, s1⟩, by show h.1.1 + 1 ≤ _; omega, by show h.1.2.1 + 6 ≤ _; omega⟩, fun r w5 w6 w7 hk => ?_⟩
    exact l6x hL hL2 hx (wd_at rfl) hA (wd_at rfl) (wd_at rfl) (Ca_fg (c147x (hx _) (hx _) hv.1.2 hv.2.2.2 q1) (And.intro rfl (trivial)) rfl rfl _) (wd_at rfl) (Ca_fg c107 (And.intro rfl trivial) rfl rfl _) (by omega) hk
theorem k7 {L i n : Nat} {xs : Int → Int} {H : pd_H} (hL : (i : Int) + 5 ≤ L) (hL2 : L ≤ 2560) (hx : ∀ q : Int, -2147483648 ≤ xs q ∧ xs q ≤ 2147483647) (I : Inv L xs n H) : ∃ H2, Inv L xs (n + 1) H2 ∧ ∀ (r : pd_Out × pd_H) (w5 w6 w7 : Value), (∀ w5 w6 w7 : Value, Rn 201 1951 [.ref 0, .ref 1, .ref 102, .ref 116, .int (ii (i : Int)), w5, w6, w7] [] H2 r) → Rn 201 498 [.ref 0, .ref 1, .ref 102, .ref 116, .int (ii (i : Int)), w5, w6, w7] [] H r := by
  obtain ⟨tl, T, sv, dn, vn, rn, kd, c, nx, F, X, S, Tr, M, W, h, rfl, rel, hn1, hn2⟩ := I
  obtain ⟨ht, hT, b6, b105, b115, pl, ⟨R, V, U, st, dr, m, rfl, ok⟩, mk, s0, s1⟩ := rel
  have hv := plk_v pl
  have hm := okq_m ok hv.2.1.2
  have hs := okq_sok ok hv.2.1.2
  have hp := okq_pgk ok hv.2.1.2
  have hc := okq_cpl ok pl
  have h68 := ok.2.2.2.1
  by_cases q1 : 0 ≤ (xs ((i : Int) + 1)) ∧ (xs ((i : Int) + 1)) < m
  · have hU := Mx_at ok.2.2.2.2.1 (i := ((xs ((i : Int) + 1))).toNat) (by omega)
    have hq := ok.2.2.1 ((xs ((i : Int) + 1))).toNat (by omega)
    rw [show ((((xs ((i : Int) + 1))).toNat : Nat) : Int) = (xs ((i : Int) + 1)) by omega] at hU hq
    by_cases q2 : 0 ≤ (xs ((i : Int) + 2)) ∧ (xs ((i : Int) + 2)) ≤ 1
    · by_cases q3 : (xs ((i : Int) + 2)) = 0
      · have h5 := t70 (tl := tl) (rv := (rn : Int)) (st := st) (dr := dr) (V := V) (U := U) hm.2 q1 q3
        have h6 := t148 (rf := F 20) (ts := tl) (sp := F 22) (d := (dn : Int)) (kd := kd) (vs := (vn : Int)) (rw := (rn : Int)) (rd := F 27) (rk := F 28) (rv := F 29) (rr := F 30) (ac := (c : Int)) h68 hm.2 q1 q3
        rw [← hq.1] at h6
        have hcl := Ca_fg (l := FR L xs tl T sv dn vn rn kd c F X (tup rn R m V U st dr) Tr W) (l' := [(0, _), (1, _), (102, _), (116, _), (13, _), (14, _), (24, _), (25, _), (26, _), (27, _), (18, _), (19, _), (20, _), (21, _), (22, _), (23, _), (104, _), (107, _), (112, _), (113, _), (114, _), (108, _), (28, _), (29, _), (30, _), (31, _), (109, _), (2, _), (103, _), (99, _), (111, _), (110, _), (17, _), (100, _), (101, _), (3, _), (4, _), (5, _), (6, _), (7, _), (8, _), (9, _), (10, _), (11, _), (12, _), (105, _), (106, _), (115, _), (90, _), (91, _), (92, _), (93, _), (94, _), (95, _), (96, _), (97, _), (98, _), (15, _), (16, _)]) (h5) (And.intro rfl (And.intro rfl (And.intro rfl (And.intro rfl (trivial))))) rfl rfl (wd (LMm (c : Int) (nx : Int) M) h)
        have hA := put_wd (w183 (o := X 116) hcl (wd_at rfl) (by omega) (wd_at rfl)) rfl
        refine ⟨wd (FR L xs tl T sv dn vn rn kd c (fu F 20 0) (xu X 116 (zu (X 116) 0 (V (xs ((i : Int) + 1))))) (tup rn R m V U st dr) Tr W) (wd (LMm (c : Int) (nx : Int) M) h), ⟨tl, T, sv, dn, vn, rn, kd, c, nx, (fu F 20 0), (xu X 116 (zu (X 116) 0 (V (xs ((i : Int) + 1))))), (tup rn R m V U st dr), Tr, M, W, h, rfl, ⟨ht, hT, b6, b105, b115, pl, ⟨R, V, U, st, dr, m, rfl, ok⟩, mk, s0, s1⟩, by omega, by omega⟩, fun r w5 w6 w7 hk => ?_⟩
        exact l7 hL hL2 hx (wd_at rfl) hA (wd_at rfl) (wd_at rfl) (Ca_fg (h6) (And.intro rfl (And.intro rfl (trivial))) rfl rfl _) (wd_at rfl) (Ca_fg c107 (And.intro rfl trivial) rfl rfl _) (wd_at rfl) rfl (by omega) rfl hk
      · have q4 : (xs ((i : Int) + 2)) = 1 := by omega
        have h5 := u70 (tl := tl) (rv := (rn : Int)) (st := st) (dr := dr) (V := V) (U := U) hm.2 q1 q4
        have h6 := u148 (rf := F 20) (ts := tl) (sp := F 22) (d := (dn : Int)) (kd := kd) (vs := (vn : Int)) (rw := (rn : Int)) (rd := F 27) (rk := F 28) (rv := F 29) (rr := F 30) (ac := (c : Int)) h68 hm.2 q1 q4
        rw [← hq.2] at h6
        have hcl := Ca_fg (l := FR L xs tl T sv dn vn rn kd c F X (tup rn R m V U st dr) Tr W) (l' := [(0, _), (1, _), (102, _), (116, _), (13, _), (14, _), (24, _), (25, _), (26, _), (27, _), (18, _), (19, _), (20, _), (21, _), (22, _), (23, _), (104, _), (107, _), (112, _), (113, _), (114, _), (108, _), (28, _), (29, _), (30, _), (31, _), (109, _), (2, _), (103, _), (99, _), (111, _), (110, _), (17, _), (100, _), (101, _), (3, _), (4, _), (5, _), (6, _), (7, _), (8, _), (9, _), (10, _), (11, _), (12, _), (105, _), (106, _), (115, _), (90, _), (91, _), (92, _), (93, _), (94, _), (95, _), (96, _), (97, _), (98, _), (15, _), (16, _)]) (h5) (And.intro rfl (And.intro rfl (And.intro rfl (And.intro rfl (trivial))))) rfl rfl (wd (LMm (c : Int) (nx : Int) M) h)
        have hA := put_wd (w183 (o := X 116) hcl (wd_at rfl) (by omega) (wd_at rfl)) rfl
        refine ⟨wd (FR L xs tl T sv dn vn rn kd c (fu F 20 0) (xu X 116 (zu (X 116) 0 (U (xs ((i : Int) + 1))))) (tup rn R m V U st dr) Tr W) (wd (LMm (c : Int) (nx : Int) M) h), ⟨tl, T, sv, dn, vn, rn, kd, c, nx, (fu F 20 0), (xu X 116 (zu (X 116) 0 (U (xs ((i : Int) + 1))))), (tup rn R m V U st dr), Tr, M, W, h, rfl, ⟨ht, hT, b6, b105, b115, pl, ⟨R, V, U, st, dr, m, rfl, ok⟩, mk, s0, s1⟩, by omega, by omega⟩, fun r w5 w6 w7 hk => ?_⟩
        exact l7 hL hL2 hx (wd_at rfl) hA (wd_at rfl) (wd_at rfl) (Ca_fg (h6) (And.intro rfl (And.intro rfl (trivial))) rfl rfl _) (wd_at rfl) (Ca_fg c107 (And.intro rfl trivial) rfl rfl _) (wd_at rfl) rfl (by omega) rfl hk
    ·
      have hcl := Ca_fgx (l := FR L xs tl T sv dn vn rn kd c F X (tup rn R m V U st dr) Tr W) (l' := [(0, _), (1, _), (102, _), (116, _), (13, _), (14, _), (24, _), (25, _), (26, _), (27, _), (18, _), (19, _), (20, _), (21, _), (22, _), (23, _), (104, _), (107, _), (112, _), (113, _), (114, _), (108, _), (28, _), (29, _), (30, _), (31, _), (109, _), (2, _), (103, _), (99, _), (111, _), (110, _), (17, _), (100, _), (101, _), (3, _), (4, _), (5, _), (6, _), (7, _), (8, _), (9, _), (10, _), (11, _), (12, _), (105, _), (106, _), (115, _), (90, _), (91, _), (92, _), (93, _), (94, _), (95, _), (96, _), (97, _), (98, _), (15, _), (16, _)]) (c70y (tl := tl) (hx _) (hx _) hm.2 q1 q2) (And.intro rfl (And.intro rfl (trivial))) rfl rfl (wd (LMm (c : Int) (nx : Int) M) h)
      have hA := thr_c (w183x0 hcl (wd_at rfl))
      refine ⟨wd (FR L xs tl T sv dn vn rn kd c (fu F 20 2) X (tup rn R m V U st dr) Tr W) (wd (LMm (c : Int) (nx : Int) M) (pd_thr h)), ⟨tl, T, sv, dn, vn, rn, kd, c, nx, (fu F 20 2), X, (tup rn R m V U st dr), Tr, M, W, (pd_thr h), rfl, ⟨ht, hT, b6, b105, b115, pl, ⟨R, V, U, st, dr, m, rfl, ok⟩, mk, s0, s1⟩, by show h.1.1 + 1 ≤ _; omega, by show h.1.2.1 + 6 ≤ _; omega⟩, fun r w5 w6 w7 hk => ?_⟩
      exact l7x hL hL2 hx (wd_at rfl) hA (wd_at rfl) (wd_at rfl) (Ca_fg (c148y (hx _) (hx _) h68 hm.2 q1 q2) (And.intro rfl (And.intro rfl (trivial))) rfl rfl _) (wd_at rfl) (Ca_fg c107 (And.intro rfl trivial) rfl rfl _) (by omega) hk
  ·
    have hcl := Ca_fgx (l := FR L xs tl T sv dn vn rn kd c F X (tup rn R m V U st dr) Tr W) (l' := [(0, _), (1, _), (102, _), (116, _), (13, _), (14, _), (24, _), (25, _), (26, _), (27, _), (18, _), (19, _), (20, _), (21, _), (22, _), (23, _), (104, _), (107, _), (112, _), (113, _), (114, _), (108, _), (28, _), (29, _), (30, _), (31, _), (109, _), (2, _), (103, _), (99, _), (111, _), (110, _), (17, _), (100, _), (101, _), (3, _), (4, _), (5, _), (6, _), (7, _), (8, _), (9, _), (10, _), (11, _), (12, _), (105, _), (106, _), (115, _), (90, _), (91, _), (92, _), (93, _), (94, _), (95, _), (96, _), (97, _), (98, _), (15, _), (16, _)]) (c70x (tl := tl) (j := (xs ((i : Int) + 2))) (hx _) (hx _) hm.2 q1) (And.intro rfl (And.intro rfl (trivial))) rfl rfl (wd (LMm (c : Int) (nx : Int) M) h)
    have hA := thr_c (w183x2 hcl (wd_at rfl))
    refine ⟨wd (FR L xs tl T sv dn vn rn kd c (fu F 20 1) X (tup rn R m V U st dr) Tr W) (wd (LMm (c : Int) (nx : Int) M) (pd_thr h)), ⟨tl, T, sv, dn, vn, rn, kd, c, nx, (fu F 20 1), X, (tup rn R m V U st dr), Tr, M, W, (pd_thr h), rfl, ⟨ht, hT, b6, b105, b115, pl, ⟨R, V, U, st, dr, m, rfl, ok⟩, mk, s0, s1⟩, by show h.1.1 + 1 ≤ _; omega, by show h.1.2.1 + 6 ≤ _; omega⟩, fun r w5 w6 w7 hk => ?_⟩
    exact l7x hL hL2 hx (wd_at rfl) hA (wd_at rfl) (wd_at rfl) (Ca_fg (c148x (hx _) (hx _) h68 hm.2 q1) (And.intro rfl (And.intro rfl (trivial))) rfl rfl _) (wd_at rfl) (Ca_fg c107 (And.intro rfl trivial) rfl rfl _) (by omega) hk
theorem k8 {L i n : Nat} {xs : Int → Int} {H : pd_H} (hL : (i : Int) + 5 ≤ L) (hL2 : L ≤ 2560) (hx : ∀ q : Int, -2147483648 ≤ xs q ∧ xs q ≤ 2147483647) (I : Inv L xs n H) : ∃ H2, Inv L xs (n + 1) H2 ∧ ∀ (r : pd_Out × pd_H) (w5 w6 w7 : Value), (∀ w5 w6 w7 : Value, Rn 201 1951 [.ref 0, .ref 1, .ref 102, .ref 116, .int (ii (i : Int)), w5, w6, w7] [] H2 r) → Rn 201 566 [.ref 0, .ref 1, .ref 102, .ref 116, .int (ii (i : Int)), w5, w6, w7] [] H r := by
  obtain ⟨tl, T, sv, dn, vn, rn, kd, c, nx, F, X, S, Tr, M, W, h, rfl, rel, hn1, hn2⟩ := I
  obtain ⟨ht, hT, b6, b105, b115, pl, ⟨R, V, U, st, dr, m, rfl, ok⟩, mk, s0, s1⟩ := rel
  have hv := plk_v pl
  have hm := okq_m ok hv.2.1.2
  have hs := okq_sok ok hv.2.1.2
  have hp := okq_pgk ok hv.2.1.2
  have hc := okq_cpl ok pl
  have h68 := ok.2.2.2.1
  have ef : fnd (fq (X 14) (xs ((i : Int) + 1)) (xs ((i : Int) + 2)) (xs ((i : Int) + 3)) (xs ((i : Int) + 4))) vn 0 = fnd (fq (X 104) (xs ((i : Int) + 1)) (xs ((i : Int) + 2)) (xs ((i : Int) + 3)) (xs ((i : Int) + 4))) vn 0 := fnd_congr vn 0 fun v h1 h2 => by
    have g0 := pl.2.2.1 (v : Int) 0 (by omega) (by omega) (by omega) (by omega)
    have g1 := pl.2.2.1 (v : Int) 1 (by omega) (by omega) (by omega) (by omega)
    have g2 := pl.2.2.1 (v : Int) 2 (by omega) (by omega) (by omega) (by omega)
    have g3 := pl.2.2.1 (v : Int) 3 (by omega) (by omega) (by omega) (by omega)
    rw [Int.mul_comm, Int.add_zero] at g0
    rw [Int.mul_comm] at g1 g2 g3
    unfold fq
    rw [g0, g1, g2, g3]
  have h5 := c71 (tl := tl) (d := (dn : Int)) (k := kd) (q := X 17) (hx ((i : Int) + 1)) (hx ((i : Int) + 2)) (hx ((i : Int) + 3)) (hx ((i : Int) + 4)) pl.1.2.2.2 hv.2.1.2
  rw [ef] at h5
  have hcl := Ca_fg (l := FR L xs tl T sv dn vn rn kd c F X (tup rn R m V U st dr) Tr W) (l' := [(0, _), (1, _), (102, _), (116, _), (13, _), (14, _), (24, _), (25, _), (26, _), (27, _), (18, _), (19, _), (20, _), (21, _), (22, _), (23, _), (104, _), (107, _), (112, _), (113, _), (114, _), (108, _), (28, _), (29, _), (30, _), (31, _), (109, _), (2, _), (103, _), (99, _), (111, _), (110, _), (17, _), (100, _), (101, _), (3, _), (4, _), (5, _), (6, _), (7, _), (8, _), (9, _), (10, _), (11, _), (12, _), (105, _), (106, _), (115, _), (90, _), (91, _), (92, _), (93, _), (94, _), (95, _), (96, _), (97, _), (98, _), (15, _), (16, _)]) (h5) (And.intro rfl (And.intro rfl (And.intro rfl (And.intro rfl (trivial))))) rfl rfl (wd (LMm (c : Int) (nx : Int) M) h)
  refine ⟨wd (FR L xs tl T sv dn vn rn kd c (fu F 20 0) (xu X 17 (zu (zu (zu (zu (X 17) 0 (xs ((i : Int) + 1))) 1 (xs ((i : Int) + 2))) 2 (xs ((i : Int) + 3))) 3 (xs ((i : Int) + 4)))) (tup rn R m V U st dr) Tr W) (wd (LMm (c : Int) (nx : Int) M) h), ⟨tl, T, sv, dn, vn, rn, kd, c, nx, (fu F 20 0), (xu X 17 (zu (zu (zu (zu (X 17) 0 (xs ((i : Int) + 1))) 1 (xs ((i : Int) + 2))) 2 (xs ((i : Int) + 3))) 3 (xs ((i : Int) + 4)))), (tup rn R m V U st dr), Tr, M, W, h, rfl, ⟨ht, hT, b6, b105, b115, pl, ⟨R, V, U, st, dr, m, rfl, ok⟩, mk, s0, s1⟩, by omega, by omega⟩, fun r w5 w6 w7 hk => ?_⟩
  exact l8 hL hL2 hx (wd_at rfl) hcl (wd_at rfl) (wd_at rfl) (wd_at rfl) (Ca_fg (c149 (hx ((i : Int) + 1)) (hx ((i : Int) + 2)) (hx ((i : Int) + 3)) (hx ((i : Int) + 4)) pl.2.1 pl.2.2.2) (And.intro rfl (And.intro rfl (trivial))) rfl rfl _) (hk _ _ _)
