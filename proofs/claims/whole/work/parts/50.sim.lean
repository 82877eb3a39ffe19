/-! simulate and runScript, both sides. -/
theorem sh33 (x : Int64) : ∃ ρ : Int, (0 ≤ ρ ∧ ρ < 2147483648) ∧ (x.toUInt64 >>> ((ii 33).toInt64.toUInt64 &&& Int64.toUInt64 63)).toInt64 = ll ρ := by
  have hc : ((ii 33).toInt64.toUInt64 &&& Int64.toUInt64 63) = 33 := by decide +kernel
  rw [hc]
  refine ⟨((x.toUInt64 >>> 33).toNat : Int), ?_, ?_⟩
  · rw [UInt64.toNat_shiftRight]
    have h1 : x.toUInt64.toNat < 2 ^ 64 := UInt64.toNat_lt _
    have h2 : (33 : UInt64).toNat % 64 = 33 := by decide +kernel
    rw [h2, Nat.shiftRight_eq_div_pow]
    omega
  · have h := UInt64.toInt64_ofNat' (n := (x.toUInt64 >>> 33).toNat)
    rw [UInt64.ofNat_toNat] at h
    rw [h]
    exact Int64.ofInt_eq_ofNat.symm
section SIM
variable {C P R V U r rt x rs sl mv Q Q2 bg wy Gr : Int → Int} {rf ts tl sp kd rd rk rv rr ac k st dr pu be : Int} {m dn rn vn : Nat} {Tr : pg}
theorem rnd {ρ sd z : Int} {N i : Nat} (hρ : 0 ≤ ρ ∧ ρ < 2147483648) (ok : okq vn R V U st dr r m) (pl : plk dn vn rn C P) : ∃ (m' : Nat) (V' U' r' : Int → Int) (st' dr' : Int), okq vn R V' U' st' dr' r' m' ∧ (∃ (pu' be' : Int) (x' rs' sl' mv' Q' : Int → Int), ∀ h, Ca 105 [.ref 1, .int (ii ρ)] (wd [(1, oPD tl), (13, oP (dn : Int) k (vn : Int)), (14, ar 96 C), (18, oD pu be), (19, ar 4 x), (20, ar 4 rs), (21, lr 4 sl), (22, ar 4 mv), (23, ar 24 Q), (28, oS28 (rn : Int) (m : Int) st dr), (29, ar 20 R), (30, ar 24 V), (31, ar 24 U)] h) (.inl none, wd [(1, oPD tl), (13, oP (dn : Int) k (vn : Int)), (14, ar 96 C), (18, oD pu' be'), (19, ar 4 x'), (20, ar 4 rs'), (21, lr 4 sl'), (22, ar 4 mv'), (23, ar 24 Q'), (28, oS28 (rn : Int) (m' : Int) st' dr'), (29, ar 20 R), (30, ar 24 V'), (31, ar 24 U')] h)) ∧ (∃ Q' bg' wy' : Int → Int, ∀ (h : pd_H) (o : pd_Out × pd_H) (w8 : Value), (∀ w8 : Value, Rn 175 148 [.ref 102, .long (ll sd), pd_dum, .int (ii (N : Int)), .long (ll z), pd_dum, .int (ii (i : Int)), .int (ii ρ), w8] [] (wd [(102, oX6 0 ts sp (dn : Int) kd (vn : Int) (rn : Int) rd rk rv rr ac), (104, ar 128 P), (108, ar 72 r'), (112, ar 24 Q'), (113, lr 4 bg'), (114, lr 4 wy')] h) o) → Rn 175 71 [.ref 102, .long (ll sd), pd_dum, .int (ii (N : Int)), .long (ll z), pd_dum, .int (ii (i : Int)), .int (ii ρ), w8] [] (wd [(102, oX6 0 ts sp (dn : Int) kd (vn : Int) (rn : Int) rd rk rv rr ac), (104, ar 128 P), (108, ar 72 r), (112, ar 24 Q2), (113, lr 4 bg), (114, lr 4 wy)] h) o) := by
  have hv := plk_v pl
  have hs := okq_sok ok hv.2.1.2
  have hp := okq_pgk ok hv.2.1.2
  have hm := okq_m ok hv.2.1.2
  obtain ⟨a, ha⟩ : ∃ a, a = ρ % 4 := ⟨_, rfl⟩
  by_cases e3 : a < 3
  · by_cases hps : a ≠ 1 ∨ 1 < m
    · obtain ⟨t, m1, V1, U1, r1, st1, dr1, ht, okn, ⟨pu1, be1, x1, rs1, sl1, mv1, Q1, a2⟩, ⟨Q3, bg1, wy1, b2⟩⟩ := stp_t (k := k) (pu := pu) (be := be) (x := x) (rs := rs) (sl := sl) (mv := mv) (Q := Q) (Q2 := Q2) (bg := bg) (wy := wy) (rf := 0) (ts := ts) (sp := sp) (kd := kd) (rd := rd) (rk := rk) (rv := rv) (rr := rr) (ac := ac) (how := a) (by omega) ok pl
      refine ⟨m1, V1, U1, r1, st1, dr1, okn, ⟨pu1, be1, x1, rs1, sl1, mv1, Q1, fun h => ?_⟩, ⟨Q3, bg1, wy1, fun h o w8 hk => ?_⟩⟩
      · refine E_in (lv := [_, _, _, _, _, _]) rfl ?_
        refine E_iload pf_105_0 rfl ?_
        refine E_iconst pf_105_1 ?_
        refine E_irem pf_105_2 (by omega) ?_
        refine E_ti (b := a) ha.symm ?_
        refine E_istore (lv' := [_, _, _, _, _, _]) pf_105_3 rfl rfl ?_
        refine E_iload pf_105_4 rfl ?_
        refine F_c1v0 pf_105_5 (c97t (by omega)) (trivial) rfl ?_
        refine E_if_eq_f pf_105_8 (by omega) ?_
        refine E_aload pf_105_11 rfl ?_
        refine F_getf pf_105_12 rfl rfl rfl ?_
        refine E_aload pf_105_15 rfl ?_
        refine F_getf pf_105_16 rfl rfl rfl ?_
        refine E_iload pf_105_19 rfl ?_
        refine F_v3v0 pf_105_20 (c10tt hs (by omega) hps) (And.intro rfl (And.intro rfl (trivial))) rfl rfl ?_
        refine E_if_eq_f pf_105_23 (by omega) ?_
        refine E_aload pf_105_26 rfl ?_
        refine F_getf pf_105_27 rfl rfl rfl ?_
        refine E_aload pf_105_30 rfl ?_
        refine F_getf pf_105_31 rfl rfl rfl ?_
        refine E_iload pf_105_34 rfl ?_
        refine F_v3v (l' := [(_, _), (_, _), (_, _), (_, _), (_, _), (_, _), (_, _), (_, _), (_, _), (_, _), (_, _), (_, _), (_, _)]) pf_105_35 (a2) (And.intro rfl (And.intro rfl (And.intro rfl (And.intro rfl (And.intro rfl (And.intro rfl (And.intro rfl (And.intro rfl (And.intro rfl (And.intro rfl (And.intro rfl (And.intro rfl (trivial))))))))))))) rfl rfl rfl rfl ?_
        refine E_pop pf_105_38 rfl ?_
        exact E_vret pf_105_39 rfl
      ·
        refine E_iload pf_175_71 rfl ?_
        refine E_iconst pf_175_73 ?_
        refine E_irem pf_175_74 (by omega) ?_
        refine E_ti (b := a) ha.symm ?_
        refine E_iconst pf_175_75 ?_
        refine E_icmp_ge_f pf_175_76 (by omega) ?_
        refine E_aload pf_175_79 rfl ?_
        refine E_aload pf_175_80 rfl ?_
        refine F_getf pf_175_81 rfl rfl rfl ?_
        refine E_iload pf_175_84 rfl ?_
        refine E_iconst pf_175_86 ?_
        refine E_irem pf_175_87 (by omega) ?_
        refine E_ti (b := a) ha.symm ?_
        refine F_v3v (l' := [(_, _), (_, _), (_, _), (_, _), (_, _), (_, _)]) pf_175_88 (b2) (And.intro rfl (And.intro rfl (And.intro rfl (And.intro rfl (And.intro rfl (And.intro rfl (trivial))))))) rfl rfl rfl rfl ?_
        refine E_pop pf_175_91 rfl ?_
        refine E_goto pf_175_92 ?_
        exact hk _
    · obtain rfl : a = 1 := by omega
      have hx := c124xt (rf := 0) (ts := ts) (sp := sp) (k := kd) (rd := rd) (rk := rk) (rv := rv) (rr := rr) (ac := ac) (P := P) (Q := Q2) (bg := bg) (wy := wy) (dn := dn) (rn := rn) hp (by omega)
      refine ⟨m, V, U, r, st, dr, ok, ⟨pu, be, x, rs, sl, mv, Q, fun h => ?_⟩, ⟨Q2, bg, wy, fun h o w8 hk => ?_⟩⟩
      · refine E_in (lv := [_, _, _, _, _, _]) rfl ?_
        refine E_iload pf_105_0 rfl ?_
        refine E_iconst pf_105_1 ?_
        refine E_irem pf_105_2 (by omega) ?_
        refine E_ti (b := 1) ha.symm ?_
        refine E_istore (lv' := [_, _, _, _, _, _]) pf_105_3 rfl rfl ?_
        refine E_iload pf_105_4 rfl ?_
        refine F_c1v0 pf_105_5 (c97t (by omega)) (trivial) rfl ?_
        refine E_if_eq_f pf_105_8 (by omega) ?_
        refine E_aload pf_105_11 rfl ?_
        refine F_getf pf_105_12 rfl rfl rfl ?_
        refine E_aload pf_105_15 rfl ?_
        refine F_getf pf_105_16 rfl rfl rfl ?_
        refine E_iload pf_105_19 rfl ?_
        refine F_v3v0 pf_105_20 (c10tf hs (by omega) hps) (And.intro rfl (And.intro rfl (trivial))) rfl rfl ?_
        refine E_if_eq_t pf_105_23 (by omega) ?_
        exact E_vret pf_105_39 rfl
      ·
        refine E_iload pf_175_71 rfl ?_
        refine E_iconst pf_175_73 ?_
        refine E_irem pf_175_74 (by omega) ?_
        refine E_ti (b := 1) ha.symm ?_
        refine E_iconst pf_175_75 ?_
        refine E_icmp_ge_f pf_175_76 (by omega) ?_
        refine E_aload pf_175_79 rfl ?_
        refine E_aload pf_175_80 rfl ?_
        refine F_getf pf_175_81 rfl rfl rfl ?_
        refine E_iload pf_175_84 rfl ?_
        refine E_iconst pf_175_86 ?_
        refine E_irem pf_175_87 (by omega) ?_
        refine E_ti (b := 1) ha.symm ?_
        refine F_v3v0 pf_175_88 (hx) (And.intro rfl (And.intro rfl (And.intro rfl (And.intro rfl (And.intro rfl (And.intro rfl (trivial))))))) rfl rfl ?_
        refine E_pop pf_175_91 rfl ?_
        refine E_goto pf_175_92 ?_
        exact hk _
  · obtain ⟨j, hj⟩ : ∃ j : Nat, ρ / 4 % (m : Int) = (j : Int) := ⟨(ρ / 4 % (m : Int)).toNat, by have := Int.emod_nonneg (ρ / 4) (show (m : Int) ≠ 0 by omega); omega⟩
    have hj2 : (j : Int) < m := by rw [← hj]; exact Int.emod_lt_of_pos _ (by omega)
    obtain ⟨v, hv1⟩ : ∃ v, v = ρ / 4096 % (vn : Int) := ⟨_, rfl⟩
    have hv2 : 0 ≤ v ∧ v < vn := by rw [hv1]; exact ⟨Int.emod_nonneg _ (by omega), Int.emod_lt_of_pos _ (by omega)⟩
    have hU := Mx_at ok.2.2.2.2.1 (i := j) (by omega)
    have hq := (ok.2.2.1 j (by omega)).2
    obtain ⟨u, hu⟩ : ∃ u, u = ρ / 128 % (U j + 1) := ⟨_, rfl⟩
    have hu2 : 0 ≤ u ∧ u < U j + 1 := by rw [hu]; exact ⟨Int.emod_nonneg _ (by omega), Int.emod_lt_of_pos _ (by omega)⟩
    have h68 := ok.2.2.2.1
    obtain ⟨m1, V1, U1, r1, ok1, t1, t2⟩ := trf_t (rn := rn) (i := j) (v := v) (n := u) ok hv.2.1.2 (by omega) hv2 (by omega)
    refine ⟨m1, V1, U1, r1, st, dr, ok1, ⟨pu, be, x, rs, sl, mv, Q, fun h => ?_⟩, ⟨Q2, bg, wy, fun h o w8 hk => ?_⟩⟩
    · refine E_in (lv := [_, _, _, _, _, _]) rfl ?_
      refine E_iload pf_105_0 rfl ?_
      refine E_iconst pf_105_1 ?_
      refine E_irem pf_105_2 (by omega) ?_
      refine E_ti (b := a) ha.symm ?_
      refine E_istore (lv' := [_, _, _, _, _, _]) pf_105_3 rfl rfl ?_
      refine E_iload pf_105_4 rfl ?_
      refine F_c1v0 pf_105_5 (c97f (by omega) (by omega)) (trivial) rfl ?_
      refine E_if_eq_t pf_105_8 (by omega) ?_
      refine E_iload pf_105_40 rfl ?_
      refine E_if_lt_f pf_105_41 (by omega) ?_
      refine E_aload pf_105_44 rfl ?_
      refine F_getf pf_105_45 rfl rfl rfl ?_
      refine F_getf pf_105_48 rfl rfl rfl ?_
      refine E_iconst pf_105_51 ?_
      refine E_icmp_lt_f pf_105_52 (by omega) ?_
      refine E_aload pf_105_55 rfl ?_
      refine F_getf pf_105_56 rfl rfl rfl ?_
      refine F_getf pf_105_59 rfl rfl rfl ?_
      refine E_iconst pf_105_62 ?_
      refine E_icmp_ge_t pf_105_63 (by omega) ?_
      refine E_iload pf_105_67 rfl ?_
      refine E_iconst pf_105_68 ?_
      refine E_idiv pf_105_69 (by omega) ?_
      refine E_aload pf_105_70 rfl ?_
      refine F_getf pf_105_71 rfl rfl rfl ?_
      refine F_getf pf_105_74 rfl rfl rfl ?_
      refine E_irem pf_105_77 (by omega) ?_
      refine E_ti (b := (j : Int)) hj ?_
      refine E_istore (lv' := [_, _, _, _, _, _]) pf_105_78 rfl rfl ?_
      refine E_aload pf_105_79 rfl ?_
      refine F_getf pf_105_80 rfl rfl rfl ?_
      refine F_getf pf_105_83 rfl rfl rfl ?_
      refine E_iload pf_105_86 rfl ?_
      refine F_iald pf_105_87 rfl (by omega) ?_
      refine E_iconst pf_105_88 ?_
      refine E_iadd pf_105_89 ?_
      refine E_istore (lv' := [_, _, _, _, _, _]) pf_105_90 rfl rfl ?_
      refine E_iload pf_105_92 rfl ?_
      refine E_if_le_f pf_105_94 (by omega) ?_
      refine E_iload pf_105_97 rfl ?_
      refine E_iconst pf_105_98 ?_
      refine E_idiv pf_105_101 (by omega) ?_
      refine E_iload pf_105_102 rfl ?_
      refine E_irem pf_105_104 (by omega) ?_
      refine E_ti (b := u) hu.symm ?_
      refine E_goto pf_105_105 ?_
      refine E_istore (lv' := [_, _, _, _, _, _]) pf_105_109 rfl rfl ?_
      refine E_aload pf_105_111 rfl ?_
      refine F_getf pf_105_112 rfl rfl rfl ?_
      refine E_iload pf_105_115 rfl ?_
      refine E_iload pf_105_116 rfl ?_
      refine E_iconst pf_105_117 ?_
      refine E_idiv pf_105_120 (by omega) ?_
      refine E_aload pf_105_121 rfl ?_
      refine F_getf pf_105_122 rfl rfl rfl ?_
      refine F_getf pf_105_125 rfl rfl rfl ?_
      refine E_irem pf_105_128 (by omega) ?_
      refine E_ti (b := v) hv1.symm ?_
      refine E_iload pf_105_129 rfl ?_
      refine F_v4u (l' := [(_, _), (_, _), (_, _), (_, _), (_, _), (_, _), (_, _), (_, _), (_, _), (_, _), (_, _), (_, _), (_, _)]) pf_105_131 (t1) (And.intro rfl (And.intro rfl (And.intro rfl (trivial)))) rfl rfl rfl rfl ?_
      exact E_vret pf_105_134 rfl
    ·
      refine E_iload pf_175_71 rfl ?_
      refine E_iconst pf_175_73 ?_
      refine E_irem pf_175_74 (by omega) ?_
      refine E_ti (b := a) ha.symm ?_
      refine E_iconst pf_175_75 ?_
      refine E_icmp_ge_t pf_175_76 (by omega) ?_
      refine E_iload pf_175_95 rfl ?_
      refine E_iconst pf_175_97 ?_
      refine E_idiv pf_175_98 (by omega) ?_
      refine E_aload pf_175_99 rfl ?_
      refine F_getf pf_175_100 rfl rfl rfl ?_
      refine E_iconst pf_175_103 ?_
      refine F_iald pf_175_105 rfl (by omega) ?_
      rw [h68]
      refine E_irem pf_175_106 (by omega) ?_
      refine E_ti (b := (j : Int)) hj ?_
      refine E_istore (lv' := [_, _, _, _, _, _, _, _, _]) pf_175_107 rfl rfl ?_
      refine E_aload pf_175_109 rfl ?_
      refine F_getf pf_175_110 rfl rfl rfl ?_
      refine E_iload pf_175_113 rfl ?_
      refine E_iload pf_175_115 rfl ?_
      refine E_iconst pf_175_117 ?_
      refine E_idiv pf_175_120 (by omega) ?_
      refine E_aload pf_175_121 rfl ?_
      refine F_getf pf_175_122 rfl rfl rfl ?_
      refine E_irem pf_175_125 (by omega) ?_
      refine E_ti (b := v) hv1.symm ?_
      refine E_iload pf_175_126 rfl ?_
      refine E_iconst pf_175_128 ?_
      refine E_idiv pf_175_131 (by omega) ?_
      refine E_aload pf_175_132 rfl ?_
      refine F_getf pf_175_133 rfl rfl rfl ?_
      refine E_iconst pf_175_136 ?_
      refine E_iload pf_175_138 rfl ?_
      refine E_iadd pf_175_140 ?_
      refine F_iald pf_175_141 rfl (by omega) ?_
      rw [← hq]
      refine E_iconst pf_175_142 ?_
      refine E_iadd pf_175_143 ?_
      refine E_irem pf_175_144 (by omega) ?_
      refine E_ti (b := u) hu.symm ?_
      refine F_c4u (l' := [(_, _), (_, _), (_, _), (_, _), (_, _), (_, _)]) pf_175_145 (t2) (And.intro rfl (trivial)) rfl rfl rfl ?_
      exact hk _
theorem sim_loop {sd : Int} {N : Nat} (hN : N ≤ 50) (pl : plk dn vn rn C P) : ∀ (j i m : Nat) (z : Int) (V U r : Int → Int) (st dr pu be : Int) (x rs sl mv Q Q2 bg wy : Int → Int), i + j = N → okq vn R V U st dr r m → ∃ v : Int, (-9223372036854775808 ≤ v ∧ v ≤ 9223372036854775807) ∧ (∃ (pu' be' : Int) (x' rs' sl' mv' Q' : Int → Int) (m' : Nat) (V' U' : Int → Int) (st' dr' : Int), ∀ h, Rn 92 36 [.ref 1, .long (ll sd), pd_dum, .int (ii (N : Int)), .long (ll z), pd_dum, .int (ii (i : Int))] [] (wd [(1, oPD tl), (13, oP (dn : Int) k (vn : Int)), (14, ar 96 C), (18, oD pu be), (19, ar 4 x), (20, ar 4 rs), (21, lr 4 sl), (22, ar 4 mv), (23, ar 24 Q), (28, oS28 (rn : Int) (m : Int) st dr), (29, ar 20 R), (30, ar 24 V), (31, ar 24 U)] h) (.inl (some (.long (ll v))), wd [(1, oPD tl), (13, oP (dn : Int) k (vn : Int)), (14, ar 96 C), (18, oD pu' be'), (19, ar 4 x'), (20, ar 4 rs'), (21, lr 4 sl'), (22, ar 4 mv'), (23, ar 24 Q'), (28, oS28 (rn : Int) (m' : Int) st' dr'), (29, ar 20 R), (30, ar 24 V'), (31, ar 24 U')] h)) ∧ (∃ r' Q' bg' wy' : Int → Int, ∀ (h : pd_H) (w7 w8 : Value), Rn 175 45 [.ref 102, .long (ll sd), pd_dum, .int (ii (N : Int)), .long (ll z), pd_dum, .int (ii (i : Int)), w7, w8] [] (wd [(102, oX6 0 ts sp (dn : Int) kd (vn : Int) (rn : Int) rd rk rv rr ac), (104, ar 128 P), (108, ar 72 r), (112, ar 24 Q2), (113, lr 4 bg), (114, lr 4 wy)] h) (.inl (some (.long (ll v))), wd [(102, oX6 0 ts sp (dn : Int) kd (vn : Int) (rn : Int) rd rk rv rr ac), (104, ar 128 P), (108, ar 72 r'), (112, ar 24 Q'), (113, lr 4 bg'), (114, lr 4 wy')] h)) := by
  intro j
  induction j with
  | zero =>
    intro i m z V U r st dr pu be x rs sl mv Q Q2 bg wy hi ok
    have hv := plk_v pl
    have hs := okq_sok ok hv.2.1.2
    have hp := okq_pgk ok hv.2.1.2
    have hc := okq_cpl ok pl
    have hG := zGap_in hp pl.2.1
    have e7 := c7t (d := (dn : Int)) (k := k) (pu := pu) (be := be) (x := x) (rs := rs) (sl := sl) (st := st) (dr := dr) hs pl.1
    rw [cpl_Gap hc hs pl.1] at e7
    have e120 := c120t (rf := 0) (ts := ts) (sp := sp) (k := kd) (rd := rd) (rk := rk) (rv := rv) (rr := rr) (ac := ac) hp pl.2.1
    refine ⟨zGap r P m dn rn vn, by omega, ⟨pu, be, zfill x (yX V U C m) 4, zfill rs (eR R V U C m) rn, zfill sl (eS R V U C m rn) 4, mv, Q, m, V, U, st, dr, fun h => ?_⟩, ⟨r, Q2, bg, wy, fun h w7 w8 => ?_⟩⟩
    ·
      refine E_iload pf_92_36 rfl ?_
      refine E_iload pf_92_38 rfl ?_
      refine E_icmp_ge_t pf_92_39 (by omega) ?_
      refine E_aload pf_92_70 rfl ?_
      refine F_getf pf_92_71 rfl rfl rfl ?_
      refine E_aload pf_92_74 rfl ?_
      refine F_getf pf_92_75 rfl rfl rfl ?_
      refine F_v2v (l' := [(_, _), (_, _), (_, _), (_, _), (_, _), (_, _), (_, _), (_, _), (_, _), (_, _), (_, _), (_, _), (_, _)]) pf_92_78 (e7) (And.intro rfl (And.intro rfl (And.intro rfl (And.intro rfl (And.intro rfl (And.intro rfl (And.intro rfl (And.intro rfl (And.intro rfl (And.intro rfl (trivial))))))))))) rfl rfl rfl rfl ?_
      exact E_lret pf_92_81 rfl
    ·
      refine E_iload pf_175_45 rfl ?_
      refine E_iload pf_175_47 rfl ?_
      refine E_icmp_ge_t pf_175_48 (by omega) ?_
      refine E_aload pf_175_154 rfl ?_
      refine E_aload pf_175_155 rfl ?_
      refine F_getf pf_175_156 rfl rfl rfl ?_
      refine F_v2v0 pf_175_159 (e120) (And.intro rfl (And.intro rfl (And.intro rfl (trivial)))) rfl rfl ?_
      exact E_lret pf_175_162 rfl
  | succ j ih =>
    intro i m z V U r st dr pu be x rs sl mv Q Q2 bg wy hi ok
    obtain ⟨ρ, hρ, eρ⟩ := sh33 (ll (z * 6364136223846793005 + 1442695040888963407))
    obtain ⟨m1, V1, U1, r1, st1, dr1, okn, ⟨pu1, be1, x1, rs1, sl1, mv1, Q1, a2⟩, ⟨Q3, bg1, wy1, b2⟩⟩ := rnd (tl := tl) (k := k) (pu := pu) (be := be) (x := x) (rs := rs) (sl := sl) (mv := mv) (Q := Q) (Q2 := Q2) (bg := bg) (wy := wy) (ts := ts) (sp := sp) (kd := kd) (rd := rd) (rk := rk) (rv := rv) (rr := rr) (ac := ac) (ρ := ρ) (sd := sd) (z := z * 6364136223846793005 + 1442695040888963407) (N := N) (i := i) hρ ok pl
    obtain ⟨v, d1, ⟨pu2, be2, x2, rs2, sl2, mv2, Q4, m2, V2, U2, st2, dr2, d2⟩, ⟨r2, Q5, bg2, wy2, d3⟩⟩ := ih (i + 1) m1 (z * 6364136223846793005 + 1442695040888963407) V1 U1 r1 st1 dr1 pu1 be1 x1 rs1 sl1 mv1 Q1 Q3 bg1 wy1 (by omega) okn
    refine ⟨v, d1, ⟨pu2, be2, x2, rs2, sl2, mv2, Q4, m2, V2, U2, st2, dr2, fun h => ?_⟩, ⟨r2, Q5, bg2, wy2, fun h w7 w8 => ?_⟩⟩
    ·
      refine E_iload pf_92_36 rfl ?_
      refine E_iload pf_92_38 rfl ?_
      refine E_icmp_ge_f pf_92_39 (by omega) ?_
      refine E_lload pf_92_42 rfl ?_
      refine E_lconst pf_92_44 ?_
      refine E_lmul pf_92_47 ?_
      refine E_lconst pf_92_48 ?_
      refine E_ladd pf_92_51 ?_
      refine E_lstore (lv' := [_, _, _, _, _, _, _]) pf_92_52 rfl rfl ?_
      refine E_aload pf_92_54 rfl ?_
      refine E_lload pf_92_55 rfl ?_
      refine E_iconst pf_92_57 ?_
      refine E_lushr pf_92_59 ?_
      refine E_top (congrArg Value.long eρ) ?_
      refine E_l2i pf_92_60 ?_
      refine F_v2u (l' := [(_, _), (_, _), (_, _), (_, _), (_, _), (_, _), (_, _), (_, _), (_, _), (_, _), (_, _), (_, _), (_, _)]) pf_92_61 (a2) (And.intro rfl (And.intro rfl (And.intro rfl (And.intro rfl (And.intro rfl (And.intro rfl (And.intro rfl (And.intro rfl (And.intro rfl (And.intro rfl (And.intro rfl (And.intro rfl (And.intro rfl (trivial)))))))))))))) rfl rfl rfl rfl ?_
      refine E_iinc (lv' := [_, _, _, _, _, _, _]) pf_92_64 rfl rfl ?_
      refine E_goto pf_92_67 ?_
      exact d2 h
    ·
      refine E_iload pf_175_45 rfl ?_
      refine E_iload pf_175_47 rfl ?_
      refine E_icmp_ge_f pf_175_48 (by omega) ?_
      refine E_lload pf_175_51 rfl ?_
      refine E_lconst pf_175_53 ?_
      refine E_lmul pf_175_56 ?_
      refine E_lconst pf_175_57 ?_
      refine E_ladd pf_175_60 ?_
      refine E_lstore (lv' := [_, _, _, _, _, _, _, _, _]) pf_175_61 rfl rfl ?_
      refine E_lload pf_175_63 rfl ?_
      refine E_iconst pf_175_65 ?_
      refine E_lushr pf_175_67 ?_
      refine E_top (congrArg Value.long eρ) ?_
      refine E_l2i pf_175_68 ?_
      refine E_istore (lv' := [_, _, _, _, _, _, _, _, _]) pf_175_69 rfl rfl ?_
      refine b2 h _ _ fun w8 => ?_
      refine E_iinc (lv' := [_, _, _, _, _, _, _, _, _]) pf_175_148 rfl rfl ?_
      refine E_goto pf_175_151 ?_
      exact d3 h _ _
theorem sim {sd n : Int} (hn : 1 ≤ n ∧ n ≤ 50) (ok : okq vn R V U st dr r m) (pl : plk dn vn rn C P) : ∃ v : Int, (-9223372036854775808 ≤ v ∧ v ≤ 9223372036854775807) ∧ (∃ (pu' be' : Int) (x' rs' sl' mv' Q' : Int → Int) (Tr' : pg), ∀ h, Ca 92 [.ref 1, .long (ll sd), .int (ii n)] (wd [(1, oPD tl), (13, oP (dn : Int) k (vn : Int)), (14, ar 96 C), (18, oD pu be), (19, ar 4 x), (20, ar 4 rs), (21, lr 4 sl), (22, ar 4 mv), (23, ar 24 Q), (24, oS24 (rn : Int) (m : Int) st dr), (25, ar 20 R), (26, ar 24 V), (27, ar 24 U), (28, pst 28 Tr), (29, ar 20 Tr.2.1), (30, ar 24 Tr.2.2.2.1), (31, ar 24 Tr.2.2.2.2.1)] h) (.inl (some (.long (ll v))), wd [(1, oPD tl), (13, oP (dn : Int) k (vn : Int)), (14, ar 96 C), (18, oD pu' be'), (19, ar 4 x'), (20, ar 4 rs'), (21, lr 4 sl'), (22, ar 4 mv'), (23, ar 24 Q'), (24, oS24 (rn : Int) (m : Int) st dr), (25, ar 20 R), (26, ar 24 V), (27, ar 24 U), (28, pst 28 Tr'), (29, ar 20 Tr'.2.1), (30, ar 24 Tr'.2.2.2.1), (31, ar 24 Tr'.2.2.2.2.1)] h)) ∧ (∃ rt' Q' bg' wy' : Int → Int, ∀ h, Ca 175 [.ref 102, .long (ll sd), .int (ii n)] (wd [(102, oX6 rf ts sp (dn : Int) kd (vn : Int) (rn : Int) rd rk rv rr ac), (104, ar 128 P), (107, ar 72 r), (108, ar 72 rt), (112, ar 24 Q2), (113, lr 4 bg), (114, lr 4 wy)] h) (.inl (some (.long (ll v))), wd [(102, oX6 0 ts sp (dn : Int) kd (vn : Int) (rn : Int) rd rk rv rr ac), (104, ar 128 P), (107, ar 72 r), (108, ar 72 rt'), (112, ar 24 Q'), (113, lr 4 bg'), (114, lr 4 wy')] h)) := by
  have hv := plk_v pl
  have hs := okq_sok ok hv.2.1.2
  have hp := okq_pgk ok hv.2.1.2
  have ok1 : okq vn (zcpy R Tr.2.1 0 0 20) (zcpy V Tr.2.2.2.1 0 0 24) (zcpy U Tr.2.2.2.2.1 0 0 24) st dr (zcpy r rt 0 0 72) m := okq_cp ok hv.2.1.2 fun y h1 h2 => by rw [zcpy_at (by omega)]; congr 1; omega
  obtain ⟨N, rfl⟩ : ∃ N : Nat, n = (N : Int) := ⟨n.toNat, by omega⟩
  obtain ⟨v, d1, ⟨pu2, be2, x2, rs2, sl2, mv2, Q4, m2, V2, U2, st2, dr2, d2⟩, ⟨r2, Q5, bg2, wy2, d3⟩⟩ := sim_loop (tl := tl) (sd := sd) (k := k) (ts := ts) (sp := sp) (kd := kd) (rd := rd) (rk := rk) (rv := rv) (rr := rr) (ac := ac) (N := N) (by omega) pl N 0 m sd _ _ _ st dr pu be x rs sl mv Q Q2 bg wy (by omega) ok1
  refine ⟨v, d1, ⟨pu2, be2, x2, rs2, sl2, mv2, Q4, ((rn : Int), (zcpy R Tr.2.1 0 0 20), (m2 : Int), V2, U2, st2, dr2), fun h => ?_⟩, ⟨r2, Q5, bg2, wy2, fun h => ?_⟩⟩
  · refine E_in (lv := [_, _, _, _, _, _, _]) rfl ?_
    refine E_iload pf_92_0 rfl ?_
    refine E_iconst pf_92_1 ?_
    refine E_icmp_lt_f pf_92_2 (by omega) ?_
    refine E_iload pf_92_5 rfl ?_
    refine E_iconst pf_92_6 ?_
    refine E_icmp_gt_f pf_92_8 (by omega) ?_
    refine E_iconst pf_92_11 ?_
    refine E_goto pf_92_12 ?_
    refine F_c1u0 pf_92_16 (c96) (trivial) rfl ?_
    refine E_aload pf_92_19 rfl ?_
    refine F_getf pf_92_20 rfl rfl rfl ?_
    refine E_aload pf_92_23 rfl ?_
    refine F_getf pf_92_24 rfl rfl rfl ?_
    refine F_v2u (l' := [(_, _), (_, _), (_, _), (_, _), (_, _), (_, _), (_, _), (_, _), (_, _), (_, _), (_, _), (_, _), (_, _), (_, _), (_, _), (_, _), (_, _)]) pf_92_27 (c52_28_24 (p := ((rn : Int), R, (m : Int), V, U, st, dr)) (p0 := Tr)) (And.intro rfl (And.intro rfl (And.intro rfl (And.intro rfl (And.intro rfl (And.intro rfl (And.intro rfl (And.intro rfl (trivial))))))))) rfl rfl rfl rfl ?_
    refine E_lload pf_92_30 rfl ?_
    refine E_lstore (lv' := [_, _, _, _, _, _, _]) pf_92_31 rfl rfl ?_
    refine E_iconst pf_92_33 ?_
    refine E_istore (lv' := [_, _, _, _, _, _, _]) pf_92_34 rfl rfl ?_
    exact Rn_fr d2 (And.intro rfl (And.intro rfl (And.intro rfl (And.intro rfl (And.intro rfl (And.intro rfl (And.intro rfl (And.intro rfl (And.intro rfl (And.intro rfl (And.intro rfl (And.intro rfl (And.intro rfl (trivial)))))))))))))) rfl rfl h
  · refine E_in (lv := [_, _, _, _, _, _, _, _, _]) rfl ?_
    refine E_aload pf_175_0 rfl ?_
    refine E_iload pf_175_1 rfl ?_
    refine E_i2l pf_175_2 (by omega) ?_
    refine E_lconst pf_175_3 ?_
    refine E_lconst pf_175_4 ?_
    refine F_c3v0 pf_175_7 (c109t (by omega) (by omega)) (trivial) rfl ?_
    refine E_if_eq_f pf_175_10 (by omega) ?_
    refine E_iconst pf_175_13 ?_
    refine E_goto pf_175_14 ?_
    refine F_v2v (l' := [(_, _), (_, _), (_, _), (_, _), (_, _), (_, _), (_, _)]) pf_175_18 (c108_0) (And.intro rfl (trivial)) rfl rfl rfl rfl ?_
    refine E_if_eq_t pf_175_21 (by omega) ?_
    refine E_aload pf_175_26 rfl ?_
    refine F_getf pf_175_27 rfl rfl rfl ?_
    refine E_iconst pf_175_30 ?_
    refine E_aload pf_175_31 rfl ?_
    refine F_getf pf_175_32 rfl rfl rfl ?_
    refine E_iconst pf_175_35 ?_
    refine F_c4u (l' := [(_, _), (_, _), (_, _), (_, _), (_, _), (_, _), (_, _)]) pf_175_36 (c110nt (by omega) (by omega)) (And.intro rfl (And.intro rfl (trivial))) rfl rfl rfl ?_
    refine E_lload pf_175_39 rfl ?_
    refine E_lstore (lv' := [_, _, _, _, _, _, _, _, _]) pf_175_40 rfl rfl ?_
    refine E_iconst pf_175_42 ?_
    refine E_istore (lv' := [_, _, _, _, _, _, _, _, _]) pf_175_43 rfl rfl ?_
    exact Rn_fr (fun h => d3 h _ _) (And.intro rfl (And.intro rfl (And.intro rfl (And.intro rfl (And.intro rfl (And.intro rfl (trivial))))))) rfl rfl h
theorem c92x {sd n : Int} (h1 : (-2147483648 ≤ n ∧ n ≤ 2147483647)) (h3 : ¬ (1 ≤ n ∧ n ≤ 50)) : ∀ h, Ca 92 [.ref 1, .long (ll sd), .int (ii n)] (wd [(1, oPD tl)] h) (.inr 0, pd_thr (wd [(1, oPD tl)] h)) := by
  intro h
  refine E_in (lv := [_, _, _, _, _, _, _]) rfl ?_
  by_cases e : n < 1
  ·
    refine E_iload pf_92_0 rfl ?_
    refine E_iconst pf_92_1 ?_
    refine E_icmp_lt_t pf_92_2 (by omega) ?_
    refine E_iconst pf_92_15 ?_
    exact E_c1x pf_92_16 rfl (c96x _) rfl
  ·
    refine E_iload pf_92_0 rfl ?_
    refine E_iconst pf_92_1 ?_
    refine E_icmp_lt_f pf_92_2 (by omega) ?_
    refine E_iload pf_92_5 rfl ?_
    refine E_iconst pf_92_6 ?_
    refine E_icmp_gt_t pf_92_8 (by omega) ?_
    refine E_iconst pf_92_15 ?_
    exact E_c1x pf_92_16 rfl (c96x _) rfl
theorem c175x {sd n : Int} (h1 : (-2147483648 ≤ n ∧ n ≤ 2147483647)) (h3 : ¬ (1 ≤ n ∧ n ≤ 50)) : ∀ h, Ca 175 [.ref 102, .long (ll sd), .int (ii n)] (wd [(102, oX6 rf ts sp (dn : Int) kd (vn : Int) (rn : Int) rd rk rv rr ac)] h) (.inl (some (.long (ll 0))), wd [(102, oX6 1 ts sp (dn : Int) kd (vn : Int) (rn : Int) rd rk rv rr ac)] h) := by
  intro h
  refine E_in (lv := [_, _, _, _, _, _, _, _, _]) rfl ?_
  refine E_aload pf_175_0 rfl ?_
  refine E_iload pf_175_1 rfl ?_
  refine E_i2l pf_175_2 (by omega) ?_
  refine E_lconst pf_175_3 ?_
  refine E_lconst pf_175_4 ?_
  refine F_c3v0 pf_175_7 (c109f (by omega) (by omega)) (trivial) rfl ?_
  refine E_if_eq_t pf_175_10 (by omega) ?_
  refine E_iconst pf_175_17 ?_
  refine F_v2v (l' := [(_, _)]) pf_175_18 (c108_1) (And.intro rfl (trivial)) rfl rfl rfl rfl ?_
  refine E_if_eq_f pf_175_21 (by omega) ?_
  refine E_lconst pf_175_24 ?_
  exact E_lret pf_175_25 rfl
theorem c173 {e : Nat} (he : e ≤ 100) : ∀ h, Ca 173 [.int (ii (e : Int))] (wd [] h) (.inl (some (.long (ll ((10 ^ e : Nat) : Int)))), wd [] h) := by
  intro h
  have loop : ∀ (n j : Nat), j + n = e → Rn 173 4 [.int (ii (e : Int)), .long (ll ((10 ^ j : Nat) : Int)), pd_dum, .int (ii (j : Int))] [] (wd [] h) (.inl (some (.long (ll ((10 ^ e : Nat) : Int)))), wd [] h) := by
    intro n
    induction n with
    | zero =>
      intro j hj
      obtain rfl : e = j := by omega
      refine E_iload pf_173_4 rfl ?_
      refine E_iload pf_173_5 rfl ?_
      refine E_icmp_ge_t pf_173_6 (by omega) ?_
      refine E_lload pf_173_21 rfl ?_
      exact E_lret pf_173_22 rfl
    | succ n ih =>
      intro j hj
      have ih := ih (j + 1) (by omega)
      rw [Nat.pow_succ, Int.natCast_mul] at ih
      refine E_iload pf_173_4 rfl ?_
      refine E_iload pf_173_5 rfl ?_
      refine E_icmp_ge_f pf_173_6 (by omega) ?_
      refine E_lload pf_173_9 rfl ?_
      refine E_lconst pf_173_10 ?_
      refine E_lmul pf_173_13 ?_
      refine E_lstore (lv' := [_, _, _, _]) pf_173_14 rfl rfl ?_
      refine E_iinc (lv' := [_, _, _, _]) pf_173_15 rfl rfl ?_
      refine E_goto pf_173_18 ?_
      exact ih
  refine E_in (lv := [_, _, _, _]) rfl ?_
  refine E_lconst pf_173_0 ?_
  refine E_lstore (lv' := [_, _, _, _]) pf_173_1 rfl rfl ?_
  refine E_iconst pf_173_2 ?_
  refine E_istore (lv' := [_, _, _, _]) pf_173_3 rfl rfl ?_
  exact loop e 0 (by omega)
theorem p10_in {e : Nat} (he : e ≤ 16) : 1 ≤ 10 ^ e ∧ 10 ^ e ≤ 10000000000000000 := by
  have h : ∀ e : Fin 17, 1 ≤ 10 ^ e.val ∧ 10 ^ e.val ≤ 10000000000000000 := by decide
  exact h ⟨e, by omega⟩
theorem scr_loop {s s2 : Int} {N : Nat} (hs0 : 0 ≤ s ∧ s ≤ 9223372036854775807) (hN : 1 ≤ N ∧ N ≤ 4) (hg : ∀ i : Nat, i < N → Gr i = s / ((10 ^ (4 * (N - 1 - i)) : Nat) : Int) % 10000) (pl : plk dn vn rn C P) : ∀ (j i m : Nat) (V U r : Int → Int) (st dr pu be : Int) (x rs sl mv Q Q2 bg wy : Int → Int), i + j = N → okq vn R V U st dr r m → ∃ v : Int, (-9 ≤ v ∧ v ≤ 4) ∧ (∃ (pu' be' : Int) (x' rs' sl' mv' Q' : Int → Int) (m' : Nat) (V' U' : Int → Int) (st' dr' : Int), ∀ h, Rn 91 94 [.ref 1, .int (ii (N : Int)), .long (ll s), pd_dum, .long (ll s2), pd_dum, .int (ii (i : Int))] [] (wd [(1, oPD tl), (13, oP (dn : Int) k (vn : Int)), (14, ar 96 C), (18, oD pu be), (19, ar 4 x), (20, ar 4 rs), (21, lr 4 sl), (22, ar 4 mv), (23, ar 24 Q), (28, oS28 (rn : Int) (m : Int) st dr), (29, ar 20 R), (30, ar 24 V), (31, ar 24 U), (101, ar 4 Gr)] h) (.inl (some (.int (ii v))), wd [(1, oPD tl), (13, oP (dn : Int) k (vn : Int)), (14, ar 96 C), (18, oD pu' be'), (19, ar 4 x'), (20, ar 4 rs'), (21, lr 4 sl'), (22, ar 4 mv'), (23, ar 24 Q'), (28, oS28 (rn : Int) (m' : Int) st' dr'), (29, ar 20 R), (30, ar 24 V'), (31, ar 24 U'), (101, ar 4 Gr)] h)) ∧ (∃ r' Q' bg' wy' : Int → Int, ∀ (h : pd_H) (w5 : Value), Rn 174 58 [.ref 102, .int (ii (N : Int)), .long (ll s), pd_dum, .int (ii (i : Int)), w5] [] (wd [(102, oX6 0 ts sp (dn : Int) kd (vn : Int) (rn : Int) rd rk rv rr ac), (104, ar 128 P), (108, ar 72 r), (112, ar 24 Q2), (113, lr 4 bg), (114, lr 4 wy)] h) (.inl (some (.int (ii v))), wd [(102, oX6 0 ts sp (dn : Int) kd (vn : Int) (rn : Int) rd rk rv rr ac), (104, ar 128 P), (108, ar 72 r'), (112, ar 24 Q'), (113, lr 4 bg'), (114, lr 4 wy')] h)) := by
  intro j
  induction j with
  | zero =>
    intro i m V U r st dr pu be x rs sl mv Q Q2 bg wy hi ok
    refine ⟨-9, by omega, ⟨pu, be, x, rs, sl, mv, Q, m, V, U, st, dr, fun h => ?_⟩, ⟨r, Q2, bg, wy, fun h w5 => ?_⟩⟩
    ·
      refine E_iload pf_91_94 rfl ?_
      refine E_iload pf_91_96 rfl ?_
      refine E_icmp_ge_t pf_91_97 (by omega) ?_
      refine E_iconst pf_91_123 ?_
      exact E_iret pf_91_125 rfl
    ·
      refine E_iload pf_174_58 rfl ?_
      refine E_iload pf_174_60 rfl ?_
      refine E_icmp_ge_t pf_174_61 (by omega) ?_
      refine E_iconst pf_174_119 ?_
      exact E_iret pf_174_121 rfl
  | succ j ih =>
    intro i m V U r st dr pu be x rs sl mv Q Q2 bg wy hi ok
    have hg := hg i (by omega)
    have hD := p10_in (e := 4 * (N - 1 - i)) (by omega)
    have e4 : 4 * ((N : Int) - 1 - (i : Int)) = ((4 * (N - 1 - i) : Nat) : Int) := by omega
    have h173 := c173 (e := 4 * (N - 1 - i)) (by omega)
    revert hg hD h173
    generalize 10 ^ (4 * (N - 1 - i)) = D
    intro hg hD h173
    have hq : 0 ≤ s / (D : Int) ∧ s / (D : Int) ≤ 9223372036854775807 := ⟨Int.ediv_nonneg hs0.1 (by omega), Int.le_trans (Int.ediv_le_self _ hs0.1) hs0.2⟩
    obtain ⟨g, hgg⟩ : ∃ g, g = s / (D : Int) % 10000 := ⟨_, rfl⟩
    have hg9 : 0 ≤ g ∧ g ≤ 9999 := by omega
    rw [← hgg] at hg
    obtain ⟨b, m1, V1, U1, r1, st1, dr1, hb, okn, ⟨pu1, be1, x1, rs1, sl1, mv1, Q1, a2⟩, ⟨Q3, bg1, wy1, b2⟩⟩ := oby (tl := tl) (k := k) (pu := pu) (be := be) (x := x) (rs := rs) (sl := sl) (mv := mv) (Q := Q) (Q2 := Q2) (bg := bg) (wy := wy) (rf := 0) (ts := ts) (sp := sp) (kd := kd) (rd := rd) (rk := rk) (rv := rv) (rr := rr) (ac := ac) (g := g) (a2 := g / 100 % 10) (a3 := g % 100) hg9 rfl rfl ok pl
    rcases hb with q0 | q0 <;> subst q0
    · refine ⟨(i : Int), by omega, ⟨pu1, be1, x1, rs1, sl1, mv1, Q1, m1, V1, U1, st1, dr1, fun h => ?_⟩, ⟨r1, Q3, bg1, wy1, fun h w5 => ?_⟩⟩
      ·
        refine E_iload pf_91_94 rfl ?_
        refine E_iload pf_91_96 rfl ?_
        refine E_icmp_ge_f pf_91_97 (by omega) ?_
        refine E_aload pf_91_100 rfl ?_
        refine E_aload pf_91_101 rfl ?_
        refine F_getf pf_91_102 rfl rfl rfl ?_
        refine E_iload pf_91_105 rfl ?_
        refine F_iald pf_91_107 rfl (by omega) ?_
        rw [hg]
        refine F_v2v (l' := [(_, _), (_, _), (_, _), (_, _), (_, _), (_, _), (_, _), (_, _), (_, _), (_, _), (_, _), (_, _), (_, _), (_, _)]) pf_91_108 (a2) (And.intro rfl (And.intro rfl (And.intro rfl (And.intro rfl (And.intro rfl (And.intro rfl (And.intro rfl (And.intro rfl (And.intro rfl (And.intro rfl (And.intro rfl (And.intro rfl (And.intro rfl (trivial)))))))))))))) rfl rfl rfl rfl ?_
        refine E_if_ne_f pf_91_111 (by omega) ?_
        refine E_iload pf_91_114 rfl ?_
        exact E_iret pf_91_116 rfl
      ·
        refine E_iload pf_174_58 rfl ?_
        refine E_iload pf_174_60 rfl ?_
        refine E_icmp_ge_f pf_174_61 (by omega) ?_
        refine E_lload pf_174_64 rfl ?_
        refine E_iconst pf_174_65 ?_
        refine E_iload pf_174_66 rfl ?_
        refine E_iconst pf_174_67 ?_
        refine E_isub pf_174_68 ?_
        refine E_iload pf_174_69 rfl ?_
        refine E_isub pf_174_71 ?_
        refine E_imul pf_174_72 ?_
        refine E_ti e4 ?_
        refine F_c1v0 pf_174_73 (h173) (trivial) rfl ?_
        refine E_ldiv pf_174_76 (by omega) ?_
        refine E_lconst pf_174_77 ?_
        refine E_lrem pf_174_80 (by omega) ?_
        refine E_tl (b := g) hgg.symm ?_
        refine E_l2i pf_174_81 ?_
        refine E_istore (lv' := [_, _, _, _, _, _]) pf_174_82 rfl rfl ?_
        refine E_aload pf_174_84 rfl ?_
        refine E_iload pf_174_85 rfl ?_
        refine E_iconst pf_174_87 ?_
        refine E_idiv pf_174_90 (by omega) ?_
        refine E_iload pf_174_91 rfl ?_
        refine E_iconst pf_174_93 ?_
        refine E_idiv pf_174_95 (by omega) ?_
        refine E_iconst pf_174_96 ?_
        refine E_irem pf_174_98 (by omega) ?_
        refine E_iload pf_174_99 rfl ?_
        refine E_iconst pf_174_101 ?_
        refine E_irem pf_174_103 (by omega) ?_
        refine F_v4v (l' := [(_, _), (_, _), (_, _), (_, _), (_, _), (_, _)]) pf_174_104 (b2) (And.intro rfl (And.intro rfl (And.intro rfl (And.intro rfl (And.intro rfl (And.intro rfl (trivial))))))) rfl rfl rfl rfl ?_
        refine E_if_ne_f pf_174_107 (by omega) ?_
        refine E_iload pf_174_110 rfl ?_
        exact E_iret pf_174_112 rfl
    · obtain ⟨v, d1, ⟨pu2, be2, x2, rs2, sl2, mv2, Q4, m2, V2, U2, st2, dr2, d2⟩, ⟨r2, Q5, bg2, wy2, d3⟩⟩ := ih (i + 1) m1 V1 U1 r1 st1 dr1 pu1 be1 x1 rs1 sl1 mv1 Q1 Q3 bg1 wy1 (by omega) okn
      refine ⟨v, d1, ⟨pu2, be2, x2, rs2, sl2, mv2, Q4, m2, V2, U2, st2, dr2, fun h => ?_⟩, ⟨r2, Q5, bg2, wy2, fun h w5 => ?_⟩⟩
      ·
        refine E_iload pf_91_94 rfl ?_
        refine E_iload pf_91_96 rfl ?_
        refine E_icmp_ge_f pf_91_97 (by omega) ?_
        refine E_aload pf_91_100 rfl ?_
        refine E_aload pf_91_101 rfl ?_
        refine F_getf pf_91_102 rfl rfl rfl ?_
        refine E_iload pf_91_105 rfl ?_
        refine F_iald pf_91_107 rfl (by omega) ?_
        rw [hg]
        refine F_v2v (l' := [(_, _), (_, _), (_, _), (_, _), (_, _), (_, _), (_, _), (_, _), (_, _), (_, _), (_, _), (_, _), (_, _), (_, _)]) pf_91_108 (a2) (And.intro rfl (And.intro rfl (And.intro rfl (And.intro rfl (And.intro rfl (And.intro rfl (And.intro rfl (And.intro rfl (And.intro rfl (And.intro rfl (And.intro rfl (And.intro rfl (And.intro rfl (trivial)))))))))))))) rfl rfl rfl rfl ?_
        refine E_if_ne_t pf_91_111 (by omega) ?_
        refine E_iinc (lv' := [_, _, _, _, _, _, _]) pf_91_117 rfl rfl ?_
        refine E_goto pf_91_120 ?_
        exact d2 h
      ·
        refine E_iload pf_174_58 rfl ?_
        refine E_iload pf_174_60 rfl ?_
        refine E_icmp_ge_f pf_174_61 (by omega) ?_
        refine E_lload pf_174_64 rfl ?_
        refine E_iconst pf_174_65 ?_
        refine E_iload pf_174_66 rfl ?_
        refine E_iconst pf_174_67 ?_
        refine E_isub pf_174_68 ?_
        refine E_iload pf_174_69 rfl ?_
        refine E_isub pf_174_71 ?_
        refine E_imul pf_174_72 ?_
        refine E_ti e4 ?_
        refine F_c1v0 pf_174_73 (h173) (trivial) rfl ?_
        refine E_ldiv pf_174_76 (by omega) ?_
        refine E_lconst pf_174_77 ?_
        refine E_lrem pf_174_80 (by omega) ?_
        refine E_tl (b := g) hgg.symm ?_
        refine E_l2i pf_174_81 ?_
        refine E_istore (lv' := [_, _, _, _, _, _]) pf_174_82 rfl rfl ?_
        refine E_aload pf_174_84 rfl ?_
        refine E_iload pf_174_85 rfl ?_
        refine E_iconst pf_174_87 ?_
        refine E_idiv pf_174_90 (by omega) ?_
        refine E_iload pf_174_91 rfl ?_
        refine E_iconst pf_174_93 ?_
        refine E_idiv pf_174_95 (by omega) ?_
        refine E_iconst pf_174_96 ?_
        refine E_irem pf_174_98 (by omega) ?_
        refine E_iload pf_174_99 rfl ?_
        refine E_iconst pf_174_101 ?_
        refine E_irem pf_174_103 (by omega) ?_
        refine F_v4v (l' := [(_, _), (_, _), (_, _), (_, _), (_, _), (_, _)]) pf_174_104 (b2) (And.intro rfl (And.intro rfl (And.intro rfl (And.intro rfl (And.intro rfl (And.intro rfl (trivial))))))) rfl rfl rfl rfl ?_
        refine E_if_ne_t pf_174_107 (by omega) ?_
        refine E_iinc (lv' := [_, _, _, _, _, _]) pf_174_113 rfl rfl ?_
        refine E_goto pf_174_116 ?_
        exact d3 h _
theorem scr1 {s : Int} (hs0 : 0 ≤ s ∧ s ≤ 9999) (ok : okq vn R V U st dr r m) (pl : plk dn vn rn C P) : ∃ v : Int, (-9 ≤ v ∧ v ≤ 4) ∧ (∃ Gr' : Int → Int, ∃ (pu' be' : Int) (x' rs' sl' mv' Q' : Int → Int) (Tr' : pg), ∀ h, Ca 91 [.ref 1, .int (ii 1), .long (ll s)] (wd [(1, oPD tl), (13, oP (dn : Int) k (vn : Int)), (14, ar 96 C), (18, oD pu be), (19, ar 4 x), (20, ar 4 rs), (21, lr 4 sl), (22, ar 4 mv), (23, ar 24 Q), (24, oS24 (rn : Int) (m : Int) st dr), (25, ar 20 R), (26, ar 24 V), (27, ar 24 U), (28, pst 28 Tr), (29, ar 20 Tr.2.1), (30, ar 24 Tr.2.2.2.1), (31, ar 24 Tr.2.2.2.2.1), (101, ar 4 Gr)] h) (.inl (some (.int (ii v))), wd [(1, oPD tl), (13, oP (dn : Int) k (vn : Int)), (14, ar 96 C), (18, oD pu' be'), (19, ar 4 x'), (20, ar 4 rs'), (21, lr 4 sl'), (22, ar 4 mv'), (23, ar 24 Q'), (24, oS24 (rn : Int) (m : Int) st dr), (25, ar 20 R), (26, ar 24 V), (27, ar 24 U), (28, pst 28 Tr'), (29, ar 20 Tr'.2.1), (30, ar 24 Tr'.2.2.2.1), (31, ar 24 Tr'.2.2.2.2.1), (101, ar 4 Gr')] h)) ∧ (∃ rt' Q' bg' wy' : Int → Int, ∀ h, Ca 174 [.ref 102, .int (ii 1), .long (ll s)] (wd [(102, oX6 rf ts sp (dn : Int) kd (vn : Int) (rn : Int) rd rk rv rr ac), (104, ar 128 P), (107, ar 72 r), (108, ar 72 rt), (112, ar 24 Q2), (113, lr 4 bg), (114, lr 4 wy)] h) (.inl (some (.int (ii v))), wd [(102, oX6 0 ts sp (dn : Int) kd (vn : Int) (rn : Int) rd rk rv rr ac), (104, ar 128 P), (107, ar 72 r), (108, ar 72 rt'), (112, ar 24 Q'), (113, lr 4 bg'), (114, lr 4 wy')] h)) := by
  have hv := plk_v pl
  have hs := okq_sok ok hv.2.1.2
  have hp := okq_pgk ok hv.2.1.2
  have ok1 : okq vn (zcpy R Tr.2.1 0 0 20) (zcpy V Tr.2.2.2.1 0 0 24) (zcpy U Tr.2.2.2.2.1 0 0 24) st dr (zcpy r rt 0 0 72) m := okq_cp ok hv.2.1.2 fun y h1 h2 => by rw [zcpy_at (by omega)]; congr 1; omega
  have hg : ∀ i : Nat, i < 1 → (zu Gr (1 - 1) (s % 10000)) (i : Int) = s / ((10 ^ (4 * (1 - 1 - i)) : Nat) : Int) % 10000 := fun i hi => by
    have h4 : i = 0 := by omega
    subst h4
    · show s % 10000 = s / 1 % 10000
      omega
  have hL : (s / 10000) = 0 := by omega
  obtain ⟨v, d1, ⟨pu2, be2, x2, rs2, sl2, mv2, Q4, m2, V2, U2, st2, dr2, d2⟩, ⟨r2, Q5, bg2, wy2, d3⟩⟩ := scr_loop (tl := tl) (Gr := (zu Gr (1 - 1) (s % 10000))) (s := s) (s2 := (s / 10000)) (k := k) (ts := ts) (sp := sp) (kd := kd) (rd := rd) (rk := rk) (rv := rv) (rr := rr) (ac := ac) (N := 1) (by omega) (by omega) hg pl 1 0 m _ _ _ st dr pu be x rs sl mv Q Q2 bg wy (by omega) ok1
  have h173 : ∀ h, Ca 173 [.int (ii 4)] (wd [] h) (.inl (some (.long (ll 10000))), wd [] h) := c173 (e := 4) (by omega)
  refine ⟨v, d1, ⟨(zu Gr (1 - 1) (s % 10000)), pu2, be2, x2, rs2, sl2, mv2, Q4, ((rn : Int), (zcpy R Tr.2.1 0 0 20), (m2 : Int), V2, U2, st2, dr2), fun h => ?_⟩, ⟨r2, Q5, bg2, wy2, fun h => ?_⟩⟩
  · refine E_in (lv := [_, _, _, _, _, _, _]) rfl ?_
    refine E_iload pf_91_0 rfl ?_
    refine E_iconst pf_91_1 ?_
    refine E_icmp_lt_f pf_91_2 (by omega) ?_
    refine E_iload pf_91_5 rfl ?_
    refine E_iconst pf_91_6 ?_
    refine E_icmp_gt_f pf_91_7 (by omega) ?_
    refine E_lload pf_91_10 rfl ?_
    refine E_lconst pf_91_11 ?_
    refine E_lcmp_lt_f pf_91_12 pf_91_13 (by omega) ?_
    refine E_iconst pf_91_16 ?_
    refine E_goto pf_91_17 ?_
    refine F_c1u0 pf_91_21 (c96) (trivial) rfl ?_
    refine E_lload pf_91_24 rfl ?_
    refine E_lstore (lv' := [_, _, _, _, _, _, _]) pf_91_25 rfl rfl ?_
    refine E_iload pf_91_27 rfl ?_
    refine E_iconst pf_91_28 ?_
    refine E_isub pf_91_29 ?_
    refine E_istore (lv' := [_, _, _, _, _, _, _]) pf_91_30 rfl rfl ?_
    refine E_iload pf_91_32 rfl ?_
    refine E_if_lt_f pf_91_34 (by omega) ?_
    refine E_aload pf_91_37 rfl ?_
    refine F_getf pf_91_38 rfl rfl rfl ?_
    refine E_iload pf_91_41 rfl ?_
    refine E_lload pf_91_43 rfl ?_
    refine E_lconst pf_91_45 ?_
    refine E_lrem pf_91_48 (by omega) ?_
    refine E_l2i pf_91_49 ?_
    refine F_iast (l' := [(_, _), (_, _), (_, _), (_, _), (_, _), (_, _), (_, _), (_, _), (_, _), (_, _), (_, _), (_, _), (_, _), (_, _), (_, _), (_, _), (_, _), (_, _)]) pf_91_50 rfl (by omega) rfl ?_
    refine E_lload pf_91_51 rfl ?_
    refine E_lconst pf_91_53 ?_
    refine E_ldiv pf_91_56 (by omega) ?_
    refine E_lstore (lv' := [_, _, _, _, _, _, _]) pf_91_57 rfl rfl ?_
    refine E_iinc (lv' := [_, _, _, _, _, _, _]) pf_91_59 rfl rfl ?_
    refine E_goto pf_91_62 ?_
    refine E_iload pf_91_32 rfl ?_
    refine E_if_lt_t pf_91_34 (by omega) ?_
    refine E_lload pf_91_65 rfl ?_
    refine E_lconst pf_91_67 ?_
    refine E_lcmp_ne_f pf_91_68 pf_91_69 (by omega) ?_
    refine E_iconst pf_91_72 ?_
    refine E_goto pf_91_73 ?_
    refine F_c1u0 pf_91_77 (c96) (trivial) rfl ?_
    refine E_aload pf_91_80 rfl ?_
    refine F_getf pf_91_81 rfl rfl rfl ?_
    refine E_aload pf_91_84 rfl ?_
    refine F_getf pf_91_85 rfl rfl rfl ?_
    refine F_v2u (l' := [(_, _), (_, _), (_, _), (_, _), (_, _), (_, _), (_, _), (_, _), (_, _), (_, _), (_, _), (_, _), (_, _), (_, _), (_, _), (_, _), (_, _), (_, _)]) pf_91_88 (c52_28_24 (p := ((rn : Int), R, (m : Int), V, U, st, dr)) (p0 := Tr)) (And.intro rfl (And.intro rfl (And.intro rfl (And.intro rfl (And.intro rfl (And.intro rfl (And.intro rfl (And.intro rfl (trivial))))))))) rfl rfl rfl rfl ?_
    refine E_iconst pf_91_91 ?_
    refine E_istore (lv' := [_, _, _, _, _, _, _]) pf_91_92 rfl rfl ?_
    exact Rn_fr d2 (And.intro rfl (And.intro rfl (And.intro rfl (And.intro rfl (And.intro rfl (And.intro rfl (And.intro rfl (And.intro rfl (And.intro rfl (And.intro rfl (And.intro rfl (And.intro rfl (And.intro rfl (And.intro rfl (trivial))))))))))))))) rfl rfl h
  · refine E_in (lv := [_, _, _, _, _, _]) rfl ?_
    refine E_aload pf_174_0 rfl ?_
    refine E_iload pf_174_1 rfl ?_
    refine E_i2l pf_174_2 (by omega) ?_
    refine E_lconst pf_174_3 ?_
    refine E_lconst pf_174_4 ?_
    refine F_c3v0 pf_174_7 (c109t (by omega) (by omega)) (trivial) rfl ?_
    refine E_if_eq_f pf_174_10 (by omega) ?_
    refine E_lload pf_174_13 rfl ?_
    refine E_lconst pf_174_14 ?_
    refine E_iconst pf_174_15 ?_
    refine E_iload pf_174_16 rfl ?_
    refine E_imul pf_174_17 ?_
    refine E_ti (b := 4) (by omega) ?_
    refine F_c1v0 pf_174_18 (h173) (trivial) rfl ?_
    refine E_lconst pf_174_21 ?_
    refine E_lsub pf_174_22 ?_
    refine F_c3v0 pf_174_23 (c109t (by omega) (by omega)) (trivial) rfl ?_
    refine E_if_eq_f pf_174_26 (by omega) ?_
    refine E_iconst pf_174_29 ?_
    refine E_goto pf_174_30 ?_
    refine F_v2v (l' := [(_, _), (_, _), (_, _), (_, _), (_, _), (_, _), (_, _)]) pf_174_34 (c108_0) (And.intro rfl (trivial)) rfl rfl rfl rfl ?_
    refine E_if_eq_t pf_174_37 (by omega) ?_
    refine E_aload pf_174_42 rfl ?_
    refine F_getf pf_174_43 rfl rfl rfl ?_
    refine E_iconst pf_174_46 ?_
    refine E_aload pf_174_47 rfl ?_
    refine F_getf pf_174_48 rfl rfl rfl ?_
    refine E_iconst pf_174_51 ?_
    refine F_c4u (l' := [(_, _), (_, _), (_, _), (_, _), (_, _), (_, _), (_, _)]) pf_174_52 (c110nt (by omega) (by omega)) (And.intro rfl (And.intro rfl (trivial))) rfl rfl rfl ?_
    refine E_iconst pf_174_55 ?_
    refine E_istore (lv' := [_, _, _, _, _, _]) pf_174_56 rfl rfl ?_
    exact Rn_fr (fun h => d3 h _) (And.intro rfl (And.intro rfl (And.intro rfl (And.intro rfl (And.intro rfl (And.intro rfl (trivial))))))) rfl rfl h
theorem scr2 {s : Int} (hs0 : 0 ≤ s ∧ s ≤ 99999999) (ok : okq vn R V U st dr r m) (pl : plk dn vn rn C P) : ∃ v : Int, (-9 ≤ v ∧ v ≤ 4) ∧ (∃ Gr' : Int → Int, ∃ (pu' be' : Int) (x' rs' sl' mv' Q' : Int → Int) (Tr' : pg), ∀ h, Ca 91 [.ref 1, .int (ii 2), .long (ll s)] (wd [(1, oPD tl), (13, oP (dn : Int) k (vn : Int)), (14, ar 96 C), (18, oD pu be), (19, ar 4 x), (20, ar 4 rs), (21, lr 4 sl), (22, ar 4 mv), (23, ar 24 Q), (24, oS24 (rn : Int) (m : Int) st dr), (25, ar 20 R), (26, ar 24 V), (27, ar 24 U), (28, pst 28 Tr), (29, ar 20 Tr.2.1), (30, ar 24 Tr.2.2.2.1), (31, ar 24 Tr.2.2.2.2.1), (101, ar 4 Gr)] h) (.inl (some (.int (ii v))), wd [(1, oPD tl), (13, oP (dn : Int) k (vn : Int)), (14, ar 96 C), (18, oD pu' be'), (19, ar 4 x'), (20, ar 4 rs'), (21, lr 4 sl'), (22, ar 4 mv'), (23, ar 24 Q'), (24, oS24 (rn : Int) (m : Int) st dr), (25, ar 20 R), (26, ar 24 V), (27, ar 24 U), (28, pst 28 Tr'), (29, ar 20 Tr'.2.1), (30, ar 24 Tr'.2.2.2.1), (31, ar 24 Tr'.2.2.2.2.1), (101, ar 4 Gr')] h)) ∧ (∃ rt' Q' bg' wy' : Int → Int, ∀ h, Ca 174 [.ref 102, .int (ii 2), .long (ll s)] (wd [(102, oX6 rf ts sp (dn : Int) kd (vn : Int) (rn : Int) rd rk rv rr ac), (104, ar 128 P), (107, ar 72 r), (108, ar 72 rt), (112, ar 24 Q2), (113, lr 4 bg), (114, lr 4 wy)] h) (.inl (some (.int (ii v))), wd [(102, oX6 0 ts sp (dn : Int) kd (vn : Int) (rn : Int) rd rk rv rr ac), (104, ar 128 P), (107, ar 72 r), (108, ar 72 rt'), (112, ar 24 Q'), (113, lr 4 bg'), (114, lr 4 wy')] h)) := by
  have hv := plk_v pl
  have hs := okq_sok ok hv.2.1.2
  have hp := okq_pgk ok hv.2.1.2
  have ok1 : okq vn (zcpy R Tr.2.1 0 0 20) (zcpy V Tr.2.2.2.1 0 0 24) (zcpy U Tr.2.2.2.2.1 0 0 24) st dr (zcpy r rt 0 0 72) m := okq_cp ok hv.2.1.2 fun y h1 h2 => by rw [zcpy_at (by omega)]; congr 1; omega
  have hg : ∀ i : Nat, i < 2 → (zu (zu Gr (2 - 1) (s % 10000)) (2 - 1 + -1) ((s / 10000) % 10000)) (i : Int) = s / ((10 ^ (4 * (2 - 1 - i)) : Nat) : Int) % 10000 := fun i hi => by
    have h4 : i = 0 ∨ i = 1 := by omega
    rcases h4 with q | q <;> subst q
    · show s / 10000 % 10000 = s / 10000 % 10000
      omega
    · show s % 10000 = s / 1 % 10000
      omega
  have hL : ((s / 10000) / 10000) = 0 := by omega
  obtain ⟨v, d1, ⟨pu2, be2, x2, rs2, sl2, mv2, Q4, m2, V2, U2, st2, dr2, d2⟩, ⟨r2, Q5, bg2, wy2, d3⟩⟩ := scr_loop (tl := tl) (Gr := (zu (zu Gr (2 - 1) (s % 10000)) (2 - 1 + -1) ((s / 10000) % 10000))) (s := s) (s2 := ((s / 10000) / 10000)) (k := k) (ts := ts) (sp := sp) (kd := kd) (rd := rd) (rk := rk) (rv := rv) (rr := rr) (ac := ac) (N := 2) (by omega) (by omega) hg pl 2 0 m _ _ _ st dr pu be x rs sl mv Q Q2 bg wy (by omega) ok1
  have h173 : ∀ h, Ca 173 [.int (ii 8)] (wd [] h) (.inl (some (.long (ll 100000000))), wd [] h) := c173 (e := 8) (by omega)
  refine ⟨v, d1, ⟨(zu (zu Gr (2 - 1) (s % 10000)) (2 - 1 + -1) ((s / 10000) % 10000)), pu2, be2, x2, rs2, sl2, mv2, Q4, ((rn : Int), (zcpy R Tr.2.1 0 0 20), (m2 : Int), V2, U2, st2, dr2), fun h => ?_⟩, ⟨r2, Q5, bg2, wy2, fun h => ?_⟩⟩
  · refine E_in (lv := [_, _, _, _, _, _, _]) rfl ?_
    refine E_iload pf_91_0 rfl ?_
    refine E_iconst pf_91_1 ?_
    refine E_icmp_lt_f pf_91_2 (by omega) ?_
    refine E_iload pf_91_5 rfl ?_
    refine E_iconst pf_91_6 ?_
    refine E_icmp_gt_f pf_91_7 (by omega) ?_
    refine E_lload pf_91_10 rfl ?_
    refine E_lconst pf_91_11 ?_
    refine E_lcmp_lt_f pf_91_12 pf_91_13 (by omega) ?_
    refine E_iconst pf_91_16 ?_
    refine E_goto pf_91_17 ?_
    refine F_c1u0 pf_91_21 (c96) (trivial) rfl ?_
    refine E_lload pf_91_24 rfl ?_
    refine E_lstore (lv' := [_, _, _, _, _, _, _]) pf_91_25 rfl rfl ?_
    refine E_iload pf_91_27 rfl ?_
    refine E_iconst pf_91_28 ?_
    refine E_isub pf_91_29 ?_
    refine E_istore (lv' := [_, _, _, _, _, _, _]) pf_91_30 rfl rfl ?_
    refine E_iload pf_91_32 rfl ?_
    refine E_if_lt_f pf_91_34 (by omega) ?_
    refine E_aload pf_91_37 rfl ?_
    refine F_getf pf_91_38 rfl rfl rfl ?_
    refine E_iload pf_91_41 rfl ?_
    refine E_lload pf_91_43 rfl ?_
    refine E_lconst pf_91_45 ?_
    refine E_lrem pf_91_48 (by omega) ?_
    refine E_l2i pf_91_49 ?_
    refine F_iast (l' := [(_, _), (_, _), (_, _), (_, _), (_, _), (_, _), (_, _), (_, _), (_, _), (_, _), (_, _), (_, _), (_, _), (_, _), (_, _), (_, _), (_, _), (_, _)]) pf_91_50 rfl (by omega) rfl ?_
    refine E_lload pf_91_51 rfl ?_
    refine E_lconst pf_91_53 ?_
    refine E_ldiv pf_91_56 (by omega) ?_
    refine E_lstore (lv' := [_, _, _, _, _, _, _]) pf_91_57 rfl rfl ?_
    refine E_iinc (lv' := [_, _, _, _, _, _, _]) pf_91_59 rfl rfl ?_
    refine E_goto pf_91_62 ?_
    refine E_iload pf_91_32 rfl ?_
    refine E_if_lt_f pf_91_34 (by omega) ?_
    refine E_aload pf_91_37 rfl ?_
    refine F_getf pf_91_38 rfl rfl rfl ?_
    refine E_iload pf_91_41 rfl ?_
    refine E_lload pf_91_43 rfl ?_
    refine E_lconst pf_91_45 ?_
    refine E_lrem pf_91_48 (by omega) ?_
    refine E_l2i pf_91_49 ?_
    refine F_iast (l' := [(_, _), (_, _), (_, _), (_, _), (_, _), (_, _), (_, _), (_, _), (_, _), (_, _), (_, _), (_, _), (_, _), (_, _), (_, _), (_, _), (_, _), (_, _)]) pf_91_50 rfl (by omega) rfl ?_
    refine E_lload pf_91_51 rfl ?_
    refine E_lconst pf_91_53 ?_
    refine E_ldiv pf_91_56 (by omega) ?_
    refine E_lstore (lv' := [_, _, _, _, _, _, _]) pf_91_57 rfl rfl ?_
    refine E_iinc (lv' := [_, _, _, _, _, _, _]) pf_91_59 rfl rfl ?_
    refine E_goto pf_91_62 ?_
    refine E_iload pf_91_32 rfl ?_
    refine E_if_lt_t pf_91_34 (by omega) ?_
    refine E_lload pf_91_65 rfl ?_
    refine E_lconst pf_91_67 ?_
    refine E_lcmp_ne_f pf_91_68 pf_91_69 (by omega) ?_
    refine E_iconst pf_91_72 ?_
    refine E_goto pf_91_73 ?_
    refine F_c1u0 pf_91_77 (c96) (trivial) rfl ?_
    refine E_aload pf_91_80 rfl ?_
    refine F_getf pf_91_81 rfl rfl rfl ?_
    refine E_aload pf_91_84 rfl ?_
    refine F_getf pf_91_85 rfl rfl rfl ?_
    refine F_v2u (l' := [(_, _), (_, _), (_, _), (_, _), (_, _), (_, _), (_, _), (_, _), (_, _), (_, _), (_, _), (_, _), (_, _), (_, _), (_, _), (_, _), (_, _), (_, _)]) pf_91_88 (c52_28_24 (p := ((rn : Int), R, (m : Int), V, U, st, dr)) (p0 := Tr)) (And.intro rfl (And.intro rfl (And.intro rfl (And.intro rfl (And.intro rfl (And.intro rfl (And.intro rfl (And.intro rfl (trivial))))))))) rfl rfl rfl rfl ?_
    refine E_iconst pf_91_91 ?_
    refine E_istore (lv' := [_, _, _, _, _, _, _]) pf_91_92 rfl rfl ?_
    exact Rn_fr d2 (And.intro rfl (And.intro rfl (And.intro rfl (And.intro rfl (And.intro rfl (And.intro rfl (And.intro rfl (And.intro rfl (And.intro rfl (And.intro rfl (And.intro rfl (And.intro rfl (And.intro rfl (And.intro rfl (trivial))))))))))))))) rfl rfl h
  · refine E_in (lv := [_, _, _, _, _, _]) rfl ?_
    refine E_aload pf_174_0 rfl ?_
    refine E_iload pf_174_1 rfl ?_
    refine E_i2l pf_174_2 (by omega) ?_
    refine E_lconst pf_174_3 ?_
    refine E_lconst pf_174_4 ?_
    refine F_c3v0 pf_174_7 (c109t (by omega) (by omega)) (trivial) rfl ?_
    refine E_if_eq_f pf_174_10 (by omega) ?_
    refine E_lload pf_174_13 rfl ?_
    refine E_lconst pf_174_14 ?_
    refine E_iconst pf_174_15 ?_
    refine E_iload pf_174_16 rfl ?_
    refine E_imul pf_174_17 ?_
    refine E_ti (b := 8) (by omega) ?_
    refine F_c1v0 pf_174_18 (h173) (trivial) rfl ?_
    refine E_lconst pf_174_21 ?_
    refine E_lsub pf_174_22 ?_
    refine F_c3v0 pf_174_23 (c109t (by omega) (by omega)) (trivial) rfl ?_
    refine E_if_eq_f pf_174_26 (by omega) ?_
    refine E_iconst pf_174_29 ?_
    refine E_goto pf_174_30 ?_
    refine F_v2v (l' := [(_, _), (_, _), (_, _), (_, _), (_, _), (_, _), (_, _)]) pf_174_34 (c108_0) (And.intro rfl (trivial)) rfl rfl rfl rfl ?_
    refine E_if_eq_t pf_174_37 (by omega) ?_
    refine E_aload pf_174_42 rfl ?_
    refine F_getf pf_174_43 rfl rfl rfl ?_
    refine E_iconst pf_174_46 ?_
    refine E_aload pf_174_47 rfl ?_
    refine F_getf pf_174_48 rfl rfl rfl ?_
    refine E_iconst pf_174_51 ?_
    refine F_c4u (l' := [(_, _), (_, _), (_, _), (_, _), (_, _), (_, _), (_, _)]) pf_174_52 (c110nt (by omega) (by omega)) (And.intro rfl (And.intro rfl (trivial))) rfl rfl rfl ?_
    refine E_iconst pf_174_55 ?_
    refine E_istore (lv' := [_, _, _, _, _, _]) pf_174_56 rfl rfl ?_
    exact Rn_fr (fun h => d3 h _) (And.intro rfl (And.intro rfl (And.intro rfl (And.intro rfl (And.intro rfl (And.intro rfl (trivial))))))) rfl rfl h
theorem scr3 {s : Int} (hs0 : 0 ≤ s ∧ s ≤ 999999999999) (ok : okq vn R V U st dr r m) (pl : plk dn vn rn C P) : ∃ v : Int, (-9 ≤ v ∧ v ≤ 4) ∧ (∃ Gr' : Int → Int, ∃ (pu' be' : Int) (x' rs' sl' mv' Q' : Int → Int) (Tr' : pg), ∀ h, Ca 91 [.ref 1, .int (ii 3), .long (ll s)] (wd [(1, oPD tl), (13, oP (dn : Int) k (vn : Int)), (14, ar 96 C), (18, oD pu be), (19, ar 4 x), (20, ar 4 rs), (21, lr 4 sl), (22, ar 4 mv), (23, ar 24 Q), (24, oS24 (rn : Int) (m : Int) st dr), (25, ar 20 R), (26, ar 24 V), (27, ar 24 U), (28, pst 28 Tr), (29, ar 20 Tr.2.1), (30, ar 24 Tr.2.2.2.1), (31, ar 24 Tr.2.2.2.2.1), (101, ar 4 Gr)] h) (.inl (some (.int (ii v))), wd [(1, oPD tl), (13, oP (dn : Int) k (vn : Int)), (14, ar 96 C), (18, oD pu' be'), (19, ar 4 x'), (20, ar 4 rs'), (21, lr 4 sl'), (22, ar 4 mv'), (23, ar 24 Q'), (24, oS24 (rn : Int) (m : Int) st dr), (25, ar 20 R), (26, ar 24 V), (27, ar 24 U), (28, pst 28 Tr'), (29, ar 20 Tr'.2.1), (30, ar 24 Tr'.2.2.2.1), (31, ar 24 Tr'.2.2.2.2.1), (101, ar 4 Gr')] h)) ∧ (∃ rt' Q' bg' wy' : Int → Int, ∀ h, Ca 174 [.ref 102, .int (ii 3), .long (ll s)] (wd [(102, oX6 rf ts sp (dn : Int) kd (vn : Int) (rn : Int) rd rk rv rr ac), (104, ar 128 P), (107, ar 72 r), (108, ar 72 rt), (112, ar 24 Q2), (113, lr 4 bg), (114, lr 4 wy)] h) (.inl (some (.int (ii v))), wd [(102, oX6 0 ts sp (dn : Int) kd (vn : Int) (rn : Int) rd rk rv rr ac), (104, ar 128 P), (107, ar 72 r), (108, ar 72 rt'), (112, ar 24 Q'), (113, lr 4 bg'), (114, lr 4 wy')] h)) := by
  have hv := plk_v pl
  have hs := okq_sok ok hv.2.1.2
  have hp := okq_pgk ok hv.2.1.2
  have ok1 : okq vn (zcpy R Tr.2.1 0 0 20) (zcpy V Tr.2.2.2.1 0 0 24) (zcpy U Tr.2.2.2.2.1 0 0 24) st dr (zcpy r rt 0 0 72) m := okq_cp ok hv.2.1.2 fun y h1 h2 => by rw [zcpy_at (by omega)]; congr 1; omega
  have hg : ∀ i : Nat, i < 3 → (zu (zu (zu Gr (3 - 1) (s % 10000)) (3 - 1 + -1) ((s / 10000) % 10000)) (3 - 1 + -1 + -1) (((s / 10000) / 10000) % 10000)) (i : Int) = s / ((10 ^ (4 * (3 - 1 - i)) : Nat) : Int) % 10000 := fun i hi => by
    have h4 : i = 0 ∨ i = 1 ∨ i = 2 := by omega
    rcases h4 with q | q | q <;> subst q
    · show s / 10000 / 10000 % 10000 = s / 100000000 % 10000
      omega
    · show s / 10000 % 10000 = s / 10000 % 10000
      omega
    · show s % 10000 = s / 1 % 10000
      omega
  have hL : (((s / 10000) / 10000) / 10000) = 0 := by omega
  obtain ⟨v, d1, ⟨pu2, be2, x2, rs2, sl2, mv2, Q4, m2, V2, U2, st2, dr2, d2⟩, ⟨r2, Q5, bg2, wy2, d3⟩⟩ := scr_loop (tl := tl) (Gr := (zu (zu (zu Gr (3 - 1) (s % 10000)) (3 - 1 + -1) ((s / 10000) % 10000)) (3 - 1 + -1 + -1) (((s / 10000) / 10000) % 10000))) (s := s) (s2 := (((s / 10000) / 10000) / 10000)) (k := k) (ts := ts) (sp := sp) (kd := kd) (rd := rd) (rk := rk) (rv := rv) (rr := rr) (ac := ac) (N := 3) (by omega) (by omega) hg pl 3 0 m _ _ _ st dr pu be x rs sl mv Q Q2 bg wy (by omega) ok1
  have h173 : ∀ h, Ca 173 [.int (ii 12)] (wd [] h) (.inl (some (.long (ll 1000000000000))), wd [] h) := c173 (e := 12) (by omega)
  refine ⟨v, d1, ⟨(zu (zu (zu Gr (3 - 1) (s % 10000)) (3 - 1 + -1) ((s / 10000) % 10000)) (3 - 1 + -1 + -1) (((s / 10000) / 10000) % 10000)), pu2, be2, x2, rs2, sl2, mv2, Q4, ((rn : Int), (zcpy R Tr.2.1 0 0 20), (m2 : Int), V2, U2, st2, dr2), fun h => ?_⟩, ⟨r2, Q5, bg2, wy2, fun h => ?_⟩⟩
  · refine E_in (lv := [_, _, _, _, _, _, _]) rfl ?_
    refine E_iload pf_91_0 rfl ?_
    refine E_iconst pf_91_1 ?_
    refine E_icmp_lt_f pf_91_2 (by omega) ?_
    refine E_iload pf_91_5 rfl ?_
    refine E_iconst pf_91_6 ?_
    refine E_icmp_gt_f pf_91_7 (by omega) ?_
    refine E_lload pf_91_10 rfl ?_
    refine E_lconst pf_91_11 ?_
    refine E_lcmp_lt_f pf_91_12 pf_91_13 (by omega) ?_
    refine E_iconst pf_91_16 ?_
    refine E_goto pf_91_17 ?_
    refine F_c1u0 pf_91_21 (c96) (trivial) rfl ?_
    refine E_lload pf_91_24 rfl ?_
    refine E_lstore (lv' := [_, _, _, _, _, _, _]) pf_91_25 rfl rfl ?_
    refine E_iload pf_91_27 rfl ?_
    refine E_iconst pf_91_28 ?_
    refine E_isub pf_91_29 ?_
    refine E_istore (lv' := [_, _, _, _, _, _, _]) pf_91_30 rfl rfl ?_
    refine E_iload pf_91_32 rfl ?_
    refine E_if_lt_f pf_91_34 (by omega) ?_
    refine E_aload pf_91_37 rfl ?_
    refine F_getf pf_91_38 rfl rfl rfl ?_
    refine E_iload pf_91_41 rfl ?_
    refine E_lload pf_91_43 rfl ?_
    refine E_lconst pf_91_45 ?_
    refine E_lrem pf_91_48 (by omega) ?_
    refine E_l2i pf_91_49 ?_
    refine F_iast (l' := [(_, _), (_, _), (_, _), (_, _), (_, _), (_, _), (_, _), (_, _), (_, _), (_, _), (_, _), (_, _), (_, _), (_, _), (_, _), (_, _), (_, _), (_, _)]) pf_91_50 rfl (by omega) rfl ?_
    refine E_lload pf_91_51 rfl ?_
    refine E_lconst pf_91_53 ?_
    refine E_ldiv pf_91_56 (by omega) ?_
    refine E_lstore (lv' := [_, _, _, _, _, _, _]) pf_91_57 rfl rfl ?_
    refine E_iinc (lv' := [_, _, _, _, _, _, _]) pf_91_59 rfl rfl ?_
    refine E_goto pf_91_62 ?_
    refine E_iload pf_91_32 rfl ?_
    refine E_if_lt_f pf_91_34 (by omega) ?_
    refine E_aload pf_91_37 rfl ?_
    refine F_getf pf_91_38 rfl rfl rfl ?_
    refine E_iload pf_91_41 rfl ?_
    refine E_lload pf_91_43 rfl ?_
    refine E_lconst pf_91_45 ?_
    refine E_lrem pf_91_48 (by omega) ?_
    refine E_l2i pf_91_49 ?_
    refine F_iast (l' := [(_, _), (_, _), (_, _), (_, _), (_, _), (_, _), (_, _), (_, _), (_, _), (_, _), (_, _), (_, _), (_, _), (_, _), (_, _), (_, _), (_, _), (_, _)]) pf_91_50 rfl (by omega) rfl ?_
    refine E_lload pf_91_51 rfl ?_
    refine E_lconst pf_91_53 ?_
    refine E_ldiv pf_91_56 (by omega) ?_
    refine E_lstore (lv' := [_, _, _, _, _, _, _]) pf_91_57 rfl rfl ?_
    refine E_iinc (lv' := [_, _, _, _, _, _, _]) pf_91_59 rfl rfl ?_
    refine E_goto pf_91_62 ?_
    refine E_iload pf_91_32 rfl ?_
    refine E_if_lt_f pf_91_34 (by omega) ?_
    refine E_aload pf_91_37 rfl ?_
    refine F_getf pf_91_38 rfl rfl rfl ?_
    refine E_iload pf_91_41 rfl ?_
    refine E_lload pf_91_43 rfl ?_
    refine E_lconst pf_91_45 ?_
    refine E_lrem pf_91_48 (by omega) ?_
    refine E_l2i pf_91_49 ?_
    refine F_iast (l' := [(_, _), (_, _), (_, _), (_, _), (_, _), (_, _), (_, _), (_, _), (_, _), (_, _), (_, _), (_, _), (_, _), (_, _), (_, _), (_, _), (_, _), (_, _)]) pf_91_50 rfl (by omega) rfl ?_
    refine E_lload pf_91_51 rfl ?_
    refine E_lconst pf_91_53 ?_
    refine E_ldiv pf_91_56 (by omega) ?_
    refine E_lstore (lv' := [_, _, _, _, _, _, _]) pf_91_57 rfl rfl ?_
    refine E_iinc (lv' := [_, _, _, _, _, _, _]) pf_91_59 rfl rfl ?_
    refine E_goto pf_91_62 ?_
    refine E_iload pf_91_32 rfl ?_
    refine E_if_lt_t pf_91_34 (by omega) ?_
    refine E_lload pf_91_65 rfl ?_
    refine E_lconst pf_91_67 ?_
    refine E_lcmp_ne_f pf_91_68 pf_91_69 (by omega) ?_
    refine E_iconst pf_91_72 ?_
    refine E_goto pf_91_73 ?_
    refine F_c1u0 pf_91_77 (c96) (trivial) rfl ?_
    refine E_aload pf_91_80 rfl ?_
    refine F_getf pf_91_81 rfl rfl rfl ?_
    refine E_aload pf_91_84 rfl ?_
    refine F_getf pf_91_85 rfl rfl rfl ?_
    refine F_v2u (l' := [(_, _), (_, _), (_, _), (_, _), (_, _), (_, _), (_, _), (_, _), (_, _), (_, _), (_, _), (_, _), (_, _), (_, _), (_, _), (_, _), (_, _), (_, _)]) pf_91_88 (c52_28_24 (p := ((rn : Int), R, (m : Int), V, U, st, dr)) (p0 := Tr)) (And.intro rfl (And.intro rfl (And.intro rfl (And.intro rfl (And.intro rfl (And.intro rfl (And.intro rfl (And.intro rfl (trivial))))))))) rfl rfl rfl rfl ?_
    refine E_iconst pf_91_91 ?_
    refine E_istore (lv' := [_, _, _, _, _, _, _]) pf_91_92 rfl rfl ?_
    exact Rn_fr d2 (And.intro rfl (And.intro rfl (And.intro rfl (And.intro rfl (And.intro rfl (And.intro rfl (And.intro rfl (And.intro rfl (And.intro rfl (And.intro rfl (And.intro rfl (And.intro rfl (And.intro rfl (And.intro rfl (trivial))))))))))))))) rfl rfl h
  · refine E_in (lv := [_, _, _, _, _, _]) rfl ?_
    refine E_aload pf_174_0 rfl ?_
    refine E_iload pf_174_1 rfl ?_
    refine E_i2l pf_174_2 (by omega) ?_
    refine E_lconst pf_174_3 ?_
    refine E_lconst pf_174_4 ?_
    refine F_c3v0 pf_174_7 (c109t (by omega) (by omega)) (trivial) rfl ?_
    refine E_if_eq_f pf_174_10 (by omega) ?_
    refine E_lload pf_174_13 rfl ?_
    refine E_lconst pf_174_14 ?_
    refine E_iconst pf_174_15 ?_
    refine E_iload pf_174_16 rfl ?_
    refine E_imul pf_174_17 ?_
    refine E_ti (b := 12) (by omega) ?_
    refine F_c1v0 pf_174_18 (h173) (trivial) rfl ?_
    refine E_lconst pf_174_21 ?_
    refine E_lsub pf_174_22 ?_
    refine F_c3v0 pf_174_23 (c109t (by omega) (by omega)) (trivial) rfl ?_
    refine E_if_eq_f pf_174_26 (by omega) ?_
    refine E_iconst pf_174_29 ?_
    refine E_goto pf_174_30 ?_
    refine F_v2v (l' := [(_, _), (_, _), (_, _), (_, _), (_, _), (_, _), (_, _)]) pf_174_34 (c108_0) (And.intro rfl (trivial)) rfl rfl rfl rfl ?_
    refine E_if_eq_t pf_174_37 (by omega) ?_
    refine E_aload pf_174_42 rfl ?_
    refine F_getf pf_174_43 rfl rfl rfl ?_
    refine E_iconst pf_174_46 ?_
    refine E_aload pf_174_47 rfl ?_
    refine F_getf pf_174_48 rfl rfl rfl ?_
    refine E_iconst pf_174_51 ?_
    refine F_c4u (l' := [(_, _), (_, _), (_, _), (_, _), (_, _), (_, _), (_, _)]) pf_174_52 (c110nt (by omega) (by omega)) (And.intro rfl (And.intro rfl (trivial))) rfl rfl rfl ?_
    refine E_iconst pf_174_55 ?_
    refine E_istore (lv' := [_, _, _, _, _, _]) pf_174_56 rfl rfl ?_
    exact Rn_fr (fun h => d3 h _) (And.intro rfl (And.intro rfl (And.intro rfl (And.intro rfl (And.intro rfl (And.intro rfl (trivial))))))) rfl rfl h
theorem scr4 {s : Int} (hs0 : 0 ≤ s ∧ s ≤ 9999999999999999) (ok : okq vn R V U st dr r m) (pl : plk dn vn rn C P) : ∃ v : Int, (-9 ≤ v ∧ v ≤ 4) ∧ (∃ Gr' : Int → Int, ∃ (pu' be' : Int) (x' rs' sl' mv' Q' : Int → Int) (Tr' : pg), ∀ h, Ca 91 [.ref 1, .int (ii 4), .long (ll s)] (wd [(1, oPD tl), (13, oP (dn : Int) k (vn : Int)), (14, ar 96 C), (18, oD pu be), (19, ar 4 x), (20, ar 4 rs), (21, lr 4 sl), (22, ar 4 mv), (23, ar 24 Q), (24, oS24 (rn : Int) (m : Int) st dr), (25, ar 20 R), (26, ar 24 V), (27, ar 24 U), (28, pst 28 Tr), (29, ar 20 Tr.2.1), (30, ar 24 Tr.2.2.2.1), (31, ar 24 Tr.2.2.2.2.1), (101, ar 4 Gr)] h) (.inl (some (.int (ii v))), wd [(1, oPD tl), (13, oP (dn : Int) k (vn : Int)), (14, ar 96 C), (18, oD pu' be'), (19, ar 4 x'), (20, ar 4 rs'), (21, lr 4 sl'), (22, ar 4 mv'), (23, ar 24 Q'), (24, oS24 (rn : Int) (m : Int) st dr), (25, ar 20 R), (26, ar 24 V), (27, ar 24 U), (28, pst 28 Tr'), (29, ar 20 Tr'.2.1), (30, ar 24 Tr'.2.2.2.1), (31, ar 24 Tr'.2.2.2.2.1), (101, ar 4 Gr')] h)) ∧ (∃ rt' Q' bg' wy' : Int → Int, ∀ h, Ca 174 [.ref 102, .int (ii 4), .long (ll s)] (wd [(102, oX6 rf ts sp (dn : Int) kd (vn : Int) (rn : Int) rd rk rv rr ac), (104, ar 128 P), (107, ar 72 r), (108, ar 72 rt), (112, ar 24 Q2), (113, lr 4 bg), (114, lr 4 wy)] h) (.inl (some (.int (ii v))), wd [(102, oX6 0 ts sp (dn : Int) kd (vn : Int) (rn : Int) rd rk rv rr ac), (104, ar 128 P), (107, ar 72 r), (108, ar 72 rt'), (112, ar 24 Q'), (113, lr 4 bg'), (114, lr 4 wy')] h)) := by
  have hv := plk_v pl
  have hs := okq_sok ok hv.2.1.2
  have hp := okq_pgk ok hv.2.1.2
  have ok1 : okq vn (zcpy R Tr.2.1 0 0 20) (zcpy V Tr.2.2.2.1 0 0 24) (zcpy U Tr.2.2.2.2.1 0 0 24) st dr (zcpy r rt 0 0 72) m := okq_cp ok hv.2.1.2 fun y h1 h2 => by rw [zcpy_at (by omega)]; congr 1; omega
  have hg : ∀ i : Nat, i < 4 → (zu (zu (zu (zu Gr (4 - 1) (s % 10000)) (4 - 1 + -1) ((s / 10000) % 10000)) (4 - 1 + -1 + -1) (((s / 10000) / 10000) % 10000)) (4 - 1 + -1 + -1 + -1) ((((s / 10000) / 10000) / 10000) % 10000)) (i : Int) = s / ((10 ^ (4 * (4 - 1 - i)) : Nat) : Int) % 10000 := fun i hi => by
    have h4 : i = 0 ∨ i = 1 ∨ i = 2 ∨ i = 3 := by omega
    rcases h4 with q | q | q | q <;> subst q
    · show s / 10000 / 10000 / 10000 % 10000 = s / 1000000000000 % 10000
      omega
    · show s / 10000 / 10000 % 10000 = s / 100000000 % 10000
      omega
    · show s / 10000 % 10000 = s / 10000 % 10000
      omega
    · show s % 10000 = s / 1 % 10000
      omega
  have hL : ((((s / 10000) / 10000) / 10000) / 10000) = 0 := by omega
  obtain ⟨v, d1, ⟨pu2, be2, x2, rs2, sl2, mv2, Q4, m2, V2, U2, st2, dr2, d2⟩, ⟨r2, Q5, bg2, wy2, d3⟩⟩ := scr_loop (tl := tl) (Gr := (zu (zu (zu (zu Gr (4 - 1) (s % 10000)) (4 - 1 + -1) ((s / 10000) % 10000)) (4 - 1 + -1 + -1) (((s / 10000) / 10000) % 10000)) (4 - 1 + -1 + -1 + -1) ((((s / 10000) / 10000) / 10000) % 10000))) (s := s) (s2 := ((((s / 10000) / 10000) / 10000) / 10000)) (k := k) (ts := ts) (sp := sp) (kd := kd) (rd := rd) (rk := rk) (rv := rv) (rr := rr) (ac := ac) (N := 4) (by omega) (by omega) hg pl 4 0 m _ _ _ st dr pu be x rs sl mv Q Q2 bg wy (by omega) ok1
  have h173 : ∀ h, Ca 173 [.int (ii 16)] (wd [] h) (.inl (some (.long (ll 10000000000000000))), wd [] h) := c173 (e := 16) (by omega)
  refine ⟨v, d1, ⟨(zu (zu (zu (zu Gr (4 - 1) (s % 10000)) (4 - 1 + -1) ((s / 10000) % 10000)) (4 - 1 + -1 + -1) (((s / 10000) / 10000) % 10000)) (4 - 1 + -1 + -1 + -1) ((((s / 10000) / 10000) / 10000) % 10000)), pu2, be2, x2, rs2, sl2, mv2, Q4, ((rn : Int), (zcpy R Tr.2.1 0 0 20), (m2 : Int), V2, U2, st2, dr2), fun h => ?_⟩, ⟨r2, Q5, bg2, wy2, fun h => ?_⟩⟩
  · refine E_in (lv := [_, _, _, _, _, _, _]) rfl ?_
    refine E_iload pf_91_0 rfl ?_
    refine E_iconst pf_91_1 ?_
    refine E_icmp_lt_f pf_91_2 (by omega) ?_
    refine E_iload pf_91_5 rfl ?_
    refine E_iconst pf_91_6 ?_
    refine E_icmp_gt_f pf_91_7 (by omega) ?_
    refine E_lload pf_91_10 rfl ?_
    refine E_lconst pf_91_11 ?_
    refine E_lcmp_lt_f pf_91_12 pf_91_13 (by omega) ?_
    refine E_iconst pf_91_16 ?_
    refine E_goto pf_91_17 ?_
    refine F_c1u0 pf_91_21 (c96) (trivial) rfl ?_
    refine E_lload pf_91_24 rfl ?_
    refine E_lstore (lv' := [_, _, _, _, _, _, _]) pf_91_25 rfl rfl ?_
    refine E_iload pf_91_27 rfl ?_
    refine E_iconst pf_91_28 ?_
    refine E_isub pf_91_29 ?_
    refine E_istore (lv' := [_, _, _, _, _, _, _]) pf_91_30 rfl rfl ?_
    refine E_iload pf_91_32 rfl ?_
    refine E_if_lt_f pf_91_34 (by omega) ?_
    refine E_aload pf_91_37 rfl ?_
    refine F_getf pf_91_38 rfl rfl rfl ?_
    refine E_iload pf_91_41 rfl ?_
    refine E_lload pf_91_43 rfl ?_
    refine E_lconst pf_91_45 ?_
    refine E_lrem pf_91_48 (by omega) ?_
    refine E_l2i pf_91_49 ?_
    refine F_iast (l' := [(_, _), (_, _), (_, _), (_, _), (_, _), (_, _), (_, _), (_, _), (_, _), (_, _), (_, _), (_, _), (_, _), (_, _), (_, _), (_, _), (_, _), (_, _)]) pf_91_50 rfl (by omega) rfl ?_
    refine E_lload pf_91_51 rfl ?_
    refine E_lconst pf_91_53 ?_
    refine E_ldiv pf_91_56 (by omega) ?_
    refine E_lstore (lv' := [_, _, _, _, _, _, _]) pf_91_57 rfl rfl ?_
    refine E_iinc (lv' := [_, _, _, _, _, _, _]) pf_91_59 rfl rfl ?_
    refine E_goto pf_91_62 ?_
    refine E_iload pf_91_32 rfl ?_
    refine E_if_lt_f pf_91_34 (by omega) ?_
    refine E_aload pf_91_37 rfl ?_
    refine F_getf pf_91_38 rfl rfl rfl ?_
    refine E_iload pf_91_41 rfl ?_
    refine E_lload pf_91_43 rfl ?_
    refine E_lconst pf_91_45 ?_
    refine E_lrem pf_91_48 (by omega) ?_
    refine E_l2i pf_91_49 ?_
    refine F_iast (l' := [(_, _), (_, _), (_, _), (_, _), (_, _), (_, _), (_, _), (_, _), (_, _), (_, _), (_, _), (_, _), (_, _), (_, _), (_, _), (_, _), (_, _), (_, _)]) pf_91_50 rfl (by omega) rfl ?_
    refine E_lload pf_91_51 rfl ?_
    refine E_lconst pf_91_53 ?_
    refine E_ldiv pf_91_56 (by omega) ?_
    refine E_lstore (lv' := [_, _, _, _, _, _, _]) pf_91_57 rfl rfl ?_
    refine E_iinc (lv' := [_, _, _, _, _, _, _]) pf_91_59 rfl rfl ?_
    refine E_goto pf_91_62 ?_
    refine E_iload pf_91_32 rfl ?_
    refine E_if_lt_f pf_91_34 (by omega) ?_
    refine E_aload pf_91_37 rfl ?_
    refine F_getf pf_91_38 rfl rfl rfl ?_
    refine E_iload pf_91_41 rfl ?_
    refine E_lload pf_91_43 rfl ?_
    refine E_lconst pf_91_45 ?_
    refine E_lrem pf_91_48 (by omega) ?_
    refine E_l2i pf_91_49 ?_
    refine F_iast (l' := [(_, _), (_, _), (_, _), (_, _), (_, _), (_, _), (_, _), (_, _), (_, _), (_, _), (_, _), (_, _), (_, _), (_, _), (_, _), (_, _), (_, _), (_, _)]) pf_91_50 rfl (by omega) rfl ?_
    refine E_lload pf_91_51 rfl ?_
    refine E_lconst pf_91_53 ?_
    refine E_ldiv pf_91_56 (by omega) ?_
    refine E_lstore (lv' := [_, _, _, _, _, _, _]) pf_91_57 rfl rfl ?_
    refine E_iinc (lv' := [_, _, _, _, _, _, _]) pf_91_59 rfl rfl ?_
    refine E_goto pf_91_62 ?_
    refine E_iload pf_91_32 rfl ?_
    refine E_if_lt_f pf_91_34 (by omega) ?_
    refine E_aload pf_91_37 rfl ?_
    refine F_getf pf_91_38 rfl rfl rfl ?_
    refine E_iload pf_91_41 rfl ?_
    refine E_lload pf_91_43 rfl ?_
    refine E_lconst pf_91_45 ?_
    refine E_lrem pf_91_48 (by omega) ?_
    refine E_l2i pf_91_49 ?_
    refine F_iast (l' := [(_, _), (_, _), (_, _), (_, _), (_, _), (_, _), (_, _), (_, _), (_, _), (_, _), (_, _), (_, _), (_, _), (_, _), (_, _), (_, _), (_, _), (_, _)]) pf_91_50 rfl (by omega) rfl ?_
    refine E_lload pf_91_51 rfl ?_
    refine E_lconst pf_91_53 ?_
    refine E_ldiv pf_91_56 (by omega) ?_
    refine E_lstore (lv' := [_, _, _, _, _, _, _]) pf_91_57 rfl rfl ?_
    refine E_iinc (lv' := [_, _, _, _, _, _, _]) pf_91_59 rfl rfl ?_
    refine E_goto pf_91_62 ?_
    refine E_iload pf_91_32 rfl ?_
    refine E_if_lt_t pf_91_34 (by omega) ?_
    refine E_lload pf_91_65 rfl ?_
    refine E_lconst pf_91_67 ?_
    refine E_lcmp_ne_f pf_91_68 pf_91_69 (by omega) ?_
    refine E_iconst pf_91_72 ?_
    refine E_goto pf_91_73 ?_
    refine F_c1u0 pf_91_77 (c96) (trivial) rfl ?_
    refine E_aload pf_91_80 rfl ?_
    refine F_getf pf_91_81 rfl rfl rfl ?_
    refine E_aload pf_91_84 rfl ?_
    refine F_getf pf_91_85 rfl rfl rfl ?_
    refine F_v2u (l' := [(_, _), (_, _), (_, _), (_, _), (_, _), (_, _), (_, _), (_, _), (_, _), (_, _), (_, _), (_, _), (_, _), (_, _), (_, _), (_, _), (_, _), (_, _)]) pf_91_88 (c52_28_24 (p := ((rn : Int), R, (m : Int), V, U, st, dr)) (p0 := Tr)) (And.intro rfl (And.intro rfl (And.intro rfl (And.intro rfl (And.intro rfl (And.intro rfl (And.intro rfl (And.intro rfl (trivial))))))))) rfl rfl rfl rfl ?_
    refine E_iconst pf_91_91 ?_
    refine E_istore (lv' := [_, _, _, _, _, _, _]) pf_91_92 rfl rfl ?_
    exact Rn_fr d2 (And.intro rfl (And.intro rfl (And.intro rfl (And.intro rfl (And.intro rfl (And.intro rfl (And.intro rfl (And.intro rfl (And.intro rfl (And.intro rfl (And.intro rfl (And.intro rfl (And.intro rfl (And.intro rfl (trivial))))))))))))))) rfl rfl h
  · refine E_in (lv := [_, _, _, _, _, _]) rfl ?_
    refine E_aload pf_174_0 rfl ?_
    refine E_iload pf_174_1 rfl ?_
    refine E_i2l pf_174_2 (by omega) ?_
    refine E_lconst pf_174_3 ?_
    refine E_lconst pf_174_4 ?_
    refine F_c3v0 pf_174_7 (c109t (by omega) (by omega)) (trivial) rfl ?_
    refine E_if_eq_f pf_174_10 (by omega) ?_
    refine E_lload pf_174_13 rfl ?_
    refine E_lconst pf_174_14 ?_
    refine E_iconst pf_174_15 ?_
    refine E_iload pf_174_16 rfl ?_
    refine E_imul pf_174_17 ?_
    refine E_ti (b := 16) (by omega) ?_
    refine F_c1v0 pf_174_18 (h173) (trivial) rfl ?_
    refine E_lconst pf_174_21 ?_
    refine E_lsub pf_174_22 ?_
    refine F_c3v0 pf_174_23 (c109t (by omega) (by omega)) (trivial) rfl ?_
    refine E_if_eq_f pf_174_26 (by omega) ?_
    refine E_iconst pf_174_29 ?_
    refine E_goto pf_174_30 ?_
    refine F_v2v (l' := [(_, _), (_, _), (_, _), (_, _), (_, _), (_, _), (_, _)]) pf_174_34 (c108_0) (And.intro rfl (trivial)) rfl rfl rfl rfl ?_
    refine E_if_eq_t pf_174_37 (by omega) ?_
    refine E_aload pf_174_42 rfl ?_
    refine F_getf pf_174_43 rfl rfl rfl ?_
    refine E_iconst pf_174_46 ?_
    refine E_aload pf_174_47 rfl ?_
    refine F_getf pf_174_48 rfl rfl rfl ?_
    refine E_iconst pf_174_51 ?_
    refine F_c4u (l' := [(_, _), (_, _), (_, _), (_, _), (_, _), (_, _), (_, _)]) pf_174_52 (c110nt (by omega) (by omega)) (And.intro rfl (And.intro rfl (trivial))) rfl rfl rfl ?_
    refine E_iconst pf_174_55 ?_
    refine E_istore (lv' := [_, _, _, _, _, _]) pf_174_56 rfl rfl ?_
    exact Rn_fr (fun h => d3 h _) (And.intro rfl (And.intro rfl (And.intro rfl (And.intro rfl (And.intro rfl (And.intro rfl (trivial))))))) rfl rfl h
def lim4 (n : Int) : Int := if n = 1 then 9999 else if n = 2 then 99999999 else if n = 3 then 999999999999 else 9999999999999999
theorem scr {n s : Int} (hn : 1 ≤ n ∧ n ≤ 4) (hs0 : 0 ≤ s ∧ s ≤ lim4 n) (ok : okq vn R V U st dr r m) (pl : plk dn vn rn C P) : ∃ v : Int, (-9 ≤ v ∧ v ≤ 4) ∧ (∃ Gr' : Int → Int, ∃ (pu' be' : Int) (x' rs' sl' mv' Q' : Int → Int) (Tr' : pg), ∀ h, Ca 91 [.ref 1, .int (ii n), .long (ll s)] (wd [(1, oPD tl), (13, oP (dn : Int) k (vn : Int)), (14, ar 96 C), (18, oD pu be), (19, ar 4 x), (20, ar 4 rs), (21, lr 4 sl), (22, ar 4 mv), (23, ar 24 Q), (24, oS24 (rn : Int) (m : Int) st dr), (25, ar 20 R), (26, ar 24 V), (27, ar 24 U), (28, pst 28 Tr), (29, ar 20 Tr.2.1), (30, ar 24 Tr.2.2.2.1), (31, ar 24 Tr.2.2.2.2.1), (101, ar 4 Gr)] h) (.inl (some (.int (ii v))), wd [(1, oPD tl), (13, oP (dn : Int) k (vn : Int)), (14, ar 96 C), (18, oD pu' be'), (19, ar 4 x'), (20, ar 4 rs'), (21, lr 4 sl'), (22, ar 4 mv'), (23, ar 24 Q'), (24, oS24 (rn : Int) (m : Int) st dr), (25, ar 20 R), (26, ar 24 V), (27, ar 24 U), (28, pst 28 Tr'), (29, ar 20 Tr'.2.1), (30, ar 24 Tr'.2.2.2.1), (31, ar 24 Tr'.2.2.2.2.1), (101, ar 4 Gr')] h)) ∧ (∃ rt' Q' bg' wy' : Int → Int, ∀ h, Ca 174 [.ref 102, .int (ii n), .long (ll s)] (wd [(102, oX6 rf ts sp (dn : Int) kd (vn : Int) (rn : Int) rd rk rv rr ac), (104, ar 128 P), (107, ar 72 r), (108, ar 72 rt), (112, ar 24 Q2), (113, lr 4 bg), (114, lr 4 wy)] h) (.inl (some (.int (ii v))), wd [(102, oX6 0 ts sp (dn : Int) kd (vn : Int) (rn : Int) rd rk rv rr ac), (104, ar 128 P), (107, ar 72 r), (108, ar 72 rt'), (112, ar 24 Q'), (113, lr 4 bg'), (114, lr 4 wy')] h)) := by
  have h4 : n = 1 ∨ n = 2 ∨ n = 3 ∨ n = 4 := by omega
  rcases h4 with q | q | q | q <;> subst q
  · exact scr1 hs0 ok pl
  · exact scr2 hs0 ok pl
  · exact scr3 hs0 ok pl
  · exact scr4 hs0 ok pl
theorem c91x {n s : Int} (h1 : (-2147483648 ≤ n ∧ n ≤ 2147483647)) (h2 : (-9223372036854775808 ≤ s ∧ s ≤ 9223372036854775807)) (h3 : ¬ ((1 ≤ n ∧ n ≤ 4) ∧ (0 ≤ s ∧ s ≤ lim4 n))) : ∃ Gr' : Int → Int, ∀ h, Ca 91 [.ref 1, .int (ii n), .long (ll s)] (wd [(1, oPD tl), (101, ar 4 Gr)] h) (.inr 0, pd_thr (wd [(1, oPD tl), (101, ar 4 Gr')] h)) := by
  by_cases e1 : 1 ≤ n
  · by_cases e2 : n ≤ 4
    · by_cases e3 : 0 ≤ s
      · have e4 : lim4 n < s := by omega
        have h4 : n = 1 ∨ n = 2 ∨ n = 3 ∨ n = 4 := by omega
        rcases h4 with q | q | q | q <;> subst q
        · have e5 : 9999 < s := e4
          refine ⟨(zu Gr (1 - 1) (s % 10000)), fun h => ?_⟩
          refine E_in (lv := [_, _, _, _, _, _, _]) rfl ?_
          refine E_iload pf_91_0 rfl ?_
          refine E_iconst pf_91_1 ?_
          refine E_icmp_lt_f pf_91_2 (by omega) ?_
          refine E_iload pf_91_5 rfl ?_
          refine E_iconst pf_91_6 ?_
          refine E_icmp_gt_f pf_91_7 (by omega) ?_
          refine E_lload pf_91_10 rfl ?_
          refine E_lconst pf_91_11 ?_
          refine E_lcmp_lt_f pf_91_12 pf_91_13 (by omega) ?_
          refine E_iconst pf_91_16 ?_
          refine E_goto pf_91_17 ?_
          refine F_c1u0 pf_91_21 (c96) (trivial) rfl ?_
          refine E_lload pf_91_24 rfl ?_
          refine E_lstore (lv' := [_, _, _, _, _, _, _]) pf_91_25 rfl rfl ?_
          refine E_iload pf_91_27 rfl ?_
          refine E_iconst pf_91_28 ?_
          refine E_isub pf_91_29 ?_
          refine E_istore (lv' := [_, _, _, _, _, _, _]) pf_91_30 rfl rfl ?_
          refine E_iload pf_91_32 rfl ?_
          refine E_if_lt_f pf_91_34 (by omega) ?_
          refine E_aload pf_91_37 rfl ?_
          refine F_getf pf_91_38 rfl rfl rfl ?_
          refine E_iload pf_91_41 rfl ?_
          refine E_lload pf_91_43 rfl ?_
          refine E_lconst pf_91_45 ?_
          refine E_lrem pf_91_48 (by omega) ?_
          refine E_l2i pf_91_49 ?_
          refine F_iast (l' := [(_, _), (_, _)]) pf_91_50 rfl (by omega) rfl ?_
          refine E_lload pf_91_51 rfl ?_
          refine E_lconst pf_91_53 ?_
          refine E_ldiv pf_91_56 (by omega) ?_
          refine E_lstore (lv' := [_, _, _, _, _, _, _]) pf_91_57 rfl rfl ?_
          refine E_iinc (lv' := [_, _, _, _, _, _, _]) pf_91_59 rfl rfl ?_
          refine E_goto pf_91_62 ?_
          refine E_iload pf_91_32 rfl ?_
          refine E_if_lt_t pf_91_34 (by omega) ?_
          refine E_lload pf_91_65 rfl ?_
          refine E_lconst pf_91_67 ?_
          refine E_lcmp_ne_t pf_91_68 pf_91_69 (by omega) ?_
          refine E_iconst pf_91_76 ?_
          exact E_c1x pf_91_77 rfl (c96x _) rfl
        · have e5 : 99999999 < s := e4
          refine ⟨(zu (zu Gr (2 - 1) (s % 10000)) (2 - 1 + -1) ((s / 10000) % 10000)), fun h => ?_⟩
          refine E_in (lv := [_, _, _, _, _, _, _]) rfl ?_
          refine E_iload pf_91_0 rfl ?_
          refine E_iconst pf_91_1 ?_
          refine E_icmp_lt_f pf_91_2 (by omega) ?_
          refine E_iload pf_91_5 rfl ?_
          refine E_iconst pf_91_6 ?_
          refine E_icmp_gt_f pf_91_7 (by omega) ?_
          refine E_lload pf_91_10 rfl ?_
          refine E_lconst pf_91_11 ?_
          refine E_lcmp_lt_f pf_91_12 pf_91_13 (by omega) ?_
          refine E_iconst pf_91_16 ?_
          refine E_goto pf_91_17 ?_
          refine F_c1u0 pf_91_21 (c96) (trivial) rfl ?_
          refine E_lload pf_91_24 rfl ?_
          refine E_lstore (lv' := [_, _, _, _, _, _, _]) pf_91_25 rfl rfl ?_
          refine E_iload pf_91_27 rfl ?_
          refine E_iconst pf_91_28 ?_
          refine E_isub pf_91_29 ?_
          refine E_istore (lv' := [_, _, _, _, _, _, _]) pf_91_30 rfl rfl ?_
          refine E_iload pf_91_32 rfl ?_
          refine E_if_lt_f pf_91_34 (by omega) ?_
          refine E_aload pf_91_37 rfl ?_
          refine F_getf pf_91_38 rfl rfl rfl ?_
          refine E_iload pf_91_41 rfl ?_
          refine E_lload pf_91_43 rfl ?_
          refine E_lconst pf_91_45 ?_
          refine E_lrem pf_91_48 (by omega) ?_
          refine E_l2i pf_91_49 ?_
          refine F_iast (l' := [(_, _), (_, _)]) pf_91_50 rfl (by omega) rfl ?_
          refine E_lload pf_91_51 rfl ?_
          refine E_lconst pf_91_53 ?_
          refine E_ldiv pf_91_56 (by omega) ?_
          refine E_lstore (lv' := [_, _, _, _, _, _, _]) pf_91_57 rfl rfl ?_
          refine E_iinc (lv' := [_, _, _, _, _, _, _]) pf_91_59 rfl rfl ?_
          refine E_goto pf_91_62 ?_
          refine E_iload pf_91_32 rfl ?_
          refine E_if_lt_f pf_91_34 (by omega) ?_
          refine E_aload pf_91_37 rfl ?_
          refine F_getf pf_91_38 rfl rfl rfl ?_
          refine E_iload pf_91_41 rfl ?_
          refine E_lload pf_91_43 rfl ?_
          refine E_lconst pf_91_45 ?_
          refine E_lrem pf_91_48 (by omega) ?_
          refine E_l2i pf_91_49 ?_
          refine F_iast (l' := [(_, _), (_, _)]) pf_91_50 rfl (by omega) rfl ?_
          refine E_lload pf_91_51 rfl ?_
          refine E_lconst pf_91_53 ?_
          refine E_ldiv pf_91_56 (by omega) ?_
          refine E_lstore (lv' := [_, _, _, _, _, _, _]) pf_91_57 rfl rfl ?_
          refine E_iinc (lv' := [_, _, _, _, _, _, _]) pf_91_59 rfl rfl ?_
          refine E_goto pf_91_62 ?_
          refine E_iload pf_91_32 rfl ?_
          refine E_if_lt_t pf_91_34 (by omega) ?_
          refine E_lload pf_91_65 rfl ?_
          refine E_lconst pf_91_67 ?_
          refine E_lcmp_ne_t pf_91_68 pf_91_69 (by omega) ?_
          refine E_iconst pf_91_76 ?_
          exact E_c1x pf_91_77 rfl (c96x _) rfl
        · have e5 : 999999999999 < s := e4
          refine ⟨(zu (zu (zu Gr (3 - 1) (s % 10000)) (3 - 1 + -1) ((s / 10000) % 10000)) (3 - 1 + -1 + -1) (((s / 10000) / 10000) % 10000)), fun h => ?_⟩
          refine E_in (lv := [_, _, _, _, _, _, _]) rfl ?_
          refine E_iload pf_91_0 rfl ?_
          refine E_iconst pf_91_1 ?_
          refine E_icmp_lt_f pf_91_2 (by omega) ?_
          refine E_iload pf_91_5 rfl ?_
          refine E_iconst pf_91_6 ?_
          refine E_icmp_gt_f pf_91_7 (by omega) ?_
          refine E_lload pf_91_10 rfl ?_
          refine E_lconst pf_91_11 ?_
          refine E_lcmp_lt_f pf_91_12 pf_91_13 (by omega) ?_
          refine E_iconst pf_91_16 ?_
          refine E_goto pf_91_17 ?_
          refine F_c1u0 pf_91_21 (c96) (trivial) rfl ?_
          refine E_lload pf_91_24 rfl ?_
          refine E_lstore (lv' := [_, _, _, _, _, _, _]) pf_91_25 rfl rfl ?_
          refine E_iload pf_91_27 rfl ?_
          refine E_iconst pf_91_28 ?_
          refine E_isub pf_91_29 ?_
          refine E_istore (lv' := [_, _, _, _, _, _, _]) pf_91_30 rfl rfl ?_
          refine E_iload pf_91_32 rfl ?_
          refine E_if_lt_f pf_91_34 (by omega) ?_
          refine E_aload pf_91_37 rfl ?_
          refine F_getf pf_91_38 rfl rfl rfl ?_
          refine E_iload pf_91_41 rfl ?_
          refine E_lload pf_91_43 rfl ?_
          refine E_lconst pf_91_45 ?_
          refine E_lrem pf_91_48 (by omega) ?_
          refine E_l2i pf_91_49 ?_
          refine F_iast (l' := [(_, _), (_, _)]) pf_91_50 rfl (by omega) rfl ?_
          refine E_lload pf_91_51 rfl ?_
          refine E_lconst pf_91_53 ?_
          refine E_ldiv pf_91_56 (by omega) ?_
          refine E_lstore (lv' := [_, _, _, _, _, _, _]) pf_91_57 rfl rfl ?_
          refine E_iinc (lv' := [_, _, _, _, _, _, _]) pf_91_59 rfl rfl ?_
          refine E_goto pf_91_62 ?_
          refine E_iload pf_91_32 rfl ?_
          refine E_if_lt_f pf_91_34 (by omega) ?_
          refine E_aload pf_91_37 rfl ?_
          refine F_getf pf_91_38 rfl rfl rfl ?_
          refine E_iload pf_91_41 rfl ?_
          refine E_lload pf_91_43 rfl ?_
          refine E_lconst pf_91_45 ?_
          refine E_lrem pf_91_48 (by omega) ?_
          refine E_l2i pf_91_49 ?_
          refine F_iast (l' := [(_, _), (_, _)]) pf_91_50 rfl (by omega) rfl ?_
          refine E_lload pf_91_51 rfl ?_
          refine E_lconst pf_91_53 ?_
          refine E_ldiv pf_91_56 (by omega) ?_
          refine E_lstore (lv' := [_, _, _, _, _, _, _]) pf_91_57 rfl rfl ?_
          refine E_iinc (lv' := [_, _, _, _, _, _, _]) pf_91_59 rfl rfl ?_
          refine E_goto pf_91_62 ?_
          refine E_iload pf_91_32 rfl ?_
          refine E_if_lt_f pf_91_34 (by omega) ?_
          refine E_aload pf_91_37 rfl ?_
          refine F_getf pf_91_38 rfl rfl rfl ?_
          refine E_iload pf_91_41 rfl ?_
          refine E_lload pf_91_43 rfl ?_
          refine E_lconst pf_91_45 ?_
          refine E_lrem pf_91_48 (by omega) ?_
          refine E_l2i pf_91_49 ?_
          refine F_iast (l' := [(_, _), (_, _)]) pf_91_50 rfl (by omega) rfl ?_
          refine E_lload pf_91_51 rfl ?_
          refine E_lconst pf_91_53 ?_
          refine E_ldiv pf_91_56 (by omega) ?_
          refine E_lstore (lv' := [_, _, _, _, _, _, _]) pf_91_57 rfl rfl ?_
          refine E_iinc (lv' := [_, _, _, _, _, _, _]) pf_91_59 rfl rfl ?_
          refine E_goto pf_91_62 ?_
          refine E_iload pf_91_32 rfl ?_
          refine E_if_lt_t pf_91_34 (by omega) ?_
          refine E_lload pf_91_65 rfl ?_
          refine E_lconst pf_91_67 ?_
          refine E_lcmp_ne_t pf_91_68 pf_91_69 (by omega) ?_
          refine E_iconst pf_91_76 ?_
          exact E_c1x pf_91_77 rfl (c96x _) rfl
        · have e5 : 9999999999999999 < s := e4
          refine ⟨(zu (zu (zu (zu Gr (4 - 1) (s % 10000)) (4 - 1 + -1) ((s / 10000) % 10000)) (4 - 1 + -1 + -1) (((s / 10000) / 10000) % 10000)) (4 - 1 + -1 + -1 + -1) ((((s / 10000) / 10000) / 10000) % 10000)), fun h => ?_⟩
          refine E_in (lv := [_, _, _, _, _, _, _]) rfl ?_
          refine E_iload pf_91_0 rfl ?_
          refine E_iconst pf_91_1 ?_
          refine E_icmp_lt_f pf_91_2 (by omega) ?_
          refine E_iload pf_91_5 rfl ?_
          refine E_iconst pf_91_6 ?_
          refine E_icmp_gt_f pf_91_7 (by omega) ?_
          refine E_lload pf_91_10 rfl ?_
          refine E_lconst pf_91_11 ?_
          refine E_lcmp_lt_f pf_91_12 pf_91_13 (by omega) ?_
          refine E_iconst pf_91_16 ?_
          refine E_goto pf_91_17 ?_
          refine F_c1u0 pf_91_21 (c96) (trivial) rfl ?_
          refine E_lload pf_91_24 rfl ?_
          refine E_lstore (lv' := [_, _, _, _, _, _, _]) pf_91_25 rfl rfl ?_
          refine E_iload pf_91_27 rfl ?_
          refine E_iconst pf_91_28 ?_
          refine E_isub pf_91_29 ?_
          refine E_istore (lv' := [_, _, _, _, _, _, _]) pf_91_30 rfl rfl ?_
          refine E_iload pf_91_32 rfl ?_
          refine E_if_lt_f pf_91_34 (by omega) ?_
          refine E_aload pf_91_37 rfl ?_
          refine F_getf pf_91_38 rfl rfl rfl ?_
          refine E_iload pf_91_41 rfl ?_
          refine E_lload pf_91_43 rfl ?_
          refine E_lconst pf_91_45 ?_
          refine E_lrem pf_91_48 (by omega) ?_
          refine E_l2i pf_91_49 ?_
          refine F_iast (l' := [(_, _), (_, _)]) pf_91_50 rfl (by omega) rfl ?_
          refine E_lload pf_91_51 rfl ?_
          refine E_lconst pf_91_53 ?_
          refine E_ldiv pf_91_56 (by omega) ?_
          refine E_lstore (lv' := [_, _, _, _, _, _, _]) pf_91_57 rfl rfl ?_
          refine E_iinc (lv' := [_, _, _, _, _, _, _]) pf_91_59 rfl rfl ?_
          refine E_goto pf_91_62 ?_
          refine E_iload pf_91_32 rfl ?_
          refine E_if_lt_f pf_91_34 (by omega) ?_
          refine E_aload pf_91_37 rfl ?_
          refine F_getf pf_91_38 rfl rfl rfl ?_
          refine E_iload pf_91_41 rfl ?_
          refine E_lload pf_91_43 rfl ?_
          refine E_lconst pf_91_45 ?_
          refine E_lrem pf_91_48 (by omega) ?_
          refine E_l2i pf_91_49 ?_
          refine F_iast (l' := [(_, _), (_, _)]) pf_91_50 rfl (by omega) rfl ?_
          refine E_lload pf_91_51 rfl ?_
          refine E_lconst pf_91_53 ?_
          refine E_ldiv pf_91_56 (by omega) ?_
          refine E_lstore (lv' := [_, _, _, _, _, _, _]) pf_91_57 rfl rfl ?_
          refine E_iinc (lv' := [_, _, _, _, _, _, _]) pf_91_59 rfl rfl ?_
          refine E_goto pf_91_62 ?_
          refine E_iload pf_91_32 rfl ?_
          refine E_if_lt_f pf_91_34 (by omega) ?_
          refine E_aload pf_91_37 rfl ?_
          refine F_getf pf_91_38 rfl rfl rfl ?_
          refine E_iload pf_91_41 rfl ?_
          refine E_lload pf_91_43 rfl ?_
          refine E_lconst pf_91_45 ?_
          refine E_lrem pf_91_48 (by omega) ?_
          refine E_l2i pf_91_49 ?_
          refine F_iast (l' := [(_, _), (_, _)]) pf_91_50 rfl (by omega) rfl ?_
          refine E_lload pf_91_51 rfl ?_
          refine E_lconst pf_91_53 ?_
          refine E_ldiv pf_91_56 (by omega) ?_
          refine E_lstore (lv' := [_, _, _, _, _, _, _]) pf_91_57 rfl rfl ?_
          refine E_iinc (lv' := [_, _, _, _, _, _, _]) pf_91_59 rfl rfl ?_
          refine E_goto pf_91_62 ?_
          refine E_iload pf_91_32 rfl ?_
          refine E_if_lt_f pf_91_34 (by omega) ?_
          refine E_aload pf_91_37 rfl ?_
          refine F_getf pf_91_38 rfl rfl rfl ?_
          refine E_iload pf_91_41 rfl ?_
          refine E_lload pf_91_43 rfl ?_
          refine E_lconst pf_91_45 ?_
          refine E_lrem pf_91_48 (by omega) ?_
          refine E_l2i pf_91_49 ?_
          refine F_iast (l' := [(_, _), (_, _)]) pf_91_50 rfl (by omega) rfl ?_
          refine E_lload pf_91_51 rfl ?_
          refine E_lconst pf_91_53 ?_
          refine E_ldiv pf_91_56 (by omega) ?_
          refine E_lstore (lv' := [_, _, _, _, _, _, _]) pf_91_57 rfl rfl ?_
          refine E_iinc (lv' := [_, _, _, _, _, _, _]) pf_91_59 rfl rfl ?_
          refine E_goto pf_91_62 ?_
          refine E_iload pf_91_32 rfl ?_
          refine E_if_lt_t pf_91_34 (by omega) ?_
          refine E_lload pf_91_65 rfl ?_
          refine E_lconst pf_91_67 ?_
          refine E_lcmp_ne_t pf_91_68 pf_91_69 (by omega) ?_
          refine E_iconst pf_91_76 ?_
          exact E_c1x pf_91_77 rfl (c96x _) rfl
      · refine ⟨Gr, fun h => ?_⟩
        refine E_in (lv := [_, _, _, _, _, _, _]) rfl ?_
        refine E_iload pf_91_0 rfl ?_
        refine E_iconst pf_91_1 ?_
        refine E_icmp_lt_f pf_91_2 (by omega) ?_
        refine E_iload pf_91_5 rfl ?_
        refine E_iconst pf_91_6 ?_
        refine E_icmp_gt_f pf_91_7 (by omega) ?_
        refine E_lload pf_91_10 rfl ?_
        refine E_lconst pf_91_11 ?_
        refine E_lcmp_lt_t pf_91_12 pf_91_13 (by omega) ?_
        refine E_iconst pf_91_20 ?_
        exact E_c1x pf_91_21 rfl (c96x _) rfl
    · refine ⟨Gr, fun h => ?_⟩
      refine E_in (lv := [_, _, _, _, _, _, _]) rfl ?_
      refine E_iload pf_91_0 rfl ?_
      refine E_iconst pf_91_1 ?_
      refine E_icmp_lt_f pf_91_2 (by omega) ?_
      refine E_iload pf_91_5 rfl ?_
      refine E_iconst pf_91_6 ?_
      refine E_icmp_gt_t pf_91_7 (by omega) ?_
      refine E_iconst pf_91_20 ?_
      exact E_c1x pf_91_21 rfl (c96x _) rfl
  · refine ⟨Gr, fun h => ?_⟩
    refine E_in (lv := [_, _, _, _, _, _, _]) rfl ?_
    refine E_iload pf_91_0 rfl ?_
    refine E_iconst pf_91_1 ?_
    refine E_icmp_lt_t pf_91_2 (by omega) ?_
    refine E_iconst pf_91_20 ?_
    exact E_c1x pf_91_21 rfl (c96x _) rfl
theorem c174x {n s : Int} (h1 : (-2147483648 ≤ n ∧ n ≤ 2147483647)) (h2 : (-9223372036854775808 ≤ s ∧ s ≤ 9223372036854775807)) (h3 : ¬ ((1 ≤ n ∧ n ≤ 4) ∧ (0 ≤ s ∧ s ≤ lim4 n))) : ∀ h, Ca 174 [.ref 102, .int (ii n), .long (ll s)] (wd [(102, oX6 rf ts sp (dn : Int) kd (vn : Int) (rn : Int) rd rk rv rr ac)] h) (.inl (some (.int (ii 0))), wd [(102, oX6 1 ts sp (dn : Int) kd (vn : Int) (rn : Int) rd rk rv rr ac)] h) := by
  intro h
  by_cases e1 : 1 ≤ n ∧ n ≤ 4
  · have h4 : n = 1 ∨ n = 2 ∨ n = 3 ∨ n = 4 := by omega
    have e4 : ¬ (0 ≤ s ∧ s ≤ lim4 n) := fun q => h3 ⟨e1, q⟩
    rcases h4 with q | q | q | q <;> subst q
    · have e5 : ¬ (0 ≤ s ∧ s ≤ 9999) := e4
      have h173 : ∀ h, Ca 173 [.int (ii 4)] (wd [] h) (.inl (some (.long (ll 10000))), wd [] h) := c173 (e := 4) (by omega)
      refine E_in (lv := [_, _, _, _, _, _]) rfl ?_
      refine E_aload pf_174_0 rfl ?_
      refine E_iload pf_174_1 rfl ?_
      refine E_i2l pf_174_2 (by omega) ?_
      refine E_lconst pf_174_3 ?_
      refine E_lconst pf_174_4 ?_
      refine F_c3v0 pf_174_7 (c109t (by omega) (by omega)) (trivial) rfl ?_
      refine E_if_eq_f pf_174_10 (by omega) ?_
      refine E_lload pf_174_13 rfl ?_
      refine E_lconst pf_174_14 ?_
      refine E_iconst pf_174_15 ?_
      refine E_iload pf_174_16 rfl ?_
      refine E_imul pf_174_17 ?_
      refine E_ti (b := 4) (by omega) ?_
      refine F_c1v0 pf_174_18 (h173) (trivial) rfl ?_
      refine E_lconst pf_174_21 ?_
      refine E_lsub pf_174_22 ?_
      refine F_c3v0 pf_174_23 (c109f (by omega) (by omega)) (trivial) rfl ?_
      refine E_if_eq_t pf_174_26 (by omega) ?_
      refine E_iconst pf_174_33 ?_
      refine F_v2v (l' := [(_, _)]) pf_174_34 (c108_1) (And.intro rfl (trivial)) rfl rfl rfl rfl ?_
      refine E_if_eq_f pf_174_37 (by omega) ?_
      refine E_iconst pf_174_40 ?_
      exact E_iret pf_174_41 rfl
    · have e5 : ¬ (0 ≤ s ∧ s ≤ 99999999) := e4
      have h173 : ∀ h, Ca 173 [.int (ii 8)] (wd [] h) (.inl (some (.long (ll 100000000))), wd [] h) := c173 (e := 8) (by omega)
      refine E_in (lv := [_, _, _, _, _, _]) rfl ?_
      refine E_aload pf_174_0 rfl ?_
      refine E_iload pf_174_1 rfl ?_
      refine E_i2l pf_174_2 (by omega) ?_
      refine E_lconst pf_174_3 ?_
      refine E_lconst pf_174_4 ?_
      refine F_c3v0 pf_174_7 (c109t (by omega) (by omega)) (trivial) rfl ?_
      refine E_if_eq_f pf_174_10 (by omega) ?_
      refine E_lload pf_174_13 rfl ?_
      refine E_lconst pf_174_14 ?_
      refine E_iconst pf_174_15 ?_
      refine E_iload pf_174_16 rfl ?_
      refine E_imul pf_174_17 ?_
      refine E_ti (b := 8) (by omega) ?_
      refine F_c1v0 pf_174_18 (h173) (trivial) rfl ?_
      refine E_lconst pf_174_21 ?_
      refine E_lsub pf_174_22 ?_
      refine F_c3v0 pf_174_23 (c109f (by omega) (by omega)) (trivial) rfl ?_
      refine E_if_eq_t pf_174_26 (by omega) ?_
      refine E_iconst pf_174_33 ?_
      refine F_v2v (l' := [(_, _)]) pf_174_34 (c108_1) (And.intro rfl (trivial)) rfl rfl rfl rfl ?_
      refine E_if_eq_f pf_174_37 (by omega) ?_
      refine E_iconst pf_174_40 ?_
      exact E_iret pf_174_41 rfl
    · have e5 : ¬ (0 ≤ s ∧ s ≤ 999999999999) := e4
      have h173 : ∀ h, Ca 173 [.int (ii 12)] (wd [] h) (.inl (some (.long (ll 1000000000000))), wd [] h) := c173 (e := 12) (by omega)
      refine E_in (lv := [_, _, _, _, _, _]) rfl ?_
      refine E_aload pf_174_0 rfl ?_
      refine E_iload pf_174_1 rfl ?_
      refine E_i2l pf_174_2 (by omega) ?_
      refine E_lconst pf_174_3 ?_
      refine E_lconst pf_174_4 ?_
      refine F_c3v0 pf_174_7 (c109t (by omega) (by omega)) (trivial) rfl ?_
      refine E_if_eq_f pf_174_10 (by omega) ?_
      refine E_lload pf_174_13 rfl ?_
      refine E_lconst pf_174_14 ?_
      refine E_iconst pf_174_15 ?_
      refine E_iload pf_174_16 rfl ?_
      refine E_imul pf_174_17 ?_
      refine E_ti (b := 12) (by omega) ?_
      refine F_c1v0 pf_174_18 (h173) (trivial) rfl ?_
      refine E_lconst pf_174_21 ?_
      refine E_lsub pf_174_22 ?_
      refine F_c3v0 pf_174_23 (c109f (by omega) (by omega)) (trivial) rfl ?_
      refine E_if_eq_t pf_174_26 (by omega) ?_
      refine E_iconst pf_174_33 ?_
      refine F_v2v (l' := [(_, _)]) pf_174_34 (c108_1) (And.intro rfl (trivial)) rfl rfl rfl rfl ?_
      refine E_if_eq_f pf_174_37 (by omega) ?_
      refine E_iconst pf_174_40 ?_
      exact E_iret pf_174_41 rfl
    · have e5 : ¬ (0 ≤ s ∧ s ≤ 9999999999999999) := e4
      have h173 : ∀ h, Ca 173 [.int (ii 16)] (wd [] h) (.inl (some (.long (ll 10000000000000000))), wd [] h) := c173 (e := 16) (by omega)
      refine E_in (lv := [_, _, _, _, _, _]) rfl ?_
      refine E_aload pf_174_0 rfl ?_
      refine E_iload pf_174_1 rfl ?_
      refine E_i2l pf_174_2 (by omega) ?_
      refine E_lconst pf_174_3 ?_
      refine E_lconst pf_174_4 ?_
      refine F_c3v0 pf_174_7 (c109t (by omega) (by omega)) (trivial) rfl ?_
      refine E_if_eq_f pf_174_10 (by omega) ?_
      refine E_lload pf_174_13 rfl ?_
      refine E_lconst pf_174_14 ?_
      refine E_iconst pf_174_15 ?_
      refine E_iload pf_174_16 rfl ?_
      refine E_imul pf_174_17 ?_
      refine E_ti (b := 16) (by omega) ?_
      refine F_c1v0 pf_174_18 (h173) (trivial) rfl ?_
      refine E_lconst pf_174_21 ?_
      refine E_lsub pf_174_22 ?_
      refine F_c3v0 pf_174_23 (c109f (by omega) (by omega)) (trivial) rfl ?_
      refine E_if_eq_t pf_174_26 (by omega) ?_
      refine E_iconst pf_174_33 ?_
      refine F_v2v (l' := [(_, _)]) pf_174_34 (c108_1) (And.intro rfl (trivial)) rfl rfl rfl rfl ?_
      refine E_if_eq_f pf_174_37 (by omega) ?_
      refine E_iconst pf_174_40 ?_
      exact E_iret pf_174_41 rfl
  · refine E_in (lv := [_, _, _, _, _, _]) rfl ?_
    refine E_aload pf_174_0 rfl ?_
    refine E_iload pf_174_1 rfl ?_
    refine E_i2l pf_174_2 (by omega) ?_
    refine E_lconst pf_174_3 ?_
    refine E_lconst pf_174_4 ?_
    refine F_c3v0 pf_174_7 (c109f (by omega) (by omega)) (trivial) rfl ?_
    refine E_if_eq_t pf_174_10 (by omega) ?_
    refine E_iconst pf_174_33 ?_
    refine F_v2v (l' := [(_, _)]) pf_174_34 (c108_1) (And.intro rfl (trivial)) rfl rfl rfl rfl ?_
    refine E_if_eq_f pf_174_37 (by omega) ?_
    refine E_iconst pf_174_40 ?_
    exact E_iret pf_174_41 rfl
end SIM
