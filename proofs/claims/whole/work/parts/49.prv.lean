/-! preview and stepsUntil, both sides. -/
section PRV
variable {C P R V U r rt x rs sl mv Q Q2 bg wy : Int → Int} {rf ts tl sp kd rd rk rv rr ac k st dr pu be : Int} {m dn rn vn : Nat} {Tr : pg}
theorem zV_in (hp : pgk (vn : Int) r m) (hP : ppk P dn vn rn) : -4000000000000 ≤ zV r P m dn rn ∧ zV r P m dn rn ≤ 4000000000000 := by
  have h4 := hP.2.2.1
  have := zs_le (f := fun k => zR r P m dn k * zR r P m dn k) (n := rn) (B := 787500 * 787500) fun k hk => by
    have h1 := zR_le hp hP (k := (k : Int)) (by omega)
    exact mul_le h1 h1
  have h5 : (rn : Int) * (787500 * 787500) ≤ 4 * (787500 * 787500) := Int.mul_le_mul_of_nonneg_right (by omega) (by omega)
  unfold zV
  omega
theorem prv {how wh : Int} (hh : 0 ≤ how ∧ how ≤ 2) (hw : 0 ≤ wh ∧ wh ≤ 3) (ok : okq vn R V U st dr r m) (pl : plk dn vn rn C P) : ∃ v : Int, (-9223372036854775808 ≤ v ∧ v ≤ 9223372036854775807) ∧ (∃ (pu' be' : Int) (x' rs' sl' mv' Q' : Int → Int) (Tr' : pg), ∀ h, Ca 89 [.ref 1, .int (ii how), .int (ii wh)] (wd [(1, oPD tl), (13, oP (dn : Int) k (vn : Int)), (14, ar 96 C), (18, oD pu be), (19, ar 4 x), (20, ar 4 rs), (21, lr 4 sl), (22, ar 4 mv), (23, ar 24 Q), (24, oS24 (rn : Int) (m : Int) st dr), (25, ar 20 R), (26, ar 24 V), (27, ar 24 U), (28, pst 28 Tr), (29, ar 20 Tr.2.1), (30, ar 24 Tr.2.2.2.1), (31, ar 24 Tr.2.2.2.2.1)] h) (.inl (some (.long (ll v))), wd [(1, oPD tl), (13, oP (dn : Int) k (vn : Int)), (14, ar 96 C), (18, oD pu' be'), (19, ar 4 x'), (20, ar 4 rs'), (21, lr 4 sl'), (22, ar 4 mv'), (23, ar 24 Q'), (24, oS24 (rn : Int) (m : Int) st dr), (25, ar 20 R), (26, ar 24 V), (27, ar 24 U), (28, pst 28 Tr'), (29, ar 20 Tr'.2.1), (30, ar 24 Tr'.2.2.2.1), (31, ar 24 Tr'.2.2.2.2.1)] h)) ∧ (∃ rt' Q' bg' wy' : Int → Int, ∀ h, Ca 169 [.ref 102, .int (ii how), .int (ii wh)] (wd [(102, oX6 rf ts sp (dn : Int) kd (vn : Int) (rn : Int) rd rk rv rr ac), (104, ar 128 P), (107, ar 72 r), (108, ar 72 rt), (112, ar 24 Q2), (113, lr 4 bg), (114, lr 4 wy)] h) (.inl (some (.long (ll v))), wd [(102, oX6 0 ts sp (dn : Int) kd (vn : Int) (rn : Int) rd rk rv rr ac), (104, ar 128 P), (107, ar 72 r), (108, ar 72 rt'), (112, ar 24 Q'), (113, lr 4 bg'), (114, lr 4 wy')] h)) := by
  have hv := plk_v pl
  have hs := okq_sok ok hv.2.1.2
  have hp := okq_pgk ok hv.2.1.2
  have ok1 : okq vn (zcpy R Tr.2.1 0 0 20) (zcpy V Tr.2.2.2.1 0 0 24) (zcpy U Tr.2.2.2.2.1 0 0 24) st dr (zcpy r rt 0 0 72) m := okq_cp ok hv.2.1.2 fun y h1 h2 => by rw [zcpy_at (by omega)]; congr 1; omega
  have hs1 := okq_sok ok1 hv.2.1.2
  have hp1 := okq_pgk ok1 hv.2.1.2
  by_cases hps : how ≠ 1 ∨ 1 < m
  · obtain ⟨t, m1, V1, U1, r1, st1, dr1, ht, okn, ⟨pu1, be1, x1, rs1, sl1, mv1, Q1, a2⟩, ⟨Q3, bg1, wy1, b2⟩⟩ := stp_t (k := k) (pu := pu) (be := be) (x := x) (rs := rs) (sl := sl) (mv := mv) (Q := Q) (Q2 := Q2) (bg := bg) (wy := wy) (ts := ts) (sp := sp) (kd := kd) (rd := rd) (rk := rk) (rv := rv) (rr := rr) (ac := ac) (rf := 0) (how := how) (by omega) ok1 pl
    have hsn := okq_sok okn hv.2.1.2
    have hpn := okq_pgk okn hv.2.1.2
    have hcn := okq_cpl okn pl
    have hmn := okq_m okn hv.2.1.2
    have h68 := okn.2.2.2.1
    have h4w : wh = 0 ∨ wh = 1 ∨ wh = 2 ∨ wh = 3 := by omega
    rcases h4w with q | q | q | q <;> subst q
    · -- 0
      refine ⟨t, by omega, ⟨pu1, be1, x1, rs1, sl1, mv1, Q1, ((rn : Int), (zcpy R Tr.2.1 0 0 20), (m1 : Int), V1, U1, st1, dr1), fun h => ?_⟩, ⟨r1, Q3, bg1, wy1, fun h => ?_⟩⟩
      · refine E_in (lv := [_, _, _, _]) rfl ?_
        refine E_iload pf_89_0 rfl ?_
        refine F_c1v0 pf_89_1 (c97t (by omega)) (trivial) rfl ?_
        refine E_if_eq_f pf_89_4 (by omega) ?_
        refine E_iload pf_89_7 rfl ?_
        refine E_if_lt_f pf_89_8 (by omega) ?_
        refine E_iload pf_89_11 rfl ?_
        refine E_iconst pf_89_12 ?_
        refine E_icmp_gt_f pf_89_13 (by omega) ?_
        refine E_iconst pf_89_16 ?_
        refine E_goto pf_89_17 ?_
        refine F_c1u0 pf_89_21 (c96) (trivial) rfl ?_
        refine E_aload pf_89_24 rfl ?_
        refine F_getf pf_89_25 rfl rfl rfl ?_
        refine E_aload pf_89_28 rfl ?_
        refine F_getf pf_89_29 rfl rfl rfl ?_
        refine E_iload pf_89_32 rfl ?_
        refine F_v3v0 pf_89_33 (c10st hs (by omega) hps) (And.intro rfl (And.intro rfl (trivial))) rfl rfl ?_
        refine E_if_ne_t pf_89_36 (by omega) ?_
        refine E_aload pf_89_43 rfl ?_
        refine F_getf pf_89_44 rfl rfl rfl ?_
        refine E_aload pf_89_47 rfl ?_
        refine F_getf pf_89_48 rfl rfl rfl ?_
        refine F_v2u (l' := [(_, _), (_, _), (_, _), (_, _), (_, _), (_, _), (_, _), (_, _), (_, _), (_, _), (_, _), (_, _), (_, _), (_, _), (_, _), (_, _), (_, _)]) pf_89_51 (c52_28_24 (p := ((rn : Int), R, (m : Int), V, U, st, dr)) (p0 := Tr)) (And.intro rfl (And.intro rfl (And.intro rfl (And.intro rfl (And.intro rfl (And.intro rfl (And.intro rfl (And.intro rfl (trivial))))))))) rfl rfl rfl rfl ?_
        refine E_aload pf_89_54 rfl ?_
        refine F_getf pf_89_55 rfl rfl rfl ?_
        refine E_aload pf_89_58 rfl ?_
        refine F_getf pf_89_59 rfl rfl rfl ?_
        refine E_iload pf_89_62 rfl ?_
        refine F_v3v (l' := [(_, _), (_, _), (_, _), (_, _), (_, _), (_, _), (_, _), (_, _), (_, _), (_, _), (_, _), (_, _), (_, _), (_, _), (_, _), (_, _), (_, _)]) pf_89_63 (a2) (And.intro rfl (And.intro rfl (And.intro rfl (And.intro rfl (And.intro rfl (And.intro rfl (And.intro rfl (And.intro rfl (And.intro rfl (And.intro rfl (And.intro rfl (And.intro rfl (trivial))))))))))))) rfl rfl rfl rfl ?_
        refine E_istore (lv' := [_, _, _, _]) pf_89_66 rfl rfl ?_
        refine E_iload pf_89_67 rfl ?_
        refine E_tsw pf_89_68 (by omega) rfl ?_
        refine E_iload pf_89_96 rfl ?_
        refine E_i2l pf_89_97 (by omega) ?_
        exact E_lret pf_89_98 rfl
      · refine E_in (lv := [_, _, _, _]) rfl ?_
        refine E_aload pf_169_0 rfl ?_
        refine E_iload pf_169_1 rfl ?_
        refine E_i2l pf_169_2 (by omega) ?_
        refine E_lconst pf_169_3 ?_
        refine E_lconst pf_169_4 ?_
        refine F_c3v0 pf_169_7 (c109t (by omega) (by omega)) (trivial) rfl ?_
        refine E_if_eq_f pf_169_10 (by omega) ?_
        refine E_iload pf_169_13 rfl ?_
        refine E_i2l pf_169_14 (by omega) ?_
        refine E_lconst pf_169_15 ?_
        refine E_lconst pf_169_16 ?_
        refine F_c3v0 pf_169_19 (c109t (by omega) (by omega)) (trivial) rfl ?_
        refine E_if_eq_f pf_169_22 (by omega) ?_
        refine E_iconst pf_169_25 ?_
        refine E_goto pf_169_26 ?_
        refine F_v2v (l' := [(_, _), (_, _), (_, _), (_, _), (_, _), (_, _), (_, _)]) pf_169_30 (c108_0) (And.intro rfl (trivial)) rfl rfl rfl rfl ?_
        refine E_if_eq_t pf_169_33 (by omega) ?_
        refine E_aload pf_169_38 rfl ?_
        refine F_getf pf_169_39 rfl rfl rfl ?_
        refine E_iconst pf_169_42 ?_
        refine E_aload pf_169_43 rfl ?_
        refine F_getf pf_169_44 rfl rfl rfl ?_
        refine E_iconst pf_169_47 ?_
        refine F_c4u (l' := [(_, _), (_, _), (_, _), (_, _), (_, _), (_, _), (_, _)]) pf_169_48 (c110nt (by omega) (by omega)) (And.intro rfl (And.intro rfl (trivial))) rfl rfl rfl ?_
        refine E_aload pf_169_51 rfl ?_
        refine E_aload pf_169_52 rfl ?_
        refine F_getf pf_169_53 rfl rfl rfl ?_
        refine E_iload pf_169_56 rfl ?_
        refine F_v3v (l' := [(_, _), (_, _), (_, _), (_, _), (_, _), (_, _), (_, _)]) pf_169_57 (b2) (And.intro rfl (And.intro rfl (And.intro rfl (And.intro rfl (And.intro rfl (And.intro rfl (trivial))))))) rfl rfl rfl rfl ?_
        refine E_istore (lv' := [_, _, _, _]) pf_169_60 rfl rfl ?_
        refine E_iload pf_169_61 rfl ?_
        refine E_iconst pf_169_62 ?_
        refine E_icmp_ne_t pf_169_64 (by omega) ?_
        refine E_iload pf_169_71 rfl ?_
        refine E_if_ne_f pf_169_72 (by omega) ?_
        refine E_iload pf_169_75 rfl ?_
        refine E_i2l pf_169_76 (by omega) ?_
        refine E_goto pf_169_77 ?_
        skip
        exact E_lret pf_169_120 rfl
    · -- 1
      have e4 := c4t (d := (dn : Int)) (k := k) (pu := pu1) (be := be1) (x := x1) (rs := rs1) (sl := sl1) (st := st1) (dr := dr1) hsn pl.1
      rw [cpl_Val hcn hsn pl.1] at e4
      have e5 := zV_in hpn pl.2.1
      refine ⟨(zV r1 P m1 dn rn), by omega, ⟨pu1, be1, zfill x1 (yX V1 U1 C m1) 4, zfill rs1 (eR (zcpy R Tr.2.1 0 0 20) V1 U1 C m1) rn, zfill sl1 (eS (zcpy R Tr.2.1 0 0 20) V1 U1 C m1 rn) 4, mv1, Q1, ((rn : Int), (zcpy R Tr.2.1 0 0 20), (m1 : Int), V1, U1, st1, dr1), fun h => ?_⟩, ⟨r1, Q3, bg1, wy1, fun h => ?_⟩⟩
      · refine E_in (lv := [_, _, _, _]) rfl ?_
        refine E_iload pf_89_0 rfl ?_
        refine F_c1v0 pf_89_1 (c97t (by omega)) (trivial) rfl ?_
        refine E_if_eq_f pf_89_4 (by omega) ?_
        refine E_iload pf_89_7 rfl ?_
        refine E_if_lt_f pf_89_8 (by omega) ?_
        refine E_iload pf_89_11 rfl ?_
        refine E_iconst pf_89_12 ?_
        refine E_icmp_gt_f pf_89_13 (by omega) ?_
        refine E_iconst pf_89_16 ?_
        refine E_goto pf_89_17 ?_
        refine F_c1u0 pf_89_21 (c96) (trivial) rfl ?_
        refine E_aload pf_89_24 rfl ?_
        refine F_getf pf_89_25 rfl rfl rfl ?_
        refine E_aload pf_89_28 rfl ?_
        refine F_getf pf_89_29 rfl rfl rfl ?_
        refine E_iload pf_89_32 rfl ?_
        refine F_v3v0 pf_89_33 (c10st hs (by omega) hps) (And.intro rfl (And.intro rfl (trivial))) rfl rfl ?_
        refine E_if_ne_t pf_89_36 (by omega) ?_
        refine E_aload pf_89_43 rfl ?_
        refine F_getf pf_89_44 rfl rfl rfl ?_
        refine E_aload pf_89_47 rfl ?_
        refine F_getf pf_89_48 rfl rfl rfl ?_
        refine F_v2u (l' := [(_, _), (_, _), (_, _), (_, _), (_, _), (_, _), (_, _), (_, _), (_, _), (_, _), (_, _), (_, _), (_, _), (_, _), (_, _), (_, _), (_, _)]) pf_89_51 (c52_28_24 (p := ((rn : Int), R, (m : Int), V, U, st, dr)) (p0 := Tr)) (And.intro rfl (And.intro rfl (And.intro rfl (And.intro rfl (And.intro rfl (And.intro rfl (And.intro rfl (And.intro rfl (trivial))))))))) rfl rfl rfl rfl ?_
        refine E_aload pf_89_54 rfl ?_
        refine F_getf pf_89_55 rfl rfl rfl ?_
        refine E_aload pf_89_58 rfl ?_
        refine F_getf pf_89_59 rfl rfl rfl ?_
        refine E_iload pf_89_62 rfl ?_
        refine F_v3v (l' := [(_, _), (_, _), (_, _), (_, _), (_, _), (_, _), (_, _), (_, _), (_, _), (_, _), (_, _), (_, _), (_, _), (_, _), (_, _), (_, _), (_, _)]) pf_89_63 (a2) (And.intro rfl (And.intro rfl (And.intro rfl (And.intro rfl (And.intro rfl (And.intro rfl (And.intro rfl (And.intro rfl (And.intro rfl (And.intro rfl (And.intro rfl (And.intro rfl (trivial))))))))))))) rfl rfl rfl rfl ?_
        refine E_istore (lv' := [_, _, _, _]) pf_89_66 rfl rfl ?_
        refine E_iload pf_89_67 rfl ?_
        refine E_tsw pf_89_68 (by omega) rfl ?_
        refine E_aload pf_89_99 rfl ?_
        refine F_getf pf_89_100 rfl rfl rfl ?_
        refine E_aload pf_89_103 rfl ?_
        refine F_getf pf_89_104 rfl rfl rfl ?_
        refine F_v2v (l' := [(_, _), (_, _), (_, _), (_, _), (_, _), (_, _), (_, _), (_, _), (_, _), (_, _), (_, _), (_, _), (_, _), (_, _), (_, _), (_, _), (_, _)]) pf_89_107 (e4) (And.intro rfl (And.intro rfl (And.intro rfl (And.intro rfl (And.intro rfl (And.intro rfl (And.intro rfl (And.intro rfl (And.intro rfl (And.intro rfl (trivial))))))))))) rfl rfl rfl rfl ?_
        exact E_lret pf_89_110 rfl
      · refine E_in (lv := [_, _, _, _]) rfl ?_
        refine E_aload pf_169_0 rfl ?_
        refine E_iload pf_169_1 rfl ?_
        refine E_i2l pf_169_2 (by omega) ?_
        refine E_lconst pf_169_3 ?_
        refine E_lconst pf_169_4 ?_
        refine F_c3v0 pf_169_7 (c109t (by omega) (by omega)) (trivial) rfl ?_
        refine E_if_eq_f pf_169_10 (by omega) ?_
        refine E_iload pf_169_13 rfl ?_
        refine E_i2l pf_169_14 (by omega) ?_
        refine E_lconst pf_169_15 ?_
        refine E_lconst pf_169_16 ?_
        refine F_c3v0 pf_169_19 (c109t (by omega) (by omega)) (trivial) rfl ?_
        refine E_if_eq_f pf_169_22 (by omega) ?_
        refine E_iconst pf_169_25 ?_
        refine E_goto pf_169_26 ?_
        refine F_v2v (l' := [(_, _), (_, _), (_, _), (_, _), (_, _), (_, _), (_, _)]) pf_169_30 (c108_0) (And.intro rfl (trivial)) rfl rfl rfl rfl ?_
        refine E_if_eq_t pf_169_33 (by omega) ?_
        refine E_aload pf_169_38 rfl ?_
        refine F_getf pf_169_39 rfl rfl rfl ?_
        refine E_iconst pf_169_42 ?_
        refine E_aload pf_169_43 rfl ?_
        refine F_getf pf_169_44 rfl rfl rfl ?_
        refine E_iconst pf_169_47 ?_
        refine F_c4u (l' := [(_, _), (_, _), (_, _), (_, _), (_, _), (_, _), (_, _)]) pf_169_48 (c110nt (by omega) (by omega)) (And.intro rfl (And.intro rfl (trivial))) rfl rfl rfl ?_
        refine E_aload pf_169_51 rfl ?_
        refine E_aload pf_169_52 rfl ?_
        refine F_getf pf_169_53 rfl rfl rfl ?_
        refine E_iload pf_169_56 rfl ?_
        refine F_v3v (l' := [(_, _), (_, _), (_, _), (_, _), (_, _), (_, _), (_, _)]) pf_169_57 (b2) (And.intro rfl (And.intro rfl (And.intro rfl (And.intro rfl (And.intro rfl (And.intro rfl (trivial))))))) rfl rfl rfl rfl ?_
        refine E_istore (lv' := [_, _, _, _]) pf_169_60 rfl rfl ?_
        refine E_iload pf_169_61 rfl ?_
        refine E_iconst pf_169_62 ?_
        refine E_icmp_ne_t pf_169_64 (by omega) ?_
        refine E_iload pf_169_71 rfl ?_
        refine E_if_ne_t pf_169_72 (by omega) ?_
        refine E_iload pf_169_80 rfl ?_
        refine E_iconst pf_169_81 ?_
        refine E_icmp_ne_f pf_169_82 (by omega) ?_
        refine E_aload pf_169_85 rfl ?_
        refine E_aload pf_169_86 rfl ?_
        refine F_getf pf_169_87 rfl rfl rfl ?_
        refine F_v2v0 pf_169_90 (c115t hpn pl.2.1) (And.intro rfl (And.intro rfl (And.intro rfl (trivial)))) rfl rfl ?_
        refine E_goto pf_169_93 ?_
        skip
        exact E_lret pf_169_120 rfl
    · -- 2
      have e4 := c7t (d := (dn : Int)) (k := k) (pu := pu1) (be := be1) (x := x1) (rs := rs1) (sl := sl1) (st := st1) (dr := dr1) hsn pl.1
      rw [cpl_Gap hcn hsn pl.1] at e4
      have e5 := zGap_in hpn pl.2.1
      refine ⟨(zGap r1 P m1 dn rn vn), by omega, ⟨pu1, be1, zfill x1 (yX V1 U1 C m1) 4, zfill rs1 (eR (zcpy R Tr.2.1 0 0 20) V1 U1 C m1) rn, zfill sl1 (eS (zcpy R Tr.2.1 0 0 20) V1 U1 C m1 rn) 4, mv1, Q1, ((rn : Int), (zcpy R Tr.2.1 0 0 20), (m1 : Int), V1, U1, st1, dr1), fun h => ?_⟩, ⟨r1, Q3, bg1, wy1, fun h => ?_⟩⟩
      · refine E_in (lv := [_, _, _, _]) rfl ?_
        refine E_iload pf_89_0 rfl ?_
        refine F_c1v0 pf_89_1 (c97t (by omega)) (trivial) rfl ?_
        refine E_if_eq_f pf_89_4 (by omega) ?_
        refine E_iload pf_89_7 rfl ?_
        refine E_if_lt_f pf_89_8 (by omega) ?_
        refine E_iload pf_89_11 rfl ?_
        refine E_iconst pf_89_12 ?_
        refine E_icmp_gt_f pf_89_13 (by omega) ?_
        refine E_iconst pf_89_16 ?_
        refine E_goto pf_89_17 ?_
        refine F_c1u0 pf_89_21 (c96) (trivial) rfl ?_
        refine E_aload pf_89_24 rfl ?_
        refine F_getf pf_89_25 rfl rfl rfl ?_
        refine E_aload pf_89_28 rfl ?_
        refine F_getf pf_89_29 rfl rfl rfl ?_
        refine E_iload pf_89_32 rfl ?_
        refine F_v3v0 pf_89_33 (c10st hs (by omega) hps) (And.intro rfl (And.intro rfl (trivial))) rfl rfl ?_
        refine E_if_ne_t pf_89_36 (by omega) ?_
        refine E_aload pf_89_43 rfl ?_
        refine F_getf pf_89_44 rfl rfl rfl ?_
        refine E_aload pf_89_47 rfl ?_
        refine F_getf pf_89_48 rfl rfl rfl ?_
        refine F_v2u (l' := [(_, _), (_, _), (_, _), (_, _), (_, _), (_, _), (_, _), (_, _), (_, _), (_, _), (_, _), (_, _), (_, _), (_, _), (_, _), (_, _), (_, _)]) pf_89_51 (c52_28_24 (p := ((rn : Int), R, (m : Int), V, U, st, dr)) (p0 := Tr)) (And.intro rfl (And.intro rfl (And.intro rfl (And.intro rfl (And.intro rfl (And.intro rfl (And.intro rfl (And.intro rfl (trivial))))))))) rfl rfl rfl rfl ?_
        refine E_aload pf_89_54 rfl ?_
        refine F_getf pf_89_55 rfl rfl rfl ?_
        refine E_aload pf_89_58 rfl ?_
        refine F_getf pf_89_59 rfl rfl rfl ?_
        refine E_iload pf_89_62 rfl ?_
        refine F_v3v (l' := [(_, _), (_, _), (_, _), (_, _), (_, _), (_, _), (_, _), (_, _), (_, _), (_, _), (_, _), (_, _), (_, _), (_, _), (_, _), (_, _), (_, _)]) pf_89_63 (a2) (And.intro rfl (And.intro rfl (And.intro rfl (And.intro rfl (And.intro rfl (And.intro rfl (And.intro rfl (And.intro rfl (And.intro rfl (And.intro rfl (And.intro rfl (And.intro rfl (trivial))))))))))))) rfl rfl rfl rfl ?_
        refine E_istore (lv' := [_, _, _, _]) pf_89_66 rfl rfl ?_
        refine E_iload pf_89_67 rfl ?_
        refine E_tsw pf_89_68 (by omega) rfl ?_
        refine E_aload pf_89_111 rfl ?_
        refine F_getf pf_89_112 rfl rfl rfl ?_
        refine E_aload pf_89_115 rfl ?_
        refine F_getf pf_89_116 rfl rfl rfl ?_
        refine F_v2v (l' := [(_, _), (_, _), (_, _), (_, _), (_, _), (_, _), (_, _), (_, _), (_, _), (_, _), (_, _), (_, _), (_, _), (_, _), (_, _), (_, _), (_, _)]) pf_89_119 (e4) (And.intro rfl (And.intro rfl (And.intro rfl (And.intro rfl (And.intro rfl (And.intro rfl (And.intro rfl (And.intro rfl (And.intro rfl (And.intro rfl (trivial))))))))))) rfl rfl rfl rfl ?_
        exact E_lret pf_89_122 rfl
      · refine E_in (lv := [_, _, _, _]) rfl ?_
        refine E_aload pf_169_0 rfl ?_
        refine E_iload pf_169_1 rfl ?_
        refine E_i2l pf_169_2 (by omega) ?_
        refine E_lconst pf_169_3 ?_
        refine E_lconst pf_169_4 ?_
        refine F_c3v0 pf_169_7 (c109t (by omega) (by omega)) (trivial) rfl ?_
        refine E_if_eq_f pf_169_10 (by omega) ?_
        refine E_iload pf_169_13 rfl ?_
        refine E_i2l pf_169_14 (by omega) ?_
        refine E_lconst pf_169_15 ?_
        refine E_lconst pf_169_16 ?_
        refine F_c3v0 pf_169_19 (c109t (by omega) (by omega)) (trivial) rfl ?_
        refine E_if_eq_f pf_169_22 (by omega) ?_
        refine E_iconst pf_169_25 ?_
        refine E_goto pf_169_26 ?_
        refine F_v2v (l' := [(_, _), (_, _), (_, _), (_, _), (_, _), (_, _), (_, _)]) pf_169_30 (c108_0) (And.intro rfl (trivial)) rfl rfl rfl rfl ?_
        refine E_if_eq_t pf_169_33 (by omega) ?_
        refine E_aload pf_169_38 rfl ?_
        refine F_getf pf_169_39 rfl rfl rfl ?_
        refine E_iconst pf_169_42 ?_
        refine E_aload pf_169_43 rfl ?_
        refine F_getf pf_169_44 rfl rfl rfl ?_
        refine E_iconst pf_169_47 ?_
        refine F_c4u (l' := [(_, _), (_, _), (_, _), (_, _), (_, _), (_, _), (_, _)]) pf_169_48 (c110nt (by omega) (by omega)) (And.intro rfl (And.intro rfl (trivial))) rfl rfl rfl ?_
        refine E_aload pf_169_51 rfl ?_
        refine E_aload pf_169_52 rfl ?_
        refine F_getf pf_169_53 rfl rfl rfl ?_
        refine E_iload pf_169_56 rfl ?_
        refine F_v3v (l' := [(_, _), (_, _), (_, _), (_, _), (_, _), (_, _), (_, _)]) pf_169_57 (b2) (And.intro rfl (And.intro rfl (And.intro rfl (And.intro rfl (And.intro rfl (And.intro rfl (trivial))))))) rfl rfl rfl rfl ?_
        refine E_istore (lv' := [_, _, _, _]) pf_169_60 rfl rfl ?_
        refine E_iload pf_169_61 rfl ?_
        refine E_iconst pf_169_62 ?_
        refine E_icmp_ne_t pf_169_64 (by omega) ?_
        refine E_iload pf_169_71 rfl ?_
        refine E_if_ne_t pf_169_72 (by omega) ?_
        refine E_iload pf_169_80 rfl ?_
        refine E_iconst pf_169_81 ?_
        refine E_icmp_ne_t pf_169_82 (by omega) ?_
        refine E_iload pf_169_96 rfl ?_
        refine E_iconst pf_169_97 ?_
        refine E_icmp_ne_f pf_169_98 (by omega) ?_
        refine E_aload pf_169_101 rfl ?_
        refine E_aload pf_169_102 rfl ?_
        refine F_getf pf_169_103 rfl rfl rfl ?_
        refine F_v2v0 pf_169_106 (c120t hpn pl.2.1) (And.intro rfl (And.intro rfl (And.intro rfl (trivial)))) rfl rfl ?_
        refine E_goto pf_169_109 ?_
        skip
        exact E_lret pf_169_120 rfl
    · -- 3
      refine ⟨(m1 : Int), by omega, ⟨pu1, be1, x1, rs1, sl1, mv1, Q1, ((rn : Int), (zcpy R Tr.2.1 0 0 20), (m1 : Int), V1, U1, st1, dr1), fun h => ?_⟩, ⟨r1, Q3, bg1, wy1, fun h => ?_⟩⟩
      · refine E_in (lv := [_, _, _, _]) rfl ?_
        refine E_iload pf_89_0 rfl ?_
        refine F_c1v0 pf_89_1 (c97t (by omega)) (trivial) rfl ?_
        refine E_if_eq_f pf_89_4 (by omega) ?_
        refine E_iload pf_89_7 rfl ?_
        refine E_if_lt_f pf_89_8 (by omega) ?_
        refine E_iload pf_89_11 rfl ?_
        refine E_iconst pf_89_12 ?_
        refine E_icmp_gt_f pf_89_13 (by omega) ?_
        refine E_iconst pf_89_16 ?_
        refine E_goto pf_89_17 ?_
        refine F_c1u0 pf_89_21 (c96) (trivial) rfl ?_
        refine E_aload pf_89_24 rfl ?_
        refine F_getf pf_89_25 rfl rfl rfl ?_
        refine E_aload pf_89_28 rfl ?_
        refine F_getf pf_89_29 rfl rfl rfl ?_
        refine E_iload pf_89_32 rfl ?_
        refine F_v3v0 pf_89_33 (c10st hs (by omega) hps) (And.intro rfl (And.intro rfl (trivial))) rfl rfl ?_
        refine E_if_ne_t pf_89_36 (by omega) ?_
        refine E_aload pf_89_43 rfl ?_
        refine F_getf pf_89_44 rfl rfl rfl ?_
        refine E_aload pf_89_47 rfl ?_
        refine F_getf pf_89_48 rfl rfl rfl ?_
        refine F_v2u (l' := [(_, _), (_, _), (_, _), (_, _), (_, _), (_, _), (_, _), (_, _), (_, _), (_, _), (_, _), (_, _), (_, _), (_, _), (_, _), (_, _), (_, _)]) pf_89_51 (c52_28_24 (p := ((rn : Int), R, (m : Int), V, U, st, dr)) (p0 := Tr)) (And.intro rfl (And.intro rfl (And.intro rfl (And.intro rfl (And.intro rfl (And.intro rfl (And.intro rfl (And.intro rfl (trivial))))))))) rfl rfl rfl rfl ?_
        refine E_aload pf_89_54 rfl ?_
        refine F_getf pf_89_55 rfl rfl rfl ?_
        refine E_aload pf_89_58 rfl ?_
        refine F_getf pf_89_59 rfl rfl rfl ?_
        refine E_iload pf_89_62 rfl ?_
        refine F_v3v (l' := [(_, _), (_, _), (_, _), (_, _), (_, _), (_, _), (_, _), (_, _), (_, _), (_, _), (_, _), (_, _), (_, _), (_, _), (_, _), (_, _), (_, _)]) pf_89_63 (a2) (And.intro rfl (And.intro rfl (And.intro rfl (And.intro rfl (And.intro rfl (And.intro rfl (And.intro rfl (And.intro rfl (And.intro rfl (And.intro rfl (And.intro rfl (And.intro rfl (trivial))))))))))))) rfl rfl rfl rfl ?_
        refine E_istore (lv' := [_, _, _, _]) pf_89_66 rfl rfl ?_
        refine E_iload pf_89_67 rfl ?_
        refine E_tsd pf_89_68 (by omega) ?_
        refine E_aload pf_89_123 rfl ?_
        refine F_getf pf_89_124 rfl rfl rfl ?_
        refine F_getf pf_89_127 rfl rfl rfl ?_
        refine E_i2l pf_89_130 (by omega) ?_
        exact E_lret pf_89_131 rfl
      · refine E_in (lv := [_, _, _, _]) rfl ?_
        refine E_aload pf_169_0 rfl ?_
        refine E_iload pf_169_1 rfl ?_
        refine E_i2l pf_169_2 (by omega) ?_
        refine E_lconst pf_169_3 ?_
        refine E_lconst pf_169_4 ?_
        refine F_c3v0 pf_169_7 (c109t (by omega) (by omega)) (trivial) rfl ?_
        refine E_if_eq_f pf_169_10 (by omega) ?_
        refine E_iload pf_169_13 rfl ?_
        refine E_i2l pf_169_14 (by omega) ?_
        refine E_lconst pf_169_15 ?_
        refine E_lconst pf_169_16 ?_
        refine F_c3v0 pf_169_19 (c109t (by omega) (by omega)) (trivial) rfl ?_
        refine E_if_eq_f pf_169_22 (by omega) ?_
        refine E_iconst pf_169_25 ?_
        refine E_goto pf_169_26 ?_
        refine F_v2v (l' := [(_, _), (_, _), (_, _), (_, _), (_, _), (_, _), (_, _)]) pf_169_30 (c108_0) (And.intro rfl (trivial)) rfl rfl rfl rfl ?_
        refine E_if_eq_t pf_169_33 (by omega) ?_
        refine E_aload pf_169_38 rfl ?_
        refine F_getf pf_169_39 rfl rfl rfl ?_
        refine E_iconst pf_169_42 ?_
        refine E_aload pf_169_43 rfl ?_
        refine F_getf pf_169_44 rfl rfl rfl ?_
        refine E_iconst pf_169_47 ?_
        refine F_c4u (l' := [(_, _), (_, _), (_, _), (_, _), (_, _), (_, _), (_, _)]) pf_169_48 (c110nt (by omega) (by omega)) (And.intro rfl (And.intro rfl (trivial))) rfl rfl rfl ?_
        refine E_aload pf_169_51 rfl ?_
        refine E_aload pf_169_52 rfl ?_
        refine F_getf pf_169_53 rfl rfl rfl ?_
        refine E_iload pf_169_56 rfl ?_
        refine F_v3v (l' := [(_, _), (_, _), (_, _), (_, _), (_, _), (_, _), (_, _)]) pf_169_57 (b2) (And.intro rfl (And.intro rfl (And.intro rfl (And.intro rfl (And.intro rfl (And.intro rfl (trivial))))))) rfl rfl rfl rfl ?_
        refine E_istore (lv' := [_, _, _, _]) pf_169_60 rfl rfl ?_
        refine E_iload pf_169_61 rfl ?_
        refine E_iconst pf_169_62 ?_
        refine E_icmp_ne_t pf_169_64 (by omega) ?_
        refine E_iload pf_169_71 rfl ?_
        refine E_if_ne_t pf_169_72 (by omega) ?_
        refine E_iload pf_169_80 rfl ?_
        refine E_iconst pf_169_81 ?_
        refine E_icmp_ne_t pf_169_82 (by omega) ?_
        refine E_iload pf_169_96 rfl ?_
        refine E_iconst pf_169_97 ?_
        refine E_icmp_ne_t pf_169_98 (by omega) ?_
        refine E_aload pf_169_112 rfl ?_
        refine F_getf pf_169_113 rfl rfl rfl ?_
        refine E_iconst pf_169_116 ?_
        refine F_iald pf_169_118 rfl (by omega) ?_
        refine E_i2l pf_169_119 (by omega) ?_
        rw [h68]
        exact E_lret pf_169_120 rfl
  · obtain rfl : how = 1 := by omega
    have hx := c124xt (rf := 0) (ts := ts) (sp := sp) (k := kd) (rd := rd) (rk := rk) (rv := rv) (rr := rr) (ac := ac) (P := P) (Q := Q2) (bg := bg) (wy := wy) (dn := dn) (rn := rn) hp1 (by omega)
    refine ⟨-9, by omega, ⟨pu, be, x, rs, sl, mv, Q, Tr, fun h => ?_⟩, ⟨(zcpy r rt 0 0 72), Q2, bg, wy, fun h => ?_⟩⟩
    · refine E_in (lv := [_, _, _, _]) rfl ?_
      refine E_iload pf_89_0 rfl ?_
      refine F_c1v0 pf_89_1 (c97t (by omega)) (trivial) rfl ?_
      refine E_if_eq_f pf_89_4 (by omega) ?_
      refine E_iload pf_89_7 rfl ?_
      refine E_if_lt_f pf_89_8 (by omega) ?_
      refine E_iload pf_89_11 rfl ?_
      refine E_iconst pf_89_12 ?_
      refine E_icmp_gt_f pf_89_13 (by omega) ?_
      refine E_iconst pf_89_16 ?_
      refine E_goto pf_89_17 ?_
      refine F_c1u0 pf_89_21 (c96) (trivial) rfl ?_
      refine E_aload pf_89_24 rfl ?_
      refine F_getf pf_89_25 rfl rfl rfl ?_
      refine E_aload pf_89_28 rfl ?_
      refine F_getf pf_89_29 rfl rfl rfl ?_
      refine E_iload pf_89_32 rfl ?_
      refine F_v3v0 pf_89_33 (c10sf hs (by omega) hps) (And.intro rfl (And.intro rfl (trivial))) rfl rfl ?_
      refine E_if_ne_f pf_89_36 (by omega) ?_
      refine E_lconst pf_89_39 ?_
      exact E_lret pf_89_42 rfl
    · refine E_in (lv := [_, _, _, _]) rfl ?_
      refine E_aload pf_169_0 rfl ?_
      refine E_iload pf_169_1 rfl ?_
      refine E_i2l pf_169_2 (by omega) ?_
      refine E_lconst pf_169_3 ?_
      refine E_lconst pf_169_4 ?_
      refine F_c3v0 pf_169_7 (c109t (by omega) (by omega)) (trivial) rfl ?_
      refine E_if_eq_f pf_169_10 (by omega) ?_
      refine E_iload pf_169_13 rfl ?_
      refine E_i2l pf_169_14 (by omega) ?_
      refine E_lconst pf_169_15 ?_
      refine E_lconst pf_169_16 ?_
      refine F_c3v0 pf_169_19 (c109t (by omega) (by omega)) (trivial) rfl ?_
      refine E_if_eq_f pf_169_22 (by omega) ?_
      refine E_iconst pf_169_25 ?_
      refine E_goto pf_169_26 ?_
      refine F_v2v (l' := [(_, _), (_, _), (_, _), (_, _), (_, _), (_, _), (_, _)]) pf_169_30 (c108_0) (And.intro rfl (trivial)) rfl rfl rfl rfl ?_
      refine E_if_eq_t pf_169_33 (by omega) ?_
      refine E_aload pf_169_38 rfl ?_
      refine F_getf pf_169_39 rfl rfl rfl ?_
      refine E_iconst pf_169_42 ?_
      refine E_aload pf_169_43 rfl ?_
      refine F_getf pf_169_44 rfl rfl rfl ?_
      refine E_iconst pf_169_47 ?_
      refine F_c4u (l' := [(_, _), (_, _), (_, _), (_, _), (_, _), (_, _), (_, _)]) pf_169_48 (c110nt (by omega) (by omega)) (And.intro rfl (And.intro rfl (trivial))) rfl rfl rfl ?_
      refine E_aload pf_169_51 rfl ?_
      refine E_aload pf_169_52 rfl ?_
      refine F_getf pf_169_53 rfl rfl rfl ?_
      refine E_iload pf_169_56 rfl ?_
      refine F_v3v0 pf_169_57 (hx) (And.intro rfl (And.intro rfl (And.intro rfl (And.intro rfl (And.intro rfl (And.intro rfl (trivial))))))) rfl rfl ?_
      refine E_istore (lv' := [_, _, _, _]) pf_169_60 rfl rfl ?_
      refine E_iload pf_169_61 rfl ?_
      refine E_iconst pf_169_62 ?_
      refine E_icmp_ne_f pf_169_64 (by omega) ?_
      refine E_lconst pf_169_67 ?_
      exact E_lret pf_169_70 rfl
theorem c89x {how wh : Int} (h1 : (-2147483648 ≤ how ∧ how ≤ 2147483647)) (h2 : (-2147483648 ≤ wh ∧ wh ≤ 2147483647)) (h3 : ¬ ((0 ≤ how ∧ how ≤ 2) ∧ (0 ≤ wh ∧ wh ≤ 3))) : ∀ h, Ca 89 [.ref 1, .int (ii how), .int (ii wh)] (wd [(1, oPD tl)] h) (.inr 0, pd_thr (wd [(1, oPD tl)] h)) := by
  intro h
  refine E_in (lv := [_, _, _, _]) rfl ?_
  by_cases e : 0 ≤ how ∧ how ≤ 2
  · by_cases e2 : 0 ≤ wh
    ·
      refine E_iload pf_89_0 rfl ?_
      refine F_c1v0 pf_89_1 (c97t (by omega)) (trivial) rfl ?_
      refine E_if_eq_f pf_89_4 (by omega) ?_
      refine E_iload pf_89_7 rfl ?_
      refine E_if_lt_f pf_89_8 (by omega) ?_
      refine E_iload pf_89_11 rfl ?_
      refine E_iconst pf_89_12 ?_
      refine E_icmp_gt_t pf_89_13 (by omega) ?_
      refine E_iconst pf_89_20 ?_
      exact E_c1x pf_89_21 rfl (c96x _) rfl
    ·
      refine E_iload pf_89_0 rfl ?_
      refine F_c1v0 pf_89_1 (c97t (by omega)) (trivial) rfl ?_
      refine E_if_eq_f pf_89_4 (by omega) ?_
      refine E_iload pf_89_7 rfl ?_
      refine E_if_lt_t pf_89_8 (by omega) ?_
      refine E_iconst pf_89_20 ?_
      exact E_c1x pf_89_21 rfl (c96x _) rfl
  ·
    refine E_iload pf_89_0 rfl ?_
    refine F_c1v0 pf_89_1 (c97f (by omega) (by omega)) (trivial) rfl ?_
    refine E_if_eq_t pf_89_4 (by omega) ?_
    refine E_iconst pf_89_20 ?_
    exact E_c1x pf_89_21 rfl (c96x _) rfl
theorem c169x {how wh : Int} (h1 : (-2147483648 ≤ how ∧ how ≤ 2147483647)) (h2 : (-2147483648 ≤ wh ∧ wh ≤ 2147483647)) (h3 : ¬ ((0 ≤ how ∧ how ≤ 2) ∧ (0 ≤ wh ∧ wh ≤ 3))) : ∀ h, Ca 169 [.ref 102, .int (ii how), .int (ii wh)] (wd [(102, oX6 rf ts sp (dn : Int) kd (vn : Int) (rn : Int) rd rk rv rr ac)] h) (.inl (some (.long (ll 0))), wd [(102, oX6 1 ts sp (dn : Int) kd (vn : Int) (rn : Int) rd rk rv rr ac)] h) := by
  intro h
  refine E_in (lv := [_, _, _, _]) rfl ?_
  by_cases e : 0 ≤ how ∧ how ≤ 2
  ·
    refine E_aload pf_169_0 rfl ?_
    refine E_iload pf_169_1 rfl ?_
    refine E_i2l pf_169_2 (by omega) ?_
    refine E_lconst pf_169_3 ?_
    refine E_lconst pf_169_4 ?_
    refine F_c3v0 pf_169_7 (c109t (by omega) (by omega)) (trivial) rfl ?_
    refine E_if_eq_f pf_169_10 (by omega) ?_
    refine E_iload pf_169_13 rfl ?_
    refine E_i2l pf_169_14 (by omega) ?_
    refine E_lconst pf_169_15 ?_
    refine E_lconst pf_169_16 ?_
    refine F_c3v0 pf_169_19 (c109f (by omega) (by omega)) (trivial) rfl ?_
    refine E_if_eq_t pf_169_22 (by omega) ?_
    refine E_iconst pf_169_29 ?_
    refine F_v2v (l' := [(_, _)]) pf_169_30 (c108_1) (And.intro rfl (trivial)) rfl rfl rfl rfl ?_
    refine E_if_eq_f pf_169_33 (by omega) ?_
    refine E_lconst pf_169_36 ?_
    exact E_lret pf_169_37 rfl
  ·
    refine E_aload pf_169_0 rfl ?_
    refine E_iload pf_169_1 rfl ?_
    refine E_i2l pf_169_2 (by omega) ?_
    refine E_lconst pf_169_3 ?_
    refine E_lconst pf_169_4 ?_
    refine F_c3v0 pf_169_7 (c109f (by omega) (by omega)) (trivial) rfl ?_
    refine E_if_eq_t pf_169_10 (by omega) ?_
    refine E_iconst pf_169_29 ?_
    refine F_v2v (l' := [(_, _)]) pf_169_30 (c108_1) (And.intro rfl (trivial)) rfl rfl rfl rfl ?_
    refine E_if_eq_f pf_169_33 (by omega) ?_
    refine E_lconst pf_169_36 ?_
    exact E_lret pf_169_37 rfl
theorem stu_tail {how L : Int} (hL : 0 ≤ L ∧ L ≤ 9223372036854775807) (hh : how = 0 ∨ (how = 1 ∧ 1 < m) ∨ how = 2) (hP : ppk P dn vn rn) : ∀ (j i : Nat) (r Q2 bg wy : Int → Int), i + j = 51 → pgk (vn : Int) r m → Mx vn (zp r m) → L < zGap r P m dn rn vn → zT how r P m dn rn vn = 0 → ∃ r' Q' bg' wy' : Int → Int, ∀ h, Rn 170 48 [.ref 102, .int (ii how), .long (ll L), pd_dum, .int (ii (i : Int))] [] (wd [(102, oX6 0 ts sp (dn : Int) kd (vn : Int) (rn : Int) rd rk rv rr ac), (104, ar 128 P), (108, ar 72 r), (112, ar 24 Q2), (113, lr 4 bg), (114, lr 4 wy)] h) (.inl (some (.int (ii (-9)))), wd [(102, oX6 0 ts sp (dn : Int) kd (vn : Int) (rn : Int) rd rk rv rr ac), (104, ar 128 P), (108, ar 72 r'), (112, ar 24 Q'), (113, lr 4 bg'), (114, lr 4 wy')] h) := by
  intro j
  induction j with
  | zero =>
    intro i r Q2 bg wy hi hp hM hg ht
    refine ⟨r, Q2, bg, wy, fun h => ?_⟩
    refine E_iload pf_170_48 rfl ?_
    refine E_iconst pf_170_50 ?_
    refine E_icmp_gt_t pf_170_52 (by omega) ?_
    refine E_iconst pf_170_101 ?_
    exact E_iret pf_170_103 rfl
  | succ j ih =>
    intro i r Q2 bg wy hi hp hM hg ht
    have hG := zGap_in hp hP
    by_cases e50 : i < 50
    · obtain ⟨m2, r2, Q3, bg3, wy3, b1, b2, b3, b4, b5, b6⟩ := c124t (rf := 0) (ts := ts) (sp := sp) (k := kd) (rd := rd) (rk := rk) (rv := rv) (rr := rr) (ac := ac) (Q := Q2) (bg := bg) (wy := wy) hh hM hp hP
      have hw := zWorst_in (P := P) (dn := dn) (rn := rn) hp
      rw [ht] at b1 b6
      have e0 : pos (stq how (zp r m) (zBest r P m dn rn vn) (zWorst r P m dn rn).toNat 0) = zp r m := stq_zero (V := pV r) (U := pU r) hM hh (by omega)
      rw [e0] at b1
      have em : m2 = m := by
        have := congrArg List.length b1
        unfold zp at this
        rwa [zl_len, zl_len] at this
      subst em
      have hen : ∀ a : Nat, a < m2 → r2 (20 + a) = r (20 + a) ∧ r2 (44 + a) = r (44 + a) := fun a ha => zl_inj b1 ha
      have hd := hP.1
      have hr := hP.2.2.1
      have hp2 : pgk (vn : Int) r2 m2 := ⟨b2, hp.2.1, fun a h1 h2 => by
        have g1 := hp.2.2.1 a h1 h2
        have g2 := hen a.toNat (by omega)
        rw [show ((a.toNat : Nat) : Int) = a by omega] at g2
        rw [g2.1, g2.2]; exact g1, fun a c h1 h2 h3 h4 => by rw [b3 _ (by omega)]; exact hp.2.2.2.1 a c h1 h2 h3 h4, fun a h1 h2 => by rw [b3 _ (by omega)]; exact hp.2.2.2.2 a h1 h2⟩
      obtain ⟨r', Q', bg', wy', c1⟩ := ih (i + 1) r2 Q3 bg3 wy3 (by omega) hp2 (by rw [b1]; exact hM) (by rw [zGap_cg hen b3 hd.2 hr.2]; exact hg) (by rw [zT_cg hen b3 hd.2 hr.2 hp]; exact ht)
      refine ⟨r', Q', bg', wy', fun h => ?_⟩
      refine E_iload pf_170_48 rfl ?_
      refine E_iconst pf_170_50 ?_
      refine E_icmp_gt_f pf_170_52 (by omega) ?_
      refine E_aload pf_170_55 rfl ?_
      refine E_aload pf_170_56 rfl ?_
      refine F_getf pf_170_57 rfl rfl rfl ?_
      refine F_v2v0 pf_170_60 (c120t hp hP) (And.intro rfl (And.intro rfl (And.intro rfl (trivial)))) rfl rfl ?_
      refine E_lload pf_170_63 rfl ?_
      refine E_lcmp_gt_t pf_170_64 pf_170_65 (by omega) ?_
      refine E_iload pf_170_71 rfl ?_
      refine E_iconst pf_170_73 ?_
      refine E_icmp_ge_f pf_170_75 (by omega) ?_
      refine E_aload pf_170_78 rfl ?_
      refine E_aload pf_170_79 rfl ?_
      refine F_getf pf_170_80 rfl rfl rfl ?_
      refine E_iload pf_170_83 rfl ?_
      refine F_v3v (l' := [(_, _), (_, _), (_, _), (_, _), (_, _), (_, _)]) pf_170_84 (b6) (And.intro rfl (And.intro rfl (And.intro rfl (And.intro rfl (And.intro rfl (And.intro rfl (trivial))))))) rfl rfl rfl rfl ?_
      refine E_iconst pf_170_87 ?_
      refine E_icmp_ne_t pf_170_89 (by omega) ?_
      refine E_iinc (lv' := [_, _, _, _, _]) pf_170_95 rfl rfl ?_
      refine E_goto pf_170_98 ?_
      exact c1 h
    · obtain ⟨r', Q', bg', wy', c1⟩ := ih (i + 1) r Q2 bg wy (by omega) hp hM hg ht
      refine ⟨r', Q', bg', wy', fun h => ?_⟩
      refine E_iload pf_170_48 rfl ?_
      refine E_iconst pf_170_50 ?_
      refine E_icmp_gt_f pf_170_52 (by omega) ?_
      refine E_aload pf_170_55 rfl ?_
      refine E_aload pf_170_56 rfl ?_
      refine F_getf pf_170_57 rfl rfl rfl ?_
      refine F_v2v0 pf_170_60 (c120t hp hP) (And.intro rfl (And.intro rfl (And.intro rfl (trivial)))) rfl rfl ?_
      refine E_lload pf_170_63 rfl ?_
      refine E_lcmp_gt_t pf_170_64 pf_170_65 (by omega) ?_
      refine E_iload pf_170_71 rfl ?_
      refine E_iconst pf_170_73 ?_
      refine E_icmp_ge_t pf_170_75 (by omega) ?_
      refine E_iinc (lv' := [_, _, _, _, _]) pf_170_95 rfl rfl ?_
      refine E_goto pf_170_98 ?_
      exact c1 h
theorem stu_loop {how L : Int} (hL : 0 ≤ L ∧ L ≤ 9223372036854775807) (hh : 0 ≤ how ∧ how ≤ 2) (pl : plk dn vn rn C P) : ∀ (j i m : Nat) (V U r : Int → Int) (st dr pu be : Int) (x rs sl mv Q Q2 bg wy : Int → Int), i + j = 51 → okq vn R V U st dr r m → ∃ v : Int, (-9 ≤ v ∧ v ≤ 50) ∧ (∃ (pu' be' : Int) (x' rs' sl' mv' Q' : Int → Int) (m' : Nat) (V' U' : Int → Int) (st' dr' : Int), ∀ h, Rn 90 35 [.ref 1, .int (ii how), .long (ll L), pd_dum, .int (ii (i : Int))] [] (wd [(1, oPD tl), (13, oP (dn : Int) k (vn : Int)), (14, ar 96 C), (18, oD pu be), (19, ar 4 x), (20, ar 4 rs), (21, lr 4 sl), (22, ar 4 mv), (23, ar 24 Q), (28, oS28 (rn : Int) (m : Int) st dr), (29, ar 20 R), (30, ar 24 V), (31, ar 24 U)] h) (.inl (some (.int (ii v))), wd [(1, oPD tl), (13, oP (dn : Int) k (vn : Int)), (14, ar 96 C), (18, oD pu' be'), (19, ar 4 x'), (20, ar 4 rs'), (21, lr 4 sl'), (22, ar 4 mv'), (23, ar 24 Q'), (28, oS28 (rn : Int) (m' : Int) st' dr'), (29, ar 20 R), (30, ar 24 V'), (31, ar 24 U')] h)) ∧ (∃ r' Q' bg' wy' : Int → Int, ∀ h, Rn 170 48 [.ref 102, .int (ii how), .long (ll L), pd_dum, .int (ii (i : Int))] [] (wd [(102, oX6 0 ts sp (dn : Int) kd (vn : Int) (rn : Int) rd rk rv rr ac), (104, ar 128 P), (108, ar 72 r), (112, ar 24 Q2), (113, lr 4 bg), (114, lr 4 wy)] h) (.inl (some (.int (ii v))), wd [(102, oX6 0 ts sp (dn : Int) kd (vn : Int) (rn : Int) rd rk rv rr ac), (104, ar 128 P), (108, ar 72 r'), (112, ar 24 Q'), (113, lr 4 bg'), (114, lr 4 wy')] h)) := by
  intro j
  induction j with
  | zero =>
    intro i m V U r st dr pu be x rs sl mv Q Q2 bg wy hi ok
    refine ⟨-9, by omega, ⟨pu, be, x, rs, sl, mv, Q, m, V, U, st, dr, fun h => ?_⟩, ⟨r, Q2, bg, wy, fun h => ?_⟩⟩
    ·
      refine E_iload pf_90_35 rfl ?_
      refine E_iconst pf_90_37 ?_
      refine E_icmp_gt_t pf_90_39 (by omega) ?_
      refine E_iconst pf_90_103 ?_
      exact E_iret pf_90_105 rfl
    ·
      refine E_iload pf_170_48 rfl ?_
      refine E_iconst pf_170_50 ?_
      refine E_icmp_gt_t pf_170_52 (by omega) ?_
      refine E_iconst pf_170_101 ?_
      exact E_iret pf_170_103 rfl
  | succ j ih =>
    intro i m V U r st dr pu be x rs sl mv Q Q2 bg wy hi ok
    have hv := plk_v pl
    have hs := okq_sok ok hv.2.1.2
    have hp := okq_pgk ok hv.2.1.2
    have hc := okq_cpl ok pl
    have hG := zGap_in hp pl.2.1
    have e7 := c7t (d := (dn : Int)) (k := k) (pu := pu) (be := be) (x := x) (rs := rs) (sl := sl) (st := st) (dr := dr) hs pl.1
    rw [cpl_Gap hc hs pl.1] at e7
    have e120 := c120t (rf := 0) (ts := ts) (sp := sp) (k := kd) (rd := rd) (rk := rk) (rv := rv) (rr := rr) (ac := ac) hp pl.2.1
    by_cases eg : zGap r P m dn rn vn ≤ L
    · refine ⟨(i : Int), by omega, ⟨pu, be, zfill x (yX V U C m) 4, zfill rs (eR R V U C m) rn, zfill sl (eS R V U C m rn) 4, mv, Q, m, V, U, st, dr, fun h => ?_⟩, ⟨r, Q2, bg, wy, fun h => ?_⟩⟩
      ·
        refine E_iload pf_90_35 rfl ?_
        refine E_iconst pf_90_37 ?_
        refine E_icmp_gt_f pf_90_39 (by omega) ?_
        refine E_aload pf_90_42 rfl ?_
        refine F_getf pf_90_43 rfl rfl rfl ?_
        refine E_aload pf_90_46 rfl ?_
        refine F_getf pf_90_47 rfl rfl rfl ?_
        refine F_v2v (l' := [(_, _), (_, _), (_, _), (_, _), (_, _), (_, _), (_, _), (_, _), (_, _), (_, _), (_, _), (_, _), (_, _)]) pf_90_50 (e7) (And.intro rfl (And.intro rfl (And.intro rfl (And.intro rfl (And.intro rfl (And.intro rfl (And.intro rfl (And.intro rfl (And.intro rfl (And.intro rfl (trivial))))))))))) rfl rfl rfl rfl ?_
        refine E_lload pf_90_53 rfl ?_
        refine E_lcmp_gt_f pf_90_54 pf_90_55 (by omega) ?_
        refine E_iload pf_90_58 rfl ?_
        exact E_iret pf_90_60 rfl
      ·
        refine E_iload pf_170_48 rfl ?_
        refine E_iconst pf_170_50 ?_
        refine E_icmp_gt_f pf_170_52 (by omega) ?_
        refine E_aload pf_170_55 rfl ?_
        refine E_aload pf_170_56 rfl ?_
        refine F_getf pf_170_57 rfl rfl rfl ?_
        refine F_v2v0 pf_170_60 (e120) (And.intro rfl (And.intro rfl (And.intro rfl (trivial)))) rfl rfl ?_
        refine E_lload pf_170_63 rfl ?_
        refine E_lcmp_gt_f pf_170_64 pf_170_65 (by omega) ?_
        refine E_iload pf_170_68 rfl ?_
        exact E_iret pf_170_70 rfl
    · by_cases hps : how ≠ 1 ∨ 1 < m
      · obtain ⟨t, m1, V1, U1, r1, st1, dr1, ht, okn, ⟨pu1, be1, x1, rs1, sl1, mv1, Q1, a2⟩, ⟨Q3, bg1, wy1, b2⟩⟩ := stp_t (k := k) (pu := pu) (be := be) (x := zfill x (yX V U C m) 4) (rs := zfill rs (eR R V U C m) rn) (sl := zfill sl (eS R V U C m rn) 4) (mv := mv) (Q := Q) (Q2 := Q2) (bg := bg) (wy := wy) (rf := 0) (ts := ts) (sp := sp) (kd := kd) (rd := rd) (rk := rk) (rv := rv) (rr := rr) (ac := ac) (how := how) (by omega) ok pl
        by_cases e0 : t = 0
        · subst e0
          obtain ⟨r', Q', bg', wy', c1⟩ : ∃ r' Q' bg' wy' : Int → Int, ∀ h, Rn 170 48 [.ref 102, .int (ii how), .long (ll L), pd_dum, .int (ii (i : Int))] [] (wd [(102, oX6 0 ts sp (dn : Int) kd (vn : Int) (rn : Int) rd rk rv rr ac), (104, ar 128 P), (108, ar 72 r), (112, ar 24 Q2), (113, lr 4 bg), (114, lr 4 wy)] h) (.inl (some (.int (ii (-9)))), wd [(102, oX6 0 ts sp (dn : Int) kd (vn : Int) (rn : Int) rd rk rv rr ac), (104, ar 128 P), (108, ar 72 r'), (112, ar 24 Q'), (113, lr 4 bg'), (114, lr 4 wy')] h) := by
            refine stu_tail hL (by omega) pl.2.1 (j + 1) i r Q2 bg wy (by omega) hp (okq_Mx ok) (by omega) ?_
            exact ht.2.2.symm
          refine ⟨-9, by omega, ⟨pu1, be1, x1, rs1, sl1, mv1, Q1, m1, V1, U1, st1, dr1, fun h => ?_⟩, ⟨r', Q', bg', wy', c1⟩⟩
          refine E_iload pf_90_35 rfl ?_
          refine E_iconst pf_90_37 ?_
          refine E_icmp_gt_f pf_90_39 (by omega) ?_
          refine E_aload pf_90_42 rfl ?_
          refine F_getf pf_90_43 rfl rfl rfl ?_
          refine E_aload pf_90_46 rfl ?_
          refine F_getf pf_90_47 rfl rfl rfl ?_
          refine F_v2v (l' := [(_, _), (_, _), (_, _), (_, _), (_, _), (_, _), (_, _), (_, _), (_, _), (_, _), (_, _), (_, _), (_, _)]) pf_90_50 (e7) (And.intro rfl (And.intro rfl (And.intro rfl (And.intro rfl (And.intro rfl (And.intro rfl (And.intro rfl (And.intro rfl (And.intro rfl (And.intro rfl (trivial))))))))))) rfl rfl rfl rfl ?_
          refine E_lload pf_90_53 rfl ?_
          refine E_lcmp_gt_t pf_90_54 pf_90_55 (by omega) ?_
          refine E_aload pf_90_61 rfl ?_
          refine F_getf pf_90_62 rfl rfl rfl ?_
          refine E_aload pf_90_65 rfl ?_
          refine F_getf pf_90_66 rfl rfl rfl ?_
          refine E_iload pf_90_69 rfl ?_
          refine F_v3v0 pf_90_70 (c10tt hs (by omega) hps) (And.intro rfl (And.intro rfl (trivial))) rfl rfl ?_
          refine E_if_ne_t pf_90_73 (by omega) ?_
          refine E_aload pf_90_79 rfl ?_
          refine F_getf pf_90_80 rfl rfl rfl ?_
          refine E_aload pf_90_83 rfl ?_
          refine F_getf pf_90_84 rfl rfl rfl ?_
          refine E_iload pf_90_87 rfl ?_
          refine F_v3v (l' := [(_, _), (_, _), (_, _), (_, _), (_, _), (_, _), (_, _), (_, _), (_, _), (_, _), (_, _), (_, _), (_, _)]) pf_90_88 (a2) (And.intro rfl (And.intro rfl (And.intro rfl (And.intro rfl (And.intro rfl (And.intro rfl (And.intro rfl (And.intro rfl (And.intro rfl (And.intro rfl (And.intro rfl (And.intro rfl (trivial))))))))))))) rfl rfl rfl rfl ?_
          refine E_if_ne_f pf_90_91 (by omega) ?_
          refine E_iconst pf_90_94 ?_
          exact E_iret pf_90_96 rfl
        · obtain ⟨v, d1, ⟨pu2, be2, x2, rs2, sl2, mv2, Q4, m2, V2, U2, st2, dr2, d2⟩, ⟨r2, Q5, bg2, wy2, d3⟩⟩ := ih (i + 1) m1 V1 U1 r1 st1 dr1 pu1 be1 x1 rs1 sl1 mv1 Q1 Q3 bg1 wy1 (by omega) okn
          by_cases e50 : i < 50
          · refine ⟨v, d1, ⟨pu2, be2, x2, rs2, sl2, mv2, Q4, m2, V2, U2, st2, dr2, fun h => ?_⟩, ⟨r2, Q5, bg2, wy2, fun h => ?_⟩⟩
            ·
              refine E_iload pf_90_35 rfl ?_
              refine E_iconst pf_90_37 ?_
              refine E_icmp_gt_f pf_90_39 (by omega) ?_
              refine E_aload pf_90_42 rfl ?_
              refine F_getf pf_90_43 rfl rfl rfl ?_
              refine E_aload pf_90_46 rfl ?_
              refine F_getf pf_90_47 rfl rfl rfl ?_
              refine F_v2v (l' := [(_, _), (_, _), (_, _), (_, _), (_, _), (_, _), (_, _), (_, _), (_, _), (_, _), (_, _), (_, _), (_, _)]) pf_90_50 (e7) (And.intro rfl (And.intro rfl (And.intro rfl (And.intro rfl (And.intro rfl (And.intro rfl (And.intro rfl (And.intro rfl (And.intro rfl (And.intro rfl (trivial))))))))))) rfl rfl rfl rfl ?_
              refine E_lload pf_90_53 rfl ?_
              refine E_lcmp_gt_t pf_90_54 pf_90_55 (by omega) ?_
              refine E_aload pf_90_61 rfl ?_
              refine F_getf pf_90_62 rfl rfl rfl ?_
              refine E_aload pf_90_65 rfl ?_
              refine F_getf pf_90_66 rfl rfl rfl ?_
              refine E_iload pf_90_69 rfl ?_
              refine F_v3v0 pf_90_70 (c10tt hs (by omega) hps) (And.intro rfl (And.intro rfl (trivial))) rfl rfl ?_
              refine E_if_ne_t pf_90_73 (by omega) ?_
              refine E_aload pf_90_79 rfl ?_
              refine F_getf pf_90_80 rfl rfl rfl ?_
              refine E_aload pf_90_83 rfl ?_
              refine F_getf pf_90_84 rfl rfl rfl ?_
              refine E_iload pf_90_87 rfl ?_
              refine F_v3v (l' := [(_, _), (_, _), (_, _), (_, _), (_, _), (_, _), (_, _), (_, _), (_, _), (_, _), (_, _), (_, _), (_, _)]) pf_90_88 (a2) (And.intro rfl (And.intro rfl (And.intro rfl (And.intro rfl (And.intro rfl (And.intro rfl (And.intro rfl (And.intro rfl (And.intro rfl (And.intro rfl (And.intro rfl (And.intro rfl (trivial))))))))))))) rfl rfl rfl rfl ?_
              refine E_if_ne_t pf_90_91 (by omega) ?_
              refine E_iinc (lv' := [_, _, _, _, _]) pf_90_97 rfl rfl ?_
              refine E_goto pf_90_100 ?_
              exact d2 h
            ·
              refine E_iload pf_170_48 rfl ?_
              refine E_iconst pf_170_50 ?_
              refine E_icmp_gt_f pf_170_52 (by omega) ?_
              refine E_aload pf_170_55 rfl ?_
              refine E_aload pf_170_56 rfl ?_
              refine F_getf pf_170_57 rfl rfl rfl ?_
              refine F_v2v0 pf_170_60 (e120) (And.intro rfl (And.intro rfl (And.intro rfl (trivial)))) rfl rfl ?_
              refine E_lload pf_170_63 rfl ?_
              refine E_lcmp_gt_t pf_170_64 pf_170_65 (by omega) ?_
              refine E_iload pf_170_71 rfl ?_
              refine E_iconst pf_170_73 ?_
              refine E_icmp_ge_f pf_170_75 (by omega) ?_
              refine E_aload pf_170_78 rfl ?_
              refine E_aload pf_170_79 rfl ?_
              refine F_getf pf_170_80 rfl rfl rfl ?_
              refine E_iload pf_170_83 rfl ?_
              refine F_v3v (l' := [(_, _), (_, _), (_, _), (_, _), (_, _), (_, _)]) pf_170_84 (b2) (And.intro rfl (And.intro rfl (And.intro rfl (And.intro rfl (And.intro rfl (And.intro rfl (trivial))))))) rfl rfl rfl rfl ?_
              refine E_iconst pf_170_87 ?_
              refine E_icmp_ne_t pf_170_89 (by omega) ?_
              refine E_iinc (lv' := [_, _, _, _, _]) pf_170_95 rfl rfl ?_
              refine E_goto pf_170_98 ?_
              exact d3 h
          · refine ⟨-9, by omega, ⟨pu1, be1, x1, rs1, sl1, mv1, Q1, m1, V1, U1, st1, dr1, fun h => ?_⟩, ⟨r, Q2, bg, wy, fun h => ?_⟩⟩
            ·
              refine E_iload pf_90_35 rfl ?_
              refine E_iconst pf_90_37 ?_
              refine E_icmp_gt_f pf_90_39 (by omega) ?_
              refine E_aload pf_90_42 rfl ?_
              refine F_getf pf_90_43 rfl rfl rfl ?_
              refine E_aload pf_90_46 rfl ?_
              refine F_getf pf_90_47 rfl rfl rfl ?_
              refine F_v2v (l' := [(_, _), (_, _), (_, _), (_, _), (_, _), (_, _), (_, _), (_, _), (_, _), (_, _), (_, _), (_, _), (_, _)]) pf_90_50 (e7) (And.intro rfl (And.intro rfl (And.intro rfl (And.intro rfl (And.intro rfl (And.intro rfl (And.intro rfl (And.intro rfl (And.intro rfl (And.intro rfl (trivial))))))))))) rfl rfl rfl rfl ?_
              refine E_lload pf_90_53 rfl ?_
              refine E_lcmp_gt_t pf_90_54 pf_90_55 (by omega) ?_
              refine E_aload pf_90_61 rfl ?_
              refine F_getf pf_90_62 rfl rfl rfl ?_
              refine E_aload pf_90_65 rfl ?_
              refine F_getf pf_90_66 rfl rfl rfl ?_
              refine E_iload pf_90_69 rfl ?_
              refine F_v3v0 pf_90_70 (c10tt hs (by omega) hps) (And.intro rfl (And.intro rfl (trivial))) rfl rfl ?_
              refine E_if_ne_t pf_90_73 (by omega) ?_
              refine E_aload pf_90_79 rfl ?_
              refine F_getf pf_90_80 rfl rfl rfl ?_
              refine E_aload pf_90_83 rfl ?_
              refine F_getf pf_90_84 rfl rfl rfl ?_
              refine E_iload pf_90_87 rfl ?_
              refine F_v3v (l' := [(_, _), (_, _), (_, _), (_, _), (_, _), (_, _), (_, _), (_, _), (_, _), (_, _), (_, _), (_, _), (_, _)]) pf_90_88 (a2) (And.intro rfl (And.intro rfl (And.intro rfl (And.intro rfl (And.intro rfl (And.intro rfl (And.intro rfl (And.intro rfl (And.intro rfl (And.intro rfl (And.intro rfl (And.intro rfl (trivial))))))))))))) rfl rfl rfl rfl ?_
              refine E_if_ne_t pf_90_91 (by omega) ?_
              refine E_iinc (lv' := [_, _, _, _, _]) pf_90_97 rfl rfl ?_
              refine E_goto pf_90_100 ?_
              refine E_iload pf_90_35 rfl ?_
              refine E_iconst pf_90_37 ?_
              refine E_icmp_gt_t pf_90_39 (by omega) ?_
              refine E_iconst pf_90_103 ?_
              exact E_iret pf_90_105 rfl
            ·
              refine E_iload pf_170_48 rfl ?_
              refine E_iconst pf_170_50 ?_
              refine E_icmp_gt_f pf_170_52 (by omega) ?_
              refine E_aload pf_170_55 rfl ?_
              refine E_aload pf_170_56 rfl ?_
              refine F_getf pf_170_57 rfl rfl rfl ?_
              refine F_v2v0 pf_170_60 (e120) (And.intro rfl (And.intro rfl (And.intro rfl (trivial)))) rfl rfl ?_
              refine E_lload pf_170_63 rfl ?_
              refine E_lcmp_gt_t pf_170_64 pf_170_65 (by omega) ?_
              refine E_iload pf_170_71 rfl ?_
              refine E_iconst pf_170_73 ?_
              refine E_icmp_ge_t pf_170_75 (by omega) ?_
              refine E_iinc (lv' := [_, _, _, _, _]) pf_170_95 rfl rfl ?_
              refine E_goto pf_170_98 ?_
              refine E_iload pf_170_48 rfl ?_
              refine E_iconst pf_170_50 ?_
              refine E_icmp_gt_t pf_170_52 (by omega) ?_
              refine E_iconst pf_170_101 ?_
              exact E_iret pf_170_103 rfl
      · obtain rfl : how = 1 := by omega
        have hx := c124xt (rf := 0) (ts := ts) (sp := sp) (k := kd) (rd := rd) (rk := rk) (rv := rv) (rr := rr) (ac := ac) (P := P) (Q := Q2) (bg := bg) (wy := wy) (dn := dn) (rn := rn) hp (by omega)
        refine ⟨-9, by omega, ⟨pu, be, zfill x (yX V U C m) 4, zfill rs (eR R V U C m) rn, zfill sl (eS R V U C m rn) 4, mv, Q, m, V, U, st, dr, fun h => ?_⟩, ⟨r, Q2, bg, wy, fun h => ?_⟩⟩
        ·
          refine E_iload pf_90_35 rfl ?_
          refine E_iconst pf_90_37 ?_
          refine E_icmp_gt_f pf_90_39 (by omega) ?_
          refine E_aload pf_90_42 rfl ?_
          refine F_getf pf_90_43 rfl rfl rfl ?_
          refine E_aload pf_90_46 rfl ?_
          refine F_getf pf_90_47 rfl rfl rfl ?_
          refine F_v2v (l' := [(_, _), (_, _), (_, _), (_, _), (_, _), (_, _), (_, _), (_, _), (_, _), (_, _), (_, _), (_, _), (_, _)]) pf_90_50 (e7) (And.intro rfl (And.intro rfl (And.intro rfl (And.intro rfl (And.intro rfl (And.intro rfl (And.intro rfl (And.intro rfl (And.intro rfl (And.intro rfl (trivial))))))))))) rfl rfl rfl rfl ?_
          refine E_lload pf_90_53 rfl ?_
          refine E_lcmp_gt_t pf_90_54 pf_90_55 (by omega) ?_
          refine E_aload pf_90_61 rfl ?_
          refine F_getf pf_90_62 rfl rfl rfl ?_
          refine E_aload pf_90_65 rfl ?_
          refine F_getf pf_90_66 rfl rfl rfl ?_
          refine E_iload pf_90_69 rfl ?_
          refine F_v3v0 pf_90_70 (c10tf hs (by omega) hps) (And.intro rfl (And.intro rfl (trivial))) rfl rfl ?_
          refine E_if_ne_f pf_90_73 (by omega) ?_
          refine E_iconst pf_90_76 ?_
          exact E_iret pf_90_78 rfl
        · by_cases e50 : i < 50
          ·
            refine E_iload pf_170_48 rfl ?_
            refine E_iconst pf_170_50 ?_
            refine E_icmp_gt_f pf_170_52 (by omega) ?_
            refine E_aload pf_170_55 rfl ?_
            refine E_aload pf_170_56 rfl ?_
            refine F_getf pf_170_57 rfl rfl rfl ?_
            refine F_v2v0 pf_170_60 (e120) (And.intro rfl (And.intro rfl (And.intro rfl (trivial)))) rfl rfl ?_
            refine E_lload pf_170_63 rfl ?_
            refine E_lcmp_gt_t pf_170_64 pf_170_65 (by omega) ?_
            refine E_iload pf_170_71 rfl ?_
            refine E_iconst pf_170_73 ?_
            refine E_icmp_ge_f pf_170_75 (by omega) ?_
            refine E_aload pf_170_78 rfl ?_
            refine E_aload pf_170_79 rfl ?_
            refine F_getf pf_170_80 rfl rfl rfl ?_
            refine E_iload pf_170_83 rfl ?_
            refine F_v3v0 pf_170_84 (hx) (And.intro rfl (And.intro rfl (And.intro rfl (And.intro rfl (And.intro rfl (And.intro rfl (trivial))))))) rfl rfl ?_
            refine E_iconst pf_170_87 ?_
            refine E_icmp_ne_f pf_170_89 (by omega) ?_
            refine E_iconst pf_170_92 ?_
            exact E_iret pf_170_94 rfl
          ·
            refine E_iload pf_170_48 rfl ?_
            refine E_iconst pf_170_50 ?_
            refine E_icmp_gt_f pf_170_52 (by omega) ?_
            refine E_aload pf_170_55 rfl ?_
            refine E_aload pf_170_56 rfl ?_
            refine F_getf pf_170_57 rfl rfl rfl ?_
            refine F_v2v0 pf_170_60 (e120) (And.intro rfl (And.intro rfl (And.intro rfl (trivial)))) rfl rfl ?_
            refine E_lload pf_170_63 rfl ?_
            refine E_lcmp_gt_t pf_170_64 pf_170_65 (by omega) ?_
            refine E_iload pf_170_71 rfl ?_
            refine E_iconst pf_170_73 ?_
            refine E_icmp_ge_t pf_170_75 (by omega) ?_
            refine E_iinc (lv' := [_, _, _, _, _]) pf_170_95 rfl rfl ?_
            refine E_goto pf_170_98 ?_
            refine E_iload pf_170_48 rfl ?_
            refine E_iconst pf_170_50 ?_
            refine E_icmp_gt_t pf_170_52 (by omega) ?_
            refine E_iconst pf_170_101 ?_
            exact E_iret pf_170_103 rfl
theorem stu {how L : Int} (hL : 0 ≤ L ∧ L ≤ 9223372036854775807) (hh : 0 ≤ how ∧ how ≤ 2) (ok : okq vn R V U st dr r m) (pl : plk dn vn rn C P) : ∃ v : Int, (-9 ≤ v ∧ v ≤ 50) ∧ (∃ (pu' be' : Int) (x' rs' sl' mv' Q' : Int → Int) (Tr' : pg), ∀ h, Ca 90 [.ref 1, .int (ii how), .long (ll L)] (wd [(1, oPD tl), (13, oP (dn : Int) k (vn : Int)), (14, ar 96 C), (18, oD pu be), (19, ar 4 x), (20, ar 4 rs), (21, lr 4 sl), (22, ar 4 mv), (23, ar 24 Q), (24, oS24 (rn : Int) (m : Int) st dr), (25, ar 20 R), (26, ar 24 V), (27, ar 24 U), (28, pst 28 Tr), (29, ar 20 Tr.2.1), (30, ar 24 Tr.2.2.2.1), (31, ar 24 Tr.2.2.2.2.1)] h) (.inl (some (.int (ii v))), wd [(1, oPD tl), (13, oP (dn : Int) k (vn : Int)), (14, ar 96 C), (18, oD pu' be'), (19, ar 4 x'), (20, ar 4 rs'), (21, lr 4 sl'), (22, ar 4 mv'), (23, ar 24 Q'), (24, oS24 (rn : Int) (m : Int) st dr), (25, ar 20 R), (26, ar 24 V), (27, ar 24 U), (28, pst 28 Tr'), (29, ar 20 Tr'.2.1), (30, ar 24 Tr'.2.2.2.1), (31, ar 24 Tr'.2.2.2.2.1)] h)) ∧ (∃ rt' Q' bg' wy' : Int → Int, ∀ h, Ca 170 [.ref 102, .int (ii how), .long (ll L)] (wd [(102, oX6 rf ts sp (dn : Int) kd (vn : Int) (rn : Int) rd rk rv rr ac), (104, ar 128 P), (107, ar 72 r), (108, ar 72 rt), (112, ar 24 Q2), (113, lr 4 bg), (114, lr 4 wy)] h) (.inl (some (.int (ii v))), wd [(102, oX6 0 ts sp (dn : Int) kd (vn : Int) (rn : Int) rd rk rv rr ac), (104, ar 128 P), (107, ar 72 r), (108, ar 72 rt'), (112, ar 24 Q'), (113, lr 4 bg'), (114, lr 4 wy')] h)) := by
  have hv := plk_v pl
  have hs := okq_sok ok hv.2.1.2
  have hp := okq_pgk ok hv.2.1.2
  have ok1 : okq vn (zcpy R Tr.2.1 0 0 20) (zcpy V Tr.2.2.2.1 0 0 24) (zcpy U Tr.2.2.2.2.1 0 0 24) st dr (zcpy r rt 0 0 72) m := okq_cp ok hv.2.1.2 fun y h1 h2 => by rw [zcpy_at (by omega)]; congr 1; omega
  have hs1 := okq_sok ok1 hv.2.1.2
  have hp1 := okq_pgk ok1 hv.2.1.2
  obtain ⟨v, d1, ⟨pu2, be2, x2, rs2, sl2, mv2, Q4, m2, V2, U2, st2, dr2, d2⟩, ⟨r2, Q5, bg2, wy2, d3⟩⟩ := stu_loop (tl := tl) (ts := ts) (sp := sp) (kd := kd) (rd := rd) (rk := rk) (rv := rv) (rr := rr) (ac := ac) hL hh pl 51 0 m _ _ _ st dr pu be x rs sl mv Q Q2 bg wy (by omega) ok1
  refine ⟨v, d1, ⟨pu2, be2, x2, rs2, sl2, mv2, Q4, ((rn : Int), (zcpy R Tr.2.1 0 0 20), (m2 : Int), V2, U2, st2, dr2), fun h => ?_⟩, ⟨r2, Q5, bg2, wy2, fun h => ?_⟩⟩
  · refine E_in (lv := [_, _, _, _, _]) rfl ?_
    refine E_iload pf_90_0 rfl ?_
    refine F_c1v0 pf_90_1 (c97t (by omega)) (trivial) rfl ?_
    refine E_if_eq_f pf_90_4 (by omega) ?_
    refine E_lload pf_90_7 rfl ?_
    refine E_lconst pf_90_8 ?_
    refine E_lcmp_lt_f pf_90_9 pf_90_10 (by omega) ?_
    refine E_iconst pf_90_13 ?_
    refine E_goto pf_90_14 ?_
    refine F_c1u0 pf_90_18 (c96) (trivial) rfl ?_
    refine E_aload pf_90_21 rfl ?_
    refine F_getf pf_90_22 rfl rfl rfl ?_
    refine E_aload pf_90_25 rfl ?_
    refine F_getf pf_90_26 rfl rfl rfl ?_
    refine F_v2u (l' := [(_, _), (_, _), (_, _), (_, _), (_, _), (_, _), (_, _), (_, _), (_, _), (_, _), (_, _), (_, _), (_, _), (_, _), (_, _), (_, _), (_, _)]) pf_90_29 (c52_28_24 (p := ((rn : Int), R, (m : Int), V, U, st, dr)) (p0 := Tr)) (And.intro rfl (And.intro rfl (And.intro rfl (And.intro rfl (And.intro rfl (And.intro rfl (And.intro rfl (And.intro rfl (trivial))))))))) rfl rfl rfl rfl ?_
    refine E_iconst pf_90_32 ?_
    refine E_istore (lv' := [_, _, _, _, _]) pf_90_33 rfl rfl ?_
    exact Rn_fr d2 (And.intro rfl (And.intro rfl (And.intro rfl (And.intro rfl (And.intro rfl (And.intro rfl (And.intro rfl (And.intro rfl (And.intro rfl (And.intro rfl (And.intro rfl (And.intro rfl (And.intro rfl (trivial)))))))))))))) rfl rfl h
  · refine E_in (lv := [_, _, _, _, _]) rfl ?_
    refine E_aload pf_170_0 rfl ?_
    refine E_iload pf_170_1 rfl ?_
    refine E_i2l pf_170_2 (by omega) ?_
    refine E_lconst pf_170_3 ?_
    refine E_lconst pf_170_4 ?_
    refine F_c3v0 pf_170_7 (c109t (by omega) (by omega)) (trivial) rfl ?_
    refine E_if_eq_f pf_170_10 (by omega) ?_
    refine E_lload pf_170_13 rfl ?_
    refine E_lconst pf_170_14 ?_
    refine E_lcmp_lt_f pf_170_15 pf_170_16 (by omega) ?_
    refine E_iconst pf_170_19 ?_
    refine E_goto pf_170_20 ?_
    refine F_v2v (l' := [(_, _), (_, _), (_, _), (_, _), (_, _), (_, _), (_, _)]) pf_170_24 (c108_0) (And.intro rfl (trivial)) rfl rfl rfl rfl ?_
    refine E_if_eq_t pf_170_27 (by omega) ?_
    refine E_aload pf_170_32 rfl ?_
    refine F_getf pf_170_33 rfl rfl rfl ?_
    refine E_iconst pf_170_36 ?_
    refine E_aload pf_170_37 rfl ?_
    refine F_getf pf_170_38 rfl rfl rfl ?_
    refine E_iconst pf_170_41 ?_
    refine F_c4u (l' := [(_, _), (_, _), (_, _), (_, _), (_, _), (_, _), (_, _)]) pf_170_42 (c110nt (by omega) (by omega)) (And.intro rfl (And.intro rfl (trivial))) rfl rfl rfl ?_
    refine E_iconst pf_170_45 ?_
    refine E_istore (lv' := [_, _, _, _, _]) pf_170_46 rfl rfl ?_
    exact Rn_fr d3 (And.intro rfl (And.intro rfl (And.intro rfl (And.intro rfl (And.intro rfl (And.intro rfl (trivial))))))) rfl rfl h
theorem c90x {how L : Int} (h1 : (-2147483648 ≤ how ∧ how ≤ 2147483647)) (h2 : (-9223372036854775808 ≤ L ∧ L ≤ 9223372036854775807)) (h3 : ¬ ((0 ≤ how ∧ how ≤ 2) ∧ 0 ≤ L)) : ∀ h, Ca 90 [.ref 1, .int (ii how), .long (ll L)] (wd [(1, oPD tl)] h) (.inr 0, pd_thr (wd [(1, oPD tl)] h)) := by
  intro h
  refine E_in (lv := [_, _, _, _, _]) rfl ?_
  by_cases e : 0 ≤ how ∧ how ≤ 2
  ·
    refine E_iload pf_90_0 rfl ?_
    refine F_c1v0 pf_90_1 (c97t (by omega)) (trivial) rfl ?_
    refine E_if_eq_f pf_90_4 (by omega) ?_
    refine E_lload pf_90_7 rfl ?_
    refine E_lconst pf_90_8 ?_
    refine E_lcmp_lt_t pf_90_9 pf_90_10 (by omega) ?_
    refine E_iconst pf_90_17 ?_
    exact E_c1x pf_90_18 rfl (c96x _) rfl
  ·
    refine E_iload pf_90_0 rfl ?_
    refine F_c1v0 pf_90_1 (c97f (by omega) (by omega)) (trivial) rfl ?_
    refine E_if_eq_t pf_90_4 (by omega) ?_
    refine E_iconst pf_90_17 ?_
    exact E_c1x pf_90_18 rfl (c96x _) rfl
theorem c170x {how L : Int} (h1 : (-2147483648 ≤ how ∧ how ≤ 2147483647)) (h2 : (-9223372036854775808 ≤ L ∧ L ≤ 9223372036854775807)) (h3 : ¬ ((0 ≤ how ∧ how ≤ 2) ∧ 0 ≤ L)) : ∀ h, Ca 170 [.ref 102, .int (ii how), .long (ll L)] (wd [(102, oX6 rf ts sp (dn : Int) kd (vn : Int) (rn : Int) rd rk rv rr ac)] h) (.inl (some (.int (ii 0))), wd [(102, oX6 1 ts sp (dn : Int) kd (vn : Int) (rn : Int) rd rk rv rr ac)] h) := by
  intro h
  refine E_in (lv := [_, _, _, _, _]) rfl ?_
  by_cases e : 0 ≤ how ∧ how ≤ 2
  ·
    refine E_aload pf_170_0 rfl ?_
    refine E_iload pf_170_1 rfl ?_
    refine E_i2l pf_170_2 (by omega) ?_
    refine E_lconst pf_170_3 ?_
    refine E_lconst pf_170_4 ?_
    refine F_c3v0 pf_170_7 (c109t (by omega) (by omega)) (trivial) rfl ?_
    refine E_if_eq_f pf_170_10 (by omega) ?_
    refine E_lload pf_170_13 rfl ?_
    refine E_lconst pf_170_14 ?_
    refine E_lcmp_lt_t pf_170_15 pf_170_16 (by omega) ?_
    refine E_iconst pf_170_23 ?_
    refine F_v2v (l' := [(_, _)]) pf_170_24 (c108_1) (And.intro rfl (trivial)) rfl rfl rfl rfl ?_
    refine E_if_eq_f pf_170_27 (by omega) ?_
    refine E_iconst pf_170_30 ?_
    exact E_iret pf_170_31 rfl
  ·
    refine E_aload pf_170_0 rfl ?_
    refine E_iload pf_170_1 rfl ?_
    refine E_i2l pf_170_2 (by omega) ?_
    refine E_lconst pf_170_3 ?_
    refine E_lconst pf_170_4 ?_
    refine F_c3v0 pf_170_7 (c109f (by omega) (by omega)) (trivial) rfl ?_
    refine E_if_eq_t pf_170_10 (by omega) ?_
    refine E_iconst pf_170_23 ?_
    refine F_v2v (l' := [(_, _)]) pf_170_24 (c108_1) (And.intro rfl (trivial)) rfl rfl rfl rfl ?_
    refine E_if_eq_f pf_170_27 (by omega) ?_
    refine E_iconst pf_170_30 ?_
    exact E_iret pf_170_31 rfl
end PRV
