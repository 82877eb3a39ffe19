/-! Steps and orders on the trial, both sides. -/
section TRI
variable {C P R V U r x rs sl mv Q Q2 bg wy : Int → Int} {rf ts tl sp kd rd rk rv rr ac k st dr pu be : Int} {m dn rn vn : Nat}
theorem okq_cp {R0 V0 U0 r' : Int → Int} (h : okq vn R V U st dr r m) (hv : vn ≤ 24) (e : ∀ x : Int, 0 ≤ x → x < 72 → r' x = r x) : okq vn (zcpy R R0 0 0 20) (zcpy V V0 0 0 24) (zcpy U U0 0 0 24) st dr r' m := by
  obtain ⟨R', V', U', st', dr', m', e1, ok'⟩ := okp_cp (rn := 1) (p := (((1 : Nat) : Int), R, (m : Int), V, U, st, dr)) (p0 := (0, R0, 0, V0, U0, 0, 0)) ⟨R, V, U, st, dr, m, rfl, h⟩ hv e
  simp only [Prod.mk.injEq] at e1
  obtain ⟨-, rfl, e2, rfl, rfl, rfl, rfl⟩ := e1
  have e3 : m = m' := by omega
  subst e3
  exact ok'
theorem pos_self {vn : Int} {A : List (Int × Int)} (h : Mx vn A) : pos A = A := List.filter_eq_self.mpr fun q hq => by simpa using h.2.1 q hq
theorem scl_one {V U : Int → Int} {m : Nat} {lo ex : Int} (hl : 0 < lo) : scl (zl V U m) lo lo ex = zl V U m := by
  rw [scl_zl hl]
  have h0 : zs (sL U lo lo ex) m = 0 := by
    have : zs (sL U lo lo ex) m = zs (fun _ => 0) m := zs_congr fun i _ => by
      unfold sL; split
      · rfl
      · exact Int.mul_emod_left _ _
    rw [this, zs_zero]
  rw [h0]
  refine zl_congr fun i hi => ⟨rfl, ?_⟩
  show inU (-9) m ((0 : Int) / lo).toNat (sQ (-9) U lo lo ex) (sU U lo lo ex) i = U i
  rw [Int.zero_ediv]
  show sU U lo lo ex i = U i
  unfold sU; split
  · rfl
  · exact Int.mul_ediv_cancel _ (by omega)
theorem gv_zero (A : List (Int × Int)) (v : Int) : gv A v 0 = A := if_pos (Int.le_refl 0)
theorem sbt_zero {V U : Int → Int} {m i : Nat} (hi : i < m) : sbt (zl V U m) i 0 = zl V U m := by
  rw [sbt_zl hi, Int.sub_zero, zu_id _ rfl]
/-- a step that moves nothing leaves the mixture -/
theorem stq_zero {vn how b : Int} {V U : Int → Int} {m wi : Nat} (h : Mx vn (zl V U m)) (hh : how = 0 ∨ (how = 1 ∧ 1 < m) ∨ how = 2) (hw : wi < m) : pos (stq how (zl V U m) b wi 0) = zl V U m := by
  have hU := Mx_at h hw
  unfold stq
  rcases hh with q | ⟨q, hm⟩ | q
  · rw [if_pos q, gv_zero, Int.sub_zero, scl_one (by omega), pos_self h]
  · have h99 := Mx_part h hw hm
    rw [if_neg (by omega), if_pos q, zl_getD hw, Int.add_zero, scl_one (by show 0 < 100 - U wi; omega), sbt_zero hw, pos_self h]
  · rw [if_neg (by omega), if_neg (by omega), sbt_zero hw, gv_zero, pos_self h]
theorem zs_ext {f g : Int → Int} {n : Nat} (h : ∀ k : Nat, k < n → f k = g k) : zs f n = zs g n := zs_congr h
theorem zX_cg {r2 : Int → Int} (h : ∀ i : Nat, i < m → r2 (20 + i) = r (20 + i) ∧ r2 (44 + i) = r (44 + i)) (j : Int) : zX r2 P m j = zX r P m j := zs_congr fun i hi => by rw [(h i hi).1, (h i hi).2]
theorem zR_cg {r2 : Int → Int} (h : ∀ i : Nat, i < m → r2 (20 + i) = r (20 + i) ∧ r2 (44 + i) = r (44 + i)) (h2 : ∀ q : Int, q < 20 → r2 q = r q) (hd : dn ≤ 4) {k : Int} (hk : 0 ≤ k ∧ k < 4) : zR r2 P m dn k = zR r P m dn k := by
  unfold zR
  rw [h2 _ (by omega)]
  congr 1
  exact zs_congr fun j hj => by rw [h2 _ (by omega), zX_cg h]
theorem zSl_cg {r2 : Int → Int} (h : ∀ i : Nat, i < m → r2 (20 + i) = r (20 + i) ∧ r2 (44 + i) = r (44 + i)) (h2 : ∀ q : Int, q < 20 → r2 q = r q) (hd : dn ≤ 4) (hr : rn ≤ 4) {j : Int} (hj : 0 ≤ j ∧ j < 4) : zSl r2 P m dn rn j = zSl r P m dn rn j := zs_congr fun k hk => by rw [zR_cg h h2 hd (by omega), h2 _ (by omega)]
theorem zSv_cg {r2 : Int → Int} (h : ∀ i : Nat, i < m → r2 (20 + i) = r (20 + i) ∧ r2 (44 + i) = r (44 + i)) (h2 : ∀ q : Int, q < 20 → r2 q = r q) (hd : dn ≤ 4) (hr : rn ≤ 4) (v : Int) : zSv r2 P m dn rn v = zSv r P m dn rn v := zs_congr fun j hj => by rw [zSl_cg h h2 hd hr (by omega)]
theorem zBest_cg {r2 : Int → Int} (h : ∀ i : Nat, i < m → r2 (20 + i) = r (20 + i) ∧ r2 (44 + i) = r (44 + i)) (h2 : ∀ q : Int, q < 20 → r2 q = r q) (hd : dn ≤ 4) (hr : rn ≤ 4) : zBest r2 P m dn rn vn = zBest r P m dn rn vn := zam_cong fun e _ => zSv_cg h h2 hd hr _
theorem zWorst_cg {r2 : Int → Int} (h : ∀ i : Nat, i < m → r2 (20 + i) = r (20 + i) ∧ r2 (44 + i) = r (44 + i)) (h2 : ∀ q : Int, q < 20 → r2 q = r q) (hd : dn ≤ 4) (hr : rn ≤ 4) (hm : 1 ≤ m) : zWorst r2 P m dn rn = zWorst r P m dn rn := zax_cong fun e he => by rw [(h e (by omega)).1, zSv_cg h h2 hd hr]
theorem zGap_cg {r2 : Int → Int} (h : ∀ i : Nat, i < m → r2 (20 + i) = r (20 + i) ∧ r2 (44 + i) = r (44 + i)) (h2 : ∀ q : Int, q < 20 → r2 q = r q) (hd : dn ≤ 4) (hr : rn ≤ 4) : zGap r2 P m dn rn vn = zGap r P m dn rn vn := by
  unfold zGap
  rw [zBest_cg h h2 hd hr, zSv_cg h h2 hd hr]
  congr 1
  exact zs_congr fun j hj => by rw [zX_cg h, zSl_cg h h2 hd hr (by omega)]
theorem zA_cg {r2 : Int → Int} (h2 : ∀ q : Int, q < 20 → r2 q = r q) (hd : dn ≤ 4) {k v : Int} (hk : 0 ≤ k ∧ k < 4) : zA r2 P dn k v = zA r P dn k v := by
  unfold zA
  rw [h2 _ (by omega)]
  congr 1
  exact zs_congr fun j hj => by rw [h2 _ (by omega)]
theorem zT_cg {how : Int} {r2 : Int → Int} (h : ∀ i : Nat, i < m → r2 (20 + i) = r (20 + i) ∧ r2 (44 + i) = r (44 + i)) (h2 : ∀ q : Int, q < 20 → r2 q = r q) (hd : dn ≤ 4) (hr : rn ≤ 4) (hp : pgk (vn : Int) r m) : zT how r2 P m dn rn vn = zT how r P m dn rn vn := by
  have hw := zWorst_in (P := P) (dn := dn) (rn := rn) hp
  have hb := h (zWorst r P m dn rn).toNat (by omega)
  rw [show (((zWorst r P m dn rn).toNat : Nat) : Int) = zWorst r P m dn rn by omega] at hb
  unfold zT
  rw [zWorst_cg h h2 hd hr hp.2.1.1, zBest_cg h h2 hd hr, hb.2]
  refine zam_congr (fun e => zF_congr (fun k hk => ⟨?_, ?_⟩) e) _
  · unfold zB
    rw [zR_cg h h2 hd (by omega), hb.2]
  · unfold zW
    rw [zR_cg h h2 hd (by omega), zA_cg h2 hd (by omega), zA_cg h2 hd (by omega), hb.1]
theorem zGap_in (hp : pgk (vn : Int) r m) (hP : ppk P dn vn rn) : -1000000000000000 ≤ zGap r P m dn rn vn ∧ zGap r P m dn rn vn ≤ 1000000000000000 := by
  have h1 := zSv_le hp hP (zBest r P m dn rn vn)
  have h4 := hP.1
  have h2 := zs_le (f := fun j => zX r P m j * zSl r P m dn rn j) (n := dn) (B := 21600 * 56700000) fun j hj => mul_le (zX_le hp hP.2.2.2 _) (zSl_le hp hP (by omega))
  have h5 : (dn : Int) * (21600 * 56700000) ≤ 4 * (21600 * 56700000) := Int.mul_le_mul_of_nonneg_right (by omega) (by omega)
  unfold zGap
  omega
theorem c10tt {q : Int} (hs : sok vn R V U m) (hq : -2147483648 ≤ q ∧ q ≤ 2147483647) (h1 : q ≠ 1 ∨ 1 < m) : ∀ h, Ca 10 [.ref 18, .ref 28, .int (ii q)] (wd [(18, oD pu be), (28, oS28 (rn : Int) (m : Int) st dr)] h) (.inl (some (.int (ii 1))), wd [(18, oD pu be), (28, oS28 (rn : Int) (m : Int) st dr)] h) := by
  have := c10t (rn := rn) (pu := pu) (be := be) (st := st) (dr := dr) hs hq; rwa [zb_t h1] at this
theorem c10tf {q : Int} (hs : sok vn R V U m) (hq : -2147483648 ≤ q ∧ q ≤ 2147483647) (h1 : ¬ (q ≠ 1 ∨ 1 < m)) : ∀ h, Ca 10 [.ref 18, .ref 28, .int (ii q)] (wd [(18, oD pu be), (28, oS28 (rn : Int) (m : Int) st dr)] h) (.inl (some (.int (ii 0))), wd [(18, oD pu be), (28, oS28 (rn : Int) (m : Int) st dr)] h) := by
  have := c10t (rn := rn) (pu := pu) (be := be) (st := st) (dr := dr) hs hq; rwa [zb_f h1] at this
theorem c10st {q : Int} (hs : sok vn R V U m) (hq : -2147483648 ≤ q ∧ q ≤ 2147483647) (h1 : q ≠ 1 ∨ 1 < m) : ∀ h, Ca 10 [.ref 18, .ref 24, .int (ii q)] (wd [(18, oD pu be), (24, oS24 (rn : Int) (m : Int) st dr)] h) (.inl (some (.int (ii 1))), wd [(18, oD pu be), (24, oS24 (rn : Int) (m : Int) st dr)] h) := by
  have := c10s (rn := rn) (pu := pu) (be := be) (st := st) (dr := dr) hs hq; rwa [zb_t h1] at this
theorem c10sf {q : Int} (hs : sok vn R V U m) (hq : -2147483648 ≤ q ∧ q ≤ 2147483647) (h1 : ¬ (q ≠ 1 ∨ 1 < m)) : ∀ h, Ca 10 [.ref 18, .ref 24, .int (ii q)] (wd [(18, oD pu be), (24, oS24 (rn : Int) (m : Int) st dr)] h) (.inl (some (.int (ii 0))), wd [(18, oD pu be), (24, oS24 (rn : Int) (m : Int) st dr)] h) := by
  have := c10s (rn := rn) (pu := pu) (be := be) (st := st) (dr := dr) hs hq; rwa [zb_f h1] at this
theorem mks_loop {a : Int} {n : Nat} (ha : 0 ≤ a ∧ a ≤ 2) (hn : n ≤ 50) (pl : plk dn vn rn C P) : ∀ (i0 i m : Nat) (V U r : Int → Int) (st dr pu be : Int) (x rs sl mv Q Q2 bg wy : Int → Int), i + i0 = n → okq vn R V U st dr r m → ∃ (b : Int) (m' : Nat) (V' U' r' : Int → Int) (st' dr' : Int), (b = 0 ∨ b = 1) ∧ okq vn R V' U' st' dr' r' m' ∧ (∃ (pu' be' : Int) (x' rs' sl' mv' Q' : Int → Int), ∀ h, Rn 102 22 [.ref 1, .int (ii a), .int (ii (n : Int)), .int (ii (i : Int))] [] (wd [(1, oPD tl), (13, oP (dn : Int) k (vn : Int)), (14, ar 96 C), (18, oD pu be), (19, ar 4 x), (20, ar 4 rs), (21, lr 4 sl), (22, ar 4 mv), (23, ar 24 Q), (28, oS28 (rn : Int) (m : Int) st dr), (29, ar 20 R), (30, ar 24 V), (31, ar 24 U)] h) (.inl (some (.int (ii b))), wd [(1, oPD tl), (13, oP (dn : Int) k (vn : Int)), (14, ar 96 C), (18, oD pu' be'), (19, ar 4 x'), (20, ar 4 rs'), (21, lr 4 sl'), (22, ar 4 mv'), (23, ar 24 Q'), (28, oS28 (rn : Int) (m' : Int) st' dr'), (29, ar 20 R), (30, ar 24 V'), (31, ar 24 U')] h)) ∧ (∃ Q' bg' wy' : Int → Int, ∀ h, Rn 171 28 [.ref 102, .int (ii a), .int (ii (n : Int)), .int (ii (i : Int))] [] (wd [(102, oX6 rf ts sp (dn : Int) kd (vn : Int) (rn : Int) rd rk rv rr ac), (104, ar 128 P), (108, ar 72 r), (112, ar 24 Q2), (113, lr 4 bg), (114, lr 4 wy)] h) (.inl (some (.int (ii b))), wd [(102, oX6 rf ts sp (dn : Int) kd (vn : Int) (rn : Int) rd rk rv rr ac), (104, ar 128 P), (108, ar 72 r'), (112, ar 24 Q'), (113, lr 4 bg'), (114, lr 4 wy')] h)) := by
  intro i0
  induction i0 with
  | zero =>
    intro i m V U r st dr pu be x rs sl mv Q Q2 bg wy hi ok
    refine ⟨1, m, V, U, r, st, dr, .inr rfl, ok, ⟨pu, be, x, rs, sl, mv, Q, fun h => ?_⟩, ⟨Q2, bg, wy, fun h => ?_⟩⟩
    ·
      refine E_iload pf_102_22 rfl ?_
      refine E_iload pf_102_23 rfl ?_
      refine E_icmp_ge_t pf_102_24 (by omega) ?_
      refine E_iconst pf_102_63 ?_
      exact E_iret pf_102_64 rfl
    ·
      refine E_iload pf_171_28 rfl ?_
      refine E_iload pf_171_29 rfl ?_
      refine E_icmp_ge_t pf_171_30 (by omega) ?_
      refine E_iconst pf_171_55 ?_
      exact E_iret pf_171_56 rfl
  | succ i0 ih =>
    intro i m V U r st dr pu be x rs sl mv Q Q2 bg wy hi ok
    have hv := plk_v pl
    have hs := okq_sok ok hv.2.1.2
    have hp := okq_pgk ok hv.2.1.2
    by_cases hps : a ≠ 1 ∨ 1 < m
    · obtain ⟨t, m1, V1, U1, r1, st1, dr1, ht, ok1, ⟨pu1, be1, x1, rs1, sl1, mv1, Q1, a2⟩, ⟨Q3, bg1, wy1, b2⟩⟩ := stp_t (k := k) (pu := pu) (be := be) (x := x) (rs := rs) (sl := sl) (mv := mv) (Q := Q) (Q2 := Q2) (bg := bg) (wy := wy) (rf := rf) (ts := ts) (sp := sp) (kd := kd) (rd := rd) (rk := rk) (rv := rv) (rr := rr) (ac := ac) (how := a) (by omega) ok pl
      obtain ⟨b, m', V', U', r', st', dr', c1, c2, ⟨pu', be', x', rs', sl', mv', Q', c3⟩, ⟨Q4, bg', wy', c4⟩⟩ := ih (i + 1) m1 V1 U1 r1 st1 dr1 pu1 be1 x1 rs1 sl1 mv1 Q1 Q3 bg1 wy1 (by omega) ok1
      refine ⟨b, m', V', U', r', st', dr', c1, c2, ⟨pu', be', x', rs', sl', mv', Q', fun h => ?_⟩, ⟨Q4, bg', wy', fun h => ?_⟩⟩
      ·
        refine E_iload pf_102_22 rfl ?_
        refine E_iload pf_102_23 rfl ?_
        refine E_icmp_ge_f pf_102_24 (by omega) ?_
        refine E_aload pf_102_27 rfl ?_
        refine F_getf pf_102_28 rfl rfl rfl ?_
        refine E_aload pf_102_31 rfl ?_
        refine F_getf pf_102_32 rfl rfl rfl ?_
        refine E_iload pf_102_35 rfl ?_
        refine F_v3v0 pf_102_36 (c10tt hs (by omega) hps) (And.intro rfl (And.intro rfl (trivial))) rfl rfl ?_
        refine E_if_ne_t pf_102_39 (by omega) ?_
        refine E_aload pf_102_44 rfl ?_
        refine F_getf pf_102_45 rfl rfl rfl ?_
        refine E_aload pf_102_48 rfl ?_
        refine F_getf pf_102_49 rfl rfl rfl ?_
        refine E_iload pf_102_52 rfl ?_
        refine F_v3v (l' := [(_, _), (_, _), (_, _), (_, _), (_, _), (_, _), (_, _), (_, _), (_, _), (_, _), (_, _), (_, _), (_, _)]) pf_102_53 (a2) (And.intro rfl (And.intro rfl (And.intro rfl (And.intro rfl (And.intro rfl (And.intro rfl (And.intro rfl (And.intro rfl (And.intro rfl (And.intro rfl (And.intro rfl (And.intro rfl (trivial))))))))))))) rfl rfl rfl rfl ?_
        refine E_pop pf_102_56 rfl ?_
        refine E_iinc (lv' := [_, _, _, _]) pf_102_57 rfl rfl ?_
        refine E_goto pf_102_60 ?_
        exact c3 h
      ·
        refine E_iload pf_171_28 rfl ?_
        refine E_iload pf_171_29 rfl ?_
        refine E_icmp_ge_f pf_171_30 (by omega) ?_
        refine E_aload pf_171_33 rfl ?_
        refine E_aload pf_171_34 rfl ?_
        refine F_getf pf_171_35 rfl rfl rfl ?_
        refine E_iload pf_171_38 rfl ?_
        refine F_v3v (l' := [(_, _), (_, _), (_, _), (_, _), (_, _), (_, _)]) pf_171_39 (b2) (And.intro rfl (And.intro rfl (And.intro rfl (And.intro rfl (And.intro rfl (And.intro rfl (trivial))))))) rfl rfl rfl rfl ?_
        refine E_iconst pf_171_42 ?_
        refine E_icmp_ne_t pf_171_44 (by omega) ?_
        refine E_iinc (lv' := [_, _, _, _]) pf_171_49 rfl rfl ?_
        refine E_goto pf_171_52 ?_
        exact c4 h
    · obtain rfl : a = 1 := by omega
      have hx := c124xt (rf := rf) (ts := ts) (sp := sp) (k := kd) (rd := rd) (rk := rk) (rv := rv) (rr := rr) (ac := ac) (P := P) (Q := Q2) (bg := bg) (wy := wy) (dn := dn) (rn := rn) hp (by omega)
      refine ⟨0, m, V, U, r, st, dr, .inl rfl, ok, ⟨pu, be, x, rs, sl, mv, Q, fun h => ?_⟩, ⟨Q2, bg, wy, fun h => ?_⟩⟩
      ·
        refine E_iload pf_102_22 rfl ?_
        refine E_iload pf_102_23 rfl ?_
        refine E_icmp_ge_f pf_102_24 (by omega) ?_
        refine E_aload pf_102_27 rfl ?_
        refine F_getf pf_102_28 rfl rfl rfl ?_
        refine E_aload pf_102_31 rfl ?_
        refine F_getf pf_102_32 rfl rfl rfl ?_
        refine E_iload pf_102_35 rfl ?_
        refine F_v3v0 pf_102_36 (c10tf hs (by omega) hps) (And.intro rfl (And.intro rfl (trivial))) rfl rfl ?_
        refine E_if_ne_f pf_102_39 (by omega) ?_
        refine E_iconst pf_102_42 ?_
        exact E_iret pf_102_43 rfl
      ·
        refine E_iload pf_171_28 rfl ?_
        refine E_iload pf_171_29 rfl ?_
        refine E_icmp_ge_f pf_171_30 (by omega) ?_
        refine E_aload pf_171_33 rfl ?_
        refine E_aload pf_171_34 rfl ?_
        refine F_getf pf_171_35 rfl rfl rfl ?_
        refine E_iload pf_171_38 rfl ?_
        refine F_v3v0 pf_171_39 (hx) (And.intro rfl (And.intro rfl (And.intro rfl (And.intro rfl (And.intro rfl (And.intro rfl (trivial))))))) rfl rfl ?_
        refine E_iconst pf_171_42 ?_
        refine E_icmp_ne_f pf_171_44 (by omega) ?_
        refine E_iconst pf_171_47 ?_
        exact E_iret pf_171_48 rfl
theorem mks {a n : Int} (ha : 0 ≤ a ∧ a ≤ 9) (hn : 0 ≤ n ∧ n ≤ 99) (ok : okq vn R V U st dr r m) (pl : plk dn vn rn C P) : ∃ (b : Int) (m' : Nat) (V' U' r' : Int → Int) (st' dr' : Int), (b = 0 ∨ b = 1) ∧ okq vn R V' U' st' dr' r' m' ∧ (∃ (pu' be' : Int) (x' rs' sl' mv' Q' : Int → Int), ∀ h, Ca 102 [.ref 1, .int (ii a), .int (ii n)] (wd [(1, oPD tl), (13, oP (dn : Int) k (vn : Int)), (14, ar 96 C), (18, oD pu be), (19, ar 4 x), (20, ar 4 rs), (21, lr 4 sl), (22, ar 4 mv), (23, ar 24 Q), (28, oS28 (rn : Int) (m : Int) st dr), (29, ar 20 R), (30, ar 24 V), (31, ar 24 U)] h) (.inl (some (.int (ii b))), wd [(1, oPD tl), (13, oP (dn : Int) k (vn : Int)), (14, ar 96 C), (18, oD pu' be'), (19, ar 4 x'), (20, ar 4 rs'), (21, lr 4 sl'), (22, ar 4 mv'), (23, ar 24 Q'), (28, oS28 (rn : Int) (m' : Int) st' dr'), (29, ar 20 R), (30, ar 24 V'), (31, ar 24 U')] h)) ∧ (∃ Q' bg' wy' : Int → Int, ∀ h, Ca 171 [.ref 102, .int (ii a), .int (ii n)] (wd [(102, oX6 rf ts sp (dn : Int) kd (vn : Int) (rn : Int) rd rk rv rr ac), (104, ar 128 P), (108, ar 72 r), (112, ar 24 Q2), (113, lr 4 bg), (114, lr 4 wy)] h) (.inl (some (.int (ii b))), wd [(102, oX6 rf ts sp (dn : Int) kd (vn : Int) (rn : Int) rd rk rv rr ac), (104, ar 128 P), (108, ar 72 r'), (112, ar 24 Q'), (113, lr 4 bg'), (114, lr 4 wy')] h)) := by
  by_cases e1 : a ≤ 2
  · by_cases e2 : 1 ≤ n
    · by_cases e3 : n ≤ 50
      · obtain ⟨N, rfl⟩ : ∃ N : Nat, n = (N : Int) := ⟨n.toNat, by omega⟩
        obtain ⟨b, m', V', U', r', st', dr', c1, c2, ⟨pu', be', x', rs', sl', mv', Q', c3⟩, ⟨Q4, bg', wy', c4⟩⟩ := mks_loop (k := k) (rf := rf) (ts := ts) (sp := sp) (kd := kd) (rd := rd) (rk := rk) (rv := rv) (rr := rr) (ac := ac) (tl := tl) (a := a) (n := N) (by omega) (by omega) pl N 0 m V U r st dr pu be x rs sl mv Q Q2 bg wy (by omega) ok
        refine ⟨b, m', V', U', r', st', dr', c1, c2, ⟨pu', be', x', rs', sl', mv', Q', fun h => ?_⟩, ⟨Q4, bg', wy', fun h => ?_⟩⟩
        · refine E_in (lv := [_, _, _, _]) rfl ?_
          refine E_iload pf_102_0 rfl ?_
          refine F_c1v0 pf_102_1 (c97t (by omega)) (trivial) rfl ?_
          refine E_if_eq_f pf_102_4 (by omega) ?_
          refine E_iload pf_102_7 rfl ?_
          refine E_iconst pf_102_8 ?_
          refine E_icmp_lt_f pf_102_9 (by omega) ?_
          refine E_iload pf_102_12 rfl ?_
          refine E_iconst pf_102_13 ?_
          refine E_icmp_le_t pf_102_15 (by omega) ?_
          refine E_iconst pf_102_20 ?_
          refine E_istore (lv' := [_, _, _, _]) pf_102_21 rfl rfl ?_
          exact c3 h
        · refine E_in (lv := [_, _, _, _]) rfl ?_
          refine E_iload pf_171_0 rfl ?_
          refine E_i2l pf_171_1 (by omega) ?_
          refine E_lconst pf_171_2 ?_
          refine E_lconst pf_171_3 ?_
          refine F_c3v0 pf_171_6 (c109t (by omega) (by omega)) (trivial) rfl ?_
          refine E_if_eq_f pf_171_9 (by omega) ?_
          refine E_iload pf_171_12 rfl ?_
          refine E_i2l pf_171_13 (by omega) ?_
          refine E_lconst pf_171_14 ?_
          refine E_lconst pf_171_15 ?_
          refine F_c3v0 pf_171_18 (c109t (by omega) (by omega)) (trivial) rfl ?_
          refine E_if_ne_t pf_171_21 (by omega) ?_
          refine E_iconst pf_171_26 ?_
          refine E_istore (lv' := [_, _, _, _]) pf_171_27 rfl rfl ?_
          exact c4 h
      · refine ⟨0, m, V, U, r, st, dr, .inl rfl, ok, ⟨pu, be, x, rs, sl, mv, Q, fun h => ?_⟩, ⟨Q2, bg, wy, fun h => ?_⟩⟩
        · refine E_in (lv := [_, _, _, _]) rfl ?_
          refine E_iload pf_102_0 rfl ?_
          refine F_c1v0 pf_102_1 (c97t (by omega)) (trivial) rfl ?_
          refine E_if_eq_f pf_102_4 (by omega) ?_
          refine E_iload pf_102_7 rfl ?_
          refine E_iconst pf_102_8 ?_
          refine E_icmp_lt_f pf_102_9 (by omega) ?_
          refine E_iload pf_102_12 rfl ?_
          refine E_iconst pf_102_13 ?_
          refine E_icmp_le_f pf_102_15 (by omega) ?_
          refine E_iconst pf_102_18 ?_
          exact E_iret pf_102_19 rfl
        · refine E_in (lv := [_, _, _, _]) rfl ?_
          refine E_iload pf_171_0 rfl ?_
          refine E_i2l pf_171_1 (by omega) ?_
          refine E_lconst pf_171_2 ?_
          refine E_lconst pf_171_3 ?_
          refine F_c3v0 pf_171_6 (c109t (by omega) (by omega)) (trivial) rfl ?_
          refine E_if_eq_f pf_171_9 (by omega) ?_
          refine E_iload pf_171_12 rfl ?_
          refine E_i2l pf_171_13 (by omega) ?_
          refine E_lconst pf_171_14 ?_
          refine E_lconst pf_171_15 ?_
          refine F_c3v0 pf_171_18 (c109f (by omega) (by omega)) (trivial) rfl ?_
          refine E_if_ne_f pf_171_21 (by omega) ?_
          refine E_iconst pf_171_24 ?_
          exact E_iret pf_171_25 rfl
    · refine ⟨0, m, V, U, r, st, dr, .inl rfl, ok, ⟨pu, be, x, rs, sl, mv, Q, fun h => ?_⟩, ⟨Q2, bg, wy, fun h => ?_⟩⟩
      · refine E_in (lv := [_, _, _, _]) rfl ?_
        refine E_iload pf_102_0 rfl ?_
        refine F_c1v0 pf_102_1 (c97t (by omega)) (trivial) rfl ?_
        refine E_if_eq_f pf_102_4 (by omega) ?_
        refine E_iload pf_102_7 rfl ?_
        refine E_iconst pf_102_8 ?_
        refine E_icmp_lt_t pf_102_9 (by omega) ?_
        refine E_iconst pf_102_18 ?_
        exact E_iret pf_102_19 rfl
      · refine E_in (lv := [_, _, _, _]) rfl ?_
        refine E_iload pf_171_0 rfl ?_
        refine E_i2l pf_171_1 (by omega) ?_
        refine E_lconst pf_171_2 ?_
        refine E_lconst pf_171_3 ?_
        refine F_c3v0 pf_171_6 (c109t (by omega) (by omega)) (trivial) rfl ?_
        refine E_if_eq_f pf_171_9 (by omega) ?_
        refine E_iload pf_171_12 rfl ?_
        refine E_i2l pf_171_13 (by omega) ?_
        refine E_lconst pf_171_14 ?_
        refine E_lconst pf_171_15 ?_
        refine F_c3v0 pf_171_18 (c109f (by omega) (by omega)) (trivial) rfl ?_
        refine E_if_ne_f pf_171_21 (by omega) ?_
        refine E_iconst pf_171_24 ?_
        exact E_iret pf_171_25 rfl
  · refine ⟨0, m, V, U, r, st, dr, .inl rfl, ok, ⟨pu, be, x, rs, sl, mv, Q, fun h => ?_⟩, ⟨Q2, bg, wy, fun h => ?_⟩⟩
    · refine E_in (lv := [_, _, _, _]) rfl ?_
      refine E_iload pf_102_0 rfl ?_
      refine F_c1v0 pf_102_1 (c97f (by omega) (by omega)) (trivial) rfl ?_
      refine E_if_eq_t pf_102_4 (by omega) ?_
      refine E_iconst pf_102_18 ?_
      exact E_iret pf_102_19 rfl
    · refine E_in (lv := [_, _, _, _]) rfl ?_
      refine E_iload pf_171_0 rfl ?_
      refine E_i2l pf_171_1 (by omega) ?_
      refine E_lconst pf_171_2 ?_
      refine E_lconst pf_171_3 ?_
      refine F_c3v0 pf_171_6 (c109f (by omega) (by omega)) (trivial) rfl ?_
      refine E_if_eq_t pf_171_9 (by omega) ?_
      refine E_iconst pf_171_24 ?_
      exact E_iret pf_171_25 rfl
theorem ii_rng (z : Int) : ∃ y : Int, ii z = ii y ∧ -2147483648 ≤ y ∧ y ≤ 2147483647 := ⟨(ii z).toInt, (ii_self _).symm, Int32.le_toInt _, Int32.toInt_le _⟩
theorem oby {g a2 a3 : Int} (hg : 0 ≤ g ∧ g ≤ 9999) (e2 : a2 = g / 100 % 10) (e3 : a3 = g % 100) (ok : okq vn R V U st dr r m) (pl : plk dn vn rn C P) : ∃ (b : Int) (m' : Nat) (V' U' r' : Int → Int) (st' dr' : Int), (b = 0 ∨ b = 1) ∧ okq vn R V' U' st' dr' r' m' ∧ (∃ (pu' be' : Int) (x' rs' sl' mv' Q' : Int → Int), ∀ h, Ca 101 [.ref 1, .int (ii g)] (wd [(1, oPD tl), (13, oP (dn : Int) k (vn : Int)), (14, ar 96 C), (18, oD pu be), (19, ar 4 x), (20, ar 4 rs), (21, lr 4 sl), (22, ar 4 mv), (23, ar 24 Q), (28, oS28 (rn : Int) (m : Int) st dr), (29, ar 20 R), (30, ar 24 V), (31, ar 24 U)] h) (.inl (some (.int (ii b))), wd [(1, oPD tl), (13, oP (dn : Int) k (vn : Int)), (14, ar 96 C), (18, oD pu' be'), (19, ar 4 x'), (20, ar 4 rs'), (21, lr 4 sl'), (22, ar 4 mv'), (23, ar 24 Q'), (28, oS28 (rn : Int) (m' : Int) st' dr'), (29, ar 20 R), (30, ar 24 V'), (31, ar 24 U')] h)) ∧ (∃ Q' bg' wy' : Int → Int, ∀ h, Ca 172 [.ref 102, .int (ii (g / 1000)), .int (ii a2), .int (ii a3)] (wd [(102, oX6 rf ts sp (dn : Int) kd (vn : Int) (rn : Int) rd rk rv rr ac), (104, ar 128 P), (108, ar 72 r), (112, ar 24 Q2), (113, lr 4 bg), (114, lr 4 wy)] h) (.inl (some (.int (ii b))), wd [(102, oX6 rf ts sp (dn : Int) kd (vn : Int) (rn : Int) rd rk rv rr ac), (104, ar 128 P), (108, ar 72 r'), (112, ar 24 Q'), (113, lr 4 bg'), (114, lr 4 wy')] h)) := by
  have hv := plk_v pl
  have hs := okq_sok ok hv.2.1.2
  have hp := okq_pgk ok hv.2.1.2
  have hc := okq_cpl ok pl
  have hm := okq_m ok hv.2.1.2
  have h68 := ok.2.2.2.1
  have hr2 : 0 ≤ a2 ∧ a2 ≤ 9 := by omega
  have hr3 : 0 ≤ a3 ∧ a3 ≤ 99 := by omega
  obtain ⟨g1, hg1⟩ : ∃ g1, g1 = g / 1000 := ⟨_, rfl⟩
  rw [← hg1]
  by_cases k1 : g1 = 1
  · subst k1
    obtain ⟨b, m', V', U', r', st', dr', c1, c2, ⟨pu', be', x', rs', sl', mv', Q', c3⟩, ⟨Q4, bg', wy', c4⟩⟩ := mks (k := k) (pu := pu) (be := be) (x := x) (rs := rs) (sl := sl) (mv := mv) (Q := Q) (Q2 := Q2) (bg := bg) (wy := wy) (rf := rf) (ts := ts) (sp := sp) (kd := kd) (rd := rd) (rk := rk) (rv := rv) (rr := rr) (ac := ac) (tl := tl) (a := a2) (n := a3) hr2 hr3 ok pl
    refine ⟨b, m', V', U', r', st', dr', c1, c2, ⟨pu', be', x', rs', sl', mv', Q', fun h => ?_⟩, ⟨Q4, bg', wy', fun h => ?_⟩⟩
    · refine E_in (lv := [_, _, _, _]) rfl ?_
      rcases c1 with q0 | q0 <;> subst q0
      ·
        refine E_iload pf_101_0 rfl ?_
        refine E_iconst pf_101_1 ?_
        refine E_idiv pf_101_3 (by omega) ?_
        refine E_iconst pf_101_4 ?_
        refine E_irem pf_101_6 (by omega) ?_
        refine E_ti (b := a2) e2.symm ?_
        refine E_istore (lv' := [_, _, _, _]) pf_101_7 rfl rfl ?_
        refine E_iload pf_101_8 rfl ?_
        refine E_iconst pf_101_9 ?_
        refine E_irem pf_101_11 (by omega) ?_
        refine E_ti (b := a3) e3.symm ?_
        refine E_istore (lv' := [_, _, _, _]) pf_101_12 rfl rfl ?_
        refine E_iload pf_101_13 rfl ?_
        refine E_iconst pf_101_14 ?_
        refine E_idiv pf_101_17 (by omega) ?_
        refine E_ti (b := 1) (by omega) ?_
        refine E_tsw pf_101_18 (by omega) rfl ?_
        refine E_aload pf_101_64 rfl ?_
        refine E_iload pf_101_65 rfl ?_
        refine E_iload pf_101_66 rfl ?_
        refine F_v3v (l' := [(_, _), (_, _), (_, _), (_, _), (_, _), (_, _), (_, _), (_, _), (_, _), (_, _), (_, _), (_, _), (_, _)]) pf_101_67 (c3) (And.intro rfl (And.intro rfl (And.intro rfl (And.intro rfl (And.intro rfl (And.intro rfl (And.intro rfl (And.intro rfl (And.intro rfl (And.intro rfl (And.intro rfl (And.intro rfl (And.intro rfl (trivial)))))))))))))) rfl rfl rfl rfl ?_
        exact E_iret pf_101_70 rfl
      ·
        refine E_iload pf_101_0 rfl ?_
        refine E_iconst pf_101_1 ?_
        refine E_idiv pf_101_3 (by omega) ?_
        refine E_iconst pf_101_4 ?_
        refine E_irem pf_101_6 (by omega) ?_
        refine E_ti (b := a2) e2.symm ?_
        refine E_istore (lv' := [_, _, _, _]) pf_101_7 rfl rfl ?_
        refine E_iload pf_101_8 rfl ?_
        refine E_iconst pf_101_9 ?_
        refine E_irem pf_101_11 (by omega) ?_
        refine E_ti (b := a3) e3.symm ?_
        refine E_istore (lv' := [_, _, _, _]) pf_101_12 rfl rfl ?_
        refine E_iload pf_101_13 rfl ?_
        refine E_iconst pf_101_14 ?_
        refine E_idiv pf_101_17 (by omega) ?_
        refine E_ti (b := 1) (by omega) ?_
        refine E_tsw pf_101_18 (by omega) rfl ?_
        refine E_aload pf_101_64 rfl ?_
        refine E_iload pf_101_65 rfl ?_
        refine E_iload pf_101_66 rfl ?_
        refine F_v3v (l' := [(_, _), (_, _), (_, _), (_, _), (_, _), (_, _), (_, _), (_, _), (_, _), (_, _), (_, _), (_, _), (_, _)]) pf_101_67 (c3) (And.intro rfl (And.intro rfl (And.intro rfl (And.intro rfl (And.intro rfl (And.intro rfl (And.intro rfl (And.intro rfl (And.intro rfl (And.intro rfl (And.intro rfl (And.intro rfl (And.intro rfl (trivial)))))))))))))) rfl rfl rfl rfl ?_
        exact E_iret pf_101_70 rfl
    · refine E_in (lv := [_, _, _, _]) rfl ?_
      rcases c1 with q0 | q0 <;> subst q0
      ·
        refine E_iload pf_172_0 rfl ?_
        refine E_tsw pf_172_1 (by omega) rfl ?_
        refine E_aload pf_172_48 rfl ?_
        refine E_iload pf_172_49 rfl ?_
        refine E_iload pf_172_50 rfl ?_
        refine F_v3v (l' := [(_, _), (_, _), (_, _), (_, _), (_, _), (_, _)]) pf_172_51 (c4) (And.intro rfl (And.intro rfl (And.intro rfl (And.intro rfl (And.intro rfl (And.intro rfl (trivial))))))) rfl rfl rfl rfl ?_
        exact E_iret pf_172_54 rfl
      ·
        refine E_iload pf_172_0 rfl ?_
        refine E_tsw pf_172_1 (by omega) rfl ?_
        refine E_aload pf_172_48 rfl ?_
        refine E_iload pf_172_49 rfl ?_
        refine E_iload pf_172_50 rfl ?_
        refine F_v3v (l' := [(_, _), (_, _), (_, _), (_, _), (_, _), (_, _)]) pf_172_51 (c4) (And.intro rfl (And.intro rfl (And.intro rfl (And.intro rfl (And.intro rfl (And.intro rfl (trivial))))))) rfl rfl rfl rfl ?_
        exact E_iret pf_172_54 rfl
  by_cases k2 : g1 = 2
  · subst k2
    by_cases y1 : a2 = 0
    · by_cases y2 : a3 < vn
      · have h103 : ∀ h, Ca 103 [.ref 1, .int (ii a3)] (wd [(1, oPD tl), (13, oP (dn : Int) k (vn : Int)), (28, oS28 (rn : Int) (m : Int) st dr), (30, ar 24 V), (31, ar 24 U)] h) (.inl (some (.int (ii 1))), wd [(1, oPD tl), (13, oP (dn : Int) k (vn : Int)), (28, oS28 (rn : Int) 1 0 0), (30, ar 24 (zu V 0 a3)), (31, ar 24 (zu U 0 100))] h) := by
          intro h
          refine E_in (lv := [_, _]) rfl ?_
          refine E_iload pf_103_0 rfl ?_
          refine E_aload pf_103_1 rfl ?_
          refine F_getf pf_103_2 rfl rfl rfl ?_
          refine F_getf pf_103_5 rfl rfl rfl ?_
          refine E_icmp_lt_t pf_103_8 (by omega) ?_
          refine E_aload pf_103_13 rfl ?_
          refine F_getf pf_103_14 rfl rfl rfl ?_
          refine E_iload pf_103_17 rfl ?_
          refine F_v2u (l' := [(_, _), (_, _), (_, _), (_, _), (_, _)]) pf_103_18 (c58t) (And.intro rfl (And.intro rfl (And.intro rfl (trivial)))) rfl rfl rfl rfl ?_
          refine E_iconst pf_103_21 ?_
          exact E_iret pf_103_22 rfl
        refine ⟨1, 1, zu V 0 a3, zu U 0 100, _, 0, 0, .inr rfl, rst_ok (v := a3) (r := r) ok.1 ok.2.1 (by omega) rfl rfl rfl, ⟨pu, be, x, rs, sl, mv, Q, fun h => ?_⟩, ⟨Q2, bg, wy, fun h => ?_⟩⟩
        · refine E_in (lv := [_, _, _, _]) rfl ?_
          refine E_iload pf_101_0 rfl ?_
          refine E_iconst pf_101_1 ?_
          refine E_idiv pf_101_3 (by omega) ?_
          refine E_iconst pf_101_4 ?_
          refine E_irem pf_101_6 (by omega) ?_
          refine E_ti (b := a2) e2.symm ?_
          refine E_istore (lv' := [_, _, _, _]) pf_101_7 rfl rfl ?_
          refine E_iload pf_101_8 rfl ?_
          refine E_iconst pf_101_9 ?_
          refine E_irem pf_101_11 (by omega) ?_
          refine E_ti (b := a3) e3.symm ?_
          refine E_istore (lv' := [_, _, _, _]) pf_101_12 rfl rfl ?_
          refine E_iload pf_101_13 rfl ?_
          refine E_iconst pf_101_14 ?_
          refine E_idiv pf_101_17 (by omega) ?_
          refine E_ti (b := 2) (by omega) ?_
          refine E_tsw pf_101_18 (by omega) rfl ?_
          refine E_iload pf_101_71 rfl ?_
          refine E_if_ne_f pf_101_72 (by omega) ?_
          refine E_aload pf_101_75 rfl ?_
          refine E_iload pf_101_76 rfl ?_
          refine F_v2v (l' := [(_, _), (_, _), (_, _), (_, _), (_, _), (_, _), (_, _), (_, _), (_, _), (_, _), (_, _), (_, _), (_, _)]) pf_101_77 (h103) (And.intro rfl (And.intro rfl (And.intro rfl (And.intro rfl (And.intro rfl (trivial)))))) rfl rfl rfl rfl ?_
          refine E_if_eq_f pf_101_80 (by omega) ?_
          refine E_iconst pf_101_83 ?_
          refine E_goto pf_101_84 ?_
          exact E_iret pf_101_88 rfl
        · refine E_in (lv := [_, _, _, _]) rfl ?_
          refine E_iload pf_172_0 rfl ?_
          refine E_tsw pf_172_1 (by omega) rfl ?_
          refine E_iload pf_172_55 rfl ?_
          refine E_if_ne_f pf_172_56 (by omega) ?_
          refine E_aload pf_172_59 rfl ?_
          refine E_iload pf_172_60 rfl ?_
          refine F_v2v0 pf_172_61 (c111t (by omega) (by omega)) (And.intro rfl (trivial)) rfl rfl ?_
          refine E_if_ne_t pf_172_64 (by omega) ?_
          refine E_aload pf_172_69 rfl ?_
          refine F_getf pf_172_70 rfl rfl rfl ?_
          refine E_iload pf_172_73 rfl ?_
          refine F_c2u (l' := [(_, _), (_, _), (_, _), (_, _), (_, _), (_, _)]) pf_172_74 (c126t) (And.intro rfl (trivial)) rfl rfl rfl ?_
          refine E_iconst pf_172_77 ?_
          exact E_iret pf_172_78 rfl
      · have h103 : ∀ h, Ca 103 [.ref 1, .int (ii a3)] (wd [(1, oPD tl), (13, oP (dn : Int) k (vn : Int))] h) (.inl (some (.int (ii 0))), wd [(1, oPD tl), (13, oP (dn : Int) k (vn : Int))] h) := by
          intro h
          refine E_in (lv := [_, _]) rfl ?_
          refine E_iload pf_103_0 rfl ?_
          refine E_aload pf_103_1 rfl ?_
          refine F_getf pf_103_2 rfl rfl rfl ?_
          refine F_getf pf_103_5 rfl rfl rfl ?_
          refine E_icmp_lt_f pf_103_8 (by omega) ?_
          refine E_iconst pf_103_11 ?_
          exact E_iret pf_103_12 rfl
        refine ⟨0, m, V, U, r, st, dr, .inl rfl, ok, ⟨pu, be, x, rs, sl, mv, Q, fun h => ?_⟩, ⟨Q2, bg, wy, fun h => ?_⟩⟩
        · refine E_in (lv := [_, _, _, _]) rfl ?_
          refine E_iload pf_101_0 rfl ?_
          refine E_iconst pf_101_1 ?_
          refine E_idiv pf_101_3 (by omega) ?_
          refine E_iconst pf_101_4 ?_
          refine E_irem pf_101_6 (by omega) ?_
          refine E_ti (b := a2) e2.symm ?_
          refine E_istore (lv' := [_, _, _, _]) pf_101_7 rfl rfl ?_
          refine E_iload pf_101_8 rfl ?_
          refine E_iconst pf_101_9 ?_
          refine E_irem pf_101_11 (by omega) ?_
          refine E_ti (b := a3) e3.symm ?_
          refine E_istore (lv' := [_, _, _, _]) pf_101_12 rfl rfl ?_
          refine E_iload pf_101_13 rfl ?_
          refine E_iconst pf_101_14 ?_
          refine E_idiv pf_101_17 (by omega) ?_
          refine E_ti (b := 2) (by omega) ?_
          refine E_tsw pf_101_18 (by omega) rfl ?_
          refine E_iload pf_101_71 rfl ?_
          refine E_if_ne_f pf_101_72 (by omega) ?_
          refine E_aload pf_101_75 rfl ?_
          refine E_iload pf_101_76 rfl ?_
          refine F_v2v0 pf_101_77 (h103) (And.intro rfl (And.intro rfl (trivial))) rfl rfl ?_
          refine E_if_eq_t pf_101_80 (by omega) ?_
          refine E_iconst pf_101_87 ?_
          exact E_iret pf_101_88 rfl
        · refine E_in (lv := [_, _, _, _]) rfl ?_
          refine E_iload pf_172_0 rfl ?_
          refine E_tsw pf_172_1 (by omega) rfl ?_
          refine E_iload pf_172_55 rfl ?_
          refine E_if_ne_f pf_172_56 (by omega) ?_
          refine E_aload pf_172_59 rfl ?_
          refine E_iload pf_172_60 rfl ?_
          refine F_v2v0 pf_172_61 (c111f (by omega) (by omega) (by omega)) (And.intro rfl (trivial)) rfl rfl ?_
          refine E_if_ne_f pf_172_64 (by omega) ?_
          refine E_iconst pf_172_67 ?_
          exact E_iret pf_172_68 rfl
    ·
      refine ⟨0, m, V, U, r, st, dr, .inl rfl, ok, ⟨pu, be, x, rs, sl, mv, Q, fun h => ?_⟩, ⟨Q2, bg, wy, fun h => ?_⟩⟩
      · refine E_in (lv := [_, _, _, _]) rfl ?_
        refine E_iload pf_101_0 rfl ?_
        refine E_iconst pf_101_1 ?_
        refine E_idiv pf_101_3 (by omega) ?_
        refine E_iconst pf_101_4 ?_
        refine E_irem pf_101_6 (by omega) ?_
        refine E_ti (b := a2) e2.symm ?_
        refine E_istore (lv' := [_, _, _, _]) pf_101_7 rfl rfl ?_
        refine E_iload pf_101_8 rfl ?_
        refine E_iconst pf_101_9 ?_
        refine E_irem pf_101_11 (by omega) ?_
        refine E_ti (b := a3) e3.symm ?_
        refine E_istore (lv' := [_, _, _, _]) pf_101_12 rfl rfl ?_
        refine E_iload pf_101_13 rfl ?_
        refine E_iconst pf_101_14 ?_
        refine E_idiv pf_101_17 (by omega) ?_
        refine E_ti (b := 2) (by omega) ?_
        refine E_tsw pf_101_18 (by omega) rfl ?_
        refine E_iload pf_101_71 rfl ?_
        refine E_if_ne_t pf_101_72 (by omega) ?_
        refine E_iconst pf_101_87 ?_
        exact E_iret pf_101_88 rfl
      · refine E_in (lv := [_, _, _, _]) rfl ?_
        refine E_iload pf_172_0 rfl ?_
        refine E_tsw pf_172_1 (by omega) rfl ?_
        refine E_iload pf_172_55 rfl ?_
        refine E_if_ne_t pf_172_56 (by omega) ?_
        refine E_iconst pf_172_67 ?_
        exact E_iret pf_172_68 rfl
  by_cases k3 : g1 = 3
  · subst k3
    by_cases y1 : a2 < m
    · by_cases y2 : a3 < vn
      · obtain ⟨i, hi⟩ : ∃ i : Nat, a2 = (i : Int) := ⟨a2.toNat, by omega⟩
        have hU := Mx_at ok.2.2.2.2.1 (i := i) (by omega)
        obtain ⟨m1, V1, U1, r1, ok1, t1, t2⟩ := trf_t (rn := rn) (i := i) (v := a3) (n := 1) ok hv.2.1.2 (by omega) (by omega) (by omega)
        rw [← hi] at t1 t2
        have h104 : ∀ h, Ca 104 [.ref 1, .int (ii a2), .int (ii a3)] (wd [(1, oPD tl), (13, oP (dn : Int) k (vn : Int)), (28, oS28 (rn : Int) (m : Int) st dr), (30, ar 24 V), (31, ar 24 U)] h) (.inl (some (.int (ii 1))), wd [(1, oPD tl), (13, oP (dn : Int) k (vn : Int)), (28, oS28 (rn : Int) (m1 : Int) st dr), (30, ar 24 V1), (31, ar 24 U1)] h) := by
          intro h
          refine E_in (lv := [_, _, _]) rfl ?_
          refine E_iload pf_104_0 rfl ?_
          refine E_aload pf_104_1 rfl ?_
          refine F_getf pf_104_2 rfl rfl rfl ?_
          refine F_getf pf_104_5 rfl rfl rfl ?_
          refine E_icmp_ge_f pf_104_8 (by omega) ?_
          refine E_iload pf_104_11 rfl ?_
          refine E_aload pf_104_12 rfl ?_
          refine F_getf pf_104_13 rfl rfl rfl ?_
          refine F_getf pf_104_16 rfl rfl rfl ?_
          refine E_icmp_lt_t pf_104_19 (by omega) ?_
          refine E_aload pf_104_24 rfl ?_
          refine F_getf pf_104_25 rfl rfl rfl ?_
          refine E_iload pf_104_28 rfl ?_
          refine E_iload pf_104_29 rfl ?_
          refine E_iconst pf_104_30 ?_
          refine F_v4u (l' := [(_, _), (_, _), (_, _), (_, _), (_, _)]) pf_104_31 (t1) (And.intro rfl (And.intro rfl (And.intro rfl (trivial)))) rfl rfl rfl rfl ?_
          refine E_iconst pf_104_34 ?_
          exact E_iret pf_104_35 rfl
        refine ⟨1, m1, V1, U1, r1, st, dr, .inr rfl, ok1, ⟨pu, be, x, rs, sl, mv, Q, fun h => ?_⟩, ⟨Q2, bg, wy, fun h => ?_⟩⟩
        · refine E_in (lv := [_, _, _, _]) rfl ?_
          refine E_iload pf_101_0 rfl ?_
          refine E_iconst pf_101_1 ?_
          refine E_idiv pf_101_3 (by omega) ?_
          refine E_iconst pf_101_4 ?_
          refine E_irem pf_101_6 (by omega) ?_
          refine E_ti (b := a2) e2.symm ?_
          refine E_istore (lv' := [_, _, _, _]) pf_101_7 rfl rfl ?_
          refine E_iload pf_101_8 rfl ?_
          refine E_iconst pf_101_9 ?_
          refine E_irem pf_101_11 (by omega) ?_
          refine E_ti (b := a3) e3.symm ?_
          refine E_istore (lv' := [_, _, _, _]) pf_101_12 rfl rfl ?_
          refine E_iload pf_101_13 rfl ?_
          refine E_iconst pf_101_14 ?_
          refine E_idiv pf_101_17 (by omega) ?_
          refine E_ti (b := 3) (by omega) ?_
          refine E_tsw pf_101_18 (by omega) rfl ?_
          refine E_aload pf_101_89 rfl ?_
          refine E_iload pf_101_90 rfl ?_
          refine E_iload pf_101_91 rfl ?_
          refine F_v3v (l' := [(_, _), (_, _), (_, _), (_, _), (_, _), (_, _), (_, _), (_, _), (_, _), (_, _), (_, _), (_, _), (_, _)]) pf_101_92 (h104) (And.intro rfl (And.intro rfl (And.intro rfl (And.intro rfl (And.intro rfl (trivial)))))) rfl rfl rfl rfl ?_
          exact E_iret pf_101_95 rfl
        · refine E_in (lv := [_, _, _, _]) rfl ?_
          refine E_iload pf_172_0 rfl ?_
          refine E_tsw pf_172_1 (by omega) rfl ?_
          refine E_iload pf_172_79 rfl ?_
          refine E_aload pf_172_80 rfl ?_
          refine F_getf pf_172_81 rfl rfl rfl ?_
          refine E_iconst pf_172_84 ?_
          refine F_iald pf_172_86 rfl (by omega) ?_
          refine E_icmp_ge_f pf_172_87 (by omega) ?_
          refine E_aload pf_172_90 rfl ?_
          refine E_iload pf_172_91 rfl ?_
          refine F_v2v0 pf_172_92 (c111t (by omega) (by omega)) (And.intro rfl (trivial)) rfl rfl ?_
          refine E_if_ne_t pf_172_95 (by omega) ?_
          refine E_aload pf_172_100 rfl ?_
          refine F_getf pf_172_101 rfl rfl rfl ?_
          refine E_iload pf_172_104 rfl ?_
          refine E_iload pf_172_105 rfl ?_
          refine E_iconst pf_172_106 ?_
          refine F_c4u (l' := [(_, _), (_, _), (_, _), (_, _), (_, _), (_, _)]) pf_172_107 (t2) (And.intro rfl (trivial)) rfl rfl rfl ?_
          refine E_iconst pf_172_110 ?_
          exact E_iret pf_172_111 rfl
      · have h104 : ∀ h, Ca 104 [.ref 1, .int (ii a2), .int (ii a3)] (wd [(1, oPD tl), (13, oP (dn : Int) k (vn : Int)), (28, oS28 (rn : Int) (m : Int) st dr)] h) (.inl (some (.int (ii 0))), wd [(1, oPD tl), (13, oP (dn : Int) k (vn : Int)), (28, oS28 (rn : Int) (m : Int) st dr)] h) := by
          intro h
          refine E_in (lv := [_, _, _]) rfl ?_
          refine E_iload pf_104_0 rfl ?_
          refine E_aload pf_104_1 rfl ?_
          refine F_getf pf_104_2 rfl rfl rfl ?_
          refine F_getf pf_104_5 rfl rfl rfl ?_
          refine E_icmp_ge_f pf_104_8 (by omega) ?_
          refine E_iload pf_104_11 rfl ?_
          refine E_aload pf_104_12 rfl ?_
          refine F_getf pf_104_13 rfl rfl rfl ?_
          refine F_getf pf_104_16 rfl rfl rfl ?_
          refine E_icmp_lt_f pf_104_19 (by omega) ?_
          refine E_iconst pf_104_22 ?_
          exact E_iret pf_104_23 rfl
        refine ⟨0, m, V, U, r, st, dr, .inl rfl, ok, ⟨pu, be, x, rs, sl, mv, Q, fun h => ?_⟩, ⟨Q2, bg, wy, fun h => ?_⟩⟩
        · refine E_in (lv := [_, _, _, _]) rfl ?_
          refine E_iload pf_101_0 rfl ?_
          refine E_iconst pf_101_1 ?_
          refine E_idiv pf_101_3 (by omega) ?_
          refine E_iconst pf_101_4 ?_
          refine E_irem pf_101_6 (by omega) ?_
          refine E_ti (b := a2) e2.symm ?_
          refine E_istore (lv' := [_, _, _, _]) pf_101_7 rfl rfl ?_
          refine E_iload pf_101_8 rfl ?_
          refine E_iconst pf_101_9 ?_
          refine E_irem pf_101_11 (by omega) ?_
          refine E_ti (b := a3) e3.symm ?_
          refine E_istore (lv' := [_, _, _, _]) pf_101_12 rfl rfl ?_
          refine E_iload pf_101_13 rfl ?_
          refine E_iconst pf_101_14 ?_
          refine E_idiv pf_101_17 (by omega) ?_
          refine E_ti (b := 3) (by omega) ?_
          refine E_tsw pf_101_18 (by omega) rfl ?_
          refine E_aload pf_101_89 rfl ?_
          refine E_iload pf_101_90 rfl ?_
          refine E_iload pf_101_91 rfl ?_
          refine F_v3v0 pf_101_92 (h104) (And.intro rfl (And.intro rfl (And.intro rfl (trivial)))) rfl rfl ?_
          exact E_iret pf_101_95 rfl
        · refine E_in (lv := [_, _, _, _]) rfl ?_
          refine E_iload pf_172_0 rfl ?_
          refine E_tsw pf_172_1 (by omega) rfl ?_
          refine E_iload pf_172_79 rfl ?_
          refine E_aload pf_172_80 rfl ?_
          refine F_getf pf_172_81 rfl rfl rfl ?_
          refine E_iconst pf_172_84 ?_
          refine F_iald pf_172_86 rfl (by omega) ?_
          refine E_icmp_ge_f pf_172_87 (by omega) ?_
          refine E_aload pf_172_90 rfl ?_
          refine E_iload pf_172_91 rfl ?_
          refine F_v2v0 pf_172_92 (c111f (by omega) (by omega) (by omega)) (And.intro rfl (trivial)) rfl rfl ?_
          refine E_if_ne_f pf_172_95 (by omega) ?_
          refine E_iconst pf_172_98 ?_
          exact E_iret pf_172_99 rfl
    · have h104 : ∀ h, Ca 104 [.ref 1, .int (ii a2), .int (ii a3)] (wd [(1, oPD tl), (13, oP (dn : Int) k (vn : Int)), (28, oS28 (rn : Int) (m : Int) st dr)] h) (.inl (some (.int (ii 0))), wd [(1, oPD tl), (13, oP (dn : Int) k (vn : Int)), (28, oS28 (rn : Int) (m : Int) st dr)] h) := by
        intro h
        refine E_in (lv := [_, _, _]) rfl ?_
        refine E_iload pf_104_0 rfl ?_
        refine E_aload pf_104_1 rfl ?_
        refine F_getf pf_104_2 rfl rfl rfl ?_
        refine F_getf pf_104_5 rfl rfl rfl ?_
        refine E_icmp_ge_t pf_104_8 (by omega) ?_
        refine E_iconst pf_104_22 ?_
        exact E_iret pf_104_23 rfl
      refine ⟨0, m, V, U, r, st, dr, .inl rfl, ok, ⟨pu, be, x, rs, sl, mv, Q, fun h => ?_⟩, ⟨Q2, bg, wy, fun h => ?_⟩⟩
      · refine E_in (lv := [_, _, _, _]) rfl ?_
        refine E_iload pf_101_0 rfl ?_
        refine E_iconst pf_101_1 ?_
        refine E_idiv pf_101_3 (by omega) ?_
        refine E_iconst pf_101_4 ?_
        refine E_irem pf_101_6 (by omega) ?_
        refine E_ti (b := a2) e2.symm ?_
        refine E_istore (lv' := [_, _, _, _]) pf_101_7 rfl rfl ?_
        refine E_iload pf_101_8 rfl ?_
        refine E_iconst pf_101_9 ?_
        refine E_irem pf_101_11 (by omega) ?_
        refine E_ti (b := a3) e3.symm ?_
        refine E_istore (lv' := [_, _, _, _]) pf_101_12 rfl rfl ?_
        refine E_iload pf_101_13 rfl ?_
        refine E_iconst pf_101_14 ?_
        refine E_idiv pf_101_17 (by omega) ?_
        refine E_ti (b := 3) (by omega) ?_
        refine E_tsw pf_101_18 (by omega) rfl ?_
        refine E_aload pf_101_89 rfl ?_
        refine E_iload pf_101_90 rfl ?_
        refine E_iload pf_101_91 rfl ?_
        refine F_v3v0 pf_101_92 (h104) (And.intro rfl (And.intro rfl (And.intro rfl (trivial)))) rfl rfl ?_
        exact E_iret pf_101_95 rfl
      · refine E_in (lv := [_, _, _, _]) rfl ?_
        refine E_iload pf_172_0 rfl ?_
        refine E_tsw pf_172_1 (by omega) rfl ?_
        refine E_iload pf_172_79 rfl ?_
        refine E_aload pf_172_80 rfl ?_
        refine F_getf pf_172_81 rfl rfl rfl ?_
        refine E_iconst pf_172_84 ?_
        refine F_iald pf_172_86 rfl (by omega) ?_
        refine E_icmp_ge_t pf_172_87 (by omega) ?_
        refine E_iconst pf_172_98 ?_
        exact E_iret pf_172_99 rfl
  by_cases k4 : g1 = 4
  · subst k4
    by_cases y1 : a2 = 0
    · by_cases y2 : (m : Int) = a3
      ·
        refine ⟨1, m, V, U, r, st, dr, .inr rfl, ok, ⟨pu, be, x, rs, sl, mv, Q, fun h => ?_⟩, ⟨Q2, bg, wy, fun h => ?_⟩⟩
        · refine E_in (lv := [_, _, _, _]) rfl ?_
          refine E_iload pf_101_0 rfl ?_
          refine E_iconst pf_101_1 ?_
          refine E_idiv pf_101_3 (by omega) ?_
          refine E_iconst pf_101_4 ?_
          refine E_irem pf_101_6 (by omega) ?_
          refine E_ti (b := a2) e2.symm ?_
          refine E_istore (lv' := [_, _, _, _]) pf_101_7 rfl rfl ?_
          refine E_iload pf_101_8 rfl ?_
          refine E_iconst pf_101_9 ?_
          refine E_irem pf_101_11 (by omega) ?_
          refine E_ti (b := a3) e3.symm ?_
          refine E_istore (lv' := [_, _, _, _]) pf_101_12 rfl rfl ?_
          refine E_iload pf_101_13 rfl ?_
          refine E_iconst pf_101_14 ?_
          refine E_idiv pf_101_17 (by omega) ?_
          refine E_ti (b := 4) (by omega) ?_
          refine E_tsw pf_101_18 (by omega) rfl ?_
          refine E_iload pf_101_96 rfl ?_
          refine E_if_ne_f pf_101_97 (by omega) ?_
          refine E_aload pf_101_100 rfl ?_
          refine F_getf pf_101_101 rfl rfl rfl ?_
          refine F_getf pf_101_104 rfl rfl rfl ?_
          refine E_iload pf_101_107 rfl ?_
          refine E_icmp_ne_f pf_101_108 (by omega) ?_
          refine E_iconst pf_101_111 ?_
          refine E_goto pf_101_112 ?_
          exact E_iret pf_101_116 rfl
        · refine E_in (lv := [_, _, _, _]) rfl ?_
          refine E_iload pf_172_0 rfl ?_
          refine E_tsw pf_172_1 (by omega) rfl ?_
          refine E_iload pf_172_112 rfl ?_
          refine E_if_ne_f pf_172_113 (by omega) ?_
          refine E_aload pf_172_116 rfl ?_
          refine F_getf pf_172_117 rfl rfl rfl ?_
          refine E_iconst pf_172_120 ?_
          refine F_iald pf_172_122 rfl (by omega) ?_
          refine E_iload pf_172_123 rfl ?_
          refine E_icmp_ne_f pf_172_124 (by omega) ?_
          refine E_iconst pf_172_127 ?_
          refine E_goto pf_172_128 ?_
          exact E_iret pf_172_132 rfl
      ·
        refine ⟨0, m, V, U, r, st, dr, .inl rfl, ok, ⟨pu, be, x, rs, sl, mv, Q, fun h => ?_⟩, ⟨Q2, bg, wy, fun h => ?_⟩⟩
        · refine E_in (lv := [_, _, _, _]) rfl ?_
          refine E_iload pf_101_0 rfl ?_
          refine E_iconst pf_101_1 ?_
          refine E_idiv pf_101_3 (by omega) ?_
          refine E_iconst pf_101_4 ?_
          refine E_irem pf_101_6 (by omega) ?_
          refine E_ti (b := a2) e2.symm ?_
          refine E_istore (lv' := [_, _, _, _]) pf_101_7 rfl rfl ?_
          refine E_iload pf_101_8 rfl ?_
          refine E_iconst pf_101_9 ?_
          refine E_irem pf_101_11 (by omega) ?_
          refine E_ti (b := a3) e3.symm ?_
          refine E_istore (lv' := [_, _, _, _]) pf_101_12 rfl rfl ?_
          refine E_iload pf_101_13 rfl ?_
          refine E_iconst pf_101_14 ?_
          refine E_idiv pf_101_17 (by omega) ?_
          refine E_ti (b := 4) (by omega) ?_
          refine E_tsw pf_101_18 (by omega) rfl ?_
          refine E_iload pf_101_96 rfl ?_
          refine E_if_ne_f pf_101_97 (by omega) ?_
          refine E_aload pf_101_100 rfl ?_
          refine F_getf pf_101_101 rfl rfl rfl ?_
          refine F_getf pf_101_104 rfl rfl rfl ?_
          refine E_iload pf_101_107 rfl ?_
          refine E_icmp_ne_t pf_101_108 (by omega) ?_
          refine E_iconst pf_101_115 ?_
          exact E_iret pf_101_116 rfl
        · refine E_in (lv := [_, _, _, _]) rfl ?_
          refine E_iload pf_172_0 rfl ?_
          refine E_tsw pf_172_1 (by omega) rfl ?_
          refine E_iload pf_172_112 rfl ?_
          refine E_if_ne_f pf_172_113 (by omega) ?_
          refine E_aload pf_172_116 rfl ?_
          refine F_getf pf_172_117 rfl rfl rfl ?_
          refine E_iconst pf_172_120 ?_
          refine F_iald pf_172_122 rfl (by omega) ?_
          refine E_iload pf_172_123 rfl ?_
          refine E_icmp_ne_t pf_172_124 (by omega) ?_
          refine E_iconst pf_172_131 ?_
          exact E_iret pf_172_132 rfl
    ·
      refine ⟨0, m, V, U, r, st, dr, .inl rfl, ok, ⟨pu, be, x, rs, sl, mv, Q, fun h => ?_⟩, ⟨Q2, bg, wy, fun h => ?_⟩⟩
      · refine E_in (lv := [_, _, _, _]) rfl ?_
        refine E_iload pf_101_0 rfl ?_
        refine E_iconst pf_101_1 ?_
        refine E_idiv pf_101_3 (by omega) ?_
        refine E_iconst pf_101_4 ?_
        refine E_irem pf_101_6 (by omega) ?_
        refine E_ti (b := a2) e2.symm ?_
        refine E_istore (lv' := [_, _, _, _]) pf_101_7 rfl rfl ?_
        refine E_iload pf_101_8 rfl ?_
        refine E_iconst pf_101_9 ?_
        refine E_irem pf_101_11 (by omega) ?_
        refine E_ti (b := a3) e3.symm ?_
        refine E_istore (lv' := [_, _, _, _]) pf_101_12 rfl rfl ?_
        refine E_iload pf_101_13 rfl ?_
        refine E_iconst pf_101_14 ?_
        refine E_idiv pf_101_17 (by omega) ?_
        refine E_ti (b := 4) (by omega) ?_
        refine E_tsw pf_101_18 (by omega) rfl ?_
        refine E_iload pf_101_96 rfl ?_
        refine E_if_ne_t pf_101_97 (by omega) ?_
        refine E_iconst pf_101_115 ?_
        exact E_iret pf_101_116 rfl
      · refine E_in (lv := [_, _, _, _]) rfl ?_
        refine E_iload pf_172_0 rfl ?_
        refine E_tsw pf_172_1 (by omega) rfl ?_
        refine E_iload pf_172_112 rfl ?_
        refine E_if_ne_t pf_172_113 (by omega) ?_
        refine E_iconst pf_172_131 ?_
        exact E_iret pf_172_132 rfl
  by_cases k5 : g1 = 5
  · subst k5
    have eB := cpl_Best hc hs pl.1
    have hB := zBest_in (r := r) (m := m) pl.2.1
    have h8 := c8t (d := (dn : Int)) (k := k) (pu := pu) (be := be) (x := x) (rs := rs) (sl := sl) (st := st) (dr := dr) hs pl.1
    rw [eB] at h8
    have h118 := c118t (rf := rf) (ts := ts) (sp := sp) (k := kd) (rd := rd) (rk := rk) (rv := rv) (rr := rr) (ac := ac) hp pl.2.1
    by_cases y1 : a2 = 0
    · by_cases y2 : zBest r P m dn rn vn = a3
      · refine ⟨1, m, V, U, r, st, dr, .inr rfl, ok, ⟨pu, be, zfill x (yX V U C m) 4, zfill rs (eR R V U C m) rn, zfill sl (eS R V U C m rn) 4, mv, Q, fun h => ?_⟩, ⟨Q2, bg, wy, fun h => ?_⟩⟩
        · refine E_in (lv := [_, _, _, _]) rfl ?_
          refine E_iload pf_101_0 rfl ?_
          refine E_iconst pf_101_1 ?_
          refine E_idiv pf_101_3 (by omega) ?_
          refine E_iconst pf_101_4 ?_
          refine E_irem pf_101_6 (by omega) ?_
          refine E_ti (b := a2) e2.symm ?_
          refine E_istore (lv' := [_, _, _, _]) pf_101_7 rfl rfl ?_
          refine E_iload pf_101_8 rfl ?_
          refine E_iconst pf_101_9 ?_
          refine E_irem pf_101_11 (by omega) ?_
          refine E_ti (b := a3) e3.symm ?_
          refine E_istore (lv' := [_, _, _, _]) pf_101_12 rfl rfl ?_
          refine E_iload pf_101_13 rfl ?_
          refine E_iconst pf_101_14 ?_
          refine E_idiv pf_101_17 (by omega) ?_
          refine E_ti (b := 5) (by omega) ?_
          refine E_tsw pf_101_18 (by omega) rfl ?_
          refine E_iload pf_101_117 rfl ?_
          refine E_if_ne_f pf_101_118 (by omega) ?_
          refine E_aload pf_101_121 rfl ?_
          refine F_getf pf_101_122 rfl rfl rfl ?_
          refine E_aload pf_101_125 rfl ?_
          refine F_getf pf_101_126 rfl rfl rfl ?_
          refine F_v2v (l' := [(_, _), (_, _), (_, _), (_, _), (_, _), (_, _), (_, _), (_, _), (_, _), (_, _), (_, _), (_, _), (_, _)]) pf_101_129 (h8) (And.intro rfl (And.intro rfl (And.intro rfl (And.intro rfl (And.intro rfl (And.intro rfl (And.intro rfl (And.intro rfl (And.intro rfl (And.intro rfl (trivial))))))))))) rfl rfl rfl rfl ?_
          refine E_iload pf_101_132 rfl ?_
          refine E_icmp_ne_f pf_101_133 (by omega) ?_
          refine E_iconst pf_101_136 ?_
          refine E_goto pf_101_137 ?_
          exact E_iret pf_101_141 rfl
        · refine E_in (lv := [_, _, _, _]) rfl ?_
          refine E_iload pf_172_0 rfl ?_
          refine E_tsw pf_172_1 (by omega) rfl ?_
          refine E_iload pf_172_133 rfl ?_
          refine E_if_ne_f pf_172_134 (by omega) ?_
          refine E_aload pf_172_137 rfl ?_
          refine E_aload pf_172_138 rfl ?_
          refine F_getf pf_172_139 rfl rfl rfl ?_
          refine F_v2v0 pf_172_142 (h118) (And.intro rfl (And.intro rfl (And.intro rfl (trivial)))) rfl rfl ?_
          refine E_iload pf_172_145 rfl ?_
          refine E_icmp_ne_f pf_172_146 (by omega) ?_
          refine E_iconst pf_172_149 ?_
          refine E_goto pf_172_150 ?_
          exact E_iret pf_172_154 rfl
      · refine ⟨0, m, V, U, r, st, dr, .inl rfl, ok, ⟨pu, be, zfill x (yX V U C m) 4, zfill rs (eR R V U C m) rn, zfill sl (eS R V U C m rn) 4, mv, Q, fun h => ?_⟩, ⟨Q2, bg, wy, fun h => ?_⟩⟩
        · refine E_in (lv := [_, _, _, _]) rfl ?_
          refine E_iload pf_101_0 rfl ?_
          refine E_iconst pf_101_1 ?_
          refine E_idiv pf_101_3 (by omega) ?_
          refine E_iconst pf_101_4 ?_
          refine E_irem pf_101_6 (by omega) ?_
          refine E_ti (b := a2) e2.symm ?_
          refine E_istore (lv' := [_, _, _, _]) pf_101_7 rfl rfl ?_
          refine E_iload pf_101_8 rfl ?_
          refine E_iconst pf_101_9 ?_
          refine E_irem pf_101_11 (by omega) ?_
          refine E_ti (b := a3) e3.symm ?_
          refine E_istore (lv' := [_, _, _, _]) pf_101_12 rfl rfl ?_
          refine E_iload pf_101_13 rfl ?_
          refine E_iconst pf_101_14 ?_
          refine E_idiv pf_101_17 (by omega) ?_
          refine E_ti (b := 5) (by omega) ?_
          refine E_tsw pf_101_18 (by omega) rfl ?_
          refine E_iload pf_101_117 rfl ?_
          refine E_if_ne_f pf_101_118 (by omega) ?_
          refine E_aload pf_101_121 rfl ?_
          refine F_getf pf_101_122 rfl rfl rfl ?_
          refine E_aload pf_101_125 rfl ?_
          refine F_getf pf_101_126 rfl rfl rfl ?_
          refine F_v2v (l' := [(_, _), (_, _), (_, _), (_, _), (_, _), (_, _), (_, _), (_, _), (_, _), (_, _), (_, _), (_, _), (_, _)]) pf_101_129 (h8) (And.intro rfl (And.intro rfl (And.intro rfl (And.intro rfl (And.intro rfl (And.intro rfl (And.intro rfl (And.intro rfl (And.intro rfl (And.intro rfl (trivial))))))))))) rfl rfl rfl rfl ?_
          refine E_iload pf_101_132 rfl ?_
          refine E_icmp_ne_t pf_101_133 (by omega) ?_
          refine E_iconst pf_101_140 ?_
          exact E_iret pf_101_141 rfl
        · refine E_in (lv := [_, _, _, _]) rfl ?_
          refine E_iload pf_172_0 rfl ?_
          refine E_tsw pf_172_1 (by omega) rfl ?_
          refine E_iload pf_172_133 rfl ?_
          refine E_if_ne_f pf_172_134 (by omega) ?_
          refine E_aload pf_172_137 rfl ?_
          refine E_aload pf_172_138 rfl ?_
          refine F_getf pf_172_139 rfl rfl rfl ?_
          refine F_v2v0 pf_172_142 (h118) (And.intro rfl (And.intro rfl (And.intro rfl (trivial)))) rfl rfl ?_
          refine E_iload pf_172_145 rfl ?_
          refine E_icmp_ne_t pf_172_146 (by omega) ?_
          refine E_iconst pf_172_153 ?_
          exact E_iret pf_172_154 rfl
    ·
      refine ⟨0, m, V, U, r, st, dr, .inl rfl, ok, ⟨pu, be, x, rs, sl, mv, Q, fun h => ?_⟩, ⟨Q2, bg, wy, fun h => ?_⟩⟩
      · refine E_in (lv := [_, _, _, _]) rfl ?_
        refine E_iload pf_101_0 rfl ?_
        refine E_iconst pf_101_1 ?_
        refine E_idiv pf_101_3 (by omega) ?_
        refine E_iconst pf_101_4 ?_
        refine E_irem pf_101_6 (by omega) ?_
        refine E_ti (b := a2) e2.symm ?_
        refine E_istore (lv' := [_, _, _, _]) pf_101_7 rfl rfl ?_
        refine E_iload pf_101_8 rfl ?_
        refine E_iconst pf_101_9 ?_
        refine E_irem pf_101_11 (by omega) ?_
        refine E_ti (b := a3) e3.symm ?_
        refine E_istore (lv' := [_, _, _, _]) pf_101_12 rfl rfl ?_
        refine E_iload pf_101_13 rfl ?_
        refine E_iconst pf_101_14 ?_
        refine E_idiv pf_101_17 (by omega) ?_
        refine E_ti (b := 5) (by omega) ?_
        refine E_tsw pf_101_18 (by omega) rfl ?_
        refine E_iload pf_101_117 rfl ?_
        refine E_if_ne_t pf_101_118 (by omega) ?_
        refine E_iconst pf_101_140 ?_
        exact E_iret pf_101_141 rfl
      · refine E_in (lv := [_, _, _, _]) rfl ?_
        refine E_iload pf_172_0 rfl ?_
        refine E_tsw pf_172_1 (by omega) rfl ?_
        refine E_iload pf_172_133 rfl ?_
        refine E_if_ne_t pf_172_134 (by omega) ?_
        refine E_iconst pf_172_153 ?_
        exact E_iret pf_172_154 rfl
  by_cases k6 : g1 = 6
  · subst k6
    by_cases y1 : a2 < m
    · have hU := Mx_at ok.2.2.2.2.1 (i := a2.toNat) (by omega)
      have hq := ok.2.2.1 a2.toNat (by omega)
      rw [show ((a2.toNat : Nat) : Int) = a2 by omega] at hU hq
      by_cases y2 : a3 ≤ U a2
      ·
        refine ⟨1, m, V, U, r, st, dr, .inr rfl, ok, ⟨pu, be, x, rs, sl, mv, Q, fun h => ?_⟩, ⟨Q2, bg, wy, fun h => ?_⟩⟩
        · refine E_in (lv := [_, _, _, _]) rfl ?_
          refine E_iload pf_101_0 rfl ?_
          refine E_iconst pf_101_1 ?_
          refine E_idiv pf_101_3 (by omega) ?_
          refine E_iconst pf_101_4 ?_
          refine E_irem pf_101_6 (by omega) ?_
          refine E_ti (b := a2) e2.symm ?_
          refine E_istore (lv' := [_, _, _, _]) pf_101_7 rfl rfl ?_
          refine E_iload pf_101_8 rfl ?_
          refine E_iconst pf_101_9 ?_
          refine E_irem pf_101_11 (by omega) ?_
          refine E_ti (b := a3) e3.symm ?_
          refine E_istore (lv' := [_, _, _, _]) pf_101_12 rfl rfl ?_
          refine E_iload pf_101_13 rfl ?_
          refine E_iconst pf_101_14 ?_
          refine E_idiv pf_101_17 (by omega) ?_
          refine E_ti (b := 6) (by omega) ?_
          refine E_tsw pf_101_18 (by omega) rfl ?_
          refine E_iload pf_101_142 rfl ?_
          refine E_aload pf_101_143 rfl ?_
          refine F_getf pf_101_144 rfl rfl rfl ?_
          refine F_getf pf_101_147 rfl rfl rfl ?_
          refine E_icmp_ge_f pf_101_150 (by omega) ?_
          refine E_aload pf_101_153 rfl ?_
          refine F_getf pf_101_154 rfl rfl rfl ?_
          refine F_getf pf_101_157 rfl rfl rfl ?_
          refine E_iload pf_101_160 rfl ?_
          refine F_iald pf_101_161 rfl (by omega) ?_
          refine E_iload pf_101_162 rfl ?_
          refine E_icmp_lt_f pf_101_163 (by omega) ?_
          refine E_iconst pf_101_166 ?_
          refine E_goto pf_101_167 ?_
          exact E_iret pf_101_171 rfl
        · refine E_in (lv := [_, _, _, _]) rfl ?_
          refine E_iload pf_172_0 rfl ?_
          refine E_tsw pf_172_1 (by omega) rfl ?_
          refine E_iload pf_172_155 rfl ?_
          refine E_aload pf_172_156 rfl ?_
          refine F_getf pf_172_157 rfl rfl rfl ?_
          refine E_iconst pf_172_160 ?_
          refine F_iald pf_172_162 rfl (by omega) ?_
          refine E_icmp_ge_f pf_172_163 (by omega) ?_
          refine E_aload pf_172_166 rfl ?_
          refine F_getf pf_172_167 rfl rfl rfl ?_
          refine E_iconst pf_172_170 ?_
          refine E_iload pf_172_172 rfl ?_
          refine E_iadd pf_172_173 ?_
          refine F_iald pf_172_174 rfl (by omega) ?_
          refine E_iload pf_172_175 rfl ?_
          refine E_icmp_lt_f pf_172_176 (by omega) ?_
          refine E_iconst pf_172_179 ?_
          refine E_goto pf_172_180 ?_
          exact E_iret pf_172_184 rfl
      ·
        refine ⟨0, m, V, U, r, st, dr, .inl rfl, ok, ⟨pu, be, x, rs, sl, mv, Q, fun h => ?_⟩, ⟨Q2, bg, wy, fun h => ?_⟩⟩
        · refine E_in (lv := [_, _, _, _]) rfl ?_
          refine E_iload pf_101_0 rfl ?_
          refine E_iconst pf_101_1 ?_
          refine E_idiv pf_101_3 (by omega) ?_
          refine E_iconst pf_101_4 ?_
          refine E_irem pf_101_6 (by omega) ?_
          refine E_ti (b := a2) e2.symm ?_
          refine E_istore (lv' := [_, _, _, _]) pf_101_7 rfl rfl ?_
          refine E_iload pf_101_8 rfl ?_
          refine E_iconst pf_101_9 ?_
          refine E_irem pf_101_11 (by omega) ?_
          refine E_ti (b := a3) e3.symm ?_
          refine E_istore (lv' := [_, _, _, _]) pf_101_12 rfl rfl ?_
          refine E_iload pf_101_13 rfl ?_
          refine E_iconst pf_101_14 ?_
          refine E_idiv pf_101_17 (by omega) ?_
          refine E_ti (b := 6) (by omega) ?_
          refine E_tsw pf_101_18 (by omega) rfl ?_
          refine E_iload pf_101_142 rfl ?_
          refine E_aload pf_101_143 rfl ?_
          refine F_getf pf_101_144 rfl rfl rfl ?_
          refine F_getf pf_101_147 rfl rfl rfl ?_
          refine E_icmp_ge_f pf_101_150 (by omega) ?_
          refine E_aload pf_101_153 rfl ?_
          refine F_getf pf_101_154 rfl rfl rfl ?_
          refine F_getf pf_101_157 rfl rfl rfl ?_
          refine E_iload pf_101_160 rfl ?_
          refine F_iald pf_101_161 rfl (by omega) ?_
          refine E_iload pf_101_162 rfl ?_
          refine E_icmp_lt_t pf_101_163 (by omega) ?_
          refine E_iconst pf_101_170 ?_
          exact E_iret pf_101_171 rfl
        · refine E_in (lv := [_, _, _, _]) rfl ?_
          refine E_iload pf_172_0 rfl ?_
          refine E_tsw pf_172_1 (by omega) rfl ?_
          refine E_iload pf_172_155 rfl ?_
          refine E_aload pf_172_156 rfl ?_
          refine F_getf pf_172_157 rfl rfl rfl ?_
          refine E_iconst pf_172_160 ?_
          refine F_iald pf_172_162 rfl (by omega) ?_
          refine E_icmp_ge_f pf_172_163 (by omega) ?_
          refine E_aload pf_172_166 rfl ?_
          refine F_getf pf_172_167 rfl rfl rfl ?_
          refine E_iconst pf_172_170 ?_
          refine E_iload pf_172_172 rfl ?_
          refine E_iadd pf_172_173 ?_
          refine F_iald pf_172_174 rfl (by omega) ?_
          refine E_iload pf_172_175 rfl ?_
          refine E_icmp_lt_t pf_172_176 (by omega) ?_
          refine E_iconst pf_172_183 ?_
          exact E_iret pf_172_184 rfl
    ·
      refine ⟨0, m, V, U, r, st, dr, .inl rfl, ok, ⟨pu, be, x, rs, sl, mv, Q, fun h => ?_⟩, ⟨Q2, bg, wy, fun h => ?_⟩⟩
      · refine E_in (lv := [_, _, _, _]) rfl ?_
        refine E_iload pf_101_0 rfl ?_
        refine E_iconst pf_101_1 ?_
        refine E_idiv pf_101_3 (by omega) ?_
        refine E_iconst pf_101_4 ?_
        refine E_irem pf_101_6 (by omega) ?_
        refine E_ti (b := a2) e2.symm ?_
        refine E_istore (lv' := [_, _, _, _]) pf_101_7 rfl rfl ?_
        refine E_iload pf_101_8 rfl ?_
        refine E_iconst pf_101_9 ?_
        refine E_irem pf_101_11 (by omega) ?_
        refine E_ti (b := a3) e3.symm ?_
        refine E_istore (lv' := [_, _, _, _]) pf_101_12 rfl rfl ?_
        refine E_iload pf_101_13 rfl ?_
        refine E_iconst pf_101_14 ?_
        refine E_idiv pf_101_17 (by omega) ?_
        refine E_ti (b := 6) (by omega) ?_
        refine E_tsw pf_101_18 (by omega) rfl ?_
        refine E_iload pf_101_142 rfl ?_
        refine E_aload pf_101_143 rfl ?_
        refine F_getf pf_101_144 rfl rfl rfl ?_
        refine F_getf pf_101_147 rfl rfl rfl ?_
        refine E_icmp_ge_t pf_101_150 (by omega) ?_
        refine E_iconst pf_101_170 ?_
        exact E_iret pf_101_171 rfl
      · refine E_in (lv := [_, _, _, _]) rfl ?_
        refine E_iload pf_172_0 rfl ?_
        refine E_tsw pf_172_1 (by omega) rfl ?_
        refine E_iload pf_172_155 rfl ?_
        refine E_aload pf_172_156 rfl ?_
        refine F_getf pf_172_157 rfl rfl rfl ?_
        refine E_iconst pf_172_160 ?_
        refine F_iald pf_172_162 rfl (by omega) ?_
        refine E_icmp_ge_t pf_172_163 (by omega) ?_
        refine E_iconst pf_172_183 ?_
        exact E_iret pf_172_184 rfl
  by_cases k7 : g1 = 7
  · subst k7
    have eG := cpl_Gap hc hs pl.1
    have hG := zGap_in hp pl.2.1
    have h7 := c7t (d := (dn : Int)) (k := k) (pu := pu) (be := be) (x := x) (rs := rs) (sl := sl) (st := st) (dr := dr) hs pl.1
    rw [eG] at h7
    have h120 := c120t (rf := rf) (ts := ts) (sp := sp) (k := kd) (rd := rd) (rk := rk) (rv := rv) (rr := rr) (ac := ac) hp pl.2.1
    by_cases y1 : a2 = 0
    · by_cases y3 : a3 = 0
      · by_cases y2 : zGap r P m dn rn vn = 0
        · refine ⟨1, m, V, U, r, st, dr, .inr rfl, ok, ⟨pu, be, zfill x (yX V U C m) 4, zfill rs (eR R V U C m) rn, zfill sl (eS R V U C m rn) 4, mv, Q, fun h => ?_⟩, ⟨Q2, bg, wy, fun h => ?_⟩⟩
          · refine E_in (lv := [_, _, _, _]) rfl ?_
            refine E_iload pf_101_0 rfl ?_
            refine E_iconst pf_101_1 ?_
            refine E_idiv pf_101_3 (by omega) ?_
            refine E_iconst pf_101_4 ?_
            refine E_irem pf_101_6 (by omega) ?_
            refine E_ti (b := a2) e2.symm ?_
            refine E_istore (lv' := [_, _, _, _]) pf_101_7 rfl rfl ?_
            refine E_iload pf_101_8 rfl ?_
            refine E_iconst pf_101_9 ?_
            refine E_irem pf_101_11 (by omega) ?_
            refine E_ti (b := a3) e3.symm ?_
            refine E_istore (lv' := [_, _, _, _]) pf_101_12 rfl rfl ?_
            refine E_iload pf_101_13 rfl ?_
            refine E_iconst pf_101_14 ?_
            refine E_idiv pf_101_17 (by omega) ?_
            refine E_ti (b := 7) (by omega) ?_
            refine E_tsw pf_101_18 (by omega) rfl ?_
            refine E_iload pf_101_172 rfl ?_
            refine E_if_ne_f pf_101_173 (by omega) ?_
            refine E_iload pf_101_176 rfl ?_
            refine E_if_ne_f pf_101_177 (by omega) ?_
            refine E_aload pf_101_180 rfl ?_
            refine F_getf pf_101_181 rfl rfl rfl ?_
            refine E_aload pf_101_184 rfl ?_
            refine F_getf pf_101_185 rfl rfl rfl ?_
            refine F_v2v (l' := [(_, _), (_, _), (_, _), (_, _), (_, _), (_, _), (_, _), (_, _), (_, _), (_, _), (_, _), (_, _), (_, _)]) pf_101_188 (h7) (And.intro rfl (And.intro rfl (And.intro rfl (And.intro rfl (And.intro rfl (And.intro rfl (And.intro rfl (And.intro rfl (And.intro rfl (And.intro rfl (trivial))))))))))) rfl rfl rfl rfl ?_
            refine E_lconst pf_101_191 ?_
            refine E_lcmp_ne_f pf_101_192 pf_101_193 (by omega) ?_
            refine E_iconst pf_101_196 ?_
            refine E_goto pf_101_197 ?_
            exact E_iret pf_101_201 rfl
          · refine E_in (lv := [_, _, _, _]) rfl ?_
            refine E_iload pf_172_0 rfl ?_
            refine E_tsw pf_172_1 (by omega) rfl ?_
            refine E_iload pf_172_185 rfl ?_
            refine E_if_ne_f pf_172_186 (by omega) ?_
            refine E_iload pf_172_189 rfl ?_
            refine E_if_ne_f pf_172_190 (by omega) ?_
            refine E_aload pf_172_193 rfl ?_
            refine E_aload pf_172_194 rfl ?_
            refine F_getf pf_172_195 rfl rfl rfl ?_
            refine F_v2v0 pf_172_198 (h120) (And.intro rfl (And.intro rfl (And.intro rfl (trivial)))) rfl rfl ?_
            refine E_lconst pf_172_201 ?_
            refine E_lcmp_ne_f pf_172_202 pf_172_203 (by omega) ?_
            refine E_iconst pf_172_206 ?_
            refine E_goto pf_172_207 ?_
            exact E_iret pf_172_211 rfl
        · refine ⟨0, m, V, U, r, st, dr, .inl rfl, ok, ⟨pu, be, zfill x (yX V U C m) 4, zfill rs (eR R V U C m) rn, zfill sl (eS R V U C m rn) 4, mv, Q, fun h => ?_⟩, ⟨Q2, bg, wy, fun h => ?_⟩⟩
          · refine E_in (lv := [_, _, _, _]) rfl ?_
            refine E_iload pf_101_0 rfl ?_
            refine E_iconst pf_101_1 ?_
            refine E_idiv pf_101_3 (by omega) ?_
            refine E_iconst pf_101_4 ?_
            refine E_irem pf_101_6 (by omega) ?_
            refine E_ti (b := a2) e2.symm ?_
            refine E_istore (lv' := [_, _, _, _]) pf_101_7 rfl rfl ?_
            refine E_iload pf_101_8 rfl ?_
            refine E_iconst pf_101_9 ?_
            refine E_irem pf_101_11 (by omega) ?_
            refine E_ti (b := a3) e3.symm ?_
            refine E_istore (lv' := [_, _, _, _]) pf_101_12 rfl rfl ?_
            refine E_iload pf_101_13 rfl ?_
            refine E_iconst pf_101_14 ?_
            refine E_idiv pf_101_17 (by omega) ?_
            refine E_ti (b := 7) (by omega) ?_
            refine E_tsw pf_101_18 (by omega) rfl ?_
            refine E_iload pf_101_172 rfl ?_
            refine E_if_ne_f pf_101_173 (by omega) ?_
            refine E_iload pf_101_176 rfl ?_
            refine E_if_ne_f pf_101_177 (by omega) ?_
            refine E_aload pf_101_180 rfl ?_
            refine F_getf pf_101_181 rfl rfl rfl ?_
            refine E_aload pf_101_184 rfl ?_
            refine F_getf pf_101_185 rfl rfl rfl ?_
            refine F_v2v (l' := [(_, _), (_, _), (_, _), (_, _), (_, _), (_, _), (_, _), (_, _), (_, _), (_, _), (_, _), (_, _), (_, _)]) pf_101_188 (h7) (And.intro rfl (And.intro rfl (And.intro rfl (And.intro rfl (And.intro rfl (And.intro rfl (And.intro rfl (And.intro rfl (And.intro rfl (And.intro rfl (trivial))))))))))) rfl rfl rfl rfl ?_
            refine E_lconst pf_101_191 ?_
            refine E_lcmp_ne_t pf_101_192 pf_101_193 (by omega) ?_
            refine E_iconst pf_101_200 ?_
            exact E_iret pf_101_201 rfl
          · refine E_in (lv := [_, _, _, _]) rfl ?_
            refine E_iload pf_172_0 rfl ?_
            refine E_tsw pf_172_1 (by omega) rfl ?_
            refine E_iload pf_172_185 rfl ?_
            refine E_if_ne_f pf_172_186 (by omega) ?_
            refine E_iload pf_172_189 rfl ?_
            refine E_if_ne_f pf_172_190 (by omega) ?_
            refine E_aload pf_172_193 rfl ?_
            refine E_aload pf_172_194 rfl ?_
            refine F_getf pf_172_195 rfl rfl rfl ?_
            refine F_v2v0 pf_172_198 (h120) (And.intro rfl (And.intro rfl (And.intro rfl (trivial)))) rfl rfl ?_
            refine E_lconst pf_172_201 ?_
            refine E_lcmp_ne_t pf_172_202 pf_172_203 (by omega) ?_
            refine E_iconst pf_172_210 ?_
            exact E_iret pf_172_211 rfl
      ·
        refine ⟨0, m, V, U, r, st, dr, .inl rfl, ok, ⟨pu, be, x, rs, sl, mv, Q, fun h => ?_⟩, ⟨Q2, bg, wy, fun h => ?_⟩⟩
        · refine E_in (lv := [_, _, _, _]) rfl ?_
          refine E_iload pf_101_0 rfl ?_
          refine E_iconst pf_101_1 ?_
          refine E_idiv pf_101_3 (by omega) ?_
          refine E_iconst pf_101_4 ?_
          refine E_irem pf_101_6 (by omega) ?_
          refine E_ti (b := a2) e2.symm ?_
          refine E_istore (lv' := [_, _, _, _]) pf_101_7 rfl rfl ?_
          refine E_iload pf_101_8 rfl ?_
          refine E_iconst pf_101_9 ?_
          refine E_irem pf_101_11 (by omega) ?_
          refine E_ti (b := a3) e3.symm ?_
          refine E_istore (lv' := [_, _, _, _]) pf_101_12 rfl rfl ?_
          refine E_iload pf_101_13 rfl ?_
          refine E_iconst pf_101_14 ?_
          refine E_idiv pf_101_17 (by omega) ?_
          refine E_ti (b := 7) (by omega) ?_
          refine E_tsw pf_101_18 (by omega) rfl ?_
          refine E_iload pf_101_172 rfl ?_
          refine E_if_ne_f pf_101_173 (by omega) ?_
          refine E_iload pf_101_176 rfl ?_
          refine E_if_ne_t pf_101_177 (by omega) ?_
          refine E_iconst pf_101_200 ?_
          exact E_iret pf_101_201 rfl
        · refine E_in (lv := [_, _, _, _]) rfl ?_
          refine E_iload pf_172_0 rfl ?_
          refine E_tsw pf_172_1 (by omega) rfl ?_
          refine E_iload pf_172_185 rfl ?_
          refine E_if_ne_f pf_172_186 (by omega) ?_
          refine E_iload pf_172_189 rfl ?_
          refine E_if_ne_t pf_172_190 (by omega) ?_
          refine E_iconst pf_172_210 ?_
          exact E_iret pf_172_211 rfl
    ·
      refine ⟨0, m, V, U, r, st, dr, .inl rfl, ok, ⟨pu, be, x, rs, sl, mv, Q, fun h => ?_⟩, ⟨Q2, bg, wy, fun h => ?_⟩⟩
      · refine E_in (lv := [_, _, _, _]) rfl ?_
        refine E_iload pf_101_0 rfl ?_
        refine E_iconst pf_101_1 ?_
        refine E_idiv pf_101_3 (by omega) ?_
        refine E_iconst pf_101_4 ?_
        refine E_irem pf_101_6 (by omega) ?_
        refine E_ti (b := a2) e2.symm ?_
        refine E_istore (lv' := [_, _, _, _]) pf_101_7 rfl rfl ?_
        refine E_iload pf_101_8 rfl ?_
        refine E_iconst pf_101_9 ?_
        refine E_irem pf_101_11 (by omega) ?_
        refine E_ti (b := a3) e3.symm ?_
        refine E_istore (lv' := [_, _, _, _]) pf_101_12 rfl rfl ?_
        refine E_iload pf_101_13 rfl ?_
        refine E_iconst pf_101_14 ?_
        refine E_idiv pf_101_17 (by omega) ?_
        refine E_ti (b := 7) (by omega) ?_
        refine E_tsw pf_101_18 (by omega) rfl ?_
        refine E_iload pf_101_172 rfl ?_
        refine E_if_ne_t pf_101_173 (by omega) ?_
        refine E_iconst pf_101_200 ?_
        exact E_iret pf_101_201 rfl
      · refine E_in (lv := [_, _, _, _]) rfl ?_
        refine E_iload pf_172_0 rfl ?_
        refine E_tsw pf_172_1 (by omega) rfl ?_
        refine E_iload pf_172_185 rfl ?_
        refine E_if_ne_t pf_172_186 (by omega) ?_
        refine E_iconst pf_172_210 ?_
        exact E_iret pf_172_211 rfl
  by_cases k8 : g1 = 8
  · subst k8
    obtain ⟨z, hz1, hz2⟩ := ii_rng dr
    have hz3 : ii (r 70) = ii z := ok.2.2.2.2.2.2.symm.trans hz1
    by_cases y1 : a2 = 0
    · by_cases y2 : z = a3
      ·
        refine ⟨1, m, V, U, r, st, dr, .inr rfl, ok, ⟨pu, be, x, rs, sl, mv, Q, fun h => ?_⟩, ⟨Q2, bg, wy, fun h => ?_⟩⟩
        · refine E_in (lv := [_, _, _, _]) rfl ?_
          refine E_iload pf_101_0 rfl ?_
          refine E_iconst pf_101_1 ?_
          refine E_idiv pf_101_3 (by omega) ?_
          refine E_iconst pf_101_4 ?_
          refine E_irem pf_101_6 (by omega) ?_
          refine E_ti (b := a2) e2.symm ?_
          refine E_istore (lv' := [_, _, _, _]) pf_101_7 rfl rfl ?_
          refine E_iload pf_101_8 rfl ?_
          refine E_iconst pf_101_9 ?_
          refine E_irem pf_101_11 (by omega) ?_
          refine E_ti (b := a3) e3.symm ?_
          refine E_istore (lv' := [_, _, _, _]) pf_101_12 rfl rfl ?_
          refine E_iload pf_101_13 rfl ?_
          refine E_iconst pf_101_14 ?_
          refine E_idiv pf_101_17 (by omega) ?_
          refine E_ti (b := 8) (by omega) ?_
          refine E_tsw pf_101_18 (by omega) rfl ?_
          refine E_iload pf_101_202 rfl ?_
          refine E_if_ne_f pf_101_203 (by omega) ?_
          refine E_aload pf_101_206 rfl ?_
          refine F_getf pf_101_207 rfl rfl rfl ?_
          refine F_getf pf_101_210 rfl rfl rfl ?_
          rw [hz1]
          refine E_iload pf_101_213 rfl ?_
          refine E_icmp_ne_f pf_101_214 (by omega) ?_
          refine E_iconst pf_101_217 ?_
          refine E_goto pf_101_218 ?_
          exact E_iret pf_101_222 rfl
        · refine E_in (lv := [_, _, _, _]) rfl ?_
          refine E_iload pf_172_0 rfl ?_
          refine E_tsw pf_172_1 (by omega) rfl ?_
          refine E_iload pf_172_212 rfl ?_
          refine E_if_ne_f pf_172_213 (by omega) ?_
          refine E_aload pf_172_216 rfl ?_
          refine F_getf pf_172_217 rfl rfl rfl ?_
          refine E_iconst pf_172_220 ?_
          refine F_iald pf_172_222 rfl (by omega) ?_
          rw [hz3]
          refine E_iload pf_172_223 rfl ?_
          refine E_icmp_ne_f pf_172_224 (by omega) ?_
          refine E_iconst pf_172_227 ?_
          refine E_goto pf_172_228 ?_
          exact E_iret pf_172_232 rfl
      ·
        refine ⟨0, m, V, U, r, st, dr, .inl rfl, ok, ⟨pu, be, x, rs, sl, mv, Q, fun h => ?_⟩, ⟨Q2, bg, wy, fun h => ?_⟩⟩
        · refine E_in (lv := [_, _, _, _]) rfl ?_
          refine E_iload pf_101_0 rfl ?_
          refine E_iconst pf_101_1 ?_
          refine E_idiv pf_101_3 (by omega) ?_
          refine E_iconst pf_101_4 ?_
          refine E_irem pf_101_6 (by omega) ?_
          refine E_ti (b := a2) e2.symm ?_
          refine E_istore (lv' := [_, _, _, _]) pf_101_7 rfl rfl ?_
          refine E_iload pf_101_8 rfl ?_
          refine E_iconst pf_101_9 ?_
          refine E_irem pf_101_11 (by omega) ?_
          refine E_ti (b := a3) e3.symm ?_
          refine E_istore (lv' := [_, _, _, _]) pf_101_12 rfl rfl ?_
          refine E_iload pf_101_13 rfl ?_
          refine E_iconst pf_101_14 ?_
          refine E_idiv pf_101_17 (by omega) ?_
          refine E_ti (b := 8) (by omega) ?_
          refine E_tsw pf_101_18 (by omega) rfl ?_
          refine E_iload pf_101_202 rfl ?_
          refine E_if_ne_f pf_101_203 (by omega) ?_
          refine E_aload pf_101_206 rfl ?_
          refine F_getf pf_101_207 rfl rfl rfl ?_
          refine F_getf pf_101_210 rfl rfl rfl ?_
          rw [hz1]
          refine E_iload pf_101_213 rfl ?_
          refine E_icmp_ne_t pf_101_214 (by omega) ?_
          refine E_iconst pf_101_221 ?_
          exact E_iret pf_101_222 rfl
        · refine E_in (lv := [_, _, _, _]) rfl ?_
          refine E_iload pf_172_0 rfl ?_
          refine E_tsw pf_172_1 (by omega) rfl ?_
          refine E_iload pf_172_212 rfl ?_
          refine E_if_ne_f pf_172_213 (by omega) ?_
          refine E_aload pf_172_216 rfl ?_
          refine F_getf pf_172_217 rfl rfl rfl ?_
          refine E_iconst pf_172_220 ?_
          refine F_iald pf_172_222 rfl (by omega) ?_
          rw [hz3]
          refine E_iload pf_172_223 rfl ?_
          refine E_icmp_ne_t pf_172_224 (by omega) ?_
          refine E_iconst pf_172_231 ?_
          exact E_iret pf_172_232 rfl
    ·
      refine ⟨0, m, V, U, r, st, dr, .inl rfl, ok, ⟨pu, be, x, rs, sl, mv, Q, fun h => ?_⟩, ⟨Q2, bg, wy, fun h => ?_⟩⟩
      · refine E_in (lv := [_, _, _, _]) rfl ?_
        refine E_iload pf_101_0 rfl ?_
        refine E_iconst pf_101_1 ?_
        refine E_idiv pf_101_3 (by omega) ?_
        refine E_iconst pf_101_4 ?_
        refine E_irem pf_101_6 (by omega) ?_
        refine E_ti (b := a2) e2.symm ?_
        refine E_istore (lv' := [_, _, _, _]) pf_101_7 rfl rfl ?_
        refine E_iload pf_101_8 rfl ?_
        refine E_iconst pf_101_9 ?_
        refine E_irem pf_101_11 (by omega) ?_
        refine E_ti (b := a3) e3.symm ?_
        refine E_istore (lv' := [_, _, _, _]) pf_101_12 rfl rfl ?_
        refine E_iload pf_101_13 rfl ?_
        refine E_iconst pf_101_14 ?_
        refine E_idiv pf_101_17 (by omega) ?_
        refine E_ti (b := 8) (by omega) ?_
        refine E_tsw pf_101_18 (by omega) rfl ?_
        refine E_iload pf_101_202 rfl ?_
        refine E_if_ne_t pf_101_203 (by omega) ?_
        refine E_iconst pf_101_221 ?_
        exact E_iret pf_101_222 rfl
      · refine E_in (lv := [_, _, _, _]) rfl ?_
        refine E_iload pf_172_0 rfl ?_
        refine E_tsw pf_172_1 (by omega) rfl ?_
        refine E_iload pf_172_212 rfl ?_
        refine E_if_ne_t pf_172_213 (by omega) ?_
        refine E_iconst pf_172_231 ?_
        exact E_iret pf_172_232 rfl
  refine ⟨0, m, V, U, r, st, dr, .inl rfl, ok, ⟨pu, be, x, rs, sl, mv, Q, fun h => ?_⟩, ⟨Q2, bg, wy, fun h => ?_⟩⟩
  · refine E_in (lv := [_, _, _, _]) rfl ?_
    refine E_iload pf_101_0 rfl ?_
    refine E_iconst pf_101_1 ?_
    refine E_idiv pf_101_3 (by omega) ?_
    refine E_iconst pf_101_4 ?_
    refine E_irem pf_101_6 (by omega) ?_
    refine E_ti (b := a2) e2.symm ?_
    refine E_istore (lv' := [_, _, _, _]) pf_101_7 rfl rfl ?_
    refine E_iload pf_101_8 rfl ?_
    refine E_iconst pf_101_9 ?_
    refine E_irem pf_101_11 (by omega) ?_
    refine E_ti (b := a3) e3.symm ?_
    refine E_istore (lv' := [_, _, _, _]) pf_101_12 rfl rfl ?_
    refine E_iload pf_101_13 rfl ?_
    refine E_iconst pf_101_14 ?_
    refine E_idiv pf_101_17 (by omega) ?_
    refine E_ti (b := g1) (by omega) ?_
    refine E_tsd pf_101_18 (by omega) ?_
    refine E_iconst pf_101_223 ?_
    exact E_iret pf_101_224 rfl
  · refine E_in (lv := [_, _, _, _]) rfl ?_
    refine E_iload pf_172_0 rfl ?_
    refine E_tsd pf_172_1 (by omega) ?_
    refine E_iconst pf_172_233 ?_
    exact E_iret pf_172_234 rfl
end TRI
