/-! The actions, both sides. -/
def ct (c : Nat) : Nat := if c = 14 then 14 else c + 1
def nt (n : Nat) : Nat := (n + 1) % 14
def bt (n : Nat) : Nat := (n + 13) % 14
abbrev tup (rn : Nat) (R : Int → Int) (m : Nat) (V U : Int → Int) (st dr : Int) : pg := ((rn : Int), R, (m : Int), V, U, st, dr)
/-- cells of the memory, and all others -/
def wrg (l : pd_L) : Bool := l.all fun q => Nat.blt q.1 32 || Nat.blt 89 q.1
def wrm (l : pd_L) : Bool := l.all fun q => Nat.ble 32 q.1 && Nat.ble q.1 89
theorem wl_rg {l : pd_L} (h : wrg l = true) {a : Nat} (h1 : 32 ≤ a ∧ a ≤ 89) : wl l a = none := by
  induction l with
  | nil => rfl
  | cons q l ih =>
    unfold wrg at h
    rw [List.all_cons, Bool.and_eq_true] at h
    have h2 := h.1
    simp only [Bool.or_eq_true, Nat.blt_eq] at h2
    simp only [wl]
    rw [if_neg (by omega)]
    exact ih h.2
theorem wl_rm {l : pd_L} (h : wrm l = true) {a : Nat} (h1 : ¬ (32 ≤ a ∧ a ≤ 89)) : wl l a = none := by
  induction l with
  | nil => rfl
  | cons q l ih =>
    unfold wrm at h
    rw [List.all_cons, Bool.and_eq_true] at h
    have h2 := h.1
    simp only [Bool.and_eq_true, Nat.ble_eq] at h2
    simp only [wl]
    rw [if_neg (by omega)]
    exact ih h.2
theorem wd_comm {l lm : pd_L} {h : pd_H} (hl : wrg l = true) (hm : wrm lm = true) : wd lm (wd l h) = wd l (wd lm h) := by
  refine pd_ext ?_ fun a => ?_
  · rw [wd_1, wd_1, wd_1, wd_1]
  · rw [wd_get, wd_get, wd_get, wd_get]
    by_cases e : 32 ≤ a ∧ a ≤ 89
    · rw [wl_rg hl e]; rfl
    · rw [wl_rm hm e]; rfl
theorem wd_app (a b : pd_L) (h : pd_H) : wd (a ++ b) h = wd a (wd b h) := by
  induction a with
  | nil => rfl
  | cons q a ih => show pd_put (wd (a ++ b) h) q.1 q.2 = _; rw [ih]; rfl
theorem Ca_fr2 {c : Nat} {as : List Value} {ls ls' l l' lm lm' : pd_L} {v : pd_Out} {h : pd_H} (hc : ∀ h, Ca c as (wd ls (wd lm h)) (v, wd ls' (wd lm' h))) (hs : wsub l ls) (ha : wad l ls' = true) (hm : wsm l ls' = l') (hd : wrg l = true) (h1 : wrm lm = true) (h2 : wrm lm' = true) : Ca c as (wd l (wd lm h)) (v, wd l' (wd lm' h)) := by
  have := hc (wd l h)
  rw [wd_comm hd h1, wd_comm hd h2, wd_same hs, wd_merge ha, hm] at this
  exact this
theorem F_mem2 {mi pc np : Nat} {lv st : List Value} {h : pd_H} {r : pd_Out × pd_H} {c a ci : Nat} {fs : List Value} {a2 : Value} {l l' ls ls' lm lm' : pd_L} (f : pd_fetch mi pc = some (.invokevirtual c, np)) (hc : ∀ h, Ca c [.ref a, a2] (wd ls (wd lm h)) (.inl none, wd ls' (wd lm' h))) (hs : wsub l ls) (ha : wad l ls' = true) (hm : wsm l ls' = l') (hd : wrg l = true) (h1 : wrm lm = true) (h2 : wrm lm' = true) (hg : (if wl l a = none then wl lm a else none) = some (ob ci fs)) (hx : (pd_chk (.invokevirtual c) c [.ref a, a2] st && ci == pd_o c) = true) (k : Rn mi np lv st (wd l' (wd lm' h)) r) : Rn mi pc lv (a2 :: .ref a :: st) (wd l (wd lm h)) r := by
  have hg' : pd_get (wd l (wd lm h)) a = ob ci fs := by
    by_cases e : wl l a = none
    · rw [if_pos e] at hg
      rw [wd_out e, wd_at hg]
    · rw [if_neg e] at hg; cases hg
  exact E_v2u f hg' hx (Ca_fr2 hc hs ha hm hd h1 h2) k
theorem F_mem1 {mi pc np : Nat} {lv st : List Value} {h : pd_H} {r : pd_Out × pd_H} {c a ci : Nat} {fs : List Value} {l l' ls ls' lm lm' : pd_L} (f : pd_fetch mi pc = some (.invokevirtual c, np)) (hc : ∀ h, Ca c [.ref a] (wd ls (wd lm h)) (.inl none, wd ls' (wd lm' h))) (hs : wsub l ls) (ha : wad l ls' = true) (hm : wsm l ls' = l') (hd : wrg l = true) (h1 : wrm lm = true) (h2 : wrm lm' = true) (hg : (if wl l a = none then wl lm a else none) = some (ob ci fs)) (hx : (pd_chk (.invokevirtual c) c [.ref a] st && ci == pd_o c) = true) (k : Rn mi np lv st (wd l' (wd lm' h)) r) : Rn mi pc lv (.ref a :: st) (wd l (wd lm h)) r := by
  have hg' : pd_get (wd l (wd lm h)) a = ob ci fs := by
    by_cases e : wl l a = none
    · rw [if_pos e] at hg
      rw [wd_out e, wd_at hg]
    · rw [if_neg e] at hg; cases hg
  exact E_v1u f hg' hx (Ca_fr2 hc hs ha hm hd h1 h2) k
theorem F_getm {mi pc np : Nat} {lv st : List Value} {h : pd_H} {r : pd_Out × pd_H} {a c ci : Nat} {fs : List Value} {v : Value} {l lm : pd_L} (f : pd_fetch mi pc = some (.getfield c, np)) (hg : (if wl l a = none then wl lm a else none) = some (ob ci fs)) (hc : ci = c / 100) (hv : fs[c % 100]? = some v) (k : Rn mi np lv (v :: st) (wd l (wd lm h)) r) : Rn mi pc lv (.ref a :: st) (wd l (wd lm h)) r := by
  have hg' : pd_get (wd l (wd lm h)) a = ob ci fs := by
    by_cases e : wl l a = none
    · rw [if_pos e] at hg
      rw [wd_out e, wd_at hg]
    · rw [if_neg e] at hg; cases hg
  exact E_getf f hg' hc hv k
abbrev SC (S : pg) : pd_L := [(24, pst 24 S), (25, ar 20 S.2.1), (26, ar 24 S.2.2.2.1), (27, ar 24 S.2.2.2.2.1)]
abbrev LMm (c nx : Int) (M : Nat → pg) : pd_L := [(32, oM c nx), (33, rr 14 rq34), (34, pst 34 (M 0)), (35, ar 20 (M 0).2.1), (36, ar 24 (M 0).2.2.2.1), (37, ar 24 (M 0).2.2.2.2.1), (38, pst 38 (M 1)), (39, ar 20 (M 1).2.1), (40, ar 24 (M 1).2.2.2.1), (41, ar 24 (M 1).2.2.2.2.1), (42, pst 42 (M 2)), (43, ar 20 (M 2).2.1), (44, ar 24 (M 2).2.2.2.1), (45, ar 24 (M 2).2.2.2.2.1), (46, pst 46 (M 3)), (47, ar 20 (M 3).2.1), (48, ar 24 (M 3).2.2.2.1), (49, ar 24 (M 3).2.2.2.2.1), (50, pst 50 (M 4)), (51, ar 20 (M 4).2.1), (52, ar 24 (M 4).2.2.2.1), (53, ar 24 (M 4).2.2.2.2.1), (54, pst 54 (M 5)), (55, ar 20 (M 5).2.1), (56, ar 24 (M 5).2.2.2.1), (57, ar 24 (M 5).2.2.2.2.1), (58, pst 58 (M 6)), (59, ar 20 (M 6).2.1), (60, ar 24 (M 6).2.2.2.1), (61, ar 24 (M 6).2.2.2.2.1), (62, pst 62 (M 7)), (63, ar 20 (M 7).2.1), (64, ar 24 (M 7).2.2.2.1), (65, ar 24 (M 7).2.2.2.2.1), (66, pst 66 (M 8)), (67, ar 20 (M 8).2.1), (68, ar 24 (M 8).2.2.2.1), (69, ar 24 (M 8).2.2.2.2.1), (70, pst 70 (M 9)), (71, ar 20 (M 9).2.1), (72, ar 24 (M 9).2.2.2.1), (73, ar 24 (M 9).2.2.2.2.1), (74, pst 74 (M 10)), (75, ar 20 (M 10).2.1), (76, ar 24 (M 10).2.2.2.1), (77, ar 24 (M 10).2.2.2.2.1), (78, pst 78 (M 11)), (79, ar 20 (M 11).2.1), (80, ar 24 (M 11).2.2.2.1), (81, ar 24 (M 11).2.2.2.2.1), (82, pst 82 (M 12)), (83, ar 20 (M 12).2.1), (84, ar 24 (M 12).2.2.2.1), (85, ar 24 (M 12).2.2.2.2.1), (86, pst 86 (M 13)), (87, ar 20 (M 13).2.1), (88, ar 24 (M 13).2.2.2.1), (89, ar 24 (M 13).2.2.2.2.1)]
theorem E_ti2 {mi pc : Nat} {st : List Value} {h : pd_H} {r : pd_Out × pd_H} {a b : Int} {v0 v1 v2 v4 v5 : Value} (e : a = b) (k : Rn mi pc [v0, v1, v2, .int (ii b), v4, v5] st h r) : Rn mi pc [v0, v1, v2, .int (ii a), v4, v5] st h r := e ▸ k
section ACT
variable {C P R V U r x rs sl mv Q Q2 bg wy D : Int → Int} {rf ts tl sp kd rd rk rv rr k st dr pu be : Int} {m dn rn vn c nx : Nat} {S : pg} {M : Nat → pg}
theorem c22j (hk : nx < 14) (hc : c ≤ 14) : ∀ h, Ca 22 [.ref 32, .ref 24] (wd (SC S) (wd (LMm (c : Int) (nx : Int) M) h)) (.inl none, wd (SC S) (wd (LMm ((ct c : Nat) : Int) ((nt nx : Nat) : Int) (mup M nx (pcp (M nx) S))) h)) := by
  intro h
  have q := c22g (S := S) (M := M) (c := (c : Int)) hk (by omega) h
  have e1 : (if 14 < (c : Int) + 1 then 14 else (c : Int) + 1) = ((ct c : Nat) : Int) := by unfold ct; split <;> split <;> omega
  have e2 : ((nx : Int) + 1) % 14 = ((nt nx : Nat) : Int) := by unfold nt; omega
  rw [e1, e2] at q
  rw [← wd_app, ← wd_app]
  exact q
theorem c23j (hk : nx < 14) (hc : 1 ≤ c ∧ c ≤ 14) : ∀ h, Ca 23 [.ref 32, .ref 24] (wd (SC S) (wd (LMm (c : Int) (nx : Int) M) h)) (.inl none, wd (SC (pcp S (M (bt nx)))) (wd (LMm ((c - 1 : Nat) : Int) ((bt nx : Nat) : Int) M) h)) := by
  intro h
  have q := c23g (S := S) (M := M) (c := (c : Int)) hk (by omega) h
  have e1 : (c : Int) - 1 = ((c - 1 : Nat) : Int) := by omega
  have e2 : ((nx : Int) + 14 - 1) % 14 = ((bt nx : Nat) : Int) := by unfold bt; omega
  rw [e1, e2] at q
  rw [← wd_app, ← wd_app]
  exact q
theorem c150j {rf ts sp d k vs rw rd rk rv rr : Int} (hc : c ≤ 14) : ∀ h, Ca 150 [.ref 102] (wd [(102, oX6 rf ts sp d k vs rw rd rk rv rr (c : Int)), (107, ar 72 r), (109, ar 1008 D)] h) (.inl none, wd [(102, oX6 rf ts sp d k vs rw rd rk rv rr ((ct c : Nat) : Int)), (107, ar 72 r), (109, ar 1008 (dnt D r c))] h) := by
  have h := c150 (rf := rf) (ts := ts) (sp := sp) (d := d) (k := k) (vs := vs) (rw := rw) (rd := rd) (rk := rk) (rv := rv) (rr := rr) (r := r) (D := D) hc
  have e1 : (if c = 14 then 14 else (c : Int) + 1) = ((ct c : Nat) : Int) := by unfold ct; split <;> omega
  rw [e1] at h
  exact h
theorem a_step {how : Int} (hh : how = 0 ∨ (how = 1 ∧ 1 < m) ∨ how = 2) (ok : okq vn R V U st dr r m) (pl : plk dn vn rn C P) (mk : memk vn rn c nx M D) : ∃ (t : Int) (m' : Nat) (V' U' r' : Int → Int) (st' dr' : Int), (0 ≤ t ∧ t ≤ 100) ∧ okq vn R V' U' st' dr' r' m' ∧ (∃ (pu' be' : Int) (x' rs' sl' mv' Q' : Int → Int), ∀ h, Ca 72 [.ref 1, .int (ii how)] (wd [(1, oPD tl), (13, oP (dn : Int) k (vn : Int)), (14, ar 96 C), (18, oD pu be), (19, ar 4 x), (20, ar 4 rs), (21, lr 4 sl), (22, ar 4 mv), (23, ar 24 Q), (24, oS24 (rn : Int) (m : Int) st dr), (25, ar 20 R), (26, ar 24 V), (27, ar 24 U)] (wd (LMm (c : Int) (nx : Int) M) h)) (.inl (some (.int (ii t))), wd [(1, oPD tl), (13, oP (dn : Int) k (vn : Int)), (14, ar 96 C), (18, oD pu' be'), (19, ar 4 x'), (20, ar 4 rs'), (21, lr 4 sl'), (22, ar 4 mv'), (23, ar 24 Q'), (24, oS24 (rn : Int) (m' : Int) st' dr'), (25, ar 20 R), (26, ar 24 V'), (27, ar 24 U')] (wd (LMm ((ct c : Nat) : Int) ((nt nx : Nat) : Int) (mup M nx (pcp (M nx) (tup rn R m V U st dr)))) h))) ∧ (∃ Q' bg' wy' : Int → Int, ∀ h, Ca 151 [.ref 102, .int (ii how)] (wd [(102, oX6 rf ts sp (dn : Int) kd (vn : Int) (rn : Int) rd rk rv rr (c : Int)), (104, ar 128 P), (107, ar 72 r), (109, ar 1008 D), (112, ar 24 Q2), (113, lr 4 bg), (114, lr 4 wy)] h) (.inl (some (.int (ii t))), wd [(102, oX6 0 ts sp (dn : Int) kd (vn : Int) (rn : Int) rd rk rv rr ((ct c : Nat) : Int)), (104, ar 128 P), (107, ar 72 r'), (109, ar 1008 (dnt D r c)), (112, ar 24 Q'), (113, lr 4 bg'), (114, lr 4 wy')] h)) := by
  have hv := plk_v pl
  have hs := okq_sok ok hv.2.1.2
  have hp := okq_pgk ok hv.2.1.2
  have hm := okq_m ok hv.2.1.2
  have h68 := ok.2.2.2.1
  obtain ⟨mk0, mk⟩ : ∃ a : Prop, (c ≤ 14 ∧ nx < 14) := ⟨True, mk.1, mk.2.1⟩
  have hps : how ≠ 1 ∨ 1 < m := by omega
  obtain ⟨t, m1, V1, U1, r1, st1, dr1, ht, okn, ⟨pu1, be1, x1, rs1, sl1, mv1, Q1, a2⟩, ⟨Q3, bg1, wy1, b2⟩⟩ := stp_s (k := k) (pu := pu) (be := be) (x := x) (rs := rs) (sl := sl) (mv := mv) (Q := Q) (Q2 := Q2) (bg := bg) (wy := wy) (rf := 0) (ts := ts) (sp := sp) (kd := kd) (rd := rd) (rk := rk) (rv := rv) (rr := rr) (ac := ((ct c : Nat) : Int)) (how := how) hh ok pl
  refine ⟨t, m1, V1, U1, r1, st1, dr1, ⟨ht.1, ht.2.1⟩, okn, ⟨pu1, be1, x1, rs1, sl1, mv1, Q1, fun h => ?_⟩, ⟨Q3, bg1, wy1, fun h => ?_⟩⟩
  · refine E_in (lv := [_, _]) rfl ?_
    refine E_iload pf_72_0 rfl ?_
    refine F_c1v0 pf_72_1 (c97t (by omega)) (trivial) rfl ?_
    refine F_c1u0 pf_72_4 (c96) (trivial) rfl ?_
    refine E_aload pf_72_7 rfl ?_
    refine F_getf pf_72_8 rfl rfl rfl ?_
    refine E_aload pf_72_11 rfl ?_
    refine F_getf pf_72_12 rfl rfl rfl ?_
    refine E_iload pf_72_15 rfl ?_
    refine F_v3v0 pf_72_16 (c10st hs (by omega) hps) (And.intro rfl (And.intro rfl (trivial))) rfl rfl ?_
    refine E_if_ne_t pf_72_19 (by omega) ?_
    refine E_aload pf_72_32 rfl ?_
    refine F_getf pf_72_33 rfl rfl rfl ?_
    refine E_aload pf_72_36 rfl ?_
    refine F_getf pf_72_37 rfl rfl rfl ?_
    refine F_mem2 (l' := [(_, _), (_, _), (_, _), (_, _), (_, _), (_, _), (_, _), (_, _), (_, _), (_, _), (_, _), (_, _), (_, _)]) pf_72_40 (c22j (S := (tup rn R m V U st dr)) mk.2 mk.1) (And.intro rfl (And.intro rfl (And.intro rfl (And.intro rfl (trivial))))) rfl rfl rfl rfl rfl rfl rfl ?_
    refine E_aload pf_72_43 rfl ?_
    refine F_getf pf_72_44 rfl rfl rfl ?_
    refine E_aload pf_72_47 rfl ?_
    refine F_getf pf_72_48 rfl rfl rfl ?_
    refine E_iload pf_72_51 rfl ?_
    refine F_v3v (l' := [(_, _), (_, _), (_, _), (_, _), (_, _), (_, _), (_, _), (_, _), (_, _), (_, _), (_, _), (_, _), (_, _)]) pf_72_52 (a2) (And.intro rfl (And.intro rfl (And.intro rfl (And.intro rfl (And.intro rfl (And.intro rfl (And.intro rfl (And.intro rfl (And.intro rfl (And.intro rfl (And.intro rfl (And.intro rfl (trivial))))))))))))) rfl rfl rfl rfl ?_
    exact E_iret pf_72_55 rfl
  · refine E_in (lv := [_, _]) rfl ?_
    by_cases e1 : how = 1
    ·
      refine E_aload pf_151_0 rfl ?_
      refine E_iload pf_151_1 rfl ?_
      refine E_i2l pf_151_2 (by omega) ?_
      refine E_lconst pf_151_3 ?_
      refine E_lconst pf_151_4 ?_
      refine F_c3v0 pf_151_7 (c109t (by omega) (by omega)) (trivial) rfl ?_
      refine E_if_ne_t pf_151_10 (by omega) ?_
      refine E_iload pf_151_17 rfl ?_
      refine E_iconst pf_151_18 ?_
      refine E_icmp_ne_f pf_151_19 (by omega) ?_
      refine E_aload pf_151_22 rfl ?_
      refine F_getf pf_151_23 rfl rfl rfl ?_
      refine E_iconst pf_151_26 ?_
      refine F_iald pf_151_28 rfl (by omega) ?_
      refine E_iconst pf_151_29 ?_
      refine E_icmp_ge_t pf_151_30 (by omega) ?_
      refine E_iconst pf_151_37 ?_
      refine F_v2v (l' := [(_, _), (_, _), (_, _), (_, _), (_, _), (_, _), (_, _)]) pf_151_38 (c108_0) (And.intro rfl (trivial)) rfl rfl rfl rfl ?_
      refine E_if_eq_t pf_151_41 (by omega) ?_
      refine E_aload pf_151_46 rfl ?_
      refine F_v1u (l' := [(_, _), (_, _), (_, _), (_, _), (_, _), (_, _), (_, _)]) pf_151_47 (c150j mk.1) (And.intro rfl (And.intro rfl (And.intro rfl (trivial)))) rfl rfl rfl rfl ?_
      refine E_aload pf_151_50 rfl ?_
      refine E_aload pf_151_51 rfl ?_
      refine F_getf pf_151_52 rfl rfl rfl ?_
      refine E_iload pf_151_55 rfl ?_
      refine F_v3v (l' := [(_, _), (_, _), (_, _), (_, _), (_, _), (_, _), (_, _)]) pf_151_56 (b2) (And.intro rfl (And.intro rfl (And.intro rfl (And.intro rfl (And.intro rfl (And.intro rfl (trivial))))))) rfl rfl rfl rfl ?_
      exact E_iret pf_151_59 rfl
    ·
      refine E_aload pf_151_0 rfl ?_
      refine E_iload pf_151_1 rfl ?_
      refine E_i2l pf_151_2 (by omega) ?_
      refine E_lconst pf_151_3 ?_
      refine E_lconst pf_151_4 ?_
      refine F_c3v0 pf_151_7 (c109t (by omega) (by omega)) (trivial) rfl ?_
      refine E_if_ne_t pf_151_10 (by omega) ?_
      refine E_iload pf_151_17 rfl ?_
      refine E_iconst pf_151_18 ?_
      refine E_icmp_ne_t pf_151_19 (by omega) ?_
      refine E_iconst pf_151_37 ?_
      refine F_v2v (l' := [(_, _), (_, _), (_, _), (_, _), (_, _), (_, _), (_, _)]) pf_151_38 (c108_0) (And.intro rfl (trivial)) rfl rfl rfl rfl ?_
      refine E_if_eq_t pf_151_41 (by omega) ?_
      refine E_aload pf_151_46 rfl ?_
      refine F_v1u (l' := [(_, _), (_, _), (_, _), (_, _), (_, _), (_, _), (_, _)]) pf_151_47 (c150j mk.1) (And.intro rfl (And.intro rfl (And.intro rfl (trivial)))) rfl rfl rfl rfl ?_
      refine E_aload pf_151_50 rfl ?_
      refine E_aload pf_151_51 rfl ?_
      refine F_getf pf_151_52 rfl rfl rfl ?_
      refine E_iload pf_151_55 rfl ?_
      refine F_v3v (l' := [(_, _), (_, _), (_, _), (_, _), (_, _), (_, _), (_, _)]) pf_151_56 (b2) (And.intro rfl (And.intro rfl (And.intro rfl (And.intro rfl (And.intro rfl (And.intro rfl (trivial))))))) rfl rfl rfl rfl ?_
      exact E_iret pf_151_59 rfl
theorem c72x {how : Int} (h1 : (-2147483648 ≤ how ∧ how ≤ 2147483647)) (h2 : ¬ (0 ≤ how ∧ how ≤ 2)) : ∀ h, Ca 72 [.ref 1, .int (ii how)] (wd [(1, oPD tl)] h) (.inr 0, pd_thr (wd [(1, oPD tl)] h)) := by
  intro h
  refine E_in (lv := [_, _]) rfl ?_
  refine E_iload pf_72_0 rfl ?_
  refine F_c1v0 pf_72_1 (c97f (by omega) (by omega)) (trivial) rfl ?_
  exact E_c1x pf_72_4 rfl (c96x _) rfl
theorem c72y (hs : sok vn R V U m) (hm : ¬ 1 < m) : ∀ h, Ca 72 [.ref 1, .int (ii 1)] (wd [(1, oPD tl), (18, oD pu be), (24, oS24 (rn : Int) (m : Int) st dr)] h) (.inr 1, pd_thr (wd [(1, oPD tl), (18, oD pu be), (24, oS24 (rn : Int) (m : Int) st dr)] h)) := by
  intro h
  refine E_in (lv := [_, _]) rfl ?_
  refine E_iload pf_72_0 rfl ?_
  refine F_c1v0 pf_72_1 (c97t (by omega)) (trivial) rfl ?_
  refine F_c1u0 pf_72_4 (c96) (trivial) rfl ?_
  refine E_aload pf_72_7 rfl ?_
  refine F_getf pf_72_8 rfl rfl rfl ?_
  refine E_aload pf_72_11 rfl ?_
  refine F_getf pf_72_12 rfl rfl rfl ?_
  refine E_iload pf_72_15 rfl ?_
  refine F_v3v0 pf_72_16 (c10sf hs (by omega) (by omega)) (And.intro rfl (And.intro rfl (trivial))) rfl rfl ?_
  refine E_if_ne_f pf_72_19 (by omega) ?_
  exact E_throw pf_72_22 rfl rfl rfl rfl
theorem c151x {how : Int} (h1 : (-2147483648 ≤ how ∧ how ≤ 2147483647)) (h2 : ¬ (0 ≤ how ∧ how ≤ 2)) : ∀ h, Ca 151 [.ref 102, .int (ii how)] (wd [(102, oX6 rf ts sp (dn : Int) kd (vn : Int) (rn : Int) rd rk rv rr (c : Int))] h) (.inl (some (.int (ii 0))), wd [(102, oX6 1 ts sp (dn : Int) kd (vn : Int) (rn : Int) rd rk rv rr (c : Int))] h) := by
  intro h
  refine E_in (lv := [_, _]) rfl ?_
  refine E_aload pf_151_0 rfl ?_
  refine E_iload pf_151_1 rfl ?_
  refine E_i2l pf_151_2 (by omega) ?_
  refine E_lconst pf_151_3 ?_
  refine E_lconst pf_151_4 ?_
  refine F_c3v0 pf_151_7 (c109f (by omega) (by omega)) (trivial) rfl ?_
  refine E_if_ne_f pf_151_10 (by omega) ?_
  refine E_iconst pf_151_13 ?_
  refine E_goto pf_151_14 ?_
  refine F_v2v (l' := [(_, _)]) pf_151_38 (c108_1) (And.intro rfl (trivial)) rfl rfl rfl rfl ?_
  refine E_if_eq_f pf_151_41 (by omega) ?_
  refine E_iconst pf_151_44 ?_
  exact E_iret pf_151_45 rfl
theorem c151y (h68 : r 68 = m) (hm : m ≤ 24 ∧ ¬ 1 < m) : ∀ h, Ca 151 [.ref 102, .int (ii 1)] (wd [(102, oX6 rf ts sp (dn : Int) kd (vn : Int) (rn : Int) rd rk rv rr (c : Int)), (107, ar 72 r)] h) (.inl (some (.int (ii 0))), wd [(102, oX6 2 ts sp (dn : Int) kd (vn : Int) (rn : Int) rd rk rv rr (c : Int)), (107, ar 72 r)] h) := by
  intro h
  refine E_in (lv := [_, _]) rfl ?_
  refine E_aload pf_151_0 rfl ?_
  refine E_iload pf_151_1 rfl ?_
  refine E_i2l pf_151_2 (by omega) ?_
  refine E_lconst pf_151_3 ?_
  refine E_lconst pf_151_4 ?_
  refine F_c3v0 pf_151_7 (c109t (by omega) (by omega)) (trivial) rfl ?_
  refine E_if_ne_t pf_151_10 (by omega) ?_
  refine E_iload pf_151_17 rfl ?_
  refine E_iconst pf_151_18 ?_
  refine E_icmp_ne_f pf_151_19 (by omega) ?_
  refine E_aload pf_151_22 rfl ?_
  refine F_getf pf_151_23 rfl rfl rfl ?_
  refine E_iconst pf_151_26 ?_
  refine F_iald pf_151_28 rfl (by omega) ?_
  refine E_iconst pf_151_29 ?_
  refine E_icmp_ge_f pf_151_30 (by omega) ?_
  refine E_iconst pf_151_33 ?_
  refine E_goto pf_151_34 ?_
  refine F_v2v (l' := [(_, _), (_, _)]) pf_151_38 (c108_2) (And.intro rfl (trivial)) rfl rfl rfl rfl ?_
  refine E_if_eq_f pf_151_41 (by omega) ?_
  refine E_iconst pf_151_44 ?_
  exact E_iret pf_151_45 rfl
theorem run_loop {how ac : Int} {N : Nat} (hN : N ≤ 50) (hh : 0 ≤ how ∧ how ≤ 2) (pl : plk dn vn rn C P) : ∀ (j i m : Nat) (g : Int) (V U r : Int → Int) (st dr pu be : Int) (x rs sl mv Q Q2 bg wy : Int → Int), i + j = N → (g = 0 ∨ g = 1) → okq vn R V U st dr r m → ∃ (v : Int) (m' : Nat) (V' U' r' : Int → Int) (st' dr' : Int), (0 ≤ v ∧ v ≤ 50) ∧ okq vn R V' U' st' dr' r' m' ∧ (∃ (pu' be' : Int) (x' rs' sl' mv' Q' : Int → Int), ∀ h, Rn 73 42 [.ref 1, .int (ii how), .int (ii (N : Int)), .int (ii (i : Int)), .int (ii g)] [] (wd [(1, oPD tl), (13, oP (dn : Int) k (vn : Int)), (14, ar 96 C), (18, oD pu be), (19, ar 4 x), (20, ar 4 rs), (21, lr 4 sl), (22, ar 4 mv), (23, ar 24 Q), (24, oS24 (rn : Int) (m : Int) st dr), (25, ar 20 R), (26, ar 24 V), (27, ar 24 U)] h) (.inl (some (.int (ii v))), wd [(1, oPD tl), (13, oP (dn : Int) k (vn : Int)), (14, ar 96 C), (18, oD pu' be'), (19, ar 4 x'), (20, ar 4 rs'), (21, lr 4 sl'), (22, ar 4 mv'), (23, ar 24 Q'), (24, oS24 (rn : Int) (m' : Int) st' dr'), (25, ar 20 R), (26, ar 24 V'), (27, ar 24 U')] h)) ∧ (∃ Q' bg' wy' : Int → Int, ∀ (h : pd_H) (w5 : Value), Rn 152 47 [.ref 102, .int (ii how), .int (ii (N : Int)), .int (ii (i : Int)), .int (ii g), w5] [] (wd [(102, oX6 0 ts sp (dn : Int) kd (vn : Int) (rn : Int) rd rk rv rr ac), (104, ar 128 P), (107, ar 72 r), (112, ar 24 Q2), (113, lr 4 bg), (114, lr 4 wy)] h) (.inl (some (.int (ii v))), wd [(102, oX6 0 ts sp (dn : Int) kd (vn : Int) (rn : Int) rd rk rv rr ac), (104, ar 128 P), (107, ar 72 r'), (112, ar 24 Q'), (113, lr 4 bg'), (114, lr 4 wy')] h)) := by
  intro j
  induction j with
  | zero =>
    intro i m g V U r st dr pu be x rs sl mv Q Q2 bg wy hi hg ok
    refine ⟨(i : Int), m, V, U, r, st, dr, by omega, ok, ⟨pu, be, x, rs, sl, mv, Q, fun h => ?_⟩, ⟨Q2, bg, wy, fun h w5 => ?_⟩⟩
    ·
      refine E_iload pf_73_42 rfl ?_
      refine E_iload pf_73_43 rfl ?_
      refine E_icmp_ge_t pf_73_44 (by omega) ?_
      refine E_iload pf_73_111 rfl ?_
      exact E_iret pf_73_112 rfl
    · rcases hg with q | q <;> subst q
      ·
        refine E_iload pf_152_47 rfl ?_
        refine E_if_eq_t pf_152_49 (by omega) ?_
        refine E_iload pf_152_111 rfl ?_
        exact E_iret pf_152_112 rfl
      ·
        refine E_iload pf_152_47 rfl ?_
        refine E_if_eq_f pf_152_49 (by omega) ?_
        refine E_iload pf_152_52 rfl ?_
        refine E_iload pf_152_53 rfl ?_
        refine E_icmp_ge_t pf_152_54 (by omega) ?_
        refine E_iload pf_152_111 rfl ?_
        exact E_iret pf_152_112 rfl
  | succ j ih =>
    intro i m g V U r st dr pu be x rs sl mv Q Q2 bg wy hi hg ok
    have hv := plk_v pl
    have hs := okq_sok ok hv.2.1.2
    have hp := okq_pgk ok hv.2.1.2
    have hc := okq_cpl ok pl
    have hG := zGap_in hp pl.2.1
    have e7 := c7s (d := (dn : Int)) (k := k) (pu := pu) (be := be) (x := x) (rs := rs) (sl := sl) (st := st) (dr := dr) hs pl.1
    rw [cpl_Gap hc hs pl.1] at e7
    have e120 := c120n (rf := 0) (ts := ts) (sp := sp) (k := kd) (rd := rd) (rk := rk) (rv := rv) (rr := rr) (ac := ac) hp pl.2.1
    rcases hg with q | q <;> subst q
    · refine ⟨(i : Int), m, V, U, r, st, dr, by omega, ok, ⟨pu, be, x, rs, sl, mv, Q, fun h => ?_⟩, ⟨Q2, bg, wy, fun h w5 => ?_⟩⟩
      ·
        refine E_iload pf_73_42 rfl ?_
        refine E_iload pf_73_43 rfl ?_
        refine E_icmp_ge_f pf_73_44 (by omega) ?_
        refine E_iload pf_73_47 rfl ?_
        refine E_if_eq_t pf_73_49 (by omega) ?_
        refine E_iload pf_73_111 rfl ?_
        exact E_iret pf_73_112 rfl
      ·
        refine E_iload pf_152_47 rfl ?_
        refine E_if_eq_t pf_152_49 (by omega) ?_
        refine E_iload pf_152_111 rfl ?_
        exact E_iret pf_152_112 rfl
    · by_cases eg : zGap r P m dn rn vn = 0
      · refine ⟨(i : Int), m, V, U, r, st, dr, by omega, ok, ⟨pu, be, zfill x (yX V U C m) 4, zfill rs (eR R V U C m) rn, zfill sl (eS R V U C m rn) 4, mv, Q, fun h => ?_⟩, ⟨Q2, bg, wy, fun h w5 => ?_⟩⟩
        ·
          refine E_iload pf_73_42 rfl ?_
          refine E_iload pf_73_43 rfl ?_
          refine E_icmp_ge_f pf_73_44 (by omega) ?_
          refine E_iload pf_73_47 rfl ?_
          refine E_if_eq_f pf_73_49 (by omega) ?_
          refine E_aload pf_73_52 rfl ?_
          refine F_getf pf_73_53 rfl rfl rfl ?_
          refine E_aload pf_73_56 rfl ?_
          refine F_getf pf_73_57 rfl rfl rfl ?_
          refine F_v2v (l' := [(_, _), (_, _), (_, _), (_, _), (_, _), (_, _), (_, _), (_, _), (_, _), (_, _), (_, _), (_, _), (_, _)]) pf_73_60 (e7) (And.intro rfl (And.intro rfl (And.intro rfl (And.intro rfl (And.intro rfl (And.intro rfl (And.intro rfl (And.intro rfl (And.intro rfl (And.intro rfl (trivial))))))))))) rfl rfl rfl rfl ?_
          refine E_lconst pf_73_63 ?_
          refine E_lcmp_eq_t pf_73_64 pf_73_65 (by omega) ?_
          refine E_iload pf_73_111 rfl ?_
          exact E_iret pf_73_112 rfl
        ·
          refine E_iload pf_152_47 rfl ?_
          refine E_if_eq_f pf_152_49 (by omega) ?_
          refine E_iload pf_152_52 rfl ?_
          refine E_iload pf_152_53 rfl ?_
          refine E_icmp_ge_f pf_152_54 (by omega) ?_
          refine E_aload pf_152_57 rfl ?_
          refine E_aload pf_152_58 rfl ?_
          refine F_getf pf_152_59 rfl rfl rfl ?_
          refine F_v2v0 pf_152_62 (e120) (And.intro rfl (And.intro rfl (And.intro rfl (trivial)))) rfl rfl ?_
          refine E_lconst pf_152_65 ?_
          refine E_lcmp_eq_t pf_152_66 pf_152_67 (by omega) ?_
          refine E_iload pf_152_111 rfl ?_
          exact E_iret pf_152_112 rfl
      · by_cases hps : how ≠ 1 ∨ 1 < m
        · obtain ⟨t, m1, V1, U1, r1, st1, dr1, ht, okn, ⟨pu1, be1, x1, rs1, sl1, mv1, Q1, a2⟩, ⟨Q3, bg1, wy1, b2⟩⟩ := stp_s (k := k) (pu := pu) (be := be) (x := zfill x (yX V U C m) 4) (rs := zfill rs (eR R V U C m) rn) (sl := zfill sl (eS R V U C m rn) 4) (mv := mv) (Q := Q) (Q2 := Q2) (bg := bg) (wy := wy) (rf := 0) (ts := ts) (sp := sp) (kd := kd) (rd := rd) (rk := rk) (rv := rv) (rr := rr) (ac := ac) (how := how) (by omega) ok pl
          by_cases e0 : 0 < t
          · obtain ⟨v, m2, V2, U2, r2, st2, dr2, d0, d1, ⟨pu2, be2, x2, rs2, sl2, mv2, Q4, d2⟩, ⟨Q5, bg2, wy2, d3⟩⟩ := ih (i + 1) m1 1 V1 U1 r1 st1 dr1 pu1 be1 x1 rs1 sl1 mv1 Q1 Q3 bg1 wy1 (by omega) (.inr rfl) okn
            refine ⟨v, m2, V2, U2, r2, st2, dr2, d0, d1, ⟨pu2, be2, x2, rs2, sl2, mv2, Q4, fun h => ?_⟩, ⟨Q5, bg2, wy2, fun h w5 => ?_⟩⟩
            ·
              refine E_iload pf_73_42 rfl ?_
              refine E_iload pf_73_43 rfl ?_
              refine E_icmp_ge_f pf_73_44 (by omega) ?_
              refine E_iload pf_73_47 rfl ?_
              refine E_if_eq_f pf_73_49 (by omega) ?_
              refine E_aload pf_73_52 rfl ?_
              refine F_getf pf_73_53 rfl rfl rfl ?_
              refine E_aload pf_73_56 rfl ?_
              refine F_getf pf_73_57 rfl rfl rfl ?_
              refine F_v2v (l' := [(_, _), (_, _), (_, _), (_, _), (_, _), (_, _), (_, _), (_, _), (_, _), (_, _), (_, _), (_, _), (_, _)]) pf_73_60 (e7) (And.intro rfl (And.intro rfl (And.intro rfl (And.intro rfl (And.intro rfl (And.intro rfl (And.intro rfl (And.intro rfl (And.intro rfl (And.intro rfl (trivial))))))))))) rfl rfl rfl rfl ?_
              refine E_lconst pf_73_63 ?_
              refine E_lcmp_eq_f pf_73_64 pf_73_65 (by omega) ?_
              refine E_aload pf_73_68 rfl ?_
              refine F_getf pf_73_69 rfl rfl rfl ?_
              refine E_aload pf_73_72 rfl ?_
              refine F_getf pf_73_73 rfl rfl rfl ?_
              refine E_iload pf_73_76 rfl ?_
              refine F_v3v0 pf_73_77 (c10st hs (by omega) hps) (And.intro rfl (And.intro rfl (trivial))) rfl rfl ?_
              refine E_if_eq_f pf_73_80 (by omega) ?_
              refine E_aload pf_73_83 rfl ?_
              refine F_getf pf_73_84 rfl rfl rfl ?_
              refine E_aload pf_73_87 rfl ?_
              refine F_getf pf_73_88 rfl rfl rfl ?_
              refine E_iload pf_73_91 rfl ?_
              refine F_v3v (l' := [(_, _), (_, _), (_, _), (_, _), (_, _), (_, _), (_, _), (_, _), (_, _), (_, _), (_, _), (_, _), (_, _)]) pf_73_92 (a2) (And.intro rfl (And.intro rfl (And.intro rfl (And.intro rfl (And.intro rfl (And.intro rfl (And.intro rfl (And.intro rfl (And.intro rfl (And.intro rfl (And.intro rfl (And.intro rfl (trivial))))))))))))) rfl rfl rfl rfl ?_
              refine E_if_le_f pf_73_95 (by omega) ?_
              refine E_iconst pf_73_98 ?_
              refine E_goto pf_73_99 ?_
              refine E_istore (lv' := [_, _, _, _, _]) pf_73_103 rfl rfl ?_
              refine E_iinc (lv' := [_, _, _, _, _]) pf_73_105 rfl rfl ?_
              refine E_goto pf_73_108 ?_
              exact d2 h
            ·
              refine E_iload pf_152_47 rfl ?_
              refine E_if_eq_f pf_152_49 (by omega) ?_
              refine E_iload pf_152_52 rfl ?_
              refine E_iload pf_152_53 rfl ?_
              refine E_icmp_ge_f pf_152_54 (by omega) ?_
              refine E_aload pf_152_57 rfl ?_
              refine E_aload pf_152_58 rfl ?_
              refine F_getf pf_152_59 rfl rfl rfl ?_
              refine F_v2v0 pf_152_62 (e120) (And.intro rfl (And.intro rfl (And.intro rfl (trivial)))) rfl rfl ?_
              refine E_lconst pf_152_65 ?_
              refine E_lcmp_eq_f pf_152_66 pf_152_67 (by omega) ?_
              refine E_aload pf_152_70 rfl ?_
              refine E_aload pf_152_71 rfl ?_
              refine F_getf pf_152_72 rfl rfl rfl ?_
              refine E_iload pf_152_75 rfl ?_
              refine F_v3v (l' := [(_, _), (_, _), (_, _), (_, _), (_, _), (_, _)]) pf_152_76 (b2) (And.intro rfl (And.intro rfl (And.intro rfl (And.intro rfl (And.intro rfl (And.intro rfl (trivial))))))) rfl rfl rfl rfl ?_
              refine E_istore (lv' := [_, _, _, _, _, _]) pf_152_79 rfl rfl ?_
              refine E_iload pf_152_81 rfl ?_
              refine E_iload pf_152_82 rfl ?_
              refine E_iconst pf_152_84 ?_
              refine E_icmp_ne_t pf_152_86 (by omega) ?_
              refine E_iconst pf_152_93 ?_
              refine E_iadd pf_152_94 ?_
              refine E_istore (lv' := [_, _, _, _, _, _]) pf_152_95 rfl rfl ?_
              refine E_iload pf_152_96 rfl ?_
              refine E_if_le_f pf_152_98 (by omega) ?_
              refine E_iconst pf_152_101 ?_
              refine E_goto pf_152_102 ?_
              refine E_istore (lv' := [_, _, _, _, _, _]) pf_152_106 rfl rfl ?_
              refine E_goto pf_152_108 ?_
              exact d3 h _
          · obtain ⟨v, m2, V2, U2, r2, st2, dr2, d0, d1, ⟨pu2, be2, x2, rs2, sl2, mv2, Q4, d2⟩, ⟨Q5, bg2, wy2, d3⟩⟩ := ih (i + 1) m1 0 V1 U1 r1 st1 dr1 pu1 be1 x1 rs1 sl1 mv1 Q1 Q3 bg1 wy1 (by omega) (.inl rfl) okn
            refine ⟨v, m2, V2, U2, r2, st2, dr2, d0, d1, ⟨pu2, be2, x2, rs2, sl2, mv2, Q4, fun h => ?_⟩, ⟨Q5, bg2, wy2, fun h w5 => ?_⟩⟩
            ·
              refine E_iload pf_73_42 rfl ?_
              refine E_iload pf_73_43 rfl ?_
              refine E_icmp_ge_f pf_73_44 (by omega) ?_
              refine E_iload pf_73_47 rfl ?_
              refine E_if_eq_f pf_73_49 (by omega) ?_
              refine E_aload pf_73_52 rfl ?_
              refine F_getf pf_73_53 rfl rfl rfl ?_
              refine E_aload pf_73_56 rfl ?_
              refine F_getf pf_73_57 rfl rfl rfl ?_
              refine F_v2v (l' := [(_, _), (_, _), (_, _), (_, _), (_, _), (_, _), (_, _), (_, _), (_, _), (_, _), (_, _), (_, _), (_, _)]) pf_73_60 (e7) (And.intro rfl (And.intro rfl (And.intro rfl (And.intro rfl (And.intro rfl (And.intro rfl (And.intro rfl (And.intro rfl (And.intro rfl (And.intro rfl (trivial))))))))))) rfl rfl rfl rfl ?_
              refine E_lconst pf_73_63 ?_
              refine E_lcmp_eq_f pf_73_64 pf_73_65 (by omega) ?_
              refine E_aload pf_73_68 rfl ?_
              refine F_getf pf_73_69 rfl rfl rfl ?_
              refine E_aload pf_73_72 rfl ?_
              refine F_getf pf_73_73 rfl rfl rfl ?_
              refine E_iload pf_73_76 rfl ?_
              refine F_v3v0 pf_73_77 (c10st hs (by omega) hps) (And.intro rfl (And.intro rfl (trivial))) rfl rfl ?_
              refine E_if_eq_f pf_73_80 (by omega) ?_
              refine E_aload pf_73_83 rfl ?_
              refine F_getf pf_73_84 rfl rfl rfl ?_
              refine E_aload pf_73_87 rfl ?_
              refine F_getf pf_73_88 rfl rfl rfl ?_
              refine E_iload pf_73_91 rfl ?_
              refine F_v3v (l' := [(_, _), (_, _), (_, _), (_, _), (_, _), (_, _), (_, _), (_, _), (_, _), (_, _), (_, _), (_, _), (_, _)]) pf_73_92 (a2) (And.intro rfl (And.intro rfl (And.intro rfl (And.intro rfl (And.intro rfl (And.intro rfl (And.intro rfl (And.intro rfl (And.intro rfl (And.intro rfl (And.intro rfl (And.intro rfl (trivial))))))))))))) rfl rfl rfl rfl ?_
              refine E_if_le_t pf_73_95 (by omega) ?_
              refine E_iconst pf_73_102 ?_
              refine E_istore (lv' := [_, _, _, _, _]) pf_73_103 rfl rfl ?_
              refine E_iinc (lv' := [_, _, _, _, _]) pf_73_105 rfl rfl ?_
              refine E_goto pf_73_108 ?_
              exact d2 h
            ·
              refine E_iload pf_152_47 rfl ?_
              refine E_if_eq_f pf_152_49 (by omega) ?_
              refine E_iload pf_152_52 rfl ?_
              refine E_iload pf_152_53 rfl ?_
              refine E_icmp_ge_f pf_152_54 (by omega) ?_
              refine E_aload pf_152_57 rfl ?_
              refine E_aload pf_152_58 rfl ?_
              refine F_getf pf_152_59 rfl rfl rfl ?_
              refine F_v2v0 pf_152_62 (e120) (And.intro rfl (And.intro rfl (And.intro rfl (trivial)))) rfl rfl ?_
              refine E_lconst pf_152_65 ?_
              refine E_lcmp_eq_f pf_152_66 pf_152_67 (by omega) ?_
              refine E_aload pf_152_70 rfl ?_
              refine E_aload pf_152_71 rfl ?_
              refine F_getf pf_152_72 rfl rfl rfl ?_
              refine E_iload pf_152_75 rfl ?_
              refine F_v3v (l' := [(_, _), (_, _), (_, _), (_, _), (_, _), (_, _)]) pf_152_76 (b2) (And.intro rfl (And.intro rfl (And.intro rfl (And.intro rfl (And.intro rfl (And.intro rfl (trivial))))))) rfl rfl rfl rfl ?_
              refine E_istore (lv' := [_, _, _, _, _, _]) pf_152_79 rfl rfl ?_
              refine E_iload pf_152_81 rfl ?_
              refine E_iload pf_152_82 rfl ?_
              refine E_iconst pf_152_84 ?_
              refine E_icmp_ne_t pf_152_86 (by omega) ?_
              refine E_iconst pf_152_93 ?_
              refine E_iadd pf_152_94 ?_
              refine E_istore (lv' := [_, _, _, _, _, _]) pf_152_95 rfl rfl ?_
              refine E_iload pf_152_96 rfl ?_
              refine E_if_le_t pf_152_98 (by omega) ?_
              refine E_iconst pf_152_105 ?_
              refine E_istore (lv' := [_, _, _, _, _, _]) pf_152_106 rfl rfl ?_
              refine E_goto pf_152_108 ?_
              exact d3 h _
        · obtain rfl : how = 1 := by omega
          have hx := c124xn (rf := 0) (ts := ts) (sp := sp) (k := kd) (rd := rd) (rk := rk) (rv := rv) (rr := rr) (ac := ac) (P := P) (Q := Q2) (bg := bg) (wy := wy) (dn := dn) (rn := rn) hp (by omega)
          refine ⟨(i : Int), m, V, U, r, st, dr, by omega, ok, ⟨pu, be, zfill x (yX V U C m) 4, zfill rs (eR R V U C m) rn, zfill sl (eS R V U C m rn) 4, mv, Q, fun h => ?_⟩, ⟨Q2, bg, wy, fun h w5 => ?_⟩⟩
          ·
            refine E_iload pf_73_42 rfl ?_
            refine E_iload pf_73_43 rfl ?_
            refine E_icmp_ge_f pf_73_44 (by omega) ?_
            refine E_iload pf_73_47 rfl ?_
            refine E_if_eq_f pf_73_49 (by omega) ?_
            refine E_aload pf_73_52 rfl ?_
            refine F_getf pf_73_53 rfl rfl rfl ?_
            refine E_aload pf_73_56 rfl ?_
            refine F_getf pf_73_57 rfl rfl rfl ?_
            refine F_v2v (l' := [(_, _), (_, _), (_, _), (_, _), (_, _), (_, _), (_, _), (_, _), (_, _), (_, _), (_, _), (_, _), (_, _)]) pf_73_60 (e7) (And.intro rfl (And.intro rfl (And.intro rfl (And.intro rfl (And.intro rfl (And.intro rfl (And.intro rfl (And.intro rfl (And.intro rfl (And.intro rfl (trivial))))))))))) rfl rfl rfl rfl ?_
            refine E_lconst pf_73_63 ?_
            refine E_lcmp_eq_f pf_73_64 pf_73_65 (by omega) ?_
            refine E_aload pf_73_68 rfl ?_
            refine F_getf pf_73_69 rfl rfl rfl ?_
            refine E_aload pf_73_72 rfl ?_
            refine F_getf pf_73_73 rfl rfl rfl ?_
            refine E_iload pf_73_76 rfl ?_
            refine F_v3v0 pf_73_77 (c10sf hs (by omega) hps) (And.intro rfl (And.intro rfl (trivial))) rfl rfl ?_
            refine E_if_eq_t pf_73_80 (by omega) ?_
            refine E_iload pf_73_111 rfl ?_
            exact E_iret pf_73_112 rfl
          ·
            refine E_iload pf_152_47 rfl ?_
            refine E_if_eq_f pf_152_49 (by omega) ?_
            refine E_iload pf_152_52 rfl ?_
            refine E_iload pf_152_53 rfl ?_
            refine E_icmp_ge_f pf_152_54 (by omega) ?_
            refine E_aload pf_152_57 rfl ?_
            refine E_aload pf_152_58 rfl ?_
            refine F_getf pf_152_59 rfl rfl rfl ?_
            refine F_v2v0 pf_152_62 (e120) (And.intro rfl (And.intro rfl (And.intro rfl (trivial)))) rfl rfl ?_
            refine E_lconst pf_152_65 ?_
            refine E_lcmp_eq_f pf_152_66 pf_152_67 (by omega) ?_
            refine E_aload pf_152_70 rfl ?_
            refine E_aload pf_152_71 rfl ?_
            refine F_getf pf_152_72 rfl rfl rfl ?_
            refine E_iload pf_152_75 rfl ?_
            refine F_v3v0 pf_152_76 (hx) (And.intro rfl (And.intro rfl (And.intro rfl (And.intro rfl (And.intro rfl (And.intro rfl (trivial))))))) rfl rfl ?_
            refine E_istore (lv' := [_, _, _, _, _, _]) pf_152_79 rfl rfl ?_
            refine E_iload pf_152_81 rfl ?_
            refine E_iload pf_152_82 rfl ?_
            refine E_iconst pf_152_84 ?_
            refine E_icmp_ne_f pf_152_86 (by omega) ?_
            refine E_iconst pf_152_89 ?_
            refine E_goto pf_152_90 ?_
            refine E_iadd pf_152_94 ?_
            refine E_istore (lv' := [_, _, _, _, _, _]) pf_152_95 rfl rfl ?_
            refine E_iload pf_152_96 rfl ?_
            refine E_if_le_t pf_152_98 (by omega) ?_
            refine E_iconst pf_152_105 ?_
            refine E_istore (lv' := [_, _, _, _, _, _]) pf_152_106 rfl rfl ?_
            refine E_goto pf_152_108 ?_
            refine E_ti2 (b := (i : Int)) (by omega) ?_
            refine E_iload pf_152_47 rfl ?_
            refine E_if_eq_t pf_152_49 (by omega) ?_
            refine E_iload pf_152_111 rfl ?_
            exact E_iret pf_152_112 rfl
theorem a_run {how n : Int} (hh : 0 ≤ how ∧ how ≤ 2) (hn : 1 ≤ n ∧ n ≤ 50) (ok : okq vn R V U st dr r m) (pl : plk dn vn rn C P) (mk : memk vn rn c nx M D) : ∃ (v : Int) (m' : Nat) (V' U' r' : Int → Int) (st' dr' : Int), (0 ≤ v ∧ v ≤ 50) ∧ okq vn R V' U' st' dr' r' m' ∧ (∃ (pu' be' : Int) (x' rs' sl' mv' Q' : Int → Int), ∀ h, Ca 73 [.ref 1, .int (ii how), .int (ii n)] (wd [(1, oPD tl), (13, oP (dn : Int) k (vn : Int)), (14, ar 96 C), (18, oD pu be), (19, ar 4 x), (20, ar 4 rs), (21, lr 4 sl), (22, ar 4 mv), (23, ar 24 Q), (24, oS24 (rn : Int) (m : Int) st dr), (25, ar 20 R), (26, ar 24 V), (27, ar 24 U)] (wd (LMm (c : Int) (nx : Int) M) h)) (.inl (some (.int (ii v))), wd [(1, oPD tl), (13, oP (dn : Int) k (vn : Int)), (14, ar 96 C), (18, oD pu' be'), (19, ar 4 x'), (20, ar 4 rs'), (21, lr 4 sl'), (22, ar 4 mv'), (23, ar 24 Q'), (24, oS24 (rn : Int) (m' : Int) st' dr'), (25, ar 20 R), (26, ar 24 V'), (27, ar 24 U')] (wd (LMm ((ct c : Nat) : Int) ((nt nx : Nat) : Int) (mup M nx (pcp (M nx) (tup rn R m V U st dr)))) h))) ∧ (∃ Q' bg' wy' : Int → Int, ∀ h, Ca 152 [.ref 102, .int (ii how), .int (ii n)] (wd [(102, oX6 rf ts sp (dn : Int) kd (vn : Int) (rn : Int) rd rk rv rr (c : Int)), (104, ar 128 P), (107, ar 72 r), (109, ar 1008 D), (112, ar 24 Q2), (113, lr 4 bg), (114, lr 4 wy)] h) (.inl (some (.int (ii v))), wd [(102, oX6 0 ts sp (dn : Int) kd (vn : Int) (rn : Int) rd rk rv rr ((ct c : Nat) : Int)), (104, ar 128 P), (107, ar 72 r'), (109, ar 1008 (dnt D r c)), (112, ar 24 Q'), (113, lr 4 bg'), (114, lr 4 wy')] h)) := by
  have hv := plk_v pl
  have hs := okq_sok ok hv.2.1.2
  have hp := okq_pgk ok hv.2.1.2
  have hm := okq_m ok hv.2.1.2
  have h68 := ok.2.2.2.1
  obtain ⟨mk0, mk⟩ : ∃ a : Prop, (c ≤ 14 ∧ nx < 14) := ⟨True, mk.1, mk.2.1⟩
  obtain ⟨N, rfl⟩ : ∃ N : Nat, n = (N : Int) := ⟨n.toNat, by omega⟩
  obtain ⟨v, m2, V2, U2, r2, st2, dr2, d0, d1, ⟨pu2, be2, x2, rs2, sl2, mv2, Q4, d2⟩, ⟨Q5, bg2, wy2, d3⟩⟩ := run_loop (tl := tl) (k := k) (ts := ts) (sp := sp) (kd := kd) (rd := rd) (rk := rk) (rv := rv) (rr := rr) (ac := ((ct c : Nat) : Int)) (how := how) (N := N) (by omega) hh pl N 0 m 1 V U r st dr pu be x rs sl mv Q Q2 bg wy (by omega) (.inr rfl) ok
  refine ⟨v, m2, V2, U2, r2, st2, dr2, d0, d1, ⟨pu2, be2, x2, rs2, sl2, mv2, Q4, fun h => ?_⟩, ⟨Q5, bg2, wy2, fun h => ?_⟩⟩
  · refine E_in (lv := [_, _, _, _, _]) rfl ?_
    refine E_iload pf_73_0 rfl ?_
    refine F_c1v0 pf_73_1 (c97t (by omega)) (trivial) rfl ?_
    refine E_if_eq_f pf_73_4 (by omega) ?_
    refine E_iload pf_73_7 rfl ?_
    refine E_iconst pf_73_8 ?_
    refine E_icmp_lt_f pf_73_9 (by omega) ?_
    refine E_iload pf_73_12 rfl ?_
    refine E_iconst pf_73_13 ?_
    refine E_icmp_gt_f pf_73_15 (by omega) ?_
    refine E_iconst pf_73_18 ?_
    refine E_goto pf_73_19 ?_
    refine F_c1u0 pf_73_23 (c96) (trivial) rfl ?_
    refine E_aload pf_73_26 rfl ?_
    refine F_getf pf_73_27 rfl rfl rfl ?_
    refine E_aload pf_73_30 rfl ?_
    refine F_getf pf_73_31 rfl rfl rfl ?_
    refine F_mem2 (l' := [(_, _), (_, _), (_, _), (_, _), (_, _), (_, _), (_, _), (_, _), (_, _), (_, _), (_, _), (_, _), (_, _)]) pf_73_34 (c22j (S := (tup rn R m V U st dr)) mk.2 mk.1) (And.intro rfl (And.intro rfl (And.intro rfl (And.intro rfl (trivial))))) rfl rfl rfl rfl rfl rfl rfl ?_
    refine E_iconst pf_73_37 ?_
    refine E_istore (lv' := [_, _, _, _, _]) pf_73_38 rfl rfl ?_
    refine E_iconst pf_73_39 ?_
    refine E_istore (lv' := [_, _, _, _, _]) pf_73_40 rfl rfl ?_
    exact d2 _
  · refine E_in (lv := [_, _, _, _, _, _]) rfl ?_
    refine E_aload pf_152_0 rfl ?_
    refine E_iload pf_152_1 rfl ?_
    refine E_i2l pf_152_2 (by omega) ?_
    refine E_lconst pf_152_3 ?_
    refine E_lconst pf_152_4 ?_
    refine F_c3v0 pf_152_7 (c109t (by omega) (by omega)) (trivial) rfl ?_
    refine E_if_eq_f pf_152_10 (by omega) ?_
    refine E_iload pf_152_13 rfl ?_
    refine E_i2l pf_152_14 (by omega) ?_
    refine E_lconst pf_152_15 ?_
    refine E_lconst pf_152_16 ?_
    refine F_c3v0 pf_152_19 (c109t (by omega) (by omega)) (trivial) rfl ?_
    refine E_if_eq_f pf_152_22 (by omega) ?_
    refine E_iconst pf_152_25 ?_
    refine E_goto pf_152_26 ?_
    refine F_v2v (l' := [(_, _), (_, _), (_, _), (_, _), (_, _), (_, _), (_, _)]) pf_152_30 (c108_0) (And.intro rfl (trivial)) rfl rfl rfl rfl ?_
    refine E_if_eq_t pf_152_33 (by omega) ?_
    refine E_aload pf_152_38 rfl ?_
    refine F_v1u (l' := [(_, _), (_, _), (_, _), (_, _), (_, _), (_, _), (_, _)]) pf_152_39 (c150j mk.1) (And.intro rfl (And.intro rfl (And.intro rfl (trivial)))) rfl rfl rfl rfl ?_
    refine E_iconst pf_152_42 ?_
    refine E_istore (lv' := [_, _, _, _, _, _]) pf_152_43 rfl rfl ?_
    refine E_iconst pf_152_44 ?_
    refine E_istore (lv' := [_, _, _, _, _, _]) pf_152_45 rfl rfl ?_
    exact Rn_fr (fun h => d3 h _) (And.intro rfl (And.intro rfl (And.intro rfl (And.intro rfl (And.intro rfl (And.intro rfl (trivial))))))) rfl rfl h
theorem c73x {how n : Int} (h1 : (-2147483648 ≤ how ∧ how ≤ 2147483647)) (h2 : (-2147483648 ≤ n ∧ n ≤ 2147483647)) (h3 : ¬ ((0 ≤ how ∧ how ≤ 2) ∧ (1 ≤ n ∧ n ≤ 50))) : ∀ h, Ca 73 [.ref 1, .int (ii how), .int (ii n)] (wd [(1, oPD tl)] h) (.inr 0, pd_thr (wd [(1, oPD tl)] h)) := by
  intro h
  refine E_in (lv := [_, _, _, _, _]) rfl ?_
  by_cases e : 0 ≤ how ∧ how ≤ 2
  · by_cases e2 : 1 ≤ n
    ·
      refine E_iload pf_73_0 rfl ?_
      refine F_c1v0 pf_73_1 (c97t (by omega)) (trivial) rfl ?_
      refine E_if_eq_f pf_73_4 (by omega) ?_
      refine E_iload pf_73_7 rfl ?_
      refine E_iconst pf_73_8 ?_
      refine E_icmp_lt_f pf_73_9 (by omega) ?_
      refine E_iload pf_73_12 rfl ?_
      refine E_iconst pf_73_13 ?_
      refine E_icmp_gt_t pf_73_15 (by omega) ?_
      refine E_iconst pf_73_22 ?_
      exact E_c1x pf_73_23 rfl (c96x _) rfl
    ·
      refine E_iload pf_73_0 rfl ?_
      refine F_c1v0 pf_73_1 (c97t (by omega)) (trivial) rfl ?_
      refine E_if_eq_f pf_73_4 (by omega) ?_
      refine E_iload pf_73_7 rfl ?_
      refine E_iconst pf_73_8 ?_
      refine E_icmp_lt_t pf_73_9 (by omega) ?_
      refine E_iconst pf_73_22 ?_
      exact E_c1x pf_73_23 rfl (c96x _) rfl
  ·
    refine E_iload pf_73_0 rfl ?_
    refine F_c1v0 pf_73_1 (c97f (by omega) (by omega)) (trivial) rfl ?_
    refine E_if_eq_t pf_73_4 (by omega) ?_
    refine E_iconst pf_73_22 ?_
    exact E_c1x pf_73_23 rfl (c96x _) rfl
theorem c152x {how n : Int} (h1 : (-2147483648 ≤ how ∧ how ≤ 2147483647)) (h2 : (-2147483648 ≤ n ∧ n ≤ 2147483647)) (h3 : ¬ ((0 ≤ how ∧ how ≤ 2) ∧ (1 ≤ n ∧ n ≤ 50))) : ∀ h, Ca 152 [.ref 102, .int (ii how), .int (ii n)] (wd [(102, oX6 rf ts sp (dn : Int) kd (vn : Int) (rn : Int) rd rk rv rr (c : Int))] h) (.inl (some (.int (ii 0))), wd [(102, oX6 1 ts sp (dn : Int) kd (vn : Int) (rn : Int) rd rk rv rr (c : Int))] h) := by
  intro h
  refine E_in (lv := [_, _, _, _, _, _]) rfl ?_
  by_cases e : 0 ≤ how ∧ how ≤ 2
  ·
    refine E_aload pf_152_0 rfl ?_
    refine E_iload pf_152_1 rfl ?_
    refine E_i2l pf_152_2 (by omega) ?_
    refine E_lconst pf_152_3 ?_
    refine E_lconst pf_152_4 ?_
    refine F_c3v0 pf_152_7 (c109t (by omega) (by omega)) (trivial) rfl ?_
    refine E_if_eq_f pf_152_10 (by omega) ?_
    refine E_iload pf_152_13 rfl ?_
    refine E_i2l pf_152_14 (by omega) ?_
    refine E_lconst pf_152_15 ?_
    refine E_lconst pf_152_16 ?_
    refine F_c3v0 pf_152_19 (c109f (by omega) (by omega)) (trivial) rfl ?_
    refine E_if_eq_t pf_152_22 (by omega) ?_
    refine E_iconst pf_152_29 ?_
    refine F_v2v (l' := [(_, _)]) pf_152_30 (c108_1) (And.intro rfl (trivial)) rfl rfl rfl rfl ?_
    refine E_if_eq_f pf_152_33 (by omega) ?_
    refine E_iconst pf_152_36 ?_
    exact E_iret pf_152_37 rfl
  ·
    refine E_aload pf_152_0 rfl ?_
    refine E_iload pf_152_1 rfl ?_
    refine E_i2l pf_152_2 (by omega) ?_
    refine E_lconst pf_152_3 ?_
    refine E_lconst pf_152_4 ?_
    refine F_c3v0 pf_152_7 (c109f (by omega) (by omega)) (trivial) rfl ?_
    refine E_if_eq_t pf_152_10 (by omega) ?_
    refine E_iconst pf_152_29 ?_
    refine F_v2v (l' := [(_, _)]) pf_152_30 (c108_1) (And.intro rfl (trivial)) rfl rfl rfl rfl ?_
    refine E_if_eq_f pf_152_33 (by omega) ?_
    refine E_iconst pf_152_36 ?_
    exact E_iret pf_152_37 rfl
theorem a_trf {i v n : Int} (hi : 0 ≤ i ∧ i < m) (hvv : 0 ≤ v ∧ v < vn) (hn : 0 ≤ n ∧ n ≤ U i) (ok : okq vn R V U st dr r m) (pl : plk dn vn rn C P) (mk : memk vn rn c nx M D) : ∃ (m' : Nat) (V' U' r' : Int → Int), okq vn R V' U' st dr r' m' ∧ (∀ h, Ca 74 [.ref 1, .int (ii i), .int (ii v), .int (ii n)] (wd [(1, oPD tl), (13, oP (dn : Int) k (vn : Int)), (24, oS24 (rn : Int) (m : Int) st dr), (25, ar 20 R), (26, ar 24 V), (27, ar 24 U)] (wd (LMm (c : Int) (nx : Int) M) h)) (.inl (some (.int (ii (m' : Int)))), wd [(1, oPD tl), (13, oP (dn : Int) k (vn : Int)), (24, oS24 (rn : Int) (m' : Int) st dr), (25, ar 20 R), (26, ar 24 V'), (27, ar 24 U')] (wd (LMm ((ct c : Nat) : Int) ((nt nx : Nat) : Int) (mup M nx (pcp (M nx) (tup rn R m V U st dr)))) h))) ∧ ∀ h, Ca 153 [.ref 102, .int (ii i), .int (ii v), .int (ii n)] (wd [(102, oX6 rf ts sp (dn : Int) kd (vn : Int) (rn : Int) rd rk rv rr (c : Int)), (107, ar 72 r), (109, ar 1008 D)] h) (.inl (some (.int (ii (m' : Int)))), wd [(102, oX6 0 ts sp (dn : Int) kd (vn : Int) (rn : Int) rd rk rv rr ((ct c : Nat) : Int)), (107, ar 72 r'), (109, ar 1008 (dnt D r c))] h) := by
  have hv := plk_v pl
  have hs := okq_sok ok hv.2.1.2
  have hp := okq_pgk ok hv.2.1.2
  have hm := okq_m ok hv.2.1.2
  have h68 := ok.2.2.2.1
  obtain ⟨mk0, mk⟩ : ∃ a : Prop, (c ≤ 14 ∧ nx < 14) := ⟨True, mk.1, mk.2.1⟩
  obtain ⟨j, rfl⟩ : ∃ j : Nat, i = (j : Int) := ⟨i.toNat, by omega⟩
  have hU := Mx_at ok.2.2.2.2.1 (i := j) (by omega)
  have hq := (ok.2.2.1 j (by omega)).2
  obtain ⟨m1, V1, U1, r1, ok1, t1, t2⟩ := trf_s (rn := rn) (i := j) (v := v) (n := n) ok hv.2.1.2 (by omega) hvv hn
  have e68 := ok1.2.2.2.1
  refine ⟨m1, V1, U1, r1, ok1, fun h => ?_, fun h => ?_⟩
  · refine E_in (lv := [_, _, _, _]) rfl ?_
    refine E_iload pf_74_0 rfl ?_
    refine E_aload pf_74_1 rfl ?_
    refine F_getf pf_74_2 rfl rfl rfl ?_
    refine F_getf pf_74_5 rfl rfl rfl ?_
    refine F_c2u0 pf_74_8 (c95 (by omega) (by omega)) (trivial) rfl ?_
    refine E_iload pf_74_11 rfl ?_
    refine E_aload pf_74_12 rfl ?_
    refine F_getf pf_74_13 rfl rfl rfl ?_
    refine F_getf pf_74_16 rfl rfl rfl ?_
    refine F_c2u0 pf_74_19 (c95 (by omega) (by omega)) (trivial) rfl ?_
    refine E_iload pf_74_22 rfl ?_
    refine E_if_lt_f pf_74_23 (by omega) ?_
    refine E_iload pf_74_26 rfl ?_
    refine E_aload pf_74_27 rfl ?_
    refine F_getf pf_74_28 rfl rfl rfl ?_
    refine F_getf pf_74_31 rfl rfl rfl ?_
    refine E_iload pf_74_34 rfl ?_
    refine F_iald pf_74_35 rfl (by omega) ?_
    refine E_icmp_gt_f pf_74_36 (by omega) ?_
    refine E_iconst pf_74_39 ?_
    refine E_goto pf_74_40 ?_
    refine F_c1u0 pf_74_44 (c96) (trivial) rfl ?_
    refine E_aload pf_74_47 rfl ?_
    refine F_getf pf_74_48 rfl rfl rfl ?_
    refine E_aload pf_74_51 rfl ?_
    refine F_getf pf_74_52 rfl rfl rfl ?_
    refine F_mem2 (l' := [(_, _), (_, _), (_, _), (_, _), (_, _), (_, _)]) pf_74_55 (c22j (S := (tup rn R m V U st dr)) mk.2 mk.1) (And.intro rfl (And.intro rfl (And.intro rfl (And.intro rfl (trivial))))) rfl rfl rfl rfl rfl rfl rfl ?_
    refine E_aload pf_74_58 rfl ?_
    refine F_getf pf_74_59 rfl rfl rfl ?_
    refine E_iload pf_74_62 rfl ?_
    refine E_iload pf_74_63 rfl ?_
    refine E_iload pf_74_64 rfl ?_
    refine F_v4u (l' := [(_, _), (_, _), (_, _), (_, _), (_, _), (_, _)]) pf_74_65 (t1) (And.intro rfl (And.intro rfl (And.intro rfl (trivial)))) rfl rfl rfl rfl ?_
    refine E_aload pf_74_68 rfl ?_
    refine F_getf pf_74_69 rfl rfl rfl ?_
    refine F_getf pf_74_72 rfl rfl rfl ?_
    exact E_iret pf_74_75 rfl
  · refine E_in (lv := [_, _, _, _]) rfl ?_
    refine E_aload pf_153_0 rfl ?_
    refine E_iload pf_153_1 rfl ?_
    refine E_i2l pf_153_2 (by omega) ?_
    refine E_lconst pf_153_3 ?_
    refine E_aload pf_153_4 rfl ?_
    refine F_getf pf_153_5 rfl rfl rfl ?_
    refine E_iconst pf_153_8 ?_
    refine F_iald pf_153_10 rfl (by omega) ?_
    refine E_iconst pf_153_11 ?_
    refine E_isub pf_153_12 ?_
    refine E_i2l pf_153_13 (by omega) ?_
    refine F_c3v0 pf_153_14 (c109t (by omega) (by omega)) (trivial) rfl ?_
    refine E_if_eq_f pf_153_17 (by omega) ?_
    refine E_aload pf_153_20 rfl ?_
    refine E_iload pf_153_21 rfl ?_
    refine F_v2v0 pf_153_22 (c111t (by omega) (by omega)) (And.intro rfl (trivial)) rfl rfl ?_
    refine E_if_ne_t pf_153_25 (by omega) ?_
    refine E_iload pf_153_32 rfl ?_
    refine E_i2l pf_153_33 (by omega) ?_
    refine E_lconst pf_153_34 ?_
    refine E_aload pf_153_35 rfl ?_
    refine F_getf pf_153_36 rfl rfl rfl ?_
    refine E_iconst pf_153_39 ?_
    refine E_iload pf_153_41 rfl ?_
    refine E_iadd pf_153_42 ?_
    refine F_iald pf_153_43 rfl (by omega) ?_
    refine E_i2l pf_153_44 (by omega) ?_
    refine F_c3v0 pf_153_45 (c109t (by omega) (by omega)) (trivial) rfl ?_
    refine E_if_ne_t pf_153_48 (by omega) ?_
    refine E_iconst pf_153_55 ?_
    refine F_v2v (l' := [(_, _), (_, _), (_, _)]) pf_153_56 (c108_0) (And.intro rfl (trivial)) rfl rfl rfl rfl ?_
    refine E_if_eq_t pf_153_59 (by omega) ?_
    refine E_aload pf_153_64 rfl ?_
    refine F_v1u (l' := [(_, _), (_, _), (_, _)]) pf_153_65 (c150j mk.1) (And.intro rfl (And.intro rfl (And.intro rfl (trivial)))) rfl rfl rfl rfl ?_
    refine E_aload pf_153_68 rfl ?_
    refine F_getf pf_153_69 rfl rfl rfl ?_
    refine E_iload pf_153_72 rfl ?_
    refine E_iload pf_153_73 rfl ?_
    refine E_iload pf_153_74 rfl ?_
    refine F_c4u (l' := [(_, _), (_, _), (_, _)]) pf_153_75 (t2) (And.intro rfl (trivial)) rfl rfl rfl ?_
    refine E_aload pf_153_78 rfl ?_
    refine F_getf pf_153_79 rfl rfl rfl ?_
    refine E_iconst pf_153_82 ?_
    refine F_iald pf_153_84 rfl (by omega) ?_
    rw [e68]
    exact E_iret pf_153_85 rfl
theorem c74x {i v n : Int} (h1 : (-2147483648 ≤ i ∧ i ≤ 2147483647)) (h2 : (-2147483648 ≤ v ∧ v ≤ 2147483647)) (hv : vn ≤ 24) (hm : m ≤ 24) (h3 : ¬ ((0 ≤ i ∧ i < m) ∧ (0 ≤ v ∧ v < vn))) : ∀ h, Ca 74 [.ref 1, .int (ii i), .int (ii v), .int (ii n)] (wd [(1, oPD tl), (13, oP (dn : Int) k (vn : Int)), (24, oS24 (rn : Int) (m : Int) st dr)] h) (.inr 2, pd_thr (wd [(1, oPD tl), (13, oP (dn : Int) k (vn : Int)), (24, oS24 (rn : Int) (m : Int) st dr)] h)) := by
  intro h
  refine E_in (lv := [_, _, _, _]) rfl ?_
  by_cases e : 0 ≤ i ∧ i < m
  ·
    refine E_iload pf_74_0 rfl ?_
    refine E_aload pf_74_1 rfl ?_
    refine F_getf pf_74_2 rfl rfl rfl ?_
    refine F_getf pf_74_5 rfl rfl rfl ?_
    refine F_c2u0 pf_74_8 (c95 (by omega) (by omega)) (trivial) rfl ?_
    refine E_iload pf_74_11 rfl ?_
    refine E_aload pf_74_12 rfl ?_
    refine F_getf pf_74_13 rfl rfl rfl ?_
    refine F_getf pf_74_16 rfl rfl rfl ?_
    exact E_c2x pf_74_19 rfl (c95x (by omega) (by omega) (by omega) _) rfl
  ·
    refine E_iload pf_74_0 rfl ?_
    refine E_aload pf_74_1 rfl ?_
    refine F_getf pf_74_2 rfl rfl rfl ?_
    refine F_getf pf_74_5 rfl rfl rfl ?_
    exact E_c2x pf_74_8 rfl (c95x (by omega) (by omega) (by omega) _) rfl
theorem c74y {i v n : Int} (h2 : (-2147483648 ≤ n ∧ n ≤ 2147483647)) (hv : vn ≤ 24) (hm : m ≤ 24) (hi : 0 ≤ i ∧ i < m) (hvv : 0 ≤ v ∧ v < vn) (hU : 0 ≤ U i ∧ U i ≤ 100) (h3 : ¬ (0 ≤ n ∧ n ≤ U i)) : ∀ h, Ca 74 [.ref 1, .int (ii i), .int (ii v), .int (ii n)] (wd [(1, oPD tl), (13, oP (dn : Int) k (vn : Int)), (24, oS24 (rn : Int) (m : Int) st dr), (27, ar 24 U)] h) (.inr 0, pd_thr (wd [(1, oPD tl), (13, oP (dn : Int) k (vn : Int)), (24, oS24 (rn : Int) (m : Int) st dr), (27, ar 24 U)] h)) := by
  intro h
  refine E_in (lv := [_, _, _, _]) rfl ?_
  by_cases e : n < 0
  ·
    refine E_iload pf_74_0 rfl ?_
    refine E_aload pf_74_1 rfl ?_
    refine F_getf pf_74_2 rfl rfl rfl ?_
    refine F_getf pf_74_5 rfl rfl rfl ?_
    refine F_c2u0 pf_74_8 (c95 (by omega) (by omega)) (trivial) rfl ?_
    refine E_iload pf_74_11 rfl ?_
    refine E_aload pf_74_12 rfl ?_
    refine F_getf pf_74_13 rfl rfl rfl ?_
    refine F_getf pf_74_16 rfl rfl rfl ?_
    refine F_c2u0 pf_74_19 (c95 (by omega) (by omega)) (trivial) rfl ?_
    refine E_iload pf_74_22 rfl ?_
    refine E_if_lt_t pf_74_23 (by omega) ?_
    refine E_iconst pf_74_43 ?_
    exact E_c1x pf_74_44 rfl (c96x _) rfl
  ·
    refine E_iload pf_74_0 rfl ?_
    refine E_aload pf_74_1 rfl ?_
    refine F_getf pf_74_2 rfl rfl rfl ?_
    refine F_getf pf_74_5 rfl rfl rfl ?_
    refine F_c2u0 pf_74_8 (c95 (by omega) (by omega)) (trivial) rfl ?_
    refine E_iload pf_74_11 rfl ?_
    refine E_aload pf_74_12 rfl ?_
    refine F_getf pf_74_13 rfl rfl rfl ?_
    refine F_getf pf_74_16 rfl rfl rfl ?_
    refine F_c2u0 pf_74_19 (c95 (by omega) (by omega)) (trivial) rfl ?_
    refine E_iload pf_74_22 rfl ?_
    refine E_if_lt_f pf_74_23 (by omega) ?_
    refine E_iload pf_74_26 rfl ?_
    refine E_aload pf_74_27 rfl ?_
    refine F_getf pf_74_28 rfl rfl rfl ?_
    refine F_getf pf_74_31 rfl rfl rfl ?_
    refine E_iload pf_74_34 rfl ?_
    refine F_iald pf_74_35 rfl (by omega) ?_
    refine E_icmp_gt_t pf_74_36 (by omega) ?_
    refine E_iconst pf_74_43 ?_
    exact E_c1x pf_74_44 rfl (c96x _) rfl
theorem c153x {i v n : Int} (h1 : (-2147483648 ≤ i ∧ i ≤ 2147483647)) (h2 : (-2147483648 ≤ v ∧ v ≤ 2147483647)) (hv : vn ≤ 24) (h68 : r 68 = m) (hm : m ≤ 24) (h3 : ¬ ((0 ≤ i ∧ i < m) ∧ (0 ≤ v ∧ v < vn))) : ∀ h, Ca 153 [.ref 102, .int (ii i), .int (ii v), .int (ii n)] (wd [(102, oX6 rf ts sp (dn : Int) kd (vn : Int) (rn : Int) rd rk rv rr (c : Int)), (107, ar 72 r)] h) (.inl (some (.int (ii 0))), wd [(102, oX6 1 ts sp (dn : Int) kd (vn : Int) (rn : Int) rd rk rv rr (c : Int)), (107, ar 72 r)] h) := by
  intro h
  refine E_in (lv := [_, _, _, _]) rfl ?_
  by_cases e : 0 ≤ i ∧ i < m
  ·
    refine E_aload pf_153_0 rfl ?_
    refine E_iload pf_153_1 rfl ?_
    refine E_i2l pf_153_2 (by omega) ?_
    refine E_lconst pf_153_3 ?_
    refine E_aload pf_153_4 rfl ?_
    refine F_getf pf_153_5 rfl rfl rfl ?_
    refine E_iconst pf_153_8 ?_
    refine F_iald pf_153_10 rfl (by omega) ?_
    refine E_iconst pf_153_11 ?_
    refine E_isub pf_153_12 ?_
    refine E_i2l pf_153_13 (by omega) ?_
    refine F_c3v0 pf_153_14 (c109t (by omega) (by omega)) (trivial) rfl ?_
    refine E_if_eq_f pf_153_17 (by omega) ?_
    refine E_aload pf_153_20 rfl ?_
    refine E_iload pf_153_21 rfl ?_
    refine F_v2v0 pf_153_22 (c111f (by omega) (by omega) (by omega)) (And.intro rfl (trivial)) rfl rfl ?_
    refine E_if_ne_f pf_153_25 (by omega) ?_
    refine E_iconst pf_153_28 ?_
    refine E_goto pf_153_29 ?_
    refine F_v2v (l' := [(_, _), (_, _)]) pf_153_56 (c108_1) (And.intro rfl (trivial)) rfl rfl rfl rfl ?_
    refine E_if_eq_f pf_153_59 (by omega) ?_
    refine E_iconst pf_153_62 ?_
    exact E_iret pf_153_63 rfl
  ·
    refine E_aload pf_153_0 rfl ?_
    refine E_iload pf_153_1 rfl ?_
    refine E_i2l pf_153_2 (by omega) ?_
    refine E_lconst pf_153_3 ?_
    refine E_aload pf_153_4 rfl ?_
    refine F_getf pf_153_5 rfl rfl rfl ?_
    refine E_iconst pf_153_8 ?_
    refine F_iald pf_153_10 rfl (by omega) ?_
    refine E_iconst pf_153_11 ?_
    refine E_isub pf_153_12 ?_
    refine E_i2l pf_153_13 (by omega) ?_
    refine F_c3v0 pf_153_14 (c109f (by omega) (by omega)) (trivial) rfl ?_
    refine E_if_eq_t pf_153_17 (by omega) ?_
    refine E_iconst pf_153_28 ?_
    refine E_goto pf_153_29 ?_
    refine F_v2v (l' := [(_, _), (_, _)]) pf_153_56 (c108_1) (And.intro rfl (trivial)) rfl rfl rfl rfl ?_
    refine E_if_eq_f pf_153_59 (by omega) ?_
    refine E_iconst pf_153_62 ?_
    exact E_iret pf_153_63 rfl
theorem c153y {i v n : Int} (h2 : (-2147483648 ≤ n ∧ n ≤ 2147483647)) (hv : vn ≤ 24) (h68 : r 68 = m) (hm : m ≤ 24) (hi : 0 ≤ i ∧ i < m) (hvv : 0 ≤ v ∧ v < vn) (hU : 0 ≤ r (44 + i) ∧ r (44 + i) ≤ 100) (h3 : ¬ (0 ≤ n ∧ n ≤ r (44 + i))) : ∀ h, Ca 153 [.ref 102, .int (ii i), .int (ii v), .int (ii n)] (wd [(102, oX6 rf ts sp (dn : Int) kd (vn : Int) (rn : Int) rd rk rv rr (c : Int)), (107, ar 72 r)] h) (.inl (some (.int (ii 0))), wd [(102, oX6 2 ts sp (dn : Int) kd (vn : Int) (rn : Int) rd rk rv rr (c : Int)), (107, ar 72 r)] h) := by
  intro h
  refine E_in (lv := [_, _, _, _]) rfl ?_
  refine E_aload pf_153_0 rfl ?_
  refine E_iload pf_153_1 rfl ?_
  refine E_i2l pf_153_2 (by omega) ?_
  refine E_lconst pf_153_3 ?_
  refine E_aload pf_153_4 rfl ?_
  refine F_getf pf_153_5 rfl rfl rfl ?_
  refine E_iconst pf_153_8 ?_
  refine F_iald pf_153_10 rfl (by omega) ?_
  refine E_iconst pf_153_11 ?_
  refine E_isub pf_153_12 ?_
  refine E_i2l pf_153_13 (by omega) ?_
  refine F_c3v0 pf_153_14 (c109t (by omega) (by omega)) (trivial) rfl ?_
  refine E_if_eq_f pf_153_17 (by omega) ?_
  refine E_aload pf_153_20 rfl ?_
  refine E_iload pf_153_21 rfl ?_
  refine F_v2v0 pf_153_22 (c111t (by omega) (by omega)) (And.intro rfl (trivial)) rfl rfl ?_
  refine E_if_ne_t pf_153_25 (by omega) ?_
  refine E_iload pf_153_32 rfl ?_
  refine E_i2l pf_153_33 (by omega) ?_
  refine E_lconst pf_153_34 ?_
  refine E_aload pf_153_35 rfl ?_
  refine F_getf pf_153_36 rfl rfl rfl ?_
  refine E_iconst pf_153_39 ?_
  refine E_iload pf_153_41 rfl ?_
  refine E_iadd pf_153_42 ?_
  refine F_iald pf_153_43 rfl (by omega) ?_
  refine E_i2l pf_153_44 (by omega) ?_
  refine F_c3v0 pf_153_45 (c109f (by omega) (by omega)) (trivial) rfl ?_
  refine E_if_ne_f pf_153_48 (by omega) ?_
  refine E_iconst pf_153_51 ?_
  refine E_goto pf_153_52 ?_
  refine F_v2v (l' := [(_, _), (_, _)]) pf_153_56 (c108_2) (And.intro rfl (trivial)) rfl rfl rfl rfl ?_
  refine E_if_eq_f pf_153_59 (by omega) ?_
  refine E_iconst pf_153_62 ?_
  exact E_iret pf_153_63 rfl
theorem a_rst {v : Int} (hvv : 0 ≤ v ∧ v < vn) (ok : okq vn R V U st dr r m) (pl : plk dn vn rn C P) (mk : memk vn rn c nx M D) : okq vn R (zu V 0 v) (zu U 0 100) 0 0 (zu (zu (zu (zu (zu r 20 v) 44 100) 68 1) 69 0) 70 0) 1 ∧ (∀ h, Ca 75 [.ref 1, .int (ii v)] (wd [(1, oPD tl), (13, oP (dn : Int) k (vn : Int)), (24, oS24 (rn : Int) (m : Int) st dr), (25, ar 20 R), (26, ar 24 V), (27, ar 24 U)] (wd (LMm (c : Int) (nx : Int) M) h)) (.inl (some (.int (ii (m : Int)))), wd [(1, oPD tl), (13, oP (dn : Int) k (vn : Int)), (24, oS24 (rn : Int) (1 : Int) 0 0), (25, ar 20 R), (26, ar 24 (zu V 0 v)), (27, ar 24 (zu U 0 100))] (wd (LMm ((ct c : Nat) : Int) ((nt nx : Nat) : Int) (mup M nx (pcp (M nx) (tup rn R m V U st dr)))) h))) ∧ ∀ h, Ca 154 [.ref 102, .int (ii v)] (wd [(102, oX6 rf ts sp (dn : Int) kd (vn : Int) (rn : Int) rd rk rv rr (c : Int)), (107, ar 72 r), (109, ar 1008 D)] h) (.inl (some (.int (ii (m : Int)))), wd [(102, oX6 0 ts sp (dn : Int) kd (vn : Int) (rn : Int) rd rk rv rr ((ct c : Nat) : Int)), (107, ar 72 (zu (zu (zu (zu (zu r 20 v) 44 100) 68 1) 69 0) 70 0)), (109, ar 1008 (dnt D r c))] h) := by
  have hv := plk_v pl
  have hs := okq_sok ok hv.2.1.2
  have hp := okq_pgk ok hv.2.1.2
  have hm := okq_m ok hv.2.1.2
  have h68 := ok.2.2.2.1
  obtain ⟨mk0, mk⟩ : ∃ a : Prop, (c ≤ 14 ∧ nx < 14) := ⟨True, mk.1, mk.2.1⟩
  refine ⟨rst_ok ok.1 ok.2.1 hvv rfl rfl rfl, fun h => ?_, fun h => ?_⟩
  · refine E_in (lv := [_, _, _]) rfl ?_
    refine E_iload pf_75_0 rfl ?_
    refine E_aload pf_75_1 rfl ?_
    refine F_getf pf_75_2 rfl rfl rfl ?_
    refine F_getf pf_75_5 rfl rfl rfl ?_
    refine F_c2u0 pf_75_8 (c95 (by omega) (by omega)) (trivial) rfl ?_
    refine E_aload pf_75_11 rfl ?_
    refine F_getf pf_75_12 rfl rfl rfl ?_
    refine E_aload pf_75_15 rfl ?_
    refine F_getf pf_75_16 rfl rfl rfl ?_
    refine F_mem2 (l' := [(_, _), (_, _), (_, _), (_, _), (_, _), (_, _)]) pf_75_19 (c22j (S := (tup rn R m V U st dr)) mk.2 mk.1) (And.intro rfl (And.intro rfl (And.intro rfl (And.intro rfl (trivial))))) rfl rfl rfl rfl rfl rfl rfl ?_
    refine E_aload pf_75_22 rfl ?_
    refine F_getf pf_75_23 rfl rfl rfl ?_
    refine F_getf pf_75_26 rfl rfl rfl ?_
    refine E_istore (lv' := [_, _, _]) pf_75_29 rfl rfl ?_
    refine E_aload pf_75_30 rfl ?_
    refine F_getf pf_75_31 rfl rfl rfl ?_
    refine E_iload pf_75_34 rfl ?_
    refine F_v2u (l' := [(_, _), (_, _), (_, _), (_, _), (_, _), (_, _)]) pf_75_35 (c58s) (And.intro rfl (And.intro rfl (And.intro rfl (trivial)))) rfl rfl rfl rfl ?_
    refine E_iload pf_75_38 rfl ?_
    exact E_iret pf_75_39 rfl
  · refine E_in (lv := [_, _, _]) rfl ?_
    refine E_aload pf_154_0 rfl ?_
    refine E_aload pf_154_1 rfl ?_
    refine E_iload pf_154_2 rfl ?_
    refine F_v2v0 pf_154_3 (c111t (by omega) (by omega)) (And.intro rfl (trivial)) rfl rfl ?_
    refine E_if_eq_f pf_154_6 (by omega) ?_
    refine E_iconst pf_154_9 ?_
    refine E_goto pf_154_10 ?_
    refine F_v2v (l' := [(_, _), (_, _), (_, _)]) pf_154_14 (c108_0) (And.intro rfl (trivial)) rfl rfl rfl rfl ?_
    refine E_if_eq_t pf_154_17 (by omega) ?_
    refine E_aload pf_154_22 rfl ?_
    refine F_v1u (l' := [(_, _), (_, _), (_, _)]) pf_154_23 (c150j mk.1) (And.intro rfl (And.intro rfl (And.intro rfl (trivial)))) rfl rfl rfl rfl ?_
    refine E_aload pf_154_26 rfl ?_
    refine F_getf pf_154_27 rfl rfl rfl ?_
    refine E_iconst pf_154_30 ?_
    refine F_iald pf_154_32 rfl (by omega) ?_
    rw [h68]
    refine E_istore (lv' := [_, _, _]) pf_154_33 rfl rfl ?_
    refine E_aload pf_154_34 rfl ?_
    refine F_getf pf_154_35 rfl rfl rfl ?_
    refine E_iload pf_154_38 rfl ?_
    refine F_c2u (l' := [(_, _), (_, _), (_, _)]) pf_154_39 (c126n) (And.intro rfl (trivial)) rfl rfl rfl ?_
    refine E_iload pf_154_42 rfl ?_
    exact E_iret pf_154_43 rfl
theorem c75x {v : Int} (h1 : (-2147483648 ≤ v ∧ v ≤ 2147483647)) (hv : vn ≤ 24) (h3 : ¬ (0 ≤ v ∧ v < vn)) : ∀ h, Ca 75 [.ref 1, .int (ii v)] (wd [(1, oPD tl), (13, oP (dn : Int) k (vn : Int))] h) (.inr 2, pd_thr (wd [(1, oPD tl), (13, oP (dn : Int) k (vn : Int))] h)) := by
  intro h
  refine E_in (lv := [_, _, _]) rfl ?_
  refine E_iload pf_75_0 rfl ?_
  refine E_aload pf_75_1 rfl ?_
  refine F_getf pf_75_2 rfl rfl rfl ?_
  refine F_getf pf_75_5 rfl rfl rfl ?_
  exact E_c2x pf_75_8 rfl (c95x (by omega) (by omega) (by omega) _) rfl
theorem c154x {v : Int} (h1 : (-2147483648 ≤ v ∧ v ≤ 2147483647)) (hv : vn ≤ 24) (h3 : ¬ (0 ≤ v ∧ v < vn)) : ∀ h, Ca 154 [.ref 102, .int (ii v)] (wd [(102, oX6 rf ts sp (dn : Int) kd (vn : Int) (rn : Int) rd rk rv rr (c : Int))] h) (.inl (some (.int (ii 0))), wd [(102, oX6 1 ts sp (dn : Int) kd (vn : Int) (rn : Int) rd rk rv rr (c : Int))] h) := by
  intro h
  refine E_in (lv := [_, _, _]) rfl ?_
  refine E_aload pf_154_0 rfl ?_
  refine E_aload pf_154_1 rfl ?_
  refine E_iload pf_154_2 rfl ?_
  refine F_v2v0 pf_154_3 (c111f (by omega) (by omega) (by omega)) (And.intro rfl (trivial)) rfl rfl ?_
  refine E_if_eq_t pf_154_6 (by omega) ?_
  refine E_iconst pf_154_13 ?_
  refine F_v2v (l' := [(_, _)]) pf_154_14 (c108_1) (And.intro rfl (trivial)) rfl rfl rfl rfl ?_
  refine E_if_eq_f pf_154_17 (by omega) ?_
  refine E_iconst pf_154_20 ?_
  exact E_iret pf_154_21 rfl
theorem a_set {i j v : Int} (hi : 0 ≤ i ∧ i < rn) (hj : 0 ≤ j ∧ j ≤ dn) (hvv : -(if j = (dn : Int) then 99 else 9) ≤ v ∧ v ≤ (if j = (dn : Int) then 99 else 9)) (ok : okq vn R V U st dr r m) (pl : plk dn vn rn C P) (mk : memk vn rn c nx M D) : okq vn (zu R (i * 5 + (if j = (dn : Int) then 4 else j)) v) V U st dr (zu r (5 * i + (if j = (dn : Int) then 4 else j)) v) m ∧ (∀ h, Ca 76 [.ref 1, .int (ii i), .int (ii j), .int (ii v)] (wd [(1, oPD tl), (13, oP (dn : Int) k (vn : Int)), (24, oS24 (rn : Int) (m : Int) st dr), (25, ar 20 R), (26, ar 24 V), (27, ar 24 U)] (wd (LMm (c : Int) (nx : Int) M) h)) (.inl (some (.int (ii (R (i * 5 + (if j = (dn : Int) then 4 else j)))))), wd [(1, oPD tl), (13, oP (dn : Int) k (vn : Int)), (24, oS24 (rn : Int) (m : Int) st dr), (25, ar 20 (zu R (i * 5 + (if j = (dn : Int) then 4 else j)) v)), (26, ar 24 V), (27, ar 24 U)] (wd (LMm ((ct c : Nat) : Int) ((nt nx : Nat) : Int) (mup M nx (pcp (M nx) (tup rn R m V U st dr)))) h))) ∧ ∀ h, Ca 155 [.ref 102, .int (ii i), .int (ii j), .int (ii v)] (wd [(102, oX6 rf ts sp (dn : Int) kd (vn : Int) (rn : Int) rd rk rv rr (c : Int)), (107, ar 72 r), (109, ar 1008 D)] h) (.inl (some (.int (ii (R (i * 5 + (if j = (dn : Int) then 4 else j)))))), wd [(102, oX6 0 ts sp (dn : Int) kd (vn : Int) (rn : Int) rd rk rv rr ((ct c : Nat) : Int)), (107, ar 72 (zu r (5 * i + (if j = (dn : Int) then 4 else j)) v)), (109, ar 1008 (dnt D r c))] h) := by
  have hv := plk_v pl
  have hs := okq_sok ok hv.2.1.2
  have hp := okq_pgk ok hv.2.1.2
  have hm := okq_m ok hv.2.1.2
  have h68 := ok.2.2.2.1
  obtain ⟨mk0, mk⟩ : ∃ a : Prop, (c ≤ 14 ∧ nx < 14) := ⟨True, mk.1, mk.2.1⟩
  have hcl := cel hv.1.2 hj
  have e5 : R (i * 5 + (if j = (dn : Int) then 4 else j)) = r (5 * i + (if j = (dn : Int) then 4 else j)) := by rw [ok.1 _ (by omega) (by omega), Int.mul_comm i 5]
  refine ⟨⟨?_, ?_, fun a ha => ?_, ?_, ok.2.2.2.2.1, ?_, ?_⟩, fun h => ?_, fun h => ?_⟩
  · rw [Int.mul_comm i 5]; exact agr_u ok.1
  · by_cases e : j = (dn : Int)
    · rw [if_pos e] at hvv ⊢; exact rbd_t ok.2.1 hvv
    · rw [if_neg e] at hvv ⊢; exact rbd_f ok.2.1 (by omega) hvv
  · rw [zu_n _ _ (by omega), zu_n _ _ (by omega)]; exact ok.2.2.1 a ha
  · rw [zu_n _ _ (by omega)]; exact h68
  · rw [zu_n _ _ (by omega)]; exact ok.2.2.2.2.2.1
  · rw [zu_n _ _ (by omega)]; exact ok.2.2.2.2.2.2
  · refine E_in (lv := [_, _, _, _, _, _, _]) rfl ?_
    by_cases e : j = (dn : Int)
    · have hvv2 : -99 ≤ v ∧ v ≤ 99 := by rw [if_pos e] at hvv; exact hvv
      refine E_iload pf_76_0 rfl ?_
      refine E_aload pf_76_1 rfl ?_
      refine F_getf pf_76_2 rfl rfl rfl ?_
      refine F_getf pf_76_5 rfl rfl rfl ?_
      refine F_c2u0 pf_76_8 (c95 (by omega) (by omega)) (trivial) rfl ?_
      refine E_iload pf_76_11 rfl ?_
      refine E_aload pf_76_12 rfl ?_
      refine F_getf pf_76_13 rfl rfl rfl ?_
      refine F_getf pf_76_16 rfl rfl rfl ?_
      refine E_iconst pf_76_19 ?_
      refine E_iadd pf_76_20 ?_
      refine F_c2u0 pf_76_21 (c95 (by omega) (by omega)) (trivial) rfl ?_
      refine E_iload pf_76_24 rfl ?_
      refine E_aload pf_76_25 rfl ?_
      refine F_getf pf_76_26 rfl rfl rfl ?_
      refine F_getf pf_76_29 rfl rfl rfl ?_
      refine E_icmp_ne_f pf_76_32 (by omega) ?_
      refine E_iconst pf_76_35 ?_
      refine E_goto pf_76_37 ?_
      refine E_istore (lv' := [_, _, _, _, _, _, _]) pf_76_42 rfl rfl ?_
      refine E_iload pf_76_44 rfl ?_
      refine E_iload pf_76_45 rfl ?_
      refine E_ineg pf_76_47 ?_
      refine E_icmp_lt_f pf_76_48 (by omega) ?_
      refine E_iload pf_76_51 rfl ?_
      refine E_iload pf_76_52 rfl ?_
      refine E_icmp_gt_f pf_76_54 (by omega) ?_
      refine E_iconst pf_76_57 ?_
      refine E_goto pf_76_58 ?_
      refine F_c1u0 pf_76_62 (c96) (trivial) rfl ?_
      refine E_aload pf_76_65 rfl ?_
      refine F_getf pf_76_66 rfl rfl rfl ?_
      refine E_aload pf_76_69 rfl ?_
      refine F_getf pf_76_70 rfl rfl rfl ?_
      refine F_mem2 (l' := [(_, _), (_, _), (_, _), (_, _), (_, _), (_, _)]) pf_76_73 (c22j (S := (tup rn R m V U st dr)) mk.2 mk.1) (And.intro rfl (And.intro rfl (And.intro rfl (And.intro rfl (trivial))))) rfl rfl rfl rfl rfl rfl rfl ?_
      refine E_aload pf_76_76 rfl ?_
      refine E_iload pf_76_77 rfl ?_
      refine E_iload pf_76_78 rfl ?_
      refine F_v3v0 pf_76_79 (c100 (by omega) hv.1.2) (And.intro rfl (And.intro rfl (trivial))) rfl rfl ?_
      refine E_istore (lv' := [_, _, _, _, _, _, _]) pf_76_82 rfl rfl ?_
      refine E_aload pf_76_84 rfl ?_
      refine F_getf pf_76_85 rfl rfl rfl ?_
      refine F_getf pf_76_88 rfl rfl rfl ?_
      refine E_iload pf_76_91 rfl ?_
      refine F_iald pf_76_93 rfl (by omega) ?_
      refine E_istore (lv' := [_, _, _, _, _, _, _]) pf_76_94 rfl rfl ?_
      refine E_aload pf_76_96 rfl ?_
      refine F_getf pf_76_97 rfl rfl rfl ?_
      refine F_getf pf_76_100 rfl rfl rfl ?_
      refine E_iload pf_76_103 rfl ?_
      refine E_iload pf_76_105 rfl ?_
      refine F_iast (l' := [(_, _), (_, _), (_, _), (_, _), (_, _), (_, _)]) pf_76_106 rfl (by omega) rfl ?_
      refine E_iload pf_76_107 rfl ?_
      exact E_iret pf_76_109 rfl
    · have hvv2 : -9 ≤ v ∧ v ≤ 9 := by rw [if_neg e] at hvv; exact hvv
      refine E_iload pf_76_0 rfl ?_
      refine E_aload pf_76_1 rfl ?_
      refine F_getf pf_76_2 rfl rfl rfl ?_
      refine F_getf pf_76_5 rfl rfl rfl ?_
      refine F_c2u0 pf_76_8 (c95 (by omega) (by omega)) (trivial) rfl ?_
      refine E_iload pf_76_11 rfl ?_
      refine E_aload pf_76_12 rfl ?_
      refine F_getf pf_76_13 rfl rfl rfl ?_
      refine F_getf pf_76_16 rfl rfl rfl ?_
      refine E_iconst pf_76_19 ?_
      refine E_iadd pf_76_20 ?_
      refine F_c2u0 pf_76_21 (c95 (by omega) (by omega)) (trivial) rfl ?_
      refine E_iload pf_76_24 rfl ?_
      refine E_aload pf_76_25 rfl ?_
      refine F_getf pf_76_26 rfl rfl rfl ?_
      refine F_getf pf_76_29 rfl rfl rfl ?_
      refine E_icmp_ne_t pf_76_32 (by omega) ?_
      refine E_iconst pf_76_40 ?_
      refine E_istore (lv' := [_, _, _, _, _, _, _]) pf_76_42 rfl rfl ?_
      refine E_iload pf_76_44 rfl ?_
      refine E_iload pf_76_45 rfl ?_
      refine E_ineg pf_76_47 ?_
      refine E_icmp_lt_f pf_76_48 (by omega) ?_
      refine E_iload pf_76_51 rfl ?_
      refine E_iload pf_76_52 rfl ?_
      refine E_icmp_gt_f pf_76_54 (by omega) ?_
      refine E_iconst pf_76_57 ?_
      refine E_goto pf_76_58 ?_
      refine F_c1u0 pf_76_62 (c96) (trivial) rfl ?_
      refine E_aload pf_76_65 rfl ?_
      refine F_getf pf_76_66 rfl rfl rfl ?_
      refine E_aload pf_76_69 rfl ?_
      refine F_getf pf_76_70 rfl rfl rfl ?_
      refine F_mem2 (l' := [(_, _), (_, _), (_, _), (_, _), (_, _), (_, _)]) pf_76_73 (c22j (S := (tup rn R m V U st dr)) mk.2 mk.1) (And.intro rfl (And.intro rfl (And.intro rfl (And.intro rfl (trivial))))) rfl rfl rfl rfl rfl rfl rfl ?_
      refine E_aload pf_76_76 rfl ?_
      refine E_iload pf_76_77 rfl ?_
      refine E_iload pf_76_78 rfl ?_
      refine F_v3v0 pf_76_79 (c100 (by omega) hv.1.2) (And.intro rfl (And.intro rfl (trivial))) rfl rfl ?_
      refine E_istore (lv' := [_, _, _, _, _, _, _]) pf_76_82 rfl rfl ?_
      refine E_aload pf_76_84 rfl ?_
      refine F_getf pf_76_85 rfl rfl rfl ?_
      refine F_getf pf_76_88 rfl rfl rfl ?_
      refine E_iload pf_76_91 rfl ?_
      refine F_iald pf_76_93 rfl (by omega) ?_
      refine E_istore (lv' := [_, _, _, _, _, _, _]) pf_76_94 rfl rfl ?_
      refine E_aload pf_76_96 rfl ?_
      refine F_getf pf_76_97 rfl rfl rfl ?_
      refine F_getf pf_76_100 rfl rfl rfl ?_
      refine E_iload pf_76_103 rfl ?_
      refine E_iload pf_76_105 rfl ?_
      refine F_iast (l' := [(_, _), (_, _), (_, _), (_, _), (_, _), (_, _)]) pf_76_106 rfl (by omega) rfl ?_
      refine E_iload pf_76_107 rfl ?_
      exact E_iret pf_76_109 rfl
  · refine E_in (lv := [_, _, _, _, _]) rfl ?_
    rw [e5]
    by_cases e : j = (dn : Int)
    · have hvv2 : -99 ≤ v ∧ v ≤ 99 := by rw [if_pos e] at hvv; exact hvv
      refine E_aload pf_155_0 rfl ?_
      refine E_aload pf_155_1 rfl ?_
      refine E_iload pf_155_2 rfl ?_
      refine E_iload pf_155_3 rfl ?_
      refine F_v3v0 pf_155_4 (c145t hv.1.2 hv.2.2.2 hi hj) (And.intro rfl (trivial)) rfl rfl ?_
      refine E_if_ne_t pf_155_7 (by omega) ?_
      refine E_iload pf_155_14 rfl ?_
      refine E_aload pf_155_15 rfl ?_
      refine F_getf pf_155_16 rfl rfl rfl ?_
      refine E_icmp_ne_f pf_155_19 (by omega) ?_
      refine E_iload pf_155_22 rfl ?_
      refine E_i2l pf_155_23 (by omega) ?_
      refine E_lconst pf_155_24 ?_
      refine E_lconst pf_155_27 ?_
      refine F_c3v0 pf_155_30 (c109t (by omega) (by omega)) (trivial) rfl ?_
      refine E_if_eq_f pf_155_33 (by omega) ?_
      refine E_goto pf_155_36 ?_
      refine E_iconst pf_155_57 ?_
      refine F_v2v (l' := [(_, _), (_, _), (_, _)]) pf_155_58 (c108_0) (And.intro rfl (trivial)) rfl rfl rfl rfl ?_
      refine E_if_eq_t pf_155_61 (by omega) ?_
      refine E_aload pf_155_66 rfl ?_
      refine F_v1u (l' := [(_, _), (_, _), (_, _)]) pf_155_67 (c150j mk.1) (And.intro rfl (And.intro rfl (And.intro rfl (trivial)))) rfl rfl rfl rfl ?_
      refine E_aload pf_155_70 rfl ?_
      refine F_getf pf_155_71 rfl rfl rfl ?_
      refine E_aload pf_155_74 rfl ?_
      refine E_iload pf_155_75 rfl ?_
      refine E_iload pf_155_76 rfl ?_
      refine F_v3v0 pf_155_77 (c146 (by omega) hv.1.2) (And.intro rfl (trivial)) rfl rfl ?_
      refine F_iald pf_155_80 rfl (by omega) ?_
      refine E_istore (lv' := [_, _, _, _, _]) pf_155_81 rfl rfl ?_
      refine E_aload pf_155_83 rfl ?_
      refine F_getf pf_155_84 rfl rfl rfl ?_
      refine E_aload pf_155_87 rfl ?_
      refine E_iload pf_155_88 rfl ?_
      refine E_iload pf_155_89 rfl ?_
      refine F_v3v0 pf_155_90 (c146 (by omega) hv.1.2) (And.intro rfl (trivial)) rfl rfl ?_
      refine E_iload pf_155_93 rfl ?_
      refine F_iast (l' := [(_, _), (_, _), (_, _)]) pf_155_94 rfl (by omega) rfl ?_
      refine E_iload pf_155_95 rfl ?_
      exact E_iret pf_155_97 rfl
    · have hvv2 : -9 ≤ v ∧ v ≤ 9 := by rw [if_neg e] at hvv; exact hvv
      refine E_aload pf_155_0 rfl ?_
      refine E_aload pf_155_1 rfl ?_
      refine E_iload pf_155_2 rfl ?_
      refine E_iload pf_155_3 rfl ?_
      refine F_v3v0 pf_155_4 (c145t hv.1.2 hv.2.2.2 hi hj) (And.intro rfl (trivial)) rfl rfl ?_
      refine E_if_ne_t pf_155_7 (by omega) ?_
      refine E_iload pf_155_14 rfl ?_
      refine E_aload pf_155_15 rfl ?_
      refine F_getf pf_155_16 rfl rfl rfl ?_
      refine E_icmp_ne_t pf_155_19 (by omega) ?_
      refine E_iload pf_155_39 rfl ?_
      refine E_i2l pf_155_40 (by omega) ?_
      refine E_lconst pf_155_41 ?_
      refine E_lconst pf_155_44 ?_
      refine F_c3v0 pf_155_47 (c109t (by omega) (by omega)) (trivial) rfl ?_
      refine E_if_ne_t pf_155_50 (by omega) ?_
      refine E_iconst pf_155_57 ?_
      refine F_v2v (l' := [(_, _), (_, _), (_, _)]) pf_155_58 (c108_0) (And.intro rfl (trivial)) rfl rfl rfl rfl ?_
      refine E_if_eq_t pf_155_61 (by omega) ?_
      refine E_aload pf_155_66 rfl ?_
      refine F_v1u (l' := [(_, _), (_, _), (_, _)]) pf_155_67 (c150j mk.1) (And.intro rfl (And.intro rfl (And.intro rfl (trivial)))) rfl rfl rfl rfl ?_
      refine E_aload pf_155_70 rfl ?_
      refine F_getf pf_155_71 rfl rfl rfl ?_
      refine E_aload pf_155_74 rfl ?_
      refine E_iload pf_155_75 rfl ?_
      refine E_iload pf_155_76 rfl ?_
      refine F_v3v0 pf_155_77 (c146 (by omega) hv.1.2) (And.intro rfl (trivial)) rfl rfl ?_
      refine F_iald pf_155_80 rfl (by omega) ?_
      refine E_istore (lv' := [_, _, _, _, _]) pf_155_81 rfl rfl ?_
      refine E_aload pf_155_83 rfl ?_
      refine F_getf pf_155_84 rfl rfl rfl ?_
      refine E_aload pf_155_87 rfl ?_
      refine E_iload pf_155_88 rfl ?_
      refine E_iload pf_155_89 rfl ?_
      refine F_v3v0 pf_155_90 (c146 (by omega) hv.1.2) (And.intro rfl (trivial)) rfl rfl ?_
      refine E_iload pf_155_93 rfl ?_
      refine F_iast (l' := [(_, _), (_, _), (_, _)]) pf_155_94 rfl (by omega) rfl ?_
      refine E_iload pf_155_95 rfl ?_
      exact E_iret pf_155_97 rfl
theorem c76x {i j v : Int} (h1 : (-2147483648 ≤ i ∧ i ≤ 2147483647)) (h2 : (-2147483648 ≤ j ∧ j ≤ 2147483647)) (hd : dn ≤ 4) (hr : rn ≤ 4) (h3 : ¬ ((0 ≤ i ∧ i < rn) ∧ (0 ≤ j ∧ j ≤ dn))) : ∀ h, Ca 76 [.ref 1, .int (ii i), .int (ii j), .int (ii v)] (wd [(1, oPD tl), (13, oP (dn : Int) k (vn : Int)), (24, oS24 (rn : Int) (m : Int) st dr)] h) (.inr 2, pd_thr (wd [(1, oPD tl), (13, oP (dn : Int) k (vn : Int)), (24, oS24 (rn : Int) (m : Int) st dr)] h)) := by
  intro h
  refine E_in (lv := [_, _, _, _, _, _, _]) rfl ?_
  by_cases e : 0 ≤ i ∧ i < rn
  ·
    refine E_iload pf_76_0 rfl ?_
    refine E_aload pf_76_1 rfl ?_
    refine F_getf pf_76_2 rfl rfl rfl ?_
    refine F_getf pf_76_5 rfl rfl rfl ?_
    refine F_c2u0 pf_76_8 (c95 (by omega) (by omega)) (trivial) rfl ?_
    refine E_iload pf_76_11 rfl ?_
    refine E_aload pf_76_12 rfl ?_
    refine F_getf pf_76_13 rfl rfl rfl ?_
    refine F_getf pf_76_16 rfl rfl rfl ?_
    refine E_iconst pf_76_19 ?_
    refine E_iadd pf_76_20 ?_
    exact E_c2x pf_76_21 rfl (c95x (by omega) (by omega) (by omega) _) rfl
  ·
    refine E_iload pf_76_0 rfl ?_
    refine E_aload pf_76_1 rfl ?_
    refine F_getf pf_76_2 rfl rfl rfl ?_
    refine F_getf pf_76_5 rfl rfl rfl ?_
    exact E_c2x pf_76_8 rfl (c95x (by omega) (by omega) (by omega) _) rfl
theorem c76y {i j v : Int} (h2 : (-2147483648 ≤ v ∧ v ≤ 2147483647)) (hd : dn ≤ 4) (hr : rn ≤ 4) (hi : 0 ≤ i ∧ i < rn) (hj : 0 ≤ j ∧ j ≤ dn) (h3 : ¬ (-(if j = (dn : Int) then 99 else 9) ≤ v ∧ v ≤ (if j = (dn : Int) then 99 else 9))) : ∀ h, Ca 76 [.ref 1, .int (ii i), .int (ii j), .int (ii v)] (wd [(1, oPD tl), (13, oP (dn : Int) k (vn : Int)), (24, oS24 (rn : Int) (m : Int) st dr)] h) (.inr 0, pd_thr (wd [(1, oPD tl), (13, oP (dn : Int) k (vn : Int)), (24, oS24 (rn : Int) (m : Int) st dr)] h)) := by
  intro h
  refine E_in (lv := [_, _, _, _, _, _, _]) rfl ?_
  by_cases e : j = (dn : Int)
  · rw [if_pos e] at h3
    by_cases e2 : v < -99
    ·
      refine E_iload pf_76_0 rfl ?_
      refine E_aload pf_76_1 rfl ?_
      refine F_getf pf_76_2 rfl rfl rfl ?_
      refine F_getf pf_76_5 rfl rfl rfl ?_
      refine F_c2u0 pf_76_8 (c95 (by omega) (by omega)) (trivial) rfl ?_
      refine E_iload pf_76_11 rfl ?_
      refine E_aload pf_76_12 rfl ?_
      refine F_getf pf_76_13 rfl rfl rfl ?_
      refine F_getf pf_76_16 rfl rfl rfl ?_
      refine E_iconst pf_76_19 ?_
      refine E_iadd pf_76_20 ?_
      refine F_c2u0 pf_76_21 (c95 (by omega) (by omega)) (trivial) rfl ?_
      refine E_iload pf_76_24 rfl ?_
      refine E_aload pf_76_25 rfl ?_
      refine F_getf pf_76_26 rfl rfl rfl ?_
      refine F_getf pf_76_29 rfl rfl rfl ?_
      refine E_icmp_ne_f pf_76_32 (by omega) ?_
      refine E_iconst pf_76_35 ?_
      refine E_goto pf_76_37 ?_
      refine E_istore (lv' := [_, _, _, _, _, _, _]) pf_76_42 rfl rfl ?_
      refine E_iload pf_76_44 rfl ?_
      refine E_iload pf_76_45 rfl ?_
      refine E_ineg pf_76_47 ?_
      refine E_icmp_lt_t pf_76_48 (by omega) ?_
      refine E_iconst pf_76_61 ?_
      exact E_c1x pf_76_62 rfl (c96x _) rfl
    ·
      refine E_iload pf_76_0 rfl ?_
      refine E_aload pf_76_1 rfl ?_
      refine F_getf pf_76_2 rfl rfl rfl ?_
      refine F_getf pf_76_5 rfl rfl rfl ?_
      refine F_c2u0 pf_76_8 (c95 (by omega) (by omega)) (trivial) rfl ?_
      refine E_iload pf_76_11 rfl ?_
      refine E_aload pf_76_12 rfl ?_
      refine F_getf pf_76_13 rfl rfl rfl ?_
      refine F_getf pf_76_16 rfl rfl rfl ?_
      refine E_iconst pf_76_19 ?_
      refine E_iadd pf_76_20 ?_
      refine F_c2u0 pf_76_21 (c95 (by omega) (by omega)) (trivial) rfl ?_
      refine E_iload pf_76_24 rfl ?_
      refine E_aload pf_76_25 rfl ?_
      refine F_getf pf_76_26 rfl rfl rfl ?_
      refine F_getf pf_76_29 rfl rfl rfl ?_
      refine E_icmp_ne_f pf_76_32 (by omega) ?_
      refine E_iconst pf_76_35 ?_
      refine E_goto pf_76_37 ?_
      refine E_istore (lv' := [_, _, _, _, _, _, _]) pf_76_42 rfl rfl ?_
      refine E_iload pf_76_44 rfl ?_
      refine E_iload pf_76_45 rfl ?_
      refine E_ineg pf_76_47 ?_
      refine E_icmp_lt_f pf_76_48 (by omega) ?_
      refine E_iload pf_76_51 rfl ?_
      refine E_iload pf_76_52 rfl ?_
      refine E_icmp_gt_t pf_76_54 (by omega) ?_
      refine E_iconst pf_76_61 ?_
      exact E_c1x pf_76_62 rfl (c96x _) rfl
  · rw [if_neg e] at h3
    by_cases e2 : v < -9
    ·
      refine E_iload pf_76_0 rfl ?_
      refine E_aload pf_76_1 rfl ?_
      refine F_getf pf_76_2 rfl rfl rfl ?_
      refine F_getf pf_76_5 rfl rfl rfl ?_
      refine F_c2u0 pf_76_8 (c95 (by omega) (by omega)) (trivial) rfl ?_
      refine E_iload pf_76_11 rfl ?_
      refine E_aload pf_76_12 rfl ?_
      refine F_getf pf_76_13 rfl rfl rfl ?_
      refine F_getf pf_76_16 rfl rfl rfl ?_
      refine E_iconst pf_76_19 ?_
      refine E_iadd pf_76_20 ?_
      refine F_c2u0 pf_76_21 (c95 (by omega) (by omega)) (trivial) rfl ?_
      refine E_iload pf_76_24 rfl ?_
      refine E_aload pf_76_25 rfl ?_
      refine F_getf pf_76_26 rfl rfl rfl ?_
      refine F_getf pf_76_29 rfl rfl rfl ?_
      refine E_icmp_ne_t pf_76_32 (by omega) ?_
      refine E_iconst pf_76_40 ?_
      refine E_istore (lv' := [_, _, _, _, _, _, _]) pf_76_42 rfl rfl ?_
      refine E_iload pf_76_44 rfl ?_
      refine E_iload pf_76_45 rfl ?_
      refine E_ineg pf_76_47 ?_
      refine E_icmp_lt_t pf_76_48 (by omega) ?_
      refine E_iconst pf_76_61 ?_
      exact E_c1x pf_76_62 rfl (c96x _) rfl
    ·
      refine E_iload pf_76_0 rfl ?_
      refine E_aload pf_76_1 rfl ?_
      refine F_getf pf_76_2 rfl rfl rfl ?_
      refine F_getf pf_76_5 rfl rfl rfl ?_
      refine F_c2u0 pf_76_8 (c95 (by omega) (by omega)) (trivial) rfl ?_
      refine E_iload pf_76_11 rfl ?_
      refine E_aload pf_76_12 rfl ?_
      refine F_getf pf_76_13 rfl rfl rfl ?_
      refine F_getf pf_76_16 rfl rfl rfl ?_
      refine E_iconst pf_76_19 ?_
      refine E_iadd pf_76_20 ?_
      refine F_c2u0 pf_76_21 (c95 (by omega) (by omega)) (trivial) rfl ?_
      refine E_iload pf_76_24 rfl ?_
      refine E_aload pf_76_25 rfl ?_
      refine F_getf pf_76_26 rfl rfl rfl ?_
      refine F_getf pf_76_29 rfl rfl rfl ?_
      refine E_icmp_ne_t pf_76_32 (by omega) ?_
      refine E_iconst pf_76_40 ?_
      refine E_istore (lv' := [_, _, _, _, _, _, _]) pf_76_42 rfl rfl ?_
      refine E_iload pf_76_44 rfl ?_
      refine E_iload pf_76_45 rfl ?_
      refine E_ineg pf_76_47 ?_
      refine E_icmp_lt_f pf_76_48 (by omega) ?_
      refine E_iload pf_76_51 rfl ?_
      refine E_iload pf_76_52 rfl ?_
      refine E_icmp_gt_t pf_76_54 (by omega) ?_
      refine E_iconst pf_76_61 ?_
      exact E_c1x pf_76_62 rfl (c96x _) rfl
theorem c155x {i j v : Int} (h1 : (-2147483648 ≤ i ∧ i ≤ 2147483647)) (h2 : (-2147483648 ≤ j ∧ j ≤ 2147483647)) (hd : dn ≤ 4) (hr : rn ≤ 4) (h3 : ¬ ((0 ≤ i ∧ i < rn) ∧ (0 ≤ j ∧ j ≤ dn))) : ∀ h, Ca 155 [.ref 102, .int (ii i), .int (ii j), .int (ii v)] (wd [(102, oX6 rf ts sp (dn : Int) kd (vn : Int) (rn : Int) rd rk rv rr (c : Int))] h) (.inl (some (.int (ii 0))), wd [(102, oX6 1 ts sp (dn : Int) kd (vn : Int) (rn : Int) rd rk rv rr (c : Int))] h) := by
  intro h
  refine E_in (lv := [_, _, _, _, _]) rfl ?_
  refine E_aload pf_155_0 rfl ?_
  refine E_aload pf_155_1 rfl ?_
  refine E_iload pf_155_2 rfl ?_
  refine E_iload pf_155_3 rfl ?_
  refine F_v3v0 pf_155_4 (c145f h1 h2 hd hr h3) (And.intro rfl (trivial)) rfl rfl ?_
  refine E_if_ne_f pf_155_7 (by omega) ?_
  refine E_iconst pf_155_10 ?_
  refine E_goto pf_155_11 ?_
  refine F_v2v (l' := [(_, _)]) pf_155_58 (c108_1) (And.intro rfl (trivial)) rfl rfl rfl rfl ?_
  refine E_if_eq_f pf_155_61 (by omega) ?_
  refine E_iconst pf_155_64 ?_
  exact E_iret pf_155_65 rfl
theorem c155y {i j v : Int} (h2 : (-2147483648 ≤ v ∧ v ≤ 2147483647)) (hd : dn ≤ 4) (hr : rn ≤ 4) (hi : 0 ≤ i ∧ i < rn) (hj : 0 ≤ j ∧ j ≤ dn) (h3 : ¬ (-(if j = (dn : Int) then 99 else 9) ≤ v ∧ v ≤ (if j = (dn : Int) then 99 else 9))) : ∀ h, Ca 155 [.ref 102, .int (ii i), .int (ii j), .int (ii v)] (wd [(102, oX6 rf ts sp (dn : Int) kd (vn : Int) (rn : Int) rd rk rv rr (c : Int))] h) (.inl (some (.int (ii 0))), wd [(102, oX6 2 ts sp (dn : Int) kd (vn : Int) (rn : Int) rd rk rv rr (c : Int))] h) := by
  intro h
  refine E_in (lv := [_, _, _, _, _]) rfl ?_
  by_cases e : j = (dn : Int)
  · rw [if_pos e] at h3
    refine E_aload pf_155_0 rfl ?_
    refine E_aload pf_155_1 rfl ?_
    refine E_iload pf_155_2 rfl ?_
    refine E_iload pf_155_3 rfl ?_
    refine F_v3v0 pf_155_4 (c145t hd hr hi hj) (And.intro rfl (trivial)) rfl rfl ?_
    refine E_if_ne_t pf_155_7 (by omega) ?_
    refine E_iload pf_155_14 rfl ?_
    refine E_aload pf_155_15 rfl ?_
    refine F_getf pf_155_16 rfl rfl rfl ?_
    refine E_icmp_ne_f pf_155_19 (by omega) ?_
    refine E_iload pf_155_22 rfl ?_
    refine E_i2l pf_155_23 (by omega) ?_
    refine E_lconst pf_155_24 ?_
    refine E_lconst pf_155_27 ?_
    refine F_c3v0 pf_155_30 (c109f (by omega) (by omega)) (trivial) rfl ?_
    refine E_if_eq_t pf_155_33 (by omega) ?_
    refine E_iconst pf_155_53 ?_
    refine E_goto pf_155_54 ?_
    refine F_v2v (l' := [(_, _)]) pf_155_58 (c108_2) (And.intro rfl (trivial)) rfl rfl rfl rfl ?_
    refine E_if_eq_f pf_155_61 (by omega) ?_
    refine E_iconst pf_155_64 ?_
    exact E_iret pf_155_65 rfl
  · rw [if_neg e] at h3
    refine E_aload pf_155_0 rfl ?_
    refine E_aload pf_155_1 rfl ?_
    refine E_iload pf_155_2 rfl ?_
    refine E_iload pf_155_3 rfl ?_
    refine F_v3v0 pf_155_4 (c145t hd hr hi hj) (And.intro rfl (trivial)) rfl rfl ?_
    refine E_if_ne_t pf_155_7 (by omega) ?_
    refine E_iload pf_155_14 rfl ?_
    refine E_aload pf_155_15 rfl ?_
    refine F_getf pf_155_16 rfl rfl rfl ?_
    refine E_icmp_ne_t pf_155_19 (by omega) ?_
    refine E_iload pf_155_39 rfl ?_
    refine E_i2l pf_155_40 (by omega) ?_
    refine E_lconst pf_155_41 ?_
    refine E_lconst pf_155_44 ?_
    refine F_c3v0 pf_155_47 (c109f (by omega) (by omega)) (trivial) rfl ?_
    refine E_if_ne_f pf_155_50 (by omega) ?_
    refine E_iconst pf_155_53 ?_
    refine E_goto pf_155_54 ?_
    refine F_v2v (l' := [(_, _)]) pf_155_58 (c108_2) (And.intro rfl (trivial)) rfl rfl rfl rfl ?_
    refine E_if_eq_f pf_155_61 (by omega) ?_
    refine E_iconst pf_155_64 ?_
    exact E_iret pf_155_65 rfl
theorem c77 (hc : 1 ≤ c ∧ c ≤ 14) (hk : nx < 14) : ∀ h, Ca 77 [.ref 1] (wd ([(1, oPD tl), (24, pst 24 S), (25, ar 20 S.2.1), (26, ar 24 S.2.2.2.1), (27, ar 24 S.2.2.2.2.1)]) (wd (LMm (c : Int) (nx : Int) M) h)) (.inl (some (.int (ii ((c - 1 : Nat) : Int)))), wd ([(1, oPD tl), (24, pst 24 (pcp S (M (bt nx)))), (25, ar 20 (pcp S (M (bt nx))).2.1), (26, ar 24 (pcp S (M (bt nx))).2.2.2.1), (27, ar 24 (pcp S (M (bt nx))).2.2.2.2.1)]) (wd (LMm ((c - 1 : Nat) : Int) ((bt nx : Nat) : Int) M) h)) := by
  intro h
  refine E_in (lv := [_]) rfl ?_
  refine E_aload pf_77_0 rfl ?_
  refine F_getf pf_77_1 rfl rfl rfl ?_
  refine F_getm pf_77_4 rfl rfl rfl ?_
  refine E_iconst pf_77_7 ?_
  refine E_icmp_ge_t pf_77_8 (by omega) ?_
  refine E_aload pf_77_21 rfl ?_
  refine F_getf pf_77_22 rfl rfl rfl ?_
  refine E_aload pf_77_25 rfl ?_
  refine F_getf pf_77_26 rfl rfl rfl ?_
  refine F_mem2 (l' := [(_, _), (_, _), (_, _), (_, _), (_, _)]) pf_77_29 (c23j hk hc) (And.intro rfl (And.intro rfl (And.intro rfl (And.intro rfl (trivial))))) rfl rfl rfl rfl rfl rfl rfl ?_
  refine E_aload pf_77_32 rfl ?_
  refine F_getf pf_77_33 rfl rfl rfl ?_
  refine F_getm pf_77_36 rfl rfl rfl ?_
  exact E_iret pf_77_39 rfl
theorem c77x {nx : Int} : ∀ h, Ca 77 [.ref 1] (wd [(1, oPD tl), (32, oM 0 nx)] h) (.inr 1, pd_thr (wd [(1, oPD tl), (32, oM 0 nx)] h)) := by
  intro h
  refine E_in (lv := [_]) rfl ?_
  refine E_aload pf_77_0 rfl ?_
  refine F_getf pf_77_1 rfl rfl rfl ?_
  refine F_getf pf_77_4 rfl rfl rfl ?_
  refine E_iconst pf_77_7 ?_
  refine E_icmp_ge_f pf_77_8 (by omega) ?_
  exact E_throw pf_77_11 rfl rfl rfl rfl
theorem c156 (hc : 1 ≤ c ∧ c ≤ 14) : ∀ h, Ca 156 [.ref 102] (wd [(102, oX6 rf ts sp (dn : Int) kd (vn : Int) (rn : Int) rd rk rv rr (c : Int)), (107, ar 72 r), (109, ar 1008 D)] h) (.inl (some (.int (ii ((c - 1 : Nat) : Int)))), wd [(102, oX6 0 ts sp (dn : Int) kd (vn : Int) (rn : Int) rd rk rv rr ((c - 1 : Nat) : Int)), (107, ar 72 (zcpy D r (72 * ((c - 1 : Nat) : Int)) 0 72)), (109, ar 1008 D)] h) := by
  intro h
  rw [show ((c - 1 : Nat) : Int) = (c : Int) - 1 by omega]
  refine E_in (lv := [_]) rfl ?_
  refine E_aload pf_156_0 rfl ?_
  refine E_aload pf_156_1 rfl ?_
  refine F_getf pf_156_2 rfl rfl rfl ?_
  refine E_if_ne_t pf_156_5 (by omega) ?_
  refine E_iconst pf_156_12 ?_
  refine F_v2v (l' := [(_, _), (_, _), (_, _)]) pf_156_13 (c108_0) (And.intro rfl (trivial)) rfl rfl rfl rfl ?_
  refine E_if_eq_t pf_156_16 (by omega) ?_
  refine E_aload pf_156_21 rfl ?_
  refine E_dup pf_156_22 rfl ?_
  refine F_getf pf_156_23 rfl rfl rfl ?_
  refine E_iconst pf_156_26 ?_
  refine E_isub pf_156_27 ?_
  refine F_putf (l' := [(_, _), (_, _), (_, _)]) (x := ob _ [_, _, _, _, _, _, _, _, _, _, _, _, _, _, _, _, _, _, _, _, _, _, _, _, _]) pf_156_28 rfl rfl rfl rfl rfl ?_
  refine E_aload pf_156_31 rfl ?_
  refine F_getf pf_156_32 rfl rfl rfl ?_
  refine E_iconst pf_156_35 ?_
  refine E_aload pf_156_37 rfl ?_
  refine F_getf pf_156_38 rfl rfl rfl ?_
  refine E_imul pf_156_41 ?_
  refine E_aload pf_156_42 rfl ?_
  refine F_getf pf_156_43 rfl rfl rfl ?_
  refine E_iconst pf_156_46 ?_
  refine F_c4u (l' := [(_, _), (_, _), (_, _)]) pf_156_47 (c110dn (by omega) (by omega)) (And.intro rfl (And.intro rfl (trivial))) rfl rfl rfl ?_
  refine E_aload pf_156_50 rfl ?_
  refine F_getf pf_156_51 rfl rfl rfl ?_
  exact E_iret pf_156_54 rfl
theorem c156x  : ∀ h, Ca 156 [.ref 102] (wd [(102, oX6 rf ts sp (dn : Int) kd (vn : Int) (rn : Int) rd rk rv rr 0)] h) (.inl (some (.int (ii 0))), wd [(102, oX6 1 ts sp (dn : Int) kd (vn : Int) (rn : Int) rd rk rv rr 0)] h) := by
  intro h
  refine E_in (lv := [_]) rfl ?_
  refine E_aload pf_156_0 rfl ?_
  refine E_aload pf_156_1 rfl ?_
  refine F_getf pf_156_2 rfl rfl rfl ?_
  refine E_if_ne_f pf_156_5 (by omega) ?_
  refine E_iconst pf_156_8 ?_
  refine E_goto pf_156_9 ?_
  refine F_v2v (l' := [(_, _)]) pf_156_13 (c108_1) (And.intro rfl (trivial)) rfl rfl rfl rfl ?_
  refine E_if_eq_f pf_156_16 (by omega) ?_
  refine E_iconst pf_156_19 ?_
  exact E_iret pf_156_20 rfl
end ACT
