/-! save, restore, errorPosition, load, both sides. -/
abbrev rq91 : Int → Nat := fun i => 91 + 4 * i.toNat
abbrev sl90 : pd_E := rr 2 rq91
section LOD
variable {T C P R V U r K sv D q c7 g8 sz G C6 P5 R10 V11 U12 : Int → Int} {rf ts tl sp d kd vs rw rd rk rv rr k st dr l3 p3 d5 k5 n5 rc m9 s9 r9 : Int} {m dn rn vn c nx : Nat} {S : pg} {M W : Nat → pg}
theorem c24m : ∀ h, Ca 24 [.ref 32] (wd [] (wd (LMm (c : Int) (nx : Int) M) h)) (.inl none, wd [] (wd (LMm ((0 : Nat) : Int) ((0 : Nat) : Int) M) h)) := by
  intro h
  exact c24 (c := (c : Int)) (nx := (nx : Int)) (wd (LMm (c : Int) (nx : Int) M).tail h)
theorem c93_0 : ∀ h, Ca 93 [.ref 1, .int (ii 0)] (wd [(1, oPD tl), (24, oS24 (rn : Int) (m : Int) st dr), (25, ar 20 R), (26, ar 24 V), (27, ar 24 U), (90, sl90), (91, pst 91 (W 0)), (92, ar 20 (W 0).2.1), (93, ar 24 (W 0).2.2.2.1), (94, ar 24 (W 0).2.2.2.2.1), (95, pst 95 (W 1)), (96, ar 20 (W 1).2.1), (97, ar 24 (W 1).2.2.2.1), (98, ar 24 (W 1).2.2.2.2.1), (99, br 2 sv)] h) (.inl (some (.int (ii (m : Int)))), wd [(1, oPD tl), (24, oS24 (rn : Int) (m : Int) st dr), (25, ar 20 R), (26, ar 24 V), (27, ar 24 U), (90, sl90), (91, pst 91 ((mup W 0 (pcp (W 0) (tup rn R m V U st dr))) 0)), (92, ar 20 ((mup W 0 (pcp (W 0) (tup rn R m V U st dr))) 0).2.1), (93, ar 24 ((mup W 0 (pcp (W 0) (tup rn R m V U st dr))) 0).2.2.2.1), (94, ar 24 ((mup W 0 (pcp (W 0) (tup rn R m V U st dr))) 0).2.2.2.2.1), (95, pst 95 ((mup W 0 (pcp (W 0) (tup rn R m V U st dr))) 1)), (96, ar 20 ((mup W 0 (pcp (W 0) (tup rn R m V U st dr))) 1).2.1), (97, ar 24 ((mup W 0 (pcp (W 0) (tup rn R m V U st dr))) 1).2.2.2.1), (98, ar 24 ((mup W 0 (pcp (W 0) (tup rn R m V U st dr))) 1).2.2.2.2.1), (99, br 2 (zu sv 0 1))] h) := by
  intro h
  refine E_in (lv := [_, _]) rfl ?_
  refine E_iload pf_93_0 rfl ?_
  refine E_iconst pf_93_1 ?_
  refine F_c2u0 pf_93_2 (c95 (by omega) (by omega)) (trivial) rfl ?_
  refine E_aload pf_93_5 rfl ?_
  refine F_getf pf_93_6 rfl rfl rfl ?_
  refine E_iload pf_93_9 rfl ?_
  refine F_aald pf_93_10 rfl (by omega) ?_
  refine E_aload pf_93_11 rfl ?_
  refine F_getf pf_93_12 rfl rfl rfl ?_
  refine F_v2u (l' := [(_, _), (_, _), (_, _), (_, _), (_, _), (_, _), (_, _), (_, _), (_, _), (_, _), (_, _), (_, _), (_, _), (_, _), (_, _)]) pf_93_15 (c52_91_24 (p := (tup rn R m V U st dr)) (p0 := W 0)) (And.intro rfl (And.intro rfl (And.intro rfl (And.intro rfl (And.intro rfl (And.intro rfl (And.intro rfl (And.intro rfl (trivial))))))))) rfl rfl rfl rfl ?_
  refine E_aload pf_93_18 rfl ?_
  refine F_getf pf_93_19 rfl rfl rfl ?_
  refine E_iload pf_93_22 rfl ?_
  refine E_iconst pf_93_23 ?_
  refine F_bast (l' := [(_, _), (_, _), (_, _), (_, _), (_, _), (_, _), (_, _), (_, _), (_, _), (_, _), (_, _), (_, _), (_, _), (_, _), (_, _)]) pf_93_24 rfl (by omega) (by omega) rfl ?_
  refine E_aload pf_93_25 rfl ?_
  refine F_getf pf_93_26 rfl rfl rfl ?_
  refine F_getf pf_93_29 rfl rfl rfl ?_
  exact E_iret pf_93_32 rfl
theorem c176_0 (h68 : r 68 = m) : ∀ h, Ca 176 [.ref 102, .int (ii 0)] (wd [(102, oX6 rf ts sp (dn : Int) kd (vn : Int) (rn : Int) rd rk rv rr (c : Int)), (107, ar 72 r), (110, ar 144 K), (111, br 2 sv)] h) (.inl (some (.int (ii (m : Int)))), wd [(102, oX6 0 ts sp (dn : Int) kd (vn : Int) (rn : Int) rd rk rv rr (c : Int)), (107, ar 72 r), (110, ar 144 (zcpy r K 0 (72 * 0) 72)), (111, br 2 (zu sv 0 1))] h) := by
  intro h
  refine E_in (lv := [_, _]) rfl ?_
  refine E_aload pf_176_0 rfl ?_
  refine E_iload pf_176_1 rfl ?_
  refine E_i2l pf_176_2 (by omega) ?_
  refine E_lconst pf_176_3 ?_
  refine E_lconst pf_176_4 ?_
  refine F_c3v0 pf_176_5 (c109t (by omega) (by omega)) (trivial) rfl ?_
  refine E_if_eq_f pf_176_8 (by omega) ?_
  refine E_iconst pf_176_11 ?_
  refine E_goto pf_176_12 ?_
  refine F_v2v (l' := [(_, _), (_, _), (_, _), (_, _)]) pf_176_16 (c108_0) (And.intro rfl (trivial)) rfl rfl rfl rfl ?_
  refine E_if_eq_t pf_176_19 (by omega) ?_
  refine E_aload pf_176_24 rfl ?_
  refine F_getf pf_176_25 rfl rfl rfl ?_
  refine E_iload pf_176_28 rfl ?_
  refine E_iconst pf_176_29 ?_
  refine F_bast (l' := [(_, _), (_, _), (_, _), (_, _)]) pf_176_30 rfl (by omega) (by omega) rfl ?_
  refine E_aload pf_176_31 rfl ?_
  refine F_getf pf_176_32 rfl rfl rfl ?_
  refine E_iconst pf_176_35 ?_
  refine E_aload pf_176_36 rfl ?_
  refine F_getf pf_176_37 rfl rfl rfl ?_
  refine E_iconst pf_176_40 ?_
  refine E_iload pf_176_42 rfl ?_
  refine E_imul pf_176_43 ?_
  refine F_c4u (l' := [(_, _), (_, _), (_, _), (_, _)]) pf_176_44 (c110nk (by omega) (by omega)) (And.intro rfl (And.intro rfl (trivial))) rfl rfl rfl ?_
  refine E_aload pf_176_47 rfl ?_
  refine F_getf pf_176_48 rfl rfl rfl ?_
  refine E_iconst pf_176_51 ?_
  refine F_iald pf_176_53 rfl (by omega) ?_
  rw [h68]
  exact E_iret pf_176_54 rfl
theorem c93_1 : ∀ h, Ca 93 [.ref 1, .int (ii 1)] (wd [(1, oPD tl), (24, oS24 (rn : Int) (m : Int) st dr), (25, ar 20 R), (26, ar 24 V), (27, ar 24 U), (90, sl90), (91, pst 91 (W 0)), (92, ar 20 (W 0).2.1), (93, ar 24 (W 0).2.2.2.1), (94, ar 24 (W 0).2.2.2.2.1), (95, pst 95 (W 1)), (96, ar 20 (W 1).2.1), (97, ar 24 (W 1).2.2.2.1), (98, ar 24 (W 1).2.2.2.2.1), (99, br 2 sv)] h) (.inl (some (.int (ii (m : Int)))), wd [(1, oPD tl), (24, oS24 (rn : Int) (m : Int) st dr), (25, ar 20 R), (26, ar 24 V), (27, ar 24 U), (90, sl90), (91, pst 91 ((mup W 1 (pcp (W 1) (tup rn R m V U st dr))) 0)), (92, ar 20 ((mup W 1 (pcp (W 1) (tup rn R m V U st dr))) 0).2.1), (93, ar 24 ((mup W 1 (pcp (W 1) (tup rn R m V U st dr))) 0).2.2.2.1), (94, ar 24 ((mup W 1 (pcp (W 1) (tup rn R m V U st dr))) 0).2.2.2.2.1), (95, pst 95 ((mup W 1 (pcp (W 1) (tup rn R m V U st dr))) 1)), (96, ar 20 ((mup W 1 (pcp (W 1) (tup rn R m V U st dr))) 1).2.1), (97, ar 24 ((mup W 1 (pcp (W 1) (tup rn R m V U st dr))) 1).2.2.2.1), (98, ar 24 ((mup W 1 (pcp (W 1) (tup rn R m V U st dr))) 1).2.2.2.2.1), (99, br 2 (zu sv 1 1))] h) := by
  intro h
  refine E_in (lv := [_, _]) rfl ?_
  refine E_iload pf_93_0 rfl ?_
  refine E_iconst pf_93_1 ?_
  refine F_c2u0 pf_93_2 (c95 (by omega) (by omega)) (trivial) rfl ?_
  refine E_aload pf_93_5 rfl ?_
  refine F_getf pf_93_6 rfl rfl rfl ?_
  refine E_iload pf_93_9 rfl ?_
  refine F_aald pf_93_10 rfl (by omega) ?_
  refine E_aload pf_93_11 rfl ?_
  refine F_getf pf_93_12 rfl rfl rfl ?_
  refine F_v2u (l' := [(_, _), (_, _), (_, _), (_, _), (_, _), (_, _), (_, _), (_, _), (_, _), (_, _), (_, _), (_, _), (_, _), (_, _), (_, _)]) pf_93_15 (c52_95_24 (p := (tup rn R m V U st dr)) (p0 := W 1)) (And.intro rfl (And.intro rfl (And.intro rfl (And.intro rfl (And.intro rfl (And.intro rfl (And.intro rfl (And.intro rfl (trivial))))))))) rfl rfl rfl rfl ?_
  refine E_aload pf_93_18 rfl ?_
  refine F_getf pf_93_19 rfl rfl rfl ?_
  refine E_iload pf_93_22 rfl ?_
  refine E_iconst pf_93_23 ?_
  refine F_bast (l' := [(_, _), (_, _), (_, _), (_, _), (_, _), (_, _), (_, _), (_, _), (_, _), (_, _), (_, _), (_, _), (_, _), (_, _), (_, _)]) pf_93_24 rfl (by omega) (by omega) rfl ?_
  refine E_aload pf_93_25 rfl ?_
  refine F_getf pf_93_26 rfl rfl rfl ?_
  refine F_getf pf_93_29 rfl rfl rfl ?_
  exact E_iret pf_93_32 rfl
theorem c176_1 (h68 : r 68 = m) : ∀ h, Ca 176 [.ref 102, .int (ii 1)] (wd [(102, oX6 rf ts sp (dn : Int) kd (vn : Int) (rn : Int) rd rk rv rr (c : Int)), (107, ar 72 r), (110, ar 144 K), (111, br 2 sv)] h) (.inl (some (.int (ii (m : Int)))), wd [(102, oX6 0 ts sp (dn : Int) kd (vn : Int) (rn : Int) rd rk rv rr (c : Int)), (107, ar 72 r), (110, ar 144 (zcpy r K 0 (72 * 1) 72)), (111, br 2 (zu sv 1 1))] h) := by
  intro h
  refine E_in (lv := [_, _]) rfl ?_
  refine E_aload pf_176_0 rfl ?_
  refine E_iload pf_176_1 rfl ?_
  refine E_i2l pf_176_2 (by omega) ?_
  refine E_lconst pf_176_3 ?_
  refine E_lconst pf_176_4 ?_
  refine F_c3v0 pf_176_5 (c109t (by omega) (by omega)) (trivial) rfl ?_
  refine E_if_eq_f pf_176_8 (by omega) ?_
  refine E_iconst pf_176_11 ?_
  refine E_goto pf_176_12 ?_
  refine F_v2v (l' := [(_, _), (_, _), (_, _), (_, _)]) pf_176_16 (c108_0) (And.intro rfl (trivial)) rfl rfl rfl rfl ?_
  refine E_if_eq_t pf_176_19 (by omega) ?_
  refine E_aload pf_176_24 rfl ?_
  refine F_getf pf_176_25 rfl rfl rfl ?_
  refine E_iload pf_176_28 rfl ?_
  refine E_iconst pf_176_29 ?_
  refine F_bast (l' := [(_, _), (_, _), (_, _), (_, _)]) pf_176_30 rfl (by omega) (by omega) rfl ?_
  refine E_aload pf_176_31 rfl ?_
  refine F_getf pf_176_32 rfl rfl rfl ?_
  refine E_iconst pf_176_35 ?_
  refine E_aload pf_176_36 rfl ?_
  refine F_getf pf_176_37 rfl rfl rfl ?_
  refine E_iconst pf_176_40 ?_
  refine E_iload pf_176_42 rfl ?_
  refine E_imul pf_176_43 ?_
  refine F_c4u (l' := [(_, _), (_, _), (_, _), (_, _)]) pf_176_44 (c110nk (by omega) (by omega)) (And.intro rfl (And.intro rfl (trivial))) rfl rfl rfl ?_
  refine E_aload pf_176_47 rfl ?_
  refine F_getf pf_176_48 rfl rfl rfl ?_
  refine E_iconst pf_176_51 ?_
  refine F_iald pf_176_53 rfl (by omega) ?_
  rw [h68]
  exact E_iret pf_176_54 rfl
theorem c93x {s : Int} (h1 : (-2147483648 ≤ s ∧ s ≤ 2147483647)) (h2 : ¬ (0 ≤ s ∧ s < 2)) : ∀ h, Ca 93 [.ref 1, .int (ii s)] (wd [(1, oPD tl)] h) (.inr 2, pd_thr (wd [(1, oPD tl)] h)) := by
  intro h
  refine E_in (lv := [_, _]) rfl ?_
  refine E_iload pf_93_0 rfl ?_
  refine E_iconst pf_93_1 ?_
  exact E_c2x pf_93_2 rfl (c95x (by omega) (by omega) (by omega) _) rfl
theorem c176x {s : Int} (h1 : (-2147483648 ≤ s ∧ s ≤ 2147483647)) (h2 : ¬ (0 ≤ s ∧ s < 2)) : ∀ h, Ca 176 [.ref 102, .int (ii s)] (wd [(102, oX6 rf ts sp (dn : Int) kd (vn : Int) (rn : Int) rd rk rv rr (c : Int))] h) (.inl (some (.int (ii 0))), wd [(102, oX6 1 ts sp (dn : Int) kd (vn : Int) (rn : Int) rd rk rv rr (c : Int))] h) := by
  intro h
  refine E_in (lv := [_, _]) rfl ?_
  refine E_aload pf_176_0 rfl ?_
  refine E_iload pf_176_1 rfl ?_
  refine E_i2l pf_176_2 (by omega) ?_
  refine E_lconst pf_176_3 ?_
  refine E_lconst pf_176_4 ?_
  refine F_c3v0 pf_176_5 (c109f (by omega) (by omega)) (trivial) rfl ?_
  refine E_if_eq_t pf_176_8 (by omega) ?_
  refine E_iconst pf_176_15 ?_
  refine F_v2v (l' := [(_, _)]) pf_176_16 (c108_1) (And.intro rfl (trivial)) rfl rfl rfl rfl ?_
  refine E_if_eq_f pf_176_19 (by omega) ?_
  refine E_iconst pf_176_22 ?_
  exact E_iret pf_176_23 rfl
theorem c94_0 (hs : sv 0 = 1) : ∀ h, Ca 94 [.ref 1, .int (ii 0)] (wd [(1, oPD tl), (24, pst 24 S), (25, ar 20 S.2.1), (26, ar 24 S.2.2.2.1), (27, ar 24 S.2.2.2.2.1), (90, sl90), (91, pst 91 (W 0)), (92, ar 20 (W 0).2.1), (93, ar 24 (W 0).2.2.2.1), (94, ar 24 (W 0).2.2.2.2.1), (95, pst 95 (W 1)), (96, ar 20 (W 1).2.1), (97, ar 24 (W 1).2.2.2.1), (98, ar 24 (W 1).2.2.2.2.1), (99, br 2 sv)] (wd (LMm (c : Int) (nx : Int) M) h)) (.inl (some (.int (ii (W 0).2.2.1))), wd [(1, oPD tl), (24, pst 24 (pcp S (W 0))), (25, ar 20 (pcp S (W 0)).2.1), (26, ar 24 (pcp S (W 0)).2.2.2.1), (27, ar 24 (pcp S (W 0)).2.2.2.2.1), (90, sl90), (91, pst 91 (W 0)), (92, ar 20 (W 0).2.1), (93, ar 24 (W 0).2.2.2.1), (94, ar 24 (W 0).2.2.2.2.1), (95, pst 95 (W 1)), (96, ar 20 (W 1).2.1), (97, ar 24 (W 1).2.2.2.1), (98, ar 24 (W 1).2.2.2.2.1), (99, br 2 sv)] (wd (LMm ((0 : Nat) : Int) ((0 : Nat) : Int) M) h)) := by
  intro h
  refine E_in (lv := [_, _]) rfl ?_
  refine E_iload pf_94_0 rfl ?_
  refine E_iconst pf_94_1 ?_
  refine F_c2u0 pf_94_2 (c95 (by omega) (by omega)) (trivial) rfl ?_
  refine E_aload pf_94_5 rfl ?_
  refine F_getf pf_94_6 rfl rfl rfl ?_
  refine E_iload pf_94_9 rfl ?_
  refine F_bald pf_94_10 rfl (by omega) ?_
  refine E_if_ne_t pf_94_11 (by omega) ?_
  refine E_aload pf_94_25 rfl ?_
  refine F_getf pf_94_26 rfl rfl rfl ?_
  refine E_aload pf_94_29 rfl ?_
  refine F_getf pf_94_30 rfl rfl rfl ?_
  refine E_iload pf_94_33 rfl ?_
  refine F_aald pf_94_34 rfl (by omega) ?_
  refine F_v2u (l' := [(_, _), (_, _), (_, _), (_, _), (_, _), (_, _), (_, _), (_, _), (_, _), (_, _), (_, _), (_, _), (_, _), (_, _), (_, _)]) pf_94_35 (c52_24_91 (p := W 0) (p0 := S)) (And.intro rfl (And.intro rfl (And.intro rfl (And.intro rfl (And.intro rfl (And.intro rfl (And.intro rfl (And.intro rfl (trivial))))))))) rfl rfl rfl rfl ?_
  refine E_aload pf_94_38 rfl ?_
  refine F_getf pf_94_39 rfl rfl rfl ?_
  refine F_mem1 (l' := [(_, _), (_, _), (_, _), (_, _), (_, _), (_, _), (_, _), (_, _), (_, _), (_, _), (_, _), (_, _), (_, _), (_, _), (_, _)]) pf_94_42 (c24m) (trivial) rfl rfl rfl rfl rfl rfl rfl ?_
  refine E_aload pf_94_45 rfl ?_
  refine F_getf pf_94_46 rfl rfl rfl ?_
  refine F_getf pf_94_49 rfl rfl rfl ?_
  exact E_iret pf_94_52 rfl
theorem c94y_0 (hs : sv 0 = 0) : ∀ h, Ca 94 [.ref 1, .int (ii 0)] (wd [(1, oPD tl), (99, br 2 sv)] h) (.inr 1, pd_thr (wd [(1, oPD tl), (99, br 2 sv)] h)) := by
  intro h
  refine E_in (lv := [_, _]) rfl ?_
  refine E_iload pf_94_0 rfl ?_
  refine E_iconst pf_94_1 ?_
  refine F_c2u0 pf_94_2 (c95 (by omega) (by omega)) (trivial) rfl ?_
  refine E_aload pf_94_5 rfl ?_
  refine F_getf pf_94_6 rfl rfl rfl ?_
  refine E_iload pf_94_9 rfl ?_
  refine F_bald pf_94_10 rfl (by omega) ?_
  refine E_if_ne_f pf_94_11 (by omega) ?_
  exact E_throw pf_94_14 rfl rfl rfl rfl
theorem c177_0 (hs : sv 0 = 1) (h68 : K (72 * 0 + 68) = m) : ∀ h, Ca 177 [.ref 102, .int (ii 0)] (wd [(102, oX6 rf ts sp (dn : Int) kd (vn : Int) (rn : Int) rd rk rv rr (c : Int)), (107, ar 72 r), (110, ar 144 K), (111, br 2 sv)] h) (.inl (some (.int (ii (m : Int)))), wd [(102, oX6 0 ts sp (dn : Int) kd (vn : Int) (rn : Int) rd rk rv rr ((0 : Nat) : Int)), (107, ar 72 (zcpy K r (72 * 0) 0 72)), (110, ar 144 K), (111, br 2 sv)] h) := by
  intro h
  refine E_in (lv := [_, _]) rfl ?_
  refine E_aload pf_177_0 rfl ?_
  refine E_iload pf_177_1 rfl ?_
  refine E_i2l pf_177_2 (by omega) ?_
  refine E_lconst pf_177_3 ?_
  refine E_lconst pf_177_4 ?_
  refine F_c3v0 pf_177_5 (c109t (by omega) (by omega)) (trivial) rfl ?_
  refine E_if_ne_t pf_177_8 (by omega) ?_
  refine E_aload pf_177_15 rfl ?_
  refine F_getf pf_177_16 rfl rfl rfl ?_
  refine E_iload pf_177_19 rfl ?_
  refine F_bald pf_177_20 rfl (by omega) ?_
  refine E_if_ne_t pf_177_21 (by omega) ?_
  refine E_iconst pf_177_28 ?_
  refine F_v2v (l' := [(_, _), (_, _), (_, _), (_, _)]) pf_177_29 (c108_0) (And.intro rfl (trivial)) rfl rfl rfl rfl ?_
  refine E_if_eq_t pf_177_32 (by omega) ?_
  refine E_aload pf_177_37 rfl ?_
  refine F_getf pf_177_38 rfl rfl rfl ?_
  refine E_iconst pf_177_41 ?_
  refine E_iload pf_177_43 rfl ?_
  refine E_imul pf_177_44 ?_
  refine E_aload pf_177_45 rfl ?_
  refine F_getf pf_177_46 rfl rfl rfl ?_
  refine E_iconst pf_177_49 ?_
  refine F_c4u (l' := [(_, _), (_, _), (_, _), (_, _)]) pf_177_50 (c110kn (by omega) (by omega)) (And.intro rfl (And.intro rfl (trivial))) rfl rfl rfl ?_
  refine E_aload pf_177_53 rfl ?_
  refine E_iconst pf_177_54 ?_
  refine F_putf (l' := [(_, _), (_, _), (_, _), (_, _)]) (x := ob _ [_, _, _, _, _, _, _, _, _, _, _, _, _, _, _, _, _, _, _, _, _, _, _, _, _]) pf_177_55 rfl rfl rfl rfl rfl ?_
  refine E_aload pf_177_58 rfl ?_
  refine F_getf pf_177_59 rfl rfl rfl ?_
  refine E_iconst pf_177_62 ?_
  refine F_iald pf_177_64 rfl (by omega) ?_
  rw [show zcpy K r (72 * 0) 0 72 68 = (m : Int) from (zcpy_at (by omega)).trans h68]
  exact E_iret pf_177_65 rfl
theorem c177y_0 (hs : sv 0 = 0) : ∀ h, Ca 177 [.ref 102, .int (ii 0)] (wd [(102, oX6 rf ts sp (dn : Int) kd (vn : Int) (rn : Int) rd rk rv rr (c : Int)), (111, br 2 sv)] h) (.inl (some (.int (ii 0))), wd [(102, oX6 2 ts sp (dn : Int) kd (vn : Int) (rn : Int) rd rk rv rr (c : Int)), (111, br 2 sv)] h) := by
  intro h
  refine E_in (lv := [_, _]) rfl ?_
  refine E_aload pf_177_0 rfl ?_
  refine E_iload pf_177_1 rfl ?_
  refine E_i2l pf_177_2 (by omega) ?_
  refine E_lconst pf_177_3 ?_
  refine E_lconst pf_177_4 ?_
  refine F_c3v0 pf_177_5 (c109t (by omega) (by omega)) (trivial) rfl ?_
  refine E_if_ne_t pf_177_8 (by omega) ?_
  refine E_aload pf_177_15 rfl ?_
  refine F_getf pf_177_16 rfl rfl rfl ?_
  refine E_iload pf_177_19 rfl ?_
  refine F_bald pf_177_20 rfl (by omega) ?_
  refine E_if_ne_f pf_177_21 (by omega) ?_
  refine E_iconst pf_177_24 ?_
  refine E_goto pf_177_25 ?_
  refine F_v2v (l' := [(_, _), (_, _)]) pf_177_29 (c108_2) (And.intro rfl (trivial)) rfl rfl rfl rfl ?_
  refine E_if_eq_f pf_177_32 (by omega) ?_
  refine E_iconst pf_177_35 ?_
  exact E_iret pf_177_36 rfl
theorem c94_1 (hs : sv 1 = 1) : ∀ h, Ca 94 [.ref 1, .int (ii 1)] (wd [(1, oPD tl), (24, pst 24 S), (25, ar 20 S.2.1), (26, ar 24 S.2.2.2.1), (27, ar 24 S.2.2.2.2.1), (90, sl90), (91, pst 91 (W 0)), (92, ar 20 (W 0).2.1), (93, ar 24 (W 0).2.2.2.1), (94, ar 24 (W 0).2.2.2.2.1), (95, pst 95 (W 1)), (96, ar 20 (W 1).2.1), (97, ar 24 (W 1).2.2.2.1), (98, ar 24 (W 1).2.2.2.2.1), (99, br 2 sv)] (wd (LMm (c : Int) (nx : Int) M) h)) (.inl (some (.int (ii (W 1).2.2.1))), wd [(1, oPD tl), (24, pst 24 (pcp S (W 1))), (25, ar 20 (pcp S (W 1)).2.1), (26, ar 24 (pcp S (W 1)).2.2.2.1), (27, ar 24 (pcp S (W 1)).2.2.2.2.1), (90, sl90), (91, pst 91 (W 0)), (92, ar 20 (W 0).2.1), (93, ar 24 (W 0).2.2.2.1), (94, ar 24 (W 0).2.2.2.2.1), (95, pst 95 (W 1)), (96, ar 20 (W 1).2.1), (97, ar 24 (W 1).2.2.2.1), (98, ar 24 (W 1).2.2.2.2.1), (99, br 2 sv)] (wd (LMm ((0 : Nat) : Int) ((0 : Nat) : Int) M) h)) := by
  intro h
  refine E_in (lv := [_, _]) rfl ?_
  refine E_iload pf_94_0 rfl ?_
  refine E_iconst pf_94_1 ?_
  refine F_c2u0 pf_94_2 (c95 (by omega) (by omega)) (trivial) rfl ?_
  refine E_aload pf_94_5 rfl ?_
  refine F_getf pf_94_6 rfl rfl rfl ?_
  refine E_iload pf_94_9 rfl ?_
  refine F_bald pf_94_10 rfl (by omega) ?_
  refine E_if_ne_t pf_94_11 (by omega) ?_
  refine E_aload pf_94_25 rfl ?_
  refine F_getf pf_94_26 rfl rfl rfl ?_
  refine E_aload pf_94_29 rfl ?_
  refine F_getf pf_94_30 rfl rfl rfl ?_
  refine E_iload pf_94_33 rfl ?_
  refine F_aald pf_94_34 rfl (by omega) ?_
  refine F_v2u (l' := [(_, _), (_, _), (_, _), (_, _), (_, _), (_, _), (_, _), (_, _), (_, _), (_, _), (_, _), (_, _), (_, _), (_, _), (_, _)]) pf_94_35 (c52_24_95 (p := W 1) (p0 := S)) (And.intro rfl (And.intro rfl (And.intro rfl (And.intro rfl (And.intro rfl (And.intro rfl (And.intro rfl (And.intro rfl (trivial))))))))) rfl rfl rfl rfl ?_
  refine E_aload pf_94_38 rfl ?_
  refine F_getf pf_94_39 rfl rfl rfl ?_
  refine F_mem1 (l' := [(_, _), (_, _), (_, _), (_, _), (_, _), (_, _), (_, _), (_, _), (_, _), (_, _), (_, _), (_, _), (_, _), (_, _), (_, _)]) pf_94_42 (c24m) (trivial) rfl rfl rfl rfl rfl rfl rfl ?_
  refine E_aload pf_94_45 rfl ?_
  refine F_getf pf_94_46 rfl rfl rfl ?_
  refine F_getf pf_94_49 rfl rfl rfl ?_
  exact E_iret pf_94_52 rfl
theorem c94y_1 (hs : sv 1 = 0) : ∀ h, Ca 94 [.ref 1, .int (ii 1)] (wd [(1, oPD tl), (99, br 2 sv)] h) (.inr 1, pd_thr (wd [(1, oPD tl), (99, br 2 sv)] h)) := by
  intro h
  refine E_in (lv := [_, _]) rfl ?_
  refine E_iload pf_94_0 rfl ?_
  refine E_iconst pf_94_1 ?_
  refine F_c2u0 pf_94_2 (c95 (by omega) (by omega)) (trivial) rfl ?_
  refine E_aload pf_94_5 rfl ?_
  refine F_getf pf_94_6 rfl rfl rfl ?_
  refine E_iload pf_94_9 rfl ?_
  refine F_bald pf_94_10 rfl (by omega) ?_
  refine E_if_ne_f pf_94_11 (by omega) ?_
  exact E_throw pf_94_14 rfl rfl rfl rfl
theorem c177_1 (hs : sv 1 = 1) (h68 : K (72 * 1 + 68) = m) : ∀ h, Ca 177 [.ref 102, .int (ii 1)] (wd [(102, oX6 rf ts sp (dn : Int) kd (vn : Int) (rn : Int) rd rk rv rr (c : Int)), (107, ar 72 r), (110, ar 144 K), (111, br 2 sv)] h) (.inl (some (.int (ii (m : Int)))), wd [(102, oX6 0 ts sp (dn : Int) kd (vn : Int) (rn : Int) rd rk rv rr ((0 : Nat) : Int)), (107, ar 72 (zcpy K r (72 * 1) 0 72)), (110, ar 144 K), (111, br 2 sv)] h) := by
  intro h
  refine E_in (lv := [_, _]) rfl ?_
  refine E_aload pf_177_0 rfl ?_
  refine E_iload pf_177_1 rfl ?_
  refine E_i2l pf_177_2 (by omega) ?_
  refine E_lconst pf_177_3 ?_
  refine E_lconst pf_177_4 ?_
  refine F_c3v0 pf_177_5 (c109t (by omega) (by omega)) (trivial) rfl ?_
  refine E_if_ne_t pf_177_8 (by omega) ?_
  refine E_aload pf_177_15 rfl ?_
  refine F_getf pf_177_16 rfl rfl rfl ?_
  refine E_iload pf_177_19 rfl ?_
  refine F_bald pf_177_20 rfl (by omega) ?_
  refine E_if_ne_t pf_177_21 (by omega) ?_
  refine E_iconst pf_177_28 ?_
  refine F_v2v (l' := [(_, _), (_, _), (_, _), (_, _)]) pf_177_29 (c108_0) (And.intro rfl (trivial)) rfl rfl rfl rfl ?_
  refine E_if_eq_t pf_177_32 (by omega) ?_
  refine E_aload pf_177_37 rfl ?_
  refine F_getf pf_177_38 rfl rfl rfl ?_
  refine E_iconst pf_177_41 ?_
  refine E_iload pf_177_43 rfl ?_
  refine E_imul pf_177_44 ?_
  refine E_aload pf_177_45 rfl ?_
  refine F_getf pf_177_46 rfl rfl rfl ?_
  refine E_iconst pf_177_49 ?_
  refine F_c4u (l' := [(_, _), (_, _), (_, _), (_, _)]) pf_177_50 (c110kn (by omega) (by omega)) (And.intro rfl (And.intro rfl (trivial))) rfl rfl rfl ?_
  refine E_aload pf_177_53 rfl ?_
  refine E_iconst pf_177_54 ?_
  refine F_putf (l' := [(_, _), (_, _), (_, _), (_, _)]) (x := ob _ [_, _, _, _, _, _, _, _, _, _, _, _, _, _, _, _, _, _, _, _, _, _, _, _, _]) pf_177_55 rfl rfl rfl rfl rfl ?_
  refine E_aload pf_177_58 rfl ?_
  refine F_getf pf_177_59 rfl rfl rfl ?_
  refine E_iconst pf_177_62 ?_
  refine F_iald pf_177_64 rfl (by omega) ?_
  rw [show zcpy K r (72 * 1) 0 72 68 = (m : Int) from (zcpy_at (by omega)).trans h68]
  exact E_iret pf_177_65 rfl
theorem c177y_1 (hs : sv 1 = 0) : ∀ h, Ca 177 [.ref 102, .int (ii 1)] (wd [(102, oX6 rf ts sp (dn : Int) kd (vn : Int) (rn : Int) rd rk rv rr (c : Int)), (111, br 2 sv)] h) (.inl (some (.int (ii 0))), wd [(102, oX6 2 ts sp (dn : Int) kd (vn : Int) (rn : Int) rd rk rv rr (c : Int)), (111, br 2 sv)] h) := by
  intro h
  refine E_in (lv := [_, _]) rfl ?_
  refine E_aload pf_177_0 rfl ?_
  refine E_iload pf_177_1 rfl ?_
  refine E_i2l pf_177_2 (by omega) ?_
  refine E_lconst pf_177_3 ?_
  refine E_lconst pf_177_4 ?_
  refine F_c3v0 pf_177_5 (c109t (by omega) (by omega)) (trivial) rfl ?_
  refine E_if_ne_t pf_177_8 (by omega) ?_
  refine E_aload pf_177_15 rfl ?_
  refine F_getf pf_177_16 rfl rfl rfl ?_
  refine E_iload pf_177_19 rfl ?_
  refine F_bald pf_177_20 rfl (by omega) ?_
  refine E_if_ne_f pf_177_21 (by omega) ?_
  refine E_iconst pf_177_24 ?_
  refine E_goto pf_177_25 ?_
  refine F_v2v (l' := [(_, _), (_, _)]) pf_177_29 (c108_2) (And.intro rfl (trivial)) rfl rfl rfl rfl ?_
  refine E_if_eq_f pf_177_32 (by omega) ?_
  refine E_iconst pf_177_35 ?_
  exact E_iret pf_177_36 rfl
theorem c94x {s : Int} (h1 : (-2147483648 ≤ s ∧ s ≤ 2147483647)) (h2 : ¬ (0 ≤ s ∧ s < 2)) : ∀ h, Ca 94 [.ref 1, .int (ii s)] (wd [(1, oPD tl)] h) (.inr 2, pd_thr (wd [(1, oPD tl)] h)) := by
  intro h
  refine E_in (lv := [_, _]) rfl ?_
  refine E_iload pf_94_0 rfl ?_
  refine E_iconst pf_94_1 ?_
  exact E_c2x pf_94_2 rfl (c95x (by omega) (by omega) (by omega) _) rfl
theorem c177x {s : Int} (h1 : (-2147483648 ≤ s ∧ s ≤ 2147483647)) (h2 : ¬ (0 ≤ s ∧ s < 2)) : ∀ h, Ca 177 [.ref 102, .int (ii s)] (wd [(102, oX6 rf ts sp (dn : Int) kd (vn : Int) (rn : Int) rd rk rv rr (c : Int))] h) (.inl (some (.int (ii 0))), wd [(102, oX6 1 ts sp (dn : Int) kd (vn : Int) (rn : Int) rd rk rv rr (c : Int))] h) := by
  intro h
  refine E_in (lv := [_, _]) rfl ?_
  refine E_aload pf_177_0 rfl ?_
  refine E_iload pf_177_1 rfl ?_
  refine E_i2l pf_177_2 (by omega) ?_
  refine E_lconst pf_177_3 ?_
  refine E_lconst pf_177_4 ?_
  refine F_c3v0 pf_177_5 (c109f (by omega) (by omega)) (trivial) rfl ?_
  refine E_if_ne_f pf_177_8 (by omega) ?_
  refine E_iconst pf_177_11 ?_
  refine E_goto pf_177_12 ?_
  refine F_v2v (l' := [(_, _)]) pf_177_29 (c108_1) (And.intro rfl (trivial)) rfl rfl rfl rfl ?_
  refine E_if_eq_f pf_177_32 (by omega) ?_
  refine E_iconst pf_177_35 ?_
  exact E_iret pf_177_36 rfl
theorem a_err (hT : ∀ i, 0 ≤ T i ∧ T i ≤ 255) (ht : 0 ≤ tl ∧ tl ≤ 90) (hC : (∀ q, -9 ≤ C6 q ∧ C6 q ≤ 9)) (hP : (∀ q, -9 ≤ P5 q ∧ P5 q ≤ 9)) (hz : (∀ q, -9 ≤ sz q ∧ sz q ≤ 9)) : ∃ v : Int, ∃ (p' d5' k5' n5' rc' rd' rk' rv' rr' : Int) (C6' P5' q' c7' g8' sz' R10' G' : Int → Int), (∀ q, -9 ≤ C6' q ∧ C6' q ≤ 9) ∧ (∀ q, -9 ≤ P5' q ∧ P5' q ≤ 9) ∧ (∀ q, -9 ≤ sz' q ∧ sz' q ≤ 9) ∧ (-9 ≤ v ∧ v ≤ 90) ∧ (∀ h, Ca 65 [.ref 1] (wd [(1, oPD tl), (2, ar 90 T), (3, oR l3 p3), (4, ar 4 q), (5, oP5 d5 k5 n5), (6, ar 96 C6), (7, ar 4 c7), (8, ar 4 g8), (9, oS9 rc m9 s9 r9), (10, ar 20 R10)] h) (.inl (some (.int (ii v))), wd [(1, oPD tl), (2, ar 90 T), (3, oR tl p'), (4, ar 4 q'), (5, oP5 d5' k5' n5'), (6, ar 96 C6'), (7, ar 4 c7'), (8, ar 4 g8'), (9, oS9 rc' m9 s9 r9), (10, ar 20 R10')] h)) ∧ ∀ h, Ca 141 [.ref 102] (wd [(102, oX6 rf tl sp d kd vs rw rd rk rv rr (c : Int)), (103, ar 90 T), (105, ar 128 P5), (106, ar 72 G), (115, ar 4 sz)] h) (.inl (some (.int (ii v))), wd [(102, oX6 0 tl p' d kd vs rw rd' rk' rv' rr' (c : Int)), (103, ar 90 T), (105, ar 128 P5'), (106, ar 72 G'), (115, ar 4 sz')] h) := by
  obtain ⟨b, p', d5', k5', n5', rc', rd', rk', rv', rr', C6', P5', q', c7', g8', sz', R10', G', f1, f2, f3, f4, f5, f6, f7, f8⟩ := rea (T := T) (q := q) (C := C6) (P := P5) (c := c7) (g := g8) (sz := sz) (R := R10) (G := G) (tl := tl) (sp := sp) (d := d) (kd := kd) (vs := vs) (rw := rw) (rd := rd) (rk := rk) (rv := rv) (rr := rr) (ac := (c : Int)) (l3 := l3) (p3 := p3) (d0 := d5) (k0 := k5) (n0 := n5) (rc := rc) (m0 := m9) (s0 := s9) (r0 := r9) (rf := 0) hT ht hC hP hz
  refine ⟨if b = 1 then -9 else p', p', d5', k5', n5', rc', rd', rk', rv', rr', C6', P5', q', c7', g8', sz', R10', G', f3, f4, f5, by split <;> omega, fun h => ?_, fun h => ?_⟩
  · refine E_in (lv := [_]) rfl ?_
    refine E_aload pf_65_0 rfl ?_
    refine F_getf pf_65_1 rfl rfl rfl ?_
    refine E_aload pf_65_4 rfl ?_
    refine F_getf pf_65_5 rfl rfl rfl ?_
    refine F_v2v (l' := [(_, _), (_, _), (_, _), (_, _), (_, _), (_, _), (_, _), (_, _), (_, _), (_, _)]) pf_65_8 (f7) (And.intro rfl (And.intro rfl (And.intro rfl (And.intro rfl (And.intro rfl (And.intro rfl (And.intro rfl (And.intro rfl (And.intro rfl (trivial)))))))))) rfl rfl rfl rfl ?_
    exact E_iret pf_65_11 rfl
  · refine E_in (lv := [_]) rfl ?_
    rcases f1 with e | e <;> subst e
    · rw [if_neg (by omega)]
      refine E_aload pf_141_0 rfl ?_
      refine E_iconst pf_141_1 ?_
      refine F_putf (l' := [(_, _), (_, _), (_, _), (_, _), (_, _)]) (x := ob _ [_, _, _, _, _, _, _, _, _, _, _, _, _, _, _, _, _, _, _, _, _, _, _, _, _]) pf_141_2 rfl rfl rfl rfl rfl ?_
      refine E_aload pf_141_5 rfl ?_
      refine F_v1v (l' := [(_, _), (_, _), (_, _), (_, _), (_, _)]) pf_141_6 (f8) (And.intro rfl (And.intro rfl (And.intro rfl (And.intro rfl (And.intro rfl (trivial)))))) rfl rfl rfl rfl ?_
      refine E_if_eq_t pf_141_9 (by omega) ?_
      refine E_aload pf_141_17 rfl ?_
      refine F_getf pf_141_18 rfl rfl rfl ?_
      exact E_iret pf_141_21 rfl
    · rw [if_pos rfl]
      refine E_aload pf_141_0 rfl ?_
      refine E_iconst pf_141_1 ?_
      refine F_putf (l' := [(_, _), (_, _), (_, _), (_, _), (_, _)]) (x := ob _ [_, _, _, _, _, _, _, _, _, _, _, _, _, _, _, _, _, _, _, _, _, _, _, _, _]) pf_141_2 rfl rfl rfl rfl rfl ?_
      refine E_aload pf_141_5 rfl ?_
      refine F_v1v (l' := [(_, _), (_, _), (_, _), (_, _), (_, _)]) pf_141_6 (f8) (And.intro rfl (And.intro rfl (And.intro rfl (And.intro rfl (And.intro rfl (trivial)))))) rfl rfl rfl rfl ?_
      refine E_if_eq_f pf_141_9 (by omega) ?_
      refine E_iconst pf_141_12 ?_
      refine E_goto pf_141_14 ?_
      exact E_iret pf_141_21 rfl
theorem c27 {d0 k0 n0 : Int} : ∀ h, Ca 27 [.ref 13, .ref 5] (wd [(13, oP d0 k0 n0), (14, ar 96 C), (5, oP5 d5 k5 n5), (6, ar 96 C6)] h) (.inl none, wd [(13, oP d5 k5 n5), (14, ar 96 (zcpy C6 C 0 0 96)), (5, oP5 d5 k5 n5), (6, ar 96 C6)] h) := by
  intro h
  refine E_in (lv := [_, _]) rfl ?_
  refine E_aload pf_27_0 rfl ?_
  refine E_aload pf_27_1 rfl ?_
  refine F_getf pf_27_2 rfl rfl rfl ?_
  refine F_putf (l' := [(_, _), (_, _), (_, _), (_, _)]) (x := ob _ [_, _, _, _, _, _]) pf_27_5 rfl rfl rfl rfl rfl ?_
  refine E_aload pf_27_8 rfl ?_
  refine E_aload pf_27_9 rfl ?_
  refine F_getf pf_27_10 rfl rfl rfl ?_
  refine F_putf (l' := [(_, _), (_, _), (_, _), (_, _)]) (x := ob _ [_, _, _, _, _, _]) pf_27_13 rfl rfl rfl rfl rfl ?_
  refine E_aload pf_27_16 rfl ?_
  refine E_aload pf_27_17 rfl ?_
  refine F_getf pf_27_18 rfl rfl rfl ?_
  refine F_putf (l' := [(_, _), (_, _), (_, _), (_, _)]) (x := ob _ [_, _, _, _, _, _]) pf_27_21 rfl rfl rfl rfl rfl ?_
  refine E_aload pf_27_24 rfl ?_
  refine F_getf pf_27_25 rfl rfl rfl ?_
  refine E_iconst pf_27_28 ?_
  refine E_aload pf_27_29 rfl ?_
  refine F_getf pf_27_30 rfl rfl rfl ?_
  refine E_iconst pf_27_33 ?_
  refine E_aload pf_27_34 rfl ?_
  refine F_getf pf_27_35 rfl rfl rfl ?_
  refine F_alenI pf_27_38 rfl ?_
  refine F_acopy (l' := [(_, _), (_, _), (_, _), (_, _)]) pf_27_39 rfl rfl (by omega) rfl rfl ?_
  exact E_vret pf_27_42 rfl
theorem c66g {p' k5' d0 k0 n0 rc0 : Int} {q' c7' g8' C6' R10' : Int → Int} (h41 : ∀ h, Ca 41 [.ref 3, .int (ii tl)] (wd [(2, ar 90 T), (3, oR l3 p3), (4, ar 4 q), (5, oP5 d5 k5 n5), (6, ar 96 C6), (7, ar 4 c7), (8, ar 4 g8), (9, oS9 rc m9 s9 r9), (10, ar 20 R10)] h) (.inl (some (.int (ii (-9)))), wd [(2, ar 90 T), (3, oR tl p'), (4, ar 4 q'), (5, oP5 (dn : Int) k5' (vn : Int)), (6, ar 96 C6'), (7, ar 4 c7'), (8, ar 4 g8'), (9, oS9 (rn : Int) m9 s9 r9), (10, ar 20 R10')] h)) : ∀ h, Ca 66 [.ref 1] (wd [(1, oPD tl), (2, ar 90 T), (3, oR l3 p3), (4, ar 4 q), (5, oP5 d5 k5 n5), (6, ar 96 C6), (7, ar 4 c7), (8, ar 4 g8), (9, oS9 rc m9 s9 r9), (10, ar 20 R10), (11, ar 24 V11), (12, ar 24 U12), (13, oP d0 k0 n0), (14, ar 96 C), (24, oS24 rc0 (m : Int) st dr), (25, ar 20 R), (26, ar 24 V), (27, ar 24 U), (99, br 2 sv)] (wd (LMm (c : Int) (nx : Int) M) h)) (.inl (some (.int (ii (vn : Int)))), wd [(1, oPD tl), (2, ar 90 T), (3, oR tl p'), (4, ar 4 q'), (5, oP5 (dn : Int) k5' (vn : Int)), (6, ar 96 C6'), (7, ar 4 c7'), (8, ar 4 g8'), (9, oS9 (rn : Int) m9 s9 r9), (10, ar 20 R10'), (11, ar 24 V11), (12, ar 24 U12), (13, oP (dn : Int) k5' (vn : Int)), (14, ar 96 (zcpy C6' C 0 0 96)), (24, oS24 (rn : Int) 1 0 0), (25, ar 20 (zcpy R10' R 0 0 20)), (26, ar 24 (zu V 0 0)), (27, ar 24 (zu U 0 100)), (99, br 2 (zu (zu sv 0 0) 1 0))] (wd (LMm ((0 : Nat) : Int) ((0 : Nat) : Int) M) h)) := by
  intro h
  refine E_in (lv := [_, _]) rfl ?_
  refine E_aload pf_66_0 rfl ?_
  refine F_getf pf_66_1 rfl rfl rfl ?_
  refine E_aload pf_66_4 rfl ?_
  refine F_getf pf_66_5 rfl rfl rfl ?_
  refine F_v2v (l' := [(_, _), (_, _), (_, _), (_, _), (_, _), (_, _), (_, _), (_, _), (_, _), (_, _), (_, _), (_, _), (_, _), (_, _), (_, _), (_, _), (_, _), (_, _), (_, _)]) pf_66_8 (h41) (And.intro rfl (And.intro rfl (And.intro rfl (And.intro rfl (And.intro rfl (And.intro rfl (And.intro rfl (And.intro rfl (And.intro rfl (trivial)))))))))) rfl rfl rfl rfl ?_
  refine E_iconst pf_66_11 ?_
  refine E_icmp_eq_t pf_66_13 (by omega) ?_
  refine E_aload pf_66_26 rfl ?_
  refine F_getf pf_66_27 rfl rfl rfl ?_
  refine E_aload pf_66_30 rfl ?_
  refine F_getf pf_66_31 rfl rfl rfl ?_
  refine F_getf pf_66_34 rfl rfl rfl ?_
  refine F_v2u (l' := [(_, _), (_, _), (_, _), (_, _), (_, _), (_, _), (_, _), (_, _), (_, _), (_, _), (_, _), (_, _), (_, _), (_, _), (_, _), (_, _), (_, _), (_, _), (_, _)]) pf_66_37 (c27) (And.intro rfl (And.intro rfl (And.intro rfl (And.intro rfl (trivial))))) rfl rfl rfl rfl ?_
  refine E_aload pf_66_40 rfl ?_
  refine F_getf pf_66_41 rfl rfl rfl ?_
  refine E_aload pf_66_44 rfl ?_
  refine F_getf pf_66_45 rfl rfl rfl ?_
  refine F_getf pf_66_48 rfl rfl rfl ?_
  refine F_v2u (l' := [(_, _), (_, _), (_, _), (_, _), (_, _), (_, _), (_, _), (_, _), (_, _), (_, _), (_, _), (_, _), (_, _), (_, _), (_, _), (_, _), (_, _), (_, _), (_, _)]) pf_66_51 (c53_24_9 (p := ((rn : Int), R10', m9, V11, U12, s9, r9)) (p0 := (rc0, R, (m : Int), V, U, st, dr))) (And.intro rfl (And.intro rfl (And.intro rfl (And.intro rfl (And.intro rfl (And.intro rfl (And.intro rfl (And.intro rfl (trivial))))))))) rfl rfl rfl rfl ?_
  refine E_aload pf_66_54 rfl ?_
  refine F_getf pf_66_55 rfl rfl rfl ?_
  refine E_iconst pf_66_58 ?_
  refine F_v2u (l' := [(_, _), (_, _), (_, _), (_, _), (_, _), (_, _), (_, _), (_, _), (_, _), (_, _), (_, _), (_, _), (_, _), (_, _), (_, _), (_, _), (_, _), (_, _), (_, _)]) pf_66_59 (c58s) (And.intro rfl (And.intro rfl (And.intro rfl (trivial)))) rfl rfl rfl rfl ?_
  refine E_aload pf_66_62 rfl ?_
  refine F_getf pf_66_63 rfl rfl rfl ?_
  refine F_mem1 (l' := [(_, _), (_, _), (_, _), (_, _), (_, _), (_, _), (_, _), (_, _), (_, _), (_, _), (_, _), (_, _), (_, _), (_, _), (_, _), (_, _), (_, _), (_, _), (_, _)]) pf_66_66 (c24m) (trivial) rfl rfl rfl rfl rfl rfl rfl ?_
  refine E_iconst pf_66_69 ?_
  refine E_istore (lv' := [_, _]) pf_66_70 rfl rfl ?_
  refine E_iload pf_66_71 rfl ?_
  refine E_iconst pf_66_72 ?_
  refine E_icmp_ge_f pf_66_73 (by omega) ?_
  refine E_aload pf_66_76 rfl ?_
  refine F_getf pf_66_77 rfl rfl rfl ?_
  refine E_iload pf_66_80 rfl ?_
  refine E_iconst pf_66_81 ?_
  refine F_bast (l' := [(_, _), (_, _), (_, _), (_, _), (_, _), (_, _), (_, _), (_, _), (_, _), (_, _), (_, _), (_, _), (_, _), (_, _), (_, _), (_, _), (_, _), (_, _), (_, _)]) pf_66_82 rfl (by omega) (by omega) rfl ?_
  refine E_iinc (lv' := [_, _]) pf_66_83 rfl rfl ?_
  refine E_goto pf_66_86 ?_
  refine E_iload pf_66_71 rfl ?_
  refine E_iconst pf_66_72 ?_
  refine E_icmp_ge_f pf_66_73 (by omega) ?_
  refine E_aload pf_66_76 rfl ?_
  refine F_getf pf_66_77 rfl rfl rfl ?_
  refine E_iload pf_66_80 rfl ?_
  refine E_iconst pf_66_81 ?_
  refine F_bast (l' := [(_, _), (_, _), (_, _), (_, _), (_, _), (_, _), (_, _), (_, _), (_, _), (_, _), (_, _), (_, _), (_, _), (_, _), (_, _), (_, _), (_, _), (_, _), (_, _)]) pf_66_82 rfl (by omega) (by omega) rfl ?_
  refine E_iinc (lv' := [_, _]) pf_66_83 rfl rfl ?_
  refine E_goto pf_66_86 ?_
  refine E_iload pf_66_71 rfl ?_
  refine E_iconst pf_66_72 ?_
  refine E_icmp_ge_t pf_66_73 (by omega) ?_
  refine E_aload pf_66_89 rfl ?_
  refine F_getf pf_66_90 rfl rfl rfl ?_
  refine F_getf pf_66_93 rfl rfl rfl ?_
  exact E_iret pf_66_96 rfl
theorem c66x {p' d5' k5' n5' rc' : Int} {q' c7' g8' C6' R10' : Int → Int} (hp : 0 ≤ p' ∧ p' ≤ 90) (h41 : ∀ h, Ca 41 [.ref 3, .int (ii tl)] (wd [(2, ar 90 T), (3, oR l3 p3), (4, ar 4 q), (5, oP5 d5 k5 n5), (6, ar 96 C6), (7, ar 4 c7), (8, ar 4 g8), (9, oS9 rc m9 s9 r9), (10, ar 20 R10)] h) (.inl (some (.int (ii p'))), wd [(2, ar 90 T), (3, oR tl p'), (4, ar 4 q'), (5, oP5 d5' k5' n5'), (6, ar 96 C6'), (7, ar 4 c7'), (8, ar 4 g8'), (9, oS9 rc' m9 s9 r9), (10, ar 20 R10')] h)) : ∀ h, Ca 66 [.ref 1] (wd [(1, oPD tl), (2, ar 90 T), (3, oR l3 p3), (4, ar 4 q), (5, oP5 d5 k5 n5), (6, ar 96 C6), (7, ar 4 c7), (8, ar 4 g8), (9, oS9 rc m9 s9 r9), (10, ar 20 R10)] h) (.inr 1, pd_thr (wd [(1, oPD tl), (2, ar 90 T), (3, oR tl p'), (4, ar 4 q'), (5, oP5 d5' k5' n5'), (6, ar 96 C6'), (7, ar 4 c7'), (8, ar 4 g8'), (9, oS9 rc' m9 s9 r9), (10, ar 20 R10')] h)) := by
  intro h
  refine E_in (lv := [_, _]) rfl ?_
  refine E_aload pf_66_0 rfl ?_
  refine F_getf pf_66_1 rfl rfl rfl ?_
  refine E_aload pf_66_4 rfl ?_
  refine F_getf pf_66_5 rfl rfl rfl ?_
  refine F_v2v (l' := [(_, _), (_, _), (_, _), (_, _), (_, _), (_, _), (_, _), (_, _), (_, _), (_, _)]) pf_66_8 (h41) (And.intro rfl (And.intro rfl (And.intro rfl (And.intro rfl (And.intro rfl (And.intro rfl (And.intro rfl (And.intro rfl (And.intro rfl (trivial)))))))))) rfl rfl rfl rfl ?_
  refine E_iconst pf_66_11 ?_
  refine E_icmp_eq_f pf_66_13 (by omega) ?_
  exact E_throw pf_66_16 rfl rfl rfl rfl
theorem c142g {p' k5' : Int} {P5' G' sz' : Int → Int} (hv : vn ≤ 24) (h140 : ∀ h, Ca 140 [.ref 102] (wd [(102, oX6 rf tl sp d kd vs rw rd rk rv rr (c : Int)), (103, ar 90 T), (105, ar 128 P5), (106, ar 72 G), (115, ar 4 sz)] h) (.inl (some (.int (ii 1))), wd [(102, oX6 rf tl p' d kd vs rw (dn : Int) k5' (vn : Int) (rn : Int) (c : Int)), (103, ar 90 T), (105, ar 128 P5'), (106, ar 72 G'), (115, ar 4 sz')] h)) : ∀ h, Ca 142 [.ref 102] (wd [(102, oX6 rf tl sp d kd vs rw rd rk rv rr (c : Int)), (103, ar 90 T), (105, ar 128 P5), (106, ar 72 G), (115, ar 4 sz), (104, ar 128 P), (107, ar 72 r), (111, br 2 sv)] h) (.inl (some (.int (ii (vn : Int)))), wd [(102, oX6 0 tl p' (dn : Int) k5' (vn : Int) (rn : Int) (dn : Int) k5' (vn : Int) (rn : Int) ((0 : Nat) : Int)), (103, ar 90 T), (105, ar 128 P5'), (106, ar 72 G'), (115, ar 4 sz'), (104, ar 128 (zcpy P5' P 0 0 (4 * (vn : Int)))), (107, ar 72 (zu (zu (zu (zu (zu (zcpy G' r 0 0 72) 20 0) 44 100) 68 1) 69 0) 70 0)), (111, br 2 (zu (zu sv 0 0) 1 0))] h) := by
  intro h
  have loop : ∀ (n j : Nat) (A : Int → Int), j + n = 4 * vn → A = zcpy P5' P 0 0 (j : Int) → Rn 142 55 [.ref 102, .int (ii (j : Int))] [] (wd [(102, oX6 0 tl p' (dn : Int) k5' (vn : Int) (rn : Int) (dn : Int) k5' (vn : Int) (rn : Int) (c : Int)), (103, ar 90 T), (105, ar 128 P5'), (106, ar 72 G'), (115, ar 4 sz'), (104, ar 128 A), (107, ar 72 r), (111, br 2 sv)] h) (.inl (some (.int (ii (vn : Int)))), wd [(102, oX6 0 tl p' (dn : Int) k5' (vn : Int) (rn : Int) (dn : Int) k5' (vn : Int) (rn : Int) ((0 : Nat) : Int)), (103, ar 90 T), (105, ar 128 P5'), (106, ar 72 G'), (115, ar 4 sz'), (104, ar 128 (zcpy P5' P 0 0 (4 * (vn : Int)))), (107, ar 72 (zu (zu (zu (zu (zu (zcpy G' r 0 0 72) 20 0) 44 100) 68 1) 69 0) 70 0)), (111, br 2 (zu (zu sv 0 0) 1 0))] h) := by
    intro n
    induction n with
    | zero =>
      intro j A hj hA
      have e : (j : Int) = 4 * (vn : Int) := by omega
      rw [e] at hA
      subst hA
      refine E_iload pf_142_55 rfl ?_
      refine E_iconst pf_142_56 ?_
      refine E_aload pf_142_57 rfl ?_
      refine F_getf pf_142_58 rfl rfl rfl ?_
      refine E_imul pf_142_61 ?_
      refine E_icmp_ge_t pf_142_62 (by omega) ?_
      refine E_aload pf_142_83 rfl ?_
      refine F_getf pf_142_84 rfl rfl rfl ?_
      refine E_iconst pf_142_87 ?_
      refine E_aload pf_142_88 rfl ?_
      refine F_getf pf_142_89 rfl rfl rfl ?_
      refine E_iconst pf_142_92 ?_
      refine F_c4u (l' := [(_, _), (_, _), (_, _), (_, _), (_, _), (_, _), (_, _), (_, _)]) pf_142_93 (c110rn (by omega) (by omega)) (And.intro rfl (And.intro rfl (trivial))) rfl rfl rfl ?_
      refine E_aload pf_142_96 rfl ?_
      refine F_getf pf_142_97 rfl rfl rfl ?_
      refine E_iconst pf_142_100 ?_
      refine F_c2u (l' := [(_, _), (_, _), (_, _), (_, _), (_, _), (_, _), (_, _), (_, _)]) pf_142_101 (c126n) (And.intro rfl (trivial)) rfl rfl rfl ?_
      refine E_aload pf_142_104 rfl ?_
      refine E_iconst pf_142_105 ?_
      refine F_putf (l' := [(_, _), (_, _), (_, _), (_, _), (_, _), (_, _), (_, _), (_, _)]) (x := ob _ [_, _, _, _, _, _, _, _, _, _, _, _, _, _, _, _, _, _, _, _, _, _, _, _, _]) pf_142_106 rfl rfl rfl rfl rfl ?_
      refine E_aload pf_142_109 rfl ?_
      refine F_getf pf_142_110 rfl rfl rfl ?_
      refine E_iconst pf_142_113 ?_
      refine E_iconst pf_142_114 ?_
      refine F_bast (l' := [(_, _), (_, _), (_, _), (_, _), (_, _), (_, _), (_, _), (_, _)]) pf_142_115 rfl (by omega) (by omega) rfl ?_
      refine E_aload pf_142_116 rfl ?_
      refine F_getf pf_142_117 rfl rfl rfl ?_
      refine E_iconst pf_142_120 ?_
      refine E_iconst pf_142_121 ?_
      refine F_bast (l' := [(_, _), (_, _), (_, _), (_, _), (_, _), (_, _), (_, _), (_, _)]) pf_142_122 rfl (by omega) (by omega) rfl ?_
      refine E_aload pf_142_123 rfl ?_
      refine F_getf pf_142_124 rfl rfl rfl ?_
      exact E_iret pf_142_127 rfl
    | succ n ih =>
      intro j A hj hA
      have ih := ih (j + 1) _ (by omega) (zcpy_s _ _ _ _ _).symm
      rw [← hA, Int.zero_add] at ih
      refine E_iload pf_142_55 rfl ?_
      refine E_iconst pf_142_56 ?_
      refine E_aload pf_142_57 rfl ?_
      refine F_getf pf_142_58 rfl rfl rfl ?_
      refine E_imul pf_142_61 ?_
      refine E_icmp_ge_f pf_142_62 (by omega) ?_
      refine E_aload pf_142_65 rfl ?_
      refine F_getf pf_142_66 rfl rfl rfl ?_
      refine E_iload pf_142_69 rfl ?_
      refine E_aload pf_142_70 rfl ?_
      refine F_getf pf_142_71 rfl rfl rfl ?_
      refine E_iload pf_142_74 rfl ?_
      refine F_iald pf_142_75 rfl (by omega) ?_
      refine F_iast (l' := [(_, _), (_, _), (_, _), (_, _), (_, _), (_, _), (_, _), (_, _)]) pf_142_76 rfl (by omega) rfl ?_
      refine E_iinc (lv' := [_, _]) pf_142_77 rfl rfl ?_
      refine E_goto pf_142_80 ?_
      exact ih
  refine E_in (lv := [_, _]) rfl ?_
  refine E_aload pf_142_0 rfl ?_
  refine E_aload pf_142_1 rfl ?_
  refine F_v1v (l' := [(_, _), (_, _), (_, _), (_, _), (_, _), (_, _), (_, _), (_, _)]) pf_142_2 (h140) (And.intro rfl (And.intro rfl (And.intro rfl (And.intro rfl (And.intro rfl (trivial)))))) rfl rfl rfl rfl ?_
  refine E_if_eq_f pf_142_5 (by omega) ?_
  refine E_iconst pf_142_8 ?_
  refine E_goto pf_142_9 ?_
  refine F_v2v (l' := [(_, _), (_, _), (_, _), (_, _), (_, _), (_, _), (_, _), (_, _)]) pf_142_13 (c108_0) (And.intro rfl (trivial)) rfl rfl rfl rfl ?_
  refine E_if_eq_t pf_142_16 (by omega) ?_
  refine E_aload pf_142_21 rfl ?_
  refine E_aload pf_142_22 rfl ?_
  refine F_getf pf_142_23 rfl rfl rfl ?_
  refine F_putf (l' := [(_, _), (_, _), (_, _), (_, _), (_, _), (_, _), (_, _), (_, _)]) (x := ob _ [_, _, _, _, _, _, _, _, _, _, _, _, _, _, _, _, _, _, _, _, _, _, _, _, _]) pf_142_26 rfl rfl rfl rfl rfl ?_
  refine E_aload pf_142_29 rfl ?_
  refine E_aload pf_142_30 rfl ?_
  refine F_getf pf_142_31 rfl rfl rfl ?_
  refine F_putf (l' := [(_, _), (_, _), (_, _), (_, _), (_, _), (_, _), (_, _), (_, _)]) (x := ob _ [_, _, _, _, _, _, _, _, _, _, _, _, _, _, _, _, _, _, _, _, _, _, _, _, _]) pf_142_34 rfl rfl rfl rfl rfl ?_
  refine E_aload pf_142_37 rfl ?_
  refine E_aload pf_142_38 rfl ?_
  refine F_getf pf_142_39 rfl rfl rfl ?_
  refine F_putf (l' := [(_, _), (_, _), (_, _), (_, _), (_, _), (_, _), (_, _), (_, _)]) (x := ob _ [_, _, _, _, _, _, _, _, _, _, _, _, _, _, _, _, _, _, _, _, _, _, _, _, _]) pf_142_42 rfl rfl rfl rfl rfl ?_
  refine E_aload pf_142_45 rfl ?_
  refine E_aload pf_142_46 rfl ?_
  refine F_getf pf_142_47 rfl rfl rfl ?_
  refine F_putf (l' := [(_, _), (_, _), (_, _), (_, _), (_, _), (_, _), (_, _), (_, _)]) (x := ob _ [_, _, _, _, _, _, _, _, _, _, _, _, _, _, _, _, _, _, _, _, _, _, _, _, _]) pf_142_50 rfl rfl rfl rfl rfl ?_
  refine E_iconst pf_142_53 ?_
  refine E_istore (lv' := [_, _]) pf_142_54 rfl rfl ?_
  exact loop (4 * vn) 0 P (by omega) (zcpy_0 _ _ _ _).symm
theorem c142x {p' rd' rk' rv' rr' : Int} {P5' G' sz' : Int → Int} (h140 : ∀ h, Ca 140 [.ref 102] (wd [(102, oX6 rf tl sp d kd vs rw rd rk rv rr (c : Int)), (103, ar 90 T), (105, ar 128 P5), (106, ar 72 G), (115, ar 4 sz)] h) (.inl (some (.int (ii 0))), wd [(102, oX6 rf tl p' d kd vs rw rd' rk' rv' rr' (c : Int)), (103, ar 90 T), (105, ar 128 P5'), (106, ar 72 G'), (115, ar 4 sz')] h)) : ∀ h, Ca 142 [.ref 102] (wd [(102, oX6 rf tl sp d kd vs rw rd rk rv rr (c : Int)), (103, ar 90 T), (105, ar 128 P5), (106, ar 72 G), (115, ar 4 sz)] h) (.inl (some (.int (ii 0))), wd [(102, oX6 1 tl p' d kd vs rw rd' rk' rv' rr' (c : Int)), (103, ar 90 T), (105, ar 128 P5'), (106, ar 72 G'), (115, ar 4 sz')] h) := by
  intro h
  refine E_in (lv := [_, _]) rfl ?_
  refine E_aload pf_142_0 rfl ?_
  refine E_aload pf_142_1 rfl ?_
  refine F_v1v (l' := [(_, _), (_, _), (_, _), (_, _), (_, _)]) pf_142_2 (h140) (And.intro rfl (And.intro rfl (And.intro rfl (And.intro rfl (And.intro rfl (trivial)))))) rfl rfl rfl rfl ?_
  refine E_if_eq_t pf_142_5 (by omega) ?_
  refine E_iconst pf_142_12 ?_
  refine F_v2v (l' := [(_, _), (_, _), (_, _), (_, _), (_, _)]) pf_142_13 (c108_1) (And.intro rfl (trivial)) rfl rfl rfl rfl ?_
  refine E_if_eq_f pf_142_16 (by omega) ?_
  refine E_iconst pf_142_19 ?_
  exact E_iret pf_142_20 rfl
theorem lod_ok {dn0 : Int} {C6' P5' R10' G' : Int → Int} {d5' k5' n5' rc' rd' rk' rv' rr' : Int} (hC : (∀ q, -9 ≤ C6' q ∧ C6' q ≤ 9)) (hP : (∀ q, -9 ≤ P5' q ∧ P5' q ≤ 9)) (hC0 : (∀ q, -9 ≤ C q ∧ C q ≤ 9)) (hP0 : (∀ q, -9 ≤ P q ∧ P q ≤ 9)) (h : rgd d5' k5' n5' rc' rd' rk' rv' rr' C6' P5' R10' G') : ∃ dn vn rn : Nat, (d5' = dn ∧ rd' = dn ∧ k5' = rk' ∧ n5' = vn ∧ rv' = vn ∧ rc' = rn ∧ rr' = rn) ∧ plk dn vn rn (zcpy C6' C 0 0 96) (zcpy P5' P 0 0 (4 * (vn : Int))) ∧ okq vn (zcpy R10' R 0 0 20) (zu V 0 0) (zu U 0 100) 0 0 (zu (zu (zu (zu (zu (zcpy G' r 0 0 72) 20 0) 44 100) 68 1) 69 0) 70 0) 1 := by
  obtain ⟨dn, vn, rn, e1, e2, e3, e4, e5, e6, e7, e8, e9⟩ := h
  have hC2 : ∀ v j : Int, 0 ≤ v → v < vn → 0 ≤ j → j < 4 → zcpy C6' C 0 0 96 (v * 4 + j) = C6' (v * 4 + j) := fun v j h1 h2 h3 h4 => by rw [zcpy_at (by omega)]; congr 1; omega
  have hP2 : ∀ v j : Int, 0 ≤ v → v < vn → 0 ≤ j → j < 4 → zcpy P5' P 0 0 (4 * (vn : Int)) (4 * v + j) = P5' (4 * v + j) := fun v j h1 h2 h3 h4 => by rw [zcpy_at (by omega)]; congr 1; omega
  refine ⟨dn, vn, rn, e1, ⟨⟨e3, e4, e5, zcpy_b9 hC hC0⟩, ⟨e3, e4, e5, zcpy_b9 hP hP0⟩, fun v j h1 h2 h3 h4 => ?_, fun v j h1 h2 h3 h4 => ?_⟩, rst_ok (v := 0) (r := zcpy G' r 0 0 72) (fun x h1 h2 => ?_) ⟨fun a j h1 h2 h3 h4 => ?_, fun a h1 h2 => ?_⟩ (by omega) rfl rfl rfl⟩
  · rw [hC2 v j h1 h2 h3 h4, hP2 v j h1 h2 h3 h4]; exact kl_same hC hP e6 ⟨h1, h2⟩ ⟨h3, h4⟩
  · rw [hP2 v j h1 h2 (by omega) h4]; exact kl_zero hP e7 ⟨h1, h2⟩ ⟨h3, by omega, h4⟩
  · rw [zcpy_at (by omega), zcpy_at (by omega), e8 _ (by omega) (by omega)]
  · rw [zcpy_at (by omega), show (0 : Int) + (a * 5 + j - 0) = a * 5 + j by omega]; exact e9.1 a j h1 h2 h3 h4
  · rw [zcpy_at (by omega), show (0 : Int) + (a * 5 + 4 - 0) = a * 5 + 4 by omega]; exact e9.2 a h1 h2
end LOD
