/-! The ring of remembered states and the diary. -/
abbrev rq34 : Int → Nat := fun i => 34 + 4 * i.toNat
abbrev oM (c nx : Int) : pd_E := ob 1 [.int (ii c), .int (ii nx), .ref 33]
abbrev LM (c nx : Int) (S : pg) (M : Nat → pg) : pd_L := [(24, pst 24 S), (25, ar 20 S.2.1), (26, ar 24 S.2.2.2.1), (27, ar 24 S.2.2.2.2.1), (32, oM c nx), (33, rr 14 rq34), (34, pst 34 (M 0)), (35, ar 20 (M 0).2.1), (36, ar 24 (M 0).2.2.2.1), (37, ar 24 (M 0).2.2.2.2.1), (38, pst 38 (M 1)), (39, ar 20 (M 1).2.1), (40, ar 24 (M 1).2.2.2.1), (41, ar 24 (M 1).2.2.2.2.1), (42, pst 42 (M 2)), (43, ar 20 (M 2).2.1), (44, ar 24 (M 2).2.2.2.1), (45, ar 24 (M 2).2.2.2.2.1), (46, pst 46 (M 3)), (47, ar 20 (M 3).2.1), (48, ar 24 (M 3).2.2.2.1), (49, ar 24 (M 3).2.2.2.2.1), (50, pst 50 (M 4)), (51, ar 20 (M 4).2.1), (52, ar 24 (M 4).2.2.2.1), (53, ar 24 (M 4).2.2.2.2.1), (54, pst 54 (M 5)), (55, ar 20 (M 5).2.1), (56, ar 24 (M 5).2.2.2.1), (57, ar 24 (M 5).2.2.2.2.1), (58, pst 58 (M 6)), (59, ar 20 (M 6).2.1), (60, ar 24 (M 6).2.2.2.1), (61, ar 24 (M 6).2.2.2.2.1), (62, pst 62 (M 7)), (63, ar 20 (M 7).2.1), (64, ar 24 (M 7).2.2.2.1), (65, ar 24 (M 7).2.2.2.2.1), (66, pst 66 (M 8)), (67, ar 20 (M 8).2.1), (68, ar 24 (M 8).2.2.2.1), (69, ar 24 (M 8).2.2.2.2.1), (70, pst 70 (M 9)), (71, ar 20 (M 9).2.1), (72, ar 24 (M 9).2.2.2.1), (73, ar 24 (M 9).2.2.2.2.1), (74, pst 74 (M 10)), (75, ar 20 (M 10).2.1), (76, ar 24 (M 10).2.2.2.1), (77, ar 24 (M 10).2.2.2.2.1), (78, pst 78 (M 11)), (79, ar 20 (M 11).2.1), (80, ar 24 (M 11).2.2.2.1), (81, ar 24 (M 11).2.2.2.2.1), (82, pst 82 (M 12)), (83, ar 20 (M 12).2.1), (84, ar 24 (M 12).2.2.2.1), (85, ar 24 (M 12).2.2.2.2.1), (86, pst 86 (M 13)), (87, ar 20 (M 13).2.1), (88, ar 24 (M 13).2.2.2.1), (89, ar 24 (M 13).2.2.2.2.1)]
def mup (M : Nat → pg) (k : Nat) (p : pg) : Nat → pg := fun i => if i = k then p else M i
section MEM
variable {c : Int} {S : pg} {M : Nat → pg}
theorem c22_0 (hc : 0 ≤ c ∧ c ≤ 14) : ∀ h, Ca 22 [.ref 32, .ref 24] (wd (LM c ((0 : Nat) : Int) S M) h) (.inl none, wd (LM (if 14 < c + 1 then 14 else c + 1) ((((0 : Nat) : Int) + 1) % 14) S (mup M 0 (pcp (M 0) S))) h) := by
  intro h
  refine E_in (lv := [_, _]) rfl ?_
  refine E_aload pf_22_0 rfl ?_
  refine F_getf pf_22_1 rfl rfl rfl ?_
  refine E_aload pf_22_4 rfl ?_
  refine F_getf pf_22_5 rfl rfl rfl ?_
  refine F_aald pf_22_8 rfl (by omega) ?_
  refine E_top (u := .ref 34) rfl ?_
  refine E_aload pf_22_9 rfl ?_
  refine F_v2u (l' := [(_, _), (_, _), (_, _), (_, _), (_, _), (_, _), (_, _), (_, _), (_, _), (_, _), (_, _), (_, _), (_, _), (_, _), (_, _), (_, _), (_, _), (_, _), (_, _), (_, _), (_, _), (_, _), (_, _), (_, _), (_, _), (_, _), (_, _), (_, _), (_, _), (_, _), (_, _), (_, _), (_, _), (_, _), (_, _), (_, _), (_, _), (_, _), (_, _), (_, _), (_, _), (_, _), (_, _), (_, _), (_, _), (_, _), (_, _), (_, _), (_, _), (_, _), (_, _), (_, _), (_, _), (_, _), (_, _), (_, _), (_, _), (_, _), (_, _), (_, _), (_, _), (_, _)]) pf_22_10 (c52_34_24) (And.intro rfl (And.intro rfl (And.intro rfl (And.intro rfl (And.intro rfl (And.intro rfl (And.intro rfl (And.intro rfl (trivial))))))))) rfl rfl rfl rfl ?_
  refine E_aload pf_22_13 rfl ?_
  refine E_aload pf_22_14 rfl ?_
  refine F_getf pf_22_15 rfl rfl rfl ?_
  refine E_iconst pf_22_18 ?_
  refine E_iadd pf_22_19 ?_
  refine E_iconst pf_22_20 ?_
  refine E_irem pf_22_22 (by omega) ?_
  refine F_putf (l' := [(_, _), (_, _), (_, _), (_, _), (_, _), (_, _), (_, _), (_, _), (_, _), (_, _), (_, _), (_, _), (_, _), (_, _), (_, _), (_, _), (_, _), (_, _), (_, _), (_, _), (_, _), (_, _), (_, _), (_, _), (_, _), (_, _), (_, _), (_, _), (_, _), (_, _), (_, _), (_, _), (_, _), (_, _), (_, _), (_, _), (_, _), (_, _), (_, _), (_, _), (_, _), (_, _), (_, _), (_, _), (_, _), (_, _), (_, _), (_, _), (_, _), (_, _), (_, _), (_, _), (_, _), (_, _), (_, _), (_, _), (_, _), (_, _), (_, _), (_, _), (_, _), (_, _)]) (x := ob _ [_, _, _]) pf_22_23 rfl rfl rfl rfl rfl ?_
  refine E_aload pf_22_26 rfl ?_
  refine E_aload pf_22_27 rfl ?_
  refine F_getf pf_22_28 rfl rfl rfl ?_
  refine E_iconst pf_22_31 ?_
  refine E_iadd pf_22_32 ?_
  refine E_iconst pf_22_33 ?_
  refine E_minI pf_22_35 (by omega) rfl ?_
  refine F_putf (l' := [(_, _), (_, _), (_, _), (_, _), (_, _), (_, _), (_, _), (_, _), (_, _), (_, _), (_, _), (_, _), (_, _), (_, _), (_, _), (_, _), (_, _), (_, _), (_, _), (_, _), (_, _), (_, _), (_, _), (_, _), (_, _), (_, _), (_, _), (_, _), (_, _), (_, _), (_, _), (_, _), (_, _), (_, _), (_, _), (_, _), (_, _), (_, _), (_, _), (_, _), (_, _), (_, _), (_, _), (_, _), (_, _), (_, _), (_, _), (_, _), (_, _), (_, _), (_, _), (_, _), (_, _), (_, _), (_, _), (_, _), (_, _), (_, _), (_, _), (_, _), (_, _), (_, _)]) (x := ob _ [_, _, _]) pf_22_38 rfl rfl rfl rfl rfl ?_
  exact E_vret pf_22_41 rfl
theorem c22_1 (hc : 0 ≤ c ∧ c ≤ 14) : ∀ h, Ca 22 [.ref 32, .ref 24] (wd (LM c ((1 : Nat) : Int) S M) h) (.inl none, wd (LM (if 14 < c + 1 then 14 else c + 1) ((((1 : Nat) : Int) + 1) % 14) S (mup M 1 (pcp (M 1) S))) h) := by
  intro h
  refine E_in (lv := [_, _]) rfl ?_
  refine E_aload pf_22_0 rfl ?_
  refine F_getf pf_22_1 rfl rfl rfl ?_
  refine E_aload pf_22_4 rfl ?_
  refine F_getf pf_22_5 rfl rfl rfl ?_
  refine F_aald pf_22_8 rfl (by omega) ?_
  refine E_top (u := .ref 38) rfl ?_
  refine E_aload pf_22_9 rfl ?_
  refine F_v2u (l' := [(_, _), (_, _), (_, _), (_, _), (_, _), (_, _), (_, _), (_, _), (_, _), (_, _), (_, _), (_, _), (_, _), (_, _), (_, _), (_, _), (_, _), (_, _), (_, _), (_, _), (_, _), (_, _), (_, _), (_, _), (_, _), (_, _), (_, _), (_, _), (_, _), (_, _), (_, _), (_, _), (_, _), (_, _), (_, _), (_, _), (_, _), (_, _), (_, _), (_, _), (_, _), (_, _), (_, _), (_, _), (_, _), (_, _), (_, _), (_, _), (_, _), (_, _), (_, _), (_, _), (_, _), (_, _), (_, _), (_, _), (_, _), (_, _), (_, _), (_, _), (_, _), (_, _)]) pf_22_10 (c52_38_24) (And.intro rfl (And.intro rfl (And.intro rfl (And.intro rfl (And.intro rfl (And.intro rfl (And.intro rfl (And.intro rfl (trivial))))))))) rfl rfl rfl rfl ?_
  refine E_aload pf_22_13 rfl ?_
  refine E_aload pf_22_14 rfl ?_
  refine F_getf pf_22_15 rfl rfl rfl ?_
  refine E_iconst pf_22_18 ?_
  refine E_iadd pf_22_19 ?_
  refine E_iconst pf_22_20 ?_
  refine E_irem pf_22_22 (by omega) ?_
  refine F_putf (l' := [(_, _), (_, _), (_, _), (_, _), (_, _), (_, _), (_, _), (_, _), (_, _), (_, _), (_, _), (_, _), (_, _), (_, _), (_, _), (_, _), (_, _), (_, _), (_, _), (_, _), (_, _), (_, _), (_, _), (_, _), (_, _), (_, _), (_, _), (_, _), (_, _), (_, _), (_, _), (_, _), (_, _), (_, _), (_, _), (_, _), (_, _), (_, _), (_, _), (_, _), (_, _), (_, _), (_, _), (_, _), (_, _), (_, _), (_, _), (_, _), (_, _), (_, _), (_, _), (_, _), (_, _), (_, _), (_, _), (_, _), (_, _), (_, _), (_, _), (_, _), (_, _), (_, _)]) (x := ob _ [_, _, _]) pf_22_23 rfl rfl rfl rfl rfl ?_
  refine E_aload pf_22_26 rfl ?_
  refine E_aload pf_22_27 rfl ?_
  refine F_getf pf_22_28 rfl rfl rfl ?_
  refine E_iconst pf_22_31 ?_
  refine E_iadd pf_22_32 ?_
  refine E_iconst pf_22_33 ?_
  refine E_minI pf_22_35 (by omega) rfl ?_
  refine F_putf (l' := [(_, _), (_, _), (_, _), (_, _), (_, _), (_, _), (_, _), (_, _), (_, _), (_, _), (_, _), (_, _), (_, _), (_, _), (_, _), (_, _), (_, _), (_, _), (_, _), (_, _), (_, _), (_, _), (_, _), (_, _), (_, _), (_, _), (_, _), (_, _), (_, _), (_, _), (_, _), (_, _), (_, _), (_, _), (_, _), (_, _), (_, _), (_, _), (_, _), (_, _), (_, _), (_, _), (_, _), (_, _), (_, _), (_, _), (_, _), (_, _), (_, _), (_, _), (_, _), (_, _), (_, _), (_, _), (_, _), (_, _), (_, _), (_, _), (_, _), (_, _), (_, _), (_, _)]) (x := ob _ [_, _, _]) pf_22_38 rfl rfl rfl rfl rfl ?_
  exact E_vret pf_22_41 rfl
theorem c22_2 (hc : 0 ≤ c ∧ c ≤ 14) : ∀ h, Ca 22 [.ref 32, .ref 24] (wd (LM c ((2 : Nat) : Int) S M) h) (.inl none, wd (LM (if 14 < c + 1 then 14 else c + 1) ((((2 : Nat) : Int) + 1) % 14) S (mup M 2 (pcp (M 2) S))) h) := by
  intro h
  refine E_in (lv := [_, _]) rfl ?_
  refine E_aload pf_22_0 rfl ?_
  refine F_getf pf_22_1 rfl rfl rfl ?_
  refine E_aload pf_22_4 rfl ?_
  refine F_getf pf_22_5 rfl rfl rfl ?_
  refine F_aald pf_22_8 rfl (by omega) ?_
  refine E_top (u := .ref 42) rfl ?_
  refine E_aload pf_22_9 rfl ?_
  refine F_v2u (l' := [(_, _), (_, _), (_, _), (_, _), (_, _), (_, _), (_, _), (_, _), (_, _), (_, _), (_, _), (_, _), (_, _), (_, _), (_, _), (_, _), (_, _), (_, _), (_, _), (_, _), (_, _), (_, _), (_, _), (_, _), (_, _), (_, _), (_, _), (_, _), (_, _), (_, _), (_, _), (_, _), (_, _), (_, _), (_, _), (_, _), (_, _), (_, _), (_, _), (_, _), (_, _), (_, _), (_, _), (_, _), (_, _), (_, _), (_, _), (_, _), (_, _), (_, _), (_, _), (_, _), (_, _), (_, _), (_, _), (_, _), (_, _), (_, _), (_, _), (_, _), (_, _), (_, _)]) pf_22_10 (c52_42_24) (And.intro rfl (And.intro rfl (And.intro rfl (And.intro rfl (And.intro rfl (And.intro rfl (And.intro rfl (And.intro rfl (trivial))))))))) rfl rfl rfl rfl ?_
  refine E_aload pf_22_13 rfl ?_
  refine E_aload pf_22_14 rfl ?_
  refine F_getf pf_22_15 rfl rfl rfl ?_
  refine E_iconst pf_22_18 ?_
  refine E_iadd pf_22_19 ?_
  refine E_iconst pf_22_20 ?_
  refine E_irem pf_22_22 (by omega) ?_
  refine F_putf (l' := [(_, _), (_, _), (_, _), (_, _), (_, _), (_, _), (_, _), (_, _), (_, _), (_, _), (_, _), (_, _), (_, _), (_, _), (_, _), (_, _), (_, _), (_, _), (_, _), (_, _), (_, _), (_, _), (_, _), (_, _), (_, _), (_, _), (_, _), (_, _), (_, _), (_, _), (_, _), (_, _), (_, _), (_, _), (_, _), (_, _), (_, _), (_, _), (_, _), (_, _), (_, _), (_, _), (_, _), (_, _), (_, _), (_, _), (_, _), (_, _), (_, _), (_, _), (_, _), (_, _), (_, _), (_, _), (_, _), (_, _), (_, _), (_, _), (_, _), (_, _), (_, _), (_, _)]) (x := ob _ [_, _, _]) pf_22_23 rfl rfl rfl rfl rfl ?_
  refine E_aload pf_22_26 rfl ?_
  refine E_aload pf_22_27 rfl ?_
  refine F_getf pf_22_28 rfl rfl rfl ?_
  refine E_iconst pf_22_31 ?_
  refine E_iadd pf_22_32 ?_
  refine E_iconst pf_22_33 ?_
  refine E_minI pf_22_35 (by omega) rfl ?_
  refine F_putf (l' := [(_, _), (_, _), (_, _), (_, _), (_, _), (_, _), (_, _), (_, _), (_, _), (_, _), (_, _), (_, _), (_, _), (_, _), (_, _), (_, _), (_, _), (_, _), (_, _), (_, _), (_, _), (_, _), (_, _), (_, _), (_, _), (_, _), (_, _), (_, _), (_, _), (_, _), (_, _), (_, _), (_, _), (_, _), (_, _), (_, _), (_, _), (_, _), (_, _), (_, _), (_, _), (_, _), (_, _), (_, _), (_, _), (_, _), (_, _), (_, _), (_, _), (_, _), (_, _), (_, _), (_, _), (_, _), (_, _), (_, _), (_, _), (_, _), (_, _), (_, _), (_, _), (_, _)]) (x := ob _ [_, _, _]) pf_22_38 rfl rfl rfl rfl rfl ?_
  exact E_vret pf_22_41 rfl
theorem c22_3 (hc : 0 ≤ c ∧ c ≤ 14) : ∀ h, Ca 22 [.ref 32, .ref 24] (wd (LM c ((3 : Nat) : Int) S M) h) (.inl none, wd (LM (if 14 < c + 1 then 14 else c + 1) ((((3 : Nat) : Int) + 1) % 14) S (mup M 3 (pcp (M 3) S))) h) := by
  intro h
  refine E_in (lv := [_, _]) rfl ?_
  refine E_aload pf_22_0 rfl ?_
  refine F_getf pf_22_1 rfl rfl rfl ?_
  refine E_aload pf_22_4 rfl ?_
  refine F_getf pf_22_5 rfl rfl rfl ?_
  refine F_aald pf_22_8 rfl (by omega) ?_
  refine E_top (u := .ref 46) rfl ?_
  refine E_aload pf_22_9 rfl ?_
  refine F_v2u (l' := [(_, _), (_, _), (_, _), (_, _), (_, _), (_, _), (_, _), (_, _), (_, _), (_, _), (_, _), (_, _), (_, _), (_, _), (_, _), (_, _), (_, _), (_, _), (_, _), (_, _), (_, _), (_, _), (_, _), (_, _), (_, _), (_, _), (_, _), (_, _), (_, _), (_, _), (_, _), (_, _), (_, _), (_, _), (_, _), (_, _), (_, _), (_, _), (_, _), (_, _), (_, _), (_, _), (_, _), (_, _), (_, _), (_, _), (_, _), (_, _), (_, _), (_, _), (_, _), (_, _), (_, _), (_, _), (_, _), (_, _), (_, _), (_, _), (_, _), (_, _), (_, _), (_, _)]) pf_22_10 (c52_46_24) (And.intro rfl (And.intro rfl (And.intro rfl (And.intro rfl (And.intro rfl (And.intro rfl (And.intro rfl (And.intro rfl (trivial))))))))) rfl rfl rfl rfl ?_
  refine E_aload pf_22_13 rfl ?_
  refine E_aload pf_22_14 rfl ?_
  refine F_getf pf_22_15 rfl rfl rfl ?_
  refine E_iconst pf_22_18 ?_
  refine E_iadd pf_22_19 ?_
  refine E_iconst pf_22_20 ?_
  refine E_irem pf_22_22 (by omega) ?_
  refine F_putf (l' := [(_, _), (_, _), (_, _), (_, _), (_, _), (_, _), (_, _), (_, _), (_, _), (_, _), (_, _), (_, _), (_, _), (_, _), (_, _), (_, _), (_, _), (_, _), (_, _), (_, _), (_, _), (_, _), (_, _), (_, _), (_, _), (_, _), (_, _), (_, _), (_, _), (_, _), (_, _), (_, _), (_, _), (_, _), (_, _), (_, _), (_, _), (_, _), (_, _), (_, _), (_, _), (_, _), (_, _), (_, _), (_, _), (_, _), (_, _), (_, _), (_, _), (_, _), (_, _), (_, _), (_, _), (_, _), (_, _), (_, _), (_, _), (_, _), (_, _), (_, _), (_, _), (_, _)]) (x := ob _ [_, _, _]) pf_22_23 rfl rfl rfl rfl rfl ?_
  refine E_aload pf_22_26 rfl ?_
  refine E_aload pf_22_27 rfl ?_
  refine F_getf pf_22_28 rfl rfl rfl ?_
  refine E_iconst pf_22_31 ?_
  refine E_iadd pf_22_32 ?_
  refine E_iconst pf_22_33 ?_
  refine E_minI pf_22_35 (by omega) rfl ?_
  refine F_putf (l' := [(_, _), (_, _), (_, _), (_, _), (_, _), (_, _), (_, _), (_, _), (_, _), (_, _), (_, _), (_, _), (_, _), (_, _), (_, _), (_, _), (_, _), (_, _), (_, _), (_, _), (_, _), (_, _), (_, _), (_, _), (_, _), (_, _), (_, _), (_, _), (_, _), (_, _), (_, _), (_, _), (_, _), (_, _), (_, _), (_, _), (_, _), (_, _), (_, _), (_, _), (_, _), (_, _), (_, _), (_, _), (_, _), (_, _), (_, _), (_, _), (_, _), (_, _), (_, _), (_, _), (_, _), (_, _), (_, _), (_, _), (_, _), (_, _), (_, _), (_, _), (_, _), (_, _)]) (x := ob _ [_, _, _]) pf_22_38 rfl rfl rfl rfl rfl ?_
  exact E_vret pf_22_41 rfl
theorem c22_4 (hc : 0 ≤ c ∧ c ≤ 14) : ∀ h, Ca 22 [.ref 32, .ref 24] (wd (LM c ((4 : Nat) : Int) S M) h) (.inl none, wd (LM (if 14 < c + 1 then 14 else c + 1) ((((4 : Nat) : Int) + 1) % 14) S (mup M 4 (pcp (M 4) S))) h) := by
  intro h
  refine E_in (lv := [_, _]) rfl ?_
  refine E_aload pf_22_0 rfl ?_
  refine F_getf pf_22_1 rfl rfl rfl ?_
  refine E_aload pf_22_4 rfl ?_
  refine F_getf pf_22_5 rfl rfl rfl ?_
  refine F_aald pf_22_8 rfl (by omega) ?_
  refine E_top (u := .ref 50) rfl ?_
  refine E_aload pf_22_9 rfl ?_
  refine F_v2u (l' := [(_, _), (_, _), (_, _), (_, _), (_, _), (_, _), (_, _), (_, _), (_, _), (_, _), (_, _), (_, _), (_, _), (_, _), (_, _), (_, _), (_, _), (_, _), (_, _), (_, _), (_, _), (_, _), (_, _), (_, _), (_, _), (_, _), (_, _), (_, _), (_, _), (_, _), (_, _), (_, _), (_, _), (_, _), (_, _), (_, _), (_, _), (_, _), (_, _), (_, _), (_, _), (_, _), (_, _), (_, _), (_, _), (_, _), (_, _), (_, _), (_, _), (_, _), (_, _), (_, _), (_, _), (_, _), (_, _), (_, _), (_, _), (_, _), (_, _), (_, _), (_, _), (_, _)]) pf_22_10 (c52_50_24) (And.intro rfl (And.intro rfl (And.intro rfl (And.intro rfl (And.intro rfl (And.intro rfl (And.intro rfl (And.intro rfl (trivial))))))))) rfl rfl rfl rfl ?_
  refine E_aload pf_22_13 rfl ?_
  refine E_aload pf_22_14 rfl ?_
  refine F_getf pf_22_15 rfl rfl rfl ?_
  refine E_iconst pf_22_18 ?_
  refine E_iadd pf_22_19 ?_
  refine E_iconst pf_22_20 ?_
  refine E_irem pf_22_22 (by omega) ?_
  refine F_putf (l' := [(_, _), (_, _), (_, _), (_, _), (_, _), (_, _), (_, _), (_, _), (_, _), (_, _), (_, _), (_, _), (_, _), (_, _), (_, _), (_, _), (_, _), (_, _), (_, _), (_, _), (_, _), (_, _), (_, _), (_, _), (_, _), (_, _), (_, _), (_, _), (_, _), (_, _), (_, _), (_, _), (_, _), (_, _), (_, _), (_, _), (_, _), (_, _), (_, _), (_, _), (_, _), (_, _), (_, _), (_, _), (_, _), (_, _), (_, _), (_, _), (_, _), (_, _), (_, _), (_, _), (_, _), (_, _), (_, _), (_, _), (_, _), (_, _), (_, _), (_, _), (_, _), (_, _)]) (x := ob _ [_, _, _]) pf_22_23 rfl rfl rfl rfl rfl ?_
  refine E_aload pf_22_26 rfl ?_
  refine E_aload pf_22_27 rfl ?_
  refine F_getf pf_22_28 rfl rfl rfl ?_
  refine E_iconst pf_22_31 ?_
  refine E_iadd pf_22_32 ?_
  refine E_iconst pf_22_33 ?_
  refine E_minI pf_22_35 (by omega) rfl ?_
  refine F_putf (l' := [(_, _), (_, _), (_, _), (_, _), (_, _), (_, _), (_, _), (_, _), (_, _), (_, _), (_, _), (_, _), (_, _), (_, _), (_, _), (_, _), (_, _), (_, _), (_, _), (_, _), (_, _), (_, _), (_, _), (_, _), (_, _), (_, _), (_, _), (_, _), (_, _), (_, _), (_, _), (_, _), (_, _), (_, _), (_, _), (_, _), (_, _), (_, _), (_, _), (_, _), (_, _), (_, _), (_, _), (_, _), (_, _), (_, _), (_, _), (_, _), (_, _), (_, _), (_, _), (_, _), (_, _), (_, _), (_, _), (_, _), (_, _), (_, _), (_, _), (_, _), (_, _), (_, _)]) (x := ob _ [_, _, _]) pf_22_38 rfl rfl rfl rfl rfl ?_
  exact E_vret pf_22_41 rfl
theorem c22_5 (hc : 0 ≤ c ∧ c ≤ 14) : ∀ h, Ca 22 [.ref 32, .ref 24] (wd (LM c ((5 : Nat) : Int) S M) h) (.inl none, wd (LM (if 14 < c + 1 then 14 else c + 1) ((((5 : Nat) : Int) + 1) % 14) S (mup M 5 (pcp (M 5) S))) h) := by
  intro h
  refine E_in (lv := [_, _]) rfl ?_
  refine E_aload pf_22_0 rfl ?_
  refine F_getf pf_22_1 rfl rfl rfl ?_
  refine E_aload pf_22_4 rfl ?_
  refine F_getf pf_22_5 rfl rfl rfl ?_
  refine F_aald pf_22_8 rfl (by omega) ?_
  refine E_top (u := .ref 54) rfl ?_
  refine E_aload pf_22_9 rfl ?_
  refine F_v2u (l' := [(_, _), (_, _), (_, _), (_, _), (_, _), (_, _), (_, _), (_, _), (_, _), (_, _), (_, _), (_, _), (_, _), (_, _), (_, _), (_, _), (_, _), (_, _), (_, _), (_, _), (_, _), (_, _), (_, _), (_, _), (_, _), (_, _), (_, _), (_, _), (_, _), (_, _), (_, _), (_, _), (_, _), (_, _), (_, _), (_, _), (_, _), (_, _), (_, _), (_, _), (_, _), (_, _), (_, _), (_, _), (_, _), (_, _), (_, _), (_, _), (_, _), (_, _), (_, _), (_, _), (_, _), (_, _), (_, _), (_, _), (_, _), (_, _), (_, _), (_, _), (_, _), (_, _)]) pf_22_10 (c52_54_24) (And.intro rfl (And.intro rfl (And.intro rfl (And.intro rfl (And.intro rfl (And.intro rfl (And.intro rfl (And.intro rfl (trivial))))))))) rfl rfl rfl rfl ?_
  refine E_aload pf_22_13 rfl ?_
  refine E_aload pf_22_14 rfl ?_
  refine F_getf pf_22_15 rfl rfl rfl ?_
  refine E_iconst pf_22_18 ?_
  refine E_iadd pf_22_19 ?_
  refine E_iconst pf_22_20 ?_
  refine E_irem pf_22_22 (by omega) ?_
  refine F_putf (l' := [(_, _), (_, _), (_, _), (_, _), (_, _), (_, _), (_, _), (_, _), (_, _), (_, _), (_, _), (_, _), (_, _), (_, _), (_, _), (_, _), (_, _), (_, _), (_, _), (_, _), (_, _), (_, _), (_, _), (_, _), (_, _), (_, _), (_, _), (_, _), (_, _), (_, _), (_, _), (_, _), (_, _), (_, _), (_, _), (_, _), (_, _), (_, _), (_, _), (_, _), (_, _), (_, _), (_, _), (_, _), (_, _), (_, _), (_, _), (_, _), (_, _), (_, _), (_, _), (_, _), (_, _), (_, _), (_, _), (_, _), (_, _), (_, _), (_, _), (_, _), (_, _), (_, _)]) (x := ob _ [_, _, _]) pf_22_23 rfl rfl rfl rfl rfl ?_
  refine E_aload pf_22_26 rfl ?_
  refine E_aload pf_22_27 rfl ?_
  refine F_getf pf_22_28 rfl rfl rfl ?_
  refine E_iconst pf_22_31 ?_
  refine E_iadd pf_22_32 ?_
  refine E_iconst pf_22_33 ?_
  refine E_minI pf_22_35 (by omega) rfl ?_
  refine F_putf (l' := [(_, _), (_, _), (_, _), (_, _), (_, _), (_, _), (_, _), (_, _), (_, _), (_, _), (_, _), (_, _), (_, _), (_, _), (_, _), (_, _), (_, _), (_, _), (_, _), (_, _), (_, _), (_, _), (_, _), (_, _), (_, _), (_, _), (_, _), (_, _), (_, _), (_, _), (_, _), (_, _), (_, _), (_, _), (_, _), (_, _), (_, _), (_, _), (_, _), (_, _), (_, _), (_, _), (_, _), (_, _), (_, _), (_, _), (_, _), (_, _), (_, _), (_, _), (_, _), (_, _), (_, _), (_, _), (_, _), (_, _), (_, _), (_, _), (_, _), (_, _), (_, _), (_, _)]) (x := ob _ [_, _, _]) pf_22_38 rfl rfl rfl rfl rfl ?_
  exact E_vret pf_22_41 rfl
theorem c22_6 (hc : 0 ≤ c ∧ c ≤ 14) : ∀ h, Ca 22 [.ref 32, .ref 24] (wd (LM c ((6 : Nat) : Int) S M) h) (.inl none, wd (LM (if 14 < c + 1 then 14 else c + 1) ((((6 : Nat) : Int) + 1) % 14) S (mup M 6 (pcp (M 6) S))) h) := by
  intro h
  refine E_in (lv := [_, _]) rfl ?_
  refine E_aload pf_22_0 rfl ?_
  refine F_getf pf_22_1 rfl rfl rfl ?_
  refine E_aload pf_22_4 rfl ?_
  refine F_getf pf_22_5 rfl rfl rfl ?_
  refine F_aald pf_22_8 rfl (by omega) ?_
  refine E_top (u := .ref 58) rfl ?_
  refine E_aload pf_22_9 rfl ?_
  refine F_v2u (l' := [(_, _), (_, _), (_, _), (_, _), (_, _), (_, _), (_, _), (_, _), (_, _), (_, _), (_, _), (_, _), (_, _), (_, _), (_, _), (_, _), (_, _), (_, _), (_, _), (_, _), (_, _), (_, _), (_, _), (_, _), (_, _), (_, _), (_, _), (_, _), (_, _), (_, _), (_, _), (_, _), (_, _), (_, _), (_, _), (_, _), (_, _), (_, _), (_, _), (_, _), (_, _), (_, _), (_, _), (_, _), (_, _), (_, _), (_, _), (_, _), (_, _), (_, _), (_, _), (_, _), (_, _), (_, _), (_, _), (_, _), (_, _), (_, _), (_, _), (_, _), (_, _), (_, _)]) pf_22_10 (c52_58_24) (And.intro rfl (And.intro rfl (And.intro rfl (And.intro rfl (And.intro rfl (And.intro rfl (And.intro rfl (And.intro rfl (trivial))))))))) rfl rfl rfl rfl ?_
  refine E_aload pf_22_13 rfl ?_
  refine E_aload pf_22_14 rfl ?_
  refine F_getf pf_22_15 rfl rfl rfl ?_
  refine E_iconst pf_22_18 ?_
  refine E_iadd pf_22_19 ?_
  refine E_iconst pf_22_20 ?_
  refine E_irem pf_22_22 (by omega) ?_
  refine F_putf (l' := [(_, _), (_, _), (_, _), (_, _), (_, _), (_, _), (_, _), (_, _), (_, _), (_, _), (_, _), (_, _), (_, _), (_, _), (_, _), (_, _), (_, _), (_, _), (_, _), (_, _), (_, _), (_, _), (_, _), (_, _), (_, _), (_, _), (_, _), (_, _), (_, _), (_, _), (_, _), (_, _), (_, _), (_, _), (_, _), (_, _), (_, _), (_, _), (_, _), (_, _), (_, _), (_, _), (_, _), (_, _), (_, _), (_, _), (_, _), (_, _), (_, _), (_, _), (_, _), (_, _), (_, _), (_, _), (_, _), (_, _), (_, _), (_, _), (_, _), (_, _), (_, _), (_, _)]) (x := ob _ [_, _, _]) pf_22_23 rfl rfl rfl rfl rfl ?_
  refine E_aload pf_22_26 rfl ?_
  refine E_aload pf_22_27 rfl ?_
  refine F_getf pf_22_28 rfl rfl rfl ?_
  refine E_iconst pf_22_31 ?_
  refine E_iadd pf_22_32 ?_
  refine E_iconst pf_22_33 ?_
  refine E_minI pf_22_35 (by omega) rfl ?_
  refine F_putf (l' := [(_, _), (_, _), (_, _), (_, _), (_, _), (_, _), (_, _), (_, _), (_, _), (_, _), (_, _), (_, _), (_, _), (_, _), (_, _), (_, _), (_, _), (_, _), (_, _), (_, _), (_, _), (_, _), (_, _), (_, _), (_, _), (_, _), (_, _), (_, _), (_, _), (_, _), (_, _), (_, _), (_, _), (_, _), (_, _), (_, _), (_, _), (_, _), (_, _), (_, _), (_, _), (_, _), (_, _), (_, _), (_, _), (_, _), (_, _), (_, _), (_, _), (_, _), (_, _), (_, _), (_, _), (_, _), (_, _), (_, _), (_, _), (_, _), (_, _), (_, _), (_, _), (_, _)]) (x := ob _ [_, _, _]) pf_22_38 rfl rfl rfl rfl rfl ?_
  exact E_vret pf_22_41 rfl
theorem c22_7 (hc : 0 ≤ c ∧ c ≤ 14) : ∀ h, Ca 22 [.ref 32, .ref 24] (wd (LM c ((7 : Nat) : Int) S M) h) (.inl none, wd (LM (if 14 < c + 1 then 14 else c + 1) ((((7 : Nat) : Int) + 1) % 14) S (mup M 7 (pcp (M 7) S))) h) := by
  intro h
  refine E_in (lv := [_, _]) rfl ?_
  refine E_aload pf_22_0 rfl ?_
  refine F_getf pf_22_1 rfl rfl rfl ?_
  refine E_aload pf_22_4 rfl ?_
  refine F_getf pf_22_5 rfl rfl rfl ?_
  refine F_aald pf_22_8 rfl (by omega) ?_
  refine E_top (u := .ref 62) rfl ?_
  refine E_aload pf_22_9 rfl ?_
  refine F_v2u (l' := [(_, _), (_, _), (_, _), (_, _), (_, _), (_, _), (_, _), (_, _), (_, _), (_, _), (_, _), (_, _), (_, _), (_, _), (_, _), (_, _), (_, _), (_, _), (_, _), (_, _), (_, _), (_, _), (_, _), (_, _), (_, _), (_, _), (_, _), (_, _), (_, _), (_, _), (_, _), (_, _), (_, _), (_, _), (_, _), (_, _), (_, _), (_, _), (_, _), (_, _), (_, _), (_, _), (_, _), (_, _), (_, _), (_, _), (_, _), (_, _), (_, _), (_, _), (_, _), (_, _), (_, _), (_, _), (_, _), (_, _), (_, _), (_, _), (_, _), (_, _), (_, _), (_, _)]) pf_22_10 (c52_62_24) (And.intro rfl (And.intro rfl (And.intro rfl (And.intro rfl (And.intro rfl (And.intro rfl (And.intro rfl (And.intro rfl (trivial))))))))) rfl rfl rfl rfl ?_
  refine E_aload pf_22_13 rfl ?_
  refine E_aload pf_22_14 rfl ?_
  refine F_getf pf_22_15 rfl rfl rfl ?_
  refine E_iconst pf_22_18 ?_
  refine E_iadd pf_22_19 ?_
  refine E_iconst pf_22_20 ?_
  refine E_irem pf_22_22 (by omega) ?_
  refine F_putf (l' := [(_, _), (_, _), (_, _), (_, _), (_, _), (_, _), (_, _), (_, _), (_, _), (_, _), (_, _), (_, _), (_, _), (_, _), (_, _), (_, _), (_, _), (_, _), (_, _), (_, _), (_, _), (_, _), (_, _), (_, _), (_, _), (_, _), (_, _), (_, _), (_, _), (_, _), (_, _), (_, _), (_, _), (_, _), (_, _), (_, _), (_, _), (_, _), (_, _), (_, _), (_, _), (_, _), (_, _), (_, _), (_, _), (_, _), (_, _), (_, _), (_, _), (_, _), (_, _), (_, _), (_, _), (_, _), (_, _), (_, _), (_, _), (_, _), (_, _), (_, _), (_, _), (_, _)]) (x := ob _ [_, _, _]) pf_22_23 rfl rfl rfl rfl rfl ?_
  refine E_aload pf_22_26 rfl ?_
  refine E_aload pf_22_27 rfl ?_
  refine F_getf pf_22_28 rfl rfl rfl ?_
  refine E_iconst pf_22_31 ?_
  refine E_iadd pf_22_32 ?_
  refine E_iconst pf_22_33 ?_
  refine E_minI pf_22_35 (by omega) rfl ?_
  refine F_putf (l' := [(_, _), (_, _), (_, _), (_, _), (_, _), (_, _), (_, _), (_, _), (_, _), (_, _), (_, _), (_, _), (_, _), (_, _), (_, _), (_, _), (_, _), (_, _), (_, _), (_, _), (_, _), (_, _), (_, _), (_, _), (_, _), (_, _), (_, _), (_, _), (_, _), (_, _), (_, _), (_, _), (_, _), (_, _), (_, _), (_, _), (_, _), (_, _), (_, _), (_, _), (_, _), (_, _), (_, _), (_, _), (_, _), (_, _), (_, _), (_, _), (_, _), (_, _), (_, _), (_, _), (_, _), (_, _), (_, _), (_, _), (_, _), (_, _), (_, _), (_, _), (_, _), (_, _)]) (x := ob _ [_, _, _]) pf_22_38 rfl rfl rfl rfl rfl ?_
  exact E_vret pf_22_41 rfl
theorem c22_8 (hc : 0 ≤ c ∧ c ≤ 14) : ∀ h, Ca 22 [.ref 32, .ref 24] (wd (LM c ((8 : Nat) : Int) S M) h) (.inl none, wd (LM (if 14 < c + 1 then 14 else c + 1) ((((8 : Nat) : Int) + 1) % 14) S (mup M 8 (pcp (M 8) S))) h) := by
  intro h
  refine E_in (lv := [_, _]) rfl ?_
  refine E_aload pf_22_0 rfl ?_
  refine F_getf pf_22_1 rfl rfl rfl ?_
  refine E_aload pf_22_4 rfl ?_
  refine F_getf pf_22_5 rfl rfl rfl ?_
  refine F_aald pf_22_8 rfl (by omega) ?_
  refine E_top (u := .ref 66) rfl ?_
  refine E_aload pf_22_9 rfl ?_
  refine F_v2u (l' := [(_, _), (_, _), (_, _), (_, _), (_, _), (_, _), (_, _), (_, _), (_, _), (_, _), (_, _), (_, _), (_, _), (_, _), (_, _), (_, _), (_, _), (_, _), (_, _), (_, _), (_, _), (_, _), (_, _), (_, _), (_, _), (_, _), (_, _), (_, _), (_, _), (_, _), (_, _), (_, _), (_, _), (_, _), (_, _), (_, _), (_, _), (_, _), (_, _), (_, _), (_, _), (_, _), (_, _), (_, _), (_, _), (_, _), (_, _), (_, _), (_, _), (_, _), (_, _), (_, _), (_, _), (_, _), (_, _), (_, _), (_, _), (_, _), (_, _), (_, _), (_, _), (_, _)]) pf_22_10 (c52_66_24) (And.intro rfl (And.intro rfl (And.intro rfl (And.intro rfl (And.intro rfl (And.intro rfl (And.intro rfl (And.intro rfl (trivial))))))))) rfl rfl rfl rfl ?_
  refine E_aload pf_22_13 rfl ?_
  refine E_aload pf_22_14 rfl ?_
  refine F_getf pf_22_15 rfl rfl rfl ?_
  refine E_iconst pf_22_18 ?_
  refine E_iadd pf_22_19 ?_
  refine E_iconst pf_22_20 ?_
  refine E_irem pf_22_22 (by omega) ?_
  refine F_putf (l' := [(_, _), (_, _), (_, _), (_, _), (_, _), (_, _), (_, _), (_, _), (_, _), (_, _), (_, _), (_, _), (_, _), (_, _), (_, _), (_, _), (_, _), (_, _), (_, _), (_, _), (_, _), (_, _), (_, _), (_, _), (_, _), (_, _), (_, _), (_, _), (_, _), (_, _), (_, _), (_, _), (_, _), (_, _), (_, _), (_, _), (_, _), (_, _), (_, _), (_, _), (_, _), (_, _), (_, _), (_, _), (_, _), (_, _), (_, _), (_, _), (_, _), (_, _), (_, _), (_, _), (_, _), (_, _), (_, _), (_, _), (_, _), (_, _), (_, _), (_, _), (_, _), (_, _)]) (x := ob _ [_, _, _]) pf_22_23 rfl rfl rfl rfl rfl ?_
  refine E_aload pf_22_26 rfl ?_
  refine E_aload pf_22_27 rfl ?_
  refine F_getf pf_22_28 rfl rfl rfl ?_
  refine E_iconst pf_22_31 ?_
  refine E_iadd pf_22_32 ?_
  refine E_iconst pf_22_33 ?_
  refine E_minI pf_22_35 (by omega) rfl ?_
  refine F_putf (l' := [(_, _), (_, _), (_, _), (_, _), (_, _), (_, _), (_, _), (_, _), (_, _), (_, _), (_, _), (_, _), (_, _), (_, _), (_, _), (_, _), (_, _), (_, _), (_, _), (_, _), (_, _), (_, _), (_, _), (_, _), (_, _), (_, _), (_, _), (_, _), (_, _), (_, _), (_, _), (_, _), (_, _), (_, _), (_, _), (_, _), (_, _), (_, _), (_, _), (_, _), (_, _), (_, _), (_, _), (_, _), (_, _), (_, _), (_, _), (_, _), (_, _), (_, _), (_, _), (_, _), (_, _), (_, _), (_, _), (_, _), (_, _), (_, _), (_, _), (_, _), (_, _), (_, _)]) (x := ob _ [_, _, _]) pf_22_38 rfl rfl rfl rfl rfl ?_
  exact E_vret pf_22_41 rfl
theorem c22_9 (hc : 0 ≤ c ∧ c ≤ 14) : ∀ h, Ca 22 [.ref 32, .ref 24] (wd (LM c ((9 : Nat) : Int) S M) h) (.inl none, wd (LM (if 14 < c + 1 then 14 else c + 1) ((((9 : Nat) : Int) + 1) % 14) S (mup M 9 (pcp (M 9) S))) h) := by
  intro h
  refine E_in (lv := [_, _]) rfl ?_
  refine E_aload pf_22_0 rfl ?_
  refine F_getf pf_22_1 rfl rfl rfl ?_
  refine E_aload pf_22_4 rfl ?_
  refine F_getf pf_22_5 rfl rfl rfl ?_
  refine F_aald pf_22_8 rfl (by omega) ?_
  refine E_top (u := .ref 70) rfl ?_
  refine E_aload pf_22_9 rfl ?_
  refine F_v2u (l' := [(_, _), (_, _), (_, _), (_, _), (_, _), (_, _), (_, _), (_, _), (_, _), (_, _), (_, _), (_, _), (_, _), (_, _), (_, _), (_, _), (_, _), (_, _), (_, _), (_, _), (_, _), (_, _), (_, _), (_, _), (_, _), (_, _), (_, _), (_, _), (_, _), (_, _), (_, _), (_, _), (_, _), (_, _), (_, _), (_, _), (_, _), (_, _), (_, _), (_, _), (_, _), (_, _), (_, _), (_, _), (_, _), (_, _), (_, _), (_, _), (_, _), (_, _), (_, _), (_, _), (_, _), (_, _), (_, _), (_, _), (_, _), (_, _), (_, _), (_, _), (_, _), (_, _)]) pf_22_10 (c52_70_24) (And.intro rfl (And.intro rfl (And.intro rfl (And.intro rfl (And.intro rfl (And.intro rfl (And.intro rfl (And.intro rfl (trivial))))))))) rfl rfl rfl rfl ?_
  refine E_aload pf_22_13 rfl ?_
  refine E_aload pf_22_14 rfl ?_
  refine F_getf pf_22_15 rfl rfl rfl ?_
  refine E_iconst pf_22_18 ?_
  refine E_iadd pf_22_19 ?_
  refine E_iconst pf_22_20 ?_
  refine E_irem pf_22_22 (by omega) ?_
  refine F_putf (l' := [(_, _), (_, _), (_, _), (_, _), (_, _), (_, _), (_, _), (_, _), (_, _), (_, _), (_, _), (_, _), (_, _), (_, _), (_, _), (_, _), (_, _), (_, _), (_, _), (_, _), (_, _), (_, _), (_, _), (_, _), (_, _), (_, _), (_, _), (_, _), (_, _), (_, _), (_, _), (_, _), (_, _), (_, _), (_, _), (_, _), (_, _), (_, _), (_, _), (_, _), (_, _), (_, _), (_, _), (_, _), (_, _), (_, _), (_, _), (_, _), (_, _), (_, _), (_, _), (_, _), (_, _), (_, _), (_, _), (_, _), (_, _), (_, _), (_, _), (_, _), (_, _), (_, _)]) (x := ob _ [_, _, _]) pf_22_23 rfl rfl rfl rfl rfl ?_
  refine E_aload pf_22_26 rfl ?_
  refine E_aload pf_22_27 rfl ?_
  refine F_getf pf_22_28 rfl rfl rfl ?_
  refine E_iconst pf_22_31 ?_
  refine E_iadd pf_22_32 ?_
  refine E_iconst pf_22_33 ?_
  refine E_minI pf_22_35 (by omega) rfl ?_
  refine F_putf (l' := [(_, _), (_, _), (_, _), (_, _), (_, _), (_, _), (_, _), (_, _), (_, _), (_, _), (_, _), (_, _), (_, _), (_, _), (_, _), (_, _), (_, _), (_, _), (_, _), (_, _), (_, _), (_, _), (_, _), (_, _), (_, _), (_, _), (_, _), (_, _), (_, _), (_, _), (_, _), (_, _), (_, _), (_, _), (_, _), (_, _), (_, _), (_, _), (_, _), (_, _), (_, _), (_, _), (_, _), (_, _), (_, _), (_, _), (_, _), (_, _), (_, _), (_, _), (_, _), (_, _), (_, _), (_, _), (_, _), (_, _), (_, _), (_, _), (_, _), (_, _), (_, _), (_, _)]) (x := ob _ [_, _, _]) pf_22_38 rfl rfl rfl rfl rfl ?_
  exact E_vret pf_22_41 rfl
theorem c22_10 (hc : 0 ≤ c ∧ c ≤ 14) : ∀ h, Ca 22 [.ref 32, .ref 24] (wd (LM c ((10 : Nat) : Int) S M) h) (.inl none, wd (LM (if 14 < c + 1 then 14 else c + 1) ((((10 : Nat) : Int) + 1) % 14) S (mup M 10 (pcp (M 10) S))) h) := by
  intro h
  refine E_in (lv := [_, _]) rfl ?_
  refine E_aload pf_22_0 rfl ?_
  refine F_getf pf_22_1 rfl rfl rfl ?_
  refine E_aload pf_22_4 rfl ?_
  refine F_getf pf_22_5 rfl rfl rfl ?_
  refine F_aald pf_22_8 rfl (by omega) ?_
  refine E_top (u := .ref 74) rfl ?_
  refine E_aload pf_22_9 rfl ?_
  refine F_v2u (l' := [(_, _), (_, _), (_, _), (_, _), (_, _), (_, _), (_, _), (_, _), (_, _), (_, _), (_, _), (_, _), (_, _), (_, _), (_, _), (_, _), (_, _), (_, _), (_, _), (_, _), (_, _), (_, _), (_, _), (_, _), (_, _), (_, _), (_, _), (_, _), (_, _), (_, _), (_, _), (_, _), (_, _), (_, _), (_, _), (_, _), (_, _), (_, _), (_, _), (_, _), (_, _), (_, _), (_, _), (_, _), (_, _), (_, _), (_, _), (_, _), (_, _), (_, _), (_, _), (_, _), (_, _), (_, _), (_, _), (_, _), (_, _), (_, _), (_, _), (_, _), (_, _), (_, _)]) pf_22_10 (c52_74_24) (And.intro rfl (And.intro rfl (And.intro rfl (And.intro rfl (And.intro rfl (And.intro rfl (And.intro rfl (And.intro rfl (trivial))))))))) rfl rfl rfl rfl ?_
  refine E_aload pf_22_13 rfl ?_
  refine E_aload pf_22_14 rfl ?_
  refine F_getf pf_22_15 rfl rfl rfl ?_
  refine E_iconst pf_22_18 ?_
  refine E_iadd pf_22_19 ?_
  refine E_iconst pf_22_20 ?_
  refine E_irem pf_22_22 (by omega) ?_
  refine F_putf (l' := [(_, _), (_, _), (_, _), (_, _), (_, _), (_, _), (_, _), (_, _), (_, _), (_, _), (_, _), (_, _), (_, _), (_, _), (_, _), (_, _), (_, _), (_, _), (_, _), (_, _), (_, _), (_, _), (_, _), (_, _), (_, _), (_, _), (_, _), (_, _), (_, _), (_, _), (_, _), (_, _), (_, _), (_, _), (_, _), (_, _), (_, _), (_, _), (_, _), (_, _), (_, _), (_, _), (_, _), (_, _), (_, _), (_, _), (_, _), (_, _), (_, _), (_, _), (_, _), (_, _), (_, _), (_, _), (_, _), (_, _), (_, _), (_, _), (_, _), (_, _), (_, _), (_, _)]) (x := ob _ [_, _, _]) pf_22_23 rfl rfl rfl rfl rfl ?_
  refine E_aload pf_22_26 rfl ?_
  refine E_aload pf_22_27 rfl ?_
  refine F_getf pf_22_28 rfl rfl rfl ?_
  refine E_iconst pf_22_31 ?_
  refine E_iadd pf_22_32 ?_
  refine E_iconst pf_22_33 ?_
  refine E_minI pf_22_35 (by omega) rfl ?_
  refine F_putf (l' := [(_, _), (_, _), (_, _), (_, _), (_, _), (_, _), (_, _), (_, _), (_, _), (_, _), (_, _), (_, _), (_, _), (_, _), (_, _), (_, _), (_, _), (_, _), (_, _), (_, _), (_, _), (_, _), (_, _), (_, _), (_, _), (_, _), (_, _), (_, _), (_, _), (_, _), (_, _), (_, _), (_, _), (_, _), (_, _), (_, _), (_, _), (_, _), (_, _), (_, _), (_, _), (_, _), (_, _), (_, _), (_, _), (_, _), (_, _), (_, _), (_, _), (_, _), (_, _), (_, _), (_, _), (_, _), (_, _), (_, _), (_, _), (_, _), (_, _), (_, _), (_, _), (_, _)]) (x := ob _ [_, _, _]) pf_22_38 rfl rfl rfl rfl rfl ?_
  exact E_vret pf_22_41 rfl
theorem c22_11 (hc : 0 ≤ c ∧ c ≤ 14) : ∀ h, Ca 22 [.ref 32, .ref 24] (wd (LM c ((11 : Nat) : Int) S M) h) (.inl none, wd (LM (if 14 < c + 1 then 14 else c + 1) ((((11 : Nat) : Int) + 1) % 14) S (mup M 11 (pcp (M 11) S))) h) := by
  intro h
  refine E_in (lv := [_, _]) rfl ?_
  refine E_aload pf_22_0 rfl ?_
  refine F_getf pf_22_1 rfl rfl rfl ?_
  refine E_aload pf_22_4 rfl ?_
  refine F_getf pf_22_5 rfl rfl rfl ?_
  refine F_aald pf_22_8 rfl (by omega) ?_
  refine E_top (u := .ref 78) rfl ?_
  refine E_aload pf_22_9 rfl ?_
  refine F_v2u (l' := [(_, _), (_, _), (_, _), (_, _), (_, _), (_, _), (_, _), (_, _), (_, _), (_, _), (_, _), (_, _), (_, _), (_, _), (_, _), (_, _), (_, _), (_, _), (_, _), (_, _), (_, _), (_, _), (_, _), (_, _), (_, _), (_, _), (_, _), (_, _), (_, _), (_, _), (_, _), (_, _), (_, _), (_, _), (_, _), (_, _), (_, _), (_, _), (_, _), (_, _), (_, _), (_, _), (_, _), (_, _), (_, _), (_, _), (_, _), (_, _), (_, _), (_, _), (_, _), (_, _), (_, _), (_, _), (_, _), (_, _), (_, _), (_, _), (_, _), (_, _), (_, _), (_, _)]) pf_22_10 (c52_78_24) (And.intro rfl (And.intro rfl (And.intro rfl (And.intro rfl (And.intro rfl (And.intro rfl (And.intro rfl (And.intro rfl (trivial))))))))) rfl rfl rfl rfl ?_
  refine E_aload pf_22_13 rfl ?_
  refine E_aload pf_22_14 rfl ?_
  refine F_getf pf_22_15 rfl rfl rfl ?_
  refine E_iconst pf_22_18 ?_
  refine E_iadd pf_22_19 ?_
  refine E_iconst pf_22_20 ?_
  refine E_irem pf_22_22 (by omega) ?_
  refine F_putf (l' := [(_, _), (_, _), (_, _), (_, _), (_, _), (_, _), (_, _), (_, _), (_, _), (_, _), (_, _), (_, _), (_, _), (_, _), (_, _), (_, _), (_, _), (_, _), (_, _), (_, _), (_, _), (_, _), (_, _), (_, _), (_, _), (_, _), (_, _), (_, _), (_, _), (_, _), (_, _), (_, _), (_, _), (_, _), (_, _), (_, _), (_, _), (_, _), (_, _), (_, _), (_, _), (_, _), (_, _), (_, _), (_, _), (_, _), (_, _), (_, _), (_, _), (_, _), (_, _), (_, _), (_, _), (_, _), (_, _), (_, _), (_, _), (_, _), (_, _), (_, _), (_, _), (_, _)]) (x := ob _ [_, _, _]) pf_22_23 rfl rfl rfl rfl rfl ?_
  refine E_aload pf_22_26 rfl ?_
  refine E_aload pf_22_27 rfl ?_
  refine F_getf pf_22_28 rfl rfl rfl ?_
  refine E_iconst pf_22_31 ?_
  refine E_iadd pf_22_32 ?_
  refine E_iconst pf_22_33 ?_
  refine E_minI pf_22_35 (by omega) rfl ?_
  refine F_putf (l' := [(_, _), (_, _), (_, _), (_, _), (_, _), (_, _), (_, _), (_, _), (_, _), (_, _), (_, _), (_, _), (_, _), (_, _), (_, _), (_, _), (_, _), (_, _), (_, _), (_, _), (_, _), (_, _), (_, _), (_, _), (_, _), (_, _), (_, _), (_, _), (_, _), (_, _), (_, _), (_, _), (_, _), (_, _), (_, _), (_, _), (_, _), (_, _), (_, _), (_, _), (_, _), (_, _), (_, _), (_, _), (_, _), (_, _), (_, _), (_, _), (_, _), (_, _), (_, _), (_, _), (_, _), (_, _), (_, _), (_, _), (_, _), (_, _), (_, _), (_, _), (_, _), (_, _)]) (x := ob _ [_, _, _]) pf_22_38 rfl rfl rfl rfl rfl ?_
  exact E_vret pf_22_41 rfl
theorem c22_12 (hc : 0 ≤ c ∧ c ≤ 14) : ∀ h, Ca 22 [.ref 32, .ref 24] (wd (LM c ((12 : Nat) : Int) S M) h) (.inl none, wd (LM (if 14 < c + 1 then 14 else c + 1) ((((12 : Nat) : Int) + 1) % 14) S (mup M 12 (pcp (M 12) S))) h) := by
  intro h
  refine E_in (lv := [_, _]) rfl ?_
  refine E_aload pf_22_0 rfl ?_
  refine F_getf pf_22_1 rfl rfl rfl ?_
  refine E_aload pf_22_4 rfl ?_
  refine F_getf pf_22_5 rfl rfl rfl ?_
  refine F_aald pf_22_8 rfl (by omega) ?_
  refine E_top (u := .ref 82) rfl ?_
  refine E_aload pf_22_9 rfl ?_
  refine F_v2u (l' := [(_, _), (_, _), (_, _), (_, _), (_, _), (_, _), (_, _), (_, _), (_, _), (_, _), (_, _), (_, _), (_, _), (_, _), (_, _), (_, _), (_, _), (_, _), (_, _), (_, _), (_, _), (_, _), (_, _), (_, _), (_, _), (_, _), (_, _), (_, _), (_, _), (_, _), (_, _), (_, _), (_, _), (_, _), (_, _), (_, _), (_, _), (_, _), (_, _), (_, _), (_, _), (_, _), (_, _), (_, _), (_, _), (_, _), (_, _), (_, _), (_, _), (_, _), (_, _), (_, _), (_, _), (_, _), (_, _), (_, _), (_, _), (_, _), (_, _), (_, _), (_, _), (_, _)]) pf_22_10 (c52_82_24) (And.intro rfl (And.intro rfl (And.intro rfl (And.intro rfl (And.intro rfl (And.intro rfl (And.intro rfl (And.intro rfl (trivial))))))))) rfl rfl rfl rfl ?_
  refine E_aload pf_22_13 rfl ?_
  refine E_aload pf_22_14 rfl ?_
  refine F_getf pf_22_15 rfl rfl rfl ?_
  refine E_iconst pf_22_18 ?_
  refine E_iadd pf_22_19 ?_
  refine E_iconst pf_22_20 ?_
  refine E_irem pf_22_22 (by omega) ?_
  refine F_putf (l' := [(_, _), (_, _), (_, _), (_, _), (_, _), (_, _), (_, _), (_, _), (_, _), (_, _), (_, _), (_, _), (_, _), (_, _), (_, _), (_, _), (_, _), (_, _), (_, _), (_, _), (_, _), (_, _), (_, _), (_, _), (_, _), (_, _), (_, _), (_, _), (_, _), (_, _), (_, _), (_, _), (_, _), (_, _), (_, _), (_, _), (_, _), (_, _), (_, _), (_, _), (_, _), (_, _), (_, _), (_, _), (_, _), (_, _), (_, _), (_, _), (_, _), (_, _), (_, _), (_, _), (_, _), (_, _), (_, _), (_, _), (_, _), (_, _), (_, _), (_, _), (_, _), (_, _)]) (x := ob _ [_, _, _]) pf_22_23 rfl rfl rfl rfl rfl ?_
  refine E_aload pf_22_26 rfl ?_
  refine E_aload pf_22_27 rfl ?_
  refine F_getf pf_22_28 rfl rfl rfl ?_
  refine E_iconst pf_22_31 ?_
  refine E_iadd pf_22_32 ?_
  refine E_iconst pf_22_33 ?_
  refine E_minI pf_22_35 (by omega) rfl ?_
  refine F_putf (l' := [(_, _), (_, _), (_, _), (_, _), (_, _), (_, _), (_, _), (_, _), (_, _), (_, _), (_, _), (_, _), (_, _), (_, _), (_, _), (_, _), (_, _), (_, _), (_, _), (_, _), (_, _), (_, _), (_, _), (_, _), (_, _), (_, _), (_, _), (_, _), (_, _), (_, _), (_, _), (_, _), (_, _), (_, _), (_, _), (_, _), (_, _), (_, _), (_, _), (_, _), (_, _), (_, _), (_, _), (_, _), (_, _), (_, _), (_, _), (_, _), (_, _), (_, _), (_, _), (_, _), (_, _), (_, _), (_, _), (_, _), (_, _), (_, _), (_, _), (_, _), (_, _), (_, _)]) (x := ob _ [_, _, _]) pf_22_38 rfl rfl rfl rfl rfl ?_
  exact E_vret pf_22_41 rfl
theorem c22_13 (hc : 0 ≤ c ∧ c ≤ 14) : ∀ h, Ca 22 [.ref 32, .ref 24] (wd (LM c ((13 : Nat) : Int) S M) h) (.inl none, wd (LM (if 14 < c + 1 then 14 else c + 1) ((((13 : Nat) : Int) + 1) % 14) S (mup M 13 (pcp (M 13) S))) h) := by
  intro h
  refine E_in (lv := [_, _]) rfl ?_
  refine E_aload pf_22_0 rfl ?_
  refine F_getf pf_22_1 rfl rfl rfl ?_
  refine E_aload pf_22_4 rfl ?_
  refine F_getf pf_22_5 rfl rfl rfl ?_
  refine F_aald pf_22_8 rfl (by omega) ?_
  refine E_top (u := .ref 86) rfl ?_
  refine E_aload pf_22_9 rfl ?_
  refine F_v2u (l' := [(_, _), (_, _), (_, _), (_, _), (_, _), (_, _), (_, _), (_, _), (_, _), (_, _), (_, _), (_, _), (_, _), (_, _), (_, _), (_, _), (_, _), (_, _), (_, _), (_, _), (_, _), (_, _), (_, _), (_, _), (_, _), (_, _), (_, _), (_, _), (_, _), (_, _), (_, _), (_, _), (_, _), (_, _), (_, _), (_, _), (_, _), (_, _), (_, _), (_, _), (_, _), (_, _), (_, _), (_, _), (_, _), (_, _), (_, _), (_, _), (_, _), (_, _), (_, _), (_, _), (_, _), (_, _), (_, _), (_, _), (_, _), (_, _), (_, _), (_, _), (_, _), (_, _)]) pf_22_10 (c52_86_24) (And.intro rfl (And.intro rfl (And.intro rfl (And.intro rfl (And.intro rfl (And.intro rfl (And.intro rfl (And.intro rfl (trivial))))))))) rfl rfl rfl rfl ?_
  refine E_aload pf_22_13 rfl ?_
  refine E_aload pf_22_14 rfl ?_
  refine F_getf pf_22_15 rfl rfl rfl ?_
  refine E_iconst pf_22_18 ?_
  refine E_iadd pf_22_19 ?_
  refine E_iconst pf_22_20 ?_
  refine E_irem pf_22_22 (by omega) ?_
  refine F_putf (l' := [(_, _), (_, _), (_, _), (_, _), (_, _), (_, _), (_, _), (_, _), (_, _), (_, _), (_, _), (_, _), (_, _), (_, _), (_, _), (_, _), (_, _), (_, _), (_, _), (_, _), (_, _), (_, _), (_, _), (_, _), (_, _), (_, _), (_, _), (_, _), (_, _), (_, _), (_, _), (_, _), (_, _), (_, _), (_, _), (_, _), (_, _), (_, _), (_, _), (_, _), (_, _), (_, _), (_, _), (_, _), (_, _), (_, _), (_, _), (_, _), (_, _), (_, _), (_, _), (_, _), (_, _), (_, _), (_, _), (_, _), (_, _), (_, _), (_, _), (_, _), (_, _), (_, _)]) (x := ob _ [_, _, _]) pf_22_23 rfl rfl rfl rfl rfl ?_
  refine E_aload pf_22_26 rfl ?_
  refine E_aload pf_22_27 rfl ?_
  refine F_getf pf_22_28 rfl rfl rfl ?_
  refine E_iconst pf_22_31 ?_
  refine E_iadd pf_22_32 ?_
  refine E_iconst pf_22_33 ?_
  refine E_minI pf_22_35 (by omega) rfl ?_
  refine F_putf (l' := [(_, _), (_, _), (_, _), (_, _), (_, _), (_, _), (_, _), (_, _), (_, _), (_, _), (_, _), (_, _), (_, _), (_, _), (_, _), (_, _), (_, _), (_, _), (_, _), (_, _), (_, _), (_, _), (_, _), (_, _), (_, _), (_, _), (_, _), (_, _), (_, _), (_, _), (_, _), (_, _), (_, _), (_, _), (_, _), (_, _), (_, _), (_, _), (_, _), (_, _), (_, _), (_, _), (_, _), (_, _), (_, _), (_, _), (_, _), (_, _), (_, _), (_, _), (_, _), (_, _), (_, _), (_, _), (_, _), (_, _), (_, _), (_, _), (_, _), (_, _), (_, _), (_, _)]) (x := ob _ [_, _, _]) pf_22_38 rfl rfl rfl rfl rfl ?_
  exact E_vret pf_22_41 rfl
theorem c22g {k : Nat} (hk : k < 14) (hc : 0 ≤ c ∧ c ≤ 14) : ∀ h, Ca 22 [.ref 32, .ref 24] (wd (LM c (k : Int) S M) h) (.inl none, wd (LM (if 14 < c + 1 then 14 else c + 1) (((k : Int) + 1) % 14) S (mup M k (pcp (M k) S))) h) := by
  have : k = 0 ∨ k = 1 ∨ k = 2 ∨ k = 3 ∨ k = 4 ∨ k = 5 ∨ k = 6 ∨ k = 7 ∨ k = 8 ∨ k = 9 ∨ k = 10 ∨ k = 11 ∨ k = 12 ∨ k = 13 := by omega
  rcases this with rfl | rfl | rfl | rfl | rfl | rfl | rfl | rfl | rfl | rfl | rfl | rfl | rfl | rfl
  · exact c22_0 hc
  · exact c22_1 hc
  · exact c22_2 hc
  · exact c22_3 hc
  · exact c22_4 hc
  · exact c22_5 hc
  · exact c22_6 hc
  · exact c22_7 hc
  · exact c22_8 hc
  · exact c22_9 hc
  · exact c22_10 hc
  · exact c22_11 hc
  · exact c22_12 hc
  · exact c22_13 hc
theorem c23_0 (hc : 1 ≤ c ∧ c ≤ 14) : ∀ h, Ca 23 [.ref 32, .ref 24] (wd (LM c ((0 : Nat) : Int) S M) h) (.inl none, wd (LM (c - 1) ((((0 : Nat) : Int) + 14 - 1) % 14) (pcp S (M 13)) M) h) := by
  intro h
  refine E_in (lv := [_, _]) rfl ?_
  refine E_aload pf_23_0 rfl ?_
  refine F_getf pf_23_1 rfl rfl rfl ?_
  refine E_iconst pf_23_4 ?_
  refine E_icmp_ge_t pf_23_5 (by omega) ?_
  refine E_aload pf_23_9 rfl ?_
  refine E_aload pf_23_10 rfl ?_
  refine F_getf pf_23_11 rfl rfl rfl ?_
  refine E_iconst pf_23_14 ?_
  refine E_iadd pf_23_16 ?_
  refine E_iconst pf_23_17 ?_
  refine E_isub pf_23_18 ?_
  refine E_iconst pf_23_19 ?_
  refine E_irem pf_23_21 (by omega) ?_
  refine F_putf (l' := [(_, _), (_, _), (_, _), (_, _), (_, _), (_, _), (_, _), (_, _), (_, _), (_, _), (_, _), (_, _), (_, _), (_, _), (_, _), (_, _), (_, _), (_, _), (_, _), (_, _), (_, _), (_, _), (_, _), (_, _), (_, _), (_, _), (_, _), (_, _), (_, _), (_, _), (_, _), (_, _), (_, _), (_, _), (_, _), (_, _), (_, _), (_, _), (_, _), (_, _), (_, _), (_, _), (_, _), (_, _), (_, _), (_, _), (_, _), (_, _), (_, _), (_, _), (_, _), (_, _), (_, _), (_, _), (_, _), (_, _), (_, _), (_, _), (_, _), (_, _), (_, _), (_, _)]) (x := ob _ [_, _, _]) pf_23_22 rfl rfl rfl rfl rfl ?_
  refine E_aload pf_23_25 rfl ?_
  refine E_dup pf_23_26 rfl ?_
  refine F_getf pf_23_27 rfl rfl rfl ?_
  refine E_iconst pf_23_30 ?_
  refine E_isub pf_23_31 ?_
  refine F_putf (l' := [(_, _), (_, _), (_, _), (_, _), (_, _), (_, _), (_, _), (_, _), (_, _), (_, _), (_, _), (_, _), (_, _), (_, _), (_, _), (_, _), (_, _), (_, _), (_, _), (_, _), (_, _), (_, _), (_, _), (_, _), (_, _), (_, _), (_, _), (_, _), (_, _), (_, _), (_, _), (_, _), (_, _), (_, _), (_, _), (_, _), (_, _), (_, _), (_, _), (_, _), (_, _), (_, _), (_, _), (_, _), (_, _), (_, _), (_, _), (_, _), (_, _), (_, _), (_, _), (_, _), (_, _), (_, _), (_, _), (_, _), (_, _), (_, _), (_, _), (_, _), (_, _), (_, _)]) (x := ob _ [_, _, _]) pf_23_32 rfl rfl rfl rfl rfl ?_
  refine E_aload pf_23_35 rfl ?_
  refine E_aload pf_23_36 rfl ?_
  refine F_getf pf_23_37 rfl rfl rfl ?_
  refine E_aload pf_23_40 rfl ?_
  refine F_getf pf_23_41 rfl rfl rfl ?_
  refine F_aald pf_23_44 rfl (by omega) ?_
  refine E_top (u := .ref 86) rfl ?_
  refine F_v2u (l' := [(_, _), (_, _), (_, _), (_, _), (_, _), (_, _), (_, _), (_, _), (_, _), (_, _), (_, _), (_, _), (_, _), (_, _), (_, _), (_, _), (_, _), (_, _), (_, _), (_, _), (_, _), (_, _), (_, _), (_, _), (_, _), (_, _), (_, _), (_, _), (_, _), (_, _), (_, _), (_, _), (_, _), (_, _), (_, _), (_, _), (_, _), (_, _), (_, _), (_, _), (_, _), (_, _), (_, _), (_, _), (_, _), (_, _), (_, _), (_, _), (_, _), (_, _), (_, _), (_, _), (_, _), (_, _), (_, _), (_, _), (_, _), (_, _), (_, _), (_, _), (_, _), (_, _)]) pf_23_45 (c52_24_86) (And.intro rfl (And.intro rfl (And.intro rfl (And.intro rfl (And.intro rfl (And.intro rfl (And.intro rfl (And.intro rfl (trivial))))))))) rfl rfl rfl rfl ?_
  exact E_vret pf_23_48 rfl
theorem c23_1 (hc : 1 ≤ c ∧ c ≤ 14) : ∀ h, Ca 23 [.ref 32, .ref 24] (wd (LM c ((1 : Nat) : Int) S M) h) (.inl none, wd (LM (c - 1) ((((1 : Nat) : Int) + 14 - 1) % 14) (pcp S (M 0)) M) h) := by
  intro h
  refine E_in (lv := [_, _]) rfl ?_
  refine E_aload pf_23_0 rfl ?_
  refine F_getf pf_23_1 rfl rfl rfl ?_
  refine E_iconst pf_23_4 ?_
  refine E_icmp_ge_t pf_23_5 (by omega) ?_
  refine E_aload pf_23_9 rfl ?_
  refine E_aload pf_23_10 rfl ?_
  refine F_getf pf_23_11 rfl rfl rfl ?_
  refine E_iconst pf_23_14 ?_
  refine E_iadd pf_23_16 ?_
  refine E_iconst pf_23_17 ?_
  refine E_isub pf_23_18 ?_
  refine E_iconst pf_23_19 ?_
  refine E_irem pf_23_21 (by omega) ?_
  refine F_putf (l' := [(_, _), (_, _), (_, _), (_, _), (_, _), (_, _), (_, _), (_, _), (_, _), (_, _), (_, _), (_, _), (_, _), (_, _), (_, _), (_, _), (_, _), (_, _), (_, _), (_, _), (_, _), (_, _), (_, _), (_, _), (_, _), (_, _), (_, _), (_, _), (_, _), (_, _), (_, _), (_, _), (_, _), (_, _), (_, _), (_, _), (_, _), (_, _), (_, _), (_, _), (_, _), (_, _), (_, _), (_, _), (_, _), (_, _), (_, _), (_, _), (_, _), (_, _), (_, _), (_, _), (_, _), (_, _), (_, _), (_, _), (_, _), (_, _), (_, _), (_, _), (_, _), (_, _)]) (x := ob _ [_, _, _]) pf_23_22 rfl rfl rfl rfl rfl ?_
  refine E_aload pf_23_25 rfl ?_
  refine E_dup pf_23_26 rfl ?_
  refine F_getf pf_23_27 rfl rfl rfl ?_
  refine E_iconst pf_23_30 ?_
  refine E_isub pf_23_31 ?_
  refine F_putf (l' := [(_, _), (_, _), (_, _), (_, _), (_, _), (_, _), (_, _), (_, _), (_, _), (_, _), (_, _), (_, _), (_, _), (_, _), (_, _), (_, _), (_, _), (_, _), (_, _), (_, _), (_, _), (_, _), (_, _), (_, _), (_, _), (_, _), (_, _), (_, _), (_, _), (_, _), (_, _), (_, _), (_, _), (_, _), (_, _), (_, _), (_, _), (_, _), (_, _), (_, _), (_, _), (_, _), (_, _), (_, _), (_, _), (_, _), (_, _), (_, _), (_, _), (_, _), (_, _), (_, _), (_, _), (_, _), (_, _), (_, _), (_, _), (_, _), (_, _), (_, _), (_, _), (_, _)]) (x := ob _ [_, _, _]) pf_23_32 rfl rfl rfl rfl rfl ?_
  refine E_aload pf_23_35 rfl ?_
  refine E_aload pf_23_36 rfl ?_
  refine F_getf pf_23_37 rfl rfl rfl ?_
  refine E_aload pf_23_40 rfl ?_
  refine F_getf pf_23_41 rfl rfl rfl ?_
  refine F_aald pf_23_44 rfl (by omega) ?_
  refine E_top (u := .ref 34) rfl ?_
  refine F_v2u (l' := [(_, _), (_, _), (_, _), (_, _), (_, _), (_, _), (_, _), (_, _), (_, _), (_, _), (_, _), (_, _), (_, _), (_, _), (_, _), (_, _), (_, _), (_, _), (_, _), (_, _), (_, _), (_, _), (_, _), (_, _), (_, _), (_, _), (_, _), (_, _), (_, _), (_, _), (_, _), (_, _), (_, _), (_, _), (_, _), (_, _), (_, _), (_, _), (_, _), (_, _), (_, _), (_, _), (_, _), (_, _), (_, _), (_, _), (_, _), (_, _), (_, _), (_, _), (_, _), (_, _), (_, _), (_, _), (_, _), (_, _), (_, _), (_, _), (_, _), (_, _), (_, _), (_, _)]) pf_23_45 (c52_24_34) (And.intro rfl (And.intro rfl (And.intro rfl (And.intro rfl (And.intro rfl (And.intro rfl (And.intro rfl (And.intro rfl (trivial))))))))) rfl rfl rfl rfl ?_
  exact E_vret pf_23_48 rfl
theorem c23_2 (hc : 1 ≤ c ∧ c ≤ 14) : ∀ h, Ca 23 [.ref 32, .ref 24] (wd (LM c ((2 : Nat) : Int) S M) h) (.inl none, wd (LM (c - 1) ((((2 : Nat) : Int) + 14 - 1) % 14) (pcp S (M 1)) M) h) := by
  intro h
  refine E_in (lv := [_, _]) rfl ?_
  refine E_aload pf_23_0 rfl ?_
  refine F_getf pf_23_1 rfl rfl rfl ?_
  refine E_iconst pf_23_4 ?_
  refine E_icmp_ge_t pf_23_5 (by omega) ?_
  refine E_aload pf_23_9 rfl ?_
  refine E_aload pf_23_10 rfl ?_
  refine F_getf pf_23_11 rfl rfl rfl ?_
  refine E_iconst pf_23_14 ?_
  refine E_iadd pf_23_16 ?_
  refine E_iconst pf_23_17 ?_
  refine E_isub pf_23_18 ?_
  refine E_iconst pf_23_19 ?_
  refine E_irem pf_23_21 (by omega) ?_
  refine F_putf (l' := [(_, _), (_, _), (_, _), (_, _), (_, _), (_, _), (_, _), (_, _), (_, _), (_, _), (_, _), (_, _), (_, _), (_, _), (_, _), (_, _), (_, _), (_, _), (_, _), (_, _), (_, _), (_, _), (_, _), (_, _), (_, _), (_, _), (_, _), (_, _), (_, _), (_, _), (_, _), (_, _), (_, _), (_, _), (_, _), (_, _), (_, _), (_, _), (_, _), (_, _), (_, _), (_, _), (_, _), (_, _), (_, _), (_, _), (_, _), (_, _), (_, _), (_, _), (_, _), (_, _), (_, _), (_, _), (_, _), (_, _), (_, _), (_, _), (_, _), (_, _), (_, _), (_, _)]) (x := ob _ [_, _, _]) pf_23_22 rfl rfl rfl rfl rfl ?_
  refine E_aload pf_23_25 rfl ?_
  refine E_dup pf_23_26 rfl ?_
  refine F_getf pf_23_27 rfl rfl rfl ?_
  refine E_iconst pf_23_30 ?_
  refine E_isub pf_23_31 ?_
  refine F_putf (l' := [(_, _), (_, _), (_, _), (_, _), (_, _), (_, _), (_, _), (_, _), (_, _), (_, _), (_, _), (_, _), (_, _), (_, _), (_, _), (_, _), (_, _), (_, _), (_, _), (_, _), (_, _), (_, _), (_, _), (_, _), (_, _), (_, _), (_, _), (_, _), (_, _), (_, _), (_, _), (_, _), (_, _), (_, _), (_, _), (_, _), (_, _), (_, _), (_, _), (_, _), (_, _), (_, _), (_, _), (_, _), (_, _), (_, _), (_, _), (_, _), (_, _), (_, _), (_, _), (_, _), (_, _), (_, _), (_, _), (_, _), (_, _), (_, _), (_, _), (_, _), (_, _), (_, _)]) (x := ob _ [_, _, _]) pf_23_32 rfl rfl rfl rfl rfl ?_
  refine E_aload pf_23_35 rfl ?_
  refine E_aload pf_23_36 rfl ?_
  refine F_getf pf_23_37 rfl rfl rfl ?_
  refine E_aload pf_23_40 rfl ?_
  refine F_getf pf_23_41 rfl rfl rfl ?_
  refine F_aald pf_23_44 rfl (by omega) ?_
  refine E_top (u := .ref 38) rfl ?_
  refine F_v2u (l' := [(_, _), (_, _), (_, _), (_, _), (_, _), (_, _), (_, _), (_, _), (_, _), (_, _), (_, _), (_, _), (_, _), (_, _), (_, _), (_, _), (_, _), (_, _), (_, _), (_, _), (_, _), (_, _), (_, _), (_, _), (_, _), (_, _), (_, _), (_, _), (_, _), (_, _), (_, _), (_, _), (_, _), (_, _), (_, _), (_, _), (_, _), (_, _), (_, _), (_, _), (_, _), (_, _), (_, _), (_, _), (_, _), (_, _), (_, _), (_, _), (_, _), (_, _), (_, _), (_, _), (_, _), (_, _), (_, _), (_, _), (_, _), (_, _), (_, _), (_, _), (_, _), (_, _)]) pf_23_45 (c52_24_38) (And.intro rfl (And.intro rfl (And.intro rfl (And.intro rfl (And.intro rfl (And.intro rfl (And.intro rfl (And.intro rfl (trivial))))))))) rfl rfl rfl rfl ?_
  exact E_vret pf_23_48 rfl
theorem c23_3 (hc : 1 ≤ c ∧ c ≤ 14) : ∀ h, Ca 23 [.ref 32, .ref 24] (wd (LM c ((3 : Nat) : Int) S M) h) (.inl none, wd (LM (c - 1) ((((3 : Nat) : Int) + 14 - 1) % 14) (pcp S (M 2)) M) h) := by
  intro h
  refine E_in (lv := [_, _]) rfl ?_
  refine E_aload pf_23_0 rfl ?_
  refine F_getf pf_23_1 rfl rfl rfl ?_
  refine E_iconst pf_23_4 ?_
  refine E_icmp_ge_t pf_23_5 (by omega) ?_
  refine E_aload pf_23_9 rfl ?_
  refine E_aload pf_23_10 rfl ?_
  refine F_getf pf_23_11 rfl rfl rfl ?_
  refine E_iconst pf_23_14 ?_
  refine E_iadd pf_23_16 ?_
  refine E_iconst pf_23_17 ?_
  refine E_isub pf_23_18 ?_
  refine E_iconst pf_23_19 ?_
  refine E_irem pf_23_21 (by omega) ?_
  refine F_putf (l' := [(_, _), (_, _), (_, _), (_, _), (_, _), (_, _), (_, _), (_, _), (_, _), (_, _), (_, _), (_, _), (_, _), (_, _), (_, _), (_, _), (_, _), (_, _), (_, _), (_, _), (_, _), (_, _), (_, _), (_, _), (_, _), (_, _), (_, _), (_, _), (_, _), (_, _), (_, _), (_, _), (_, _), (_, _), (_, _), (_, _), (_, _), (_, _), (_, _), (_, _), (_, _), (_, _), (_, _), (_, _), (_, _), (_, _), (_, _), (_, _), (_, _), (_, _), (_, _), (_, _), (_, _), (_, _), (_, _), (_, _), (_, _), (_, _), (_, _), (_, _), (_, _), (_, _)]) (x := ob _ [_, _, _]) pf_23_22 rfl rfl rfl rfl rfl ?_
  refine E_aload pf_23_25 rfl ?_
  refine E_dup pf_23_26 rfl ?_
  refine F_getf pf_23_27 rfl rfl rfl ?_
  refine E_iconst pf_23_30 ?_
  refine E_isub pf_23_31 ?_
  refine F_putf (l' := [(_, _), (_, _), (_, _), (_, _), (_, _), (_, _), (_, _), (_, _), (_, _), (_, _), (_, _), (_, _), (_, _), (_, _), (_, _), (_, _), (_, _), (_, _), (_, _), (_, _), (_, _), (_, _), (_, _), (_, _), (_, _), (_, _), (_, _), (_, _), (_, _), (_, _), (_, _), (_, _), (_, _), (_, _), (_, _), (_, _), (_, _), (_, _), (_, _), (_, _), (_, _), (_, _), (_, _), (_, _), (_, _), (_, _), (_, _), (_, _), (_, _), (_, _), (_, _), (_, _), (_, _), (_, _), (_, _), (_, _), (_, _), (_, _), (_, _), (_, _), (_, _), (_, _)]) (x := ob _ [_, _, _]) pf_23_32 rfl rfl rfl rfl rfl ?_
  refine E_aload pf_23_35 rfl ?_
  refine E_aload pf_23_36 rfl ?_
  refine F_getf pf_23_37 rfl rfl rfl ?_
  refine E_aload pf_23_40 rfl ?_
  refine F_getf pf_23_41 rfl rfl rfl ?_
  refine F_aald pf_23_44 rfl (by omega) ?_
  refine E_top (u := .ref 42) rfl ?_
  refine F_v2u (l' := [(_, _), (_, _), (_, _), (_, _), (_, _), (_, _), (_, _), (_, _), (_, _), (_, _), (_, _), (_, _), (_, _), (_, _), (_, _), (_, _), (_, _), (_, _), (_, _), (_, _), (_, _), (_, _), (_, _), (_, _), (_, _), (_, _), (_, _), (_, _), (_, _), (_, _), (_, _), (_, _), (_, _), (_, _), (_, _), (_, _), (_, _), (_, _), (_, _), (_, _), (_, _), (_, _), (_, _), (_, _), (_, _), (_, _), (_, _), (_, _), (_, _), (_, _), (_, _), (_, _), (_, _), (_, _), (_, _), (_, _), (_, _), (_, _), (_, _), (_, _), (_, _), (_, _)]) pf_23_45 (c52_24_42) (And.intro rfl (And.intro rfl (And.intro rfl (And.intro rfl (And.intro rfl (And.intro rfl (And.intro rfl (And.intro rfl (trivial))))))))) rfl rfl rfl rfl ?_
  exact E_vret pf_23_48 rfl
theorem c23_4 (hc : 1 ≤ c ∧ c ≤ 14) : ∀ h, Ca 23 [.ref 32, .ref 24] (wd (LM c ((4 : Nat) : Int) S M) h) (.inl none, wd (LM (c - 1) ((((4 : Nat) : Int) + 14 - 1) % 14) (pcp S (M 3)) M) h) := by
  intro h
  refine E_in (lv := [_, _]) rfl ?_
  refine E_aload pf_23_0 rfl ?_
  refine F_getf pf_23_1 rfl rfl rfl ?_
  refine E_iconst pf_23_4 ?_
  refine E_icmp_ge_t pf_23_5 (by omega) ?_
  refine E_aload pf_23_9 rfl ?_
  refine E_aload pf_23_10 rfl ?_
  refine F_getf pf_23_11 rfl rfl rfl ?_
  refine E_iconst pf_23_14 ?_
  refine E_iadd pf_23_16 ?_
  refine E_iconst pf_23_17 ?_
  refine E_isub pf_23_18 ?_
  refine E_iconst pf_23_19 ?_
  refine E_irem pf_23_21 (by omega) ?_
  refine F_putf (l' := [(_, _), (_, _), (_, _), (_, _), (_, _), (_, _), (_, _), (_, _), (_, _), (_, _), (_, _), (_, _), (_, _), (_, _), (_, _), (_, _), (_, _), (_, _), (_, _), (_, _), (_, _), (_, _), (_, _), (_, _), (_, _), (_, _), (_, _), (_, _), (_, _), (_, _), (_, _), (_, _), (_, _), (_, _), (_, _), (_, _), (_, _), (_, _), (_, _), (_, _), (_, _), (_, _), (_, _), (_, _), (_, _), (_, _), (_, _), (_, _), (_, _), (_, _), (_, _), (_, _), (_, _), (_, _), (_, _), (_, _), (_, _), (_, _), (_, _), (_, _), (_, _), (_, _)]) (x := ob _ [_, _, _]) pf_23_22 rfl rfl rfl rfl rfl ?_
  refine E_aload pf_23_25 rfl ?_
  refine E_dup pf_23_26 rfl ?_
  refine F_getf pf_23_27 rfl rfl rfl ?_
  refine E_iconst pf_23_30 ?_
  refine E_isub pf_23_31 ?_
  refine F_putf (l' := [(_, _), (_, _), (_, _), (_, _), (_, _), (_, _), (_, _), (_, _), (_, _), (_, _), (_, _), (_, _), (_, _), (_, _), (_, _), (_, _), (_, _), (_, _), (_, _), (_, _), (_, _), (_, _), (_, _), (_, _), (_, _), (_, _), (_, _), (_, _), (_, _), (_, _), (_, _), (_, _), (_, _), (_, _), (_, _), (_, _), (_, _), (_, _), (_, _), (_, _), (_, _), (_, _), (_, _), (_, _), (_, _), (_, _), (_, _), (_, _), (_, _), (_, _), (_, _), (_, _), (_, _), (_, _), (_, _), (_, _), (_, _), (_, _), (_, _), (_, _), (_, _), (_, _)]) (x := ob _ [_, _, _]) pf_23_32 rfl rfl rfl rfl rfl ?_
  refine E_aload pf_23_35 rfl ?_
  refine E_aload pf_23_36 rfl ?_
  refine F_getf pf_23_37 rfl rfl rfl ?_
  refine E_aload pf_23_40 rfl ?_
  refine F_getf pf_23_41 rfl rfl rfl ?_
  refine F_aald pf_23_44 rfl (by omega) ?_
  refine E_top (u := .ref 46) rfl ?_
  refine F_v2u (l' := [(_, _), (_, _), (_, _), (_, _), (_, _), (_, _), (_, _), (_, _), (_, _), (_, _), (_, _), (_, _), (_, _), (_, _), (_, _), (_, _), (_, _), (_, _), (_, _), (_, _), (_, _), (_, _), (_, _), (_, _), (_, _), (_, _), (_, _), (_, _), (_, _), (_, _), (_, _), (_, _), (_, _), (_, _), (_, _), (_, _), (_, _), (_, _), (_, _), (_, _), (_, _), (_, _), (_, _), (_, _), (_, _), (_, _), (_, _), (_, _), (_, _), (_, _), (_, _), (_, _), (_, _), (_, _), (_, _), (_, _), (_, _), (_, _), (_, _), (_, _), (_, _), (_, _)]) pf_23_45 (c52_24_46) (And.intro rfl (And.intro rfl (And.intro rfl (And.intro rfl (And.intro rfl (And.intro rfl (And.intro rfl (And.intro rfl (trivial))))))))) rfl rfl rfl rfl ?_
  exact E_vret pf_23_48 rfl
theorem c23_5 (hc : 1 ≤ c ∧ c ≤ 14) : ∀ h, Ca 23 [.ref 32, .ref 24] (wd (LM c ((5 : Nat) : Int) S M) h) (.inl none, wd (LM (c - 1) ((((5 : Nat) : Int) + 14 - 1) % 14) (pcp S (M 4)) M) h) := by
  intro h
  refine E_in (lv := [_, _]) rfl ?_
  refine E_aload pf_23_0 rfl ?_
  refine F_getf pf_23_1 rfl rfl rfl ?_
  refine E_iconst pf_23_4 ?_
  refine E_icmp_ge_t pf_23_5 (by omega) ?_
  refine E_aload pf_23_9 rfl ?_
  refine E_aload pf_23_10 rfl ?_
  refine F_getf pf_23_11 rfl rfl rfl ?_
  refine E_iconst pf_23_14 ?_
  refine E_iadd pf_23_16 ?_
  refine E_iconst pf_23_17 ?_
  refine E_isub pf_23_18 ?_
  refine E_iconst pf_23_19 ?_
  refine E_irem pf_23_21 (by omega) ?_
  refine F_putf (l' := [(_, _), (_, _), (_, _), (_, _), (_, _), (_, _), (_, _), (_, _), (_, _), (_, _), (_, _), (_, _), (_, _), (_, _), (_, _), (_, _), (_, _), (_, _), (_, _), (_, _), (_, _), (_, _), (_, _), (_, _), (_, _), (_, _), (_, _), (_, _), (_, _), (_, _), (_, _), (_, _), (_, _), (_, _), (_, _), (_, _), (_, _), (_, _), (_, _), (_, _), (_, _), (_, _), (_, _), (_, _), (_, _), (_, _), (_, _), (_, _), (_, _), (_, _), (_, _), (_, _), (_, _), (_, _), (_, _), (_, _), (_, _), (_, _), (_, _), (_, _), (_, _), (_, _)]) (x := ob _ [_, _, _]) pf_23_22 rfl rfl rfl rfl rfl ?_
  refine E_aload pf_23_25 rfl ?_
  refine E_dup pf_23_26 rfl ?_
  refine F_getf pf_23_27 rfl rfl rfl ?_
  refine E_iconst pf_23_30 ?_
  refine E_isub pf_23_31 ?_
  refine F_putf (l' := [(_, _), (_, _), (_, _), (_, _), (_, _), (_, _), (_, _), (_, _), (_, _), (_, _), (_, _), (_, _), (_, _), (_, _), (_, _), (_, _), (_, _), (_, _), (_, _), (_, _), (_, _), (_, _), (_, _), (_, _), (_, _), (_, _), (_, _), (_, _), (_, _), (_, _), (_, _), (_, _), (_, _), (_, _), (_, _), (_, _), (_, _), (_, _), (_, _), (_, _), (_, _), (_, _), (_, _), (_, _), (_, _), (_, _), (_, _), (_, _), (_, _), (_, _), (_, _), (_, _), (_, _), (_, _), (_, _), (_, _), (_, _), (_, _), (_, _), (_, _), (_, _), (_, _)]) (x := ob _ [_, _, _]) pf_23_32 rfl rfl rfl rfl rfl ?_
  refine E_aload pf_23_35 rfl ?_
  refine E_aload pf_23_36 rfl ?_
  refine F_getf pf_23_37 rfl rfl rfl ?_
  refine E_aload pf_23_40 rfl ?_
  refine F_getf pf_23_41 rfl rfl rfl ?_
  refine F_aald pf_23_44 rfl (by omega) ?_
  refine E_top (u := .ref 50) rfl ?_
  refine F_v2u (l' := [(_, _), (_, _), (_, _), (_, _), (_, _), (_, _), (_, _), (_, _), (_, _), (_, _), (_, _), (_, _), (_, _), (_, _), (_, _), (_, _), (_, _), (_, _), (_, _), (_, _), (_, _), (_, _), (_, _), (_, _), (_, _), (_, _), (_, _), (_, _), (_, _), (_, _), (_, _), (_, _), (_, _), (_, _), (_, _), (_, _), (_, _), (_, _), (_, _), (_, _), (_, _), (_, _), (_, _), (_, _), (_, _), (_, _), (_, _), (_, _), (_, _), (_, _), (_, _), (_, _), (_, _), (_, _), (_, _), (_, _), (_, _), (_, _), (_, _), (_, _), (_, _), (_, _)]) pf_23_45 (c52_24_50) (And.intro rfl (And.intro rfl (And.intro rfl (And.intro rfl (And.intro rfl (And.intro rfl (And.intro rfl (And.intro rfl (trivial))))))))) rfl rfl rfl rfl ?_
  exact E_vret pf_23_48 rfl
theorem c23_6 (hc : 1 ≤ c ∧ c ≤ 14) : ∀ h, Ca 23 [.ref 32, .ref 24] (wd (LM c ((6 : Nat) : Int) S M) h) (.inl none, wd (LM (c - 1) ((((6 : Nat) : Int) + 14 - 1) % 14) (pcp S (M 5)) M) h) := by
  intro h
  refine E_in (lv := [_, _]) rfl ?_
  refine E_aload pf_23_0 rfl ?_
  refine F_getf pf_23_1 rfl rfl rfl ?_
  refine E_iconst pf_23_4 ?_
  refine E_icmp_ge_t pf_23_5 (by omega) ?_
  refine E_aload pf_23_9 rfl ?_
  refine E_aload pf_23_10 rfl ?_
  refine F_getf pf_23_11 rfl rfl rfl ?_
  refine E_iconst pf_23_14 ?_
  refine E_iadd pf_23_16 ?_
  refine E_iconst pf_23_17 ?_
  refine E_isub pf_23_18 ?_
  refine E_iconst pf_23_19 ?_
  refine E_irem pf_23_21 (by omega) ?_
  refine F_putf (l' := [(_, _), (_, _), (_, _), (_, _), (_, _), (_, _), (_, _), (_, _), (_, _), (_, _), (_, _), (_, _), (_, _), (_, _), (_, _), (_, _), (_, _), (_, _), (_, _), (_, _), (_, _), (_, _), (_, _), (_, _), (_, _), (_, _), (_, _), (_, _), (_, _), (_, _), (_, _), (_, _), (_, _), (_, _), (_, _), (_, _), (_, _), (_, _), (_, _), (_, _), (_, _), (_, _), (_, _), (_, _), (_, _), (_, _), (_, _), (_, _), (_, _), (_, _), (_, _), (_, _), (_, _), (_, _), (_, _), (_, _), (_, _), (_, _), (_, _), (_, _), (_, _), (_, _)]) (x := ob _ [_, _, _]) pf_23_22 rfl rfl rfl rfl rfl ?_
  refine E_aload pf_23_25 rfl ?_
  refine E_dup pf_23_26 rfl ?_
  refine F_getf pf_23_27 rfl rfl rfl ?_
  refine E_iconst pf_23_30 ?_
  refine E_isub pf_23_31 ?_
  refine F_putf (l' := [(_, _), (_, _), (_, _), (_, _), (_, _), (_, _), (_, _), (_, _), (_, _), (_, _), (_, _), (_, _), (_, _), (_, _), (_, _), (_, _), (_, _), (_, _), (_, _), (_, _), (_, _), (_, _), (_, _), (_, _), (_, _), (_, _), (_, _), (_, _), (_, _), (_, _), (_, _), (_, _), (_, _), (_, _), (_, _), (_, _), (_, _), (_, _), (_, _), (_, _), (_, _), (_, _), (_, _), (_, _), (_, _), (_, _), (_, _), (_, _), (_, _), (_, _), (_, _), (_, _), (_, _), (_, _), (_, _), (_, _), (_, _), (_, _), (_, _), (_, _), (_, _), (_, _)]) (x := ob _ [_, _, _]) pf_23_32 rfl rfl rfl rfl rfl ?_
  refine E_aload pf_23_35 rfl ?_
  refine E_aload pf_23_36 rfl ?_
  refine F_getf pf_23_37 rfl rfl rfl ?_
  refine E_aload pf_23_40 rfl ?_
  refine F_getf pf_23_41 rfl rfl rfl ?_
  refine F_aald pf_23_44 rfl (by omega) ?_
  refine E_top (u := .ref 54) rfl ?_
  refine F_v2u (l' := [(_, _), (_, _), (_, _), (_, _), (_, _), (_, _), (_, _), (_, _), (_, _), (_, _), (_, _), (_, _), (_, _), (_, _), (_, _), (_, _), (_, _), (_, _), (_, _), (_, _), (_, _), (_, _), (_, _), (_, _), (_, _), (_, _), (_, _), (_, _), (_, _), (_, _), (_, _), (_, _), (_, _), (_, _), (_, _), (_, _), (_, _), (_, _), (_, _), (_, _), (_, _), (_, _), (_, _), (_, _), (_, _), (_, _), (_, _), (_, _), (_, _), (_, _), (_, _), (_, _), (_, _), (_, _), (_, _), (_, _), (_, _), (_, _), (_, _), (_, _), (_, _), (_, _)]) pf_23_45 (c52_24_54) (And.intro rfl (And.intro rfl (And.intro rfl (And.intro rfl (And.intro rfl (And.intro rfl (And.intro rfl (And.intro rfl (trivial))))))))) rfl rfl rfl rfl ?_
  exact E_vret pf_23_48 rfl
theorem c23_7 (hc : 1 ≤ c ∧ c ≤ 14) : ∀ h, Ca 23 [.ref 32, .ref 24] (wd (LM c ((7 : Nat) : Int) S M) h) (.inl none, wd (LM (c - 1) ((((7 : Nat) : Int) + 14 - 1) % 14) (pcp S (M 6)) M) h) := by
  intro h
  refine E_in (lv := [_, _]) rfl ?_
  refine E_aload pf_23_0 rfl ?_
  refine F_getf pf_23_1 rfl rfl rfl ?_
  refine E_iconst pf_23_4 ?_
  refine E_icmp_ge_t pf_23_5 (by omega) ?_
  refine E_aload pf_23_9 rfl ?_
  refine E_aload pf_23_10 rfl ?_
  refine F_getf pf_23_11 rfl rfl rfl ?_
  refine E_iconst pf_23_14 ?_
  refine E_iadd pf_23_16 ?_
  refine E_iconst pf_23_17 ?_
  refine E_isub pf_23_18 ?_
  refine E_iconst pf_23_19 ?_
  refine E_irem pf_23_21 (by omega) ?_
  refine F_putf (l' := [(_, _), (_, _), (_, _), (_, _), (_, _), (_, _), (_, _), (_, _), (_, _), (_, _), (_, _), (_, _), (_, _), (_, _), (_, _), (_, _), (_, _), (_, _), (_, _), (_, _), (_, _), (_, _), (_, _), (_, _), (_, _), (_, _), (_, _), (_, _), (_, _), (_, _), (_, _), (_, _), (_, _), (_, _), (_, _), (_, _), (_, _), (_, _), (_, _), (_, _), (_, _), (_, _), (_, _), (_, _), (_, _), (_, _), (_, _), (_, _), (_, _), (_, _), (_, _), (_, _), (_, _), (_, _), (_, _), (_, _), (_, _), (_, _), (_, _), (_, _), (_, _), (_, _)]) (x := ob _ [_, _, _]) pf_23_22 rfl rfl rfl rfl rfl ?_
  refine E_aload pf_23_25 rfl ?_
  refine E_dup pf_23_26 rfl ?_
  refine F_getf pf_23_27 rfl rfl rfl ?_
  refine E_iconst pf_23_30 ?_
  refine E_isub pf_23_31 ?_
  refine F_putf (l' := [(_, _), (_, _), (_, _), (_, _), (_, _), (_, _), (_, _), (_, _), (_, _), (_, _), (_, _), (_, _), (_, _), (_, _), (_, _), (_, _), (_, _), (_, _), (_, _), (_, _), (_, _), (_, _), (_, _), (_, _), (_, _), (_, _), (_, _), (_, _), (_, _), (_, _), (_, _), (_, _), (_, _), (_, _), (_, _), (_, _), (_, _), (_, _), (_, _), (_, _), (_, _), (_, _), (_, _), (_, _), (_, _), (_, _), (_, _), (_, _), (_, _), (_, _), (_, _), (_, _), (_, _), (_, _), (_, _), (_, _), (_, _), (_, _), (_, _), (_, _), (_, _), (_, _)]) (x := ob _ [_, _, _]) pf_23_32 rfl rfl rfl rfl rfl ?_
  refine E_aload pf_23_35 rfl ?_
  refine E_aload pf_23_36 rfl ?_
  refine F_getf pf_23_37 rfl rfl rfl ?_
  refine E_aload pf_23_40 rfl ?_
  refine F_getf pf_23_41 rfl rfl rfl ?_
  refine F_aald pf_23_44 rfl (by omega) ?_
  refine E_top (u := .ref 58) rfl ?_
  refine F_v2u (l' := [(_, _), (_, _), (_, _), (_, _), (_, _), (_, _), (_, _), (_, _), (_, _), (_, _), (_, _), (_, _), (_, _), (_, _), (_, _), (_, _), (_, _), (_, _), (_, _), (_, _), (_, _), (_, _), (_, _), (_, _), (_, _), (_, _), (_, _), (_, _), (_, _), (_, _), (_, _), (_, _), (_, _), (_, _), (_, _), (_, _), (_, _), (_, _), (_, _), (_, _), (_, _), (_, _), (_, _), (_, _), (_, _), (_, _), (_, _), (_, _), (_, _), (_, _), (_, _), (_, _), (_, _), (_, _), (_, _), (_, _), (_, _), (_, _), (_, _), (_, _), (_, _), (_, _)]) pf_23_45 (c52_24_58) (And.intro rfl (And.intro rfl (And.intro rfl (And.intro rfl (And.intro rfl (And.intro rfl (And.intro rfl (And.intro rfl (trivial))))))))) rfl rfl rfl rfl ?_
  exact E_vret pf_23_48 rfl
theorem c23_8 (hc : 1 ≤ c ∧ c ≤ 14) : ∀ h, Ca 23 [.ref 32, .ref 24] (wd (LM c ((8 : Nat) : Int) S M) h) (.inl none, wd (LM (c - 1) ((((8 : Nat) : Int) + 14 - 1) % 14) (pcp S (M 7)) M) h) := by
  intro h
  refine E_in (lv := [_, _]) rfl ?_
  refine E_aload pf_23_0 rfl ?_
  refine F_getf pf_23_1 rfl rfl rfl ?_
  refine E_iconst pf_23_4 ?_
  refine E_icmp_ge_t pf_23_5 (by omega) ?_
  refine E_aload pf_23_9 rfl ?_
  refine E_aload pf_23_10 rfl ?_
  refine F_getf pf_23_11 rfl rfl rfl ?_
  refine E_iconst pf_23_14 ?_
  refine E_iadd pf_23_16 ?_
  refine E_iconst pf_23_17 ?_
  refine E_isub pf_23_18 ?_
  refine E_iconst pf_23_19 ?_
  refine E_irem pf_23_21 (by omega) ?_
  refine F_putf (l' := [(_, _), (_, _), (_, _), (_, _), (_, _), (_, _), (_, _), (_, _), (_, _), (_, _), (_, _), (_, _), (_, _), (_, _), (_, _), (_, _), (_, _), (_, _), (_, _), (_, _), (_, _), (_, _), (_, _), (_, _), (_, _), (_, _), (_, _), (_, _), (_, _), (_, _), (_, _), (_, _), (_, _), (_, _), (_, _), (_, _), (_, _), (_, _), (_, _), (_, _), (_, _), (_, _), (_, _), (_, _), (_, _), (_, _), (_, _), (_, _), (_, _), (_, _), (_, _), (_, _), (_, _), (_, _), (_, _), (_, _), (_, _), (_, _), (_, _), (_, _), (_, _), (_, _)]) (x := ob _ [_, _, _]) pf_23_22 rfl rfl rfl rfl rfl ?_
  refine E_aload pf_23_25 rfl ?_
  refine E_dup pf_23_26 rfl ?_
  refine F_getf pf_23_27 rfl rfl rfl ?_
  refine E_iconst pf_23_30 ?_
  refine E_isub pf_23_31 ?_
  refine F_putf (l' := [(_, _), (_, _), (_, _), (_, _), (_, _), (_, _), (_, _), (_, _), (_, _), (_, _), (_, _), (_, _), (_, _), (_, _), (_, _), (_, _), (_, _), (_, _), (_, _), (_, _), (_, _), (_, _), (_, _), (_, _), (_, _), (_, _), (_, _), (_, _), (_, _), (_, _), (_, _), (_, _), (_, _), (_, _), (_, _), (_, _), (_, _), (_, _), (_, _), (_, _), (_, _), (_, _), (_, _), (_, _), (_, _), (_, _), (_, _), (_, _), (_, _), (_, _), (_, _), (_, _), (_, _), (_, _), (_, _), (_, _), (_, _), (_, _), (_, _), (_, _), (_, _), (_, _)]) (x := ob _ [_, _, _]) pf_23_32 rfl rfl rfl rfl rfl ?_
  refine E_aload pf_23_35 rfl ?_
  refine E_aload pf_23_36 rfl ?_
  refine F_getf pf_23_37 rfl rfl rfl ?_
  refine E_aload pf_23_40 rfl ?_
  refine F_getf pf_23_41 rfl rfl rfl ?_
  refine F_aald pf_23_44 rfl (by omega) ?_
  refine E_top (u := .ref 62) rfl ?_
  refine F_v2u (l' := [(_, _), (_, _), (_, _), (_, _), (_, _), (_, _), (_, _), (_, _), (_, _), (_, _), (_, _), (_, _), (_, _), (_, _), (_, _), (_, _), (_, _), (_, _), (_, _), (_, _), (_, _), (_, _), (_, _), (_, _), (_, _), (_, _), (_, _), (_, _), (_, _), (_, _), (_, _), (_, _), (_, _), (_, _), (_, _), (_, _), (_, _), (_, _), (_, _), (_, _), (_, _), (_, _), (_, _), (_, _), (_, _), (_, _), (_, _), (_, _), (_, _), (_, _), (_, _), (_, _), (_, _), (_, _), (_, _), (_, _), (_, _), (_, _), (_, _), (_, _), (_, _), (_, _)]) pf_23_45 (c52_24_62) (And.intro rfl (And.intro rfl (And.intro rfl (And.intro rfl (And.intro rfl (And.intro rfl (And.intro rfl (And.intro rfl (trivial))))))))) rfl rfl rfl rfl ?_
  exact E_vret pf_23_48 rfl
theorem c23_9 (hc : 1 ≤ c ∧ c ≤ 14) : ∀ h, Ca 23 [.ref 32, .ref 24] (wd (LM c ((9 : Nat) : Int) S M) h) (.inl none, wd (LM (c - 1) ((((9 : Nat) : Int) + 14 - 1) % 14) (pcp S (M 8)) M) h) := by
  intro h
  refine E_in (lv := [_, _]) rfl ?_
  refine E_aload pf_23_0 rfl ?_
  refine F_getf pf_23_1 rfl rfl rfl ?_
  refine E_iconst pf_23_4 ?_
  refine E_icmp_ge_t pf_23_5 (by omega) ?_
  refine E_aload pf_23_9 rfl ?_
  refine E_aload pf_23_10 rfl ?_
  refine F_getf pf_23_11 rfl rfl rfl ?_
  refine E_iconst pf_23_14 ?_
  refine E_iadd pf_23_16 ?_
  refine E_iconst pf_23_17 ?_
  refine E_isub pf_23_18 ?_
  refine E_iconst pf_23_19 ?_
  refine E_irem pf_23_21 (by omega) ?_
  refine F_putf (l' := [(_, _), (_, _), (_, _), (_, _), (_, _), (_, _), (_, _), (_, _), (_, _), (_, _), (_, _), (_, _), (_, _), (_, _), (_, _), (_, _), (_, _), (_, _), (_, _), (_, _), (_, _), (_, _), (_, _), (_, _), (_, _), (_, _), (_, _), (_, _), (_, _), (_, _), (_, _), (_, _), (_, _), (_, _), (_, _), (_, _), (_, _), (_, _), (_, _), (_, _), (_, _), (_, _), (_, _), (_, _), (_, _), (_, _), (_, _), (_, _), (_, _), (_, _), (_, _), (_, _), (_, _), (_, _), (_, _), (_, _), (_, _), (_, _), (_, _), (_, _), (_, _), (_, _)]) (x := ob _ [_, _, _]) pf_23_22 rfl rfl rfl rfl rfl ?_
  refine E_aload pf_23_25 rfl ?_
  refine E_dup pf_23_26 rfl ?_
  refine F_getf pf_23_27 rfl rfl rfl ?_
  refine E_iconst pf_23_30 ?_
  refine E_isub pf_23_31 ?_
  refine F_putf (l' := [(_, _), (_, _), (_, _), (_, _), (_, _), (_, _), (_, _), (_, _), (_, _), (_, _), (_, _), (_, _), (_, _), (_, _), (_, _), (_, _), (_, _), (_, _), (_, _), (_, _), (_, _), (_, _), (_, _), (_, _), (_, _), (_, _), (_, _), (_, _), (_, _), (_, _), (_, _), (_, _), (_, _), (_, _), (_, _), (_, _), (_, _), (_, _), (_, _), (_, _), (_, _), (_, _), (_, _), (_, _), (_, _), (_, _), (_, _), (_, _), (_, _), (_, _), (_, _), (_, _), (_, _), (_, _), (_, _), (_, _), (_, _), (_, _), (_, _), (_, _), (_, _), (_, _)]) (x := ob _ [_, _, _]) pf_23_32 rfl rfl rfl rfl rfl ?_
  refine E_aload pf_23_35 rfl ?_
  refine E_aload pf_23_36 rfl ?_
  refine F_getf pf_23_37 rfl rfl rfl ?_
  refine E_aload pf_23_40 rfl ?_
  refine F_getf pf_23_41 rfl rfl rfl ?_
  refine F_aald pf_23_44 rfl (by omega) ?_
  refine E_top (u := .ref 66) rfl ?_
  refine F_v2u (l' := [(_, _), (_, _), (_, _), (_, _), (_, _), (_, _), (_, _), (_, _), (_, _), (_, _), (_, _), (_, _), (_, _), (_, _), (_, _), (_, _), (_, _), (_, _), (_, _), (_, _), (_, _), (_, _), (_, _), (_, _), (_, _), (_, _), (_, _), (_, _), (_, _), (_, _), (_, _), (_, _), (_, _), (_, _), (_, _), (_, _), (_, _), (_, _), (_, _), (_, _), (_, _), (_, _), (_, _), (_, _), (_, _), (_, _), (_, _), (_, _), (_, _), (_, _), (_, _), (_, _), (_, _), (_, _), (_, _), (_, _), (_, _), (_, _), (_, _), (_, _), (_, _), (_, _)]) pf_23_45 (c52_24_66) (And.intro rfl (And.intro rfl (And.intro rfl (And.intro rfl (And.intro rfl (And.intro rfl (And.intro rfl (And.intro rfl (trivial))))))))) rfl rfl rfl rfl ?_
  exact E_vret pf_23_48 rfl
theorem c23_10 (hc : 1 ≤ c ∧ c ≤ 14) : ∀ h, Ca 23 [.ref 32, .ref 24] (wd (LM c ((10 : Nat) : Int) S M) h) (.inl none, wd (LM (c - 1) ((((10 : Nat) : Int) + 14 - 1) % 14) (pcp S (M 9)) M) h) := by
  intro h
  refine E_in (lv := [_, _]) rfl ?_
  refine E_aload pf_23_0 rfl ?_
  refine F_getf pf_23_1 rfl rfl rfl ?_
  refine E_iconst pf_23_4 ?_
  refine E_icmp_ge_t pf_23_5 (by omega) ?_
  refine E_aload pf_23_9 rfl ?_
  refine E_aload pf_23_10 rfl ?_
  refine F_getf pf_23_11 rfl rfl rfl ?_
  refine E_iconst pf_23_14 ?_
  refine E_iadd pf_23_16 ?_
  refine E_iconst pf_23_17 ?_
  refine E_isub pf_23_18 ?_
  refine E_iconst pf_23_19 ?_
  refine E_irem pf_23_21 (by omega) ?_
  refine F_putf (l' := [(_, _), (_, _), (_, _), (_, _), (_, _), (_, _), (_, _), (_, _), (_, _), (_, _), (_, _), (_, _), (_, _), (_, _), (_, _), (_, _), (_, _), (_, _), (_, _), (_, _), (_, _), (_, _), (_, _), (_, _), (_, _), (_, _), (_, _), (_, _), (_, _), (_, _), (_, _), (_, _), (_, _), (_, _), (_, _), (_, _), (_, _), (_, _), (_, _), (_, _), (_, _), (_, _), (_, _), (_, _), (_, _), (_, _), (_, _), (_, _), (_, _), (_, _), (_, _), (_, _), (_, _), (_, _), (_, _), (_, _), (_, _), (_, _), (_, _), (_, _), (_, _), (_, _)]) (x := ob _ [_, _, _]) pf_23_22 rfl rfl rfl rfl rfl ?_
  refine E_aload pf_23_25 rfl ?_
  refine E_dup pf_23_26 rfl ?_
  refine F_getf pf_23_27 rfl rfl rfl ?_
  refine E_iconst pf_23_30 ?_
  refine E_isub pf_23_31 ?_
  refine F_putf (l' := [(_, _), (_, _), (_, _), (_, _), (_, _), (_, _), (_, _), (_, _), (_, _), (_, _), (_, _), (_, _), (_, _), (_, _), (_, _), (_, _), (_, _), (_, _), (_, _), (_, _), (_, _), (_, _), (_, _), (_, _), (_, _), (_, _), (_, _), (_, _), (_, _), (_, _), (_, _), (_, _), (_, _), (_, _), (_, _), (_, _), (_, _), (_, _), (_, _), (_, _), (_, _), (_, _), (_, _), (_, _), (_, _), (_, _), (_, _), (_, _), (_, _), (_, _), (_, _), (_, _), (_, _), (_, _), (_, _), (_, _), (_, _), (_, _), (_, _), (_, _), (_, _), (_, _)]) (x := ob _ [_, _, _]) pf_23_32 rfl rfl rfl rfl rfl ?_
  refine E_aload pf_23_35 rfl ?_
  refine E_aload pf_23_36 rfl ?_
  refine F_getf pf_23_37 rfl rfl rfl ?_
  refine E_aload pf_23_40 rfl ?_
  refine F_getf pf_23_41 rfl rfl rfl ?_
  refine F_aald pf_23_44 rfl (by omega) ?_
  refine E_top (u := .ref 70) rfl ?_
  refine F_v2u (l' := [(_, _), (_, _), (_, _), (_, _), (_, _), (_, _), (_, _), (_, _), (_, _), (_, _), (_, _), (_, _), (_, _), (_, _), (_, _), (_, _), (_, _), (_, _), (_, _), (_, _), (_, _), (_, _), (_, _), (_, _), (_, _), (_, _), (_, _), (_, _), (_, _), (_, _), (_, _), (_, _), (_, _), (_, _), (_, _), (_, _), (_, _), (_, _), (_, _), (_, _), (_, _), (_, _), (_, _), (_, _), (_, _), (_, _), (_, _), (_, _), (_, _), (_, _), (_, _), (_, _), (_, _), (_, _), (_, _), (_, _), (_, _), (_, _), (_, _), (_, _), (_, _), (_, _)]) pf_23_45 (c52_24_70) (And.intro rfl (And.intro rfl (And.intro rfl (And.intro rfl (And.intro rfl (And.intro rfl (And.intro rfl (And.intro rfl (trivial))))))))) rfl rfl rfl rfl ?_
  exact E_vret pf_23_48 rfl
theorem c23_11 (hc : 1 ≤ c ∧ c ≤ 14) : ∀ h, Ca 23 [.ref 32, .ref 24] (wd (LM c ((11 : Nat) : Int) S M) h) (.inl none, wd (LM (c - 1) ((((11 : Nat) : Int) + 14 - 1) % 14) (pcp S (M 10)) M) h) := by
  intro h
  refine E_in (lv := [_, _]) rfl ?_
  refine E_aload pf_23_0 rfl ?_
  refine F_getf pf_23_1 rfl rfl rfl ?_
  refine E_iconst pf_23_4 ?_
  refine E_icmp_ge_t pf_23_5 (by omega) ?_
  refine E_aload pf_23_9 rfl ?_
  refine E_aload pf_23_10 rfl ?_
  refine F_getf pf_23_11 rfl rfl rfl ?_
  refine E_iconst pf_23_14 ?_
  refine E_iadd pf_23_16 ?_
  refine E_iconst pf_23_17 ?_
  refine E_isub pf_23_18 ?_
  refine E_iconst pf_23_19 ?_
  refine E_irem pf_23_21 (by omega) ?_
  refine F_putf (l' := [(_, _), (_, _), (_, _), (_, _), (_, _), (_, _), (_, _), (_, _), (_, _), (_, _), (_, _), (_, _), (_, _), (_, _), (_, _), (_, _), (_, _), (_, _), (_, _), (_, _), (_, _), (_, _), (_, _), (_, _), (_, _), (_, _), (_, _), (_, _), (_, _), (_, _), (_, _), (_, _), (_, _), (_, _), (_, _), (_, _), (_, _), (_, _), (_, _), (_, _), (_, _), (_, _), (_, _), (_, _), (_, _), (_, _), (_, _), (_, _), (_, _), (_, _), (_, _), (_, _), (_, _), (_, _), (_, _), (_, _), (_, _), (_, _), (_, _), (_, _), (_, _), (_, _)]) (x := ob _ [_, _, _]) pf_23_22 rfl rfl rfl rfl rfl ?_
  refine E_aload pf_23_25 rfl ?_
  refine E_dup pf_23_26 rfl ?_
  refine F_getf pf_23_27 rfl rfl rfl ?_
  refine E_iconst pf_23_30 ?_
  refine E_isub pf_23_31 ?_
  refine F_putf (l' := [(_, _), (_, _), (_, _), (_, _), (_, _), (_, _), (_, _), (_, _), (_, _), (_, _), (_, _), (_, _), (_, _), (_, _), (_, _), (_, _), (_, _), (_, _), (_, _), (_, _), (_, _), (_, _), (_, _), (_, _), (_, _), (_, _), (_, _), (_, _), (_, _), (_, _), (_, _), (_, _), (_, _), (_, _), (_, _), (_, _), (_, _), (_, _), (_, _), (_, _), (_, _), (_, _), (_, _), (_, _), (_, _), (_, _), (_, _), (_, _), (_, _), (_, _), (_, _), (_, _), (_, _), (_, _), (_, _), (_, _), (_, _), (_, _), (_, _), (_, _), (_, _), (_, _)]) (x := ob _ [_, _, _]) pf_23_32 rfl rfl rfl rfl rfl ?_
  refine E_aload pf_23_35 rfl ?_
  refine E_aload pf_23_36 rfl ?_
  refine F_getf pf_23_37 rfl rfl rfl ?_
  refine E_aload pf_23_40 rfl ?_
  refine F_getf pf_23_41 rfl rfl rfl ?_
  refine F_aald pf_23_44 rfl (by omega) ?_
  refine E_top (u := .ref 74) rfl ?_
  refine F_v2u (l' := [(_, _), (_, _), (_, _), (_, _), (_, _), (_, _), (_, _), (_, _), (_, _), (_, _), (_, _), (_, _), (_, _), (_, _), (_, _), (_, _), (_, _), (_, _), (_, _), (_, _), (_, _), (_, _), (_, _), (_, _), (_, _), (_, _), (_, _), (_, _), (_, _), (_, _), (_, _), (_, _), (_, _), (_, _), (_, _), (_, _), (_, _), (_, _), (_, _), (_, _), (_, _), (_, _), (_, _), (_, _), (_, _), (_, _), (_, _), (_, _), (_, _), (_, _), (_, _), (_, _), (_, _), (_, _), (_, _), (_, _), (_, _), (_, _), (_, _), (_, _), (_, _), (_, _)]) pf_23_45 (c52_24_74) (And.intro rfl (And.intro rfl (And.intro rfl (And.intro rfl (And.intro rfl (And.intro rfl (And.intro rfl (And.intro rfl (trivial))))))))) rfl rfl rfl rfl ?_
  exact E_vret pf_23_48 rfl
theorem c23_12 (hc : 1 ≤ c ∧ c ≤ 14) : ∀ h, Ca 23 [.ref 32, .ref 24] (wd (LM c ((12 : Nat) : Int) S M) h) (.inl none, wd (LM (c - 1) ((((12 : Nat) : Int) + 14 - 1) % 14) (pcp S (M 11)) M) h) := by
  intro h
  refine E_in (lv := [_, _]) rfl ?_
  refine E_aload pf_23_0 rfl ?_
  refine F_getf pf_23_1 rfl rfl rfl ?_
  refine E_iconst pf_23_4 ?_
  refine E_icmp_ge_t pf_23_5 (by omega) ?_
  refine E_aload pf_23_9 rfl ?_
  refine E_aload pf_23_10 rfl ?_
  refine F_getf pf_23_11 rfl rfl rfl ?_
  refine E_iconst pf_23_14 ?_
  refine E_iadd pf_23_16 ?_
  refine E_iconst pf_23_17 ?_
  refine E_isub pf_23_18 ?_
  refine E_iconst pf_23_19 ?_
  refine E_irem pf_23_21 (by omega) ?_
  refine F_putf (l' := [(_, _), (_, _), (_, _), (_, _), (_, _), (_, _), (_, _), (_, _), (_, _), (_, _), (_, _), (_, _), (_, _), (_, _), (_, _), (_, _), (_, _), (_, _), (_, _), (_, _), (_, _), (_, _), (_, _), (_, _), (_, _), (_, _), (_, _), (_, _), (_, _), (_, _), (_, _), (_, _), (_, _), (_, _), (_, _), (_, _), (_, _), (_, _), (_, _), (_, _), (_, _), (_, _), (_, _), (_, _), (_, _), (_, _), (_, _), (_, _), (_, _), (_, _), (_, _), (_, _), (_, _), (_, _), (_, _), (_, _), (_, _), (_, _), (_, _), (_, _), (_, _), (_, _)]) (x := ob _ [_, _, _]) pf_23_22 rfl rfl rfl rfl rfl ?_
  refine E_aload pf_23_25 rfl ?_
  refine E_dup pf_23_26 rfl ?_
  refine F_getf pf_23_27 rfl rfl rfl ?_
  refine E_iconst pf_23_30 ?_
  refine E_isub pf_23_31 ?_
  refine F_putf (l' := [(_, _), (_, _), (_, _), (_, _), (_, _), (_, _), (_, _), (_, _), (_, _), (_, _), (_, _), (_, _), (_, _), (_, _), (_, _), (_, _), (_, _), (_, _), (_, _), (_, _), (_, _), (_, _), (_, _), (_, _), (_, _), (_, _), (_, _), (_, _), (_, _), (_, _), (_, _), (_, _), (_, _), (_, _), (_, _), (_, _), (_, _), (_, _), (_, _), (_, _), (_, _), (_, _), (_, _), (_, _), (_, _), (_, _), (_, _), (_, _), (_, _), (_, _), (_, _), (_, _), (_, _), (_, _), (_, _), (_, _), (_, _), (_, _), (_, _), (_, _), (_, _), (_, _)]) (x := ob _ [_, _, _]) pf_23_32 rfl rfl rfl rfl rfl ?_
  refine E_aload pf_23_35 rfl ?_
  refine E_aload pf_23_36 rfl ?_
  refine F_getf pf_23_37 rfl rfl rfl ?_
  refine E_aload pf_23_40 rfl ?_
  refine F_getf pf_23_41 rfl rfl rfl ?_
  refine F_aald pf_23_44 rfl (by omega) ?_
  refine E_top (u := .ref 78) rfl ?_
  refine F_v2u (l' := [(_, _), (_, _), (_, _), (_, _), (_, _), (_, _), (_, _), (_, _), (_, _), (_, _), (_, _), (_, _), (_, _), (_, _), (_, _), (_, _), (_, _), (_, _), (_, _), (_, _), (_, _), (_, _), (_, _), (_, _), (_, _), (_, _), (_, _), (_, _), (_, _), (_, _), (_, _), (_, _), (_, _), (_, _), (_, _), (_, _), (_, _), (_, _), (_, _), (_, _), (_, _), (_, _), (_, _), (_, _), (_, _), (_, _), (_, _), (_, _), (_, _), (_, _), (_, _), (_, _), (_, _), (_, _), (_, _), (_, _), (_, _), (_, _), (_, _), (_, _), (_, _), (_, _)]) pf_23_45 (c52_24_78) (And.intro rfl (And.intro rfl (And.intro rfl (And.intro rfl (And.intro rfl (And.intro rfl (And.intro rfl (And.intro rfl (trivial))))))))) rfl rfl rfl rfl ?_
  exact E_vret pf_23_48 rfl
theorem c23_13 (hc : 1 ≤ c ∧ c ≤ 14) : ∀ h, Ca 23 [.ref 32, .ref 24] (wd (LM c ((13 : Nat) : Int) S M) h) (.inl none, wd (LM (c - 1) ((((13 : Nat) : Int) + 14 - 1) % 14) (pcp S (M 12)) M) h) := by
  intro h
  refine E_in (lv := [_, _]) rfl ?_
  refine E_aload pf_23_0 rfl ?_
  refine F_getf pf_23_1 rfl rfl rfl ?_
  refine E_iconst pf_23_4 ?_
  refine E_icmp_ge_t pf_23_5 (by omega) ?_
  refine E_aload pf_23_9 rfl ?_
  refine E_aload pf_23_10 rfl ?_
  refine F_getf pf_23_11 rfl rfl rfl ?_
  refine E_iconst pf_23_14 ?_
  refine E_iadd pf_23_16 ?_
  refine E_iconst pf_23_17 ?_
  refine E_isub pf_23_18 ?_
  refine E_iconst pf_23_19 ?_
  refine E_irem pf_23_21 (by omega) ?_
  refine F_putf (l' := [(_, _), (_, _), (_, _), (_, _), (_, _), (_, _), (_, _), (_, _), (_, _), (_, _), (_, _), (_, _), (_, _), (_, _), (_, _), (_, _), (_, _), (_, _), (_, _), (_, _), (_, _), (_, _), (_, _), (_, _), (_, _), (_, _), (_, _), (_, _), (_, _), (_, _), (_, _), (_, _), (_, _), (_, _), (_, _), (_, _), (_, _), (_, _), (_, _), (_, _), (_, _), (_, _), (_, _), (_, _), (_, _), (_, _), (_, _), (_, _), (_, _), (_, _), (_, _), (_, _), (_, _), (_, _), (_, _), (_, _), (_, _), (_, _), (_, _), (_, _), (_, _), (_, _)]) (x := ob _ [_, _, _]) pf_23_22 rfl rfl rfl rfl rfl ?_
  refine E_aload pf_23_25 rfl ?_
  refine E_dup pf_23_26 rfl ?_
  refine F_getf pf_23_27 rfl rfl rfl ?_
  refine E_iconst pf_23_30 ?_
  refine E_isub pf_23_31 ?_
  refine F_putf (l' := [(_, _), (_, _), (_, _), (_, _), (_, _), (_, _), (_, _), (_, _), (_, _), (_, _), (_, _), (_, _), (_, _), (_, _), (_, _), (_, _), (_, _), (_, _), (_, _), (_, _), (_, _), (_, _), (_, _), (_, _), (_, _), (_, _), (_, _), (_, _), (_, _), (_, _), (_, _), (_, _), (_, _), (_, _), (_, _), (_, _), (_, _), (_, _), (_, _), (_, _), (_, _), (_, _), (_, _), (_, _), (_, _), (_, _), (_, _), (_, _), (_, _), (_, _), (_, _), (_, _), (_, _), (_, _), (_, _), (_, _), (_, _), (_, _), (_, _), (_, _), (_, _), (_, _)]) (x := ob _ [_, _, _]) pf_23_32 rfl rfl rfl rfl rfl ?_
  refine E_aload pf_23_35 rfl ?_
  refine E_aload pf_23_36 rfl ?_
  refine F_getf pf_23_37 rfl rfl rfl ?_
  refine E_aload pf_23_40 rfl ?_
  refine F_getf pf_23_41 rfl rfl rfl ?_
  refine F_aald pf_23_44 rfl (by omega) ?_
  refine E_top (u := .ref 82) rfl ?_
  refine F_v2u (l' := [(_, _), (_, _), (_, _), (_, _), (_, _), (_, _), (_, _), (_, _), (_, _), (_, _), (_, _), (_, _), (_, _), (_, _), (_, _), (_, _), (_, _), (_, _), (_, _), (_, _), (_, _), (_, _), (_, _), (_, _), (_, _), (_, _), (_, _), (_, _), (_, _), (_, _), (_, _), (_, _), (_, _), (_, _), (_, _), (_, _), (_, _), (_, _), (_, _), (_, _), (_, _), (_, _), (_, _), (_, _), (_, _), (_, _), (_, _), (_, _), (_, _), (_, _), (_, _), (_, _), (_, _), (_, _), (_, _), (_, _), (_, _), (_, _), (_, _), (_, _), (_, _), (_, _)]) pf_23_45 (c52_24_82) (And.intro rfl (And.intro rfl (And.intro rfl (And.intro rfl (And.intro rfl (And.intro rfl (And.intro rfl (And.intro rfl (trivial))))))))) rfl rfl rfl rfl ?_
  exact E_vret pf_23_48 rfl
theorem c23g {k : Nat} (hk : k < 14) (hc : 1 ≤ c ∧ c ≤ 14) : ∀ h, Ca 23 [.ref 32, .ref 24] (wd (LM c (k : Int) S M) h) (.inl none, wd (LM (c - 1) (((k : Int) + 14 - 1) % 14) (pcp S (M ((k + 13) % 14))) M) h) := by
  have : k = 0 ∨ k = 1 ∨ k = 2 ∨ k = 3 ∨ k = 4 ∨ k = 5 ∨ k = 6 ∨ k = 7 ∨ k = 8 ∨ k = 9 ∨ k = 10 ∨ k = 11 ∨ k = 12 ∨ k = 13 := by omega
  rcases this with rfl | rfl | rfl | rfl | rfl | rfl | rfl | rfl | rfl | rfl | rfl | rfl | rfl | rfl
  · exact c23_0 hc
  · exact c23_1 hc
  · exact c23_2 hc
  · exact c23_3 hc
  · exact c23_4 hc
  · exact c23_5 hc
  · exact c23_6 hc
  · exact c23_7 hc
  · exact c23_8 hc
  · exact c23_9 hc
  · exact c23_10 hc
  · exact c23_11 hc
  · exact c23_12 hc
  · exact c23_13 hc
theorem c24 {nx : Int} : ∀ h, Ca 24 [.ref 32] (wd [(32, oM c nx)] h) (.inl none, wd [(32, oM 0 0)] h) := by
  intro h
  refine E_in (lv := [_]) rfl ?_
  refine E_aload pf_24_0 rfl ?_
  refine E_iconst pf_24_1 ?_
  refine F_putf (l' := [(_, _)]) (x := ob _ [_, _, _]) pf_24_2 rfl rfl rfl rfl rfl ?_
  refine E_aload pf_24_5 rfl ?_
  refine E_iconst pf_24_6 ?_
  refine F_putf (l' := [(_, _)]) (x := ob _ [_, _, _]) pf_24_7 rfl rfl rfl rfl rfl ?_
  exact E_vret pf_24_10 rfl
end MEM
/-- the diary moved up by one page -/
def dsh (D : Int → Int) (n : Int) : Int → Int := fun k => if 0 ≤ k ∧ k < n then D (k + 72) else D k
theorem dsh_s (D : Int → Int) (n : Nat) : dsh D ((n + 1 : Nat) : Int) = zu (dsh D n) n (D (n + 72)) := by
  funext k
  unfold dsh zu
  by_cases e : k = n
  · rw [if_pos (by omega), if_pos e, e]
  · rw [if_neg e]
    by_cases e2 : 0 ≤ k ∧ k < (n : Int)
    · rw [if_pos (by omega)]; exact (if_pos e2).symm
    · rw [if_neg (by omega)]; exact (if_neg e2).symm
def dpg (D : Int → Int) (i : Nat) : Int → Int := fun k => D (72 * i + k)
def dnt (D r : Int → Int) (ac : Nat) : Int → Int := if ac = 14 then zcpy r (dsh D 936) 0 936 72 else zcpy r D 0 (72 * ac) 72
theorem dnt_new {D r : Int → Int} {ac : Nat} (h : ac ≤ 14) {k : Int} (hk : 0 ≤ k ∧ k < 72) : dpg (dnt D r ac) (if ac = 14 then 13 else ac) k = r k := by
  unfold dpg dnt
  by_cases e : ac = 14
  · rw [if_pos e, if_pos e, zcpy_at (by omega)]; congr 1; omega
  · rw [if_neg e, if_neg e, zcpy_at (by omega)]; congr 1; omega
theorem dnt_old {D r : Int → Int} {ac i : Nat} (h : ac ≤ 14) {k : Int} (hk : 0 ≤ k ∧ k < 72) (hi : i < (if ac = 14 then 13 else ac)) : dpg (dnt D r ac) i k = dpg D (if ac = 14 then i + 1 else i) k := by
  unfold dpg dnt
  by_cases e : ac = 14
  · rw [if_pos e] at hi
    rw [if_pos e, if_pos e, zcpy_out (by omega)]
    unfold dsh
    rw [if_pos (by omega)]; congr 1; omega
  · rw [if_neg e] at hi
    rw [if_neg e, if_neg e, zcpy_out (by omega)]
section NOTE
variable {rf ts sp d k vs rw rd rk rv rr : Int} {r D : Int → Int} {ac : Nat}
theorem c150 (hac : ac ≤ 14) : ∀ h, Ca 150 [.ref 102] (wd [(102, oX6 rf ts sp d k vs rw rd rk rv rr (ac : Int)), (107, ar 72 r), (109, ar 1008 D)] h) (.inl none, wd [(102, oX6 rf ts sp d k vs rw rd rk rv rr (if ac = 14 then 14 else (ac : Int) + 1)), (107, ar 72 r), (109, ar 1008 (dnt D r ac))] h) := by
  intro h
  refine E_in (lv := [_, _]) rfl ?_
  unfold dnt
  by_cases e : ac = 14
  · rw [if_pos e, if_pos e]
    have loop : ∀ (n i : Nat) (D1 : Int → Int), i + n = 936 → D1 = dsh D (i : Int) → Rn 150 11 [.ref 102, .int (ii (i : Int))] [] (wd [(102, oX6 rf ts sp d k vs rw rd rk rv rr (ac : Int)), (107, ar 72 r), (109, ar 1008 D1)] h) (.inl none, wd [(102, oX6 rf ts sp d k vs rw rd rk rv rr 14), (107, ar 72 r), (109, ar 1008 (zcpy r (dsh D 936) 0 936 72))] h) := by
      intro n
      induction n with
      | zero =>
        intro i D1 hi hD
        obtain rfl : i = 936 := by omega
        obtain rfl := hD
        subst e
        refine E_iload pf_150_11 rfl ?_
        refine E_iconst pf_150_12 ?_
        refine E_icmp_ge_t pf_150_15 (by omega) ?_
        refine E_aload pf_150_39 rfl ?_
        refine E_dup pf_150_40 rfl ?_
        refine F_getf pf_150_41 rfl rfl rfl ?_
        refine E_iconst pf_150_44 ?_
        refine E_isub pf_150_45 ?_
        refine F_putf (l' := [(_, _), (_, _), (_, _)]) (x := ob _ [_, _, _, _, _, _, _, _, _, _, _, _, _, _, _, _, _, _, _, _, _, _, _, _, _]) pf_150_46 rfl rfl rfl rfl rfl ?_
        refine E_aload pf_150_49 rfl ?_
        refine F_getf pf_150_50 rfl rfl rfl ?_
        refine E_iconst pf_150_53 ?_
        refine E_aload pf_150_54 rfl ?_
        refine F_getf pf_150_55 rfl rfl rfl ?_
        refine E_iconst pf_150_58 ?_
        refine E_aload pf_150_60 rfl ?_
        refine F_getf pf_150_61 rfl rfl rfl ?_
        refine E_imul pf_150_64 ?_
        refine F_c4u (l' := [(_, _), (_, _), (_, _)]) pf_150_65 (c110nd (by omega) (by omega)) (And.intro rfl (And.intro rfl (trivial))) rfl rfl rfl ?_
        refine E_aload pf_150_68 rfl ?_
        refine E_dup pf_150_69 rfl ?_
        refine F_getf pf_150_70 rfl rfl rfl ?_
        refine E_iconst pf_150_73 ?_
        refine E_iadd pf_150_74 ?_
        refine F_putf (l' := [(_, _), (_, _), (_, _)]) (x := ob _ [_, _, _, _, _, _, _, _, _, _, _, _, _, _, _, _, _, _, _, _, _, _, _, _, _]) pf_150_75 rfl rfl rfl rfl rfl ?_
        exact E_vret pf_150_78 rfl
      | succ n ih =>
        intro i D1 hi hD
        have e2 : D1 ((i : Int) + 72) = D (i + 72) := by
          rw [hD]; unfold dsh; rw [if_neg (by omega)]
        have ih := ih (i + 1) (zu D1 i (D1 ((i : Int) + 72))) (by omega) (by rw [e2, hD, dsh_s])
        refine E_iload pf_150_11 rfl ?_
        refine E_iconst pf_150_12 ?_
        refine E_icmp_ge_f pf_150_15 (by omega) ?_
        refine E_aload pf_150_18 rfl ?_
        refine F_getf pf_150_19 rfl rfl rfl ?_
        refine E_iload pf_150_22 rfl ?_
        refine E_aload pf_150_23 rfl ?_
        refine F_getf pf_150_24 rfl rfl rfl ?_
        refine E_iload pf_150_27 rfl ?_
        refine E_iconst pf_150_28 ?_
        refine E_iadd pf_150_30 ?_
        refine F_iald pf_150_31 rfl (by omega) ?_
        refine F_iast (l' := [(_, _), (_, _), (_, _)]) pf_150_32 rfl (by omega) rfl ?_
        refine E_iinc (lv' := [_, _]) pf_150_33 rfl rfl ?_
        refine E_goto pf_150_36 ?_
        exact ih
    refine E_aload pf_150_0 rfl ?_
    refine F_getf pf_150_1 rfl rfl rfl ?_
    refine E_iconst pf_150_4 ?_
    refine E_icmp_ne_f pf_150_6 (by omega) ?_
    refine E_iconst pf_150_9 ?_
    refine E_istore (lv' := [_, _]) pf_150_10 rfl rfl ?_
    exact loop 936 0 D (by omega) (by funext q; unfold dsh; rw [if_neg (by omega)])
  · rw [if_neg e, if_neg e]
    refine E_aload pf_150_0 rfl ?_
    refine F_getf pf_150_1 rfl rfl rfl ?_
    refine E_iconst pf_150_4 ?_
    refine E_icmp_ne_t pf_150_6 (by omega) ?_
    refine E_aload pf_150_49 rfl ?_
    refine F_getf pf_150_50 rfl rfl rfl ?_
    refine E_iconst pf_150_53 ?_
    refine E_aload pf_150_54 rfl ?_
    refine F_getf pf_150_55 rfl rfl rfl ?_
    refine E_iconst pf_150_58 ?_
    refine E_aload pf_150_60 rfl ?_
    refine F_getf pf_150_61 rfl rfl rfl ?_
    refine E_imul pf_150_64 ?_
    refine F_c4u (l' := [(_, _), (_, _), (_, _)]) pf_150_65 (c110nd (by omega) (by omega)) (And.intro rfl (And.intro rfl (trivial))) rfl rfl rfl ?_
    refine E_aload pf_150_68 rfl ?_
    refine E_dup pf_150_69 rfl ?_
    refine F_getf pf_150_70 rfl rfl rfl ?_
    refine E_iconst pf_150_73 ?_
    refine E_iadd pf_150_74 ?_
    refine F_putf (l' := [(_, _), (_, _), (_, _)]) (x := ob _ [_, _, _, _, _, _, _, _, _, _, _, _, _, _, _, _, _, _, _, _, _, _, _, _, _]) pf_150_75 rfl rfl rfl rfl rfl ?_
    exact E_vret pf_150_78 rfl
end NOTE
