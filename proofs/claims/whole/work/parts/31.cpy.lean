/-! Copies of states and pages. -/
abbrev pg : Type := Int × (Int → Int) × Int × (Int → Int) × (Int → Int) × Int × Int
abbrev pst (a : Nat) (p : pg) : pd_E := ob 4 [.int (ii p.1), .ref (a + 1), .int (ii p.2.2.1), .ref (a + 2), .ref (a + 3), .int (ii p.2.2.2.2.2.1), .int (ii p.2.2.2.2.2.2)]
/-- the page p copied over the page p0 -/
abbrev pcp (p0 p : pg) : pg := (p.1, zcpy p.2.1 p0.2.1 0 0 20, p.2.2.1, zcpy p.2.2.2.1 p0.2.2.2.1 0 0 24, zcpy p.2.2.2.2.1 p0.2.2.2.2.1 0 0 24, p.2.2.2.2.2.1, p.2.2.2.2.2.2)
abbrev pcr (p0 p : pg) : pg := (p.1, zcpy p.2.1 p0.2.1 0 0 20, p0.2.2)
theorem zcpy_at {f g : Int → Int} {sp dp n k : Int} (h : dp ≤ k ∧ k < dp + n) : zcpy f g sp dp n k = f (sp + (k - dp)) := by unfold zcpy; rw [if_pos h]
theorem zcpy_out {f g : Int → Int} {sp dp n k : Int} (h : ¬ (dp ≤ k ∧ k < dp + n)) : zcpy f g sp dp n k = g k := by unfold zcpy; rw [if_neg h]
theorem zcpy_0 (f g : Int → Int) (sp dp : Int) : zcpy f g sp dp ((0 : Nat) : Int) = g := by
  funext k; exact zcpy_out (by omega)
theorem zcpy_s (f g : Int → Int) (sp dp : Int) (n : Nat) : zcpy f g sp dp ((n + 1 : Nat) : Int) = zu (zcpy f g sp dp n) (dp + n) (f (sp + n)) := by
  funext k
  by_cases e : k = dp + n
  · rw [e, zu_s, zcpy_at (by omega)]; congr 1; omega
  · rw [zu_n _ _ e]
    by_cases e2 : dp ≤ k ∧ k < dp + n
    · rw [zcpy_at (by omega), zcpy_at e2]
    · rw [zcpy_out (by omega), zcpy_out e2]
/-- a contract in a wider heap -/
theorem Ca_fr {c : Nat} {as : List Value} {lc lc' l l' : pd_L} {v : pd_Out} (hc : ∀ h, Ca c as (wd lc h) (v, wd lc' h)) (hs : wsub l lc) (ha : wad l lc' = true) (hm : wsm l lc' = l') : ∀ h, Ca c as (wd l h) (v, wd l' h) := by
  intro h
  have := hc (wd l h)
  rw [wd_same hs, wd_merge ha, hm] at this
  exact this
section CPY
variable {p p0 : pg}
theorem c53_34_24 : ∀ h, Ca 53 [.ref 34, .ref 24] (wd [(34, pst 34 p0), (35, ar 20 p0.2.1), (36, ar 24 p0.2.2.2.1), (37, ar 24 p0.2.2.2.2.1), (24, pst 24 p), (25, ar 20 p.2.1), (26, ar 24 p.2.2.2.1), (27, ar 24 p.2.2.2.2.1)] h) (.inl none, wd [(34, pst 34 (pcr p0 p)), (35, ar 20 (pcr p0 p).2.1), (36, ar 24 (pcr p0 p).2.2.2.1), (37, ar 24 (pcr p0 p).2.2.2.2.1), (24, pst 24 p), (25, ar 20 p.2.1), (26, ar 24 p.2.2.2.1), (27, ar 24 p.2.2.2.2.1)] h) := by
  intro h
  refine E_in (lv := [_, _]) rfl ?_
  refine E_aload pf_53_0 rfl ?_
  refine E_aload pf_53_1 rfl ?_
  refine F_getf pf_53_2 rfl rfl rfl ?_
  refine F_putf (l' := [(_, _), (_, _), (_, _), (_, _), (_, _), (_, _), (_, _), (_, _)]) (x := ob _ [_, _, _, _, _, _, _]) pf_53_5 rfl rfl rfl rfl rfl ?_
  refine E_aload pf_53_8 rfl ?_
  refine F_getf pf_53_9 rfl rfl rfl ?_
  refine E_iconst pf_53_12 ?_
  refine E_aload pf_53_13 rfl ?_
  refine F_getf pf_53_14 rfl rfl rfl ?_
  refine E_iconst pf_53_17 ?_
  refine E_aload pf_53_18 rfl ?_
  refine F_getf pf_53_19 rfl rfl rfl ?_
  refine F_alenI pf_53_22 rfl ?_
  refine F_acopy (l' := [(_, _), (_, _), (_, _), (_, _), (_, _), (_, _), (_, _), (_, _)]) pf_53_23 rfl rfl (by omega) rfl rfl ?_
  exact E_vret pf_53_26 rfl
theorem c52_34_24 : ∀ h, Ca 52 [.ref 34, .ref 24] (wd [(34, pst 34 p0), (35, ar 20 p0.2.1), (36, ar 24 p0.2.2.2.1), (37, ar 24 p0.2.2.2.2.1), (24, pst 24 p), (25, ar 20 p.2.1), (26, ar 24 p.2.2.2.1), (27, ar 24 p.2.2.2.2.1)] h) (.inl none, wd [(34, pst 34 (pcp p0 p)), (35, ar 20 (pcp p0 p).2.1), (36, ar 24 (pcp p0 p).2.2.2.1), (37, ar 24 (pcp p0 p).2.2.2.2.1), (24, pst 24 p), (25, ar 20 p.2.1), (26, ar 24 p.2.2.2.1), (27, ar 24 p.2.2.2.2.1)] h) := by
  intro h
  refine E_in (lv := [_, _]) rfl ?_
  refine E_aload pf_52_0 rfl ?_
  refine E_aload pf_52_1 rfl ?_
  refine F_v2u (l' := [(_, _), (_, _), (_, _), (_, _), (_, _), (_, _), (_, _), (_, _)]) pf_52_2 (c53_34_24) (And.intro rfl (And.intro rfl (And.intro rfl (And.intro rfl (And.intro rfl (And.intro rfl (And.intro rfl (And.intro rfl (trivial))))))))) rfl rfl rfl rfl ?_
  refine E_aload pf_52_5 rfl ?_
  refine E_aload pf_52_6 rfl ?_
  refine F_getf pf_52_7 rfl rfl rfl ?_
  refine F_putf (l' := [(_, _), (_, _), (_, _), (_, _), (_, _), (_, _), (_, _), (_, _)]) (x := ob _ [_, _, _, _, _, _, _]) pf_52_10 rfl rfl rfl rfl rfl ?_
  refine E_aload pf_52_13 rfl ?_
  refine F_getf pf_52_14 rfl rfl rfl ?_
  refine E_iconst pf_52_17 ?_
  refine E_aload pf_52_18 rfl ?_
  refine F_getf pf_52_19 rfl rfl rfl ?_
  refine E_iconst pf_52_22 ?_
  refine E_iconst pf_52_23 ?_
  refine F_acopy (l' := [(_, _), (_, _), (_, _), (_, _), (_, _), (_, _), (_, _), (_, _)]) pf_52_25 rfl rfl (by omega) rfl rfl ?_
  refine E_aload pf_52_28 rfl ?_
  refine F_getf pf_52_29 rfl rfl rfl ?_
  refine E_iconst pf_52_32 ?_
  refine E_aload pf_52_33 rfl ?_
  refine F_getf pf_52_34 rfl rfl rfl ?_
  refine E_iconst pf_52_37 ?_
  refine E_iconst pf_52_38 ?_
  refine F_acopy (l' := [(_, _), (_, _), (_, _), (_, _), (_, _), (_, _), (_, _), (_, _)]) pf_52_40 rfl rfl (by omega) rfl rfl ?_
  refine E_aload pf_52_43 rfl ?_
  refine E_aload pf_52_44 rfl ?_
  refine F_getf pf_52_45 rfl rfl rfl ?_
  refine F_putf (l' := [(_, _), (_, _), (_, _), (_, _), (_, _), (_, _), (_, _), (_, _)]) (x := ob _ [_, _, _, _, _, _, _]) pf_52_48 rfl rfl rfl rfl rfl ?_
  refine E_aload pf_52_51 rfl ?_
  refine E_aload pf_52_52 rfl ?_
  refine F_getf pf_52_53 rfl rfl rfl ?_
  refine F_putf (l' := [(_, _), (_, _), (_, _), (_, _), (_, _), (_, _), (_, _), (_, _)]) (x := ob _ [_, _, _, _, _, _, _]) pf_52_56 rfl rfl rfl rfl rfl ?_
  exact E_vret pf_52_59 rfl
theorem c53_38_24 : ∀ h, Ca 53 [.ref 38, .ref 24] (wd [(38, pst 38 p0), (39, ar 20 p0.2.1), (40, ar 24 p0.2.2.2.1), (41, ar 24 p0.2.2.2.2.1), (24, pst 24 p), (25, ar 20 p.2.1), (26, ar 24 p.2.2.2.1), (27, ar 24 p.2.2.2.2.1)] h) (.inl none, wd [(38, pst 38 (pcr p0 p)), (39, ar 20 (pcr p0 p).2.1), (40, ar 24 (pcr p0 p).2.2.2.1), (41, ar 24 (pcr p0 p).2.2.2.2.1), (24, pst 24 p), (25, ar 20 p.2.1), (26, ar 24 p.2.2.2.1), (27, ar 24 p.2.2.2.2.1)] h) := by
  intro h
  refine E_in (lv := [_, _]) rfl ?_
  refine E_aload pf_53_0 rfl ?_
  refine E_aload pf_53_1 rfl ?_
  refine F_getf pf_53_2 rfl rfl rfl ?_
  refine F_putf (l' := [(_, _), (_, _), (_, _), (_, _), (_, _), (_, _), (_, _), (_, _)]) (x := ob _ [_, _, _, _, _, _, _]) pf_53_5 rfl rfl rfl rfl rfl ?_
  refine E_aload pf_53_8 rfl ?_
  refine F_getf pf_53_9 rfl rfl rfl ?_
  refine E_iconst pf_53_12 ?_
  refine E_aload pf_53_13 rfl ?_
  refine F_getf pf_53_14 rfl rfl rfl ?_
  refine E_iconst pf_53_17 ?_
  refine E_aload pf_53_18 rfl ?_
  refine F_getf pf_53_19 rfl rfl rfl ?_
  refine F_alenI pf_53_22 rfl ?_
  refine F_acopy (l' := [(_, _), (_, _), (_, _), (_, _), (_, _), (_, _), (_, _), (_, _)]) pf_53_23 rfl rfl (by omega) rfl rfl ?_
  exact E_vret pf_53_26 rfl
theorem c52_38_24 : ∀ h, Ca 52 [.ref 38, .ref 24] (wd [(38, pst 38 p0), (39, ar 20 p0.2.1), (40, ar 24 p0.2.2.2.1), (41, ar 24 p0.2.2.2.2.1), (24, pst 24 p), (25, ar 20 p.2.1), (26, ar 24 p.2.2.2.1), (27, ar 24 p.2.2.2.2.1)] h) (.inl none, wd [(38, pst 38 (pcp p0 p)), (39, ar 20 (pcp p0 p).2.1), (40, ar 24 (pcp p0 p).2.2.2.1), (41, ar 24 (pcp p0 p).2.2.2.2.1), (24, pst 24 p), (25, ar 20 p.2.1), (26, ar 24 p.2.2.2.1), (27, ar 24 p.2.2.2.2.1)] h) := by
  intro h
  refine E_in (lv := [_, _]) rfl ?_
  refine E_aload pf_52_0 rfl ?_
  refine E_aload pf_52_1 rfl ?_
  refine F_v2u (l' := [(_, _), (_, _), (_, _), (_, _), (_, _), (_, _), (_, _), (_, _)]) pf_52_2 (c53_38_24) (And.intro rfl (And.intro rfl (And.intro rfl (And.intro rfl (And.intro rfl (And.intro rfl (And.intro rfl (And.intro rfl (trivial))))))))) rfl rfl rfl rfl ?_
  refine E_aload pf_52_5 rfl ?_
  refine E_aload pf_52_6 rfl ?_
  refine F_getf pf_52_7 rfl rfl rfl ?_
  refine F_putf (l' := [(_, _), (_, _), (_, _), (_, _), (_, _), (_, _), (_, _), (_, _)]) (x := ob _ [_, _, _, _, _, _, _]) pf_52_10 rfl rfl rfl rfl rfl ?_
  refine E_aload pf_52_13 rfl ?_
  refine F_getf pf_52_14 rfl rfl rfl ?_
  refine E_iconst pf_52_17 ?_
  refine E_aload pf_52_18 rfl ?_
  refine F_getf pf_52_19 rfl rfl rfl ?_
  refine E_iconst pf_52_22 ?_
  refine E_iconst pf_52_23 ?_
  refine F_acopy (l' := [(_, _), (_, _), (_, _), (_, _), (_, _), (_, _), (_, _), (_, _)]) pf_52_25 rfl rfl (by omega) rfl rfl ?_
  refine E_aload pf_52_28 rfl ?_
  refine F_getf pf_52_29 rfl rfl rfl ?_
  refine E_iconst pf_52_32 ?_
  refine E_aload pf_52_33 rfl ?_
  refine F_getf pf_52_34 rfl rfl rfl ?_
  refine E_iconst pf_52_37 ?_
  refine E_iconst pf_52_38 ?_
  refine F_acopy (l' := [(_, _), (_, _), (_, _), (_, _), (_, _), (_, _), (_, _), (_, _)]) pf_52_40 rfl rfl (by omega) rfl rfl ?_
  refine E_aload pf_52_43 rfl ?_
  refine E_aload pf_52_44 rfl ?_
  refine F_getf pf_52_45 rfl rfl rfl ?_
  refine F_putf (l' := [(_, _), (_, _), (_, _), (_, _), (_, _), (_, _), (_, _), (_, _)]) (x := ob _ [_, _, _, _, _, _, _]) pf_52_48 rfl rfl rfl rfl rfl ?_
  refine E_aload pf_52_51 rfl ?_
  refine E_aload pf_52_52 rfl ?_
  refine F_getf pf_52_53 rfl rfl rfl ?_
  refine F_putf (l' := [(_, _), (_, _), (_, _), (_, _), (_, _), (_, _), (_, _), (_, _)]) (x := ob _ [_, _, _, _, _, _, _]) pf_52_56 rfl rfl rfl rfl rfl ?_
  exact E_vret pf_52_59 rfl
theorem c53_42_24 : ∀ h, Ca 53 [.ref 42, .ref 24] (wd [(42, pst 42 p0), (43, ar 20 p0.2.1), (44, ar 24 p0.2.2.2.1), (45, ar 24 p0.2.2.2.2.1), (24, pst 24 p), (25, ar 20 p.2.1), (26, ar 24 p.2.2.2.1), (27, ar 24 p.2.2.2.2.1)] h) (.inl none, wd [(42, pst 42 (pcr p0 p)), (43, ar 20 (pcr p0 p).2.1), (44, ar 24 (pcr p0 p).2.2.2.1), (45, ar 24 (pcr p0 p).2.2.2.2.1), (24, pst 24 p), (25, ar 20 p.2.1), (26, ar 24 p.2.2.2.1), (27, ar 24 p.2.2.2.2.1)] h) := by
  intro h
  refine E_in (lv := [_, _]) rfl ?_
  refine E_aload pf_53_0 rfl ?_
  refine E_aload pf_53_1 rfl ?_
  refine F_getf pf_53_2 rfl rfl rfl ?_
  refine F_putf (l' := [(_, _), (_, _), (_, _), (_, _), (_, _), (_, _), (_, _), (_, _)]) (x := ob _ [_, _, _, _, _, _, _]) pf_53_5 rfl rfl rfl rfl rfl ?_
  refine E_aload pf_53_8 rfl ?_
  refine F_getf pf_53_9 rfl rfl rfl ?_
  refine E_iconst pf_53_12 ?_
  refine E_aload pf_53_13 rfl ?_
  refine F_getf pf_53_14 rfl rfl rfl ?_
  refine E_iconst pf_53_17 ?_
  refine E_aload pf_53_18 rfl ?_
  refine F_getf pf_53_19 rfl rfl rfl ?_
  refine F_alenI pf_53_22 rfl ?_
  refine F_acopy (l' := [(_, _), (_, _), (_, _), (_, _), (_, _), (_, _), (_, _), (_, _)]) pf_53_23 rfl rfl (by omega) rfl rfl ?_
  exact E_vret pf_53_26 rfl
theorem c52_42_24 : ∀ h, Ca 52 [.ref 42, .ref 24] (wd [(42, pst 42 p0), (43, ar 20 p0.2.1), (44, ar 24 p0.2.2.2.1), (45, ar 24 p0.2.2.2.2.1), (24, pst 24 p), (25, ar 20 p.2.1), (26, ar 24 p.2.2.2.1), (27, ar 24 p.2.2.2.2.1)] h) (.inl none, wd [(42, pst 42 (pcp p0 p)), (43, ar 20 (pcp p0 p).2.1), (44, ar 24 (pcp p0 p).2.2.2.1), (45, ar 24 (pcp p0 p).2.2.2.2.1), (24, pst 24 p), (25, ar 20 p.2.1), (26, ar 24 p.2.2.2.1), (27, ar 24 p.2.2.2.2.1)] h) := by
  intro h
  refine E_in (lv := [_, _]) rfl ?_
  refine E_aload pf_52_0 rfl ?_
  refine E_aload pf_52_1 rfl ?_
  refine F_v2u (l' := [(_, _), (_, _), (_, _), (_, _), (_, _), (_, _), (_, _), (_, _)]) pf_52_2 (c53_42_24) (And.intro rfl (And.intro rfl (And.intro rfl (And.intro rfl (And.intro rfl (And.intro rfl (And.intro rfl (And.intro rfl (trivial))))))))) rfl rfl rfl rfl ?_
  refine E_aload pf_52_5 rfl ?_
  refine E_aload pf_52_6 rfl ?_
  refine F_getf pf_52_7 rfl rfl rfl ?_
  refine F_putf (l' := [(_, _), (_, _), (_, _), (_, _), (_, _), (_, _), (_, _), (_, _)]) (x := ob _ [_, _, _, _, _, _, _]) pf_52_10 rfl rfl rfl rfl rfl ?_
  refine E_aload pf_52_13 rfl ?_
  refine F_getf pf_52_14 rfl rfl rfl ?_
  refine E_iconst pf_52_17 ?_
  refine E_aload pf_52_18 rfl ?_
  refine F_getf pf_52_19 rfl rfl rfl ?_
  refine E_iconst pf_52_22 ?_
  refine E_iconst pf_52_23 ?_
  refine F_acopy (l' := [(_, _), (_, _), (_, _), (_, _), (_, _), (_, _), (_, _), (_, _)]) pf_52_25 rfl rfl (by omega) rfl rfl ?_
  refine E_aload pf_52_28 rfl ?_
  refine F_getf pf_52_29 rfl rfl rfl ?_
  refine E_iconst pf_52_32 ?_
  refine E_aload pf_52_33 rfl ?_
  refine F_getf pf_52_34 rfl rfl rfl ?_
  refine E_iconst pf_52_37 ?_
  refine E_iconst pf_52_38 ?_
  refine F_acopy (l' := [(_, _), (_, _), (_, _), (_, _), (_, _), (_, _), (_, _), (_, _)]) pf_52_40 rfl rfl (by omega) rfl rfl ?_
  refine E_aload pf_52_43 rfl ?_
  refine E_aload pf_52_44 rfl ?_
  refine F_getf pf_52_45 rfl rfl rfl ?_
  refine F_putf (l' := [(_, _), (_, _), (_, _), (_, _), (_, _), (_, _), (_, _), (_, _)]) (x := ob _ [_, _, _, _, _, _, _]) pf_52_48 rfl rfl rfl rfl rfl ?_
  refine E_aload pf_52_51 rfl ?_
  refine E_aload pf_52_52 rfl ?_
  refine F_getf pf_52_53 rfl rfl rfl ?_
  refine F_putf (l' := [(_, _), (_, _), (_, _), (_, _), (_, _), (_, _), (_, _), (_, _)]) (x := ob _ [_, _, _, _, _, _, _]) pf_52_56 rfl rfl rfl rfl rfl ?_
  exact E_vret pf_52_59 rfl
theorem c53_46_24 : ∀ h, Ca 53 [.ref 46, .ref 24] (wd [(46, pst 46 p0), (47, ar 20 p0.2.1), (48, ar 24 p0.2.2.2.1), (49, ar 24 p0.2.2.2.2.1), (24, pst 24 p), (25, ar 20 p.2.1), (26, ar 24 p.2.2.2.1), (27, ar 24 p.2.2.2.2.1)] h) (.inl none, wd [(46, pst 46 (pcr p0 p)), (47, ar 20 (pcr p0 p).2.1), (48, ar 24 (pcr p0 p).2.2.2.1), (49, ar 24 (pcr p0 p).2.2.2.2.1), (24, pst 24 p), (25, ar 20 p.2.1), (26, ar 24 p.2.2.2.1), (27, ar 24 p.2.2.2.2.1)] h) := by
  intro h
  refine E_in (lv := [_, _]) rfl ?_
  refine E_aload pf_53_0 rfl ?_
  refine E_aload pf_53_1 rfl ?_
  refine F_getf pf_53_2 rfl rfl rfl ?_
  refine F_putf (l' := [(_, _), (_, _), (_, _), (_, _), (_, _), (_, _), (_, _), (_, _)]) (x := ob _ [_, _, _, _, _, _, _]) pf_53_5 rfl rfl rfl rfl rfl ?_
  refine E_aload pf_53_8 rfl ?_
  refine F_getf pf_53_9 rfl rfl rfl ?_
  refine E_iconst pf_53_12 ?_
  refine E_aload pf_53_13 rfl ?_
  refine F_getf pf_53_14 rfl rfl rfl ?_
  refine E_iconst pf_53_17 ?_
  refine E_aload pf_53_18 rfl ?_
  refine F_getf pf_53_19 rfl rfl rfl ?_
  refine F_alenI pf_53_22 rfl ?_
  refine F_acopy (l' := [(_, _), (_, _), (_, _), (_, _), (_, _), (_, _), (_, _), (_, _)]) pf_53_23 rfl rfl (by omega) rfl rfl ?_
  exact E_vret pf_53_26 rfl
theorem c52_46_24 : ∀ h, Ca 52 [.ref 46, .ref 24] (wd [(46, pst 46 p0), (47, ar 20 p0.2.1), (48, ar 24 p0.2.2.2.1), (49, ar 24 p0.2.2.2.2.1), (24, pst 24 p), (25, ar 20 p.2.1), (26, ar 24 p.2.2.2.1), (27, ar 24 p.2.2.2.2.1)] h) (.inl none, wd [(46, pst 46 (pcp p0 p)), (47, ar 20 (pcp p0 p).2.1), (48, ar 24 (pcp p0 p).2.2.2.1), (49, ar 24 (pcp p0 p).2.2.2.2.1), (24, pst 24 p), (25, ar 20 p.2.1), (26, ar 24 p.2.2.2.1), (27, ar 24 p.2.2.2.2.1)] h) := by
  intro h
  refine E_in (lv := [_, _]) rfl ?_
  refine E_aload pf_52_0 rfl ?_
  refine E_aload pf_52_1 rfl ?_
  refine F_v2u (l' := [(_, _), (_, _), (_, _), (_, _), (_, _), (_, _), (_, _), (_, _)]) pf_52_2 (c53_46_24) (And.intro rfl (And.intro rfl (And.intro rfl (And.intro rfl (And.intro rfl (And.intro rfl (And.intro rfl (And.intro rfl (trivial))))))))) rfl rfl rfl rfl ?_
  refine E_aload pf_52_5 rfl ?_
  refine E_aload pf_52_6 rfl ?_
  refine F_getf pf_52_7 rfl rfl rfl ?_
  refine F_putf (l' := [(_, _), (_, _), (_, _), (_, _), (_, _), (_, _), (_, _), (_, _)]) (x := ob _ [_, _, _, _, _, _, _]) pf_52_10 rfl rfl rfl rfl rfl ?_
  refine E_aload pf_52_13 rfl ?_
  refine F_getf pf_52_14 rfl rfl rfl ?_
  refine E_iconst pf_52_17 ?_
  refine E_aload pf_52_18 rfl ?_
  refine F_getf pf_52_19 rfl rfl rfl ?_
  refine E_iconst pf_52_22 ?_
  refine E_iconst pf_52_23 ?_
  refine F_acopy (l' := [(_, _), (_, _), (_, _), (_, _), (_, _), (_, _), (_, _), (_, _)]) pf_52_25 rfl rfl (by omega) rfl rfl ?_
  refine E_aload pf_52_28 rfl ?_
  refine F_getf pf_52_29 rfl rfl rfl ?_
  refine E_iconst pf_52_32 ?_
  refine E_aload pf_52_33 rfl ?_
  refine F_getf pf_52_34 rfl rfl rfl ?_
  refine E_iconst pf_52_37 ?_
  refine E_iconst pf_52_38 ?_
  refine F_acopy (l' := [(_, _), (_, _), (_, _), (_, _), (_, _), (_, _), (_, _), (_, _)]) pf_52_40 rfl rfl (by omega) rfl rfl ?_
  refine E_aload pf_52_43 rfl ?_
  refine E_aload pf_52_44 rfl ?_
  refine F_getf pf_52_45 rfl rfl rfl ?_
  refine F_putf (l' := [(_, _), (_, _), (_, _), (_, _), (_, _), (_, _), (_, _), (_, _)]) (x := ob _ [_, _, _, _, _, _, _]) pf_52_48 rfl rfl rfl rfl rfl ?_
  refine E_aload pf_52_51 rfl ?_
  refine E_aload pf_52_52 rfl ?_
  refine F_getf pf_52_53 rfl rfl rfl ?_
  refine F_putf (l' := [(_, _), (_, _), (_, _), (_, _), (_, _), (_, _), (_, _), (_, _)]) (x := ob _ [_, _, _, _, _, _, _]) pf_52_56 rfl rfl rfl rfl rfl ?_
  exact E_vret pf_52_59 rfl
theorem c53_50_24 : ∀ h, Ca 53 [.ref 50, .ref 24] (wd [(50, pst 50 p0), (51, ar 20 p0.2.1), (52, ar 24 p0.2.2.2.1), (53, ar 24 p0.2.2.2.2.1), (24, pst 24 p), (25, ar 20 p.2.1), (26, ar 24 p.2.2.2.1), (27, ar 24 p.2.2.2.2.1)] h) (.inl none, wd [(50, pst 50 (pcr p0 p)), (51, ar 20 (pcr p0 p).2.1), (52, ar 24 (pcr p0 p).2.2.2.1), (53, ar 24 (pcr p0 p).2.2.2.2.1), (24, pst 24 p), (25, ar 20 p.2.1), (26, ar 24 p.2.2.2.1), (27, ar 24 p.2.2.2.2.1)] h) := by
  intro h
  refine E_in (lv := [_, _]) rfl ?_
  refine E_aload pf_53_0 rfl ?_
  refine E_aload pf_53_1 rfl ?_
  refine F_getf pf_53_2 rfl rfl rfl ?_
  refine F_putf (l' := [(_, _), (_, _), (_, _), (_, _), (_, _), (_, _), (_, _), (_, _)]) (x := ob _ [_, _, _, _, _, _, _]) pf_53_5 rfl rfl rfl rfl rfl ?_
  refine E_aload pf_53_8 rfl ?_
  refine F_getf pf_53_9 rfl rfl rfl ?_
  refine E_iconst pf_53_12 ?_
  refine E_aload pf_53_13 rfl ?_
  refine F_getf pf_53_14 rfl rfl rfl ?_
  refine E_iconst pf_53_17 ?_
  refine E_aload pf_53_18 rfl ?_
  refine F_getf pf_53_19 rfl rfl rfl ?_
  refine F_alenI pf_53_22 rfl ?_
  refine F_acopy (l' := [(_, _), (_, _), (_, _), (_, _), (_, _), (_, _), (_, _), (_, _)]) pf_53_23 rfl rfl (by omega) rfl rfl ?_
  exact E_vret pf_53_26 rfl
theorem c52_50_24 : ∀ h, Ca 52 [.ref 50, .ref 24] (wd [(50, pst 50 p0), (51, ar 20 p0.2.1), (52, ar 24 p0.2.2.2.1), (53, ar 24 p0.2.2.2.2.1), (24, pst 24 p), (25, ar 20 p.2.1), (26, ar 24 p.2.2.2.1), (27, ar 24 p.2.2.2.2.1)] h) (.inl none, wd [(50, pst 50 (pcp p0 p)), (51, ar 20 (pcp p0 p).2.1), (52, ar 24 (pcp p0 p).2.2.2.1), (53, ar 24 (pcp p0 p).2.2.2.2.1), (24, pst 24 p), (25, ar 20 p.2.1), (26, ar 24 p.2.2.2.1), (27, ar 24 p.2.2.2.2.1)] h) := by
  intro h
  refine E_in (lv := [_, _]) rfl ?_
  refine E_aload pf_52_0 rfl ?_
  refine E_aload pf_52_1 rfl ?_
  refine F_v2u (l' := [(_, _), (_, _), (_, _), (_, _), (_, _), (_, _), (_, _), (_, _)]) pf_52_2 (c53_50_24) (And.intro rfl (And.intro rfl (And.intro rfl (And.intro rfl (And.intro rfl (And.intro rfl (And.intro rfl (And.intro rfl (trivial))))))))) rfl rfl rfl rfl ?_
  refine E_aload pf_52_5 rfl ?_
  refine E_aload pf_52_6 rfl ?_
  refine F_getf pf_52_7 rfl rfl rfl ?_
  refine F_putf (l' := [(_, _), (_, _), (_, _), (_, _), (_, _), (_, _), (_, _), (_, _)]) (x := ob _ [_, _, _, _, _, _, _]) pf_52_10 rfl rfl rfl rfl rfl ?_
  refine E_aload pf_52_13 rfl ?_
  refine F_getf pf_52_14 rfl rfl rfl ?_
  refine E_iconst pf_52_17 ?_
  refine E_aload pf_52_18 rfl ?_
  refine F_getf pf_52_19 rfl rfl rfl ?_
  refine E_iconst pf_52_22 ?_
  refine E_iconst pf_52_23 ?_
  refine F_acopy (l' := [(_, _), (_, _), (_, _), (_, _), (_, _), (_, _), (_, _), (_, _)]) pf_52_25 rfl rfl (by omega) rfl rfl ?_
  refine E_aload pf_52_28 rfl ?_
  refine F_getf pf_52_29 rfl rfl rfl ?_
  refine E_iconst pf_52_32 ?_
  refine E_aload pf_52_33 rfl ?_
  refine F_getf pf_52_34 rfl rfl rfl ?_
  refine E_iconst pf_52_37 ?_
  refine E_iconst pf_52_38 ?_
  refine F_acopy (l' := [(_, _), (_, _), (_, _), (_, _), (_, _), (_, _), (_, _), (_, _)]) pf_52_40 rfl rfl (by omega) rfl rfl ?_
  refine E_aload pf_52_43 rfl ?_
  refine E_aload pf_52_44 rfl ?_
  refine F_getf pf_52_45 rfl rfl rfl ?_
  refine F_putf (l' := [(_, _), (_, _), (_, _), (_, _), (_, _), (_, _), (_, _), (_, _)]) (x := ob _ [_, _, _, _, _, _, _]) pf_52_48 rfl rfl rfl rfl rfl ?_
  refine E_aload pf_52_51 rfl ?_
  refine E_aload pf_52_52 rfl ?_
  refine F_getf pf_52_53 rfl rfl rfl ?_
  refine F_putf (l' := [(_, _), (_, _), (_, _), (_, _), (_, _), (_, _), (_, _), (_, _)]) (x := ob _ [_, _, _, _, _, _, _]) pf_52_56 rfl rfl rfl rfl rfl ?_
  exact E_vret pf_52_59 rfl
theorem c53_54_24 : ∀ h, Ca 53 [.ref 54, .ref 24] (wd [(54, pst 54 p0), (55, ar 20 p0.2.1), (56, ar 24 p0.2.2.2.1), (57, ar 24 p0.2.2.2.2.1), (24, pst 24 p), (25, ar 20 p.2.1), (26, ar 24 p.2.2.2.1), (27, ar 24 p.2.2.2.2.1)] h) (.inl none, wd [(54, pst 54 (pcr p0 p)), (55, ar 20 (pcr p0 p).2.1), (56, ar 24 (pcr p0 p).2.2.2.1), (57, ar 24 (pcr p0 p).2.2.2.2.1), (24, pst 24 p), (25, ar 20 p.2.1), (26, ar 24 p.2.2.2.1), (27, ar 24 p.2.2.2.2.1)] h) := by
  intro h
  refine E_in (lv := [_, _]) rfl ?_
  refine E_aload pf_53_0 rfl ?_
  refine E_aload pf_53_1 rfl ?_
  refine F_getf pf_53_2 rfl rfl rfl ?_
  refine F_putf (l' := [(_, _), (_, _), (_, _), (_, _), (_, _), (_, _), (_, _), (_, _)]) (x := ob _ [_, _, _, _, _, _, _]) pf_53_5 rfl rfl rfl rfl rfl ?_
  refine E_aload pf_53_8 rfl ?_
  refine F_getf pf_53_9 rfl rfl rfl ?_
  refine E_iconst pf_53_12 ?_
  refine E_aload pf_53_13 rfl ?_
  refine F_getf pf_53_14 rfl rfl rfl ?_
  refine E_iconst pf_53_17 ?_
  refine E_aload pf_53_18 rfl ?_
  refine F_getf pf_53_19 rfl rfl rfl ?_
  refine F_alenI pf_53_22 rfl ?_
  refine F_acopy (l' := [(_, _), (_, _), (_, _), (_, _), (_, _), (_, _), (_, _), (_, _)]) pf_53_23 rfl rfl (by omega) rfl rfl ?_
  exact E_vret pf_53_26 rfl
theorem c52_54_24 : ∀ h, Ca 52 [.ref 54, .ref 24] (wd [(54, pst 54 p0), (55, ar 20 p0.2.1), (56, ar 24 p0.2.2.2.1), (57, ar 24 p0.2.2.2.2.1), (24, pst 24 p), (25, ar 20 p.2.1), (26, ar 24 p.2.2.2.1), (27, ar 24 p.2.2.2.2.1)] h) (.inl none, wd [(54, pst 54 (pcp p0 p)), (55, ar 20 (pcp p0 p).2.1), (56, ar 24 (pcp p0 p).2.2.2.1), (57, ar 24 (pcp p0 p).2.2.2.2.1), (24, pst 24 p), (25, ar 20 p.2.1), (26, ar 24 p.2.2.2.1), (27, ar 24 p.2.2.2.2.1)] h) := by
  intro h
  refine E_in (lv := [_, _]) rfl ?_
  refine E_aload pf_52_0 rfl ?_
  refine E_aload pf_52_1 rfl ?_
  refine F_v2u (l' := [(_, _), (_, _), (_, _), (_, _), (_, _), (_, _), (_, _), (_, _)]) pf_52_2 (c53_54_24) (And.intro rfl (And.intro rfl (And.intro rfl (And.intro rfl (And.intro rfl (And.intro rfl (And.intro rfl (And.intro rfl (trivial))))))))) rfl rfl rfl rfl ?_
  refine E_aload pf_52_5 rfl ?_
  refine E_aload pf_52_6 rfl ?_
  refine F_getf pf_52_7 rfl rfl rfl ?_
  refine F_putf (l' := [(_, _), (_, _), (_, _), (_, _), (_, _), (_, _), (_, _), (_, _)]) (x := ob _ [_, _, _, _, _, _, _]) pf_52_10 rfl rfl rfl rfl rfl ?_
  refine E_aload pf_52_13 rfl ?_
  refine F_getf pf_52_14 rfl rfl rfl ?_
  refine E_iconst pf_52_17 ?_
  refine E_aload pf_52_18 rfl ?_
  refine F_getf pf_52_19 rfl rfl rfl ?_
  refine E_iconst pf_52_22 ?_
  refine E_iconst pf_52_23 ?_
  refine F_acopy (l' := [(_, _), (_, _), (_, _), (_, _), (_, _), (_, _), (_, _), (_, _)]) pf_52_25 rfl rfl (by omega) rfl rfl ?_
  refine E_aload pf_52_28 rfl ?_
  refine F_getf pf_52_29 rfl rfl rfl ?_
  refine E_iconst pf_52_32 ?_
  refine E_aload pf_52_33 rfl ?_
  refine F_getf pf_52_34 rfl rfl rfl ?_
  refine E_iconst pf_52_37 ?_
  refine E_iconst pf_52_38 ?_
  refine F_acopy (l' := [(_, _), (_, _), (_, _), (_, _), (_, _), (_, _), (_, _), (_, _)]) pf_52_40 rfl rfl (by omega) rfl rfl ?_
  refine E_aload pf_52_43 rfl ?_
  refine E_aload pf_52_44 rfl ?_
  refine F_getf pf_52_45 rfl rfl rfl ?_
  refine F_putf (l' := [(_, _), (_, _), (_, _), (_, _), (_, _), (_, _), (_, _), (_, _)]) (x := ob _ [_, _, _, _, _, _, _]) pf_52_48 rfl rfl rfl rfl rfl ?_
  refine E_aload pf_52_51 rfl ?_
  refine E_aload pf_52_52 rfl ?_
  refine F_getf pf_52_53 rfl rfl rfl ?_
  refine F_putf (l' := [(_, _), (_, _), (_, _), (_, _), (_, _), (_, _), (_, _), (_, _)]) (x := ob _ [_, _, _, _, _, _, _]) pf_52_56 rfl rfl rfl rfl rfl ?_
  exact E_vret pf_52_59 rfl
theorem c53_58_24 : ∀ h, Ca 53 [.ref 58, .ref 24] (wd [(58, pst 58 p0), (59, ar 20 p0.2.1), (60, ar 24 p0.2.2.2.1), (61, ar 24 p0.2.2.2.2.1), (24, pst 24 p), (25, ar 20 p.2.1), (26, ar 24 p.2.2.2.1), (27, ar 24 p.2.2.2.2.1)] h) (.inl none, wd [(58, pst 58 (pcr p0 p)), (59, ar 20 (pcr p0 p).2.1), (60, ar 24 (pcr p0 p).2.2.2.1), (61, ar 24 (pcr p0 p).2.2.2.2.1), (24, pst 24 p), (25, ar 20 p.2.1), (26, ar 24 p.2.2.2.1), (27, ar 24 p.2.2.2.2.1)] h) := by
  intro h
  refine E_in (lv := [_, _]) rfl ?_
  refine E_aload pf_53_0 rfl ?_
  refine E_aload pf_53_1 rfl ?_
  refine F_getf pf_53_2 rfl rfl rfl ?_
  refine F_putf (l' := [(_, _), (_, _), (_, _), (_, _), (_, _), (_, _), (_, _), (_, _)]) (x := ob _ [_, _, _, _, _, _, _]) pf_53_5 rfl rfl rfl rfl rfl ?_
  refine E_aload pf_53_8 rfl ?_
  refine F_getf pf_53_9 rfl rfl rfl ?_
  refine E_iconst pf_53_12 ?_
  refine E_aload pf_53_13 rfl ?_
  refine F_getf pf_53_14 rfl rfl rfl ?_
  refine E_iconst pf_53_17 ?_
  refine E_aload pf_53_18 rfl ?_
  refine F_getf pf_53_19 rfl rfl rfl ?_
  refine F_alenI pf_53_22 rfl ?_
  refine F_acopy (l' := [(_, _), (_, _), (_, _), (_, _), (_, _), (_, _), (_, _), (_, _)]) pf_53_23 rfl rfl (by omega) rfl rfl ?_
  exact E_vret pf_53_26 rfl
theorem c52_58_24 : ∀ h, Ca 52 [.ref 58, .ref 24] (wd [(58, pst 58 p0), (59, ar 20 p0.2.1), (60, ar 24 p0.2.2.2.1), (61, ar 24 p0.2.2.2.2.1), (24, pst 24 p), (25, ar 20 p.2.1), (26, ar 24 p.2.2.2.1), (27, ar 24 p.2.2.2.2.1)] h) (.inl none, wd [(58, pst 58 (pcp p0 p)), (59, ar 20 (pcp p0 p).2.1), (60, ar 24 (pcp p0 p).2.2.2.1), (61, ar 24 (pcp p0 p).2.2.2.2.1), (24, pst 24 p), (25, ar 20 p.2.1), (26, ar 24 p.2.2.2.1), (27, ar 24 p.2.2.2.2.1)] h) := by
  intro h
  refine E_in (lv := [_, _]) rfl ?_
  refine E_aload pf_52_0 rfl ?_
  refine E_aload pf_52_1 rfl ?_
  refine F_v2u (l' := [(_, _), (_, _), (_, _), (_, _), (_, _), (_, _), (_, _), (_, _)]) pf_52_2 (c53_58_24) (And.intro rfl (And.intro rfl (And.intro rfl (And.intro rfl (And.intro rfl (And.intro rfl (And.intro rfl (And.intro rfl (trivial))))))))) rfl rfl rfl rfl ?_
  refine E_aload pf_52_5 rfl ?_
  refine E_aload pf_52_6 rfl ?_
  refine F_getf pf_52_7 rfl rfl rfl ?_
  refine F_putf (l' := [(_, _), (_, _), (_, _), (_, _), (_, _), (_, _), (_, _), (_, _)]) (x := ob _ [_, _, _, _, _, _, _]) pf_52_10 rfl rfl rfl rfl rfl ?_
  refine E_aload pf_52_13 rfl ?_
  refine F_getf pf_52_14 rfl rfl rfl ?_
  refine E_iconst pf_52_17 ?_
  refine E_aload pf_52_18 rfl ?_
  refine F_getf pf_52_19 rfl rfl rfl ?_
  refine E_iconst pf_52_22 ?_
  refine E_iconst pf_52_23 ?_
  refine F_acopy (l' := [(_, _), (_, _), (_, _), (_, _), (_, _), (_, _), (_, _), (_, _)]) pf_52_25 rfl rfl (by omega) rfl rfl ?_
  refine E_aload pf_52_28 rfl ?_
  refine F_getf pf_52_29 rfl rfl rfl ?_
  refine E_iconst pf_52_32 ?_
  refine E_aload pf_52_33 rfl ?_
  refine F_getf pf_52_34 rfl rfl rfl ?_
  refine E_iconst pf_52_37 ?_
  refine E_iconst pf_52_38 ?_
  refine F_acopy (l' := [(_, _), (_, _), (_, _), (_, _), (_, _), (_, _), (_, _), (_, _)]) pf_52_40 rfl rfl (by omega) rfl rfl ?_
  refine E_aload pf_52_43 rfl ?_
  refine E_aload pf_52_44 rfl ?_
  refine F_getf pf_52_45 rfl rfl rfl ?_
  refine F_putf (l' := [(_, _), (_, _), (_, _), (_, _), (_, _), (_, _), (_, _), (_, _)]) (x := ob _ [_, _, _, _, _, _, _]) pf_52_48 rfl rfl rfl rfl rfl ?_
  refine E_aload pf_52_51 rfl ?_
  refine E_aload pf_52_52 rfl ?_
  refine F_getf pf_52_53 rfl rfl rfl ?_
  refine F_putf (l' := [(_, _), (_, _), (_, _), (_, _), (_, _), (_, _), (_, _), (_, _)]) (x := ob _ [_, _, _, _, _, _, _]) pf_52_56 rfl rfl rfl rfl rfl ?_
  exact E_vret pf_52_59 rfl
theorem c53_62_24 : ∀ h, Ca 53 [.ref 62, .ref 24] (wd [(62, pst 62 p0), (63, ar 20 p0.2.1), (64, ar 24 p0.2.2.2.1), (65, ar 24 p0.2.2.2.2.1), (24, pst 24 p), (25, ar 20 p.2.1), (26, ar 24 p.2.2.2.1), (27, ar 24 p.2.2.2.2.1)] h) (.inl none, wd [(62, pst 62 (pcr p0 p)), (63, ar 20 (pcr p0 p).2.1), (64, ar 24 (pcr p0 p).2.2.2.1), (65, ar 24 (pcr p0 p).2.2.2.2.1), (24, pst 24 p), (25, ar 20 p.2.1), (26, ar 24 p.2.2.2.1), (27, ar 24 p.2.2.2.2.1)] h) := by
  intro h
  refine E_in (lv := [_, _]) rfl ?_
  refine E_aload pf_53_0 rfl ?_
  refine E_aload pf_53_1 rfl ?_
  refine F_getf pf_53_2 rfl rfl rfl ?_
  refine F_putf (l' := [(_, _), (_, _), (_, _), (_, _), (_, _), (_, _), (_, _), (_, _)]) (x := ob _ [_, _, _, _, _, _, _]) pf_53_5 rfl rfl rfl rfl rfl ?_
  refine E_aload pf_53_8 rfl ?_
  refine F_getf pf_53_9 rfl rfl rfl ?_
  refine E_iconst pf_53_12 ?_
  refine E_aload pf_53_13 rfl ?_
  refine F_getf pf_53_14 rfl rfl rfl ?_
  refine E_iconst pf_53_17 ?_
  refine E_aload pf_53_18 rfl ?_
  refine F_getf pf_53_19 rfl rfl rfl ?_
  refine F_alenI pf_53_22 rfl ?_
  refine F_acopy (l' := [(_, _), (_, _), (_, _), (_, _), (_, _), (_, _), (_, _), (_, _)]) pf_53_23 rfl rfl (by omega) rfl rfl ?_
  exact E_vret pf_53_26 rfl
theorem c52_62_24 : ∀ h, Ca 52 [.ref 62, .ref 24] (wd [(62, pst 62 p0), (63, ar 20 p0.2.1), (64, ar 24 p0.2.2.2.1), (65, ar 24 p0.2.2.2.2.1), (24, pst 24 p), (25, ar 20 p.2.1), (26, ar 24 p.2.2.2.1), (27, ar 24 p.2.2.2.2.1)] h) (.inl none, wd [(62, pst 62 (pcp p0 p)), (63, ar 20 (pcp p0 p).2.1), (64, ar 24 (pcp p0 p).2.2.2.1), (65, ar 24 (pcp p0 p).2.2.2.2.1), (24, pst 24 p), (25, ar 20 p.2.1), (26, ar 24 p.2.2.2.1), (27, ar 24 p.2.2.2.2.1)] h) := by
  intro h
  refine E_in (lv := [_, _]) rfl ?_
  refine E_aload pf_52_0 rfl ?_
  refine E_aload pf_52_1 rfl ?_
  refine F_v2u (l' := [(_, _), (_, _), (_, _), (_, _), (_, _), (_, _), (_, _), (_, _)]) pf_52_2 (c53_62_24) (And.intro rfl (And.intro rfl (And.intro rfl (And.intro rfl (And.intro rfl (And.intro rfl (And.intro rfl (And.intro rfl (trivial))))))))) rfl rfl rfl rfl ?_
  refine E_aload pf_52_5 rfl ?_
  refine E_aload pf_52_6 rfl ?_
  refine F_getf pf_52_7 rfl rfl rfl ?_
  refine F_putf (l' := [(_, _), (_, _), (_, _), (_, _), (_, _), (_, _), (_, _), (_, _)]) (x := ob _ [_, _, _, _, _, _, _]) pf_52_10 rfl rfl rfl rfl rfl ?_
  refine E_aload pf_52_13 rfl ?_
  refine F_getf pf_52_14 rfl rfl rfl ?_
  refine E_iconst pf_52_17 ?_
  refine E_aload pf_52_18 rfl ?_
  refine F_getf pf_52_19 rfl rfl rfl ?_
  refine E_iconst pf_52_22 ?_
  refine E_iconst pf_52_23 ?_
  refine F_acopy (l' := [(_, _), (_, _), (_, _), (_, _), (_, _), (_, _), (_, _), (_, _)]) pf_52_25 rfl rfl (by omega) rfl rfl ?_
  refine E_aload pf_52_28 rfl ?_
  refine F_getf pf_52_29 rfl rfl rfl ?_
  refine E_iconst pf_52_32 ?_
  refine E_aload pf_52_33 rfl ?_
  refine F_getf pf_52_34 rfl rfl rfl ?_
  refine E_iconst pf_52_37 ?_
  refine E_iconst pf_52_38 ?_
  refine F_acopy (l' := [(_, _), (_, _), (_, _), (_, _), (_, _), (_, _), (_, _), (_, _)]) pf_52_40 rfl rfl (by omega) rfl rfl ?_
  refine E_aload pf_52_43 rfl ?_
  refine E_aload pf_52_44 rfl ?_
  refine F_getf pf_52_45 rfl rfl rfl ?_
  refine F_putf (l' := [(_, _), (_, _), (_, _), (_, _), (_, _), (_, _), (_, _), (_, _)]) (x := ob _ [_, _, _, _, _, _, _]) pf_52_48 rfl rfl rfl rfl rfl ?_
  refine E_aload pf_52_51 rfl ?_
  refine E_aload pf_52_52 rfl ?_
  refine F_getf pf_52_53 rfl rfl rfl ?_
  refine F_putf (l' := [(_, _), (_, _), (_, _), (_, _), (_, _), (_, _), (_, _), (_, _)]) (x := ob _ [_, _, _, _, _, _, _]) pf_52_56 rfl rfl rfl rfl rfl ?_
  exact E_vret pf_52_59 rfl
theorem c53_66_24 : ∀ h, Ca 53 [.ref 66, .ref 24] (wd [(66, pst 66 p0), (67, ar 20 p0.2.1), (68, ar 24 p0.2.2.2.1), (69, ar 24 p0.2.2.2.2.1), (24, pst 24 p), (25, ar 20 p.2.1), (26, ar 24 p.2.2.2.1), (27, ar 24 p.2.2.2.2.1)] h) (.inl none, wd [(66, pst 66 (pcr p0 p)), (67, ar 20 (pcr p0 p).2.1), (68, ar 24 (pcr p0 p).2.2.2.1), (69, ar 24 (pcr p0 p).2.2.2.2.1), (24, pst 24 p), (25, ar 20 p.2.1), (26, ar 24 p.2.2.2.1), (27, ar 24 p.2.2.2.2.1)] h) := by
  intro h
  refine E_in (lv := [_, _]) rfl ?_
  refine E_aload pf_53_0 rfl ?_
  refine E_aload pf_53_1 rfl ?_
  refine F_getf pf_53_2 rfl rfl rfl ?_
  refine F_putf (l' := [(_, _), (_, _), (_, _), (_, _), (_, _), (_, _), (_, _), (_, _)]) (x := ob _ [_, _, _, _, _, _, _]) pf_53_5 rfl rfl rfl rfl rfl ?_
  refine E_aload pf_53_8 rfl ?_
  refine F_getf pf_53_9 rfl rfl rfl ?_
  refine E_iconst pf_53_12 ?_
  refine E_aload pf_53_13 rfl ?_
  refine F_getf pf_53_14 rfl rfl rfl ?_
  refine E_iconst pf_53_17 ?_
  refine E_aload pf_53_18 rfl ?_
  refine F_getf pf_53_19 rfl rfl rfl ?_
  refine F_alenI pf_53_22 rfl ?_
  refine F_acopy (l' := [(_, _), (_, _), (_, _), (_, _), (_, _), (_, _), (_, _), (_, _)]) pf_53_23 rfl rfl (by omega) rfl rfl ?_
  exact E_vret pf_53_26 rfl
theorem c52_66_24 : ∀ h, Ca 52 [.ref 66, .ref 24] (wd [(66, pst 66 p0), (67, ar 20 p0.2.1), (68, ar 24 p0.2.2.2.1), (69, ar 24 p0.2.2.2.2.1), (24, pst 24 p), (25, ar 20 p.2.1), (26, ar 24 p.2.2.2.1), (27, ar 24 p.2.2.2.2.1)] h) (.inl none, wd [(66, pst 66 (pcp p0 p)), (67, ar 20 (pcp p0 p).2.1), (68, ar 24 (pcp p0 p).2.2.2.1), (69, ar 24 (pcp p0 p).2.2.2.2.1), (24, pst 24 p), (25, ar 20 p.2.1), (26, ar 24 p.2.2.2.1), (27, ar 24 p.2.2.2.2.1)] h) := by
  intro h
  refine E_in (lv := [_, _]) rfl ?_
  refine E_aload pf_52_0 rfl ?_
  refine E_aload pf_52_1 rfl ?_
  refine F_v2u (l' := [(_, _), (_, _), (_, _), (_, _), (_, _), (_, _), (_, _), (_, _)]) pf_52_2 (c53_66_24) (And.intro rfl (And.intro rfl (And.intro rfl (And.intro rfl (And.intro rfl (And.intro rfl (And.intro rfl (And.intro rfl (trivial))))))))) rfl rfl rfl rfl ?_
  refine E_aload pf_52_5 rfl ?_
  refine E_aload pf_52_6 rfl ?_
  refine F_getf pf_52_7 rfl rfl rfl ?_
  refine F_putf (l' := [(_, _), (_, _), (_, _), (_, _), (_, _), (_, _), (_, _), (_, _)]) (x := ob _ [_, _, _, _, _, _, _]) pf_52_10 rfl rfl rfl rfl rfl ?_
  refine E_aload pf_52_13 rfl ?_
  refine F_getf pf_52_14 rfl rfl rfl ?_
  refine E_iconst pf_52_17 ?_
  refine E_aload pf_52_18 rfl ?_
  refine F_getf pf_52_19 rfl rfl rfl ?_
  refine E_iconst pf_52_22 ?_
  refine E_iconst pf_52_23 ?_
  refine F_acopy (l' := [(_, _), (_, _), (_, _), (_, _), (_, _), (_, _), (_, _), (_, _)]) pf_52_25 rfl rfl (by omega) rfl rfl ?_
  refine E_aload pf_52_28 rfl ?_
  refine F_getf pf_52_29 rfl rfl rfl ?_
  refine E_iconst pf_52_32 ?_
  refine E_aload pf_52_33 rfl ?_
  refine F_getf pf_52_34 rfl rfl rfl ?_
  refine E_iconst pf_52_37 ?_
  refine E_iconst pf_52_38 ?_
  refine F_acopy (l' := [(_, _), (_, _), (_, _), (_, _), (_, _), (_, _), (_, _), (_, _)]) pf_52_40 rfl rfl (by omega) rfl rfl ?_
  refine E_aload pf_52_43 rfl ?_
  refine E_aload pf_52_44 rfl ?_
  refine F_getf pf_52_45 rfl rfl rfl ?_
  refine F_putf (l' := [(_, _), (_, _), (_, _), (_, _), (_, _), (_, _), (_, _), (_, _)]) (x := ob _ [_, _, _, _, _, _, _]) pf_52_48 rfl rfl rfl rfl rfl ?_
  refine E_aload pf_52_51 rfl ?_
  refine E_aload pf_52_52 rfl ?_
  refine F_getf pf_52_53 rfl rfl rfl ?_
  refine F_putf (l' := [(_, _), (_, _), (_, _), (_, _), (_, _), (_, _), (_, _), (_, _)]) (x := ob _ [_, _, _, _, _, _, _]) pf_52_56 rfl rfl rfl rfl rfl ?_
  exact E_vret pf_52_59 rfl
theorem c53_70_24 : ∀ h, Ca 53 [.ref 70, .ref 24] (wd [(70, pst 70 p0), (71, ar 20 p0.2.1), (72, ar 24 p0.2.2.2.1), (73, ar 24 p0.2.2.2.2.1), (24, pst 24 p), (25, ar 20 p.2.1), (26, ar 24 p.2.2.2.1), (27, ar 24 p.2.2.2.2.1)] h) (.inl none, wd [(70, pst 70 (pcr p0 p)), (71, ar 20 (pcr p0 p).2.1), (72, ar 24 (pcr p0 p).2.2.2.1), (73, ar 24 (pcr p0 p).2.2.2.2.1), (24, pst 24 p), (25, ar 20 p.2.1), (26, ar 24 p.2.2.2.1), (27, ar 24 p.2.2.2.2.1)] h) := by
  intro h
  refine E_in (lv := [_, _]) rfl ?_
  refine E_aload pf_53_0 rfl ?_
  refine E_aload pf_53_1 rfl ?_
  refine F_getf pf_53_2 rfl rfl rfl ?_
  refine F_putf (l' := [(_, _), (_, _), (_, _), (_, _), (_, _), (_, _), (_, _), (_, _)]) (x := ob _ [_, _, _, _, _, _, _]) pf_53_5 rfl rfl rfl rfl rfl ?_
  refine E_aload pf_53_8 rfl ?_
  refine F_getf pf_53_9 rfl rfl rfl ?_
  refine E_iconst pf_53_12 ?_
  refine E_aload pf_53_13 rfl ?_
  refine F_getf pf_53_14 rfl rfl rfl ?_
  refine E_iconst pf_53_17 ?_
  refine E_aload pf_53_18 rfl ?_
  refine F_getf pf_53_19 rfl rfl rfl ?_
  refine F_alenI pf_53_22 rfl ?_
  refine F_acopy (l' := [(_, _), (_, _), (_, _), (_, _), (_, _), (_, _), (_, _), (_, _)]) pf_53_23 rfl rfl (by omega) rfl rfl ?_
  exact E_vret pf_53_26 rfl
theorem c52_70_24 : ∀ h, Ca 52 [.ref 70, .ref 24] (wd [(70, pst 70 p0), (71, ar 20 p0.2.1), (72, ar 24 p0.2.2.2.1), (73, ar 24 p0.2.2.2.2.1), (24, pst 24 p), (25, ar 20 p.2.1), (26, ar 24 p.2.2.2.1), (27, ar 24 p.2.2.2.2.1)] h) (.inl none, wd [(70, pst 70 (pcp p0 p)), (71, ar 20 (pcp p0 p).2.1), (72, ar 24 (pcp p0 p).2.2.2.1), (73, ar 24 (pcp p0 p).2.2.2.2.1), (24, pst 24 p), (25, ar 20 p.2.1), (26, ar 24 p.2.2.2.1), (27, ar 24 p.2.2.2.2.1)] h) := by
  intro h
  refine E_in (lv := [_, _]) rfl ?_
  refine E_aload pf_52_0 rfl ?_
  refine E_aload pf_52_1 rfl ?_
  refine F_v2u (l' := [(_, _), (_, _), (_, _), (_, _), (_, _), (_, _), (_, _), (_, _)]) pf_52_2 (c53_70_24) (And.intro rfl (And.intro rfl (And.intro rfl (And.intro rfl (And.intro rfl (And.intro rfl (And.intro rfl (And.intro rfl (trivial))))))))) rfl rfl rfl rfl ?_
  refine E_aload pf_52_5 rfl ?_
  refine E_aload pf_52_6 rfl ?_
  refine F_getf pf_52_7 rfl rfl rfl ?_
  refine F_putf (l' := [(_, _), (_, _), (_, _), (_, _), (_, _), (_, _), (_, _), (_, _)]) (x := ob _ [_, _, _, _, _, _, _]) pf_52_10 rfl rfl rfl rfl rfl ?_
  refine E_aload pf_52_13 rfl ?_
  refine F_getf pf_52_14 rfl rfl rfl ?_
  refine E_iconst pf_52_17 ?_
  refine E_aload pf_52_18 rfl ?_
  refine F_getf pf_52_19 rfl rfl rfl ?_
  refine E_iconst pf_52_22 ?_
  refine E_iconst pf_52_23 ?_
  refine F_acopy (l' := [(_, _), (_, _), (_, _), (_, _), (_, _), (_, _), (_, _), (_, _)]) pf_52_25 rfl rfl (by omega) rfl rfl ?_
  refine E_aload pf_52_28 rfl ?_
  refine F_getf pf_52_29 rfl rfl rfl ?_
  refine E_iconst pf_52_32 ?_
  refine E_aload pf_52_33 rfl ?_
  refine F_getf pf_52_34 rfl rfl rfl ?_
  refine E_iconst pf_52_37 ?_
  refine E_iconst pf_52_38 ?_
  refine F_acopy (l' := [(_, _), (_, _), (_, _), (_, _), (_, _), (_, _), (_, _), (_, _)]) pf_52_40 rfl rfl (by omega) rfl rfl ?_
  refine E_aload pf_52_43 rfl ?_
  refine E_aload pf_52_44 rfl ?_
  refine F_getf pf_52_45 rfl rfl rfl ?_
  refine F_putf (l' := [(_, _), (_, _), (_, _), (_, _), (_, _), (_, _), (_, _), (_, _)]) (x := ob _ [_, _, _, _, _, _, _]) pf_52_48 rfl rfl rfl rfl rfl ?_
  refine E_aload pf_52_51 rfl ?_
  refine E_aload pf_52_52 rfl ?_
  refine F_getf pf_52_53 rfl rfl rfl ?_
  refine F_putf (l' := [(_, _), (_, _), (_, _), (_, _), (_, _), (_, _), (_, _), (_, _)]) (x := ob _ [_, _, _, _, _, _, _]) pf_52_56 rfl rfl rfl rfl rfl ?_
  exact E_vret pf_52_59 rfl
theorem c53_74_24 : ∀ h, Ca 53 [.ref 74, .ref 24] (wd [(74, pst 74 p0), (75, ar 20 p0.2.1), (76, ar 24 p0.2.2.2.1), (77, ar 24 p0.2.2.2.2.1), (24, pst 24 p), (25, ar 20 p.2.1), (26, ar 24 p.2.2.2.1), (27, ar 24 p.2.2.2.2.1)] h) (.inl none, wd [(74, pst 74 (pcr p0 p)), (75, ar 20 (pcr p0 p).2.1), (76, ar 24 (pcr p0 p).2.2.2.1), (77, ar 24 (pcr p0 p).2.2.2.2.1), (24, pst 24 p), (25, ar 20 p.2.1), (26, ar 24 p.2.2.2.1), (27, ar 24 p.2.2.2.2.1)] h) := by
  intro h
  refine E_in (lv := [_, _]) rfl ?_
  refine E_aload pf_53_0 rfl ?_
  refine E_aload pf_53_1 rfl ?_
  refine F_getf pf_53_2 rfl rfl rfl ?_
  refine F_putf (l' := [(_, _), (_, _), (_, _), (_, _), (_, _), (_, _), (_, _), (_, _)]) (x := ob _ [_, _, _, _, _, _, _]) pf_53_5 rfl rfl rfl rfl rfl ?_
  refine E_aload pf_53_8 rfl ?_
  refine F_getf pf_53_9 rfl rfl rfl ?_
  refine E_iconst pf_53_12 ?_
  refine E_aload pf_53_13 rfl ?_
  refine F_getf pf_53_14 rfl rfl rfl ?_
  refine E_iconst pf_53_17 ?_
  refine E_aload pf_53_18 rfl ?_
  refine F_getf pf_53_19 rfl rfl rfl ?_
  refine F_alenI pf_53_22 rfl ?_
  refine F_acopy (l' := [(_, _), (_, _), (_, _), (_, _), (_, _), (_, _), (_, _), (_, _)]) pf_53_23 rfl rfl (by omega) rfl rfl ?_
  exact E_vret pf_53_26 rfl
theorem c52_74_24 : ∀ h, Ca 52 [.ref 74, .ref 24] (wd [(74, pst 74 p0), (75, ar 20 p0.2.1), (76, ar 24 p0.2.2.2.1), (77, ar 24 p0.2.2.2.2.1), (24, pst 24 p), (25, ar 20 p.2.1), (26, ar 24 p.2.2.2.1), (27, ar 24 p.2.2.2.2.1)] h) (.inl none, wd [(74, pst 74 (pcp p0 p)), (75, ar 20 (pcp p0 p).2.1), (76, ar 24 (pcp p0 p).2.2.2.1), (77, ar 24 (pcp p0 p).2.2.2.2.1), (24, pst 24 p), (25, ar 20 p.2.1), (26, ar 24 p.2.2.2.1), (27, ar 24 p.2.2.2.2.1)] h) := by
  intro h
  refine E_in (lv := [_, _]) rfl ?_
  refine E_aload pf_52_0 rfl ?_
  refine E_aload pf_52_1 rfl ?_
  refine F_v2u (l' := [(_, _), (_, _), (_, _), (_, _), (_, _), (_, _), (_, _), (_, _)]) pf_52_2 (c53_74_24) (And.intro rfl (And.intro rfl (And.intro rfl (And.intro rfl (And.intro rfl (And.intro rfl (And.intro rfl (And.intro rfl (trivial))))))))) rfl rfl rfl rfl ?_
  refine E_aload pf_52_5 rfl ?_
  refine E_aload pf_52_6 rfl ?_
  refine F_getf pf_52_7 rfl rfl rfl ?_
  refine F_putf (l' := [(_, _), (_, _), (_, _), (_, _), (_, _), (_, _), (_, _), (_, _)]) (x := ob _ [_, _, _, _, _, _, _]) pf_52_10 rfl rfl rfl rfl rfl ?_
  refine E_aload pf_52_13 rfl ?_
  refine F_getf pf_52_14 rfl rfl rfl ?_
  refine E_iconst pf_52_17 ?_
  refine E_aload pf_52_18 rfl ?_
  refine F_getf pf_52_19 rfl rfl rfl ?_
  refine E_iconst pf_52_22 ?_
  refine E_iconst pf_52_23 ?_
  refine F_acopy (l' := [(_, _), (_, _), (_, _), (_, _), (_, _), (_, _), (_, _), (_, _)]) pf_52_25 rfl rfl (by omega) rfl rfl ?_
  refine E_aload pf_52_28 rfl ?_
  refine F_getf pf_52_29 rfl rfl rfl ?_
  refine E_iconst pf_52_32 ?_
  refine E_aload pf_52_33 rfl ?_
  refine F_getf pf_52_34 rfl rfl rfl ?_
  refine E_iconst pf_52_37 ?_
  refine E_iconst pf_52_38 ?_
  refine F_acopy (l' := [(_, _), (_, _), (_, _), (_, _), (_, _), (_, _), (_, _), (_, _)]) pf_52_40 rfl rfl (by omega) rfl rfl ?_
  refine E_aload pf_52_43 rfl ?_
  refine E_aload pf_52_44 rfl ?_
  refine F_getf pf_52_45 rfl rfl rfl ?_
  refine F_putf (l' := [(_, _), (_, _), (_, _), (_, _), (_, _), (_, _), (_, _), (_, _)]) (x := ob _ [_, _, _, _, _, _, _]) pf_52_48 rfl rfl rfl rfl rfl ?_
  refine E_aload pf_52_51 rfl ?_
  refine E_aload pf_52_52 rfl ?_
  refine F_getf pf_52_53 rfl rfl rfl ?_
  refine F_putf (l' := [(_, _), (_, _), (_, _), (_, _), (_, _), (_, _), (_, _), (_, _)]) (x := ob _ [_, _, _, _, _, _, _]) pf_52_56 rfl rfl rfl rfl rfl ?_
  exact E_vret pf_52_59 rfl
theorem c53_78_24 : ∀ h, Ca 53 [.ref 78, .ref 24] (wd [(78, pst 78 p0), (79, ar 20 p0.2.1), (80, ar 24 p0.2.2.2.1), (81, ar 24 p0.2.2.2.2.1), (24, pst 24 p), (25, ar 20 p.2.1), (26, ar 24 p.2.2.2.1), (27, ar 24 p.2.2.2.2.1)] h) (.inl none, wd [(78, pst 78 (pcr p0 p)), (79, ar 20 (pcr p0 p).2.1), (80, ar 24 (pcr p0 p).2.2.2.1), (81, ar 24 (pcr p0 p).2.2.2.2.1), (24, pst 24 p), (25, ar 20 p.2.1), (26, ar 24 p.2.2.2.1), (27, ar 24 p.2.2.2.2.1)] h) := by
  intro h
  refine E_in (lv := [_, _]) rfl ?_
  refine E_aload pf_53_0 rfl ?_
  refine E_aload pf_53_1 rfl ?_
  refine F_getf pf_53_2 rfl rfl rfl ?_
  refine F_putf (l' := [(_, _), (_, _), (_, _), (_, _), (_, _), (_, _), (_, _), (_, _)]) (x := ob _ [_, _, _, _, _, _, _]) pf_53_5 rfl rfl rfl rfl rfl ?_
  refine E_aload pf_53_8 rfl ?_
  refine F_getf pf_53_9 rfl rfl rfl ?_
  refine E_iconst pf_53_12 ?_
  refine E_aload pf_53_13 rfl ?_
  refine F_getf pf_53_14 rfl rfl rfl ?_
  refine E_iconst pf_53_17 ?_
  refine E_aload pf_53_18 rfl ?_
  refine F_getf pf_53_19 rfl rfl rfl ?_
  refine F_alenI pf_53_22 rfl ?_
  refine F_acopy (l' := [(_, _), (_, _), (_, _), (_, _), (_, _), (_, _), (_, _), (_, _)]) pf_53_23 rfl rfl (by omega) rfl rfl ?_
  exact E_vret pf_53_26 rfl
theorem c52_78_24 : ∀ h, Ca 52 [.ref 78, .ref 24] (wd [(78, pst 78 p0), (79, ar 20 p0.2.1), (80, ar 24 p0.2.2.2.1), (81, ar 24 p0.2.2.2.2.1), (24, pst 24 p), (25, ar 20 p.2.1), (26, ar 24 p.2.2.2.1), (27, ar 24 p.2.2.2.2.1)] h) (.inl none, wd [(78, pst 78 (pcp p0 p)), (79, ar 20 (pcp p0 p).2.1), (80, ar 24 (pcp p0 p).2.2.2.1), (81, ar 24 (pcp p0 p).2.2.2.2.1), (24, pst 24 p), (25, ar 20 p.2.1), (26, ar 24 p.2.2.2.1), (27, ar 24 p.2.2.2.2.1)] h) := by
  intro h
  refine E_in (lv := [_, _]) rfl ?_
  refine E_aload pf_52_0 rfl ?_
  refine E_aload pf_52_1 rfl ?_
  refine F_v2u (l' := [(_, _), (_, _), (_, _), (_, _), (_, _), (_, _), (_, _), (_, _)]) pf_52_2 (c53_78_24) (And.intro rfl (And.intro rfl (And.intro rfl (And.intro rfl (And.intro rfl (And.intro rfl (And.intro rfl (And.intro rfl (trivial))))))))) rfl rfl rfl rfl ?_
  refine E_aload pf_52_5 rfl ?_
  refine E_aload pf_52_6 rfl ?_
  refine F_getf pf_52_7 rfl rfl rfl ?_
  refine F_putf (l' := [(_, _), (_, _), (_, _), (_, _), (_, _), (_, _), (_, _), (_, _)]) (x := ob _ [_, _, _, _, _, _, _]) pf_52_10 rfl rfl rfl rfl rfl ?_
  refine E_aload pf_52_13 rfl ?_
  refine F_getf pf_52_14 rfl rfl rfl ?_
  refine E_iconst pf_52_17 ?_
  refine E_aload pf_52_18 rfl ?_
  refine F_getf pf_52_19 rfl rfl rfl ?_
  refine E_iconst pf_52_22 ?_
  refine E_iconst pf_52_23 ?_
  refine F_acopy (l' := [(_, _), (_, _), (_, _), (_, _), (_, _), (_, _), (_, _), (_, _)]) pf_52_25 rfl rfl (by omega) rfl rfl ?_
  refine E_aload pf_52_28 rfl ?_
  refine F_getf pf_52_29 rfl rfl rfl ?_
  refine E_iconst pf_52_32 ?_
  refine E_aload pf_52_33 rfl ?_
  refine F_getf pf_52_34 rfl rfl rfl ?_
  refine E_iconst pf_52_37 ?_
  refine E_iconst pf_52_38 ?_
  refine F_acopy (l' := [(_, _), (_, _), (_, _), (_, _), (_, _), (_, _), (_, _), (_, _)]) pf_52_40 rfl rfl (by omega) rfl rfl ?_
  refine E_aload pf_52_43 rfl ?_
  refine E_aload pf_52_44 rfl ?_
  refine F_getf pf_52_45 rfl rfl rfl ?_
  refine F_putf (l' := [(_, _), (_, _), (_, _), (_, _), (_, _), (_, _), (_, _), (_, _)]) (x := ob _ [_, _, _, _, _, _, _]) pf_52_48 rfl rfl rfl rfl rfl ?_
  refine E_aload pf_52_51 rfl ?_
  refine E_aload pf_52_52 rfl ?_
  refine F_getf pf_52_53 rfl rfl rfl ?_
  refine F_putf (l' := [(_, _), (_, _), (_, _), (_, _), (_, _), (_, _), (_, _), (_, _)]) (x := ob _ [_, _, _, _, _, _, _]) pf_52_56 rfl rfl rfl rfl rfl ?_
  exact E_vret pf_52_59 rfl
theorem c53_82_24 : ∀ h, Ca 53 [.ref 82, .ref 24] (wd [(82, pst 82 p0), (83, ar 20 p0.2.1), (84, ar 24 p0.2.2.2.1), (85, ar 24 p0.2.2.2.2.1), (24, pst 24 p), (25, ar 20 p.2.1), (26, ar 24 p.2.2.2.1), (27, ar 24 p.2.2.2.2.1)] h) (.inl none, wd [(82, pst 82 (pcr p0 p)), (83, ar 20 (pcr p0 p).2.1), (84, ar 24 (pcr p0 p).2.2.2.1), (85, ar 24 (pcr p0 p).2.2.2.2.1), (24, pst 24 p), (25, ar 20 p.2.1), (26, ar 24 p.2.2.2.1), (27, ar 24 p.2.2.2.2.1)] h) := by
  intro h
  refine E_in (lv := [_, _]) rfl ?_
  refine E_aload pf_53_0 rfl ?_
  refine E_aload pf_53_1 rfl ?_
  refine F_getf pf_53_2 rfl rfl rfl ?_
  refine F_putf (l' := [(_, _), (_, _), (_, _), (_, _), (_, _), (_, _), (_, _), (_, _)]) (x := ob _ [_, _, _, _, _, _, _]) pf_53_5 rfl rfl rfl rfl rfl ?_
  refine E_aload pf_53_8 rfl ?_
  refine F_getf pf_53_9 rfl rfl rfl ?_
  refine E_iconst pf_53_12 ?_
  refine E_aload pf_53_13 rfl ?_
  refine F_getf pf_53_14 rfl rfl rfl ?_
  refine E_iconst pf_53_17 ?_
  refine E_aload pf_53_18 rfl ?_
  refine F_getf pf_53_19 rfl rfl rfl ?_
  refine F_alenI pf_53_22 rfl ?_
  refine F_acopy (l' := [(_, _), (_, _), (_, _), (_, _), (_, _), (_, _), (_, _), (_, _)]) pf_53_23 rfl rfl (by omega) rfl rfl ?_
  exact E_vret pf_53_26 rfl
theorem c52_82_24 : ∀ h, Ca 52 [.ref 82, .ref 24] (wd [(82, pst 82 p0), (83, ar 20 p0.2.1), (84, ar 24 p0.2.2.2.1), (85, ar 24 p0.2.2.2.2.1), (24, pst 24 p), (25, ar 20 p.2.1), (26, ar 24 p.2.2.2.1), (27, ar 24 p.2.2.2.2.1)] h) (.inl none, wd [(82, pst 82 (pcp p0 p)), (83, ar 20 (pcp p0 p).2.1), (84, ar 24 (pcp p0 p).2.2.2.1), (85, ar 24 (pcp p0 p).2.2.2.2.1), (24, pst 24 p), (25, ar 20 p.2.1), (26, ar 24 p.2.2.2.1), (27, ar 24 p.2.2.2.2.1)] h) := by
  intro h
  refine E_in (lv := [_, _]) rfl ?_
  refine E_aload pf_52_0 rfl ?_
  refine E_aload pf_52_1 rfl ?_
  refine F_v2u (l' := [(_, _), (_, _), (_, _), (_, _), (_, _), (_, _), (_, _), (_, _)]) pf_52_2 (c53_82_24) (And.intro rfl (And.intro rfl (And.intro rfl (And.intro rfl (And.intro rfl (And.intro rfl (And.intro rfl (And.intro rfl (trivial))))))))) rfl rfl rfl rfl ?_
  refine E_aload pf_52_5 rfl ?_
  refine E_aload pf_52_6 rfl ?_
  refine F_getf pf_52_7 rfl rfl rfl ?_
  refine F_putf (l' := [(_, _), (_, _), (_, _), (_, _), (_, _), (_, _), (_, _), (_, _)]) (x := ob _ [_, _, _, _, _, _, _]) pf_52_10 rfl rfl rfl rfl rfl ?_
  refine E_aload pf_52_13 rfl ?_
  refine F_getf pf_52_14 rfl rfl rfl ?_
  refine E_iconst pf_52_17 ?_
  refine E_aload pf_52_18 rfl ?_
  refine F_getf pf_52_19 rfl rfl rfl ?_
  refine E_iconst pf_52_22 ?_
  refine E_iconst pf_52_23 ?_
  refine F_acopy (l' := [(_, _), (_, _), (_, _), (_, _), (_, _), (_, _), (_, _), (_, _)]) pf_52_25 rfl rfl (by omega) rfl rfl ?_
  refine E_aload pf_52_28 rfl ?_
  refine F_getf pf_52_29 rfl rfl rfl ?_
  refine E_iconst pf_52_32 ?_
  refine E_aload pf_52_33 rfl ?_
  refine F_getf pf_52_34 rfl rfl rfl ?_
  refine E_iconst pf_52_37 ?_
  refine E_iconst pf_52_38 ?_
  refine F_acopy (l' := [(_, _), (_, _), (_, _), (_, _), (_, _), (_, _), (_, _), (_, _)]) pf_52_40 rfl rfl (by omega) rfl rfl ?_
  refine E_aload pf_52_43 rfl ?_
  refine E_aload pf_52_44 rfl ?_
  refine F_getf pf_52_45 rfl rfl rfl ?_
  refine F_putf (l' := [(_, _), (_, _), (_, _), (_, _), (_, _), (_, _), (_, _), (_, _)]) (x := ob _ [_, _, _, _, _, _, _]) pf_52_48 rfl rfl rfl rfl rfl ?_
  refine E_aload pf_52_51 rfl ?_
  refine E_aload pf_52_52 rfl ?_
  refine F_getf pf_52_53 rfl rfl rfl ?_
  refine F_putf (l' := [(_, _), (_, _), (_, _), (_, _), (_, _), (_, _), (_, _), (_, _)]) (x := ob _ [_, _, _, _, _, _, _]) pf_52_56 rfl rfl rfl rfl rfl ?_
  exact E_vret pf_52_59 rfl
theorem c53_86_24 : ∀ h, Ca 53 [.ref 86, .ref 24] (wd [(86, pst 86 p0), (87, ar 20 p0.2.1), (88, ar 24 p0.2.2.2.1), (89, ar 24 p0.2.2.2.2.1), (24, pst 24 p), (25, ar 20 p.2.1), (26, ar 24 p.2.2.2.1), (27, ar 24 p.2.2.2.2.1)] h) (.inl none, wd [(86, pst 86 (pcr p0 p)), (87, ar 20 (pcr p0 p).2.1), (88, ar 24 (pcr p0 p).2.2.2.1), (89, ar 24 (pcr p0 p).2.2.2.2.1), (24, pst 24 p), (25, ar 20 p.2.1), (26, ar 24 p.2.2.2.1), (27, ar 24 p.2.2.2.2.1)] h) := by
  intro h
  refine E_in (lv := [_, _]) rfl ?_
  refine E_aload pf_53_0 rfl ?_
  refine E_aload pf_53_1 rfl ?_
  refine F_getf pf_53_2 rfl rfl rfl ?_
  refine F_putf (l' := [(_, _), (_, _), (_, _), (_, _), (_, _), (_, _), (_, _), (_, _)]) (x := ob _ [_, _, _, _, _, _, _]) pf_53_5 rfl rfl rfl rfl rfl ?_
  refine E_aload pf_53_8 rfl ?_
  refine F_getf pf_53_9 rfl rfl rfl ?_
  refine E_iconst pf_53_12 ?_
  refine E_aload pf_53_13 rfl ?_
  refine F_getf pf_53_14 rfl rfl rfl ?_
  refine E_iconst pf_53_17 ?_
  refine E_aload pf_53_18 rfl ?_
  refine F_getf pf_53_19 rfl rfl rfl ?_
  refine F_alenI pf_53_22 rfl ?_
  refine F_acopy (l' := [(_, _), (_, _), (_, _), (_, _), (_, _), (_, _), (_, _), (_, _)]) pf_53_23 rfl rfl (by omega) rfl rfl ?_
  exact E_vret pf_53_26 rfl
theorem c52_86_24 : ∀ h, Ca 52 [.ref 86, .ref 24] (wd [(86, pst 86 p0), (87, ar 20 p0.2.1), (88, ar 24 p0.2.2.2.1), (89, ar 24 p0.2.2.2.2.1), (24, pst 24 p), (25, ar 20 p.2.1), (26, ar 24 p.2.2.2.1), (27, ar 24 p.2.2.2.2.1)] h) (.inl none, wd [(86, pst 86 (pcp p0 p)), (87, ar 20 (pcp p0 p).2.1), (88, ar 24 (pcp p0 p).2.2.2.1), (89, ar 24 (pcp p0 p).2.2.2.2.1), (24, pst 24 p), (25, ar 20 p.2.1), (26, ar 24 p.2.2.2.1), (27, ar 24 p.2.2.2.2.1)] h) := by
  intro h
  refine E_in (lv := [_, _]) rfl ?_
  refine E_aload pf_52_0 rfl ?_
  refine E_aload pf_52_1 rfl ?_
  refine F_v2u (l' := [(_, _), (_, _), (_, _), (_, _), (_, _), (_, _), (_, _), (_, _)]) pf_52_2 (c53_86_24) (And.intro rfl (And.intro rfl (And.intro rfl (And.intro rfl (And.intro rfl (And.intro rfl (And.intro rfl (And.intro rfl (trivial))))))))) rfl rfl rfl rfl ?_
  refine E_aload pf_52_5 rfl ?_
  refine E_aload pf_52_6 rfl ?_
  refine F_getf pf_52_7 rfl rfl rfl ?_
  refine F_putf (l' := [(_, _), (_, _), (_, _), (_, _), (_, _), (_, _), (_, _), (_, _)]) (x := ob _ [_, _, _, _, _, _, _]) pf_52_10 rfl rfl rfl rfl rfl ?_
  refine E_aload pf_52_13 rfl ?_
  refine F_getf pf_52_14 rfl rfl rfl ?_
  refine E_iconst pf_52_17 ?_
  refine E_aload pf_52_18 rfl ?_
  refine F_getf pf_52_19 rfl rfl rfl ?_
  refine E_iconst pf_52_22 ?_
  refine E_iconst pf_52_23 ?_
  refine F_acopy (l' := [(_, _), (_, _), (_, _), (_, _), (_, _), (_, _), (_, _), (_, _)]) pf_52_25 rfl rfl (by omega) rfl rfl ?_
  refine E_aload pf_52_28 rfl ?_
  refine F_getf pf_52_29 rfl rfl rfl ?_
  refine E_iconst pf_52_32 ?_
  refine E_aload pf_52_33 rfl ?_
  refine F_getf pf_52_34 rfl rfl rfl ?_
  refine E_iconst pf_52_37 ?_
  refine E_iconst pf_52_38 ?_
  refine F_acopy (l' := [(_, _), (_, _), (_, _), (_, _), (_, _), (_, _), (_, _), (_, _)]) pf_52_40 rfl rfl (by omega) rfl rfl ?_
  refine E_aload pf_52_43 rfl ?_
  refine E_aload pf_52_44 rfl ?_
  refine F_getf pf_52_45 rfl rfl rfl ?_
  refine F_putf (l' := [(_, _), (_, _), (_, _), (_, _), (_, _), (_, _), (_, _), (_, _)]) (x := ob _ [_, _, _, _, _, _, _]) pf_52_48 rfl rfl rfl rfl rfl ?_
  refine E_aload pf_52_51 rfl ?_
  refine E_aload pf_52_52 rfl ?_
  refine F_getf pf_52_53 rfl rfl rfl ?_
  refine F_putf (l' := [(_, _), (_, _), (_, _), (_, _), (_, _), (_, _), (_, _), (_, _)]) (x := ob _ [_, _, _, _, _, _, _]) pf_52_56 rfl rfl rfl rfl rfl ?_
  exact E_vret pf_52_59 rfl
theorem c53_24_34 : ∀ h, Ca 53 [.ref 24, .ref 34] (wd [(24, pst 24 p0), (25, ar 20 p0.2.1), (26, ar 24 p0.2.2.2.1), (27, ar 24 p0.2.2.2.2.1), (34, pst 34 p), (35, ar 20 p.2.1), (36, ar 24 p.2.2.2.1), (37, ar 24 p.2.2.2.2.1)] h) (.inl none, wd [(24, pst 24 (pcr p0 p)), (25, ar 20 (pcr p0 p).2.1), (26, ar 24 (pcr p0 p).2.2.2.1), (27, ar 24 (pcr p0 p).2.2.2.2.1), (34, pst 34 p), (35, ar 20 p.2.1), (36, ar 24 p.2.2.2.1), (37, ar 24 p.2.2.2.2.1)] h) := by
  intro h
  refine E_in (lv := [_, _]) rfl ?_
  refine E_aload pf_53_0 rfl ?_
  refine E_aload pf_53_1 rfl ?_
  refine F_getf pf_53_2 rfl rfl rfl ?_
  refine F_putf (l' := [(_, _), (_, _), (_, _), (_, _), (_, _), (_, _), (_, _), (_, _)]) (x := ob _ [_, _, _, _, _, _, _]) pf_53_5 rfl rfl rfl rfl rfl ?_
  refine E_aload pf_53_8 rfl ?_
  refine F_getf pf_53_9 rfl rfl rfl ?_
  refine E_iconst pf_53_12 ?_
  refine E_aload pf_53_13 rfl ?_
  refine F_getf pf_53_14 rfl rfl rfl ?_
  refine E_iconst pf_53_17 ?_
  refine E_aload pf_53_18 rfl ?_
  refine F_getf pf_53_19 rfl rfl rfl ?_
  refine F_alenI pf_53_22 rfl ?_
  refine F_acopy (l' := [(_, _), (_, _), (_, _), (_, _), (_, _), (_, _), (_, _), (_, _)]) pf_53_23 rfl rfl (by omega) rfl rfl ?_
  exact E_vret pf_53_26 rfl
theorem c52_24_34 : ∀ h, Ca 52 [.ref 24, .ref 34] (wd [(24, pst 24 p0), (25, ar 20 p0.2.1), (26, ar 24 p0.2.2.2.1), (27, ar 24 p0.2.2.2.2.1), (34, pst 34 p), (35, ar 20 p.2.1), (36, ar 24 p.2.2.2.1), (37, ar 24 p.2.2.2.2.1)] h) (.inl none, wd [(24, pst 24 (pcp p0 p)), (25, ar 20 (pcp p0 p).2.1), (26, ar 24 (pcp p0 p).2.2.2.1), (27, ar 24 (pcp p0 p).2.2.2.2.1), (34, pst 34 p), (35, ar 20 p.2.1), (36, ar 24 p.2.2.2.1), (37, ar 24 p.2.2.2.2.1)] h) := by
  intro h
  refine E_in (lv := [_, _]) rfl ?_
  refine E_aload pf_52_0 rfl ?_
  refine E_aload pf_52_1 rfl ?_
  refine F_v2u (l' := [(_, _), (_, _), (_, _), (_, _), (_, _), (_, _), (_, _), (_, _)]) pf_52_2 (c53_24_34) (And.intro rfl (And.intro rfl (And.intro rfl (And.intro rfl (And.intro rfl (And.intro rfl (And.intro rfl (And.intro rfl (trivial))))))))) rfl rfl rfl rfl ?_
  refine E_aload pf_52_5 rfl ?_
  refine E_aload pf_52_6 rfl ?_
  refine F_getf pf_52_7 rfl rfl rfl ?_
  refine F_putf (l' := [(_, _), (_, _), (_, _), (_, _), (_, _), (_, _), (_, _), (_, _)]) (x := ob _ [_, _, _, _, _, _, _]) pf_52_10 rfl rfl rfl rfl rfl ?_
  refine E_aload pf_52_13 rfl ?_
  refine F_getf pf_52_14 rfl rfl rfl ?_
  refine E_iconst pf_52_17 ?_
  refine E_aload pf_52_18 rfl ?_
  refine F_getf pf_52_19 rfl rfl rfl ?_
  refine E_iconst pf_52_22 ?_
  refine E_iconst pf_52_23 ?_
  refine F_acopy (l' := [(_, _), (_, _), (_, _), (_, _), (_, _), (_, _), (_, _), (_, _)]) pf_52_25 rfl rfl (by omega) rfl rfl ?_
  refine E_aload pf_52_28 rfl ?_
  refine F_getf pf_52_29 rfl rfl rfl ?_
  refine E_iconst pf_52_32 ?_
  refine E_aload pf_52_33 rfl ?_
  refine F_getf pf_52_34 rfl rfl rfl ?_
  refine E_iconst pf_52_37 ?_
  refine E_iconst pf_52_38 ?_
  refine F_acopy (l' := [(_, _), (_, _), (_, _), (_, _), (_, _), (_, _), (_, _), (_, _)]) pf_52_40 rfl rfl (by omega) rfl rfl ?_
  refine E_aload pf_52_43 rfl ?_
  refine E_aload pf_52_44 rfl ?_
  refine F_getf pf_52_45 rfl rfl rfl ?_
  refine F_putf (l' := [(_, _), (_, _), (_, _), (_, _), (_, _), (_, _), (_, _), (_, _)]) (x := ob _ [_, _, _, _, _, _, _]) pf_52_48 rfl rfl rfl rfl rfl ?_
  refine E_aload pf_52_51 rfl ?_
  refine E_aload pf_52_52 rfl ?_
  refine F_getf pf_52_53 rfl rfl rfl ?_
  refine F_putf (l' := [(_, _), (_, _), (_, _), (_, _), (_, _), (_, _), (_, _), (_, _)]) (x := ob _ [_, _, _, _, _, _, _]) pf_52_56 rfl rfl rfl rfl rfl ?_
  exact E_vret pf_52_59 rfl
theorem c53_24_38 : ∀ h, Ca 53 [.ref 24, .ref 38] (wd [(24, pst 24 p0), (25, ar 20 p0.2.1), (26, ar 24 p0.2.2.2.1), (27, ar 24 p0.2.2.2.2.1), (38, pst 38 p), (39, ar 20 p.2.1), (40, ar 24 p.2.2.2.1), (41, ar 24 p.2.2.2.2.1)] h) (.inl none, wd [(24, pst 24 (pcr p0 p)), (25, ar 20 (pcr p0 p).2.1), (26, ar 24 (pcr p0 p).2.2.2.1), (27, ar 24 (pcr p0 p).2.2.2.2.1), (38, pst 38 p), (39, ar 20 p.2.1), (40, ar 24 p.2.2.2.1), (41, ar 24 p.2.2.2.2.1)] h) := by
  intro h
  refine E_in (lv := [_, _]) rfl ?_
  refine E_aload pf_53_0 rfl ?_
  refine E_aload pf_53_1 rfl ?_
  refine F_getf pf_53_2 rfl rfl rfl ?_
  refine F_putf (l' := [(_, _), (_, _), (_, _), (_, _), (_, _), (_, _), (_, _), (_, _)]) (x := ob _ [_, _, _, _, _, _, _]) pf_53_5 rfl rfl rfl rfl rfl ?_
  refine E_aload pf_53_8 rfl ?_
  refine F_getf pf_53_9 rfl rfl rfl ?_
  refine E_iconst pf_53_12 ?_
  refine E_aload pf_53_13 rfl ?_
  refine F_getf pf_53_14 rfl rfl rfl ?_
  refine E_iconst pf_53_17 ?_
  refine E_aload pf_53_18 rfl ?_
  refine F_getf pf_53_19 rfl rfl rfl ?_
  refine F_alenI pf_53_22 rfl ?_
  refine F_acopy (l' := [(_, _), (_, _), (_, _), (_, _), (_, _), (_, _), (_, _), (_, _)]) pf_53_23 rfl rfl (by omega) rfl rfl ?_
  exact E_vret pf_53_26 rfl
theorem c52_24_38 : ∀ h, Ca 52 [.ref 24, .ref 38] (wd [(24, pst 24 p0), (25, ar 20 p0.2.1), (26, ar 24 p0.2.2.2.1), (27, ar 24 p0.2.2.2.2.1), (38, pst 38 p), (39, ar 20 p.2.1), (40, ar 24 p.2.2.2.1), (41, ar 24 p.2.2.2.2.1)] h) (.inl none, wd [(24, pst 24 (pcp p0 p)), (25, ar 20 (pcp p0 p).2.1), (26, ar 24 (pcp p0 p).2.2.2.1), (27, ar 24 (pcp p0 p).2.2.2.2.1), (38, pst 38 p), (39, ar 20 p.2.1), (40, ar 24 p.2.2.2.1), (41, ar 24 p.2.2.2.2.1)] h) := by
  intro h
  refine E_in (lv := [_, _]) rfl ?_
  refine E_aload pf_52_0 rfl ?_
  refine E_aload pf_52_1 rfl ?_
  refine F_v2u (l' := [(_, _), (_, _), (_, _), (_, _), (_, _), (_, _), (_, _), (_, _)]) pf_52_2 (c53_24_38) (And.intro rfl (And.intro rfl (And.intro rfl (And.intro rfl (And.intro rfl (And.intro rfl (And.intro rfl (And.intro rfl (trivial))))))))) rfl rfl rfl rfl ?_
  refine E_aload pf_52_5 rfl ?_
  refine E_aload pf_52_6 rfl ?_
  refine F_getf pf_52_7 rfl rfl rfl ?_
  refine F_putf (l' := [(_, _), (_, _), (_, _), (_, _), (_, _), (_, _), (_, _), (_, _)]) (x := ob _ [_, _, _, _, _, _, _]) pf_52_10 rfl rfl rfl rfl rfl ?_
  refine E_aload pf_52_13 rfl ?_
  refine F_getf pf_52_14 rfl rfl rfl ?_
  refine E_iconst pf_52_17 ?_
  refine E_aload pf_52_18 rfl ?_
  refine F_getf pf_52_19 rfl rfl rfl ?_
  refine E_iconst pf_52_22 ?_
  refine E_iconst pf_52_23 ?_
  refine F_acopy (l' := [(_, _), (_, _), (_, _), (_, _), (_, _), (_, _), (_, _), (_, _)]) pf_52_25 rfl rfl (by omega) rfl rfl ?_
  refine E_aload pf_52_28 rfl ?_
  refine F_getf pf_52_29 rfl rfl rfl ?_
  refine E_iconst pf_52_32 ?_
  refine E_aload pf_52_33 rfl ?_
  refine F_getf pf_52_34 rfl rfl rfl ?_
  refine E_iconst pf_52_37 ?_
  refine E_iconst pf_52_38 ?_
  refine F_acopy (l' := [(_, _), (_, _), (_, _), (_, _), (_, _), (_, _), (_, _), (_, _)]) pf_52_40 rfl rfl (by omega) rfl rfl ?_
  refine E_aload pf_52_43 rfl ?_
  refine E_aload pf_52_44 rfl ?_
  refine F_getf pf_52_45 rfl rfl rfl ?_
  refine F_putf (l' := [(_, _), (_, _), (_, _), (_, _), (_, _), (_, _), (_, _), (_, _)]) (x := ob _ [_, _, _, _, _, _, _]) pf_52_48 rfl rfl rfl rfl rfl ?_
  refine E_aload pf_52_51 rfl ?_
  refine E_aload pf_52_52 rfl ?_
  refine F_getf pf_52_53 rfl rfl rfl ?_
  refine F_putf (l' := [(_, _), (_, _), (_, _), (_, _), (_, _), (_, _), (_, _), (_, _)]) (x := ob _ [_, _, _, _, _, _, _]) pf_52_56 rfl rfl rfl rfl rfl ?_
  exact E_vret pf_52_59 rfl
theorem c53_24_42 : ∀ h, Ca 53 [.ref 24, .ref 42] (wd [(24, pst 24 p0), (25, ar 20 p0.2.1), (26, ar 24 p0.2.2.2.1), (27, ar 24 p0.2.2.2.2.1), (42, pst 42 p), (43, ar 20 p.2.1), (44, ar 24 p.2.2.2.1), (45, ar 24 p.2.2.2.2.1)] h) (.inl none, wd [(24, pst 24 (pcr p0 p)), (25, ar 20 (pcr p0 p).2.1), (26, ar 24 (pcr p0 p).2.2.2.1), (27, ar 24 (pcr p0 p).2.2.2.2.1), (42, pst 42 p), (43, ar 20 p.2.1), (44, ar 24 p.2.2.2.1), (45, ar 24 p.2.2.2.2.1)] h) := by
  intro h
  refine E_in (lv := [_, _]) rfl ?_
  refine E_aload pf_53_0 rfl ?_
  refine E_aload pf_53_1 rfl ?_
  refine F_getf pf_53_2 rfl rfl rfl ?_
  refine F_putf (l' := [(_, _), (_, _), (_, _), (_, _), (_, _), (_, _), (_, _), (_, _)]) (x := ob _ [_, _, _, _, _, _, _]) pf_53_5 rfl rfl rfl rfl rfl ?_
  refine E_aload pf_53_8 rfl ?_
  refine F_getf pf_53_9 rfl rfl rfl ?_
  refine E_iconst pf_53_12 ?_
  refine E_aload pf_53_13 rfl ?_
  refine F_getf pf_53_14 rfl rfl rfl ?_
  refine E_iconst pf_53_17 ?_
  refine E_aload pf_53_18 rfl ?_
  refine F_getf pf_53_19 rfl rfl rfl ?_
  refine F_alenI pf_53_22 rfl ?_
  refine F_acopy (l' := [(_, _), (_, _), (_, _), (_, _), (_, _), (_, _), (_, _), (_, _)]) pf_53_23 rfl rfl (by omega) rfl rfl ?_
  exact E_vret pf_53_26 rfl
theorem c52_24_42 : ∀ h, Ca 52 [.ref 24, .ref 42] (wd [(24, pst 24 p0), (25, ar 20 p0.2.1), (26, ar 24 p0.2.2.2.1), (27, ar 24 p0.2.2.2.2.1), (42, pst 42 p), (43, ar 20 p.2.1), (44, ar 24 p.2.2.2.1), (45, ar 24 p.2.2.2.2.1)] h) (.inl none, wd [(24, pst 24 (pcp p0 p)), (25, ar 20 (pcp p0 p).2.1), (26, ar 24 (pcp p0 p).2.2.2.1), (27, ar 24 (pcp p0 p).2.2.2.2.1), (42, pst 42 p), (43, ar 20 p.2.1), (44, ar 24 p.2.2.2.1), (45, ar 24 p.2.2.2.2.1)] h) := by
  intro h
  refine E_in (lv := [_, _]) rfl ?_
  refine E_aload pf_52_0 rfl ?_
  refine E_aload pf_52_1 rfl ?_
  refine F_v2u (l' := [(_, _), (_, _), (_, _), (_, _), (_, _), (_, _), (_, _), (_, _)]) pf_52_2 (c53_24_42) (And.intro rfl (And.intro rfl (And.intro rfl (And.intro rfl (And.intro rfl (And.intro rfl (And.intro rfl (And.intro rfl (trivial))))))))) rfl rfl rfl rfl ?_
  refine E_aload pf_52_5 rfl ?_
  refine E_aload pf_52_6 rfl ?_
  refine F_getf pf_52_7 rfl rfl rfl ?_
  refine F_putf (l' := [(_, _), (_, _), (_, _), (_, _), (_, _), (_, _), (_, _), (_, _)]) (x := ob _ [_, _, _, _, _, _, _]) pf_52_10 rfl rfl rfl rfl rfl ?_
  refine E_aload pf_52_13 rfl ?_
  refine F_getf pf_52_14 rfl rfl rfl ?_
  refine E_iconst pf_52_17 ?_
  refine E_aload pf_52_18 rfl ?_
  refine F_getf pf_52_19 rfl rfl rfl ?_
  refine E_iconst pf_52_22 ?_
  refine E_iconst pf_52_23 ?_
  refine F_acopy (l' := [(_, _), (_, _), (_, _), (_, _), (_, _), (_, _), (_, _), (_, _)]) pf_52_25 rfl rfl (by omega) rfl rfl ?_
  refine E_aload pf_52_28 rfl ?_
  refine F_getf pf_52_29 rfl rfl rfl ?_
  refine E_iconst pf_52_32 ?_
  refine E_aload pf_52_33 rfl ?_
  refine F_getf pf_52_34 rfl rfl rfl ?_
  refine E_iconst pf_52_37 ?_
  refine E_iconst pf_52_38 ?_
  refine F_acopy (l' := [(_, _), (_, _), (_, _), (_, _), (_, _), (_, _), (_, _), (_, _)]) pf_52_40 rfl rfl (by omega) rfl rfl ?_
  refine E_aload pf_52_43 rfl ?_
  refine E_aload pf_52_44 rfl ?_
  refine F_getf pf_52_45 rfl rfl rfl ?_
  refine F_putf (l' := [(_, _), (_, _), (_, _), (_, _), (_, _), (_, _), (_, _), (_, _)]) (x := ob _ [_, _, _, _, _, _, _]) pf_52_48 rfl rfl rfl rfl rfl ?_
  refine E_aload pf_52_51 rfl ?_
  refine E_aload pf_52_52 rfl ?_
  refine F_getf pf_52_53 rfl rfl rfl ?_
  refine F_putf (l' := [(_, _), (_, _), (_, _), (_, _), (_, _), (_, _), (_, _), (_, _)]) (x := ob _ [_, _, _, _, _, _, _]) pf_52_56 rfl rfl rfl rfl rfl ?_
  exact E_vret pf_52_59 rfl
theorem c53_24_46 : ∀ h, Ca 53 [.ref 24, .ref 46] (wd [(24, pst 24 p0), (25, ar 20 p0.2.1), (26, ar 24 p0.2.2.2.1), (27, ar 24 p0.2.2.2.2.1), (46, pst 46 p), (47, ar 20 p.2.1), (48, ar 24 p.2.2.2.1), (49, ar 24 p.2.2.2.2.1)] h) (.inl none, wd [(24, pst 24 (pcr p0 p)), (25, ar 20 (pcr p0 p).2.1), (26, ar 24 (pcr p0 p).2.2.2.1), (27, ar 24 (pcr p0 p).2.2.2.2.1), (46, pst 46 p), (47, ar 20 p.2.1), (48, ar 24 p.2.2.2.1), (49, ar 24 p.2.2.2.2.1)] h) := by
  intro h
  refine E_in (lv := [_, _]) rfl ?_
  refine E_aload pf_53_0 rfl ?_
  refine E_aload pf_53_1 rfl ?_
  refine F_getf pf_53_2 rfl rfl rfl ?_
  refine F_putf (l' := [(_, _), (_, _), (_, _), (_, _), (_, _), (_, _), (_, _), (_, _)]) (x := ob _ [_, _, _, _, _, _, _]) pf_53_5 rfl rfl rfl rfl rfl ?_
  refine E_aload pf_53_8 rfl ?_
  refine F_getf pf_53_9 rfl rfl rfl ?_
  refine E_iconst pf_53_12 ?_
  refine E_aload pf_53_13 rfl ?_
  refine F_getf pf_53_14 rfl rfl rfl ?_
  refine E_iconst pf_53_17 ?_
  refine E_aload pf_53_18 rfl ?_
  refine F_getf pf_53_19 rfl rfl rfl ?_
  refine F_alenI pf_53_22 rfl ?_
  refine F_acopy (l' := [(_, _), (_, _), (_, _), (_, _), (_, _), (_, _), (_, _), (_, _)]) pf_53_23 rfl rfl (by omega) rfl rfl ?_
  exact E_vret pf_53_26 rfl
theorem c52_24_46 : ∀ h, Ca 52 [.ref 24, .ref 46] (wd [(24, pst 24 p0), (25, ar 20 p0.2.1), (26, ar 24 p0.2.2.2.1), (27, ar 24 p0.2.2.2.2.1), (46, pst 46 p), (47, ar 20 p.2.1), (48, ar 24 p.2.2.2.1), (49, ar 24 p.2.2.2.2.1)] h) (.inl none, wd [(24, pst 24 (pcp p0 p)), (25, ar 20 (pcp p0 p).2.1), (26, ar 24 (pcp p0 p).2.2.2.1), (27, ar 24 (pcp p0 p).2.2.2.2.1), (46, pst 46 p), (47, ar 20 p.2.1), (48, ar 24 p.2.2.2.1), (49, ar 24 p.2.2.2.2.1)] h) := by
  intro h
  refine E_in (lv := [_, _]) rfl ?_
  refine E_aload pf_52_0 rfl ?_
  refine E_aload pf_52_1 rfl ?_
  refine F_v2u (l' := [(_, _), (_, _), (_, _), (_, _), (_, _), (_, _), (_, _), (_, _)]) pf_52_2 (c53_24_46) (And.intro rfl (And.intro rfl (And.intro rfl (And.intro rfl (And.intro rfl (And.intro rfl (And.intro rfl (And.intro rfl (trivial))))))))) rfl rfl rfl rfl ?_
  refine E_aload pf_52_5 rfl ?_
  refine E_aload pf_52_6 rfl ?_
  refine F_getf pf_52_7 rfl rfl rfl ?_
  refine F_putf (l' := [(_, _), (_, _), (_, _), (_, _), (_, _), (_, _), (_, _), (_, _)]) (x := ob _ [_, _, _, _, _, _, _]) pf_52_10 rfl rfl rfl rfl rfl ?_
  refine E_aload pf_52_13 rfl ?_
  refine F_getf pf_52_14 rfl rfl rfl ?_
  refine E_iconst pf_52_17 ?_
  refine E_aload pf_52_18 rfl ?_
  refine F_getf pf_52_19 rfl rfl rfl ?_
  refine E_iconst pf_52_22 ?_
  refine E_iconst pf_52_23 ?_
  refine F_acopy (l' := [(_, _), (_, _), (_, _), (_, _), (_, _), (_, _), (_, _), (_, _)]) pf_52_25 rfl rfl (by omega) rfl rfl ?_
  refine E_aload pf_52_28 rfl ?_
  refine F_getf pf_52_29 rfl rfl rfl ?_
  refine E_iconst pf_52_32 ?_
  refine E_aload pf_52_33 rfl ?_
  refine F_getf pf_52_34 rfl rfl rfl ?_
  refine E_iconst pf_52_37 ?_
  refine E_iconst pf_52_38 ?_
  refine F_acopy (l' := [(_, _), (_, _), (_, _), (_, _), (_, _), (_, _), (_, _), (_, _)]) pf_52_40 rfl rfl (by omega) rfl rfl ?_
  refine E_aload pf_52_43 rfl ?_
  refine E_aload pf_52_44 rfl ?_
  refine F_getf pf_52_45 rfl rfl rfl ?_
  refine F_putf (l' := [(_, _), (_, _), (_, _), (_, _), (_, _), (_, _), (_, _), (_, _)]) (x := ob _ [_, _, _, _, _, _, _]) pf_52_48 rfl rfl rfl rfl rfl ?_
  refine E_aload pf_52_51 rfl ?_
  refine E_aload pf_52_52 rfl ?_
  refine F_getf pf_52_53 rfl rfl rfl ?_
  refine F_putf (l' := [(_, _), (_, _), (_, _), (_, _), (_, _), (_, _), (_, _), (_, _)]) (x := ob _ [_, _, _, _, _, _, _]) pf_52_56 rfl rfl rfl rfl rfl ?_
  exact E_vret pf_52_59 rfl
theorem c53_24_50 : ∀ h, Ca 53 [.ref 24, .ref 50] (wd [(24, pst 24 p0), (25, ar 20 p0.2.1), (26, ar 24 p0.2.2.2.1), (27, ar 24 p0.2.2.2.2.1), (50, pst 50 p), (51, ar 20 p.2.1), (52, ar 24 p.2.2.2.1), (53, ar 24 p.2.2.2.2.1)] h) (.inl none, wd [(24, pst 24 (pcr p0 p)), (25, ar 20 (pcr p0 p).2.1), (26, ar 24 (pcr p0 p).2.2.2.1), (27, ar 24 (pcr p0 p).2.2.2.2.1), (50, pst 50 p), (51, ar 20 p.2.1), (52, ar 24 p.2.2.2.1), (53, ar 24 p.2.2.2.2.1)] h) := by
  intro h
  refine E_in (lv := [_, _]) rfl ?_
  refine E_aload pf_53_0 rfl ?_
  refine E_aload pf_53_1 rfl ?_
  refine F_getf pf_53_2 rfl rfl rfl ?_
  refine F_putf (l' := [(_, _), (_, _), (_, _), (_, _), (_, _), (_, _), (_, _), (_, _)]) (x := ob _ [_, _, _, _, _, _, _]) pf_53_5 rfl rfl rfl rfl rfl ?_
  refine E_aload pf_53_8 rfl ?_
  refine F_getf pf_53_9 rfl rfl rfl ?_
  refine E_iconst pf_53_12 ?_
  refine E_aload pf_53_13 rfl ?_
  refine F_getf pf_53_14 rfl rfl rfl ?_
  refine E_iconst pf_53_17 ?_
  refine E_aload pf_53_18 rfl ?_
  refine F_getf pf_53_19 rfl rfl rfl ?_
  refine F_alenI pf_53_22 rfl ?_
  refine F_acopy (l' := [(_, _), (_, _), (_, _), (_, _), (_, _), (_, _), (_, _), (_, _)]) pf_53_23 rfl rfl (by omega) rfl rfl ?_
  exact E_vret pf_53_26 rfl
theorem c52_24_50 : ∀ h, Ca 52 [.ref 24, .ref 50] (wd [(24, pst 24 p0), (25, ar 20 p0.2.1), (26, ar 24 p0.2.2.2.1), (27, ar 24 p0.2.2.2.2.1), (50, pst 50 p), (51, ar 20 p.2.1), (52, ar 24 p.2.2.2.1), (53, ar 24 p.2.2.2.2.1)] h) (.inl none, wd [(24, pst 24 (pcp p0 p)), (25, ar 20 (pcp p0 p).2.1), (26, ar 24 (pcp p0 p).2.2.2.1), (27, ar 24 (pcp p0 p).2.2.2.2.1), (50, pst 50 p), (51, ar 20 p.2.1), (52, ar 24 p.2.2.2.1), (53, ar 24 p.2.2.2.2.1)] h) := by
  intro h
  refine E_in (lv := [_, _]) rfl ?_
  refine E_aload pf_52_0 rfl ?_
  refine E_aload pf_52_1 rfl ?_
  refine F_v2u (l' := [(_, _), (_, _), (_, _), (_, _), (_, _), (_, _), (_, _), (_, _)]) pf_52_2 (c53_24_50) (And.intro rfl (And.intro rfl (And.intro rfl (And.intro rfl (And.intro rfl (And.intro rfl (And.intro rfl (And.intro rfl (trivial))))))))) rfl rfl rfl rfl ?_
  refine E_aload pf_52_5 rfl ?_
  refine E_aload pf_52_6 rfl ?_
  refine F_getf pf_52_7 rfl rfl rfl ?_
  refine F_putf (l' := [(_, _), (_, _), (_, _), (_, _), (_, _), (_, _), (_, _), (_, _)]) (x := ob _ [_, _, _, _, _, _, _]) pf_52_10 rfl rfl rfl rfl rfl ?_
  refine E_aload pf_52_13 rfl ?_
  refine F_getf pf_52_14 rfl rfl rfl ?_
  refine E_iconst pf_52_17 ?_
  refine E_aload pf_52_18 rfl ?_
  refine F_getf pf_52_19 rfl rfl rfl ?_
  refine E_iconst pf_52_22 ?_
  refine E_iconst pf_52_23 ?_
  refine F_acopy (l' := [(_, _), (_, _), (_, _), (_, _), (_, _), (_, _), (_, _), (_, _)]) pf_52_25 rfl rfl (by omega) rfl rfl ?_
  refine E_aload pf_52_28 rfl ?_
  refine F_getf pf_52_29 rfl rfl rfl ?_
  refine E_iconst pf_52_32 ?_
  refine E_aload pf_52_33 rfl ?_
  refine F_getf pf_52_34 rfl rfl rfl ?_
  refine E_iconst pf_52_37 ?_
  refine E_iconst pf_52_38 ?_
  refine F_acopy (l' := [(_, _), (_, _), (_, _), (_, _), (_, _), (_, _), (_, _), (_, _)]) pf_52_40 rfl rfl (by omega) rfl rfl ?_
  refine E_aload pf_52_43 rfl ?_
  refine E_aload pf_52_44 rfl ?_
  refine F_getf pf_52_45 rfl rfl rfl ?_
  refine F_putf (l' := [(_, _), (_, _), (_, _), (_, _), (_, _), (_, _), (_, _), (_, _)]) (x := ob _ [_, _, _, _, _, _, _]) pf_52_48 rfl rfl rfl rfl rfl ?_
  refine E_aload pf_52_51 rfl ?_
  refine E_aload pf_52_52 rfl ?_
  refine F_getf pf_52_53 rfl rfl rfl ?_
  refine F_putf (l' := [(_, _), (_, _), (_, _), (_, _), (_, _), (_, _), (_, _), (_, _)]) (x := ob _ [_, _, _, _, _, _, _]) pf_52_56 rfl rfl rfl rfl rfl ?_
  exact E_vret pf_52_59 rfl
theorem c53_24_54 : ∀ h, Ca 53 [.ref 24, .ref 54] (wd [(24, pst 24 p0), (25, ar 20 p0.2.1), (26, ar 24 p0.2.2.2.1), (27, ar 24 p0.2.2.2.2.1), (54, pst 54 p), (55, ar 20 p.2.1), (56, ar 24 p.2.2.2.1), (57, ar 24 p.2.2.2.2.1)] h) (.inl none, wd [(24, pst 24 (pcr p0 p)), (25, ar 20 (pcr p0 p).2.1), (26, ar 24 (pcr p0 p).2.2.2.1), (27, ar 24 (pcr p0 p).2.2.2.2.1), (54, pst 54 p), (55, ar 20 p.2.1), (56, ar 24 p.2.2.2.1), (57, ar 24 p.2.2.2.2.1)] h) := by
  intro h
  refine E_in (lv := [_, _]) rfl ?_
  refine E_aload pf_53_0 rfl ?_
  refine E_aload pf_53_1 rfl ?_
  refine F_getf pf_53_2 rfl rfl rfl ?_
  refine F_putf (l' := [(_, _), (_, _), (_, _), (_, _), (_, _), (_, _), (_, _), (_, _)]) (x := ob _ [_, _, _, _, _, _, _]) pf_53_5 rfl rfl rfl rfl rfl ?_
  refine E_aload pf_53_8 rfl ?_
  refine F_getf pf_53_9 rfl rfl rfl ?_
  refine E_iconst pf_53_12 ?_
  refine E_aload pf_53_13 rfl ?_
  refine F_getf pf_53_14 rfl rfl rfl ?_
  refine E_iconst pf_53_17 ?_
  refine E_aload pf_53_18 rfl ?_
  refine F_getf pf_53_19 rfl rfl rfl ?_
  refine F_alenI pf_53_22 rfl ?_
  refine F_acopy (l' := [(_, _), (_, _), (_, _), (_, _), (_, _), (_, _), (_, _), (_, _)]) pf_53_23 rfl rfl (by omega) rfl rfl ?_
  exact E_vret pf_53_26 rfl
theorem c52_24_54 : ∀ h, Ca 52 [.ref 24, .ref 54] (wd [(24, pst 24 p0), (25, ar 20 p0.2.1), (26, ar 24 p0.2.2.2.1), (27, ar 24 p0.2.2.2.2.1), (54, pst 54 p), (55, ar 20 p.2.1), (56, ar 24 p.2.2.2.1), (57, ar 24 p.2.2.2.2.1)] h) (.inl none, wd [(24, pst 24 (pcp p0 p)), (25, ar 20 (pcp p0 p).2.1), (26, ar 24 (pcp p0 p).2.2.2.1), (27, ar 24 (pcp p0 p).2.2.2.2.1), (54, pst 54 p), (55, ar 20 p.2.1), (56, ar 24 p.2.2.2.1), (57, ar 24 p.2.2.2.2.1)] h) := by
  intro h
  refine E_in (lv := [_, _]) rfl ?_
  refine E_aload pf_52_0 rfl ?_
  refine E_aload pf_52_1 rfl ?_
  refine F_v2u (l' := [(_, _), (_, _), (_, _), (_, _), (_, _), (_, _), (_, _), (_, _)]) pf_52_2 (c53_24_54) (And.intro rfl (And.intro rfl (And.intro rfl (And.intro rfl (And.intro rfl (And.intro rfl (And.intro rfl (And.intro rfl (trivial))))))))) rfl rfl rfl rfl ?_
  refine E_aload pf_52_5 rfl ?_
  refine E_aload pf_52_6 rfl ?_
  refine F_getf pf_52_7 rfl rfl rfl ?_
  refine F_putf (l' := [(_, _), (_, _), (_, _), (_, _), (_, _), (_, _), (_, _), (_, _)]) (x := ob _ [_, _, _, _, _, _, _]) pf_52_10 rfl rfl rfl rfl rfl ?_
  refine E_aload pf_52_13 rfl ?_
  refine F_getf pf_52_14 rfl rfl rfl ?_
  refine E_iconst pf_52_17 ?_
  refine E_aload pf_52_18 rfl ?_
  refine F_getf pf_52_19 rfl rfl rfl ?_
  refine E_iconst pf_52_22 ?_
  refine E_iconst pf_52_23 ?_
  refine F_acopy (l' := [(_, _), (_, _), (_, _), (_, _), (_, _), (_, _), (_, _), (_, _)]) pf_52_25 rfl rfl (by omega) rfl rfl ?_
  refine E_aload pf_52_28 rfl ?_
  refine F_getf pf_52_29 rfl rfl rfl ?_
  refine E_iconst pf_52_32 ?_
  refine E_aload pf_52_33 rfl ?_
  refine F_getf pf_52_34 rfl rfl rfl ?_
  refine E_iconst pf_52_37 ?_
  refine E_iconst pf_52_38 ?_
  refine F_acopy (l' := [(_, _), (_, _), (_, _), (_, _), (_, _), (_, _), (_, _), (_, _)]) pf_52_40 rfl rfl (by omega) rfl rfl ?_
  refine E_aload pf_52_43 rfl ?_
  refine E_aload pf_52_44 rfl ?_
  refine F_getf pf_52_45 rfl rfl rfl ?_
  refine F_putf (l' := [(_, _), (_, _), (_, _), (_, _), (_, _), (_, _), (_, _), (_, _)]) (x := ob _ [_, _, _, _, _, _, _]) pf_52_48 rfl rfl rfl rfl rfl ?_
  refine E_aload pf_52_51 rfl ?_
  refine E_aload pf_52_52 rfl ?_
  refine F_getf pf_52_53 rfl rfl rfl ?_
  refine F_putf (l' := [(_, _), (_, _), (_, _), (_, _), (_, _), (_, _), (_, _), (_, _)]) (x := ob _ [_, _, _, _, _, _, _]) pf_52_56 rfl rfl rfl rfl rfl ?_
  exact E_vret pf_52_59 rfl
theorem c53_24_58 : ∀ h, Ca 53 [.ref 24, .ref 58] (wd [(24, pst 24 p0), (25, ar 20 p0.2.1), (26, ar 24 p0.2.2.2.1), (27, ar 24 p0.2.2.2.2.1), (58, pst 58 p), (59, ar 20 p.2.1), (60, ar 24 p.2.2.2.1), (61, ar 24 p.2.2.2.2.1)] h) (.inl none, wd [(24, pst 24 (pcr p0 p)), (25, ar 20 (pcr p0 p).2.1), (26, ar 24 (pcr p0 p).2.2.2.1), (27, ar 24 (pcr p0 p).2.2.2.2.1), (58, pst 58 p), (59, ar 20 p.2.1), (60, ar 24 p.2.2.2.1), (61, ar 24 p.2.2.2.2.1)] h) := by
  intro h
  refine E_in (lv := [_, _]) rfl ?_
  refine E_aload pf_53_0 rfl ?_
  refine E_aload pf_53_1 rfl ?_
  refine F_getf pf_53_2 rfl rfl rfl ?_
  refine F_putf (l' := [(_, _), (_, _), (_, _), (_, _), (_, _), (_, _), (_, _), (_, _)]) (x := ob _ [_, _, _, _, _, _, _]) pf_53_5 rfl rfl rfl rfl rfl ?_
  refine E_aload pf_53_8 rfl ?_
  refine F_getf pf_53_9 rfl rfl rfl ?_
  refine E_iconst pf_53_12 ?_
  refine E_aload pf_53_13 rfl ?_
  refine F_getf pf_53_14 rfl rfl rfl ?_
  refine E_iconst pf_53_17 ?_
  refine E_aload pf_53_18 rfl ?_
  refine F_getf pf_53_19 rfl rfl rfl ?_
  refine F_alenI pf_53_22 rfl ?_
  refine F_acopy (l' := [(_, _), (_, _), (_, _), (_, _), (_, _), (_, _), (_, _), (_, _)]) pf_53_23 rfl rfl (by omega) rfl rfl ?_
  exact E_vret pf_53_26 rfl
theorem c52_24_58 : ∀ h, Ca 52 [.ref 24, .ref 58] (wd [(24, pst 24 p0), (25, ar 20 p0.2.1), (26, ar 24 p0.2.2.2.1), (27, ar 24 p0.2.2.2.2.1), (58, pst 58 p), (59, ar 20 p.2.1), (60, ar 24 p.2.2.2.1), (61, ar 24 p.2.2.2.2.1)] h) (.inl none, wd [(24, pst 24 (pcp p0 p)), (25, ar 20 (pcp p0 p).2.1), (26, ar 24 (pcp p0 p).2.2.2.1), (27, ar 24 (pcp p0 p).2.2.2.2.1), (58, pst 58 p), (59, ar 20 p.2.1), (60, ar 24 p.2.2.2.1), (61, ar 24 p.2.2.2.2.1)] h) := by
  intro h
  refine E_in (lv := [_, _]) rfl ?_
  refine E_aload pf_52_0 rfl ?_
  refine E_aload pf_52_1 rfl ?_
  refine F_v2u (l' := [(_, _), (_, _), (_, _), (_, _), (_, _), (_, _), (_, _), (_, _)]) pf_52_2 (c53_24_58) (And.intro rfl (And.intro rfl (And.intro rfl (And.intro rfl (And.intro rfl (And.intro rfl (And.intro rfl (And.intro rfl (trivial))))))))) rfl rfl rfl rfl ?_
  refine E_aload pf_52_5 rfl ?_
  refine E_aload pf_52_6 rfl ?_
  refine F_getf pf_52_7 rfl rfl rfl ?_
  refine F_putf (l' := [(_, _), (_, _), (_, _), (_, _), (_, _), (_, _), (_, _), (_, _)]) (x := ob _ [_, _, _, _, _, _, _]) pf_52_10 rfl rfl rfl rfl rfl ?_
  refine E_aload pf_52_13 rfl ?_
  refine F_getf pf_52_14 rfl rfl rfl ?_
  refine E_iconst pf_52_17 ?_
  refine E_aload pf_52_18 rfl ?_
  refine F_getf pf_52_19 rfl rfl rfl ?_
  refine E_iconst pf_52_22 ?_
  refine E_iconst pf_52_23 ?_
  refine F_acopy (l' := [(_, _), (_, _), (_, _), (_, _), (_, _), (_, _), (_, _), (_, _)]) pf_52_25 rfl rfl (by omega) rfl rfl ?_
  refine E_aload pf_52_28 rfl ?_
  refine F_getf pf_52_29 rfl rfl rfl ?_
  refine E_iconst pf_52_32 ?_
  refine E_aload pf_52_33 rfl ?_
  refine F_getf pf_52_34 rfl rfl rfl ?_
  refine E_iconst pf_52_37 ?_
  refine E_iconst pf_52_38 ?_
  refine F_acopy (l' := [(_, _), (_, _), (_, _), (_, _), (_, _), (_, _), (_, _), (_, _)]) pf_52_40 rfl rfl (by omega) rfl rfl ?_
  refine E_aload pf_52_43 rfl ?_
  refine E_aload pf_52_44 rfl ?_
  refine F_getf pf_52_45 rfl rfl rfl ?_
  refine F_putf (l' := [(_, _), (_, _), (_, _), (_, _), (_, _), (_, _), (_, _), (_, _)]) (x := ob _ [_, _, _, _, _, _, _]) pf_52_48 rfl rfl rfl rfl rfl ?_
  refine E_aload pf_52_51 rfl ?_
  refine E_aload pf_52_52 rfl ?_
  refine F_getf pf_52_53 rfl rfl rfl ?_
  refine F_putf (l' := [(_, _), (_, _), (_, _), (_, _), (_, _), (_, _), (_, _), (_, _)]) (x := ob _ [_, _, _, _, _, _, _]) pf_52_56 rfl rfl rfl rfl rfl ?_
  exact E_vret pf_52_59 rfl
theorem c53_24_62 : ∀ h, Ca 53 [.ref 24, .ref 62] (wd [(24, pst 24 p0), (25, ar 20 p0.2.1), (26, ar 24 p0.2.2.2.1), (27, ar 24 p0.2.2.2.2.1), (62, pst 62 p), (63, ar 20 p.2.1), (64, ar 24 p.2.2.2.1), (65, ar 24 p.2.2.2.2.1)] h) (.inl none, wd [(24, pst 24 (pcr p0 p)), (25, ar 20 (pcr p0 p).2.1), (26, ar 24 (pcr p0 p).2.2.2.1), (27, ar 24 (pcr p0 p).2.2.2.2.1), (62, pst 62 p), (63, ar 20 p.2.1), (64, ar 24 p.2.2.2.1), (65, ar 24 p.2.2.2.2.1)] h) := by
  intro h
  refine E_in (lv := [_, _]) rfl ?_
  refine E_aload pf_53_0 rfl ?_
  refine E_aload pf_53_1 rfl ?_
  refine F_getf pf_53_2 rfl rfl rfl ?_
  refine F_putf (l' := [(_, _), (_, _), (_, _), (_, _), (_, _), (_, _), (_, _), (_, _)]) (x := ob _ [_, _, _, _, _, _, _]) pf_53_5 rfl rfl rfl rfl rfl ?_
  refine E_aload pf_53_8 rfl ?_
  refine F_getf pf_53_9 rfl rfl rfl ?_
  refine E_iconst pf_53_12 ?_
  refine E_aload pf_53_13 rfl ?_
  refine F_getf pf_53_14 rfl rfl rfl ?_
  refine E_iconst pf_53_17 ?_
  refine E_aload pf_53_18 rfl ?_
  refine F_getf pf_53_19 rfl rfl rfl ?_
  refine F_alenI pf_53_22 rfl ?_
  refine F_acopy (l' := [(_, _), (_, _), (_, _), (_, _), (_, _), (_, _), (_, _), (_, _)]) pf_53_23 rfl rfl (by omega) rfl rfl ?_
  exact E_vret pf_53_26 rfl
theorem c52_24_62 : ∀ h, Ca 52 [.ref 24, .ref 62] (wd [(24, pst 24 p0), (25, ar 20 p0.2.1), (26, ar 24 p0.2.2.2.1), (27, ar 24 p0.2.2.2.2.1), (62, pst 62 p), (63, ar 20 p.2.1), (64, ar 24 p.2.2.2.1), (65, ar 24 p.2.2.2.2.1)] h) (.inl none, wd [(24, pst 24 (pcp p0 p)), (25, ar 20 (pcp p0 p).2.1), (26, ar 24 (pcp p0 p).2.2.2.1), (27, ar 24 (pcp p0 p).2.2.2.2.1), (62, pst 62 p), (63, ar 20 p.2.1), (64, ar 24 p.2.2.2.1), (65, ar 24 p.2.2.2.2.1)] h) := by
  intro h
  refine E_in (lv := [_, _]) rfl ?_
  refine E_aload pf_52_0 rfl ?_
  refine E_aload pf_52_1 rfl ?_
  refine F_v2u (l' := [(_, _), (_, _), (_, _), (_, _), (_, _), (_, _), (_, _), (_, _)]) pf_52_2 (c53_24_62) (And.intro rfl (And.intro rfl (And.intro rfl (And.intro rfl (And.intro rfl (And.intro rfl (And.intro rfl (And.intro rfl (trivial))))))))) rfl rfl rfl rfl ?_
  refine E_aload pf_52_5 rfl ?_
  refine E_aload pf_52_6 rfl ?_
  refine F_getf pf_52_7 rfl rfl rfl ?_
  refine F_putf (l' := [(_, _), (_, _), (_, _), (_, _), (_, _), (_, _), (_, _), (_, _)]) (x := ob _ [_, _, _, _, _, _, _]) pf_52_10 rfl rfl rfl rfl rfl ?_
  refine E_aload pf_52_13 rfl ?_
  refine F_getf pf_52_14 rfl rfl rfl ?_
  refine E_iconst pf_52_17 ?_
  refine E_aload pf_52_18 rfl ?_
  refine F_getf pf_52_19 rfl rfl rfl ?_
  refine E_iconst pf_52_22 ?_
  refine E_iconst pf_52_23 ?_
  refine F_acopy (l' := [(_, _), (_, _), (_, _), (_, _), (_, _), (_, _), (_, _), (_, _)]) pf_52_25 rfl rfl (by omega) rfl rfl ?_
  refine E_aload pf_52_28 rfl ?_
  refine F_getf pf_52_29 rfl rfl rfl ?_
  refine E_iconst pf_52_32 ?_
  refine E_aload pf_52_33 rfl ?_
  refine F_getf pf_52_34 rfl rfl rfl ?_
  refine E_iconst pf_52_37 ?_
  refine E_iconst pf_52_38 ?_
  refine F_acopy (l' := [(_, _), (_, _), (_, _), (_, _), (_, _), (_, _), (_, _), (_, _)]) pf_52_40 rfl rfl (by omega) rfl rfl ?_
  refine E_aload pf_52_43 rfl ?_
  refine E_aload pf_52_44 rfl ?_
  refine F_getf pf_52_45 rfl rfl rfl ?_
  refine F_putf (l' := [(_, _), (_, _), (_, _), (_, _), (_, _), (_, _), (_, _), (_, _)]) (x := ob _ [_, _, _, _, _, _, _]) pf_52_48 rfl rfl rfl rfl rfl ?_
  refine E_aload pf_52_51 rfl ?_
  refine E_aload pf_52_52 rfl ?_
  refine F_getf pf_52_53 rfl rfl rfl ?_
  refine F_putf (l' := [(_, _), (_, _), (_, _), (_, _), (_, _), (_, _), (_, _), (_, _)]) (x := ob _ [_, _, _, _, _, _, _]) pf_52_56 rfl rfl rfl rfl rfl ?_
  exact E_vret pf_52_59 rfl
theorem c53_24_66 : ∀ h, Ca 53 [.ref 24, .ref 66] (wd [(24, pst 24 p0), (25, ar 20 p0.2.1), (26, ar 24 p0.2.2.2.1), (27, ar 24 p0.2.2.2.2.1), (66, pst 66 p), (67, ar 20 p.2.1), (68, ar 24 p.2.2.2.1), (69, ar 24 p.2.2.2.2.1)] h) (.inl none, wd [(24, pst 24 (pcr p0 p)), (25, ar 20 (pcr p0 p).2.1), (26, ar 24 (pcr p0 p).2.2.2.1), (27, ar 24 (pcr p0 p).2.2.2.2.1), (66, pst 66 p), (67, ar 20 p.2.1), (68, ar 24 p.2.2.2.1), (69, ar 24 p.2.2.2.2.1)] h) := by
  intro h
  refine E_in (lv := [_, _]) rfl ?_
  refine E_aload pf_53_0 rfl ?_
  refine E_aload pf_53_1 rfl ?_
  refine F_getf pf_53_2 rfl rfl rfl ?_
  refine F_putf (l' := [(_, _), (_, _), (_, _), (_, _), (_, _), (_, _), (_, _), (_, _)]) (x := ob _ [_, _, _, _, _, _, _]) pf_53_5 rfl rfl rfl rfl rfl ?_
  refine E_aload pf_53_8 rfl ?_
  refine F_getf pf_53_9 rfl rfl rfl ?_
  refine E_iconst pf_53_12 ?_
  refine E_aload pf_53_13 rfl ?_
  refine F_getf pf_53_14 rfl rfl rfl ?_
  refine E_iconst pf_53_17 ?_
  refine E_aload pf_53_18 rfl ?_
  refine F_getf pf_53_19 rfl rfl rfl ?_
  refine F_alenI pf_53_22 rfl ?_
  refine F_acopy (l' := [(_, _), (_, _), (_, _), (_, _), (_, _), (_, _), (_, _), (_, _)]) pf_53_23 rfl rfl (by omega) rfl rfl ?_
  exact E_vret pf_53_26 rfl
theorem c52_24_66 : ∀ h, Ca 52 [.ref 24, .ref 66] (wd [(24, pst 24 p0), (25, ar 20 p0.2.1), (26, ar 24 p0.2.2.2.1), (27, ar 24 p0.2.2.2.2.1), (66, pst 66 p), (67, ar 20 p.2.1), (68, ar 24 p.2.2.2.1), (69, ar 24 p.2.2.2.2.1)] h) (.inl none, wd [(24, pst 24 (pcp p0 p)), (25, ar 20 (pcp p0 p).2.1), (26, ar 24 (pcp p0 p).2.2.2.1), (27, ar 24 (pcp p0 p).2.2.2.2.1), (66, pst 66 p), (67, ar 20 p.2.1), (68, ar 24 p.2.2.2.1), (69, ar 24 p.2.2.2.2.1)] h) := by
  intro h
  refine E_in (lv := [_, _]) rfl ?_
  refine E_aload pf_52_0 rfl ?_
  refine E_aload pf_52_1 rfl ?_
  refine F_v2u (l' := [(_, _), (_, _), (_, _), (_, _), (_, _), (_, _), (_, _), (_, _)]) pf_52_2 (c53_24_66) (And.intro rfl (And.intro rfl (And.intro rfl (And.intro rfl (And.intro rfl (And.intro rfl (And.intro rfl (And.intro rfl (trivial))))))))) rfl rfl rfl rfl ?_
  refine E_aload pf_52_5 rfl ?_
  refine E_aload pf_52_6 rfl ?_
  refine F_getf pf_52_7 rfl rfl rfl ?_
  refine F_putf (l' := [(_, _), (_, _), (_, _), (_, _), (_, _), (_, _), (_, _), (_, _)]) (x := ob _ [_, _, _, _, _, _, _]) pf_52_10 rfl rfl rfl rfl rfl ?_
  refine E_aload pf_52_13 rfl ?_
  refine F_getf pf_52_14 rfl rfl rfl ?_
  refine E_iconst pf_52_17 ?_
  refine E_aload pf_52_18 rfl ?_
  refine F_getf pf_52_19 rfl rfl rfl ?_
  refine E_iconst pf_52_22 ?_
  refine E_iconst pf_52_23 ?_
  refine F_acopy (l' := [(_, _), (_, _), (_, _), (_, _), (_, _), (_, _), (_, _), (_, _)]) pf_52_25 rfl rfl (by omega) rfl rfl ?_
  refine E_aload pf_52_28 rfl ?_
  refine F_getf pf_52_29 rfl rfl rfl ?_
  refine E_iconst pf_52_32 ?_
  refine E_aload pf_52_33 rfl ?_
  refine F_getf pf_52_34 rfl rfl rfl ?_
  refine E_iconst pf_52_37 ?_
  refine E_iconst pf_52_38 ?_
  refine F_acopy (l' := [(_, _), (_, _), (_, _), (_, _), (_, _), (_, _), (_, _), (_, _)]) pf_52_40 rfl rfl (by omega) rfl rfl ?_
  refine E_aload pf_52_43 rfl ?_
  refine E_aload pf_52_44 rfl ?_
  refine F_getf pf_52_45 rfl rfl rfl ?_
  refine F_putf (l' := [(_, _), (_, _), (_, _), (_, _), (_, _), (_, _), (_, _), (_, _)]) (x := ob _ [_, _, _, _, _, _, _]) pf_52_48 rfl rfl rfl rfl rfl ?_
  refine E_aload pf_52_51 rfl ?_
  refine E_aload pf_52_52 rfl ?_
  refine F_getf pf_52_53 rfl rfl rfl ?_
  refine F_putf (l' := [(_, _), (_, _), (_, _), (_, _), (_, _), (_, _), (_, _), (_, _)]) (x := ob _ [_, _, _, _, _, _, _]) pf_52_56 rfl rfl rfl rfl rfl ?_
  exact E_vret pf_52_59 rfl
theorem c53_24_70 : ∀ h, Ca 53 [.ref 24, .ref 70] (wd [(24, pst 24 p0), (25, ar 20 p0.2.1), (26, ar 24 p0.2.2.2.1), (27, ar 24 p0.2.2.2.2.1), (70, pst 70 p), (71, ar 20 p.2.1), (72, ar 24 p.2.2.2.1), (73, ar 24 p.2.2.2.2.1)] h) (.inl none, wd [(24, pst 24 (pcr p0 p)), (25, ar 20 (pcr p0 p).2.1), (26, ar 24 (pcr p0 p).2.2.2.1), (27, ar 24 (pcr p0 p).2.2.2.2.1), (70, pst 70 p), (71, ar 20 p.2.1), (72, ar 24 p.2.2.2.1), (73, ar 24 p.2.2.2.2.1)] h) := by
  intro h
  refine E_in (lv := [_, _]) rfl ?_
  refine E_aload pf_53_0 rfl ?_
  refine E_aload pf_53_1 rfl ?_
  refine F_getf pf_53_2 rfl rfl rfl ?_
  refine F_putf (l' := [(_, _), (_, _), (_, _), (_, _), (_, _), (_, _), (_, _), (_, _)]) (x := ob _ [_, _, _, _, _, _, _]) pf_53_5 rfl rfl rfl rfl rfl ?_
  refine E_aload pf_53_8 rfl ?_
  refine F_getf pf_53_9 rfl rfl rfl ?_
  refine E_iconst pf_53_12 ?_
  refine E_aload pf_53_13 rfl ?_
  refine F_getf pf_53_14 rfl rfl rfl ?_
  refine E_iconst pf_53_17 ?_
  refine E_aload pf_53_18 rfl ?_
  refine F_getf pf_53_19 rfl rfl rfl ?_
  refine F_alenI pf_53_22 rfl ?_
  refine F_acopy (l' := [(_, _), (_, _), (_, _), (_, _), (_, _), (_, _), (_, _), (_, _)]) pf_53_23 rfl rfl (by omega) rfl rfl ?_
  exact E_vret pf_53_26 rfl
theorem c52_24_70 : ∀ h, Ca 52 [.ref 24, .ref 70] (wd [(24, pst 24 p0), (25, ar 20 p0.2.1), (26, ar 24 p0.2.2.2.1), (27, ar 24 p0.2.2.2.2.1), (70, pst 70 p), (71, ar 20 p.2.1), (72, ar 24 p.2.2.2.1), (73, ar 24 p.2.2.2.2.1)] h) (.inl none, wd [(24, pst 24 (pcp p0 p)), (25, ar 20 (pcp p0 p).2.1), (26, ar 24 (pcp p0 p).2.2.2.1), (27, ar 24 (pcp p0 p).2.2.2.2.1), (70, pst 70 p), (71, ar 20 p.2.1), (72, ar 24 p.2.2.2.1), (73, ar 24 p.2.2.2.2.1)] h) := by
  intro h
  refine E_in (lv := [_, _]) rfl ?_
  refine E_aload pf_52_0 rfl ?_
  refine E_aload pf_52_1 rfl ?_
  refine F_v2u (l' := [(_, _), (_, _), (_, _), (_, _), (_, _), (_, _), (_, _), (_, _)]) pf_52_2 (c53_24_70) (And.intro rfl (And.intro rfl (And.intro rfl (And.intro rfl (And.intro rfl (And.intro rfl (And.intro rfl (And.intro rfl (trivial))))))))) rfl rfl rfl rfl ?_
  refine E_aload pf_52_5 rfl ?_
  refine E_aload pf_52_6 rfl ?_
  refine F_getf pf_52_7 rfl rfl rfl ?_
  refine F_putf (l' := [(_, _), (_, _), (_, _), (_, _), (_, _), (_, _), (_, _), (_, _)]) (x := ob _ [_, _, _, _, _, _, _]) pf_52_10 rfl rfl rfl rfl rfl ?_
  refine E_aload pf_52_13 rfl ?_
  refine F_getf pf_52_14 rfl rfl rfl ?_
  refine E_iconst pf_52_17 ?_
  refine E_aload pf_52_18 rfl ?_
  refine F_getf pf_52_19 rfl rfl rfl ?_
  refine E_iconst pf_52_22 ?_
  refine E_iconst pf_52_23 ?_
  refine F_acopy (l' := [(_, _), (_, _), (_, _), (_, _), (_, _), (_, _), (_, _), (_, _)]) pf_52_25 rfl rfl (by omega) rfl rfl ?_
  refine E_aload pf_52_28 rfl ?_
  refine F_getf pf_52_29 rfl rfl rfl ?_
  refine E_iconst pf_52_32 ?_
  refine E_aload pf_52_33 rfl ?_
  refine F_getf pf_52_34 rfl rfl rfl ?_
  refine E_iconst pf_52_37 ?_
  refine E_iconst pf_52_38 ?_
  refine F_acopy (l' := [(_, _), (_, _), (_, _), (_, _), (_, _), (_, _), (_, _), (_, _)]) pf_52_40 rfl rfl (by omega) rfl rfl ?_
  refine E_aload pf_52_43 rfl ?_
  refine E_aload pf_52_44 rfl ?_
  refine F_getf pf_52_45 rfl rfl rfl ?_
  refine F_putf (l' := [(_, _), (_, _), (_, _), (_, _), (_, _), (_, _), (_, _), (_, _)]) (x := ob _ [_, _, _, _, _, _, _]) pf_52_48 rfl rfl rfl rfl rfl ?_
  refine E_aload pf_52_51 rfl ?_
  refine E_aload pf_52_52 rfl ?_
  refine F_getf pf_52_53 rfl rfl rfl ?_
  refine F_putf (l' := [(_, _), (_, _), (_, _), (_, _), (_, _), (_, _), (_, _), (_, _)]) (x := ob _ [_, _, _, _, _, _, _]) pf_52_56 rfl rfl rfl rfl rfl ?_
  exact E_vret pf_52_59 rfl
theorem c53_24_74 : ∀ h, Ca 53 [.ref 24, .ref 74] (wd [(24, pst 24 p0), (25, ar 20 p0.2.1), (26, ar 24 p0.2.2.2.1), (27, ar 24 p0.2.2.2.2.1), (74, pst 74 p), (75, ar 20 p.2.1), (76, ar 24 p.2.2.2.1), (77, ar 24 p.2.2.2.2.1)] h) (.inl none, wd [(24, pst 24 (pcr p0 p)), (25, ar 20 (pcr p0 p).2.1), (26, ar 24 (pcr p0 p).2.2.2.1), (27, ar 24 (pcr p0 p).2.2.2.2.1), (74, pst 74 p), (75, ar 20 p.2.1), (76, ar 24 p.2.2.2.1), (77, ar 24 p.2.2.2.2.1)] h) := by
  intro h
  refine E_in (lv := [_, _]) rfl ?_
  refine E_aload pf_53_0 rfl ?_
  refine E_aload pf_53_1 rfl ?_
  refine F_getf pf_53_2 rfl rfl rfl ?_
  refine F_putf (l' := [(_, _), (_, _), (_, _), (_, _), (_, _), (_, _), (_, _), (_, _)]) (x := ob _ [_, _, _, _, _, _, _]) pf_53_5 rfl rfl rfl rfl rfl ?_
  refine E_aload pf_53_8 rfl ?_
  refine F_getf pf_53_9 rfl rfl rfl ?_
  refine E_iconst pf_53_12 ?_
  refine E_aload pf_53_13 rfl ?_
  refine F_getf pf_53_14 rfl rfl rfl ?_
  refine E_iconst pf_53_17 ?_
  refine E_aload pf_53_18 rfl ?_
  refine F_getf pf_53_19 rfl rfl rfl ?_
  refine F_alenI pf_53_22 rfl ?_
  refine F_acopy (l' := [(_, _), (_, _), (_, _), (_, _), (_, _), (_, _), (_, _), (_, _)]) pf_53_23 rfl rfl (by omega) rfl rfl ?_
  exact E_vret pf_53_26 rfl
theorem c52_24_74 : ∀ h, Ca 52 [.ref 24, .ref 74] (wd [(24, pst 24 p0), (25, ar 20 p0.2.1), (26, ar 24 p0.2.2.2.1), (27, ar 24 p0.2.2.2.2.1), (74, pst 74 p), (75, ar 20 p.2.1), (76, ar 24 p.2.2.2.1), (77, ar 24 p.2.2.2.2.1)] h) (.inl none, wd [(24, pst 24 (pcp p0 p)), (25, ar 20 (pcp p0 p).2.1), (26, ar 24 (pcp p0 p).2.2.2.1), (27, ar 24 (pcp p0 p).2.2.2.2.1), (74, pst 74 p), (75, ar 20 p.2.1), (76, ar 24 p.2.2.2.1), (77, ar 24 p.2.2.2.2.1)] h) := by
  intro h
  refine E_in (lv := [_, _]) rfl ?_
  refine E_aload pf_52_0 rfl ?_
  refine E_aload pf_52_1 rfl ?_
  refine F_v2u (l' := [(_, _), (_, _), (_, _), (_, _), (_, _), (_, _), (_, _), (_, _)]) pf_52_2 (c53_24_74) (And.intro rfl (And.intro rfl (And.intro rfl (And.intro rfl (And.intro rfl (And.intro rfl (And.intro rfl (And.intro rfl (trivial))))))))) rfl rfl rfl rfl ?_
  refine E_aload pf_52_5 rfl ?_
  refine E_aload pf_52_6 rfl ?_
  refine F_getf pf_52_7 rfl rfl rfl ?_
  refine F_putf (l' := [(_, _), (_, _), (_, _), (_, _), (_, _), (_, _), (_, _), (_, _)]) (x := ob _ [_, _, _, _, _, _, _]) pf_52_10 rfl rfl rfl rfl rfl ?_
  refine E_aload pf_52_13 rfl ?_
  refine F_getf pf_52_14 rfl rfl rfl ?_
  refine E_iconst pf_52_17 ?_
  refine E_aload pf_52_18 rfl ?_
  refine F_getf pf_52_19 rfl rfl rfl ?_
  refine E_iconst pf_52_22 ?_
  refine E_iconst pf_52_23 ?_
  refine F_acopy (l' := [(_, _), (_, _), (_, _), (_, _), (_, _), (_, _), (_, _), (_, _)]) pf_52_25 rfl rfl (by omega) rfl rfl ?_
  refine E_aload pf_52_28 rfl ?_
  refine F_getf pf_52_29 rfl rfl rfl ?_
  refine E_iconst pf_52_32 ?_
  refine E_aload pf_52_33 rfl ?_
  refine F_getf pf_52_34 rfl rfl rfl ?_
  refine E_iconst pf_52_37 ?_
  refine E_iconst pf_52_38 ?_
  refine F_acopy (l' := [(_, _), (_, _), (_, _), (_, _), (_, _), (_, _), (_, _), (_, _)]) pf_52_40 rfl rfl (by omega) rfl rfl ?_
  refine E_aload pf_52_43 rfl ?_
  refine E_aload pf_52_44 rfl ?_
  refine F_getf pf_52_45 rfl rfl rfl ?_
  refine F_putf (l' := [(_, _), (_, _), (_, _), (_, _), (_, _), (_, _), (_, _), (_, _)]) (x := ob _ [_, _, _, _, _, _, _]) pf_52_48 rfl rfl rfl rfl rfl ?_
  refine E_aload pf_52_51 rfl ?_
  refine E_aload pf_52_52 rfl ?_
  refine F_getf pf_52_53 rfl rfl rfl ?_
  refine F_putf (l' := [(_, _), (_, _), (_, _), (_, _), (_, _), (_, _), (_, _), (_, _)]) (x := ob _ [_, _, _, _, _, _, _]) pf_52_56 rfl rfl rfl rfl rfl ?_
  exact E_vret pf_52_59 rfl
theorem c53_24_78 : ∀ h, Ca 53 [.ref 24, .ref 78] (wd [(24, pst 24 p0), (25, ar 20 p0.2.1), (26, ar 24 p0.2.2.2.1), (27, ar 24 p0.2.2.2.2.1), (78, pst 78 p), (79, ar 20 p.2.1), (80, ar 24 p.2.2.2.1), (81, ar 24 p.2.2.2.2.1)] h) (.inl none, wd [(24, pst 24 (pcr p0 p)), (25, ar 20 (pcr p0 p).2.1), (26, ar 24 (pcr p0 p).2.2.2.1), (27, ar 24 (pcr p0 p).2.2.2.2.1), (78, pst 78 p), (79, ar 20 p.2.1), (80, ar 24 p.2.2.2.1), (81, ar 24 p.2.2.2.2.1)] h) := by
  intro h
  refine E_in (lv := [_, _]) rfl ?_
  refine E_aload pf_53_0 rfl ?_
  refine E_aload pf_53_1 rfl ?_
  refine F_getf pf_53_2 rfl rfl rfl ?_
  refine F_putf (l' := [(_, _), (_, _), (_, _), (_, _), (_, _), (_, _), (_, _), (_, _)]) (x := ob _ [_, _, _, _, _, _, _]) pf_53_5 rfl rfl rfl rfl rfl ?_
  refine E_aload pf_53_8 rfl ?_
  refine F_getf pf_53_9 rfl rfl rfl ?_
  refine E_iconst pf_53_12 ?_
  refine E_aload pf_53_13 rfl ?_
  refine F_getf pf_53_14 rfl rfl rfl ?_
  refine E_iconst pf_53_17 ?_
  refine E_aload pf_53_18 rfl ?_
  refine F_getf pf_53_19 rfl rfl rfl ?_
  refine F_alenI pf_53_22 rfl ?_
  refine F_acopy (l' := [(_, _), (_, _), (_, _), (_, _), (_, _), (_, _), (_, _), (_, _)]) pf_53_23 rfl rfl (by omega) rfl rfl ?_
  exact E_vret pf_53_26 rfl
theorem c52_24_78 : ∀ h, Ca 52 [.ref 24, .ref 78] (wd [(24, pst 24 p0), (25, ar 20 p0.2.1), (26, ar 24 p0.2.2.2.1), (27, ar 24 p0.2.2.2.2.1), (78, pst 78 p), (79, ar 20 p.2.1), (80, ar 24 p.2.2.2.1), (81, ar 24 p.2.2.2.2.1)] h) (.inl none, wd [(24, pst 24 (pcp p0 p)), (25, ar 20 (pcp p0 p).2.1), (26, ar 24 (pcp p0 p).2.2.2.1), (27, ar 24 (pcp p0 p).2.2.2.2.1), (78, pst 78 p), (79, ar 20 p.2.1), (80, ar 24 p.2.2.2.1), (81, ar 24 p.2.2.2.2.1)] h) := by
  intro h
  refine E_in (lv := [_, _]) rfl ?_
  refine E_aload pf_52_0 rfl ?_
  refine E_aload pf_52_1 rfl ?_
  refine F_v2u (l' := [(_, _), (_, _), (_, _), (_, _), (_, _), (_, _), (_, _), (_, _)]) pf_52_2 (c53_24_78) (And.intro rfl (And.intro rfl (And.intro rfl (And.intro rfl (And.intro rfl (And.intro rfl (And.intro rfl (And.intro rfl (trivial))))))))) rfl rfl rfl rfl ?_
  refine E_aload pf_52_5 rfl ?_
  refine E_aload pf_52_6 rfl ?_
  refine F_getf pf_52_7 rfl rfl rfl ?_
  refine F_putf (l' := [(_, _), (_, _), (_, _), (_, _), (_, _), (_, _), (_, _), (_, _)]) (x := ob _ [_, _, _, _, _, _, _]) pf_52_10 rfl rfl rfl rfl rfl ?_
  refine E_aload pf_52_13 rfl ?_
  refine F_getf pf_52_14 rfl rfl rfl ?_
  refine E_iconst pf_52_17 ?_
  refine E_aload pf_52_18 rfl ?_
  refine F_getf pf_52_19 rfl rfl rfl ?_
  refine E_iconst pf_52_22 ?_
  refine E_iconst pf_52_23 ?_
  refine F_acopy (l' := [(_, _), (_, _), (_, _), (_, _), (_, _), (_, _), (_, _), (_, _)]) pf_52_25 rfl rfl (by omega) rfl rfl ?_
  refine E_aload pf_52_28 rfl ?_
  refine F_getf pf_52_29 rfl rfl rfl ?_
  refine E_iconst pf_52_32 ?_
  refine E_aload pf_52_33 rfl ?_
  refine F_getf pf_52_34 rfl rfl rfl ?_
  refine E_iconst pf_52_37 ?_
  refine E_iconst pf_52_38 ?_
  refine F_acopy (l' := [(_, _), (_, _), (_, _), (_, _), (_, _), (_, _), (_, _), (_, _)]) pf_52_40 rfl rfl (by omega) rfl rfl ?_
  refine E_aload pf_52_43 rfl ?_
  refine E_aload pf_52_44 rfl ?_
  refine F_getf pf_52_45 rfl rfl rfl ?_
  refine F_putf (l' := [(_, _), (_, _), (_, _), (_, _), (_, _), (_, _), (_, _), (_, _)]) (x := ob _ [_, _, _, _, _, _, _]) pf_52_48 rfl rfl rfl rfl rfl ?_
  refine E_aload pf_52_51 rfl ?_
  refine E_aload pf_52_52 rfl ?_
  refine F_getf pf_52_53 rfl rfl rfl ?_
  refine F_putf (l' := [(_, _), (_, _), (_, _), (_, _), (_, _), (_, _), (_, _), (_, _)]) (x := ob _ [_, _, _, _, _, _, _]) pf_52_56 rfl rfl rfl rfl rfl ?_
  exact E_vret pf_52_59 rfl
theorem c53_24_82 : ∀ h, Ca 53 [.ref 24, .ref 82] (wd [(24, pst 24 p0), (25, ar 20 p0.2.1), (26, ar 24 p0.2.2.2.1), (27, ar 24 p0.2.2.2.2.1), (82, pst 82 p), (83, ar 20 p.2.1), (84, ar 24 p.2.2.2.1), (85, ar 24 p.2.2.2.2.1)] h) (.inl none, wd [(24, pst 24 (pcr p0 p)), (25, ar 20 (pcr p0 p).2.1), (26, ar 24 (pcr p0 p).2.2.2.1), (27, ar 24 (pcr p0 p).2.2.2.2.1), (82, pst 82 p), (83, ar 20 p.2.1), (84, ar 24 p.2.2.2.1), (85, ar 24 p.2.2.2.2.1)] h) := by
  intro h
  refine E_in (lv := [_, _]) rfl ?_
  refine E_aload pf_53_0 rfl ?_
  refine E_aload pf_53_1 rfl ?_
  refine F_getf pf_53_2 rfl rfl rfl ?_
  refine F_putf (l' := [(_, _), (_, _), (_, _), (_, _), (_, _), (_, _), (_, _), (_, _)]) (x := ob _ [_, _, _, _, _, _, _]) pf_53_5 rfl rfl rfl rfl rfl ?_
  refine E_aload pf_53_8 rfl ?_
  refine F_getf pf_53_9 rfl rfl rfl ?_
  refine E_iconst pf_53_12 ?_
  refine E_aload pf_53_13 rfl ?_
  refine F_getf pf_53_14 rfl rfl rfl ?_
  refine E_iconst pf_53_17 ?_
  refine E_aload pf_53_18 rfl ?_
  refine F_getf pf_53_19 rfl rfl rfl ?_
  refine F_alenI pf_53_22 rfl ?_
  refine F_acopy (l' := [(_, _), (_, _), (_, _), (_, _), (_, _), (_, _), (_, _), (_, _)]) pf_53_23 rfl rfl (by omega) rfl rfl ?_
  exact E_vret pf_53_26 rfl
theorem c52_24_82 : ∀ h, Ca 52 [.ref 24, .ref 82] (wd [(24, pst 24 p0), (25, ar 20 p0.2.1), (26, ar 24 p0.2.2.2.1), (27, ar 24 p0.2.2.2.2.1), (82, pst 82 p), (83, ar 20 p.2.1), (84, ar 24 p.2.2.2.1), (85, ar 24 p.2.2.2.2.1)] h) (.inl none, wd [(24, pst 24 (pcp p0 p)), (25, ar 20 (pcp p0 p).2.1), (26, ar 24 (pcp p0 p).2.2.2.1), (27, ar 24 (pcp p0 p).2.2.2.2.1), (82, pst 82 p), (83, ar 20 p.2.1), (84, ar 24 p.2.2.2.1), (85, ar 24 p.2.2.2.2.1)] h) := by
  intro h
  refine E_in (lv := [_, _]) rfl ?_
  refine E_aload pf_52_0 rfl ?_
  refine E_aload pf_52_1 rfl ?_
  refine F_v2u (l' := [(_, _), (_, _), (_, _), (_, _), (_, _), (_, _), (_, _), (_, _)]) pf_52_2 (c53_24_82) (And.intro rfl (And.intro rfl (And.intro rfl (And.intro rfl (And.intro rfl (And.intro rfl (And.intro rfl (And.intro rfl (trivial))))))))) rfl rfl rfl rfl ?_
  refine E_aload pf_52_5 rfl ?_
  refine E_aload pf_52_6 rfl ?_
  refine F_getf pf_52_7 rfl rfl rfl ?_
  refine F_putf (l' := [(_, _), (_, _), (_, _), (_, _), (_, _), (_, _), (_, _), (_, _)]) (x := ob _ [_, _, _, _, _, _, _]) pf_52_10 rfl rfl rfl rfl rfl ?_
  refine E_aload pf_52_13 rfl ?_
  refine F_getf pf_52_14 rfl rfl rfl ?_
  refine E_iconst pf_52_17 ?_
  refine E_aload pf_52_18 rfl ?_
  refine F_getf pf_52_19 rfl rfl rfl ?_
  refine E_iconst pf_52_22 ?_
  refine E_iconst pf_52_23 ?_
  refine F_acopy (l' := [(_, _), (_, _), (_, _), (_, _), (_, _), (_, _), (_, _), (_, _)]) pf_52_25 rfl rfl (by omega) rfl rfl ?_
  refine E_aload pf_52_28 rfl ?_
  refine F_getf pf_52_29 rfl rfl rfl ?_
  refine E_iconst pf_52_32 ?_
  refine E_aload pf_52_33 rfl ?_
  refine F_getf pf_52_34 rfl rfl rfl ?_
  refine E_iconst pf_52_37 ?_
  refine E_iconst pf_52_38 ?_
  refine F_acopy (l' := [(_, _), (_, _), (_, _), (_, _), (_, _), (_, _), (_, _), (_, _)]) pf_52_40 rfl rfl (by omega) rfl rfl ?_
  refine E_aload pf_52_43 rfl ?_
  refine E_aload pf_52_44 rfl ?_
  refine F_getf pf_52_45 rfl rfl rfl ?_
  refine F_putf (l' := [(_, _), (_, _), (_, _), (_, _), (_, _), (_, _), (_, _), (_, _)]) (x := ob _ [_, _, _, _, _, _, _]) pf_52_48 rfl rfl rfl rfl rfl ?_
  refine E_aload pf_52_51 rfl ?_
  refine E_aload pf_52_52 rfl ?_
  refine F_getf pf_52_53 rfl rfl rfl ?_
  refine F_putf (l' := [(_, _), (_, _), (_, _), (_, _), (_, _), (_, _), (_, _), (_, _)]) (x := ob _ [_, _, _, _, _, _, _]) pf_52_56 rfl rfl rfl rfl rfl ?_
  exact E_vret pf_52_59 rfl
theorem c53_24_86 : ∀ h, Ca 53 [.ref 24, .ref 86] (wd [(24, pst 24 p0), (25, ar 20 p0.2.1), (26, ar 24 p0.2.2.2.1), (27, ar 24 p0.2.2.2.2.1), (86, pst 86 p), (87, ar 20 p.2.1), (88, ar 24 p.2.2.2.1), (89, ar 24 p.2.2.2.2.1)] h) (.inl none, wd [(24, pst 24 (pcr p0 p)), (25, ar 20 (pcr p0 p).2.1), (26, ar 24 (pcr p0 p).2.2.2.1), (27, ar 24 (pcr p0 p).2.2.2.2.1), (86, pst 86 p), (87, ar 20 p.2.1), (88, ar 24 p.2.2.2.1), (89, ar 24 p.2.2.2.2.1)] h) := by
  intro h
  refine E_in (lv := [_, _]) rfl ?_
  refine E_aload pf_53_0 rfl ?_
  refine E_aload pf_53_1 rfl ?_
  refine F_getf pf_53_2 rfl rfl rfl ?_
  refine F_putf (l' := [(_, _), (_, _), (_, _), (_, _), (_, _), (_, _), (_, _), (_, _)]) (x := ob _ [_, _, _, _, _, _, _]) pf_53_5 rfl rfl rfl rfl rfl ?_
  refine E_aload pf_53_8 rfl ?_
  refine F_getf pf_53_9 rfl rfl rfl ?_
  refine E_iconst pf_53_12 ?_
  refine E_aload pf_53_13 rfl ?_
  refine F_getf pf_53_14 rfl rfl rfl ?_
  refine E_iconst pf_53_17 ?_
  refine E_aload pf_53_18 rfl ?_
  refine F_getf pf_53_19 rfl rfl rfl ?_
  refine F_alenI pf_53_22 rfl ?_
  refine F_acopy (l' := [(_, _), (_, _), (_, _), (_, _), (_, _), (_, _), (_, _), (_, _)]) pf_53_23 rfl rfl (by omega) rfl rfl ?_
  exact E_vret pf_53_26 rfl
theorem c52_24_86 : ∀ h, Ca 52 [.ref 24, .ref 86] (wd [(24, pst 24 p0), (25, ar 20 p0.2.1), (26, ar 24 p0.2.2.2.1), (27, ar 24 p0.2.2.2.2.1), (86, pst 86 p), (87, ar 20 p.2.1), (88, ar 24 p.2.2.2.1), (89, ar 24 p.2.2.2.2.1)] h) (.inl none, wd [(24, pst 24 (pcp p0 p)), (25, ar 20 (pcp p0 p).2.1), (26, ar 24 (pcp p0 p).2.2.2.1), (27, ar 24 (pcp p0 p).2.2.2.2.1), (86, pst 86 p), (87, ar 20 p.2.1), (88, ar 24 p.2.2.2.1), (89, ar 24 p.2.2.2.2.1)] h) := by
  intro h
  refine E_in (lv := [_, _]) rfl ?_
  refine E_aload pf_52_0 rfl ?_
  refine E_aload pf_52_1 rfl ?_
  refine F_v2u (l' := [(_, _), (_, _), (_, _), (_, _), (_, _), (_, _), (_, _), (_, _)]) pf_52_2 (c53_24_86) (And.intro rfl (And.intro rfl (And.intro rfl (And.intro rfl (And.intro rfl (And.intro rfl (And.intro rfl (And.intro rfl (trivial))))))))) rfl rfl rfl rfl ?_
  refine E_aload pf_52_5 rfl ?_
  refine E_aload pf_52_6 rfl ?_
  refine F_getf pf_52_7 rfl rfl rfl ?_
  refine F_putf (l' := [(_, _), (_, _), (_, _), (_, _), (_, _), (_, _), (_, _), (_, _)]) (x := ob _ [_, _, _, _, _, _, _]) pf_52_10 rfl rfl rfl rfl rfl ?_
  refine E_aload pf_52_13 rfl ?_
  refine F_getf pf_52_14 rfl rfl rfl ?_
  refine E_iconst pf_52_17 ?_
  refine E_aload pf_52_18 rfl ?_
  refine F_getf pf_52_19 rfl rfl rfl ?_
  refine E_iconst pf_52_22 ?_
  refine E_iconst pf_52_23 ?_
  refine F_acopy (l' := [(_, _), (_, _), (_, _), (_, _), (_, _), (_, _), (_, _), (_, _)]) pf_52_25 rfl rfl (by omega) rfl rfl ?_
  refine E_aload pf_52_28 rfl ?_
  refine F_getf pf_52_29 rfl rfl rfl ?_
  refine E_iconst pf_52_32 ?_
  refine E_aload pf_52_33 rfl ?_
  refine F_getf pf_52_34 rfl rfl rfl ?_
  refine E_iconst pf_52_37 ?_
  refine E_iconst pf_52_38 ?_
  refine F_acopy (l' := [(_, _), (_, _), (_, _), (_, _), (_, _), (_, _), (_, _), (_, _)]) pf_52_40 rfl rfl (by omega) rfl rfl ?_
  refine E_aload pf_52_43 rfl ?_
  refine E_aload pf_52_44 rfl ?_
  refine F_getf pf_52_45 rfl rfl rfl ?_
  refine F_putf (l' := [(_, _), (_, _), (_, _), (_, _), (_, _), (_, _), (_, _), (_, _)]) (x := ob _ [_, _, _, _, _, _, _]) pf_52_48 rfl rfl rfl rfl rfl ?_
  refine E_aload pf_52_51 rfl ?_
  refine E_aload pf_52_52 rfl ?_
  refine F_getf pf_52_53 rfl rfl rfl ?_
  refine F_putf (l' := [(_, _), (_, _), (_, _), (_, _), (_, _), (_, _), (_, _), (_, _)]) (x := ob _ [_, _, _, _, _, _, _]) pf_52_56 rfl rfl rfl rfl rfl ?_
  exact E_vret pf_52_59 rfl
theorem c53_28_24 : ∀ h, Ca 53 [.ref 28, .ref 24] (wd [(28, pst 28 p0), (29, ar 20 p0.2.1), (30, ar 24 p0.2.2.2.1), (31, ar 24 p0.2.2.2.2.1), (24, pst 24 p), (25, ar 20 p.2.1), (26, ar 24 p.2.2.2.1), (27, ar 24 p.2.2.2.2.1)] h) (.inl none, wd [(28, pst 28 (pcr p0 p)), (29, ar 20 (pcr p0 p).2.1), (30, ar 24 (pcr p0 p).2.2.2.1), (31, ar 24 (pcr p0 p).2.2.2.2.1), (24, pst 24 p), (25, ar 20 p.2.1), (26, ar 24 p.2.2.2.1), (27, ar 24 p.2.2.2.2.1)] h) := by
  intro h
  refine E_in (lv := [_, _]) rfl ?_
  refine E_aload pf_53_0 rfl ?_
  refine E_aload pf_53_1 rfl ?_
  refine F_getf pf_53_2 rfl rfl rfl ?_
  refine F_putf (l' := [(_, _), (_, _), (_, _), (_, _), (_, _), (_, _), (_, _), (_, _)]) (x := ob _ [_, _, _, _, _, _, _]) pf_53_5 rfl rfl rfl rfl rfl ?_
  refine E_aload pf_53_8 rfl ?_
  refine F_getf pf_53_9 rfl rfl rfl ?_
  refine E_iconst pf_53_12 ?_
  refine E_aload pf_53_13 rfl ?_
  refine F_getf pf_53_14 rfl rfl rfl ?_
  refine E_iconst pf_53_17 ?_
  refine E_aload pf_53_18 rfl ?_
  refine F_getf pf_53_19 rfl rfl rfl ?_
  refine F_alenI pf_53_22 rfl ?_
  refine F_acopy (l' := [(_, _), (_, _), (_, _), (_, _), (_, _), (_, _), (_, _), (_, _)]) pf_53_23 rfl rfl (by omega) rfl rfl ?_
  exact E_vret pf_53_26 rfl
theorem c52_28_24 : ∀ h, Ca 52 [.ref 28, .ref 24] (wd [(28, pst 28 p0), (29, ar 20 p0.2.1), (30, ar 24 p0.2.2.2.1), (31, ar 24 p0.2.2.2.2.1), (24, pst 24 p), (25, ar 20 p.2.1), (26, ar 24 p.2.2.2.1), (27, ar 24 p.2.2.2.2.1)] h) (.inl none, wd [(28, pst 28 (pcp p0 p)), (29, ar 20 (pcp p0 p).2.1), (30, ar 24 (pcp p0 p).2.2.2.1), (31, ar 24 (pcp p0 p).2.2.2.2.1), (24, pst 24 p), (25, ar 20 p.2.1), (26, ar 24 p.2.2.2.1), (27, ar 24 p.2.2.2.2.1)] h) := by
  intro h
  refine E_in (lv := [_, _]) rfl ?_
  refine E_aload pf_52_0 rfl ?_
  refine E_aload pf_52_1 rfl ?_
  refine F_v2u (l' := [(_, _), (_, _), (_, _), (_, _), (_, _), (_, _), (_, _), (_, _)]) pf_52_2 (c53_28_24) (And.intro rfl (And.intro rfl (And.intro rfl (And.intro rfl (And.intro rfl (And.intro rfl (And.intro rfl (And.intro rfl (trivial))))))))) rfl rfl rfl rfl ?_
  refine E_aload pf_52_5 rfl ?_
  refine E_aload pf_52_6 rfl ?_
  refine F_getf pf_52_7 rfl rfl rfl ?_
  refine F_putf (l' := [(_, _), (_, _), (_, _), (_, _), (_, _), (_, _), (_, _), (_, _)]) (x := ob _ [_, _, _, _, _, _, _]) pf_52_10 rfl rfl rfl rfl rfl ?_
  refine E_aload pf_52_13 rfl ?_
  refine F_getf pf_52_14 rfl rfl rfl ?_
  refine E_iconst pf_52_17 ?_
  refine E_aload pf_52_18 rfl ?_
  refine F_getf pf_52_19 rfl rfl rfl ?_
  refine E_iconst pf_52_22 ?_
  refine E_iconst pf_52_23 ?_
  refine F_acopy (l' := [(_, _), (_, _), (_, _), (_, _), (_, _), (_, _), (_, _), (_, _)]) pf_52_25 rfl rfl (by omega) rfl rfl ?_
  refine E_aload pf_52_28 rfl ?_
  refine F_getf pf_52_29 rfl rfl rfl ?_
  refine E_iconst pf_52_32 ?_
  refine E_aload pf_52_33 rfl ?_
  refine F_getf pf_52_34 rfl rfl rfl ?_
  refine E_iconst pf_52_37 ?_
  refine E_iconst pf_52_38 ?_
  refine F_acopy (l' := [(_, _), (_, _), (_, _), (_, _), (_, _), (_, _), (_, _), (_, _)]) pf_52_40 rfl rfl (by omega) rfl rfl ?_
  refine E_aload pf_52_43 rfl ?_
  refine E_aload pf_52_44 rfl ?_
  refine F_getf pf_52_45 rfl rfl rfl ?_
  refine F_putf (l' := [(_, _), (_, _), (_, _), (_, _), (_, _), (_, _), (_, _), (_, _)]) (x := ob _ [_, _, _, _, _, _, _]) pf_52_48 rfl rfl rfl rfl rfl ?_
  refine E_aload pf_52_51 rfl ?_
  refine E_aload pf_52_52 rfl ?_
  refine F_getf pf_52_53 rfl rfl rfl ?_
  refine F_putf (l' := [(_, _), (_, _), (_, _), (_, _), (_, _), (_, _), (_, _), (_, _)]) (x := ob _ [_, _, _, _, _, _, _]) pf_52_56 rfl rfl rfl rfl rfl ?_
  exact E_vret pf_52_59 rfl
theorem c53_91_24 : ∀ h, Ca 53 [.ref 91, .ref 24] (wd [(91, pst 91 p0), (92, ar 20 p0.2.1), (93, ar 24 p0.2.2.2.1), (94, ar 24 p0.2.2.2.2.1), (24, pst 24 p), (25, ar 20 p.2.1), (26, ar 24 p.2.2.2.1), (27, ar 24 p.2.2.2.2.1)] h) (.inl none, wd [(91, pst 91 (pcr p0 p)), (92, ar 20 (pcr p0 p).2.1), (93, ar 24 (pcr p0 p).2.2.2.1), (94, ar 24 (pcr p0 p).2.2.2.2.1), (24, pst 24 p), (25, ar 20 p.2.1), (26, ar 24 p.2.2.2.1), (27, ar 24 p.2.2.2.2.1)] h) := by
  intro h
  refine E_in (lv := [_, _]) rfl ?_
  refine E_aload pf_53_0 rfl ?_
  refine E_aload pf_53_1 rfl ?_
  refine F_getf pf_53_2 rfl rfl rfl ?_
  refine F_putf (l' := [(_, _), (_, _), (_, _), (_, _), (_, _), (_, _), (_, _), (_, _)]) (x := ob _ [_, _, _, _, _, _, _]) pf_53_5 rfl rfl rfl rfl rfl ?_
  refine E_aload pf_53_8 rfl ?_
  refine F_getf pf_53_9 rfl rfl rfl ?_
  refine E_iconst pf_53_12 ?_
  refine E_aload pf_53_13 rfl ?_
  refine F_getf pf_53_14 rfl rfl rfl ?_
  refine E_iconst pf_53_17 ?_
  refine E_aload pf_53_18 rfl ?_
  refine F_getf pf_53_19 rfl rfl rfl ?_
  refine F_alenI pf_53_22 rfl ?_
  refine F_acopy (l' := [(_, _), (_, _), (_, _), (_, _), (_, _), (_, _), (_, _), (_, _)]) pf_53_23 rfl rfl (by omega) rfl rfl ?_
  exact E_vret pf_53_26 rfl
theorem c52_91_24 : ∀ h, Ca 52 [.ref 91, .ref 24] (wd [(91, pst 91 p0), (92, ar 20 p0.2.1), (93, ar 24 p0.2.2.2.1), (94, ar 24 p0.2.2.2.2.1), (24, pst 24 p), (25, ar 20 p.2.1), (26, ar 24 p.2.2.2.1), (27, ar 24 p.2.2.2.2.1)] h) (.inl none, wd [(91, pst 91 (pcp p0 p)), (92, ar 20 (pcp p0 p).2.1), (93, ar 24 (pcp p0 p).2.2.2.1), (94, ar 24 (pcp p0 p).2.2.2.2.1), (24, pst 24 p), (25, ar 20 p.2.1), (26, ar 24 p.2.2.2.1), (27, ar 24 p.2.2.2.2.1)] h) := by
  intro h
  refine E_in (lv := [_, _]) rfl ?_
  refine E_aload pf_52_0 rfl ?_
  refine E_aload pf_52_1 rfl ?_
  refine F_v2u (l' := [(_, _), (_, _), (_, _), (_, _), (_, _), (_, _), (_, _), (_, _)]) pf_52_2 (c53_91_24) (And.intro rfl (And.intro rfl (And.intro rfl (And.intro rfl (And.intro rfl (And.intro rfl (And.intro rfl (And.intro rfl (trivial))))))))) rfl rfl rfl rfl ?_
  refine E_aload pf_52_5 rfl ?_
  refine E_aload pf_52_6 rfl ?_
  refine F_getf pf_52_7 rfl rfl rfl ?_
  refine F_putf (l' := [(_, _), (_, _), (_, _), (_, _), (_, _), (_, _), (_, _), (_, _)]) (x := ob _ [_, _, _, _, _, _, _]) pf_52_10 rfl rfl rfl rfl rfl ?_
  refine E_aload pf_52_13 rfl ?_
  refine F_getf pf_52_14 rfl rfl rfl ?_
  refine E_iconst pf_52_17 ?_
  refine E_aload pf_52_18 rfl ?_
  refine F_getf pf_52_19 rfl rfl rfl ?_
  refine E_iconst pf_52_22 ?_
  refine E_iconst pf_52_23 ?_
  refine F_acopy (l' := [(_, _), (_, _), (_, _), (_, _), (_, _), (_, _), (_, _), (_, _)]) pf_52_25 rfl rfl (by omega) rfl rfl ?_
  refine E_aload pf_52_28 rfl ?_
  refine F_getf pf_52_29 rfl rfl rfl ?_
  refine E_iconst pf_52_32 ?_
  refine E_aload pf_52_33 rfl ?_
  refine F_getf pf_52_34 rfl rfl rfl ?_
  refine E_iconst pf_52_37 ?_
  refine E_iconst pf_52_38 ?_
  refine F_acopy (l' := [(_, _), (_, _), (_, _), (_, _), (_, _), (_, _), (_, _), (_, _)]) pf_52_40 rfl rfl (by omega) rfl rfl ?_
  refine E_aload pf_52_43 rfl ?_
  refine E_aload pf_52_44 rfl ?_
  refine F_getf pf_52_45 rfl rfl rfl ?_
  refine F_putf (l' := [(_, _), (_, _), (_, _), (_, _), (_, _), (_, _), (_, _), (_, _)]) (x := ob _ [_, _, _, _, _, _, _]) pf_52_48 rfl rfl rfl rfl rfl ?_
  refine E_aload pf_52_51 rfl ?_
  refine E_aload pf_52_52 rfl ?_
  refine F_getf pf_52_53 rfl rfl rfl ?_
  refine F_putf (l' := [(_, _), (_, _), (_, _), (_, _), (_, _), (_, _), (_, _), (_, _)]) (x := ob _ [_, _, _, _, _, _, _]) pf_52_56 rfl rfl rfl rfl rfl ?_
  exact E_vret pf_52_59 rfl
theorem c53_95_24 : ∀ h, Ca 53 [.ref 95, .ref 24] (wd [(95, pst 95 p0), (96, ar 20 p0.2.1), (97, ar 24 p0.2.2.2.1), (98, ar 24 p0.2.2.2.2.1), (24, pst 24 p), (25, ar 20 p.2.1), (26, ar 24 p.2.2.2.1), (27, ar 24 p.2.2.2.2.1)] h) (.inl none, wd [(95, pst 95 (pcr p0 p)), (96, ar 20 (pcr p0 p).2.1), (97, ar 24 (pcr p0 p).2.2.2.1), (98, ar 24 (pcr p0 p).2.2.2.2.1), (24, pst 24 p), (25, ar 20 p.2.1), (26, ar 24 p.2.2.2.1), (27, ar 24 p.2.2.2.2.1)] h) := by
  intro h
  refine E_in (lv := [_, _]) rfl ?_
  refine E_aload pf_53_0 rfl ?_
  refine E_aload pf_53_1 rfl ?_
  refine F_getf pf_53_2 rfl rfl rfl ?_
  refine F_putf (l' := [(_, _), (_, _), (_, _), (_, _), (_, _), (_, _), (_, _), (_, _)]) (x := ob _ [_, _, _, _, _, _, _]) pf_53_5 rfl rfl rfl rfl rfl ?_
  refine E_aload pf_53_8 rfl ?_
  refine F_getf pf_53_9 rfl rfl rfl ?_
  refine E_iconst pf_53_12 ?_
  refine E_aload pf_53_13 rfl ?_
  refine F_getf pf_53_14 rfl rfl rfl ?_
  refine E_iconst pf_53_17 ?_
  refine E_aload pf_53_18 rfl ?_
  refine F_getf pf_53_19 rfl rfl rfl ?_
  refine F_alenI pf_53_22 rfl ?_
  refine F_acopy (l' := [(_, _), (_, _), (_, _), (_, _), (_, _), (_, _), (_, _), (_, _)]) pf_53_23 rfl rfl (by omega) rfl rfl ?_
  exact E_vret pf_53_26 rfl
theorem c52_95_24 : ∀ h, Ca 52 [.ref 95, .ref 24] (wd [(95, pst 95 p0), (96, ar 20 p0.2.1), (97, ar 24 p0.2.2.2.1), (98, ar 24 p0.2.2.2.2.1), (24, pst 24 p), (25, ar 20 p.2.1), (26, ar 24 p.2.2.2.1), (27, ar 24 p.2.2.2.2.1)] h) (.inl none, wd [(95, pst 95 (pcp p0 p)), (96, ar 20 (pcp p0 p).2.1), (97, ar 24 (pcp p0 p).2.2.2.1), (98, ar 24 (pcp p0 p).2.2.2.2.1), (24, pst 24 p), (25, ar 20 p.2.1), (26, ar 24 p.2.2.2.1), (27, ar 24 p.2.2.2.2.1)] h) := by
  intro h
  refine E_in (lv := [_, _]) rfl ?_
  refine E_aload pf_52_0 rfl ?_
  refine E_aload pf_52_1 rfl ?_
  refine F_v2u (l' := [(_, _), (_, _), (_, _), (_, _), (_, _), (_, _), (_, _), (_, _)]) pf_52_2 (c53_95_24) (And.intro rfl (And.intro rfl (And.intro rfl (And.intro rfl (And.intro rfl (And.intro rfl (And.intro rfl (And.intro rfl (trivial))))))))) rfl rfl rfl rfl ?_
  refine E_aload pf_52_5 rfl ?_
  refine E_aload pf_52_6 rfl ?_
  refine F_getf pf_52_7 rfl rfl rfl ?_
  refine F_putf (l' := [(_, _), (_, _), (_, _), (_, _), (_, _), (_, _), (_, _), (_, _)]) (x := ob _ [_, _, _, _, _, _, _]) pf_52_10 rfl rfl rfl rfl rfl ?_
  refine E_aload pf_52_13 rfl ?_
  refine F_getf pf_52_14 rfl rfl rfl ?_
  refine E_iconst pf_52_17 ?_
  refine E_aload pf_52_18 rfl ?_
  refine F_getf pf_52_19 rfl rfl rfl ?_
  refine E_iconst pf_52_22 ?_
  refine E_iconst pf_52_23 ?_
  refine F_acopy (l' := [(_, _), (_, _), (_, _), (_, _), (_, _), (_, _), (_, _), (_, _)]) pf_52_25 rfl rfl (by omega) rfl rfl ?_
  refine E_aload pf_52_28 rfl ?_
  refine F_getf pf_52_29 rfl rfl rfl ?_
  refine E_iconst pf_52_32 ?_
  refine E_aload pf_52_33 rfl ?_
  refine F_getf pf_52_34 rfl rfl rfl ?_
  refine E_iconst pf_52_37 ?_
  refine E_iconst pf_52_38 ?_
  refine F_acopy (l' := [(_, _), (_, _), (_, _), (_, _), (_, _), (_, _), (_, _), (_, _)]) pf_52_40 rfl rfl (by omega) rfl rfl ?_
  refine E_aload pf_52_43 rfl ?_
  refine E_aload pf_52_44 rfl ?_
  refine F_getf pf_52_45 rfl rfl rfl ?_
  refine F_putf (l' := [(_, _), (_, _), (_, _), (_, _), (_, _), (_, _), (_, _), (_, _)]) (x := ob _ [_, _, _, _, _, _, _]) pf_52_48 rfl rfl rfl rfl rfl ?_
  refine E_aload pf_52_51 rfl ?_
  refine E_aload pf_52_52 rfl ?_
  refine F_getf pf_52_53 rfl rfl rfl ?_
  refine F_putf (l' := [(_, _), (_, _), (_, _), (_, _), (_, _), (_, _), (_, _), (_, _)]) (x := ob _ [_, _, _, _, _, _, _]) pf_52_56 rfl rfl rfl rfl rfl ?_
  exact E_vret pf_52_59 rfl
theorem c53_24_91 : ∀ h, Ca 53 [.ref 24, .ref 91] (wd [(24, pst 24 p0), (25, ar 20 p0.2.1), (26, ar 24 p0.2.2.2.1), (27, ar 24 p0.2.2.2.2.1), (91, pst 91 p), (92, ar 20 p.2.1), (93, ar 24 p.2.2.2.1), (94, ar 24 p.2.2.2.2.1)] h) (.inl none, wd [(24, pst 24 (pcr p0 p)), (25, ar 20 (pcr p0 p).2.1), (26, ar 24 (pcr p0 p).2.2.2.1), (27, ar 24 (pcr p0 p).2.2.2.2.1), (91, pst 91 p), (92, ar 20 p.2.1), (93, ar 24 p.2.2.2.1), (94, ar 24 p.2.2.2.2.1)] h) := by
  intro h
  refine E_in (lv := [_, _]) rfl ?_
  refine E_aload pf_53_0 rfl ?_
  refine E_aload pf_53_1 rfl ?_
  refine F_getf pf_53_2 rfl rfl rfl ?_
  refine F_putf (l' := [(_, _), (_, _), (_, _), (_, _), (_, _), (_, _), (_, _), (_, _)]) (x := ob _ [_, _, _, _, _, _, _]) pf_53_5 rfl rfl rfl rfl rfl ?_
  refine E_aload pf_53_8 rfl ?_
  refine F_getf pf_53_9 rfl rfl rfl ?_
  refine E_iconst pf_53_12 ?_
  refine E_aload pf_53_13 rfl ?_
  refine F_getf pf_53_14 rfl rfl rfl ?_
  refine E_iconst pf_53_17 ?_
  refine E_aload pf_53_18 rfl ?_
  refine F_getf pf_53_19 rfl rfl rfl ?_
  refine F_alenI pf_53_22 rfl ?_
  refine F_acopy (l' := [(_, _), (_, _), (_, _), (_, _), (_, _), (_, _), (_, _), (_, _)]) pf_53_23 rfl rfl (by omega) rfl rfl ?_
  exact E_vret pf_53_26 rfl
theorem c52_24_91 : ∀ h, Ca 52 [.ref 24, .ref 91] (wd [(24, pst 24 p0), (25, ar 20 p0.2.1), (26, ar 24 p0.2.2.2.1), (27, ar 24 p0.2.2.2.2.1), (91, pst 91 p), (92, ar 20 p.2.1), (93, ar 24 p.2.2.2.1), (94, ar 24 p.2.2.2.2.1)] h) (.inl none, wd [(24, pst 24 (pcp p0 p)), (25, ar 20 (pcp p0 p).2.1), (26, ar 24 (pcp p0 p).2.2.2.1), (27, ar 24 (pcp p0 p).2.2.2.2.1), (91, pst 91 p), (92, ar 20 p.2.1), (93, ar 24 p.2.2.2.1), (94, ar 24 p.2.2.2.2.1)] h) := by
  intro h
  refine E_in (lv := [_, _]) rfl ?_
  refine E_aload pf_52_0 rfl ?_
  refine E_aload pf_52_1 rfl ?_
  refine F_v2u (l' := [(_, _), (_, _), (_, _), (_, _), (_, _), (_, _), (_, _), (_, _)]) pf_52_2 (c53_24_91) (And.intro rfl (And.intro rfl (And.intro rfl (And.intro rfl (And.intro rfl (And.intro rfl (And.intro rfl (And.intro rfl (trivial))))))))) rfl rfl rfl rfl ?_
  refine E_aload pf_52_5 rfl ?_
  refine E_aload pf_52_6 rfl ?_
  refine F_getf pf_52_7 rfl rfl rfl ?_
  refine F_putf (l' := [(_, _), (_, _), (_, _), (_, _), (_, _), (_, _), (_, _), (_, _)]) (x := ob _ [_, _, _, _, _, _, _]) pf_52_10 rfl rfl rfl rfl rfl ?_
  refine E_aload pf_52_13 rfl ?_
  refine F_getf pf_52_14 rfl rfl rfl ?_
  refine E_iconst pf_52_17 ?_
  refine E_aload pf_52_18 rfl ?_
  refine F_getf pf_52_19 rfl rfl rfl ?_
  refine E_iconst pf_52_22 ?_
  refine E_iconst pf_52_23 ?_
  refine F_acopy (l' := [(_, _), (_, _), (_, _), (_, _), (_, _), (_, _), (_, _), (_, _)]) pf_52_25 rfl rfl (by omega) rfl rfl ?_
  refine E_aload pf_52_28 rfl ?_
  refine F_getf pf_52_29 rfl rfl rfl ?_
  refine E_iconst pf_52_32 ?_
  refine E_aload pf_52_33 rfl ?_
  refine F_getf pf_52_34 rfl rfl rfl ?_
  refine E_iconst pf_52_37 ?_
  refine E_iconst pf_52_38 ?_
  refine F_acopy (l' := [(_, _), (_, _), (_, _), (_, _), (_, _), (_, _), (_, _), (_, _)]) pf_52_40 rfl rfl (by omega) rfl rfl ?_
  refine E_aload pf_52_43 rfl ?_
  refine E_aload pf_52_44 rfl ?_
  refine F_getf pf_52_45 rfl rfl rfl ?_
  refine F_putf (l' := [(_, _), (_, _), (_, _), (_, _), (_, _), (_, _), (_, _), (_, _)]) (x := ob _ [_, _, _, _, _, _, _]) pf_52_48 rfl rfl rfl rfl rfl ?_
  refine E_aload pf_52_51 rfl ?_
  refine E_aload pf_52_52 rfl ?_
  refine F_getf pf_52_53 rfl rfl rfl ?_
  refine F_putf (l' := [(_, _), (_, _), (_, _), (_, _), (_, _), (_, _), (_, _), (_, _)]) (x := ob _ [_, _, _, _, _, _, _]) pf_52_56 rfl rfl rfl rfl rfl ?_
  exact E_vret pf_52_59 rfl
theorem c53_24_95 : ∀ h, Ca 53 [.ref 24, .ref 95] (wd [(24, pst 24 p0), (25, ar 20 p0.2.1), (26, ar 24 p0.2.2.2.1), (27, ar 24 p0.2.2.2.2.1), (95, pst 95 p), (96, ar 20 p.2.1), (97, ar 24 p.2.2.2.1), (98, ar 24 p.2.2.2.2.1)] h) (.inl none, wd [(24, pst 24 (pcr p0 p)), (25, ar 20 (pcr p0 p).2.1), (26, ar 24 (pcr p0 p).2.2.2.1), (27, ar 24 (pcr p0 p).2.2.2.2.1), (95, pst 95 p), (96, ar 20 p.2.1), (97, ar 24 p.2.2.2.1), (98, ar 24 p.2.2.2.2.1)] h) := by
  intro h
  refine E_in (lv := [_, _]) rfl ?_
  refine E_aload pf_53_0 rfl ?_
  refine E_aload pf_53_1 rfl ?_
  refine F_getf pf_53_2 rfl rfl rfl ?_
  refine F_putf (l' := [(_, _), (_, _), (_, _), (_, _), (_, _), (_, _), (_, _), (_, _)]) (x := ob _ [_, _, _, _, _, _, _]) pf_53_5 rfl rfl rfl rfl rfl ?_
  refine E_aload pf_53_8 rfl ?_
  refine F_getf pf_53_9 rfl rfl rfl ?_
  refine E_iconst pf_53_12 ?_
  refine E_aload pf_53_13 rfl ?_
  refine F_getf pf_53_14 rfl rfl rfl ?_
  refine E_iconst pf_53_17 ?_
  refine E_aload pf_53_18 rfl ?_
  refine F_getf pf_53_19 rfl rfl rfl ?_
  refine F_alenI pf_53_22 rfl ?_
  refine F_acopy (l' := [(_, _), (_, _), (_, _), (_, _), (_, _), (_, _), (_, _), (_, _)]) pf_53_23 rfl rfl (by omega) rfl rfl ?_
  exact E_vret pf_53_26 rfl
theorem c52_24_95 : ∀ h, Ca 52 [.ref 24, .ref 95] (wd [(24, pst 24 p0), (25, ar 20 p0.2.1), (26, ar 24 p0.2.2.2.1), (27, ar 24 p0.2.2.2.2.1), (95, pst 95 p), (96, ar 20 p.2.1), (97, ar 24 p.2.2.2.1), (98, ar 24 p.2.2.2.2.1)] h) (.inl none, wd [(24, pst 24 (pcp p0 p)), (25, ar 20 (pcp p0 p).2.1), (26, ar 24 (pcp p0 p).2.2.2.1), (27, ar 24 (pcp p0 p).2.2.2.2.1), (95, pst 95 p), (96, ar 20 p.2.1), (97, ar 24 p.2.2.2.1), (98, ar 24 p.2.2.2.2.1)] h) := by
  intro h
  refine E_in (lv := [_, _]) rfl ?_
  refine E_aload pf_52_0 rfl ?_
  refine E_aload pf_52_1 rfl ?_
  refine F_v2u (l' := [(_, _), (_, _), (_, _), (_, _), (_, _), (_, _), (_, _), (_, _)]) pf_52_2 (c53_24_95) (And.intro rfl (And.intro rfl (And.intro rfl (And.intro rfl (And.intro rfl (And.intro rfl (And.intro rfl (And.intro rfl (trivial))))))))) rfl rfl rfl rfl ?_
  refine E_aload pf_52_5 rfl ?_
  refine E_aload pf_52_6 rfl ?_
  refine F_getf pf_52_7 rfl rfl rfl ?_
  refine F_putf (l' := [(_, _), (_, _), (_, _), (_, _), (_, _), (_, _), (_, _), (_, _)]) (x := ob _ [_, _, _, _, _, _, _]) pf_52_10 rfl rfl rfl rfl rfl ?_
  refine E_aload pf_52_13 rfl ?_
  refine F_getf pf_52_14 rfl rfl rfl ?_
  refine E_iconst pf_52_17 ?_
  refine E_aload pf_52_18 rfl ?_
  refine F_getf pf_52_19 rfl rfl rfl ?_
  refine E_iconst pf_52_22 ?_
  refine E_iconst pf_52_23 ?_
  refine F_acopy (l' := [(_, _), (_, _), (_, _), (_, _), (_, _), (_, _), (_, _), (_, _)]) pf_52_25 rfl rfl (by omega) rfl rfl ?_
  refine E_aload pf_52_28 rfl ?_
  refine F_getf pf_52_29 rfl rfl rfl ?_
  refine E_iconst pf_52_32 ?_
  refine E_aload pf_52_33 rfl ?_
  refine F_getf pf_52_34 rfl rfl rfl ?_
  refine E_iconst pf_52_37 ?_
  refine E_iconst pf_52_38 ?_
  refine F_acopy (l' := [(_, _), (_, _), (_, _), (_, _), (_, _), (_, _), (_, _), (_, _)]) pf_52_40 rfl rfl (by omega) rfl rfl ?_
  refine E_aload pf_52_43 rfl ?_
  refine E_aload pf_52_44 rfl ?_
  refine F_getf pf_52_45 rfl rfl rfl ?_
  refine F_putf (l' := [(_, _), (_, _), (_, _), (_, _), (_, _), (_, _), (_, _), (_, _)]) (x := ob _ [_, _, _, _, _, _, _]) pf_52_48 rfl rfl rfl rfl rfl ?_
  refine E_aload pf_52_51 rfl ?_
  refine E_aload pf_52_52 rfl ?_
  refine F_getf pf_52_53 rfl rfl rfl ?_
  refine F_putf (l' := [(_, _), (_, _), (_, _), (_, _), (_, _), (_, _), (_, _), (_, _)]) (x := ob _ [_, _, _, _, _, _, _]) pf_52_56 rfl rfl rfl rfl rfl ?_
  exact E_vret pf_52_59 rfl
theorem c53_24_9 : ∀ h, Ca 53 [.ref 24, .ref 9] (wd [(24, pst 24 p0), (25, ar 20 p0.2.1), (26, ar 24 p0.2.2.2.1), (27, ar 24 p0.2.2.2.2.1), (9, pst 9 p), (10, ar 20 p.2.1), (11, ar 24 p.2.2.2.1), (12, ar 24 p.2.2.2.2.1)] h) (.inl none, wd [(24, pst 24 (pcr p0 p)), (25, ar 20 (pcr p0 p).2.1), (26, ar 24 (pcr p0 p).2.2.2.1), (27, ar 24 (pcr p0 p).2.2.2.2.1), (9, pst 9 p), (10, ar 20 p.2.1), (11, ar 24 p.2.2.2.1), (12, ar 24 p.2.2.2.2.1)] h) := by
  intro h
  refine E_in (lv := [_, _]) rfl ?_
  refine E_aload pf_53_0 rfl ?_
  refine E_aload pf_53_1 rfl ?_
  refine F_getf pf_53_2 rfl rfl rfl ?_
  refine F_putf (l' := [(_, _), (_, _), (_, _), (_, _), (_, _), (_, _), (_, _), (_, _)]) (x := ob _ [_, _, _, _, _, _, _]) pf_53_5 rfl rfl rfl rfl rfl ?_
  refine E_aload pf_53_8 rfl ?_
  refine F_getf pf_53_9 rfl rfl rfl ?_
  refine E_iconst pf_53_12 ?_
  refine E_aload pf_53_13 rfl ?_
  refine F_getf pf_53_14 rfl rfl rfl ?_
  refine E_iconst pf_53_17 ?_
  refine E_aload pf_53_18 rfl ?_
  refine F_getf pf_53_19 rfl rfl rfl ?_
  refine F_alenI pf_53_22 rfl ?_
  refine F_acopy (l' := [(_, _), (_, _), (_, _), (_, _), (_, _), (_, _), (_, _), (_, _)]) pf_53_23 rfl rfl (by omega) rfl rfl ?_
  exact E_vret pf_53_26 rfl
theorem c110nt {q g : Int → Int} {sp dp : Int} (hs : 0 ≤ sp ∧ sp + 72 ≤ 72) (hd : 0 ≤ dp ∧ dp + 72 ≤ 72) : ∀ h, Ca 110 [.ref 107, .int (ii sp), .ref 108, .int (ii dp)] (wd [(107, ar 72 q), (108, ar 72 g)] h) (.inl none, wd [(107, ar 72 q), (108, ar 72 (zcpy q g sp dp 72))] h) := by
  intro h
  refine E_in (lv := [_, _, _, _, _]) rfl ?_
  have loop : ∀ (n i : Nat) (g1 : Int → Int), i + n = 72 → g1 = zcpy q g sp dp (i : Int) → Rn 110 3 [.ref 107, .int (ii sp), .ref 108, .int (ii dp), .int (ii (i : Int))] [] (wd [(107, ar 72 q), (108, ar 72 g1)] h) (.inl none, wd [(107, ar 72 q), (108, ar 72 (zcpy q g sp dp 72))] h) := by
    intro n
    induction n with
    | zero =>
      intro i g1 hi hg
      obtain rfl : i = 72 := by omega
      rw [hg]
      refine E_iload pf_110_3 rfl ?_
      refine E_iconst pf_110_5 ?_
      refine E_icmp_ge_t pf_110_7 (by omega) ?_
      exact E_vret pf_110_28 rfl
    | succ n ih =>
      intro i g1 hi hg
      have ih := ih (i + 1) (zu g1 (dp + i) (q (sp + i))) (by omega) (by rw [hg, zcpy_s])
      refine E_iload pf_110_3 rfl ?_
      refine E_iconst pf_110_5 ?_
      refine E_icmp_ge_f pf_110_7 (by omega) ?_
      refine E_aload pf_110_10 rfl ?_
      refine E_iload pf_110_11 rfl ?_
      refine E_iload pf_110_12 rfl ?_
      refine E_iadd pf_110_14 ?_
      refine E_aload pf_110_15 rfl ?_
      refine E_iload pf_110_16 rfl ?_
      refine E_iload pf_110_17 rfl ?_
      refine E_iadd pf_110_19 ?_
      refine F_iald pf_110_20 rfl (by omega) ?_
      refine F_iast (l' := [(_, _), (_, _)]) pf_110_21 rfl (by omega) rfl ?_
      refine E_iinc (lv' := [_, _, _, _, _]) pf_110_22 rfl rfl ?_
      refine E_goto pf_110_25 ?_
      exact ih
  refine E_iconst pf_110_0 ?_
  refine E_istore (lv' := [_, _, _, _, _]) pf_110_1 rfl rfl ?_
  exact loop 72 0 g (by omega) (zcpy_0 _ _ _ _).symm
theorem c110nd {q g : Int → Int} {sp dp : Int} (hs : 0 ≤ sp ∧ sp + 72 ≤ 72) (hd : 0 ≤ dp ∧ dp + 72 ≤ 1008) : ∀ h, Ca 110 [.ref 107, .int (ii sp), .ref 109, .int (ii dp)] (wd [(107, ar 72 q), (109, ar 1008 g)] h) (.inl none, wd [(107, ar 72 q), (109, ar 1008 (zcpy q g sp dp 72))] h) := by
  intro h
  refine E_in (lv := [_, _, _, _, _]) rfl ?_
  have loop : ∀ (n i : Nat) (g1 : Int → Int), i + n = 72 → g1 = zcpy q g sp dp (i : Int) → Rn 110 3 [.ref 107, .int (ii sp), .ref 109, .int (ii dp), .int (ii (i : Int))] [] (wd [(107, ar 72 q), (109, ar 1008 g1)] h) (.inl none, wd [(107, ar 72 q), (109, ar 1008 (zcpy q g sp dp 72))] h) := by
    intro n
    induction n with
    | zero =>
      intro i g1 hi hg
      obtain rfl : i = 72 := by omega
      rw [hg]
      refine E_iload pf_110_3 rfl ?_
      refine E_iconst pf_110_5 ?_
      refine E_icmp_ge_t pf_110_7 (by omega) ?_
      exact E_vret pf_110_28 rfl
    | succ n ih =>
      intro i g1 hi hg
      have ih := ih (i + 1) (zu g1 (dp + i) (q (sp + i))) (by omega) (by rw [hg, zcpy_s])
      refine E_iload pf_110_3 rfl ?_
      refine E_iconst pf_110_5 ?_
      refine E_icmp_ge_f pf_110_7 (by omega) ?_
      refine E_aload pf_110_10 rfl ?_
      refine E_iload pf_110_11 rfl ?_
      refine E_iload pf_110_12 rfl ?_
      refine E_iadd pf_110_14 ?_
      refine E_aload pf_110_15 rfl ?_
      refine E_iload pf_110_16 rfl ?_
      refine E_iload pf_110_17 rfl ?_
      refine E_iadd pf_110_19 ?_
      refine F_iald pf_110_20 rfl (by omega) ?_
      refine F_iast (l' := [(_, _), (_, _)]) pf_110_21 rfl (by omega) rfl ?_
      refine E_iinc (lv' := [_, _, _, _, _]) pf_110_22 rfl rfl ?_
      refine E_goto pf_110_25 ?_
      exact ih
  refine E_iconst pf_110_0 ?_
  refine E_istore (lv' := [_, _, _, _, _]) pf_110_1 rfl rfl ?_
  exact loop 72 0 g (by omega) (zcpy_0 _ _ _ _).symm
theorem c110dn {q g : Int → Int} {sp dp : Int} (hs : 0 ≤ sp ∧ sp + 72 ≤ 1008) (hd : 0 ≤ dp ∧ dp + 72 ≤ 72) : ∀ h, Ca 110 [.ref 109, .int (ii sp), .ref 107, .int (ii dp)] (wd [(109, ar 1008 q), (107, ar 72 g)] h) (.inl none, wd [(109, ar 1008 q), (107, ar 72 (zcpy q g sp dp 72))] h) := by
  intro h
  refine E_in (lv := [_, _, _, _, _]) rfl ?_
  have loop : ∀ (n i : Nat) (g1 : Int → Int), i + n = 72 → g1 = zcpy q g sp dp (i : Int) → Rn 110 3 [.ref 109, .int (ii sp), .ref 107, .int (ii dp), .int (ii (i : Int))] [] (wd [(109, ar 1008 q), (107, ar 72 g1)] h) (.inl none, wd [(109, ar 1008 q), (107, ar 72 (zcpy q g sp dp 72))] h) := by
    intro n
    induction n with
    | zero =>
      intro i g1 hi hg
      obtain rfl : i = 72 := by omega
      rw [hg]
      refine E_iload pf_110_3 rfl ?_
      refine E_iconst pf_110_5 ?_
      refine E_icmp_ge_t pf_110_7 (by omega) ?_
      exact E_vret pf_110_28 rfl
    | succ n ih =>
      intro i g1 hi hg
      have ih := ih (i + 1) (zu g1 (dp + i) (q (sp + i))) (by omega) (by rw [hg, zcpy_s])
      refine E_iload pf_110_3 rfl ?_
      refine E_iconst pf_110_5 ?_
      refine E_icmp_ge_f pf_110_7 (by omega) ?_
      refine E_aload pf_110_10 rfl ?_
      refine E_iload pf_110_11 rfl ?_
      refine E_iload pf_110_12 rfl ?_
      refine E_iadd pf_110_14 ?_
      refine E_aload pf_110_15 rfl ?_
      refine E_iload pf_110_16 rfl ?_
      refine E_iload pf_110_17 rfl ?_
      refine E_iadd pf_110_19 ?_
      refine F_iald pf_110_20 rfl (by omega) ?_
      refine F_iast (l' := [(_, _), (_, _)]) pf_110_21 rfl (by omega) rfl ?_
      refine E_iinc (lv' := [_, _, _, _, _]) pf_110_22 rfl rfl ?_
      refine E_goto pf_110_25 ?_
      exact ih
  refine E_iconst pf_110_0 ?_
  refine E_istore (lv' := [_, _, _, _, _]) pf_110_1 rfl rfl ?_
  exact loop 72 0 g (by omega) (zcpy_0 _ _ _ _).symm
theorem c110nk {q g : Int → Int} {sp dp : Int} (hs : 0 ≤ sp ∧ sp + 72 ≤ 72) (hd : 0 ≤ dp ∧ dp + 72 ≤ 144) : ∀ h, Ca 110 [.ref 107, .int (ii sp), .ref 110, .int (ii dp)] (wd [(107, ar 72 q), (110, ar 144 g)] h) (.inl none, wd [(107, ar 72 q), (110, ar 144 (zcpy q g sp dp 72))] h) := by
  intro h
  refine E_in (lv := [_, _, _, _, _]) rfl ?_
  have loop : ∀ (n i : Nat) (g1 : Int → Int), i + n = 72 → g1 = zcpy q g sp dp (i : Int) → Rn 110 3 [.ref 107, .int (ii sp), .ref 110, .int (ii dp), .int (ii (i : Int))] [] (wd [(107, ar 72 q), (110, ar 144 g1)] h) (.inl none, wd [(107, ar 72 q), (110, ar 144 (zcpy q g sp dp 72))] h) := by
    intro n
    induction n with
    | zero =>
      intro i g1 hi hg
      obtain rfl : i = 72 := by omega
      rw [hg]
      refine E_iload pf_110_3 rfl ?_
      refine E_iconst pf_110_5 ?_
      refine E_icmp_ge_t pf_110_7 (by omega) ?_
      exact E_vret pf_110_28 rfl
    | succ n ih =>
      intro i g1 hi hg
      have ih := ih (i + 1) (zu g1 (dp + i) (q (sp + i))) (by omega) (by rw [hg, zcpy_s])
      refine E_iload pf_110_3 rfl ?_
      refine E_iconst pf_110_5 ?_
      refine E_icmp_ge_f pf_110_7 (by omega) ?_
      refine E_aload pf_110_10 rfl ?_
      refine E_iload pf_110_11 rfl ?_
      refine E_iload pf_110_12 rfl ?_
      refine E_iadd pf_110_14 ?_
      refine E_aload pf_110_15 rfl ?_
      refine E_iload pf_110_16 rfl ?_
      refine E_iload pf_110_17 rfl ?_
      refine E_iadd pf_110_19 ?_
      refine F_iald pf_110_20 rfl (by omega) ?_
      refine F_iast (l' := [(_, _), (_, _)]) pf_110_21 rfl (by omega) rfl ?_
      refine E_iinc (lv' := [_, _, _, _, _]) pf_110_22 rfl rfl ?_
      refine E_goto pf_110_25 ?_
      exact ih
  refine E_iconst pf_110_0 ?_
  refine E_istore (lv' := [_, _, _, _, _]) pf_110_1 rfl rfl ?_
  exact loop 72 0 g (by omega) (zcpy_0 _ _ _ _).symm
theorem c110kn {q g : Int → Int} {sp dp : Int} (hs : 0 ≤ sp ∧ sp + 72 ≤ 144) (hd : 0 ≤ dp ∧ dp + 72 ≤ 72) : ∀ h, Ca 110 [.ref 110, .int (ii sp), .ref 107, .int (ii dp)] (wd [(110, ar 144 q), (107, ar 72 g)] h) (.inl none, wd [(110, ar 144 q), (107, ar 72 (zcpy q g sp dp 72))] h) := by
  intro h
  refine E_in (lv := [_, _, _, _, _]) rfl ?_
  have loop : ∀ (n i : Nat) (g1 : Int → Int), i + n = 72 → g1 = zcpy q g sp dp (i : Int) → Rn 110 3 [.ref 110, .int (ii sp), .ref 107, .int (ii dp), .int (ii (i : Int))] [] (wd [(110, ar 144 q), (107, ar 72 g1)] h) (.inl none, wd [(110, ar 144 q), (107, ar 72 (zcpy q g sp dp 72))] h) := by
    intro n
    induction n with
    | zero =>
      intro i g1 hi hg
      obtain rfl : i = 72 := by omega
      rw [hg]
      refine E_iload pf_110_3 rfl ?_
      refine E_iconst pf_110_5 ?_
      refine E_icmp_ge_t pf_110_7 (by omega) ?_
      exact E_vret pf_110_28 rfl
    | succ n ih =>
      intro i g1 hi hg
      have ih := ih (i + 1) (zu g1 (dp + i) (q (sp + i))) (by omega) (by rw [hg, zcpy_s])
      refine E_iload pf_110_3 rfl ?_
      refine E_iconst pf_110_5 ?_
      refine E_icmp_ge_f pf_110_7 (by omega) ?_
      refine E_aload pf_110_10 rfl ?_
      refine E_iload pf_110_11 rfl ?_
      refine E_iload pf_110_12 rfl ?_
      refine E_iadd pf_110_14 ?_
      refine E_aload pf_110_15 rfl ?_
      refine E_iload pf_110_16 rfl ?_
      refine E_iload pf_110_17 rfl ?_
      refine E_iadd pf_110_19 ?_
      refine F_iald pf_110_20 rfl (by omega) ?_
      refine F_iast (l' := [(_, _), (_, _)]) pf_110_21 rfl (by omega) rfl ?_
      refine E_iinc (lv' := [_, _, _, _, _]) pf_110_22 rfl rfl ?_
      refine E_goto pf_110_25 ?_
      exact ih
  refine E_iconst pf_110_0 ?_
  refine E_istore (lv' := [_, _, _, _, _]) pf_110_1 rfl rfl ?_
  exact loop 72 0 g (by omega) (zcpy_0 _ _ _ _).symm
theorem c110rn {q g : Int → Int} {sp dp : Int} (hs : 0 ≤ sp ∧ sp + 72 ≤ 72) (hd : 0 ≤ dp ∧ dp + 72 ≤ 72) : ∀ h, Ca 110 [.ref 106, .int (ii sp), .ref 107, .int (ii dp)] (wd [(106, ar 72 q), (107, ar 72 g)] h) (.inl none, wd [(106, ar 72 q), (107, ar 72 (zcpy q g sp dp 72))] h) := by
  intro h
  refine E_in (lv := [_, _, _, _, _]) rfl ?_
  have loop : ∀ (n i : Nat) (g1 : Int → Int), i + n = 72 → g1 = zcpy q g sp dp (i : Int) → Rn 110 3 [.ref 106, .int (ii sp), .ref 107, .int (ii dp), .int (ii (i : Int))] [] (wd [(106, ar 72 q), (107, ar 72 g1)] h) (.inl none, wd [(106, ar 72 q), (107, ar 72 (zcpy q g sp dp 72))] h) := by
    intro n
    induction n with
    | zero =>
      intro i g1 hi hg
      obtain rfl : i = 72 := by omega
      rw [hg]
      refine E_iload pf_110_3 rfl ?_
      refine E_iconst pf_110_5 ?_
      refine E_icmp_ge_t pf_110_7 (by omega) ?_
      exact E_vret pf_110_28 rfl
    | succ n ih =>
      intro i g1 hi hg
      have ih := ih (i + 1) (zu g1 (dp + i) (q (sp + i))) (by omega) (by rw [hg, zcpy_s])
      refine E_iload pf_110_3 rfl ?_
      refine E_iconst pf_110_5 ?_
      refine E_icmp_ge_f pf_110_7 (by omega) ?_
      refine E_aload pf_110_10 rfl ?_
      refine E_iload pf_110_11 rfl ?_
      refine E_iload pf_110_12 rfl ?_
      refine E_iadd pf_110_14 ?_
      refine E_aload pf_110_15 rfl ?_
      refine E_iload pf_110_16 rfl ?_
      refine E_iload pf_110_17 rfl ?_
      refine E_iadd pf_110_19 ?_
      refine F_iald pf_110_20 rfl (by omega) ?_
      refine F_iast (l' := [(_, _), (_, _)]) pf_110_21 rfl (by omega) rfl ?_
      refine E_iinc (lv' := [_, _, _, _, _]) pf_110_22 rfl rfl ?_
      refine E_goto pf_110_25 ?_
      exact ih
  refine E_iconst pf_110_0 ?_
  refine E_istore (lv' := [_, _, _, _, _]) pf_110_1 rfl rfl ?_
  exact loop 72 0 g (by omega) (zcpy_0 _ _ _ _).symm
end CPY
