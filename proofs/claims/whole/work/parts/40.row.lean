/-! Numbers with signs and rows, read on both sides. -/
abbrev oS9 (rc m st dr : Int) : pd_E := ob 4 [.int (ii rc), .ref 10, .int (ii m), .ref 11, .ref 12, .int (ii st), .int (ii dr)]
theorem E_ti {mi pc : Nat} {lv st : List Value} {h : pd_H} {r : pd_Out × pd_H} {a b : Int} (e : a = b) (k : Rn mi pc lv (.int (ii b) :: st) h r) : Rn mi pc lv (.int (ii a) :: st) h r := e ▸ k
def rbd (R : Int → Int) : Prop := (∀ k j : Int, 0 ≤ k → k < 4 → 0 ≤ j → j < 4 → -9 ≤ R (k * 5 + j) ∧ R (k * 5 + j) ≤ 9) ∧ ∀ k : Int, 0 ≤ k → k < 4 → -99 ≤ R (k * 5 + 4) ∧ R (k * 5 + 4) ≤ 99
def agr (R G : Int → Int) : Prop := ∀ q : Int, 0 ≤ q → q < 20 → R q = G q
theorem agr_u {R G : Int → Int} {i v : Int} (h : agr R G) : agr (zu R i v) (zu G i v) := fun q h1 h2 => by
  unfold zu; split
  · rfl
  · exact h q h1 h2
theorem rbd_f {R : Int → Int} {k j v : Int} (h : rbd R) (hj : 0 ≤ j ∧ j < 4) (hv : -9 ≤ v ∧ v ≤ 9) : rbd (zu R (k * 5 + j) v) := by
  refine ⟨fun k' j' h1 h2 h3 h4 => ?_, fun k' h1 h2 => ?_⟩
  · unfold zu; split
    · exact hv
    · exact h.1 k' j' h1 h2 h3 h4
  · rw [zu_n _ _ (by omega)]; exact h.2 k' h1 h2
theorem rbd_t {R : Int → Int} {k v : Int} (h : rbd R) (hv : -99 ≤ v ∧ v ≤ 99) : rbd (zu R (k * 5 + 4) v) := by
  refine ⟨fun k' j' h1 h2 h3 h4 => ?_, fun k' h1 h2 => ?_⟩
  · rw [zu_n _ _ (by omega)]; exact h.1 k' j' h1 h2 h3 h4
  · unfold zu; split
    · exact hv
    · exact h.2 k' h1 h2
section ROW
variable {T R G : Int → Int} {tl p : Int} {rf d kd vs rw rd rk rv rr ac rc m0 s0 r0 k5 n5 : Int} {dn : Nat}
theorem sgd1 {pl : Int} (hT : ∀ i, 0 ≤ T i ∧ T i ≤ 255) (ht : tl ≤ 90) (hp : 0 ≤ p ∧ p ≤ tl) (hpl : 0 ≤ pl ∧ pl < 20) : (∃ p' : Int, (0 ≤ p' ∧ p' ≤ tl) ∧ (∀ h, Ca 50 [.ref 3, .int (ii pl), .int (ii 1)] (wd [(2, ar 90 T), (3, oR tl p), (9, oS9 rc m0 s0 r0), (10, ar 20 R)] h) (.inl (some (.int (ii 0))), wd [(2, ar 90 T), (3, oR tl p'), (9, oS9 rc m0 s0 r0), (10, ar 20 R)] h)) ∧ ∀ h, Ca 138 [.ref 102, .int (ii 1)] (wd [(102, oX6 rf tl p d kd vs rw rd rk rv rr ac), (103, ar 90 T)] h) (.inl (some (.int (ii 1000))), wd [(102, oX6 rf tl p' d kd vs rw rd rk rv rr ac), (103, ar 90 T)] h)) ∨ (∃ p' v : Int, (0 ≤ p' ∧ p' ≤ tl) ∧ (-9 ≤ v ∧ v ≤ 9) ∧ (∀ h, Ca 50 [.ref 3, .int (ii pl), .int (ii 1)] (wd [(2, ar 90 T), (3, oR tl p), (9, oS9 rc m0 s0 r0), (10, ar 20 R)] h) (.inl (some (.int (ii 1))), wd [(2, ar 90 T), (3, oR tl p'), (9, oS9 rc m0 s0 r0), (10, ar 20 (zu R pl v))] h)) ∧ ∀ h, Ca 138 [.ref 102, .int (ii 1)] (wd [(102, oX6 rf tl p d kd vs rw rd rk rv rr ac), (103, ar 90 T)] h) (.inl (some (.int (ii v))), wd [(102, oX6 rf tl p' d kd vs rw rd rk rv rr ac), (103, ar 90 T)] h)) := by
  have am := c42 (T := T) (tl := tl) (p := p) (c := 45) hT ht hp (by omega)
  have bm := c129 (rf := rf) (d := d) (k := kd) (vs := vs) (rw := rw) (rd := rd) (rk := rk) (rv := rv) (rr := rr) (ac := ac) (T := T) (tl := tl) (p := p) (c := 45) hT ht hp (by omega)
  have ap := c42 (T := T) (tl := tl) (p := p) (c := 43) hT ht hp (by omega)
  have bp := c129 (rf := rf) (d := d) (k := kd) (vs := vs) (rw := rw) (rd := rd) (rk := rk) (rv := rv) (rr := rr) (ac := ac) (T := T) (tl := tl) (p := p) (c := 43) hT ht hp (by omega)
  by_cases em : p < tl ∧ T p = 45
  · rw [show sgn T tl p 45 = 1 from if_pos em] at am bm
    have a1 := c43 (T := T) (tl := tl) (p := p + 1) (lo := 0) (hi := 9) hT ht (by omega) (by omega) (by omega)
    have b1 := c130 (rf := rf) (d := d) (k := kd) (vs := vs) (rw := rw) (rd := rd) (rk := rk) (rv := rv) (rr := rr) (ac := ac) (T := T) (tl := tl) (p := p + 1) (lo := 0) (hi := 9) hT ht (by omega) (by omega) (by omega)
    by_cases e1 : dg T tl 0 9 (p + 1) = -9
    · rw [e1, show nxp (p + 1) (-9) = p + 1 from if_pos rfl] at a1 b1
      refine .inl ⟨p + 1, by omega, fun h => ?_, fun h => ?_⟩
      · refine E_in (lv := [_, _, _, _, _, _, _]) rfl ?_
        refine E_aload pf_50_0 rfl ?_
        refine E_iconst pf_50_1 ?_
        refine F_v2v (l' := [(_, _), (_, _), (_, _), (_, _)]) pf_50_3 (am) (And.intro rfl (And.intro rfl (trivial))) rfl rfl rfl rfl ?_
        refine E_istore (lv' := [_, _, _, _, _, _, _]) pf_50_6 rfl rfl ?_
        refine E_iload pf_50_7 rfl ?_
        refine E_if_ne_t pf_50_8 (by omega) ?_
        refine E_iconst pf_50_22 ?_
        refine E_istore (lv' := [_, _, _, _, _, _, _]) pf_50_23 rfl rfl ?_
        refine E_iconst pf_50_25 ?_
        refine E_istore (lv' := [_, _, _, _, _, _, _]) pf_50_26 rfl rfl ?_
        refine E_iload pf_50_28 rfl ?_
        refine E_iload pf_50_30 rfl ?_
        refine E_icmp_ge_f pf_50_31 (by omega) ?_
        refine E_aload pf_50_34 rfl ?_
        refine E_iconst pf_50_35 ?_
        refine E_iconst pf_50_36 ?_
        refine F_v3v (l' := [(_, _), (_, _), (_, _), (_, _)]) pf_50_38 (a1) (And.intro rfl (And.intro rfl (trivial))) rfl rfl rfl rfl ?_
        refine E_istore (lv' := [_, _, _, _, _, _, _]) pf_50_41 rfl rfl ?_
        refine E_iload pf_50_43 rfl ?_
        refine E_iconst pf_50_45 ?_
        refine E_icmp_ne_f pf_50_47 (by omega) ?_
        refine E_iconst pf_50_50 ?_
        exact E_iret pf_50_51 rfl
      · refine E_in (lv := [_, _, _, _, _, _]) rfl ?_
        refine E_aload pf_138_0 rfl ?_
        refine E_iconst pf_138_1 ?_
        refine F_v2v (l' := [(_, _), (_, _)]) pf_138_3 (bm) (And.intro rfl (And.intro rfl (trivial))) rfl rfl rfl rfl ?_
        refine E_istore (lv' := [_, _, _, _, _, _]) pf_138_6 rfl rfl ?_
        refine E_iload pf_138_7 rfl ?_
        refine E_if_ne_t pf_138_8 (by omega) ?_
        refine E_iconst pf_138_24 ?_
        refine E_istore (lv' := [_, _, _, _, _, _]) pf_138_25 rfl rfl ?_
        refine E_iconst pf_138_26 ?_
        refine E_istore (lv' := [_, _, _, _, _, _]) pf_138_27 rfl rfl ?_
        refine E_iload pf_138_29 rfl ?_
        refine E_iload pf_138_31 rfl ?_
        refine E_icmp_ge_f pf_138_32 (by omega) ?_
        refine E_aload pf_138_35 rfl ?_
        refine E_iconst pf_138_36 ?_
        refine E_iconst pf_138_37 ?_
        refine F_v3v (l' := [(_, _), (_, _)]) pf_138_39 (b1) (And.intro rfl (And.intro rfl (trivial))) rfl rfl rfl rfl ?_
        refine E_istore (lv' := [_, _, _, _, _, _]) pf_138_42 rfl rfl ?_
        refine E_iload pf_138_44 rfl ?_
        refine E_iconst pf_138_46 ?_
        refine E_icmp_ne_f pf_138_48 (by omega) ?_
        refine E_iconst pf_138_51 ?_
        exact E_iret pf_138_54 rfl
    · have v1 := dg_val e1
      rw [show nxp (p + 1) (dg T tl 0 9 (p + 1)) = p + 2 from by unfold nxp; rw [if_neg e1]; omega, v1.1] at a1 b1
      refine .inr ⟨p + 2, (-(T (p + 1) - 48)), by omega, by omega, fun h => ?_, fun h => ?_⟩
      · refine E_in (lv := [_, _, _, _, _, _, _]) rfl ?_
        refine E_aload pf_50_0 rfl ?_
        refine E_iconst pf_50_1 ?_
        refine F_v2v (l' := [(_, _), (_, _), (_, _), (_, _)]) pf_50_3 (am) (And.intro rfl (And.intro rfl (trivial))) rfl rfl rfl rfl ?_
        refine E_istore (lv' := [_, _, _, _, _, _, _]) pf_50_6 rfl rfl ?_
        refine E_iload pf_50_7 rfl ?_
        refine E_if_ne_t pf_50_8 (by omega) ?_
        refine E_iconst pf_50_22 ?_
        refine E_istore (lv' := [_, _, _, _, _, _, _]) pf_50_23 rfl rfl ?_
        refine E_iconst pf_50_25 ?_
        refine E_istore (lv' := [_, _, _, _, _, _, _]) pf_50_26 rfl rfl ?_
        refine E_iload pf_50_28 rfl ?_
        refine E_iload pf_50_30 rfl ?_
        refine E_icmp_ge_f pf_50_31 (by omega) ?_
        refine E_aload pf_50_34 rfl ?_
        refine E_iconst pf_50_35 ?_
        refine E_iconst pf_50_36 ?_
        refine F_v3v (l' := [(_, _), (_, _), (_, _), (_, _)]) pf_50_38 (a1) (And.intro rfl (And.intro rfl (trivial))) rfl rfl rfl rfl ?_
        refine E_istore (lv' := [_, _, _, _, _, _, _]) pf_50_41 rfl rfl ?_
        refine E_iload pf_50_43 rfl ?_
        refine E_iconst pf_50_45 ?_
        refine E_icmp_ne_t pf_50_47 (by omega) ?_
        refine E_iload pf_50_52 rfl ?_
        refine E_iconst pf_50_54 ?_
        refine E_imul pf_50_56 ?_
        refine E_iload pf_50_57 rfl ?_
        refine E_iadd pf_50_59 ?_
        refine E_istore (lv' := [_, _, _, _, _, _, _]) pf_50_60 rfl rfl ?_
        refine E_iinc (lv' := [_, _, _, _, _, _, _]) pf_50_62 rfl rfl ?_
        refine E_goto pf_50_65 ?_
        refine E_iload pf_50_28 rfl ?_
        refine E_iload pf_50_30 rfl ?_
        refine E_icmp_ge_t pf_50_31 (by omega) ?_
        refine E_aload pf_50_68 rfl ?_
        refine F_getf pf_50_69 rfl rfl rfl ?_
        refine F_getf pf_50_72 rfl rfl rfl ?_
        refine E_iload pf_50_75 rfl ?_
        refine E_iload pf_50_76 rfl ?_
        refine E_if_eq_f pf_50_77 (by omega) ?_
        refine E_iload pf_50_80 rfl ?_
        refine E_ineg pf_50_82 ?_
        refine E_goto pf_50_83 ?_
        refine E_ti (b := (-(T (p + 1) - 48))) (by omega) ?_
        refine F_iast (l' := [(_, _), (_, _), (_, _), (_, _)]) pf_50_88 rfl (by omega) rfl ?_
        refine E_iconst pf_50_89 ?_
        exact E_iret pf_50_90 rfl
      · refine E_in (lv := [_, _, _, _, _, _]) rfl ?_
        refine E_aload pf_138_0 rfl ?_
        refine E_iconst pf_138_1 ?_
        refine F_v2v (l' := [(_, _), (_, _)]) pf_138_3 (bm) (And.intro rfl (And.intro rfl (trivial))) rfl rfl rfl rfl ?_
        refine E_istore (lv' := [_, _, _, _, _, _]) pf_138_6 rfl rfl ?_
        refine E_iload pf_138_7 rfl ?_
        refine E_if_ne_t pf_138_8 (by omega) ?_
        refine E_iconst pf_138_24 ?_
        refine E_istore (lv' := [_, _, _, _, _, _]) pf_138_25 rfl rfl ?_
        refine E_iconst pf_138_26 ?_
        refine E_istore (lv' := [_, _, _, _, _, _]) pf_138_27 rfl rfl ?_
        refine E_iload pf_138_29 rfl ?_
        refine E_iload pf_138_31 rfl ?_
        refine E_icmp_ge_f pf_138_32 (by omega) ?_
        refine E_aload pf_138_35 rfl ?_
        refine E_iconst pf_138_36 ?_
        refine E_iconst pf_138_37 ?_
        refine F_v3v (l' := [(_, _), (_, _)]) pf_138_39 (b1) (And.intro rfl (And.intro rfl (trivial))) rfl rfl rfl rfl ?_
        refine E_istore (lv' := [_, _, _, _, _, _]) pf_138_42 rfl rfl ?_
        refine E_iload pf_138_44 rfl ?_
        refine E_iconst pf_138_46 ?_
        refine E_icmp_ne_t pf_138_48 (by omega) ?_
        refine E_iconst pf_138_55 ?_
        refine E_iload pf_138_57 rfl ?_
        refine E_imul pf_138_58 ?_
        refine E_iload pf_138_59 rfl ?_
        refine E_iadd pf_138_61 ?_
        refine E_istore (lv' := [_, _, _, _, _, _]) pf_138_62 rfl rfl ?_
        refine E_iinc (lv' := [_, _, _, _, _, _]) pf_138_63 rfl rfl ?_
        refine E_goto pf_138_66 ?_
        refine E_iload pf_138_29 rfl ?_
        refine E_iload pf_138_31 rfl ?_
        refine E_icmp_ge_t pf_138_32 (by omega) ?_
        refine E_iload pf_138_69 rfl ?_
        refine E_if_eq_f pf_138_70 (by omega) ?_
        refine E_iload pf_138_73 rfl ?_
        refine E_ineg pf_138_74 ?_
        refine E_goto pf_138_75 ?_
        refine E_ti (b := (-(T (p + 1) - 48))) (by omega) ?_
        exact E_iret pf_138_79 rfl
  · rw [show sgn T tl p 45 = 0 from if_neg em, Int.add_zero] at am bm
    by_cases ep : p < tl ∧ T p = 43
    · rw [show sgn T tl p 43 = 1 from if_pos ep] at ap bp
      have a1 := c43 (T := T) (tl := tl) (p := p + 1) (lo := 0) (hi := 9) hT ht (by omega) (by omega) (by omega)
      have b1 := c130 (rf := rf) (d := d) (k := kd) (vs := vs) (rw := rw) (rd := rd) (rk := rk) (rv := rv) (rr := rr) (ac := ac) (T := T) (tl := tl) (p := p + 1) (lo := 0) (hi := 9) hT ht (by omega) (by omega) (by omega)
      by_cases e1 : dg T tl 0 9 (p + 1) = -9
      · rw [e1, show nxp (p + 1) (-9) = p + 1 from if_pos rfl] at a1 b1
        refine .inl ⟨p + 1, by omega, fun h => ?_, fun h => ?_⟩
        · refine E_in (lv := [_, _, _, _, _, _, _]) rfl ?_
          refine E_aload pf_50_0 rfl ?_
          refine E_iconst pf_50_1 ?_
          refine F_v2v (l' := [(_, _), (_, _), (_, _), (_, _)]) pf_50_3 (am) (And.intro rfl (And.intro rfl (trivial))) rfl rfl rfl rfl ?_
          refine E_istore (lv' := [_, _, _, _, _, _, _]) pf_50_6 rfl rfl ?_
          refine E_iload pf_50_7 rfl ?_
          refine E_if_ne_f pf_50_8 (by omega) ?_
          refine E_aload pf_50_11 rfl ?_
          refine E_iconst pf_50_12 ?_
          refine F_v2v (l' := [(_, _), (_, _), (_, _), (_, _)]) pf_50_14 (ap) (And.intro rfl (And.intro rfl (trivial))) rfl rfl rfl rfl ?_
          refine E_if_ne_t pf_50_17 (by omega) ?_
          refine E_iconst pf_50_22 ?_
          refine E_istore (lv' := [_, _, _, _, _, _, _]) pf_50_23 rfl rfl ?_
          refine E_iconst pf_50_25 ?_
          refine E_istore (lv' := [_, _, _, _, _, _, _]) pf_50_26 rfl rfl ?_
          refine E_iload pf_50_28 rfl ?_
          refine E_iload pf_50_30 rfl ?_
          refine E_icmp_ge_f pf_50_31 (by omega) ?_
          refine E_aload pf_50_34 rfl ?_
          refine E_iconst pf_50_35 ?_
          refine E_iconst pf_50_36 ?_
          refine F_v3v (l' := [(_, _), (_, _), (_, _), (_, _)]) pf_50_38 (a1) (And.intro rfl (And.intro rfl (trivial))) rfl rfl rfl rfl ?_
          refine E_istore (lv' := [_, _, _, _, _, _, _]) pf_50_41 rfl rfl ?_
          refine E_iload pf_50_43 rfl ?_
          refine E_iconst pf_50_45 ?_
          refine E_icmp_ne_f pf_50_47 (by omega) ?_
          refine E_iconst pf_50_50 ?_
          exact E_iret pf_50_51 rfl
        · refine E_in (lv := [_, _, _, _, _, _]) rfl ?_
          refine E_aload pf_138_0 rfl ?_
          refine E_iconst pf_138_1 ?_
          refine F_v2v (l' := [(_, _), (_, _)]) pf_138_3 (bm) (And.intro rfl (And.intro rfl (trivial))) rfl rfl rfl rfl ?_
          refine E_istore (lv' := [_, _, _, _, _, _]) pf_138_6 rfl rfl ?_
          refine E_iload pf_138_7 rfl ?_
          refine E_if_ne_f pf_138_8 (by omega) ?_
          refine E_aload pf_138_11 rfl ?_
          refine E_iconst pf_138_12 ?_
          refine F_v2v (l' := [(_, _), (_, _)]) pf_138_14 (bp) (And.intro rfl (And.intro rfl (trivial))) rfl rfl rfl rfl ?_
          refine E_if_ne_t pf_138_17 (by omega) ?_
          refine E_iconst pf_138_24 ?_
          refine E_istore (lv' := [_, _, _, _, _, _]) pf_138_25 rfl rfl ?_
          refine E_iconst pf_138_26 ?_
          refine E_istore (lv' := [_, _, _, _, _, _]) pf_138_27 rfl rfl ?_
          refine E_iload pf_138_29 rfl ?_
          refine E_iload pf_138_31 rfl ?_
          refine E_icmp_ge_f pf_138_32 (by omega) ?_
          refine E_aload pf_138_35 rfl ?_
          refine E_iconst pf_138_36 ?_
          refine E_iconst pf_138_37 ?_
          refine F_v3v (l' := [(_, _), (_, _)]) pf_138_39 (b1) (And.intro rfl (And.intro rfl (trivial))) rfl rfl rfl rfl ?_
          refine E_istore (lv' := [_, _, _, _, _, _]) pf_138_42 rfl rfl ?_
          refine E_iload pf_138_44 rfl ?_
          refine E_iconst pf_138_46 ?_
          refine E_icmp_ne_f pf_138_48 (by omega) ?_
          refine E_iconst pf_138_51 ?_
          exact E_iret pf_138_54 rfl
      · have v1 := dg_val e1
        rw [show nxp (p + 1) (dg T tl 0 9 (p + 1)) = p + 2 from by unfold nxp; rw [if_neg e1]; omega, v1.1] at a1 b1
        refine .inr ⟨p + 2, (T (p + 1) - 48), by omega, by omega, fun h => ?_, fun h => ?_⟩
        · refine E_in (lv := [_, _, _, _, _, _, _]) rfl ?_
          refine E_aload pf_50_0 rfl ?_
          refine E_iconst pf_50_1 ?_
          refine F_v2v (l' := [(_, _), (_, _), (_, _), (_, _)]) pf_50_3 (am) (And.intro rfl (And.intro rfl (trivial))) rfl rfl rfl rfl ?_
          refine E_istore (lv' := [_, _, _, _, _, _, _]) pf_50_6 rfl rfl ?_
          refine E_iload pf_50_7 rfl ?_
          refine E_if_ne_f pf_50_8 (by omega) ?_
          refine E_aload pf_50_11 rfl ?_
          refine E_iconst pf_50_12 ?_
          refine F_v2v (l' := [(_, _), (_, _), (_, _), (_, _)]) pf_50_14 (ap) (And.intro rfl (And.intro rfl (trivial))) rfl rfl rfl rfl ?_
          refine E_if_ne_t pf_50_17 (by omega) ?_
          refine E_iconst pf_50_22 ?_
          refine E_istore (lv' := [_, _, _, _, _, _, _]) pf_50_23 rfl rfl ?_
          refine E_iconst pf_50_25 ?_
          refine E_istore (lv' := [_, _, _, _, _, _, _]) pf_50_26 rfl rfl ?_
          refine E_iload pf_50_28 rfl ?_
          refine E_iload pf_50_30 rfl ?_
          refine E_icmp_ge_f pf_50_31 (by omega) ?_
          refine E_aload pf_50_34 rfl ?_
          refine E_iconst pf_50_35 ?_
          refine E_iconst pf_50_36 ?_
          refine F_v3v (l' := [(_, _), (_, _), (_, _), (_, _)]) pf_50_38 (a1) (And.intro rfl (And.intro rfl (trivial))) rfl rfl rfl rfl ?_
          refine E_istore (lv' := [_, _, _, _, _, _, _]) pf_50_41 rfl rfl ?_
          refine E_iload pf_50_43 rfl ?_
          refine E_iconst pf_50_45 ?_
          refine E_icmp_ne_t pf_50_47 (by omega) ?_
          refine E_iload pf_50_52 rfl ?_
          refine E_iconst pf_50_54 ?_
          refine E_imul pf_50_56 ?_
          refine E_iload pf_50_57 rfl ?_
          refine E_iadd pf_50_59 ?_
          refine E_istore (lv' := [_, _, _, _, _, _, _]) pf_50_60 rfl rfl ?_
          refine E_iinc (lv' := [_, _, _, _, _, _, _]) pf_50_62 rfl rfl ?_
          refine E_goto pf_50_65 ?_
          refine E_iload pf_50_28 rfl ?_
          refine E_iload pf_50_30 rfl ?_
          refine E_icmp_ge_t pf_50_31 (by omega) ?_
          refine E_aload pf_50_68 rfl ?_
          refine F_getf pf_50_69 rfl rfl rfl ?_
          refine F_getf pf_50_72 rfl rfl rfl ?_
          refine E_iload pf_50_75 rfl ?_
          refine E_iload pf_50_76 rfl ?_
          refine E_if_eq_t pf_50_77 (by omega) ?_
          refine E_iload pf_50_86 rfl ?_
          refine E_ti (b := (T (p + 1) - 48)) (by omega) ?_
          refine F_iast (l' := [(_, _), (_, _), (_, _), (_, _)]) pf_50_88 rfl (by omega) rfl ?_
          refine E_iconst pf_50_89 ?_
          exact E_iret pf_50_90 rfl
        · refine E_in (lv := [_, _, _, _, _, _]) rfl ?_
          refine E_aload pf_138_0 rfl ?_
          refine E_iconst pf_138_1 ?_
          refine F_v2v (l' := [(_, _), (_, _)]) pf_138_3 (bm) (And.intro rfl (And.intro rfl (trivial))) rfl rfl rfl rfl ?_
          refine E_istore (lv' := [_, _, _, _, _, _]) pf_138_6 rfl rfl ?_
          refine E_iload pf_138_7 rfl ?_
          refine E_if_ne_f pf_138_8 (by omega) ?_
          refine E_aload pf_138_11 rfl ?_
          refine E_iconst pf_138_12 ?_
          refine F_v2v (l' := [(_, _), (_, _)]) pf_138_14 (bp) (And.intro rfl (And.intro rfl (trivial))) rfl rfl rfl rfl ?_
          refine E_if_ne_t pf_138_17 (by omega) ?_
          refine E_iconst pf_138_24 ?_
          refine E_istore (lv' := [_, _, _, _, _, _]) pf_138_25 rfl rfl ?_
          refine E_iconst pf_138_26 ?_
          refine E_istore (lv' := [_, _, _, _, _, _]) pf_138_27 rfl rfl ?_
          refine E_iload pf_138_29 rfl ?_
          refine E_iload pf_138_31 rfl ?_
          refine E_icmp_ge_f pf_138_32 (by omega) ?_
          refine E_aload pf_138_35 rfl ?_
          refine E_iconst pf_138_36 ?_
          refine E_iconst pf_138_37 ?_
          refine F_v3v (l' := [(_, _), (_, _)]) pf_138_39 (b1) (And.intro rfl (And.intro rfl (trivial))) rfl rfl rfl rfl ?_
          refine E_istore (lv' := [_, _, _, _, _, _]) pf_138_42 rfl rfl ?_
          refine E_iload pf_138_44 rfl ?_
          refine E_iconst pf_138_46 ?_
          refine E_icmp_ne_t pf_138_48 (by omega) ?_
          refine E_iconst pf_138_55 ?_
          refine E_iload pf_138_57 rfl ?_
          refine E_imul pf_138_58 ?_
          refine E_iload pf_138_59 rfl ?_
          refine E_iadd pf_138_61 ?_
          refine E_istore (lv' := [_, _, _, _, _, _]) pf_138_62 rfl rfl ?_
          refine E_iinc (lv' := [_, _, _, _, _, _]) pf_138_63 rfl rfl ?_
          refine E_goto pf_138_66 ?_
          refine E_iload pf_138_29 rfl ?_
          refine E_iload pf_138_31 rfl ?_
          refine E_icmp_ge_t pf_138_32 (by omega) ?_
          refine E_iload pf_138_69 rfl ?_
          refine E_if_eq_t pf_138_70 (by omega) ?_
          refine E_iload pf_138_78 rfl ?_
          refine E_ti (b := (T (p + 1) - 48)) (by omega) ?_
          exact E_iret pf_138_79 rfl
    · rw [show sgn T tl p 43 = 0 from if_neg ep, Int.add_zero] at ap bp
      refine .inl ⟨p, hp, fun h => ?_, fun h => ?_⟩
      · refine E_in (lv := [_, _, _, _, _, _, _]) rfl ?_
        refine E_aload pf_50_0 rfl ?_
        refine E_iconst pf_50_1 ?_
        refine F_v2v (l' := [(_, _), (_, _), (_, _), (_, _)]) pf_50_3 (am) (And.intro rfl (And.intro rfl (trivial))) rfl rfl rfl rfl ?_
        refine E_istore (lv' := [_, _, _, _, _, _, _]) pf_50_6 rfl rfl ?_
        refine E_iload pf_50_7 rfl ?_
        refine E_if_ne_f pf_50_8 (by omega) ?_
        refine E_aload pf_50_11 rfl ?_
        refine E_iconst pf_50_12 ?_
        refine F_v2v (l' := [(_, _), (_, _), (_, _), (_, _)]) pf_50_14 (ap) (And.intro rfl (And.intro rfl (trivial))) rfl rfl rfl rfl ?_
        refine E_if_ne_f pf_50_17 (by omega) ?_
        refine E_iconst pf_50_20 ?_
        exact E_iret pf_50_21 rfl
      · refine E_in (lv := [_, _, _, _, _, _]) rfl ?_
        refine E_aload pf_138_0 rfl ?_
        refine E_iconst pf_138_1 ?_
        refine F_v2v (l' := [(_, _), (_, _)]) pf_138_3 (bm) (And.intro rfl (And.intro rfl (trivial))) rfl rfl rfl rfl ?_
        refine E_istore (lv' := [_, _, _, _, _, _]) pf_138_6 rfl rfl ?_
        refine E_iload pf_138_7 rfl ?_
        refine E_if_ne_f pf_138_8 (by omega) ?_
        refine E_aload pf_138_11 rfl ?_
        refine E_iconst pf_138_12 ?_
        refine F_v2v (l' := [(_, _), (_, _)]) pf_138_14 (bp) (And.intro rfl (And.intro rfl (trivial))) rfl rfl rfl rfl ?_
        refine E_if_ne_f pf_138_17 (by omega) ?_
        refine E_iconst pf_138_20 ?_
        exact E_iret pf_138_23 rfl
theorem sgd2 {pl : Int} (hT : ∀ i, 0 ≤ T i ∧ T i ≤ 255) (ht : tl ≤ 90) (hp : 0 ≤ p ∧ p ≤ tl) (hpl : 0 ≤ pl ∧ pl < 20) : (∃ p' : Int, (0 ≤ p' ∧ p' ≤ tl) ∧ (∀ h, Ca 50 [.ref 3, .int (ii pl), .int (ii 2)] (wd [(2, ar 90 T), (3, oR tl p), (9, oS9 rc m0 s0 r0), (10, ar 20 R)] h) (.inl (some (.int (ii 0))), wd [(2, ar 90 T), (3, oR tl p'), (9, oS9 rc m0 s0 r0), (10, ar 20 R)] h)) ∧ ∀ h, Ca 138 [.ref 102, .int (ii 2)] (wd [(102, oX6 rf tl p d kd vs rw rd rk rv rr ac), (103, ar 90 T)] h) (.inl (some (.int (ii 1000))), wd [(102, oX6 rf tl p' d kd vs rw rd rk rv rr ac), (103, ar 90 T)] h)) ∨ (∃ p' v : Int, (0 ≤ p' ∧ p' ≤ tl) ∧ (-99 ≤ v ∧ v ≤ 99) ∧ (∀ h, Ca 50 [.ref 3, .int (ii pl), .int (ii 2)] (wd [(2, ar 90 T), (3, oR tl p), (9, oS9 rc m0 s0 r0), (10, ar 20 R)] h) (.inl (some (.int (ii 1))), wd [(2, ar 90 T), (3, oR tl p'), (9, oS9 rc m0 s0 r0), (10, ar 20 (zu R pl v))] h)) ∧ ∀ h, Ca 138 [.ref 102, .int (ii 2)] (wd [(102, oX6 rf tl p d kd vs rw rd rk rv rr ac), (103, ar 90 T)] h) (.inl (some (.int (ii v))), wd [(102, oX6 rf tl p' d kd vs rw rd rk rv rr ac), (103, ar 90 T)] h)) := by
  have am := c42 (T := T) (tl := tl) (p := p) (c := 45) hT ht hp (by omega)
  have bm := c129 (rf := rf) (d := d) (k := kd) (vs := vs) (rw := rw) (rd := rd) (rk := rk) (rv := rv) (rr := rr) (ac := ac) (T := T) (tl := tl) (p := p) (c := 45) hT ht hp (by omega)
  have ap := c42 (T := T) (tl := tl) (p := p) (c := 43) hT ht hp (by omega)
  have bp := c129 (rf := rf) (d := d) (k := kd) (vs := vs) (rw := rw) (rd := rd) (rk := rk) (rv := rv) (rr := rr) (ac := ac) (T := T) (tl := tl) (p := p) (c := 43) hT ht hp (by omega)
  by_cases em : p < tl ∧ T p = 45
  · rw [show sgn T tl p 45 = 1 from if_pos em] at am bm
    have a1 := c43 (T := T) (tl := tl) (p := p + 1) (lo := 0) (hi := 9) hT ht (by omega) (by omega) (by omega)
    have b1 := c130 (rf := rf) (d := d) (k := kd) (vs := vs) (rw := rw) (rd := rd) (rk := rk) (rv := rv) (rr := rr) (ac := ac) (T := T) (tl := tl) (p := p + 1) (lo := 0) (hi := 9) hT ht (by omega) (by omega) (by omega)
    by_cases e1 : dg T tl 0 9 (p + 1) = -9
    · rw [e1, show nxp (p + 1) (-9) = p + 1 from if_pos rfl] at a1 b1
      refine .inl ⟨p + 1, by omega, fun h => ?_, fun h => ?_⟩
      · refine E_in (lv := [_, _, _, _, _, _, _]) rfl ?_
        refine E_aload pf_50_0 rfl ?_
        refine E_iconst pf_50_1 ?_
        refine F_v2v (l' := [(_, _), (_, _), (_, _), (_, _)]) pf_50_3 (am) (And.intro rfl (And.intro rfl (trivial))) rfl rfl rfl rfl ?_
        refine E_istore (lv' := [_, _, _, _, _, _, _]) pf_50_6 rfl rfl ?_
        refine E_iload pf_50_7 rfl ?_
        refine E_if_ne_t pf_50_8 (by omega) ?_
        refine E_iconst pf_50_22 ?_
        refine E_istore (lv' := [_, _, _, _, _, _, _]) pf_50_23 rfl rfl ?_
        refine E_iconst pf_50_25 ?_
        refine E_istore (lv' := [_, _, _, _, _, _, _]) pf_50_26 rfl rfl ?_
        refine E_iload pf_50_28 rfl ?_
        refine E_iload pf_50_30 rfl ?_
        refine E_icmp_ge_f pf_50_31 (by omega) ?_
        refine E_aload pf_50_34 rfl ?_
        refine E_iconst pf_50_35 ?_
        refine E_iconst pf_50_36 ?_
        refine F_v3v (l' := [(_, _), (_, _), (_, _), (_, _)]) pf_50_38 (a1) (And.intro rfl (And.intro rfl (trivial))) rfl rfl rfl rfl ?_
        refine E_istore (lv' := [_, _, _, _, _, _, _]) pf_50_41 rfl rfl ?_
        refine E_iload pf_50_43 rfl ?_
        refine E_iconst pf_50_45 ?_
        refine E_icmp_ne_f pf_50_47 (by omega) ?_
        refine E_iconst pf_50_50 ?_
        exact E_iret pf_50_51 rfl
      · refine E_in (lv := [_, _, _, _, _, _]) rfl ?_
        refine E_aload pf_138_0 rfl ?_
        refine E_iconst pf_138_1 ?_
        refine F_v2v (l' := [(_, _), (_, _)]) pf_138_3 (bm) (And.intro rfl (And.intro rfl (trivial))) rfl rfl rfl rfl ?_
        refine E_istore (lv' := [_, _, _, _, _, _]) pf_138_6 rfl rfl ?_
        refine E_iload pf_138_7 rfl ?_
        refine E_if_ne_t pf_138_8 (by omega) ?_
        refine E_iconst pf_138_24 ?_
        refine E_istore (lv' := [_, _, _, _, _, _]) pf_138_25 rfl rfl ?_
        refine E_iconst pf_138_26 ?_
        refine E_istore (lv' := [_, _, _, _, _, _]) pf_138_27 rfl rfl ?_
        refine E_iload pf_138_29 rfl ?_
        refine E_iload pf_138_31 rfl ?_
        refine E_icmp_ge_f pf_138_32 (by omega) ?_
        refine E_aload pf_138_35 rfl ?_
        refine E_iconst pf_138_36 ?_
        refine E_iconst pf_138_37 ?_
        refine F_v3v (l' := [(_, _), (_, _)]) pf_138_39 (b1) (And.intro rfl (And.intro rfl (trivial))) rfl rfl rfl rfl ?_
        refine E_istore (lv' := [_, _, _, _, _, _]) pf_138_42 rfl rfl ?_
        refine E_iload pf_138_44 rfl ?_
        refine E_iconst pf_138_46 ?_
        refine E_icmp_ne_f pf_138_48 (by omega) ?_
        refine E_iconst pf_138_51 ?_
        exact E_iret pf_138_54 rfl
    · have v1 := dg_val e1
      rw [show nxp (p + 1) (dg T tl 0 9 (p + 1)) = p + 2 from by unfold nxp; rw [if_neg e1]; omega, v1.1] at a1 b1
      have a2 := c43 (T := T) (tl := tl) (p := p + 2) (lo := 0) (hi := 9) hT ht (by omega) (by omega) (by omega)
      have b2 := c130 (rf := rf) (d := d) (k := kd) (vs := vs) (rw := rw) (rd := rd) (rk := rk) (rv := rv) (rr := rr) (ac := ac) (T := T) (tl := tl) (p := p + 2) (lo := 0) (hi := 9) hT ht (by omega) (by omega) (by omega)
      by_cases e2 : dg T tl 0 9 (p + 2) = -9
      · rw [e2, show nxp (p + 2) (-9) = p + 2 from if_pos rfl] at a2 b2
        refine .inl ⟨p + 2, by omega, fun h => ?_, fun h => ?_⟩
        · refine E_in (lv := [_, _, _, _, _, _, _]) rfl ?_
          refine E_aload pf_50_0 rfl ?_
          refine E_iconst pf_50_1 ?_
          refine F_v2v (l' := [(_, _), (_, _), (_, _), (_, _)]) pf_50_3 (am) (And.intro rfl (And.intro rfl (trivial))) rfl rfl rfl rfl ?_
          refine E_istore (lv' := [_, _, _, _, _, _, _]) pf_50_6 rfl rfl ?_
          refine E_iload pf_50_7 rfl ?_
          refine E_if_ne_t pf_50_8 (by omega) ?_
          refine E_iconst pf_50_22 ?_
          refine E_istore (lv' := [_, _, _, _, _, _, _]) pf_50_23 rfl rfl ?_
          refine E_iconst pf_50_25 ?_
          refine E_istore (lv' := [_, _, _, _, _, _, _]) pf_50_26 rfl rfl ?_
          refine E_iload pf_50_28 rfl ?_
          refine E_iload pf_50_30 rfl ?_
          refine E_icmp_ge_f pf_50_31 (by omega) ?_
          refine E_aload pf_50_34 rfl ?_
          refine E_iconst pf_50_35 ?_
          refine E_iconst pf_50_36 ?_
          refine F_v3v (l' := [(_, _), (_, _), (_, _), (_, _)]) pf_50_38 (a1) (And.intro rfl (And.intro rfl (trivial))) rfl rfl rfl rfl ?_
          refine E_istore (lv' := [_, _, _, _, _, _, _]) pf_50_41 rfl rfl ?_
          refine E_iload pf_50_43 rfl ?_
          refine E_iconst pf_50_45 ?_
          refine E_icmp_ne_t pf_50_47 (by omega) ?_
          refine E_iload pf_50_52 rfl ?_
          refine E_iconst pf_50_54 ?_
          refine E_imul pf_50_56 ?_
          refine E_iload pf_50_57 rfl ?_
          refine E_iadd pf_50_59 ?_
          refine E_istore (lv' := [_, _, _, _, _, _, _]) pf_50_60 rfl rfl ?_
          refine E_iinc (lv' := [_, _, _, _, _, _, _]) pf_50_62 rfl rfl ?_
          refine E_goto pf_50_65 ?_
          refine E_iload pf_50_28 rfl ?_
          refine E_iload pf_50_30 rfl ?_
          refine E_icmp_ge_f pf_50_31 (by omega) ?_
          refine E_aload pf_50_34 rfl ?_
          refine E_iconst pf_50_35 ?_
          refine E_iconst pf_50_36 ?_
          refine F_v3v (l' := [(_, _), (_, _), (_, _), (_, _)]) pf_50_38 (a2) (And.intro rfl (And.intro rfl (trivial))) rfl rfl rfl rfl ?_
          refine E_istore (lv' := [_, _, _, _, _, _, _]) pf_50_41 rfl rfl ?_
          refine E_iload pf_50_43 rfl ?_
          refine E_iconst pf_50_45 ?_
          refine E_icmp_ne_f pf_50_47 (by omega) ?_
          refine E_iconst pf_50_50 ?_
          exact E_iret pf_50_51 rfl
        · refine E_in (lv := [_, _, _, _, _, _]) rfl ?_
          refine E_aload pf_138_0 rfl ?_
          refine E_iconst pf_138_1 ?_
          refine F_v2v (l' := [(_, _), (_, _)]) pf_138_3 (bm) (And.intro rfl (And.intro rfl (trivial))) rfl rfl rfl rfl ?_
          refine E_istore (lv' := [_, _, _, _, _, _]) pf_138_6 rfl rfl ?_
          refine E_iload pf_138_7 rfl ?_
          refine E_if_ne_t pf_138_8 (by omega) ?_
          refine E_iconst pf_138_24 ?_
          refine E_istore (lv' := [_, _, _, _, _, _]) pf_138_25 rfl rfl ?_
          refine E_iconst pf_138_26 ?_
          refine E_istore (lv' := [_, _, _, _, _, _]) pf_138_27 rfl rfl ?_
          refine E_iload pf_138_29 rfl ?_
          refine E_iload pf_138_31 rfl ?_
          refine E_icmp_ge_f pf_138_32 (by omega) ?_
          refine E_aload pf_138_35 rfl ?_
          refine E_iconst pf_138_36 ?_
          refine E_iconst pf_138_37 ?_
          refine F_v3v (l' := [(_, _), (_, _)]) pf_138_39 (b1) (And.intro rfl (And.intro rfl (trivial))) rfl rfl rfl rfl ?_
          refine E_istore (lv' := [_, _, _, _, _, _]) pf_138_42 rfl rfl ?_
          refine E_iload pf_138_44 rfl ?_
          refine E_iconst pf_138_46 ?_
          refine E_icmp_ne_t pf_138_48 (by omega) ?_
          refine E_iconst pf_138_55 ?_
          refine E_iload pf_138_57 rfl ?_
          refine E_imul pf_138_58 ?_
          refine E_iload pf_138_59 rfl ?_
          refine E_iadd pf_138_61 ?_
          refine E_istore (lv' := [_, _, _, _, _, _]) pf_138_62 rfl rfl ?_
          refine E_iinc (lv' := [_, _, _, _, _, _]) pf_138_63 rfl rfl ?_
          refine E_goto pf_138_66 ?_
          refine E_iload pf_138_29 rfl ?_
          refine E_iload pf_138_31 rfl ?_
          refine E_icmp_ge_f pf_138_32 (by omega) ?_
          refine E_aload pf_138_35 rfl ?_
          refine E_iconst pf_138_36 ?_
          refine E_iconst pf_138_37 ?_
          refine F_v3v (l' := [(_, _), (_, _)]) pf_138_39 (b2) (And.intro rfl (And.intro rfl (trivial))) rfl rfl rfl rfl ?_
          refine E_istore (lv' := [_, _, _, _, _, _]) pf_138_42 rfl rfl ?_
          refine E_iload pf_138_44 rfl ?_
          refine E_iconst pf_138_46 ?_
          refine E_icmp_ne_f pf_138_48 (by omega) ?_
          refine E_iconst pf_138_51 ?_
          exact E_iret pf_138_54 rfl
      · have v2 := dg_val e2
        rw [show nxp (p + 2) (dg T tl 0 9 (p + 2)) = p + 3 from by unfold nxp; rw [if_neg e2]; omega, v2.1] at a2 b2
        refine .inr ⟨p + 3, (-((T (p + 1) - 48) * 10 + (T (p + 2) - 48))), by omega, by omega, fun h => ?_, fun h => ?_⟩
        · refine E_in (lv := [_, _, _, _, _, _, _]) rfl ?_
          refine E_aload pf_50_0 rfl ?_
          refine E_iconst pf_50_1 ?_
          refine F_v2v (l' := [(_, _), (_, _), (_, _), (_, _)]) pf_50_3 (am) (And.intro rfl (And.intro rfl (trivial))) rfl rfl rfl rfl ?_
          refine E_istore (lv' := [_, _, _, _, _, _, _]) pf_50_6 rfl rfl ?_
          refine E_iload pf_50_7 rfl ?_
          refine E_if_ne_t pf_50_8 (by omega) ?_
          refine E_iconst pf_50_22 ?_
          refine E_istore (lv' := [_, _, _, _, _, _, _]) pf_50_23 rfl rfl ?_
          refine E_iconst pf_50_25 ?_
          refine E_istore (lv' := [_, _, _, _, _, _, _]) pf_50_26 rfl rfl ?_
          refine E_iload pf_50_28 rfl ?_
          refine E_iload pf_50_30 rfl ?_
          refine E_icmp_ge_f pf_50_31 (by omega) ?_
          refine E_aload pf_50_34 rfl ?_
          refine E_iconst pf_50_35 ?_
          refine E_iconst pf_50_36 ?_
          refine F_v3v (l' := [(_, _), (_, _), (_, _), (_, _)]) pf_50_38 (a1) (And.intro rfl (And.intro rfl (trivial))) rfl rfl rfl rfl ?_
          refine E_istore (lv' := [_, _, _, _, _, _, _]) pf_50_41 rfl rfl ?_
          refine E_iload pf_50_43 rfl ?_
          refine E_iconst pf_50_45 ?_
          refine E_icmp_ne_t pf_50_47 (by omega) ?_
          refine E_iload pf_50_52 rfl ?_
          refine E_iconst pf_50_54 ?_
          refine E_imul pf_50_56 ?_
          refine E_iload pf_50_57 rfl ?_
          refine E_iadd pf_50_59 ?_
          refine E_istore (lv' := [_, _, _, _, _, _, _]) pf_50_60 rfl rfl ?_
          refine E_iinc (lv' := [_, _, _, _, _, _, _]) pf_50_62 rfl rfl ?_
          refine E_goto pf_50_65 ?_
          refine E_iload pf_50_28 rfl ?_
          refine E_iload pf_50_30 rfl ?_
          refine E_icmp_ge_f pf_50_31 (by omega) ?_
          refine E_aload pf_50_34 rfl ?_
          refine E_iconst pf_50_35 ?_
          refine E_iconst pf_50_36 ?_
          refine F_v3v (l' := [(_, _), (_, _), (_, _), (_, _)]) pf_50_38 (a2) (And.intro rfl (And.intro rfl (trivial))) rfl rfl rfl rfl ?_
          refine E_istore (lv' := [_, _, _, _, _, _, _]) pf_50_41 rfl rfl ?_
          refine E_iload pf_50_43 rfl ?_
          refine E_iconst pf_50_45 ?_
          refine E_icmp_ne_t pf_50_47 (by omega) ?_
          refine E_iload pf_50_52 rfl ?_
          refine E_iconst pf_50_54 ?_
          refine E_imul pf_50_56 ?_
          refine E_iload pf_50_57 rfl ?_
          refine E_iadd pf_50_59 ?_
          refine E_istore (lv' := [_, _, _, _, _, _, _]) pf_50_60 rfl rfl ?_
          refine E_iinc (lv' := [_, _, _, _, _, _, _]) pf_50_62 rfl rfl ?_
          refine E_goto pf_50_65 ?_
          refine E_iload pf_50_28 rfl ?_
          refine E_iload pf_50_30 rfl ?_
          refine E_icmp_ge_t pf_50_31 (by omega) ?_
          refine E_aload pf_50_68 rfl ?_
          refine F_getf pf_50_69 rfl rfl rfl ?_
          refine F_getf pf_50_72 rfl rfl rfl ?_
          refine E_iload pf_50_75 rfl ?_
          refine E_iload pf_50_76 rfl ?_
          refine E_if_eq_f pf_50_77 (by omega) ?_
          refine E_iload pf_50_80 rfl ?_
          refine E_ineg pf_50_82 ?_
          refine E_goto pf_50_83 ?_
          refine E_ti (b := (-((T (p + 1) - 48) * 10 + (T (p + 2) - 48)))) (by omega) ?_
          refine F_iast (l' := [(_, _), (_, _), (_, _), (_, _)]) pf_50_88 rfl (by omega) rfl ?_
          refine E_iconst pf_50_89 ?_
          exact E_iret pf_50_90 rfl
        · refine E_in (lv := [_, _, _, _, _, _]) rfl ?_
          refine E_aload pf_138_0 rfl ?_
          refine E_iconst pf_138_1 ?_
          refine F_v2v (l' := [(_, _), (_, _)]) pf_138_3 (bm) (And.intro rfl (And.intro rfl (trivial))) rfl rfl rfl rfl ?_
          refine E_istore (lv' := [_, _, _, _, _, _]) pf_138_6 rfl rfl ?_
          refine E_iload pf_138_7 rfl ?_
          refine E_if_ne_t pf_138_8 (by omega) ?_
          refine E_iconst pf_138_24 ?_
          refine E_istore (lv' := [_, _, _, _, _, _]) pf_138_25 rfl rfl ?_
          refine E_iconst pf_138_26 ?_
          refine E_istore (lv' := [_, _, _, _, _, _]) pf_138_27 rfl rfl ?_
          refine E_iload pf_138_29 rfl ?_
          refine E_iload pf_138_31 rfl ?_
          refine E_icmp_ge_f pf_138_32 (by omega) ?_
          refine E_aload pf_138_35 rfl ?_
          refine E_iconst pf_138_36 ?_
          refine E_iconst pf_138_37 ?_
          refine F_v3v (l' := [(_, _), (_, _)]) pf_138_39 (b1) (And.intro rfl (And.intro rfl (trivial))) rfl rfl rfl rfl ?_
          refine E_istore (lv' := [_, _, _, _, _, _]) pf_138_42 rfl rfl ?_
          refine E_iload pf_138_44 rfl ?_
          refine E_iconst pf_138_46 ?_
          refine E_icmp_ne_t pf_138_48 (by omega) ?_
          refine E_iconst pf_138_55 ?_
          refine E_iload pf_138_57 rfl ?_
          refine E_imul pf_138_58 ?_
          refine E_iload pf_138_59 rfl ?_
          refine E_iadd pf_138_61 ?_
          refine E_istore (lv' := [_, _, _, _, _, _]) pf_138_62 rfl rfl ?_
          refine E_iinc (lv' := [_, _, _, _, _, _]) pf_138_63 rfl rfl ?_
          refine E_goto pf_138_66 ?_
          refine E_iload pf_138_29 rfl ?_
          refine E_iload pf_138_31 rfl ?_
          refine E_icmp_ge_f pf_138_32 (by omega) ?_
          refine E_aload pf_138_35 rfl ?_
          refine E_iconst pf_138_36 ?_
          refine E_iconst pf_138_37 ?_
          refine F_v3v (l' := [(_, _), (_, _)]) pf_138_39 (b2) (And.intro rfl (And.intro rfl (trivial))) rfl rfl rfl rfl ?_
          refine E_istore (lv' := [_, _, _, _, _, _]) pf_138_42 rfl rfl ?_
          refine E_iload pf_138_44 rfl ?_
          refine E_iconst pf_138_46 ?_
          refine E_icmp_ne_t pf_138_48 (by omega) ?_
          refine E_iconst pf_138_55 ?_
          refine E_iload pf_138_57 rfl ?_
          refine E_imul pf_138_58 ?_
          refine E_iload pf_138_59 rfl ?_
          refine E_iadd pf_138_61 ?_
          refine E_istore (lv' := [_, _, _, _, _, _]) pf_138_62 rfl rfl ?_
          refine E_iinc (lv' := [_, _, _, _, _, _]) pf_138_63 rfl rfl ?_
          refine E_goto pf_138_66 ?_
          refine E_iload pf_138_29 rfl ?_
          refine E_iload pf_138_31 rfl ?_
          refine E_icmp_ge_t pf_138_32 (by omega) ?_
          refine E_iload pf_138_69 rfl ?_
          refine E_if_eq_f pf_138_70 (by omega) ?_
          refine E_iload pf_138_73 rfl ?_
          refine E_ineg pf_138_74 ?_
          refine E_goto pf_138_75 ?_
          refine E_ti (b := (-((T (p + 1) - 48) * 10 + (T (p + 2) - 48)))) (by omega) ?_
          exact E_iret pf_138_79 rfl
  · rw [show sgn T tl p 45 = 0 from if_neg em, Int.add_zero] at am bm
    by_cases ep : p < tl ∧ T p = 43
    · rw [show sgn T tl p 43 = 1 from if_pos ep] at ap bp
      have a1 := c43 (T := T) (tl := tl) (p := p + 1) (lo := 0) (hi := 9) hT ht (by omega) (by omega) (by omega)
      have b1 := c130 (rf := rf) (d := d) (k := kd) (vs := vs) (rw := rw) (rd := rd) (rk := rk) (rv := rv) (rr := rr) (ac := ac) (T := T) (tl := tl) (p := p + 1) (lo := 0) (hi := 9) hT ht (by omega) (by omega) (by omega)
      by_cases e1 : dg T tl 0 9 (p + 1) = -9
      · rw [e1, show nxp (p + 1) (-9) = p + 1 from if_pos rfl] at a1 b1
        refine .inl ⟨p + 1, by omega, fun h => ?_, fun h => ?_⟩
        · refine E_in (lv := [_, _, _, _, _, _, _]) rfl ?_
          refine E_aload pf_50_0 rfl ?_
          refine E_iconst pf_50_1 ?_
          refine F_v2v (l' := [(_, _), (_, _), (_, _), (_, _)]) pf_50_3 (am) (And.intro rfl (And.intro rfl (trivial))) rfl rfl rfl rfl ?_
          refine E_istore (lv' := [_, _, _, _, _, _, _]) pf_50_6 rfl rfl ?_
          refine E_iload pf_50_7 rfl ?_
          refine E_if_ne_f pf_50_8 (by omega) ?_
          refine E_aload pf_50_11 rfl ?_
          refine E_iconst pf_50_12 ?_
          refine F_v2v (l' := [(_, _), (_, _), (_, _), (_, _)]) pf_50_14 (ap) (And.intro rfl (And.intro rfl (trivial))) rfl rfl rfl rfl ?_
          refine E_if_ne_t pf_50_17 (by omega) ?_
          refine E_iconst pf_50_22 ?_
          refine E_istore (lv' := [_, _, _, _, _, _, _]) pf_50_23 rfl rfl ?_
          refine E_iconst pf_50_25 ?_
          refine E_istore (lv' := [_, _, _, _, _, _, _]) pf_50_26 rfl rfl ?_
          refine E_iload pf_50_28 rfl ?_
          refine E_iload pf_50_30 rfl ?_
          refine E_icmp_ge_f pf_50_31 (by omega) ?_
          refine E_aload pf_50_34 rfl ?_
          refine E_iconst pf_50_35 ?_
          refine E_iconst pf_50_36 ?_
          refine F_v3v (l' := [(_, _), (_, _), (_, _), (_, _)]) pf_50_38 (a1) (And.intro rfl (And.intro rfl (trivial))) rfl rfl rfl rfl ?_
          refine E_istore (lv' := [_, _, _, _, _, _, _]) pf_50_41 rfl rfl ?_
          refine E_iload pf_50_43 rfl ?_
          refine E_iconst pf_50_45 ?_
          refine E_icmp_ne_f pf_50_47 (by omega) ?_
          refine E_iconst pf_50_50 ?_
          exact E_iret pf_50_51 rfl
        · refine E_in (lv := [_, _, _, _, _, _]) rfl ?_
          refine E_aload pf_138_0 rfl ?_
          refine E_iconst pf_138_1 ?_
          refine F_v2v (l' := [(_, _), (_, _)]) pf_138_3 (bm) (And.intro rfl (And.intro rfl (trivial))) rfl rfl rfl rfl ?_
          refine E_istore (lv' := [_, _, _, _, _, _]) pf_138_6 rfl rfl ?_
          refine E_iload pf_138_7 rfl ?_
          refine E_if_ne_f pf_138_8 (by omega) ?_
          refine E_aload pf_138_11 rfl ?_
          refine E_iconst pf_138_12 ?_
          refine F_v2v (l' := [(_, _), (_, _)]) pf_138_14 (bp) (And.intro rfl (And.intro rfl (trivial))) rfl rfl rfl rfl ?_
          refine E_if_ne_t pf_138_17 (by omega) ?_
          refine E_iconst pf_138_24 ?_
          refine E_istore (lv' := [_, _, _, _, _, _]) pf_138_25 rfl rfl ?_
          refine E_iconst pf_138_26 ?_
          refine E_istore (lv' := [_, _, _, _, _, _]) pf_138_27 rfl rfl ?_
          refine E_iload pf_138_29 rfl ?_
          refine E_iload pf_138_31 rfl ?_
          refine E_icmp_ge_f pf_138_32 (by omega) ?_
          refine E_aload pf_138_35 rfl ?_
          refine E_iconst pf_138_36 ?_
          refine E_iconst pf_138_37 ?_
          refine F_v3v (l' := [(_, _), (_, _)]) pf_138_39 (b1) (And.intro rfl (And.intro rfl (trivial))) rfl rfl rfl rfl ?_
          refine E_istore (lv' := [_, _, _, _, _, _]) pf_138_42 rfl rfl ?_
          refine E_iload pf_138_44 rfl ?_
          refine E_iconst pf_138_46 ?_
          refine E_icmp_ne_f pf_138_48 (by omega) ?_
          refine E_iconst pf_138_51 ?_
          exact E_iret pf_138_54 rfl
      · have v1 := dg_val e1
        rw [show nxp (p + 1) (dg T tl 0 9 (p + 1)) = p + 2 from by unfold nxp; rw [if_neg e1]; omega, v1.1] at a1 b1
        have a2 := c43 (T := T) (tl := tl) (p := p + 2) (lo := 0) (hi := 9) hT ht (by omega) (by omega) (by omega)
        have b2 := c130 (rf := rf) (d := d) (k := kd) (vs := vs) (rw := rw) (rd := rd) (rk := rk) (rv := rv) (rr := rr) (ac := ac) (T := T) (tl := tl) (p := p + 2) (lo := 0) (hi := 9) hT ht (by omega) (by omega) (by omega)
        by_cases e2 : dg T tl 0 9 (p + 2) = -9
        · rw [e2, show nxp (p + 2) (-9) = p + 2 from if_pos rfl] at a2 b2
          refine .inl ⟨p + 2, by omega, fun h => ?_, fun h => ?_⟩
          · refine E_in (lv := [_, _, _, _, _, _, _]) rfl ?_
            refine E_aload pf_50_0 rfl ?_
            refine E_iconst pf_50_1 ?_
            refine F_v2v (l' := [(_, _), (_, _), (_, _), (_, _)]) pf_50_3 (am) (And.intro rfl (And.intro rfl (trivial))) rfl rfl rfl rfl ?_
            refine E_istore (lv' := [_, _, _, _, _, _, _]) pf_50_6 rfl rfl ?_
            refine E_iload pf_50_7 rfl ?_
            refine E_if_ne_f pf_50_8 (by omega) ?_
            refine E_aload pf_50_11 rfl ?_
            refine E_iconst pf_50_12 ?_
            refine F_v2v (l' := [(_, _), (_, _), (_, _), (_, _)]) pf_50_14 (ap) (And.intro rfl (And.intro rfl (trivial))) rfl rfl rfl rfl ?_
            refine E_if_ne_t pf_50_17 (by omega) ?_
            refine E_iconst pf_50_22 ?_
            refine E_istore (lv' := [_, _, _, _, _, _, _]) pf_50_23 rfl rfl ?_
            refine E_iconst pf_50_25 ?_
            refine E_istore (lv' := [_, _, _, _, _, _, _]) pf_50_26 rfl rfl ?_
            refine E_iload pf_50_28 rfl ?_
            refine E_iload pf_50_30 rfl ?_
            refine E_icmp_ge_f pf_50_31 (by omega) ?_
            refine E_aload pf_50_34 rfl ?_
            refine E_iconst pf_50_35 ?_
            refine E_iconst pf_50_36 ?_
            refine F_v3v (l' := [(_, _), (_, _), (_, _), (_, _)]) pf_50_38 (a1) (And.intro rfl (And.intro rfl (trivial))) rfl rfl rfl rfl ?_
            refine E_istore (lv' := [_, _, _, _, _, _, _]) pf_50_41 rfl rfl ?_
            refine E_iload pf_50_43 rfl ?_
            refine E_iconst pf_50_45 ?_
            refine E_icmp_ne_t pf_50_47 (by omega) ?_
            refine E_iload pf_50_52 rfl ?_
            refine E_iconst pf_50_54 ?_
            refine E_imul pf_50_56 ?_
            refine E_iload pf_50_57 rfl ?_
            refine E_iadd pf_50_59 ?_
            refine E_istore (lv' := [_, _, _, _, _, _, _]) pf_50_60 rfl rfl ?_
            refine E_iinc (lv' := [_, _, _, _, _, _, _]) pf_50_62 rfl rfl ?_
            refine E_goto pf_50_65 ?_
            refine E_iload pf_50_28 rfl ?_
            refine E_iload pf_50_30 rfl ?_
            refine E_icmp_ge_f pf_50_31 (by omega) ?_
            refine E_aload pf_50_34 rfl ?_
            refine E_iconst pf_50_35 ?_
            refine E_iconst pf_50_36 ?_
            refine F_v3v (l' := [(_, _), (_, _), (_, _), (_, _)]) pf_50_38 (a2) (And.intro rfl (And.intro rfl (trivial))) rfl rfl rfl rfl ?_
            refine E_istore (lv' := [_, _, _, _, _, _, _]) pf_50_41 rfl rfl ?_
            refine E_iload pf_50_43 rfl ?_
            refine E_iconst pf_50_45 ?_
            refine E_icmp_ne_f pf_50_47 (by omega) ?_
            refine E_iconst pf_50_50 ?_
            exact E_iret pf_50_51 rfl
          · refine E_in (lv := [_, _, _, _, _, _]) rfl ?_
            refine E_aload pf_138_0 rfl ?_
            refine E_iconst pf_138_1 ?_
            refine F_v2v (l' := [(_, _), (_, _)]) pf_138_3 (bm) (And.intro rfl (And.intro rfl (trivial))) rfl rfl rfl rfl ?_
            refine E_istore (lv' := [_, _, _, _, _, _]) pf_138_6 rfl rfl ?_
            refine E_iload pf_138_7 rfl ?_
            refine E_if_ne_f pf_138_8 (by omega) ?_
            refine E_aload pf_138_11 rfl ?_
            refine E_iconst pf_138_12 ?_
            refine F_v2v (l' := [(_, _), (_, _)]) pf_138_14 (bp) (And.intro rfl (And.intro rfl (trivial))) rfl rfl rfl rfl ?_
            refine E_if_ne_t pf_138_17 (by omega) ?_
            refine E_iconst pf_138_24 ?_
            refine E_istore (lv' := [_, _, _, _, _, _]) pf_138_25 rfl rfl ?_
            refine E_iconst pf_138_26 ?_
            refine E_istore (lv' := [_, _, _, _, _, _]) pf_138_27 rfl rfl ?_
            refine E_iload pf_138_29 rfl ?_
            refine E_iload pf_138_31 rfl ?_
            refine E_icmp_ge_f pf_138_32 (by omega) ?_
            refine E_aload pf_138_35 rfl ?_
            refine E_iconst pf_138_36 ?_
            refine E_iconst pf_138_37 ?_
            refine F_v3v (l' := [(_, _), (_, _)]) pf_138_39 (b1) (And.intro rfl (And.intro rfl (trivial))) rfl rfl rfl rfl ?_
            refine E_istore (lv' := [_, _, _, _, _, _]) pf_138_42 rfl rfl ?_
            refine E_iload pf_138_44 rfl ?_
            refine E_iconst pf_138_46 ?_
            refine E_icmp_ne_t pf_138_48 (by omega) ?_
            refine E_iconst pf_138_55 ?_
            refine E_iload pf_138_57 rfl ?_
            refine E_imul pf_138_58 ?_
            refine E_iload pf_138_59 rfl ?_
            refine E_iadd pf_138_61 ?_
            refine E_istore (lv' := [_, _, _, _, _, _]) pf_138_62 rfl rfl ?_
            refine E_iinc (lv' := [_, _, _, _, _, _]) pf_138_63 rfl rfl ?_
            refine E_goto pf_138_66 ?_
            refine E_iload pf_138_29 rfl ?_
            refine E_iload pf_138_31 rfl ?_
            refine E_icmp_ge_f pf_138_32 (by omega) ?_
            refine E_aload pf_138_35 rfl ?_
            refine E_iconst pf_138_36 ?_
            refine E_iconst pf_138_37 ?_
            refine F_v3v (l' := [(_, _), (_, _)]) pf_138_39 (b2) (And.intro rfl (And.intro rfl (trivial))) rfl rfl rfl rfl ?_
            refine E_istore (lv' := [_, _, _, _, _, _]) pf_138_42 rfl rfl ?_
            refine E_iload pf_138_44 rfl ?_
            refine E_iconst pf_138_46 ?_
            refine E_icmp_ne_f pf_138_48 (by omega) ?_
            refine E_iconst pf_138_51 ?_
            exact E_iret pf_138_54 rfl
        · have v2 := dg_val e2
          rw [show nxp (p + 2) (dg T tl 0 9 (p + 2)) = p + 3 from by unfold nxp; rw [if_neg e2]; omega, v2.1] at a2 b2
          refine .inr ⟨p + 3, ((T (p + 1) - 48) * 10 + (T (p + 2) - 48)), by omega, by omega, fun h => ?_, fun h => ?_⟩
          · refine E_in (lv := [_, _, _, _, _, _, _]) rfl ?_
            refine E_aload pf_50_0 rfl ?_
            refine E_iconst pf_50_1 ?_
            refine F_v2v (l' := [(_, _), (_, _), (_, _), (_, _)]) pf_50_3 (am) (And.intro rfl (And.intro rfl (trivial))) rfl rfl rfl rfl ?_
            refine E_istore (lv' := [_, _, _, _, _, _, _]) pf_50_6 rfl rfl ?_
            refine E_iload pf_50_7 rfl ?_
            refine E_if_ne_f pf_50_8 (by omega) ?_
            refine E_aload pf_50_11 rfl ?_
            refine E_iconst pf_50_12 ?_
            refine F_v2v (l' := [(_, _), (_, _), (_, _), (_, _)]) pf_50_14 (ap) (And.intro rfl (And.intro rfl (trivial))) rfl rfl rfl rfl ?_
            refine E_if_ne_t pf_50_17 (by omega) ?_
            refine E_iconst pf_50_22 ?_
            refine E_istore (lv' := [_, _, _, _, _, _, _]) pf_50_23 rfl rfl ?_
            refine E_iconst pf_50_25 ?_
            refine E_istore (lv' := [_, _, _, _, _, _, _]) pf_50_26 rfl rfl ?_
            refine E_iload pf_50_28 rfl ?_
            refine E_iload pf_50_30 rfl ?_
            refine E_icmp_ge_f pf_50_31 (by omega) ?_
            refine E_aload pf_50_34 rfl ?_
            refine E_iconst pf_50_35 ?_
            refine E_iconst pf_50_36 ?_
            refine F_v3v (l' := [(_, _), (_, _), (_, _), (_, _)]) pf_50_38 (a1) (And.intro rfl (And.intro rfl (trivial))) rfl rfl rfl rfl ?_
            refine E_istore (lv' := [_, _, _, _, _, _, _]) pf_50_41 rfl rfl ?_
            refine E_iload pf_50_43 rfl ?_
            refine E_iconst pf_50_45 ?_
            refine E_icmp_ne_t pf_50_47 (by omega) ?_
            refine E_iload pf_50_52 rfl ?_
            refine E_iconst pf_50_54 ?_
            refine E_imul pf_50_56 ?_
            refine E_iload pf_50_57 rfl ?_
            refine E_iadd pf_50_59 ?_
            refine E_istore (lv' := [_, _, _, _, _, _, _]) pf_50_60 rfl rfl ?_
            refine E_iinc (lv' := [_, _, _, _, _, _, _]) pf_50_62 rfl rfl ?_
            refine E_goto pf_50_65 ?_
            refine E_iload pf_50_28 rfl ?_
            refine E_iload pf_50_30 rfl ?_
            refine E_icmp_ge_f pf_50_31 (by omega) ?_
            refine E_aload pf_50_34 rfl ?_
            refine E_iconst pf_50_35 ?_
            refine E_iconst pf_50_36 ?_
            refine F_v3v (l' := [(_, _), (_, _), (_, _), (_, _)]) pf_50_38 (a2) (And.intro rfl (And.intro rfl (trivial))) rfl rfl rfl rfl ?_
            refine E_istore (lv' := [_, _, _, _, _, _, _]) pf_50_41 rfl rfl ?_
            refine E_iload pf_50_43 rfl ?_
            refine E_iconst pf_50_45 ?_
            refine E_icmp_ne_t pf_50_47 (by omega) ?_
            refine E_iload pf_50_52 rfl ?_
            refine E_iconst pf_50_54 ?_
            refine E_imul pf_50_56 ?_
            refine E_iload pf_50_57 rfl ?_
            refine E_iadd pf_50_59 ?_
            refine E_istore (lv' := [_, _, _, _, _, _, _]) pf_50_60 rfl rfl ?_
            refine E_iinc (lv' := [_, _, _, _, _, _, _]) pf_50_62 rfl rfl ?_
            refine E_goto pf_50_65 ?_
            refine E_iload pf_50_28 rfl ?_
            refine E_iload pf_50_30 rfl ?_
            refine E_icmp_ge_t pf_50_31 (by omega) ?_
            refine E_aload pf_50_68 rfl ?_
            refine F_getf pf_50_69 rfl rfl rfl ?_
            refine F_getf pf_50_72 rfl rfl rfl ?_
            refine E_iload pf_50_75 rfl ?_
            refine E_iload pf_50_76 rfl ?_
            refine E_if_eq_t pf_50_77 (by omega) ?_
            refine E_iload pf_50_86 rfl ?_
            refine E_ti (b := ((T (p + 1) - 48) * 10 + (T (p + 2) - 48))) (by omega) ?_
            refine F_iast (l' := [(_, _), (_, _), (_, _), (_, _)]) pf_50_88 rfl (by omega) rfl ?_
            refine E_iconst pf_50_89 ?_
            exact E_iret pf_50_90 rfl
          · refine E_in (lv := [_, _, _, _, _, _]) rfl ?_
            refine E_aload pf_138_0 rfl ?_
            refine E_iconst pf_138_1 ?_
            refine F_v2v (l' := [(_, _), (_, _)]) pf_138_3 (bm) (And.intro rfl (And.intro rfl (trivial))) rfl rfl rfl rfl ?_
            refine E_istore (lv' := [_, _, _, _, _, _]) pf_138_6 rfl rfl ?_
            refine E_iload pf_138_7 rfl ?_
            refine E_if_ne_f pf_138_8 (by omega) ?_
            refine E_aload pf_138_11 rfl ?_
            refine E_iconst pf_138_12 ?_
            refine F_v2v (l' := [(_, _), (_, _)]) pf_138_14 (bp) (And.intro rfl (And.intro rfl (trivial))) rfl rfl rfl rfl ?_
            refine E_if_ne_t pf_138_17 (by omega) ?_
            refine E_iconst pf_138_24 ?_
            refine E_istore (lv' := [_, _, _, _, _, _]) pf_138_25 rfl rfl ?_
            refine E_iconst pf_138_26 ?_
            refine E_istore (lv' := [_, _, _, _, _, _]) pf_138_27 rfl rfl ?_
            refine E_iload pf_138_29 rfl ?_
            refine E_iload pf_138_31 rfl ?_
            refine E_icmp_ge_f pf_138_32 (by omega) ?_
            refine E_aload pf_138_35 rfl ?_
            refine E_iconst pf_138_36 ?_
            refine E_iconst pf_138_37 ?_
            refine F_v3v (l' := [(_, _), (_, _)]) pf_138_39 (b1) (And.intro rfl (And.intro rfl (trivial))) rfl rfl rfl rfl ?_
            refine E_istore (lv' := [_, _, _, _, _, _]) pf_138_42 rfl rfl ?_
            refine E_iload pf_138_44 rfl ?_
            refine E_iconst pf_138_46 ?_
            refine E_icmp_ne_t pf_138_48 (by omega) ?_
            refine E_iconst pf_138_55 ?_
            refine E_iload pf_138_57 rfl ?_
            refine E_imul pf_138_58 ?_
            refine E_iload pf_138_59 rfl ?_
            refine E_iadd pf_138_61 ?_
            refine E_istore (lv' := [_, _, _, _, _, _]) pf_138_62 rfl rfl ?_
            refine E_iinc (lv' := [_, _, _, _, _, _]) pf_138_63 rfl rfl ?_
            refine E_goto pf_138_66 ?_
            refine E_iload pf_138_29 rfl ?_
            refine E_iload pf_138_31 rfl ?_
            refine E_icmp_ge_f pf_138_32 (by omega) ?_
            refine E_aload pf_138_35 rfl ?_
            refine E_iconst pf_138_36 ?_
            refine E_iconst pf_138_37 ?_
            refine F_v3v (l' := [(_, _), (_, _)]) pf_138_39 (b2) (And.intro rfl (And.intro rfl (trivial))) rfl rfl rfl rfl ?_
            refine E_istore (lv' := [_, _, _, _, _, _]) pf_138_42 rfl rfl ?_
            refine E_iload pf_138_44 rfl ?_
            refine E_iconst pf_138_46 ?_
            refine E_icmp_ne_t pf_138_48 (by omega) ?_
            refine E_iconst pf_138_55 ?_
            refine E_iload pf_138_57 rfl ?_
            refine E_imul pf_138_58 ?_
            refine E_iload pf_138_59 rfl ?_
            refine E_iadd pf_138_61 ?_
            refine E_istore (lv' := [_, _, _, _, _, _]) pf_138_62 rfl rfl ?_
            refine E_iinc (lv' := [_, _, _, _, _, _]) pf_138_63 rfl rfl ?_
            refine E_goto pf_138_66 ?_
            refine E_iload pf_138_29 rfl ?_
            refine E_iload pf_138_31 rfl ?_
            refine E_icmp_ge_t pf_138_32 (by omega) ?_
            refine E_iload pf_138_69 rfl ?_
            refine E_if_eq_t pf_138_70 (by omega) ?_
            refine E_iload pf_138_78 rfl ?_
            refine E_ti (b := ((T (p + 1) - 48) * 10 + (T (p + 2) - 48))) (by omega) ?_
            exact E_iret pf_138_79 rfl
    · rw [show sgn T tl p 43 = 0 from if_neg ep, Int.add_zero] at ap bp
      refine .inl ⟨p, hp, fun h => ?_, fun h => ?_⟩
      · refine E_in (lv := [_, _, _, _, _, _, _]) rfl ?_
        refine E_aload pf_50_0 rfl ?_
        refine E_iconst pf_50_1 ?_
        refine F_v2v (l' := [(_, _), (_, _), (_, _), (_, _)]) pf_50_3 (am) (And.intro rfl (And.intro rfl (trivial))) rfl rfl rfl rfl ?_
        refine E_istore (lv' := [_, _, _, _, _, _, _]) pf_50_6 rfl rfl ?_
        refine E_iload pf_50_7 rfl ?_
        refine E_if_ne_f pf_50_8 (by omega) ?_
        refine E_aload pf_50_11 rfl ?_
        refine E_iconst pf_50_12 ?_
        refine F_v2v (l' := [(_, _), (_, _), (_, _), (_, _)]) pf_50_14 (ap) (And.intro rfl (And.intro rfl (trivial))) rfl rfl rfl rfl ?_
        refine E_if_ne_f pf_50_17 (by omega) ?_
        refine E_iconst pf_50_20 ?_
        exact E_iret pf_50_21 rfl
      · refine E_in (lv := [_, _, _, _, _, _]) rfl ?_
        refine E_aload pf_138_0 rfl ?_
        refine E_iconst pf_138_1 ?_
        refine F_v2v (l' := [(_, _), (_, _)]) pf_138_3 (bm) (And.intro rfl (And.intro rfl (trivial))) rfl rfl rfl rfl ?_
        refine E_istore (lv' := [_, _, _, _, _, _]) pf_138_6 rfl rfl ?_
        refine E_iload pf_138_7 rfl ?_
        refine E_if_ne_f pf_138_8 (by omega) ?_
        refine E_aload pf_138_11 rfl ?_
        refine E_iconst pf_138_12 ?_
        refine F_v2v (l' := [(_, _), (_, _)]) pf_138_14 (bp) (And.intro rfl (And.intro rfl (trivial))) rfl rfl rfl rfl ?_
        refine E_if_ne_f pf_138_17 (by omega) ?_
        refine E_iconst pf_138_20 ?_
        exact E_iret pf_138_23 rfl
theorem row_loop {k : Nat} (hT : ∀ i, 0 ≤ T i ∧ T i ≤ 255) (ht : tl ≤ 90) (hk : k < 4) (hd : dn ≤ 4) : ∀ (m j : Nat) (p : Int) (R G : Int → Int), j + m = dn → (0 ≤ p ∧ p ≤ tl) → agr R G → rbd R → ∃ (b p' : Int) (R' G' : Int → Int), (b = 0 ∨ b = 1) ∧ (0 ≤ p' ∧ p' ≤ tl) ∧ (b = 1 → agr R' G' ∧ rbd R') ∧ (∀ h, Rn 49 13 [.ref 3, .int (ii ((k : Int) * 5)), .int (ii (j : Int))] [] (wd [(2, ar 90 T), (3, oR tl p), (5, oP5 (dn : Int) k5 n5), (9, oS9 rc m0 s0 r0), (10, ar 20 R)] h) (.inl (some (.int (ii b))), wd [(2, ar 90 T), (3, oR tl p'), (5, oP5 (dn : Int) k5 n5), (9, oS9 rc m0 s0 r0), (10, ar 20 R')] h)) ∧ ∀ (h : pd_H) (w2 : Value), Rn 139 13 [.ref 102, .int (ii (j : Int)), w2] [] (wd [(102, oX6 rf tl p d kd vs rw (dn : Int) rk rv (k : Int) ac), (103, ar 90 T), (106, ar 72 G)] h) (.inl (some (.int (ii b))), wd [(102, oX6 rf tl p' d kd vs rw (dn : Int) rk rv ((k : Int) + if b = 1 then 1 else 0) ac), (103, ar 90 T), (106, ar 72 G')] h) := by
  intro m
  induction m with
  | zero =>
    intro j p R G hj hp ha hb
    obtain rfl : dn = j := by omega
    rcases sgd2 (rf := rf) (d := d) (kd := kd) (vs := vs) (rw := rw) (rd := (dn : Int)) (rk := rk) (rv := rv) (rr := (k : Int)) (ac := ac) (rc := rc) (m0 := m0) (s0 := s0) (r0 := r0) (R := R) (T := T) (tl := tl) (p := p) (pl := (k : Int) * 5 + 4) hT ht hp (by omega) with ⟨p', e1, e2, e3⟩ | ⟨p', v, e1, e2, e3, e4⟩
    · refine ⟨0, p', R, G, .inl rfl, e1, fun q => absurd q (by omega), fun h => ?_, fun h w2 => ?_⟩
      ·
        refine E_iload pf_49_13 rfl ?_
        refine E_aload pf_49_14 rfl ?_
        refine F_getf pf_49_15 rfl rfl rfl ?_
        refine F_getf pf_49_18 rfl rfl rfl ?_
        refine E_icmp_ge_t pf_49_21 (by omega) ?_
        refine E_aload pf_49_48 rfl ?_
        refine E_iload pf_49_49 rfl ?_
        refine E_iconst pf_49_50 ?_
        refine E_iadd pf_49_51 ?_
        refine E_iconst pf_49_52 ?_
        refine F_v3v (l' := [(_, _), (_, _), (_, _), (_, _), (_, _)]) pf_49_53 (e2) (And.intro rfl (And.intro rfl (And.intro rfl (And.intro rfl (trivial))))) rfl rfl rfl rfl ?_
        exact E_iret pf_49_56 rfl
      · rw [if_neg (by omega), Int.add_zero]
        refine E_iload pf_139_13 rfl ?_
        refine E_aload pf_139_14 rfl ?_
        refine F_getf pf_139_15 rfl rfl rfl ?_
        refine E_icmp_gt_f pf_139_18 (by omega) ?_
        refine E_aload pf_139_21 rfl ?_
        refine E_iload pf_139_22 rfl ?_
        refine E_aload pf_139_23 rfl ?_
        refine F_getf pf_139_24 rfl rfl rfl ?_
        refine E_icmp_ne_f pf_139_27 (by omega) ?_
        refine E_iconst pf_139_30 ?_
        refine E_goto pf_139_31 ?_
        refine F_v2v (l' := [(_, _), (_, _), (_, _)]) pf_139_35 (e3) (And.intro rfl (And.intro rfl (trivial))) rfl rfl rfl rfl ?_
        refine E_istore (lv' := [_, _, _]) pf_139_38 rfl rfl ?_
        refine E_iload pf_139_39 rfl ?_
        refine E_iconst pf_139_40 ?_
        refine E_icmp_ne_f pf_139_43 (by omega) ?_
        refine E_iconst pf_139_46 ?_
        exact E_iret pf_139_47 rfl
    · refine ⟨1, p', zu R ((k : Int) * 5 + 4) v, zu G (5 * (k : Int) + 4) v, .inr rfl, e1, fun _ => ⟨by rw [Int.mul_comm 5]; exact agr_u ha, rbd_t hb e2⟩, fun h => ?_, fun h w2 => ?_⟩
      ·
        refine E_iload pf_49_13 rfl ?_
        refine E_aload pf_49_14 rfl ?_
        refine F_getf pf_49_15 rfl rfl rfl ?_
        refine F_getf pf_49_18 rfl rfl rfl ?_
        refine E_icmp_ge_t pf_49_21 (by omega) ?_
        refine E_aload pf_49_48 rfl ?_
        refine E_iload pf_49_49 rfl ?_
        refine E_iconst pf_49_50 ?_
        refine E_iadd pf_49_51 ?_
        refine E_iconst pf_49_52 ?_
        refine F_v3v (l' := [(_, _), (_, _), (_, _), (_, _), (_, _)]) pf_49_53 (e3) (And.intro rfl (And.intro rfl (And.intro rfl (And.intro rfl (trivial))))) rfl rfl rfl rfl ?_
        exact E_iret pf_49_56 rfl
      · rw [if_pos rfl]
        refine E_iload pf_139_13 rfl ?_
        refine E_aload pf_139_14 rfl ?_
        refine F_getf pf_139_15 rfl rfl rfl ?_
        refine E_icmp_gt_f pf_139_18 (by omega) ?_
        refine E_aload pf_139_21 rfl ?_
        refine E_iload pf_139_22 rfl ?_
        refine E_aload pf_139_23 rfl ?_
        refine F_getf pf_139_24 rfl rfl rfl ?_
        refine E_icmp_ne_f pf_139_27 (by omega) ?_
        refine E_iconst pf_139_30 ?_
        refine E_goto pf_139_31 ?_
        refine F_v2v (l' := [(_, _), (_, _), (_, _)]) pf_139_35 (e4) (And.intro rfl (And.intro rfl (trivial))) rfl rfl rfl rfl ?_
        refine E_istore (lv' := [_, _, _]) pf_139_38 rfl rfl ?_
        refine E_iload pf_139_39 rfl ?_
        refine E_iconst pf_139_40 ?_
        refine E_icmp_ne_t pf_139_43 (by omega) ?_
        refine E_aload pf_139_48 rfl ?_
        refine F_getf pf_139_49 rfl rfl rfl ?_
        refine E_iconst pf_139_52 ?_
        refine E_aload pf_139_53 rfl ?_
        refine F_getf pf_139_54 rfl rfl rfl ?_
        refine E_imul pf_139_57 ?_
        refine E_iload pf_139_58 rfl ?_
        refine E_aload pf_139_59 rfl ?_
        refine F_getf pf_139_60 rfl rfl rfl ?_
        refine E_icmp_ne_f pf_139_63 (by omega) ?_
        refine E_iconst pf_139_66 ?_
        refine E_goto pf_139_67 ?_
        refine E_iadd pf_139_71 ?_
        refine E_iload pf_139_72 rfl ?_
        refine F_iast (l' := [(_, _), (_, _), (_, _)]) pf_139_73 rfl (by omega) rfl ?_
        refine E_iinc (lv' := [_, _, _]) pf_139_74 rfl rfl ?_
        refine E_goto pf_139_77 ?_
        refine E_iload pf_139_13 rfl ?_
        refine E_aload pf_139_14 rfl ?_
        refine F_getf pf_139_15 rfl rfl rfl ?_
        refine E_icmp_gt_t pf_139_18 (by omega) ?_
        refine E_aload pf_139_80 rfl ?_
        refine E_dup pf_139_81 rfl ?_
        refine F_getf pf_139_82 rfl rfl rfl ?_
        refine E_iconst pf_139_85 ?_
        refine E_iadd pf_139_86 ?_
        refine F_putf (l' := [(_, _), (_, _), (_, _)]) (x := ob _ [_, _, _, _, _, _, _, _, _, _, _, _, _, _, _, _, _, _, _, _, _, _, _, _, _]) pf_139_87 rfl rfl rfl rfl rfl ?_
        refine E_iconst pf_139_90 ?_
        exact E_iret pf_139_91 rfl
  | succ m ih =>
    intro j p R G hj hp ha hb
    rcases sgd1 (rf := rf) (d := d) (kd := kd) (vs := vs) (rw := rw) (rd := (dn : Int)) (rk := rk) (rv := rv) (rr := (k : Int)) (ac := ac) (rc := rc) (m0 := m0) (s0 := s0) (r0 := r0) (R := R) (T := T) (tl := tl) (p := p) (pl := (k : Int) * 5 + (j : Int)) hT ht hp (by omega) with ⟨p', e1, e2, e3⟩ | ⟨p', v, e1, e2, e3, e4⟩
    · refine ⟨0, p', R, G, .inl rfl, e1, fun q => absurd q (by omega), fun h => ?_, fun h w2 => ?_⟩
      ·
        refine E_iload pf_49_13 rfl ?_
        refine E_aload pf_49_14 rfl ?_
        refine F_getf pf_49_15 rfl rfl rfl ?_
        refine F_getf pf_49_18 rfl rfl rfl ?_
        refine E_icmp_ge_f pf_49_21 (by omega) ?_
        refine E_iload pf_49_24 rfl ?_
        refine E_iconst pf_49_25 ?_
        refine E_icmp_ge_f pf_49_26 (by omega) ?_
        refine E_aload pf_49_29 rfl ?_
        refine E_iload pf_49_30 rfl ?_
        refine E_iload pf_49_31 rfl ?_
        refine E_iadd pf_49_32 ?_
        refine E_iconst pf_49_33 ?_
        refine F_v3v (l' := [(_, _), (_, _), (_, _), (_, _), (_, _)]) pf_49_34 (e2) (And.intro rfl (And.intro rfl (And.intro rfl (And.intro rfl (trivial))))) rfl rfl rfl rfl ?_
        refine E_if_ne_f pf_49_37 (by omega) ?_
        refine E_iconst pf_49_40 ?_
        exact E_iret pf_49_41 rfl
      · rw [if_neg (by omega), Int.add_zero]
        refine E_iload pf_139_13 rfl ?_
        refine E_aload pf_139_14 rfl ?_
        refine F_getf pf_139_15 rfl rfl rfl ?_
        refine E_icmp_gt_f pf_139_18 (by omega) ?_
        refine E_aload pf_139_21 rfl ?_
        refine E_iload pf_139_22 rfl ?_
        refine E_aload pf_139_23 rfl ?_
        refine F_getf pf_139_24 rfl rfl rfl ?_
        refine E_icmp_ne_t pf_139_27 (by omega) ?_
        refine E_iconst pf_139_34 ?_
        refine F_v2v (l' := [(_, _), (_, _), (_, _)]) pf_139_35 (e3) (And.intro rfl (And.intro rfl (trivial))) rfl rfl rfl rfl ?_
        refine E_istore (lv' := [_, _, _]) pf_139_38 rfl rfl ?_
        refine E_iload pf_139_39 rfl ?_
        refine E_iconst pf_139_40 ?_
        refine E_icmp_ne_f pf_139_43 (by omega) ?_
        refine E_iconst pf_139_46 ?_
        exact E_iret pf_139_47 rfl
    · obtain ⟨b, p2, R2, G2, f1, f2, f3, f4, f5⟩ := ih (j + 1) p' (zu R ((k : Int) * 5 + (j : Int)) v) (zu G (5 * (k : Int) + (j : Int)) v) (by omega) e1 (by rw [Int.mul_comm 5]; exact agr_u ha) (rbd_f hb (by omega) e2)
      refine ⟨b, p2, R2, G2, f1, f2, f3, fun h => ?_, fun h w2 => ?_⟩
      ·
        refine E_iload pf_49_13 rfl ?_
        refine E_aload pf_49_14 rfl ?_
        refine F_getf pf_49_15 rfl rfl rfl ?_
        refine F_getf pf_49_18 rfl rfl rfl ?_
        refine E_icmp_ge_f pf_49_21 (by omega) ?_
        refine E_iload pf_49_24 rfl ?_
        refine E_iconst pf_49_25 ?_
        refine E_icmp_ge_f pf_49_26 (by omega) ?_
        refine E_aload pf_49_29 rfl ?_
        refine E_iload pf_49_30 rfl ?_
        refine E_iload pf_49_31 rfl ?_
        refine E_iadd pf_49_32 ?_
        refine E_iconst pf_49_33 ?_
        refine F_v3v (l' := [(_, _), (_, _), (_, _), (_, _), (_, _)]) pf_49_34 (e3) (And.intro rfl (And.intro rfl (And.intro rfl (And.intro rfl (trivial))))) rfl rfl rfl rfl ?_
        refine E_if_ne_t pf_49_37 (by omega) ?_
        refine E_iinc (lv' := [_, _, _]) pf_49_42 rfl rfl ?_
        refine E_goto pf_49_45 ?_
        exact f4 h
      ·
        refine E_iload pf_139_13 rfl ?_
        refine E_aload pf_139_14 rfl ?_
        refine F_getf pf_139_15 rfl rfl rfl ?_
        refine E_icmp_gt_f pf_139_18 (by omega) ?_
        refine E_aload pf_139_21 rfl ?_
        refine E_iload pf_139_22 rfl ?_
        refine E_aload pf_139_23 rfl ?_
        refine F_getf pf_139_24 rfl rfl rfl ?_
        refine E_icmp_ne_t pf_139_27 (by omega) ?_
        refine E_iconst pf_139_34 ?_
        refine F_v2v (l' := [(_, _), (_, _), (_, _)]) pf_139_35 (e4) (And.intro rfl (And.intro rfl (trivial))) rfl rfl rfl rfl ?_
        refine E_istore (lv' := [_, _, _]) pf_139_38 rfl rfl ?_
        refine E_iload pf_139_39 rfl ?_
        refine E_iconst pf_139_40 ?_
        refine E_icmp_ne_t pf_139_43 (by omega) ?_
        refine E_aload pf_139_48 rfl ?_
        refine F_getf pf_139_49 rfl rfl rfl ?_
        refine E_iconst pf_139_52 ?_
        refine E_aload pf_139_53 rfl ?_
        refine F_getf pf_139_54 rfl rfl rfl ?_
        refine E_imul pf_139_57 ?_
        refine E_iload pf_139_58 rfl ?_
        refine E_aload pf_139_59 rfl ?_
        refine F_getf pf_139_60 rfl rfl rfl ?_
        refine E_icmp_ne_t pf_139_63 (by omega) ?_
        refine E_iload pf_139_70 rfl ?_
        refine E_iadd pf_139_71 ?_
        refine E_iload pf_139_72 rfl ?_
        refine F_iast (l' := [(_, _), (_, _), (_, _)]) pf_139_73 rfl (by omega) rfl ?_
        refine E_iinc (lv' := [_, _, _]) pf_139_74 rfl rfl ?_
        refine E_goto pf_139_77 ?_
        exact f5 h _
theorem row1 {k : Nat} (hT : ∀ i, 0 ≤ T i ∧ T i ≤ 255) (ht : tl ≤ 90) (hk : k < 4) (hd : dn ≤ 4) (hp : 0 ≤ p ∧ p ≤ tl) (ha : agr R G) (hb : rbd R) : ∃ (b p' : Int) (R' G' : Int → Int), (b = 0 ∨ b = 1) ∧ (0 ≤ p' ∧ p' ≤ tl) ∧ (b = 1 → agr R' G' ∧ rbd R') ∧ (∀ h, Ca 49 [.ref 3, .int (ii ((k : Int) * 5))] (wd [(2, ar 90 T), (3, oR tl p), (5, oP5 (dn : Int) k5 n5), (9, oS9 rc m0 s0 r0), (10, ar 20 R)] h) (.inl (some (.int (ii b))), wd [(2, ar 90 T), (3, oR tl p'), (5, oP5 (dn : Int) k5 n5), (9, oS9 rc m0 s0 r0), (10, ar 20 R')] h)) ∧ ∀ h, Ca 139 [.ref 102] (wd [(102, oX6 rf tl p d kd vs rw (dn : Int) rk rv (k : Int) ac), (103, ar 90 T), (106, ar 72 G)] h) (.inl (some (.int (ii b))), wd [(102, oX6 rf tl p' d kd vs rw (dn : Int) rk rv ((k : Int) + if b = 1 then 1 else 0) ac), (103, ar 90 T), (106, ar 72 G')] h) := by
  have c1 := c42 (T := T) (tl := tl) (p := p) (c := 114) hT ht hp (by omega)
  have c2 := c129 (rf := rf) (d := d) (k := kd) (vs := vs) (rw := rw) (rd := (dn : Int)) (rk := rk) (rv := rv) (rr := (k : Int)) (ac := ac) (T := T) (tl := tl) (p := p) (c := 114) hT ht hp (by omega)
  by_cases e : p < tl ∧ T p = 114
  · rw [show sgn T tl p 114 = 1 from if_pos e] at c1 c2
    obtain ⟨b, p2, R2, G2, f1, f2, f3, f4, f5⟩ := row_loop (rf := rf) (d := d) (kd := kd) (vs := vs) (rw := rw) (rk := rk) (rv := rv) (ac := ac) (rc := rc) (m0 := m0) (s0 := s0) (r0 := r0) (k5 := k5) (n5 := n5) (k := k) hT ht hk hd dn 0 (p + 1) R G (by omega) (by omega) ha hb
    refine ⟨b, p2, R2, G2, f1, f2, f3, fun h => ?_, fun h => ?_⟩
    · refine E_in (lv := [_, _, _]) rfl ?_
      refine E_aload pf_49_0 rfl ?_
      refine E_iconst pf_49_1 ?_
      refine F_v2v (l' := [(_, _), (_, _), (_, _), (_, _), (_, _)]) pf_49_3 (c1) (And.intro rfl (And.intro rfl (trivial))) rfl rfl rfl rfl ?_
      refine E_if_ne_t pf_49_6 (by omega) ?_
      refine E_iconst pf_49_11 ?_
      refine E_istore (lv' := [_, _, _]) pf_49_12 rfl rfl ?_
      exact f4 h
    · refine E_in (lv := [_, _, _]) rfl ?_
      refine E_aload pf_139_0 rfl ?_
      refine E_iconst pf_139_1 ?_
      refine F_v2v (l' := [(_, _), (_, _), (_, _)]) pf_139_3 (c2) (And.intro rfl (And.intro rfl (trivial))) rfl rfl rfl rfl ?_
      refine E_if_ne_t pf_139_6 (by omega) ?_
      refine E_iconst pf_139_11 ?_
      refine E_istore (lv' := [_, _, _]) pf_139_12 rfl rfl ?_
      exact f5 h _
  · rw [show sgn T tl p 114 = 0 from if_neg e, Int.add_zero] at c1 c2
    refine ⟨0, p, R, G, .inl rfl, hp, fun q => absurd q (by omega), fun h => ?_, fun h => ?_⟩
    · refine E_in (lv := [_, _, _]) rfl ?_
      refine E_aload pf_49_0 rfl ?_
      refine E_iconst pf_49_1 ?_
      refine F_v2v (l' := [(_, _), (_, _), (_, _), (_, _), (_, _)]) pf_49_3 (c1) (And.intro rfl (And.intro rfl (trivial))) rfl rfl rfl rfl ?_
      refine E_if_ne_f pf_49_6 (by omega) ?_
      refine E_iconst pf_49_9 ?_
      exact E_iret pf_49_10 rfl
    · rw [if_neg (by omega), Int.add_zero]
      refine E_in (lv := [_, _, _]) rfl ?_
      refine E_aload pf_139_0 rfl ?_
      refine E_iconst pf_139_1 ?_
      refine F_v2v (l' := [(_, _), (_, _), (_, _)]) pf_139_3 (c2) (And.intro rfl (And.intro rfl (trivial))) rfl rfl rfl rfl ?_
      refine E_if_ne_f pf_139_6 (by omega) ?_
      refine E_iconst pf_139_9 ?_
      exact E_iret pf_139_10 rfl
theorem rows_loop (hT : ∀ i, 0 ≤ T i ∧ T i ≤ 255) (ht : tl ≤ 90) (hd : dn ≤ 4) : ∀ (m k : Nat) (p : Int) (R G : Int → Int), k + m = 4 → 1 ≤ k → (0 ≤ p ∧ p ≤ tl) → agr R G → rbd R → ∃ (b p' : Int) (rn : Nat) (R' G' : Int → Int), (b = 0 ∨ b = 1) ∧ (0 ≤ p' ∧ p' ≤ tl) ∧ (b = 1 → agr R' G' ∧ rbd R' ∧ 1 ≤ rn ∧ rn ≤ 4) ∧ (∀ h, Rn 48 7 [.ref 3] [] (wd [(2, ar 90 T), (3, oR tl p), (5, oP5 (dn : Int) k5 n5), (9, oS9 (k : Int) m0 s0 r0), (10, ar 20 R)] h) (.inl (some (.int (ii b))), wd [(2, ar 90 T), (3, oR tl p'), (5, oP5 (dn : Int) k5 n5), (9, oS9 (rn : Int) m0 s0 r0), (10, ar 20 R')] h)) ∧ ∀ (h : pd_H) (w1 : Value), Rn 140 82 [.ref 102, w1] [] (wd [(102, oX6 rf tl p d kd vs rw (dn : Int) rk rv (k : Int) ac), (103, ar 90 T), (106, ar 72 G)] h) (.inl (some (.int (ii b))), wd [(102, oX6 rf tl p' d kd vs rw (dn : Int) rk rv (rn : Int) ac), (103, ar 90 T), (106, ar 72 G')] h) := by
  intro m
  induction m with
  | zero =>
    intro k p R G hk hk1 hp ha hb
    obtain rfl : k = 4 := by omega
    by_cases e : p < tl
    · refine ⟨0, p, 4, R, G, .inl rfl, hp, fun q => absurd q (by omega), fun h => ?_, fun h w1 => ?_⟩
      ·
        refine E_aload pf_48_7 rfl ?_
        refine F_getf pf_48_8 rfl rfl rfl ?_
        refine F_getf pf_48_11 rfl rfl rfl ?_
        refine E_iconst pf_48_14 ?_
        refine E_icmp_ge_t pf_48_15 (by omega) ?_
        refine E_aload pf_48_73 rfl ?_
        refine F_getf pf_48_74 rfl rfl rfl ?_
        refine E_aload pf_48_77 rfl ?_
        refine F_getf pf_48_78 rfl rfl rfl ?_
        refine E_icmp_ne_t pf_48_81 (by omega) ?_
        refine E_iconst pf_48_88 ?_
        exact E_iret pf_48_89 rfl
      ·
        refine E_aload pf_140_82 rfl ?_
        refine F_getf pf_140_83 rfl rfl rfl ?_
        refine E_aload pf_140_86 rfl ?_
        refine F_getf pf_140_87 rfl rfl rfl ?_
        refine E_icmp_ge_f pf_140_90 (by omega) ?_
        refine E_aload pf_140_93 rfl ?_
        refine F_getf pf_140_94 rfl rfl rfl ?_
        refine E_iconst pf_140_97 ?_
        refine E_icmp_eq_t pf_140_98 (by omega) ?_
        refine E_iconst pf_140_108 ?_
        exact E_iret pf_140_109 rfl
    · refine ⟨1, p, 4, R, G, .inr rfl, hp, fun _ => ⟨ha, hb, by omega, by omega⟩, fun h => ?_, fun h w1 => ?_⟩
      ·
        refine E_aload pf_48_7 rfl ?_
        refine F_getf pf_48_8 rfl rfl rfl ?_
        refine F_getf pf_48_11 rfl rfl rfl ?_
        refine E_iconst pf_48_14 ?_
        refine E_icmp_ge_t pf_48_15 (by omega) ?_
        refine E_aload pf_48_73 rfl ?_
        refine F_getf pf_48_74 rfl rfl rfl ?_
        refine E_aload pf_48_77 rfl ?_
        refine F_getf pf_48_78 rfl rfl rfl ?_
        refine E_icmp_ne_f pf_48_81 (by omega) ?_
        refine E_iconst pf_48_84 ?_
        refine E_goto pf_48_85 ?_
        exact E_iret pf_48_89 rfl
      ·
        refine E_aload pf_140_82 rfl ?_
        refine F_getf pf_140_83 rfl rfl rfl ?_
        refine E_aload pf_140_86 rfl ?_
        refine F_getf pf_140_87 rfl rfl rfl ?_
        refine E_icmp_ge_t pf_140_90 (by omega) ?_
        refine E_iconst pf_140_110 ?_
        exact E_iret pf_140_111 rfl
  | succ m ih =>
    intro k p R G hk hk1 hp ha hb
    by_cases e : p < tl
    · obtain ⟨b, p2, R2, G2, f1, f2, f3, f4, f5⟩ := row1 (rf := rf) (d := d) (kd := kd) (vs := vs) (rw := rw) (rk := rk) (rv := rv) (ac := ac) (rc := (k : Int)) (m0 := m0) (s0 := s0) (r0 := r0) (k5 := k5) (n5 := n5) (k := k) (dn := dn) (T := T) (tl := tl) (R := R) (G := G) (p := p) hT ht (by omega) hd hp ha hb
      rcases f1 with q | q <;> subst q
      · rw [if_neg (by omega), Int.add_zero] at f5
        refine ⟨0, p2, k, R2, G2, .inl rfl, f2, fun q => absurd q (by omega), fun h => ?_, fun h w1 => ?_⟩
        ·
          refine E_aload pf_48_7 rfl ?_
          refine F_getf pf_48_8 rfl rfl rfl ?_
          refine F_getf pf_48_11 rfl rfl rfl ?_
          refine E_iconst pf_48_14 ?_
          refine E_icmp_ge_f pf_48_15 (by omega) ?_
          refine E_aload pf_48_18 rfl ?_
          refine F_getf pf_48_19 rfl rfl rfl ?_
          refine F_getf pf_48_22 rfl rfl rfl ?_
          refine E_if_eq_f pf_48_25 (by omega) ?_
          refine E_aload pf_48_28 rfl ?_
          refine F_getf pf_48_29 rfl rfl rfl ?_
          refine E_aload pf_48_32 rfl ?_
          refine F_getf pf_48_33 rfl rfl rfl ?_
          refine E_icmp_ge_f pf_48_36 (by omega) ?_
          refine E_aload pf_48_39 rfl ?_
          refine E_aload pf_48_40 rfl ?_
          refine F_getf pf_48_41 rfl rfl rfl ?_
          refine F_getf pf_48_44 rfl rfl rfl ?_
          refine E_iconst pf_48_47 ?_
          refine E_imul pf_48_48 ?_
          refine F_v2v (l' := [(_, _), (_, _), (_, _), (_, _), (_, _)]) pf_48_49 (f4) (And.intro rfl (And.intro rfl (And.intro rfl (And.intro rfl (And.intro rfl (trivial)))))) rfl rfl rfl rfl ?_
          refine E_if_ne_f pf_48_52 (by omega) ?_
          refine E_iconst pf_48_55 ?_
          exact E_iret pf_48_56 rfl
        ·
          refine E_aload pf_140_82 rfl ?_
          refine F_getf pf_140_83 rfl rfl rfl ?_
          refine E_aload pf_140_86 rfl ?_
          refine F_getf pf_140_87 rfl rfl rfl ?_
          refine E_icmp_ge_f pf_140_90 (by omega) ?_
          refine E_aload pf_140_93 rfl ?_
          refine F_getf pf_140_94 rfl rfl rfl ?_
          refine E_iconst pf_140_97 ?_
          refine E_icmp_eq_f pf_140_98 (by omega) ?_
          refine E_aload pf_140_101 rfl ?_
          refine F_v1v (l' := [(_, _), (_, _), (_, _)]) pf_140_102 (f5) (And.intro rfl (And.intro rfl (And.intro rfl (trivial)))) rfl rfl rfl rfl ?_
          refine E_if_ne_f pf_140_105 (by omega) ?_
          refine E_iconst pf_140_108 ?_
          exact E_iret pf_140_109 rfl
      · rw [if_pos rfl] at f5
        obtain ⟨g1, g2⟩ := f3 rfl
        obtain ⟨b, p3, rn, R3, G3, a1, a2, a3, a4, a5⟩ := ih (k + 1) p2 R2 G2 (by omega) (by omega) f2 g1 g2
        refine ⟨b, p3, rn, R3, G3, a1, a2, a3, fun h => ?_, fun h w1 => ?_⟩
        ·
          refine E_aload pf_48_7 rfl ?_
          refine F_getf pf_48_8 rfl rfl rfl ?_
          refine F_getf pf_48_11 rfl rfl rfl ?_
          refine E_iconst pf_48_14 ?_
          refine E_icmp_ge_f pf_48_15 (by omega) ?_
          refine E_aload pf_48_18 rfl ?_
          refine F_getf pf_48_19 rfl rfl rfl ?_
          refine F_getf pf_48_22 rfl rfl rfl ?_
          refine E_if_eq_f pf_48_25 (by omega) ?_
          refine E_aload pf_48_28 rfl ?_
          refine F_getf pf_48_29 rfl rfl rfl ?_
          refine E_aload pf_48_32 rfl ?_
          refine F_getf pf_48_33 rfl rfl rfl ?_
          refine E_icmp_ge_f pf_48_36 (by omega) ?_
          refine E_aload pf_48_39 rfl ?_
          refine E_aload pf_48_40 rfl ?_
          refine F_getf pf_48_41 rfl rfl rfl ?_
          refine F_getf pf_48_44 rfl rfl rfl ?_
          refine E_iconst pf_48_47 ?_
          refine E_imul pf_48_48 ?_
          refine F_v2v (l' := [(_, _), (_, _), (_, _), (_, _), (_, _)]) pf_48_49 (f4) (And.intro rfl (And.intro rfl (And.intro rfl (And.intro rfl (And.intro rfl (trivial)))))) rfl rfl rfl rfl ?_
          refine E_if_ne_t pf_48_52 (by omega) ?_
          refine E_aload pf_48_57 rfl ?_
          refine F_getf pf_48_58 rfl rfl rfl ?_
          refine E_dup pf_48_61 rfl ?_
          refine F_getf pf_48_62 rfl rfl rfl ?_
          refine E_iconst pf_48_65 ?_
          refine E_iadd pf_48_66 ?_
          refine F_putf (l' := [(_, _), (_, _), (_, _), (_, _), (_, _)]) (x := ob _ [_, _, _, _, _, _, _]) pf_48_67 rfl rfl rfl rfl rfl ?_
          refine E_goto pf_48_70 ?_
          exact a4 h
        ·
          refine E_aload pf_140_82 rfl ?_
          refine F_getf pf_140_83 rfl rfl rfl ?_
          refine E_aload pf_140_86 rfl ?_
          refine F_getf pf_140_87 rfl rfl rfl ?_
          refine E_icmp_ge_f pf_140_90 (by omega) ?_
          refine E_aload pf_140_93 rfl ?_
          refine F_getf pf_140_94 rfl rfl rfl ?_
          refine E_iconst pf_140_97 ?_
          refine E_icmp_eq_f pf_140_98 (by omega) ?_
          refine E_aload pf_140_101 rfl ?_
          refine F_v1v (l' := [(_, _), (_, _), (_, _)]) pf_140_102 (f5) (And.intro rfl (And.intro rfl (And.intro rfl (trivial)))) rfl rfl rfl rfl ?_
          refine E_if_ne_t pf_140_105 (by omega) ?_
          exact a5 h _
    · refine ⟨1, p, k, R, G, .inr rfl, hp, fun _ => ⟨ha, hb, by omega, by omega⟩, fun h => ?_, fun h w1 => ?_⟩
      ·
        refine E_aload pf_48_7 rfl ?_
        refine F_getf pf_48_8 rfl rfl rfl ?_
        refine F_getf pf_48_11 rfl rfl rfl ?_
        refine E_iconst pf_48_14 ?_
        refine E_icmp_ge_f pf_48_15 (by omega) ?_
        refine E_aload pf_48_18 rfl ?_
        refine F_getf pf_48_19 rfl rfl rfl ?_
        refine F_getf pf_48_22 rfl rfl rfl ?_
        refine E_if_eq_f pf_48_25 (by omega) ?_
        refine E_aload pf_48_28 rfl ?_
        refine F_getf pf_48_29 rfl rfl rfl ?_
        refine E_aload pf_48_32 rfl ?_
        refine F_getf pf_48_33 rfl rfl rfl ?_
        refine E_icmp_ge_t pf_48_36 (by omega) ?_
        refine E_aload pf_48_73 rfl ?_
        refine F_getf pf_48_74 rfl rfl rfl ?_
        refine E_aload pf_48_77 rfl ?_
        refine F_getf pf_48_78 rfl rfl rfl ?_
        refine E_icmp_ne_f pf_48_81 (by omega) ?_
        refine E_iconst pf_48_84 ?_
        refine E_goto pf_48_85 ?_
        exact E_iret pf_48_89 rfl
      ·
        refine E_aload pf_140_82 rfl ?_
        refine F_getf pf_140_83 rfl rfl rfl ?_
        refine E_aload pf_140_86 rfl ?_
        refine F_getf pf_140_87 rfl rfl rfl ?_
        refine E_icmp_ge_t pf_140_90 (by omega) ?_
        refine E_iconst pf_140_110 ?_
        exact E_iret pf_140_111 rfl
theorem c54 {rc : Int} : ∀ h, Ca 54 [.ref 9] (wd [(9, oS9 rc m0 s0 r0), (10, ar 20 R)] h) (.inl none, wd [(9, oS9 ((0 : Nat) : Int) m0 s0 r0), (10, ar 20 (zfill R (fun _ => 0) 20))] h) := by
  intro h
  have loop : ∀ (m j : Nat) (A : Int → Int), j + m = 20 → A = zfill R (fun _ => 0) j → Rn 54 7 [.ref 9, .int (ii (j : Int))] [] (wd [(9, oS9 ((0 : Nat) : Int) m0 s0 r0), (10, ar 20 A)] h) (.inl none, wd [(9, oS9 ((0 : Nat) : Int) m0 s0 r0), (10, ar 20 (zfill R (fun _ => 0) 20))] h) := by
    intro m
    induction m with
    | zero =>
      intro j A hj hA
      obtain rfl : j = 20 := by omega
      subst hA
      refine E_iload pf_54_7 rfl ?_
      refine E_aload pf_54_8 rfl ?_
      refine F_getf pf_54_9 rfl rfl rfl ?_
      refine F_alenI pf_54_12 rfl ?_
      refine E_icmp_ge_t pf_54_13 (by omega) ?_
      exact E_vret pf_54_29 rfl
    | succ m ih =>
      intro j A hj hA
      have ih := ih (j + 1) _ (by omega) (zfill_s _ _ _).symm
      rw [← hA] at ih
      refine E_iload pf_54_7 rfl ?_
      refine E_aload pf_54_8 rfl ?_
      refine F_getf pf_54_9 rfl rfl rfl ?_
      refine F_alenI pf_54_12 rfl ?_
      refine E_icmp_ge_f pf_54_13 (by omega) ?_
      refine E_aload pf_54_16 rfl ?_
      refine F_getf pf_54_17 rfl rfl rfl ?_
      refine E_iload pf_54_20 rfl ?_
      refine E_iconst pf_54_21 ?_
      refine F_iast (l' := [(_, _), (_, _)]) pf_54_22 rfl (by omega) rfl ?_
      refine E_iinc (lv' := [_, _]) pf_54_23 rfl rfl ?_
      refine E_goto pf_54_26 ?_
      exact ih
  refine E_in (lv := [_, _]) rfl ?_
  refine E_aload pf_54_0 rfl ?_
  refine E_iconst pf_54_1 ?_
  refine F_putf (l' := [(_, _), (_, _)]) (x := ob _ [_, _, _, _, _, _, _]) pf_54_2 rfl rfl rfl rfl rfl ?_
  refine E_iconst pf_54_5 ?_
  refine E_istore (lv' := [_, _]) pf_54_6 rfl rfl ?_
  exact loop 20 0 R (by omega) (zfill_0 _ _).symm
end ROW
