/-! The whole text, read on both sides. -/
/-- what a good text gives, on both sides -/
def rgd (d5 k5 n5 rc rd rk rv rr : Int) (C P R G : Int → Int) : Prop := ∃ dn n rn : Nat, (d5 = dn ∧ rd = dn ∧ k5 = rk ∧ n5 = n ∧ rv = n ∧ rc = rn ∧ rr = rn) ∧ (0 ≤ rk ∧ rk ≤ 4) ∧ (1 ≤ dn ∧ dn ≤ 4) ∧ (1 ≤ n ∧ n ≤ 24) ∧ (1 ≤ rn ∧ rn ≤ 4) ∧ kl C n = kl P n ∧ (∀ x ∈ kl P n, zk dn x) ∧ agr R G ∧ rbd R
theorem Rn_fr {mi pc : Nat} {lv st : List Value} {lc lc' l l' : pd_L} {v : pd_Out} (hc : ∀ h, Rn mi pc lv st (wd lc h) (v, wd lc' h)) (hs : wsub l lc) (ha : wad l lc' = true) (hm : wsm l lc' = l') : ∀ h, Rn mi pc lv st (wd l h) (v, wd l' h) := by
  intro h
  have := hc (wd l h)
  rw [wd_same hs, wd_merge ha, hm] at this
  exact this
section REA
variable {T q C P c g sz R G : Int → Int} {tl : Int} {rf sp d kd vs rw rd rk rv rr ac l3 p3 d0 k0 n0 rc m0 s0 r0 : Int}
theorem clr140 (h : pd_H) (r : pd_Out × pd_H) (hr : ∀ w1 : Value, Rn 140 36 [.ref 102, w1] [] (wd [(102, oX6 rf tl 0 d kd vs rw rd rk ((0 : Nat) : Int) ((0 : Nat) : Int) ac), (103, ar 90 T), (105, ar 128 P), (106, ar 72 (zfill G (fun _ => 0) 72)), (115, ar 4 sz)] h) r) : ∀ (m j : Nat) (A : Int → Int), j + m = 72 → A = zfill G (fun _ => 0) j → Rn 140 17 [.ref 102, .int (ii (j : Int))] [] (wd [(102, oX6 rf tl 0 d kd vs rw rd rk ((0 : Nat) : Int) ((0 : Nat) : Int) ac), (103, ar 90 T), (105, ar 128 P), (106, ar 72 A), (115, ar 4 sz)] h) r := by
  intro m
  induction m with
  | zero =>
    intro j A hj hA
    obtain rfl : j = 72 := by omega
    subst hA
    refine E_iload pf_140_17 rfl ?_
    refine E_iconst pf_140_18 ?_
    refine E_icmp_ge_t pf_140_20 (by omega) ?_
    exact hr _
  | succ m ih =>
    intro j A hj hA
    have ih := ih (j + 1) _ (by omega) (zfill_s _ _ _).symm
    rw [← hA] at ih
    refine E_iload pf_140_17 rfl ?_
    refine E_iconst pf_140_18 ?_
    refine E_icmp_ge_f pf_140_20 (by omega) ?_
    refine E_aload pf_140_23 rfl ?_
    refine F_getf pf_140_24 rfl rfl rfl ?_
    refine E_iload pf_140_27 rfl ?_
    refine E_iconst pf_140_28 ?_
    refine F_iast (l' := [(_, _), (_, _), (_, _), (_, _), (_, _)]) pf_140_29 rfl (by omega) rfl ?_
    refine E_iinc (lv' := [_, _]) pf_140_30 rfl rfl ?_
    refine E_goto pf_140_33 ?_
    exact ih
theorem rea (hT : ∀ i, 0 ≤ T i ∧ T i ≤ 255) (ht : 0 ≤ tl ∧ tl ≤ 90) (hC : (∀ q, -9 ≤ C q ∧ C q ≤ 9)) (hP : (∀ q, -9 ≤ P q ∧ P q ≤ 9)) (hz : (∀ q, -9 ≤ sz q ∧ sz q ≤ 9)) : ∃ (b p' d5 k5 n5 rc' rd' rk' rv' rr' : Int) (C' P' q' c' g' sz' R' G' : Int → Int), (b = 0 ∨ b = 1) ∧ (0 ≤ p' ∧ p' ≤ tl) ∧ (∀ q, -9 ≤ C' q ∧ C' q ≤ 9) ∧ (∀ q, -9 ≤ P' q ∧ P' q ≤ 9) ∧ (∀ q, -9 ≤ sz' q ∧ sz' q ≤ 9) ∧ (b = 1 → rgd d5 k5 n5 rc' rd' rk' rv' rr' C' P' R' G') ∧ (∀ h, Ca 41 [.ref 3, .int (ii tl)] (wd [(2, ar 90 T), (3, oR l3 p3), (4, ar 4 q), (5, oP5 d0 k0 n0), (6, ar 96 C), (7, ar 4 c), (8, ar 4 g), (9, oS9 rc m0 s0 r0), (10, ar 20 R)] h) (.inl (some (.int (ii (if b = 1 then -9 else p')))), wd [(2, ar 90 T), (3, oR tl p'), (4, ar 4 q'), (5, oP5 d5 k5 n5), (6, ar 96 C'), (7, ar 4 c'), (8, ar 4 g'), (9, oS9 rc' m0 s0 r0), (10, ar 20 R')] h)) ∧ ∀ h, Ca 140 [.ref 102] (wd [(102, oX6 rf tl sp d kd vs rw rd rk rv rr ac), (103, ar 90 T), (105, ar 128 P), (106, ar 72 G), (115, ar 4 sz)] h) (.inl (some (.int (ii b))), wd [(102, oX6 rf tl p' d kd vs rw rd' rk' rv' rr' ac), (103, ar 90 T), (105, ar 128 P'), (106, ar 72 G'), (115, ar 4 sz')] h) := by
  have a1 := c42 (T := T) (tl := tl) (p := 0) (c := 80) hT ht.2 (by omega) (by omega)
  have b1 := c129 (rf := rf) (d := d) (k := kd) (vs := vs) (rw := rw) (rd := rd) (rk := rk) (rv := ((0 : Nat) : Int)) (rr := ((0 : Nat) : Int)) (ac := ac) (T := T) (tl := tl) (p := 0) (c := 80) hT ht.2 (by omega) (by omega)
  by_cases e1 : (0 : Int) < tl ∧ T 0 = 80
  · rw [show sgn T tl 0 80 = 1 from if_pos e1] at a1 b1
    have a2 := c43 (T := T) (tl := tl) (p := 0 + 1) (lo := 1) (hi := 4) hT ht.2 (by omega) (by omega) (by omega)
    have b2 := c130 (rf := rf) (d := d) (k := kd) (vs := vs) (rw := rw) (rd := rd) (rk := rk) (rv := ((0 : Nat) : Int)) (rr := ((0 : Nat) : Int)) (ac := ac) (T := T) (tl := tl) (p := 0 + 1) (lo := 1) (hi := 4) hT ht.2 (by omega) (by omega) (by omega)
    by_cases e2 : dg T tl 1 4 (0 + 1) = -9
    · rw [e2, show nxp (0 + 1) (-9) = 1 from if_pos rfl] at a2 b2
      refine ⟨0, 1, d0, k0, n0, rc, -9, rk, ((0 : Nat) : Int), ((0 : Nat) : Int), C, P, q, c, g, sz, R, (zfill G (fun _ => 0) 72), .inl rfl, by omega, hC, hP, hz, fun q => absurd q (by omega), fun h => ?_, fun h => ?_⟩
      · rw [if_neg (by omega)]
        have h45 : ∀ h, Ca 45 [.ref 3] (wd [(2, ar 90 T), (3, oR tl (0 + 1))] h) (.inl (some (.int (ii 0))), wd [(2, ar 90 T), (3, oR tl 1)] h) := by
          intro h
          refine E_in (lv := [_, _, _, _]) rfl ?_
          refine E_aload pf_45_0 rfl ?_
          refine E_iconst pf_45_1 ?_
          refine E_iconst pf_45_2 ?_
          refine F_v3v (l' := [(_, _), (_, _)]) pf_45_3 (a2) (And.intro rfl (And.intro rfl (trivial))) rfl rfl rfl rfl ?_
          refine E_istore (lv' := [_, _, _, _]) pf_45_6 rfl rfl ?_
          refine E_iload pf_45_7 rfl ?_
          refine E_iconst pf_45_8 ?_
          refine E_icmp_ne_f pf_45_10 (by omega) ?_
          refine E_iconst pf_45_13 ?_
          exact E_iret pf_45_14 rfl
        refine E_in (lv := [_, _, _]) rfl ?_
        refine E_aload pf_41_0 rfl ?_
        refine E_iload pf_41_1 rfl ?_
        refine E_aload pf_41_2 rfl ?_
        refine F_getf pf_41_3 rfl rfl rfl ?_
        refine F_alenI pf_41_6 rfl ?_
        refine E_minI pf_41_7 (by omega) rfl ?_
        refine E_ti (b := tl) (if_neg (by omega)) ?_
        refine F_putf (l' := [(_, _), (_, _), (_, _), (_, _), (_, _), (_, _), (_, _), (_, _), (_, _)]) (x := ob _ [_, _, _, _, _, _]) pf_41_10 rfl rfl rfl rfl rfl ?_
        refine E_aload pf_41_13 rfl ?_
        refine E_iconst pf_41_14 ?_
        refine F_putf (l' := [(_, _), (_, _), (_, _), (_, _), (_, _), (_, _), (_, _), (_, _), (_, _)]) (x := ob _ [_, _, _, _, _, _]) pf_41_15 rfl rfl rfl rfl rfl ?_
        refine E_aload pf_41_18 rfl ?_
        refine E_iconst pf_41_19 ?_
        refine F_v2v (l' := [(_, _), (_, _), (_, _), (_, _), (_, _), (_, _), (_, _), (_, _), (_, _)]) pf_41_21 (a1) (And.intro rfl (And.intro rfl (trivial))) rfl rfl rfl rfl ?_
        refine E_if_eq_f pf_41_24 (by omega) ?_
        refine E_aload pf_41_27 rfl ?_
        refine F_v1v (l' := [(_, _), (_, _), (_, _), (_, _), (_, _), (_, _), (_, _), (_, _), (_, _)]) pf_41_28 (h45) (And.intro rfl (And.intro rfl (trivial))) rfl rfl rfl rfl ?_
        refine E_if_eq_t pf_41_31 (by omega) ?_
        refine E_iconst pf_41_45 ?_
        refine E_istore (lv' := [_, _, _]) pf_41_46 rfl rfl ?_
        refine E_iload pf_41_47 rfl ?_
        refine E_if_eq_t pf_41_48 (by omega) ?_
        refine E_aload pf_41_56 rfl ?_
        refine F_getf pf_41_57 rfl rfl rfl ?_
        exact E_iret pf_41_60 rfl
      ·
        refine E_in (lv := [_, _]) rfl ?_
        refine E_aload pf_140_0 rfl ?_
        refine E_iconst pf_140_1 ?_
        refine F_putf (l' := [(_, _), (_, _), (_, _), (_, _), (_, _)]) (x := ob _ [_, _, _, _, _, _, _, _, _, _, _, _, _, _, _, _, _, _, _, _, _, _, _, _, _]) pf_140_2 rfl rfl rfl rfl rfl ?_
        refine E_aload pf_140_5 rfl ?_
        refine E_iconst pf_140_6 ?_
        refine F_putf (l' := [(_, _), (_, _), (_, _), (_, _), (_, _)]) (x := ob _ [_, _, _, _, _, _, _, _, _, _, _, _, _, _, _, _, _, _, _, _, _, _, _, _, _]) pf_140_7 rfl rfl rfl rfl rfl ?_
        refine E_aload pf_140_10 rfl ?_
        refine E_iconst pf_140_11 ?_
        refine F_putf (l' := [(_, _), (_, _), (_, _), (_, _), (_, _)]) (x := ob _ [_, _, _, _, _, _, _, _, _, _, _, _, _, _, _, _, _, _, _, _, _, _, _, _, _]) pf_140_12 rfl rfl rfl rfl rfl ?_
        refine E_iconst pf_140_15 ?_
        refine E_istore (lv' := [_, _]) pf_140_16 rfl rfl ?_
        refine clr140 h _ (fun w1 => ?_) 72 0 _ (by omega) (zfill_0 _ _).symm
        refine E_aload pf_140_36 rfl ?_
        refine E_iconst pf_140_37 ?_
        refine F_v2v (l' := [(_, _), (_, _), (_, _), (_, _), (_, _)]) pf_140_39 (b1) (And.intro rfl (And.intro rfl (trivial))) rfl rfl rfl rfl ?_
        refine E_if_ne_t pf_140_42 (by omega) ?_
        refine E_aload pf_140_47 rfl ?_
        refine E_aload pf_140_48 rfl ?_
        refine E_iconst pf_140_49 ?_
        refine E_iconst pf_140_50 ?_
        refine F_v3v (l' := [(_, _), (_, _), (_, _), (_, _), (_, _)]) pf_140_51 (b2) (And.intro rfl (And.intro rfl (trivial))) rfl rfl rfl rfl ?_
        refine F_putf (l' := [(_, _), (_, _), (_, _), (_, _), (_, _)]) (x := ob _ [_, _, _, _, _, _, _, _, _, _, _, _, _, _, _, _, _, _, _, _, _, _, _, _, _]) pf_140_54 rfl rfl rfl rfl rfl ?_
        refine E_aload pf_140_57 rfl ?_
        refine F_getf pf_140_58 rfl rfl rfl ?_
        refine E_iconst pf_140_61 ?_
        refine E_icmp_eq_t pf_140_63 (by omega) ?_
        refine E_iconst pf_140_80 ?_
        exact E_iret pf_140_81 rfl
    · have hv := dg_val e2
      rw [show nxp (0 + 1) (dg T tl 1 4 (0 + 1)) = 2 from if_neg e2] at a2 b2
      obtain ⟨dn, hdn⟩ : ∃ dn : Nat, dg T tl 1 4 (0 + 1) = (dn : Int) := ⟨(dg T tl 1 4 (0 + 1)).toNat, by omega⟩
      rw [hdn] at a2 b2 hv
      obtain ⟨b, p', k', n', C', P', q', c', g', sz', f1, f2, f3, f4, f5, f6, f7, f8, f9⟩ := pol (rf := rf) (d := d) (kd := kd) (vs := vs) (rw := rw) (rk := rk) (rr := ((0 : Nat) : Int)) (ac := ac) (k0 := k0) (d0 := d0) (n0 := n0) (T := T) (q := q) (C := C) (P := P) (c := c) (g := g) (sz := sz) (tl := tl) (p := 2) (dn := dn) hT ht.2 (by omega) (by omega) hC hP hz
      have h45 : ∀ h, Ca 45 [.ref 3] (wd [(2, ar 90 T), (3, oR tl (0 + 1)), (4, ar 4 q), (5, oP5 d0 k0 n0), (6, ar 96 C), (7, ar 4 c), (8, ar 4 g)] h) (.inl (some (.int (ii b))), wd [(2, ar 90 T), (3, oR tl p'), (4, ar 4 q'), (5, oP5 (dn : Int) k' (n' : Int)), (6, ar 96 C'), (7, ar 4 c'), (8, ar 4 g')] h) := by
        intro h
        refine E_in (lv := [_, _, _, _]) rfl ?_
        refine E_aload pf_45_0 rfl ?_
        refine E_iconst pf_45_1 ?_
        refine E_iconst pf_45_2 ?_
        refine F_v3v (l' := [(_, _), (_, _), (_, _), (_, _), (_, _), (_, _), (_, _)]) pf_45_3 (a2) (And.intro rfl (And.intro rfl (trivial))) rfl rfl rfl rfl ?_
        refine E_istore (lv' := [_, _, _, _]) pf_45_6 rfl rfl ?_
        refine E_iload pf_45_7 rfl ?_
        refine E_iconst pf_45_8 ?_
        refine E_icmp_ne_t pf_45_10 (by omega) ?_
        exact f8 h _ _
      rcases f1 with q0 | q0 <;> subst q0
      · refine ⟨0, p', (dn : Int), k', (n' : Int), rc, (dn : Int), k', (n' : Int), ((0 : Nat) : Int), C', P', q', c', g', sz', R, (zfill G (fun _ => 0) 72), .inl rfl, f2, f3, f4, f5, fun q => absurd q (by omega), fun h => ?_, fun h => ?_⟩
        · rw [if_neg (by omega)]
          refine E_in (lv := [_, _, _]) rfl ?_
          refine E_aload pf_41_0 rfl ?_
          refine E_iload pf_41_1 rfl ?_
          refine E_aload pf_41_2 rfl ?_
          refine F_getf pf_41_3 rfl rfl rfl ?_
          refine F_alenI pf_41_6 rfl ?_
          refine E_minI pf_41_7 (by omega) rfl ?_
          refine E_ti (b := tl) (if_neg (by omega)) ?_
          refine F_putf (l' := [(_, _), (_, _), (_, _), (_, _), (_, _), (_, _), (_, _), (_, _), (_, _)]) (x := ob _ [_, _, _, _, _, _]) pf_41_10 rfl rfl rfl rfl rfl ?_
          refine E_aload pf_41_13 rfl ?_
          refine E_iconst pf_41_14 ?_
          refine F_putf (l' := [(_, _), (_, _), (_, _), (_, _), (_, _), (_, _), (_, _), (_, _), (_, _)]) (x := ob _ [_, _, _, _, _, _]) pf_41_15 rfl rfl rfl rfl rfl ?_
          refine E_aload pf_41_18 rfl ?_
          refine E_iconst pf_41_19 ?_
          refine F_v2v (l' := [(_, _), (_, _), (_, _), (_, _), (_, _), (_, _), (_, _), (_, _), (_, _)]) pf_41_21 (a1) (And.intro rfl (And.intro rfl (trivial))) rfl rfl rfl rfl ?_
          refine E_if_eq_f pf_41_24 (by omega) ?_
          refine E_aload pf_41_27 rfl ?_
          refine F_v1v (l' := [(_, _), (_, _), (_, _), (_, _), (_, _), (_, _), (_, _), (_, _), (_, _)]) pf_41_28 (h45) (And.intro rfl (And.intro rfl (And.intro rfl (And.intro rfl (And.intro rfl (And.intro rfl (And.intro rfl (trivial)))))))) rfl rfl rfl rfl ?_
          refine E_if_eq_t pf_41_31 (by omega) ?_
          refine E_iconst pf_41_45 ?_
          refine E_istore (lv' := [_, _, _]) pf_41_46 rfl rfl ?_
          refine E_iload pf_41_47 rfl ?_
          refine E_if_eq_t pf_41_48 (by omega) ?_
          refine E_aload pf_41_56 rfl ?_
          refine F_getf pf_41_57 rfl rfl rfl ?_
          exact E_iret pf_41_60 rfl
        ·
          refine E_in (lv := [_, _]) rfl ?_
          refine E_aload pf_140_0 rfl ?_
          refine E_iconst pf_140_1 ?_
          refine F_putf (l' := [(_, _), (_, _), (_, _), (_, _), (_, _)]) (x := ob _ [_, _, _, _, _, _, _, _, _, _, _, _, _, _, _, _, _, _, _, _, _, _, _, _, _]) pf_140_2 rfl rfl rfl rfl rfl ?_
          refine E_aload pf_140_5 rfl ?_
          refine E_iconst pf_140_6 ?_
          refine F_putf (l' := [(_, _), (_, _), (_, _), (_, _), (_, _)]) (x := ob _ [_, _, _, _, _, _, _, _, _, _, _, _, _, _, _, _, _, _, _, _, _, _, _, _, _]) pf_140_7 rfl rfl rfl rfl rfl ?_
          refine E_aload pf_140_10 rfl ?_
          refine E_iconst pf_140_11 ?_
          refine F_putf (l' := [(_, _), (_, _), (_, _), (_, _), (_, _)]) (x := ob _ [_, _, _, _, _, _, _, _, _, _, _, _, _, _, _, _, _, _, _, _, _, _, _, _, _]) pf_140_12 rfl rfl rfl rfl rfl ?_
          refine E_iconst pf_140_15 ?_
          refine E_istore (lv' := [_, _]) pf_140_16 rfl rfl ?_
          refine clr140 h _ (fun w1 => ?_) 72 0 _ (by omega) (zfill_0 _ _).symm
          refine E_aload pf_140_36 rfl ?_
          refine E_iconst pf_140_37 ?_
          refine F_v2v (l' := [(_, _), (_, _), (_, _), (_, _), (_, _)]) pf_140_39 (b1) (And.intro rfl (And.intro rfl (trivial))) rfl rfl rfl rfl ?_
          refine E_if_ne_t pf_140_42 (by omega) ?_
          refine E_aload pf_140_47 rfl ?_
          refine E_aload pf_140_48 rfl ?_
          refine E_iconst pf_140_49 ?_
          refine E_iconst pf_140_50 ?_
          refine F_v3v (l' := [(_, _), (_, _), (_, _), (_, _), (_, _)]) pf_140_51 (b2) (And.intro rfl (And.intro rfl (trivial))) rfl rfl rfl rfl ?_
          refine F_putf (l' := [(_, _), (_, _), (_, _), (_, _), (_, _)]) (x := ob _ [_, _, _, _, _, _, _, _, _, _, _, _, _, _, _, _, _, _, _, _, _, _, _, _, _]) pf_140_54 rfl rfl rfl rfl rfl ?_
          refine E_aload pf_140_57 rfl ?_
          refine F_getf pf_140_58 rfl rfl rfl ?_
          refine E_iconst pf_140_61 ?_
          refine E_icmp_eq_f pf_140_63 (by omega) ?_
          refine E_aload pf_140_66 rfl ?_
          refine F_v1v (l' := [(_, _), (_, _), (_, _), (_, _), (_, _)]) pf_140_67 (f9) (And.intro rfl (And.intro rfl (And.intro rfl (And.intro rfl (trivial))))) rfl rfl rfl rfl ?_
          refine E_if_eq_t pf_140_70 (by omega) ?_
          refine E_iconst pf_140_80 ?_
          exact E_iret pf_140_81 rfl
      · obtain ⟨hk', ks', y1, y2, y3, y4⟩ := f7 rfl
        have hn1 := insl_pos y1 y3
        have hag : agr (zfill R (fun _ => 0) 20) (zfill G (fun _ => 0) 72) := fun x h1 h2 => by rw [zfill_at (by omega), zfill_at (by omega)]
        have hrb : rbd (zfill R (fun _ => 0) 20) := ⟨fun a j h1 h2 h3 h4 => by rw [zfill_at (by omega)]; omega, fun a h1 h2 => by rw [zfill_at (by omega)]; omega⟩
        obtain ⟨b, p2, R2, G2, g1, g2, g3, g4, g5⟩ := row1 (rf := rf) (d := d) (kd := kd) (vs := vs) (rw := rw) (rk := k') (rv := (n' : Int)) (ac := ac) (rc := ((0 : Nat) : Int)) (m0 := m0) (s0 := s0) (r0 := r0) (k5 := k') (n5 := (n' : Int)) (k := 0) (dn := dn) (T := T) (tl := tl) (R := zfill R (fun _ => 0) 20) (G := (zfill G (fun _ => 0) 72)) (p := p') hT ht.2 (by omega) (by omega) f2 hag hrb
        have h54 := c54 (R := R) (m0 := m0) (s0 := s0) (r0 := r0) (rc := rc)
        rcases g1 with q0 | q0 <;> subst q0
        · rw [if_neg (by omega), Int.add_zero] at g5
          have h48 : ∀ h, Ca 48 [.ref 3] (wd [(2, ar 90 T), (3, oR tl p'), (5, oP5 (dn : Int) k' (n' : Int)), (9, oS9 rc m0 s0 r0), (10, ar 20 R)] h) (.inl (some (.int (ii 0))), wd [(2, ar 90 T), (3, oR tl p2), (5, oP5 (dn : Int) k' (n' : Int)), (9, oS9 ((0 : Nat) : Int) m0 s0 r0), (10, ar 20 R2)] h) := by
            intro h
            refine E_in (lv := [_]) rfl ?_
            refine E_aload pf_48_0 rfl ?_
            refine F_getf pf_48_1 rfl rfl rfl ?_
            refine F_v1u (l' := [(_, _), (_, _), (_, _), (_, _), (_, _)]) pf_48_4 (h54) (And.intro rfl (And.intro rfl (trivial))) rfl rfl rfl rfl ?_
            refine E_aload pf_48_7 rfl ?_
            refine F_getf pf_48_8 rfl rfl rfl ?_
            refine F_getf pf_48_11 rfl rfl rfl ?_
            refine E_iconst pf_48_14 ?_
            refine E_icmp_ge_f pf_48_15 (by omega) ?_
            refine E_aload pf_48_18 rfl ?_
            refine F_getf pf_48_19 rfl rfl rfl ?_
            refine F_getf pf_48_22 rfl rfl rfl ?_
            refine E_if_eq_t pf_48_25 (by omega) ?_
            refine E_aload pf_48_39 rfl ?_
            refine E_aload pf_48_40 rfl ?_
            refine F_getf pf_48_41 rfl rfl rfl ?_
            refine F_getf pf_48_44 rfl rfl rfl ?_
            refine E_iconst pf_48_47 ?_
            refine E_imul pf_48_48 ?_
            refine F_v2v (l' := [(_, _), (_, _), (_, _), (_, _), (_, _)]) pf_48_49 (g4) (And.intro rfl (And.intro rfl (And.intro rfl (And.intro rfl (And.intro rfl (trivial)))))) rfl rfl rfl rfl ?_
            refine E_if_ne_f pf_48_52 (by omega) ?_
            refine E_iconst pf_48_55 ?_
            exact E_iret pf_48_56 rfl
          refine ⟨0, p2, (dn : Int), k', (n' : Int), ((0 : Nat) : Int), (dn : Int), k', (n' : Int), ((0 : Nat) : Int), C', P', q', c', g', sz', R2, G2, .inl rfl, g2, f3, f4, f5, fun q => absurd q (by omega), fun h => ?_, fun h => ?_⟩
          · rw [if_neg (by omega)]
            refine E_in (lv := [_, _, _]) rfl ?_
            refine E_aload pf_41_0 rfl ?_
            refine E_iload pf_41_1 rfl ?_
            refine E_aload pf_41_2 rfl ?_
            refine F_getf pf_41_3 rfl rfl rfl ?_
            refine F_alenI pf_41_6 rfl ?_
            refine E_minI pf_41_7 (by omega) rfl ?_
            refine E_ti (b := tl) (if_neg (by omega)) ?_
            refine F_putf (l' := [(_, _), (_, _), (_, _), (_, _), (_, _), (_, _), (_, _), (_, _), (_, _)]) (x := ob _ [_, _, _, _, _, _]) pf_41_10 rfl rfl rfl rfl rfl ?_
            refine E_aload pf_41_13 rfl ?_
            refine E_iconst pf_41_14 ?_
            refine F_putf (l' := [(_, _), (_, _), (_, _), (_, _), (_, _), (_, _), (_, _), (_, _), (_, _)]) (x := ob _ [_, _, _, _, _, _]) pf_41_15 rfl rfl rfl rfl rfl ?_
            refine E_aload pf_41_18 rfl ?_
            refine E_iconst pf_41_19 ?_
            refine F_v2v (l' := [(_, _), (_, _), (_, _), (_, _), (_, _), (_, _), (_, _), (_, _), (_, _)]) pf_41_21 (a1) (And.intro rfl (And.intro rfl (trivial))) rfl rfl rfl rfl ?_
            refine E_if_eq_f pf_41_24 (by omega) ?_
            refine E_aload pf_41_27 rfl ?_
            refine F_v1v (l' := [(_, _), (_, _), (_, _), (_, _), (_, _), (_, _), (_, _), (_, _), (_, _)]) pf_41_28 (h45) (And.intro rfl (And.intro rfl (And.intro rfl (And.intro rfl (And.intro rfl (And.intro rfl (And.intro rfl (trivial)))))))) rfl rfl rfl rfl ?_
            refine E_if_eq_f pf_41_31 (by omega) ?_
            refine E_aload pf_41_34 rfl ?_
            refine F_v1v (l' := [(_, _), (_, _), (_, _), (_, _), (_, _), (_, _), (_, _), (_, _), (_, _)]) pf_41_35 (h48) (And.intro rfl (And.intro rfl (And.intro rfl (And.intro rfl (And.intro rfl (trivial)))))) rfl rfl rfl rfl ?_
            refine E_if_eq_t pf_41_38 (by omega) ?_
            refine E_iconst pf_41_45 ?_
            refine E_istore (lv' := [_, _, _]) pf_41_46 rfl rfl ?_
            refine E_iload pf_41_47 rfl ?_
            refine E_if_eq_t pf_41_48 (by omega) ?_
            refine E_aload pf_41_56 rfl ?_
            refine F_getf pf_41_57 rfl rfl rfl ?_
            exact E_iret pf_41_60 rfl
          ·
            refine E_in (lv := [_, _]) rfl ?_
            refine E_aload pf_140_0 rfl ?_
            refine E_iconst pf_140_1 ?_
            refine F_putf (l' := [(_, _), (_, _), (_, _), (_, _), (_, _)]) (x := ob _ [_, _, _, _, _, _, _, _, _, _, _, _, _, _, _, _, _, _, _, _, _, _, _, _, _]) pf_140_2 rfl rfl rfl rfl rfl ?_
            refine E_aload pf_140_5 rfl ?_
            refine E_iconst pf_140_6 ?_
            refine F_putf (l' := [(_, _), (_, _), (_, _), (_, _), (_, _)]) (x := ob _ [_, _, _, _, _, _, _, _, _, _, _, _, _, _, _, _, _, _, _, _, _, _, _, _, _]) pf_140_7 rfl rfl rfl rfl rfl ?_
            refine E_aload pf_140_10 rfl ?_
            refine E_iconst pf_140_11 ?_
            refine F_putf (l' := [(_, _), (_, _), (_, _), (_, _), (_, _)]) (x := ob _ [_, _, _, _, _, _, _, _, _, _, _, _, _, _, _, _, _, _, _, _, _, _, _, _, _]) pf_140_12 rfl rfl rfl rfl rfl ?_
            refine E_iconst pf_140_15 ?_
            refine E_istore (lv' := [_, _]) pf_140_16 rfl rfl ?_
            refine clr140 h _ (fun w1 => ?_) 72 0 _ (by omega) (zfill_0 _ _).symm
            refine E_aload pf_140_36 rfl ?_
            refine E_iconst pf_140_37 ?_
            refine F_v2v (l' := [(_, _), (_, _), (_, _), (_, _), (_, _)]) pf_140_39 (b1) (And.intro rfl (And.intro rfl (trivial))) rfl rfl rfl rfl ?_
            refine E_if_ne_t pf_140_42 (by omega) ?_
            refine E_aload pf_140_47 rfl ?_
            refine E_aload pf_140_48 rfl ?_
            refine E_iconst pf_140_49 ?_
            refine E_iconst pf_140_50 ?_
            refine F_v3v (l' := [(_, _), (_, _), (_, _), (_, _), (_, _)]) pf_140_51 (b2) (And.intro rfl (And.intro rfl (trivial))) rfl rfl rfl rfl ?_
            refine F_putf (l' := [(_, _), (_, _), (_, _), (_, _), (_, _)]) (x := ob _ [_, _, _, _, _, _, _, _, _, _, _, _, _, _, _, _, _, _, _, _, _, _, _, _, _]) pf_140_54 rfl rfl rfl rfl rfl ?_
            refine E_aload pf_140_57 rfl ?_
            refine F_getf pf_140_58 rfl rfl rfl ?_
            refine E_iconst pf_140_61 ?_
            refine E_icmp_eq_f pf_140_63 (by omega) ?_
            refine E_aload pf_140_66 rfl ?_
            refine F_v1v (l' := [(_, _), (_, _), (_, _), (_, _), (_, _)]) pf_140_67 (f9) (And.intro rfl (And.intro rfl (And.intro rfl (And.intro rfl (trivial))))) rfl rfl rfl rfl ?_
            refine E_if_eq_f pf_140_70 (by omega) ?_
            refine E_aload pf_140_73 rfl ?_
            refine F_v1v (l' := [(_, _), (_, _), (_, _), (_, _), (_, _)]) pf_140_74 (g5) (And.intro rfl (And.intro rfl (And.intro rfl (trivial)))) rfl rfl rfl rfl ?_
            refine E_if_ne_f pf_140_77 (by omega) ?_
            refine E_iconst pf_140_80 ?_
            exact E_iret pf_140_81 rfl
        · rw [if_pos rfl] at g5
          obtain ⟨z1, z2⟩ := g3 rfl
          obtain ⟨b, p3, rn, R3, G3, i1, i2, i3, i4, i5⟩ := rows_loop (rf := rf) (d := d) (kd := kd) (vs := vs) (rw := rw) (rk := k') (rv := (n' : Int)) (ac := ac) (m0 := m0) (s0 := s0) (r0 := r0) (k5 := k') (n5 := (n' : Int)) (dn := dn) (T := T) (tl := tl) hT ht.2 (by omega) 3 1 p2 R2 G2 (by omega) (by omega) g2 z1 z2
          have h48 : ∀ h, Ca 48 [.ref 3] (wd [(2, ar 90 T), (3, oR tl p'), (5, oP5 (dn : Int) k' (n' : Int)), (9, oS9 rc m0 s0 r0), (10, ar 20 R)] h) (.inl (some (.int (ii b))), wd [(2, ar 90 T), (3, oR tl p3), (5, oP5 (dn : Int) k' (n' : Int)), (9, oS9 (rn : Int) m0 s0 r0), (10, ar 20 R3)] h) := by
            intro h
            refine E_in (lv := [_]) rfl ?_
            refine E_aload pf_48_0 rfl ?_
            refine F_getf pf_48_1 rfl rfl rfl ?_
            refine F_v1u (l' := [(_, _), (_, _), (_, _), (_, _), (_, _)]) pf_48_4 (h54) (And.intro rfl (And.intro rfl (trivial))) rfl rfl rfl rfl ?_
            refine E_aload pf_48_7 rfl ?_
            refine F_getf pf_48_8 rfl rfl rfl ?_
            refine F_getf pf_48_11 rfl rfl rfl ?_
            refine E_iconst pf_48_14 ?_
            refine E_icmp_ge_f pf_48_15 (by omega) ?_
            refine E_aload pf_48_18 rfl ?_
            refine F_getf pf_48_19 rfl rfl rfl ?_
            refine F_getf pf_48_22 rfl rfl rfl ?_
            refine E_if_eq_t pf_48_25 (by omega) ?_
            refine E_aload pf_48_39 rfl ?_
            refine E_aload pf_48_40 rfl ?_
            refine F_getf pf_48_41 rfl rfl rfl ?_
            refine F_getf pf_48_44 rfl rfl rfl ?_
            refine E_iconst pf_48_47 ?_
            refine E_imul pf_48_48 ?_
            refine F_v2v (l' := [(_, _), (_, _), (_, _), (_, _), (_, _)]) pf_48_49 (g4) (And.intro rfl (And.intro rfl (And.intro rfl (And.intro rfl (And.intro rfl (trivial)))))) rfl rfl rfl rfl ?_
            refine E_if_ne_t pf_48_52 (by omega) ?_
            refine E_aload pf_48_57 rfl ?_
            refine F_getf pf_48_58 rfl rfl rfl ?_
            refine E_dup pf_48_61 rfl ?_
            refine F_getf pf_48_62 rfl rfl rfl ?_
            refine E_iconst pf_48_65 ?_
            refine E_iadd pf_48_66 ?_
            refine F_putf (l' := [(_, _), (_, _), (_, _), (_, _), (_, _)]) (x := ob _ [_, _, _, _, _, _, _]) pf_48_67 rfl rfl rfl rfl rfl ?_
            refine E_goto pf_48_70 ?_
            exact i4 h
          refine ⟨b, p3, (dn : Int), k', (n' : Int), (rn : Int), (dn : Int), k', (n' : Int), (rn : Int), C', P', q', c', g', sz', R3, G3, i1, i2, f3, f4, f5, fun q => ?_, fun h => ?_, fun h => ?_⟩
          · obtain ⟨j1, j2, j3⟩ := i3 q
            exact ⟨dn, n', rn, ⟨rfl, rfl, rfl, rfl, rfl, rfl, rfl⟩, hk', by omega, by omega, j3, y1.trans y2.symm, fun x hx => by
              rw [y2, insl_mem] at hx
              rcases hx with hx | hx
              · exact absurd hx (by simp)
              · exact y4 x hx, j1, j2⟩
          · refine E_in (lv := [_, _, _]) rfl ?_
            rcases i1 with q0 | q0 <;> subst q0
            · rw [if_neg (by omega)]
              refine E_aload pf_41_0 rfl ?_
              refine E_iload pf_41_1 rfl ?_
              refine E_aload pf_41_2 rfl ?_
              refine F_getf pf_41_3 rfl rfl rfl ?_
              refine F_alenI pf_41_6 rfl ?_
              refine E_minI pf_41_7 (by omega) rfl ?_
              refine E_ti (b := tl) (if_neg (by omega)) ?_
              refine F_putf (l' := [(_, _), (_, _), (_, _), (_, _), (_, _), (_, _), (_, _), (_, _), (_, _)]) (x := ob _ [_, _, _, _, _, _]) pf_41_10 rfl rfl rfl rfl rfl ?_
              refine E_aload pf_41_13 rfl ?_
              refine E_iconst pf_41_14 ?_
              refine F_putf (l' := [(_, _), (_, _), (_, _), (_, _), (_, _), (_, _), (_, _), (_, _), (_, _)]) (x := ob _ [_, _, _, _, _, _]) pf_41_15 rfl rfl rfl rfl rfl ?_
              refine E_aload pf_41_18 rfl ?_
              refine E_iconst pf_41_19 ?_
              refine F_v2v (l' := [(_, _), (_, _), (_, _), (_, _), (_, _), (_, _), (_, _), (_, _), (_, _)]) pf_41_21 (a1) (And.intro rfl (And.intro rfl (trivial))) rfl rfl rfl rfl ?_
              refine E_if_eq_f pf_41_24 (by omega) ?_
              refine E_aload pf_41_27 rfl ?_
              refine F_v1v (l' := [(_, _), (_, _), (_, _), (_, _), (_, _), (_, _), (_, _), (_, _), (_, _)]) pf_41_28 (h45) (And.intro rfl (And.intro rfl (And.intro rfl (And.intro rfl (And.intro rfl (And.intro rfl (And.intro rfl (trivial)))))))) rfl rfl rfl rfl ?_
              refine E_if_eq_f pf_41_31 (by omega) ?_
              refine E_aload pf_41_34 rfl ?_
              refine F_v1v (l' := [(_, _), (_, _), (_, _), (_, _), (_, _), (_, _), (_, _), (_, _), (_, _)]) pf_41_35 (h48) (And.intro rfl (And.intro rfl (And.intro rfl (And.intro rfl (And.intro rfl (trivial)))))) rfl rfl rfl rfl ?_
              refine E_if_eq_t pf_41_38 (by omega) ?_
              refine E_iconst pf_41_45 ?_
              refine E_istore (lv' := [_, _, _]) pf_41_46 rfl rfl ?_
              refine E_iload pf_41_47 rfl ?_
              refine E_if_eq_t pf_41_48 (by omega) ?_
              refine E_aload pf_41_56 rfl ?_
              refine F_getf pf_41_57 rfl rfl rfl ?_
              exact E_iret pf_41_60 rfl
            · rw [if_pos rfl]
              refine E_aload pf_41_0 rfl ?_
              refine E_iload pf_41_1 rfl ?_
              refine E_aload pf_41_2 rfl ?_
              refine F_getf pf_41_3 rfl rfl rfl ?_
              refine F_alenI pf_41_6 rfl ?_
              refine E_minI pf_41_7 (by omega) rfl ?_
              refine E_ti (b := tl) (if_neg (by omega)) ?_
              refine F_putf (l' := [(_, _), (_, _), (_, _), (_, _), (_, _), (_, _), (_, _), (_, _), (_, _)]) (x := ob _ [_, _, _, _, _, _]) pf_41_10 rfl rfl rfl rfl rfl ?_
              refine E_aload pf_41_13 rfl ?_
              refine E_iconst pf_41_14 ?_
              refine F_putf (l' := [(_, _), (_, _), (_, _), (_, _), (_, _), (_, _), (_, _), (_, _), (_, _)]) (x := ob _ [_, _, _, _, _, _]) pf_41_15 rfl rfl rfl rfl rfl ?_
              refine E_aload pf_41_18 rfl ?_
              refine E_iconst pf_41_19 ?_
              refine F_v2v (l' := [(_, _), (_, _), (_, _), (_, _), (_, _), (_, _), (_, _), (_, _), (_, _)]) pf_41_21 (a1) (And.intro rfl (And.intro rfl (trivial))) rfl rfl rfl rfl ?_
              refine E_if_eq_f pf_41_24 (by omega) ?_
              refine E_aload pf_41_27 rfl ?_
              refine F_v1v (l' := [(_, _), (_, _), (_, _), (_, _), (_, _), (_, _), (_, _), (_, _), (_, _)]) pf_41_28 (h45) (And.intro rfl (And.intro rfl (And.intro rfl (And.intro rfl (And.intro rfl (And.intro rfl (And.intro rfl (trivial)))))))) rfl rfl rfl rfl ?_
              refine E_if_eq_f pf_41_31 (by omega) ?_
              refine E_aload pf_41_34 rfl ?_
              refine F_v1v (l' := [(_, _), (_, _), (_, _), (_, _), (_, _), (_, _), (_, _), (_, _), (_, _)]) pf_41_35 (h48) (And.intro rfl (And.intro rfl (And.intro rfl (And.intro rfl (And.intro rfl (trivial)))))) rfl rfl rfl rfl ?_
              refine E_if_eq_f pf_41_38 (by omega) ?_
              refine E_iconst pf_41_41 ?_
              refine E_goto pf_41_42 ?_
              refine E_istore (lv' := [_, _, _]) pf_41_46 rfl rfl ?_
              refine E_iload pf_41_47 rfl ?_
              refine E_if_eq_f pf_41_48 (by omega) ?_
              refine E_iconst pf_41_51 ?_
              refine E_goto pf_41_53 ?_
              exact E_iret pf_41_60 rfl
          ·
            refine E_in (lv := [_, _]) rfl ?_
            refine E_aload pf_140_0 rfl ?_
            refine E_iconst pf_140_1 ?_
            refine F_putf (l' := [(_, _), (_, _), (_, _), (_, _), (_, _)]) (x := ob _ [_, _, _, _, _, _, _, _, _, _, _, _, _, _, _, _, _, _, _, _, _, _, _, _, _]) pf_140_2 rfl rfl rfl rfl rfl ?_
            refine E_aload pf_140_5 rfl ?_
            refine E_iconst pf_140_6 ?_
            refine F_putf (l' := [(_, _), (_, _), (_, _), (_, _), (_, _)]) (x := ob _ [_, _, _, _, _, _, _, _, _, _, _, _, _, _, _, _, _, _, _, _, _, _, _, _, _]) pf_140_7 rfl rfl rfl rfl rfl ?_
            refine E_aload pf_140_10 rfl ?_
            refine E_iconst pf_140_11 ?_
            refine F_putf (l' := [(_, _), (_, _), (_, _), (_, _), (_, _)]) (x := ob _ [_, _, _, _, _, _, _, _, _, _, _, _, _, _, _, _, _, _, _, _, _, _, _, _, _]) pf_140_12 rfl rfl rfl rfl rfl ?_
            refine E_iconst pf_140_15 ?_
            refine E_istore (lv' := [_, _]) pf_140_16 rfl rfl ?_
            refine clr140 h _ (fun w1 => ?_) 72 0 _ (by omega) (zfill_0 _ _).symm
            refine E_aload pf_140_36 rfl ?_
            refine E_iconst pf_140_37 ?_
            refine F_v2v (l' := [(_, _), (_, _), (_, _), (_, _), (_, _)]) pf_140_39 (b1) (And.intro rfl (And.intro rfl (trivial))) rfl rfl rfl rfl ?_
            refine E_if_ne_t pf_140_42 (by omega) ?_
            refine E_aload pf_140_47 rfl ?_
            refine E_aload pf_140_48 rfl ?_
            refine E_iconst pf_140_49 ?_
            refine E_iconst pf_140_50 ?_
            refine F_v3v (l' := [(_, _), (_, _), (_, _), (_, _), (_, _)]) pf_140_51 (b2) (And.intro rfl (And.intro rfl (trivial))) rfl rfl rfl rfl ?_
            refine F_putf (l' := [(_, _), (_, _), (_, _), (_, _), (_, _)]) (x := ob _ [_, _, _, _, _, _, _, _, _, _, _, _, _, _, _, _, _, _, _, _, _, _, _, _, _]) pf_140_54 rfl rfl rfl rfl rfl ?_
            refine E_aload pf_140_57 rfl ?_
            refine F_getf pf_140_58 rfl rfl rfl ?_
            refine E_iconst pf_140_61 ?_
            refine E_icmp_eq_f pf_140_63 (by omega) ?_
            refine E_aload pf_140_66 rfl ?_
            refine F_v1v (l' := [(_, _), (_, _), (_, _), (_, _), (_, _)]) pf_140_67 (f9) (And.intro rfl (And.intro rfl (And.intro rfl (And.intro rfl (trivial))))) rfl rfl rfl rfl ?_
            refine E_if_eq_f pf_140_70 (by omega) ?_
            refine E_aload pf_140_73 rfl ?_
            refine F_v1v (l' := [(_, _), (_, _), (_, _), (_, _), (_, _)]) pf_140_74 (g5) (And.intro rfl (And.intro rfl (And.intro rfl (trivial)))) rfl rfl rfl rfl ?_
            refine E_if_ne_t pf_140_77 (by omega) ?_
            exact Rn_fr (fun h => i5 h _) (And.intro rfl (And.intro rfl (And.intro rfl trivial))) rfl rfl h
  · rw [show sgn T tl 0 80 = 0 from if_neg e1, Int.add_zero] at a1 b1
    refine ⟨0, 0, d0, k0, n0, rc, rd, rk, ((0 : Nat) : Int), ((0 : Nat) : Int), C, P, q, c, g, sz, R, (zfill G (fun _ => 0) 72), .inl rfl, by omega, hC, hP, hz, fun q => absurd q (by omega), fun h => ?_, fun h => ?_⟩
    · rw [if_neg (by omega)]
      refine E_in (lv := [_, _, _]) rfl ?_
      refine E_aload pf_41_0 rfl ?_
      refine E_iload pf_41_1 rfl ?_
      refine E_aload pf_41_2 rfl ?_
      refine F_getf pf_41_3 rfl rfl rfl ?_
      refine F_alenI pf_41_6 rfl ?_
      refine E_minI pf_41_7 (by omega) rfl ?_
      refine E_ti (b := tl) (if_neg (by omega)) ?_
      refine F_putf (l' := [(_, _), (_, _), (_, _), (_, _), (_, _), (_, _), (_, _), (_, _), (_, _)]) (x := ob _ [_, _, _, _, _, _]) pf_41_10 rfl rfl rfl rfl rfl ?_
      refine E_aload pf_41_13 rfl ?_
      refine E_iconst pf_41_14 ?_
      refine F_putf (l' := [(_, _), (_, _), (_, _), (_, _), (_, _), (_, _), (_, _), (_, _), (_, _)]) (x := ob _ [_, _, _, _, _, _]) pf_41_15 rfl rfl rfl rfl rfl ?_
      refine E_aload pf_41_18 rfl ?_
      refine E_iconst pf_41_19 ?_
      refine F_v2v (l' := [(_, _), (_, _), (_, _), (_, _), (_, _), (_, _), (_, _), (_, _), (_, _)]) pf_41_21 (a1) (And.intro rfl (And.intro rfl (trivial))) rfl rfl rfl rfl ?_
      refine E_if_eq_t pf_41_24 (by omega) ?_
      refine E_iconst pf_41_45 ?_
      refine E_istore (lv' := [_, _, _]) pf_41_46 rfl rfl ?_
      refine E_iload pf_41_47 rfl ?_
      refine E_if_eq_t pf_41_48 (by omega) ?_
      refine E_aload pf_41_56 rfl ?_
      refine F_getf pf_41_57 rfl rfl rfl ?_
      exact E_iret pf_41_60 rfl
    ·
      refine E_in (lv := [_, _]) rfl ?_
      refine E_aload pf_140_0 rfl ?_
      refine E_iconst pf_140_1 ?_
      refine F_putf (l' := [(_, _), (_, _), (_, _), (_, _), (_, _)]) (x := ob _ [_, _, _, _, _, _, _, _, _, _, _, _, _, _, _, _, _, _, _, _, _, _, _, _, _]) pf_140_2 rfl rfl rfl rfl rfl ?_
      refine E_aload pf_140_5 rfl ?_
      refine E_iconst pf_140_6 ?_
      refine F_putf (l' := [(_, _), (_, _), (_, _), (_, _), (_, _)]) (x := ob _ [_, _, _, _, _, _, _, _, _, _, _, _, _, _, _, _, _, _, _, _, _, _, _, _, _]) pf_140_7 rfl rfl rfl rfl rfl ?_
      refine E_aload pf_140_10 rfl ?_
      refine E_iconst pf_140_11 ?_
      refine F_putf (l' := [(_, _), (_, _), (_, _), (_, _), (_, _)]) (x := ob _ [_, _, _, _, _, _, _, _, _, _, _, _, _, _, _, _, _, _, _, _, _, _, _, _, _]) pf_140_12 rfl rfl rfl rfl rfl ?_
      refine E_iconst pf_140_15 ?_
      refine E_istore (lv' := [_, _]) pf_140_16 rfl rfl ?_
      refine clr140 h _ (fun w1 => ?_) 72 0 _ (by omega) (zfill_0 _ _).symm
      refine E_aload pf_140_36 rfl ?_
      refine E_iconst pf_140_37 ?_
      refine F_v2v (l' := [(_, _), (_, _), (_, _), (_, _), (_, _)]) pf_140_39 (b1) (And.intro rfl (And.intro rfl (trivial))) rfl rfl rfl rfl ?_
      refine E_if_ne_f pf_140_42 (by omega) ?_
      refine E_iconst pf_140_45 ?_
      exact E_iret pf_140_46 rfl
end REA
