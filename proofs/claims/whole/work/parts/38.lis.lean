/-! A list of points, read on both sides. -/
/-- a key of a point without coordinates beyond d -/
def zk (d x : Int) : Prop := ∃ f : Int → Int, b9 f 0 ∧ (∀ j : Int, d ≤ j → j < 4 → f j = 0) ∧ x = ky f 0
theorem kl_zero {P : Int → Int} {n : Nat} {d : Int} (hP : ∀ q, -9 ≤ P q ∧ P q ≤ 9) (hz : ∀ x ∈ kl P n, zk d x) {v j : Int} (hv : 0 ≤ v ∧ v < n) (hj : d ≤ j ∧ 0 ≤ j ∧ j < 4) : P (4 * v + j) = 0 := by
  obtain ⟨f, f1, f2, f3⟩ := hz _ (kl_mem.mpr ⟨v.toNat, by omega, rfl⟩)
  rw [show ((v.toNat : Nat) : Int) = v by omega] at f3
  obtain ⟨e0, e1, e2, e3⟩ := ky_inj ⟨hP _, hP _, hP _, hP _⟩ f1 f3
  have h4 : j = 0 ∨ j = 1 ∨ j = 2 ∨ j = 3 := by omega
  rcases h4 with q | q | q | q <;> subst q
  · rw [Int.add_zero, e0]; exact f2 0 hj.1 (by omega)
  · rw [e1]; exact f2 _ hj.1 (by omega)
  · rw [e2]; exact f2 _ hj.1 (by omega)
  · rw [e3]; exact f2 _ hj.1 (by omega)
theorem kl_same {C P : Int → Int} {n : Nat} (hC : ∀ q, -9 ≤ C q ∧ C q ≤ 9) (hP : ∀ q, -9 ≤ P q ∧ P q ≤ 9) (h : kl C n = kl P n) {v j : Int} (hv : 0 ≤ v ∧ v < n) (hj : 0 ≤ j ∧ j < 4) : C (v * 4 + j) = P (4 * v + j) := by
  have e : ky C (4 * v) = ky P (4 * v) := by
    have h1 := kl_get (C := C) (n := n) (i := v.toNat) (by omega)
    have h2 := kl_get (C := P) (n := n) (i := v.toNat) (by omega)
    rw [h, h2] at h1
    have := Option.some.inj h1
    rw [show ((v.toNat : Nat) : Int) = v by omega] at this
    exact this.symm
  obtain ⟨e0, e1, e2, e3⟩ := ky_inj ⟨hC _, hC _, hC _, hC _⟩ ⟨hP _, hP _, hP _, hP _⟩ e
  rw [Int.mul_comm v 4]
  have h4 : j = 0 ∨ j = 1 ∨ j = 2 ∨ j = 3 := by omega
  rcases h4 with q | q | q | q <;> subst q
  · rw [Int.add_zero]; exact e0
  · exact e1
  · exact e2
  · exact e3
theorem zcpy_b9i {f g : Int → Int} {dp n : Int} (hf : ∀ i : Int, 0 ≤ i → i < n → -9 ≤ f i ∧ f i ≤ 9) (hg : ∀ q, -9 ≤ g q ∧ g q ≤ 9) : ∀ q, -9 ≤ zcpy f g 0 dp n q ∧ zcpy f g 0 dp n q ≤ 9 := by
  intro q; unfold zcpy; split
  · exact hf _ (by omega) (by omega)
  · exact hg _
theorem gd_split {T : Int → Int} {tl lo : Int} {n : Nat} {p : Int} : (gd T tl lo n p = n ∧ ∀ i : Nat, i < n → dg T tl lo 9 (p + i) ≠ -9) ∨ (gd T tl lo n p < n ∧ (∀ i : Nat, i < gd T tl lo n p → dg T tl lo 9 (p + i) ≠ -9) ∧ dg T tl lo 9 (p + (gd T tl lo n p : Int)) = -9) := by
  rcases Nat.lt_or_ge (gd T tl lo n p) n with h | h
  · refine .inr ⟨h, gd_good n p, ?_⟩
    refine Classical.byContradiction fun hne => ?_
    have h2 : ∀ i : Nat, i < gd T tl lo n p + 1 → dg T tl lo 9 (p + i) ≠ -9 := fun i hi => if q : i < gd T tl lo n p then gd_good n p i q else by
      obtain rfl : i = gd T tl lo n p := by omega
      exact hne
    have key : ∀ (n : Nat) (p : Int) (j : Nat), j ≤ n → (∀ i : Nat, i < j → dg T tl lo 9 (p + i) ≠ -9) → j ≤ gd T tl lo n p := by
      intro n
      induction n with
      | zero => intro p j hj _; omega
      | succ n ih =>
        intro p j hj hg
        cases j with
        | zero => omega
        | succ j =>
          have h0 := hg 0 (by omega)
          rw [show p + ((0 : Nat) : Int) = p by omega] at h0
          have h1 := ih (p + 1) j (by omega) fun i hi => by
            have := hg (i + 1) (by omega)
            rwa [show p + ((i + 1 : Nat) : Int) = p + 1 + i by omega] at this
          simp only [gd, if_neg h0]; omega
    have := key n p (gd T tl lo n p + 1) (by omega) h2
    omega
  · have := gd_le (T := T) (tl := tl) (lo := lo) n p
    have e : gd T tl lo n p = n := by omega
    exact .inl ⟨e, fun i hi => gd_good n p i (by omega)⟩
section LIS
variable {T q C P : Int → Int} {tl p : Int} {rf d kd vs rw rr ac : Int} {dn n : Nat} {ks : List Int}
theorem c136i {nn : Int} {i : Nat} (hT : ∀ i, 0 ≤ T i ∧ T i ≤ 255) (ht : tl ≤ 90) (hp : 0 ≤ p ∧ p ≤ tl) (hd : dn ≤ 4) (hn : n ≤ 24) (h : pd_H) (r : pd_Out × pd_H) (h1 : gd T tl 0 dn p = dn → ∀ w4 : Value, Rn 136 68 [.ref 102, .int (ii nn), .int (ii (i : Int)), .int (ii (dn : Int)), w4] [] (wd [(102, oX6 rf tl (p + (dn : Int)) d kd vs rw (dn : Int) 4 (n : Int) rr ac), (103, ar 90 T), (105, ar 128 (zcpy (fun i => T (p + i) - 48) (zcpy (fun _ => 0) P 0 (4 * (n : Int)) 4) 0 (4 * (n : Int)) (dn : Int)))] h) r) (h2 : gd T tl 0 dn p ≠ dn → r = (.inl (some (.int (ii 0))), wd [(102, oX6 rf tl (p + (gd T tl 0 dn p : Int)) d kd vs rw (dn : Int) 4 (n : Int) rr ac), (103, ar 90 T), (105, ar 128 (zcpy (fun i => T (p + i) - 48) (zcpy (fun _ => 0) P 0 (4 * (n : Int)) 4) 0 (4 * (n : Int)) (gd T tl 0 dn p : Int)))] h)) : ∀ (m j : Nat) (A : Int → Int) (w4 : Value), j + m = dn → j ≤ gd T tl 0 dn p → A = (zcpy (fun i => T (p + i) - 48) (zcpy (fun _ => 0) P 0 (4 * (n : Int)) 4) 0 (4 * (n : Int)) (j : Int)) → Rn 136 21 [.ref 102, .int (ii nn), .int (ii (i : Int)), .int (ii (j : Int)), w4] [] (wd [(102, oX6 rf tl (p + (j : Int)) d kd vs rw (dn : Int) 4 (n : Int) rr ac), (103, ar 90 T), (105, ar 128 A)] h) r := by
  intro m
  induction m with
  | zero =>
    intro j A w4 hj hg hA
    obtain rfl : j = dn := by omega
    have hle := gd_le (T := T) (tl := tl) (lo := 0) j p
    subst hA
    have h1 := h1 (by omega) w4
    refine E_iload pf_136_21 rfl ?_
    refine E_aload pf_136_22 rfl ?_
    refine F_getf pf_136_23 rfl rfl rfl ?_
    refine E_icmp_ge_t pf_136_26 (by omega) ?_
    exact h1
  | succ m ih =>
    intro j A w4 hj hg hA
    have hpe := gd_end (T := T) (tl := tl) (lo := 0) (n := dn) hp.2
    have c1 := c130 (rf := rf) (d := d) (k := kd) (vs := vs) (rw := rw) (rd := (dn : Int)) (rk := 4) (rv := (n : Int)) (rr := rr) (ac := ac) (T := T) (tl := tl) (p := p + (j : Int)) (lo := 0) (hi := 9) hT ht (by omega) (by omega) (by omega)
    have hTp := hT (p + (j : Int))
    rcases gd_split (T := T) (tl := tl) (lo := 0) (n := dn) (p := p) with ⟨e1, e2⟩ | ⟨e1, e2, e3⟩
    · have hv := dg_val (e2 j (by omega))
      have ez : nxp (p + (j : Int)) (dg T tl 0 9 (p + (j : Int))) = p + (j : Int) + 1 := if_neg (e2 j (by omega))
      rw [ez, hv.1] at c1
      have ih := ih (j + 1) _ (.int (ii (T (p + (j : Int)) - 48))) (by omega) (by omega) (zcpy_s _ _ _ _ _).symm
      rw [← hA, Int.zero_add, show p + ((j + 1 : Nat) : Int) = p + (j : Int) + 1 by omega] at ih
      refine E_iload pf_136_21 rfl ?_
      refine E_aload pf_136_22 rfl ?_
      refine F_getf pf_136_23 rfl rfl rfl ?_
      refine E_icmp_ge_f pf_136_26 (by omega) ?_
      refine E_aload pf_136_29 rfl ?_
      refine E_iconst pf_136_30 ?_
      refine E_iconst pf_136_31 ?_
      refine F_v3v (l' := [(_, _), (_, _), (_, _)]) pf_136_33 (c1) (And.intro rfl (And.intro rfl (trivial))) rfl rfl rfl rfl ?_
      refine E_istore (lv' := [_, _, _, _, _]) pf_136_36 rfl rfl ?_
      refine E_iload pf_136_38 rfl ?_
      refine E_iconst pf_136_40 ?_
      refine E_icmp_ne_t pf_136_42 (by omega) ?_
      refine E_aload pf_136_47 rfl ?_
      refine F_getf pf_136_48 rfl rfl rfl ?_
      refine E_iconst pf_136_51 ?_
      refine E_aload pf_136_52 rfl ?_
      refine F_getf pf_136_53 rfl rfl rfl ?_
      refine E_imul pf_136_56 ?_
      refine E_iload pf_136_57 rfl ?_
      refine E_iadd pf_136_58 ?_
      refine E_iload pf_136_59 rfl ?_
      refine F_iast (l' := [(_, _), (_, _), (_, _)]) pf_136_61 rfl (by omega) rfl ?_
      refine E_iinc (lv' := [_, _, _, _, _]) pf_136_62 rfl rfl ?_
      refine E_goto pf_136_65 ?_
      exact ih
    · by_cases ej : j = gd T tl 0 dn p
      · subst ej
        rw [e3] at c1
        have ez : nxp (p + (gd T tl 0 dn p : Int)) (-9) = p + (gd T tl 0 dn p : Int) := if_pos rfl
        rw [ez] at c1
        rw [h2 (by omega)]
        subst hA
        refine E_iload pf_136_21 rfl ?_
        refine E_aload pf_136_22 rfl ?_
        refine F_getf pf_136_23 rfl rfl rfl ?_
        refine E_icmp_ge_f pf_136_26 (by omega) ?_
        refine E_aload pf_136_29 rfl ?_
        refine E_iconst pf_136_30 ?_
        refine E_iconst pf_136_31 ?_
        refine F_v3v (l' := [(_, _), (_, _), (_, _)]) pf_136_33 (c1) (And.intro rfl (And.intro rfl (trivial))) rfl rfl rfl rfl ?_
        refine E_istore (lv' := [_, _, _, _, _]) pf_136_36 rfl rfl ?_
        refine E_iload pf_136_38 rfl ?_
        refine E_iconst pf_136_40 ?_
        refine E_icmp_ne_f pf_136_42 (by omega) ?_
        refine E_iconst pf_136_45 ?_
        exact E_iret pf_136_46 rfl
      · have hv := dg_val (e2 j (by omega))
        have ez : nxp (p + (j : Int)) (dg T tl 0 9 (p + (j : Int))) = p + (j : Int) + 1 := if_neg (e2 j (by omega))
        rw [ez, hv.1] at c1
        have ih := ih (j + 1) _ (.int (ii (T (p + (j : Int)) - 48))) (by omega) (by omega) (zcpy_s _ _ _ _ _).symm
        rw [← hA, Int.zero_add, show p + ((j + 1 : Nat) : Int) = p + (j : Int) + 1 by omega] at ih
        refine E_iload pf_136_21 rfl ?_
        refine E_aload pf_136_22 rfl ?_
        refine F_getf pf_136_23 rfl rfl rfl ?_
        refine E_icmp_ge_f pf_136_26 (by omega) ?_
        refine E_aload pf_136_29 rfl ?_
        refine E_iconst pf_136_30 ?_
        refine E_iconst pf_136_31 ?_
        refine F_v3v (l' := [(_, _), (_, _), (_, _)]) pf_136_33 (c1) (And.intro rfl (And.intro rfl (trivial))) rfl rfl rfl rfl ?_
        refine E_istore (lv' := [_, _, _, _, _]) pf_136_36 rfl rfl ?_
        refine E_iload pf_136_38 rfl ?_
        refine E_iconst pf_136_40 ?_
        refine E_icmp_ne_t pf_136_42 (by omega) ?_
        refine E_aload pf_136_47 rfl ?_
        refine F_getf pf_136_48 rfl rfl rfl ?_
        refine E_iconst pf_136_51 ?_
        refine E_aload pf_136_52 rfl ?_
        refine F_getf pf_136_53 rfl rfl rfl ?_
        refine E_imul pf_136_56 ?_
        refine E_iload pf_136_57 rfl ?_
        refine E_iadd pf_136_58 ?_
        refine E_iload pf_136_59 rfl ?_
        refine F_iast (l' := [(_, _), (_, _), (_, _)]) pf_136_61 rfl (by omega) rfl ?_
        refine E_iinc (lv' := [_, _, _, _, _]) pf_136_62 rfl rfl ?_
        refine E_goto pf_136_65 ?_
        exact ih
theorem c136s {nn : Int} {i : Nat} (hT : ∀ i, 0 ≤ T i ∧ T i ≤ 255) (ht : tl ≤ 90) (hp : 0 ≤ p ∧ p ≤ tl) (hd : dn ≤ 4) (hn : n ≤ 24) (h : pd_H) (r : pd_Out × pd_H) (h1 : gd T tl 0 dn p = dn → ∀ w4 : Value, Rn 136 68 [.ref 102, .int (ii nn), .int (ii (i : Int)), .int (ii (dn : Int)), w4] [] (wd [(102, oX6 rf tl (p + (dn : Int)) d kd vs rw (dn : Int) 4 (n : Int) rr ac), (103, ar 90 T), (105, ar 128 (zcpy (fun i => T (p + i) - 48) (zcpy (fun _ => 0) P 0 (4 * (n : Int)) 4) 0 (4 * (n : Int)) (dn : Int)))] h) r) (h2 : gd T tl 0 dn p ≠ dn → r = (.inl (some (.int (ii 0))), wd [(102, oX6 rf tl (p + (gd T tl 0 dn p : Int)) d kd vs rw (dn : Int) 4 (n : Int) rr ac), (103, ar 90 T), (105, ar 128 (zcpy (fun i => T (p + i) - 48) (zcpy (fun _ => 0) P 0 (4 * (n : Int)) 4) 0 (4 * (n : Int)) (gd T tl 0 dn p : Int)))] h)) (w4 : Value) : Rn 136 21 [.ref 102, .int (ii nn), .int (ii (i : Int)), .int (ii ((0 : Nat) : Int)), w4] [] (wd [(102, oX6 rf tl p d kd vs rw (dn : Int) 4 (n : Int) rr ac), (103, ar 90 T), (105, ar 128 (zcpy (fun _ => 0) P 0 (4 * (n : Int)) 4))] h) r := by
  have := c136i hT ht hp hd hn h r h1 h2 dn 0 _ w4 (by omega) (by omega) (zcpy_0 _ _ _ _).symm
  rwa [show p + ((0 : Nat) : Int) = p by omega] at this
theorem lis_loop {nn : Nat} (hT : ∀ i, 0 ≤ T i ∧ T i ≤ 255) (ht : tl ≤ 90) (hd : 1 ≤ dn ∧ dn ≤ 4) (hnn : 1 ≤ nn ∧ nn ≤ 8) : ∀ (m i n : Nat) (p : Int) (C P q : Int → Int) (ks : List Int), i + m = nn → (0 ≤ p ∧ p ≤ tl) → (∀ q, -9 ≤ C q ∧ C q ≤ 9) → (∀ q, -9 ≤ P q ∧ P q ≤ 9) → kl C n = insl [] ks → kl P n = insl [] ks → ks.length = i → (∀ x ∈ ks, zk dn x) → ∃ (b p' : Int) (n' : Nat) (C' P' q' : Int → Int), (b = 0 ∨ b = 1) ∧ (0 ≤ p' ∧ p' ≤ tl) ∧ (∀ q, -9 ≤ C' q ∧ C' q ≤ 9) ∧ (∀ q, -9 ≤ P' q ∧ P' q ≤ 9) ∧ n' ≤ 24 ∧ (b = 1 → ∃ ks' : List Int, kl C' n' = insl [] ks' ∧ kl P' n' = insl [] ks' ∧ ks' ≠ [] ∧ ∀ x ∈ ks', zk dn x) ∧ (∀ h, Rn 47 10 [.ref 3, .int (ii (dn : Int)), .int (ii (nn : Int)), .int (ii (i : Int))] [] (wd [(2, ar 90 T), (3, oR tl p), (4, ar 4 q), (5, oP5 (dn : Int) 4 (n : Int)), (6, ar 96 C)] h) (.inl (some (.int (ii b))), wd [(2, ar 90 T), (3, oR tl p'), (4, ar 4 q'), (5, oP5 (dn : Int) 4 (n' : Int)), (6, ar 96 C')] h)) ∧ ∀ (h : pd_H) (w3 w4 : Value), Rn 136 10 [.ref 102, .int (ii (nn : Int)), .int (ii (i : Int)), w3, w4] [] (wd [(102, oX6 rf tl p d kd vs rw (dn : Int) 4 (n : Int) rr ac), (103, ar 90 T), (105, ar 128 P)] h) (.inl (some (.int (ii b))), wd [(102, oX6 rf tl p' d kd vs rw (dn : Int) 4 (n' : Int) rr ac), (103, ar 90 T), (105, ar 128 P')] h) := by
  intro m
  induction m with
  | zero =>
    intro i n p C P q ks hi hp hC hP kC kP hl hz
    obtain rfl : i = nn := by omega
    have hn := kl_le kC
    refine ⟨1, p, n, C, P, q, .inr rfl, hp, hC, hP, by omega, fun _ => ⟨ks, kC, kP, fun e => by rw [e] at hl; simp at hl; omega, hz⟩, fun h => ?_, fun h w3 w4 => ?_⟩
    ·
      refine E_iload pf_47_10 rfl ?_
      refine E_iload pf_47_11 rfl ?_
      refine E_icmp_ge_t pf_47_12 (by omega) ?_
      refine E_iload pf_47_58 rfl ?_
      refine E_iconst pf_47_59 ?_
      refine E_icmp_eq_f pf_47_61 (by omega) ?_
      refine E_iconst pf_47_64 ?_
      refine E_goto pf_47_65 ?_
      exact E_iret pf_47_69 rfl
    ·
      refine E_iload pf_136_10 rfl ?_
      refine E_iload pf_136_11 rfl ?_
      refine E_icmp_ge_t pf_136_12 (by omega) ?_
      refine E_iload pf_136_93 rfl ?_
      refine E_iconst pf_136_94 ?_
      refine E_icmp_eq_f pf_136_96 (by omega) ?_
      refine E_iconst pf_136_99 ?_
      refine E_goto pf_136_100 ?_
      exact E_iret pf_136_104 rfl
  | succ m ih =>
    intro i n p C P q ks hi hp hC hP kC kP hl hz
    have hn := kl_le kC
    have hpe := gd_end (T := T) (tl := tl) (lo := 0) (n := dn) hp.2
    obtain ⟨q1, hq1, h46⟩ := c46 (T := T) (q := q) (tl := tl) (p := p) (n := dn) (lo := 0) hT ht hp hd.2 (by omega)
    have h133 := c133 (rf := rf) (ts := tl) (sp := p) (d := d) (kd := kd) (vs := vs) (rw := rw) (rd := (dn : Int)) (rk := 4) (rr := rr) (ac := ac) (P := P) (n := n) (by omega)
    rcases gd_split (T := T) (tl := tl) (lo := 0) (n := dn) (p := p) with ⟨e1, e2⟩ | ⟨e1, e2, e3⟩
    · -- all digits are good
      have hq1 := hq1 e1
      have hf : ∀ j : Int, 0 ≤ j → j < dn → -9 ≤ T (p + j) - 48 ∧ T (p + j) - 48 ≤ 9 := fun j h1 h2 => by
        have := dg_val (e2 j.toNat (by omega))
        rw [show ((j.toNat : Nat) : Int) = j by omega] at this
        omega
      have hb : b9 q1 0 := b9_of fun j h1 h2 => by
        rw [hq1 j h1 h2]; unfold nmf
        split
        · exact hf j h1 (by omega)
        · omega
      have hz1 : zk dn (ky q1 0) := ⟨q1, hb, fun j h1 h2 => by rw [hq1 j (by omega) h2]; unfold nmf; rw [if_neg (by omega)], rfl⟩
      have ekl : kl (zcpy (fun i => T (p + i) - 48) (zcpy (fun _ => 0) P 0 (4 * (n : Int)) 4) 0 (4 * (n : Int)) (dn : Int)) n = kl P n := by rw [z0_kl, z0_kl]
      have hb9 := zcpy_b9i (f := (fun i => T (p + i) - 48)) (g := (zcpy (fun _ => 0) P 0 (4 * (n : Int)) 4)) (dp := 4 * (n : Int)) (n := (dn : Int)) hf (z0_b9 hP)
      have ek : ky (zcpy (fun i => T (p + i) - 48) (zcpy (fun _ => 0) P 0 (4 * (n : Int)) 4) 0 (4 * (n : Int)) (dn : Int)) (4 * (n : Int)) = ky q1 0 := ky_congr fun j h1 h2 => by
        rw [Int.zero_add, hq1 j h1 h2]; unfold nmf
        by_cases e : j < (dn : Int)
        · rw [zcpy_at (by omega), if_pos e]
          rw [show (0 : Int) + (4 * (n : Int) + j - 4 * (n : Int)) = j by omega]
        · rw [zcpy_out (by omega), if_neg e, z0_at ⟨h1, h2⟩]
      obtain ⟨n1, C1, a1, a2, a3, h29⟩ := c29p (d := (dn : Int)) (k := 4) (n := n) (C := C) (pt := q1) (by omega) hC hb (by rw [kC]; exact insl_s0 _)
      obtain ⟨n2, P1, b1, b2, b3, h132⟩ := c132 (rf := rf) (ts := tl) (d := d) (kd := kd) (vs := vs) (rw := rw) (rd := (dn : Int)) (rk := 4) (rr := rr) (ac := ac) (sp := p + (dn : Int)) (n := n) (P := (zcpy (fun i => T (p + i) - 48) (zcpy (fun _ => 0) P 0 (4 * (n : Int)) 4) 0 (4 * (n : Int)) (dn : Int))) (by omega) hb9 (by rw [ekl, kP]; exact insl_s0 _)
      rw [ekl, ek, kP] at b2 b3 h132
      rw [kC] at a2 a3 h29
      obtain rfl : n2 = n1 := b3.trans a3.symm
      have hzb : zb (gd T tl 0 dn p = dn) = 1 := if_pos e1
      by_cases em : ky q1 0 ∈ insl [] ks
      · rw [if_pos em] at a3
        have ez : zb (ky q1 0 ∉ insl [] ks) = 0 := if_neg (fun g => g em)
        rw [ez] at h29 h132
        refine ⟨0, p + (dn : Int) - 1, n2, C1, P1, q1, .inl rfl, by omega, a1, b1, by omega, fun q => absurd q (by omega), fun h => ?_, fun h w3 w4 => ?_⟩
        · rw [hzb, e1] at h46
          refine E_iload pf_47_10 rfl ?_
          refine E_iload pf_47_11 rfl ?_
          refine E_icmp_ge_f pf_47_12 (by omega) ?_
          refine E_aload pf_47_15 rfl ?_
          refine E_iload pf_47_16 rfl ?_
          refine E_iconst pf_47_17 ?_
          refine F_v3v (l' := [(_, _), (_, _), (_, _), (_, _), (_, _)]) pf_47_18 (h46) (And.intro rfl (And.intro rfl (And.intro rfl (trivial)))) rfl rfl rfl rfl ?_
          refine E_if_ne_t pf_47_21 (by omega) ?_
          refine E_aload pf_47_26 rfl ?_
          refine F_getf pf_47_27 rfl rfl rfl ?_
          refine E_aload pf_47_30 rfl ?_
          refine F_getf pf_47_31 rfl rfl rfl ?_
          refine F_v2v (l' := [(_, _), (_, _), (_, _), (_, _), (_, _)]) pf_47_34 (h29) (And.intro rfl (And.intro rfl (And.intro rfl (trivial)))) rfl rfl rfl rfl ?_
          refine E_if_ne_f pf_47_37 (by omega) ?_
          refine E_aload pf_47_40 rfl ?_
          refine E_dup pf_47_41 rfl ?_
          refine F_getf pf_47_42 rfl rfl rfl ?_
          refine E_iconst pf_47_45 ?_
          refine E_isub pf_47_46 ?_
          refine F_putf (l' := [(_, _), (_, _), (_, _), (_, _), (_, _)]) (x := ob _ [_, _, _, _, _, _]) pf_47_47 rfl rfl rfl rfl rfl ?_
          refine E_iconst pf_47_50 ?_
          exact E_iret pf_47_51 rfl
        ·
          refine E_iload pf_136_10 rfl ?_
          refine E_iload pf_136_11 rfl ?_
          refine E_icmp_ge_f pf_136_12 (by omega) ?_
          refine E_aload pf_136_15 rfl ?_
          refine F_v1u (l' := [(_, _), (_, _), (_, _)]) pf_136_16 (h133) (And.intro rfl (And.intro rfl (trivial))) rfl rfl rfl rfl ?_
          refine E_iconst pf_136_19 ?_
          refine E_istore (lv' := [_, _, _, _, _]) pf_136_20 rfl rfl ?_
          refine c136s (n := n) (P := P) hT ht hp hd.2 (by omega) h _ (fun _ w4 => ?_) (fun q => absurd e1 q) _
          refine E_aload pf_136_68 rfl ?_
          refine F_v1v (l' := [(_, _), (_, _), (_, _)]) pf_136_69 (h132) (And.intro rfl (And.intro rfl (trivial))) rfl rfl rfl rfl ?_
          refine E_if_ne_f pf_136_72 (by omega) ?_
          refine E_aload pf_136_75 rfl ?_
          refine E_dup pf_136_76 rfl ?_
          refine F_getf pf_136_77 rfl rfl rfl ?_
          refine E_iconst pf_136_80 ?_
          refine E_isub pf_136_81 ?_
          refine F_putf (l' := [(_, _), (_, _), (_, _)]) (x := ob _ [_, _, _, _, _, _, _, _, _, _, _, _, _, _, _, _, _, _, _, _, _, _, _, _, _]) pf_136_82 rfl rfl rfl rfl rfl ?_
          refine E_iconst pf_136_85 ?_
          exact E_iret pf_136_86 rfl
      · rw [if_neg em] at a3
        have ez : zb (ky q1 0 ∉ insl [] ks) = 1 := if_pos em
        rw [ez] at h29 h132
        obtain ⟨b, p', n', C', P', q', f1, f2, f3, f4, f5, f6, f7, f8⟩ := ih (i + 1) n2 (p + (dn : Int)) C1 P1 q1 (ks ++ [ky q1 0]) (by omega) (by omega) a1 b1 (by rw [a2, insl_snoc]) (by rw [b2, insl_snoc]) (by simp [hl]) (fun x hx => by
          rcases List.mem_append.mp hx with g | g
          · exact hz x g
          · rw [List.mem_singleton.mp g]; exact hz1)
        refine ⟨b, p', n', C', P', q', f1, f2, f3, f4, f5, f6, fun h => ?_, fun h w3 w4 => ?_⟩
        · rw [hzb, e1] at h46
          refine E_iload pf_47_10 rfl ?_
          refine E_iload pf_47_11 rfl ?_
          refine E_icmp_ge_f pf_47_12 (by omega) ?_
          refine E_aload pf_47_15 rfl ?_
          refine E_iload pf_47_16 rfl ?_
          refine E_iconst pf_47_17 ?_
          refine F_v3v (l' := [(_, _), (_, _), (_, _), (_, _), (_, _)]) pf_47_18 (h46) (And.intro rfl (And.intro rfl (And.intro rfl (trivial)))) rfl rfl rfl rfl ?_
          refine E_if_ne_t pf_47_21 (by omega) ?_
          refine E_aload pf_47_26 rfl ?_
          refine F_getf pf_47_27 rfl rfl rfl ?_
          refine E_aload pf_47_30 rfl ?_
          refine F_getf pf_47_31 rfl rfl rfl ?_
          refine F_v2v (l' := [(_, _), (_, _), (_, _), (_, _), (_, _)]) pf_47_34 (h29) (And.intro rfl (And.intro rfl (And.intro rfl (trivial)))) rfl rfl rfl rfl ?_
          refine E_if_ne_t pf_47_37 (by omega) ?_
          refine E_iinc (lv' := [_, _, _, _]) pf_47_52 rfl rfl ?_
          refine E_goto pf_47_55 ?_
          exact f7 h
        ·
          refine E_iload pf_136_10 rfl ?_
          refine E_iload pf_136_11 rfl ?_
          refine E_icmp_ge_f pf_136_12 (by omega) ?_
          refine E_aload pf_136_15 rfl ?_
          refine F_v1u (l' := [(_, _), (_, _), (_, _)]) pf_136_16 (h133) (And.intro rfl (And.intro rfl (trivial))) rfl rfl rfl rfl ?_
          refine E_iconst pf_136_19 ?_
          refine E_istore (lv' := [_, _, _, _, _]) pf_136_20 rfl rfl ?_
          refine c136s (n := n) (P := P) hT ht hp hd.2 (by omega) h _ (fun _ w4 => ?_) (fun q => absurd e1 q) _
          refine E_aload pf_136_68 rfl ?_
          refine F_v1v (l' := [(_, _), (_, _), (_, _)]) pf_136_69 (h132) (And.intro rfl (And.intro rfl (trivial))) rfl rfl rfl rfl ?_
          refine E_if_ne_t pf_136_72 (by omega) ?_
          refine E_iinc (lv' := [_, _, _, _, _]) pf_136_87 rfl rfl ?_
          refine E_goto pf_136_90 ?_
          exact f8 h _ _
    · have hzb : zb (gd T tl 0 dn p = dn) = 0 := if_neg (by omega)
      have hf : ∀ j : Int, 0 ≤ j → j < (gd T tl 0 dn p : Int) → -9 ≤ T (p + j) - 48 ∧ T (p + j) - 48 ≤ 9 := fun j h1 h2 => by
        have := dg_val (e2 j.toNat (by omega))
        rw [show ((j.toNat : Nat) : Int) = j by omega] at this
        omega
      refine ⟨0, p + (gd T tl 0 dn p : Int), n, C, (zcpy (fun i => T (p + i) - 48) (zcpy (fun _ => 0) P 0 (4 * (n : Int)) 4) 0 (4 * (n : Int)) (gd T tl 0 dn p : Int)), q1, .inl rfl, by omega, hC, zcpy_b9i hf (z0_b9 hP), by omega, fun q => absurd q (by omega), fun h => ?_, fun h w3 w4 => ?_⟩
      · rw [hzb] at h46
        refine E_iload pf_47_10 rfl ?_
        refine E_iload pf_47_11 rfl ?_
        refine E_icmp_ge_f pf_47_12 (by omega) ?_
        refine E_aload pf_47_15 rfl ?_
        refine E_iload pf_47_16 rfl ?_
        refine E_iconst pf_47_17 ?_
        refine F_v3v (l' := [(_, _), (_, _), (_, _), (_, _), (_, _)]) pf_47_18 (h46) (And.intro rfl (And.intro rfl (And.intro rfl (trivial)))) rfl rfl rfl rfl ?_
        refine E_if_ne_f pf_47_21 (by omega) ?_
        refine E_iconst pf_47_24 ?_
        exact E_iret pf_47_25 rfl
      ·
        refine E_iload pf_136_10 rfl ?_
        refine E_iload pf_136_11 rfl ?_
        refine E_icmp_ge_f pf_136_12 (by omega) ?_
        refine E_aload pf_136_15 rfl ?_
        refine F_v1u (l' := [(_, _), (_, _), (_, _)]) pf_136_16 (h133) (And.intro rfl (And.intro rfl (trivial))) rfl rfl rfl rfl ?_
        refine E_iconst pf_136_19 ?_
        refine E_istore (lv' := [_, _, _, _, _]) pf_136_20 rfl rfl ?_
        exact c136s (n := n) (P := P) hT ht hp hd.2 (by omega) h _ (fun q => by omega) (fun _ => rfl) _
theorem lis (hT : ∀ i, 0 ≤ T i ∧ T i ≤ 255) (ht : tl ≤ 90) (hp : 0 ≤ p ∧ p ≤ tl) (hd : 1 ≤ dn ∧ dn ≤ 4) (hC : (∀ q, -9 ≤ C q ∧ C q ≤ 9)) (hP : (∀ q, -9 ≤ P q ∧ P q ≤ 9)) : ∃ (b p' : Int) (n' : Nat) (C' P' q' : Int → Int), (b = 0 ∨ b = 1) ∧ (0 ≤ p' ∧ p' ≤ tl) ∧ (∀ q, -9 ≤ C' q ∧ C' q ≤ 9) ∧ (∀ q, -9 ≤ P' q ∧ P' q ≤ 9) ∧ n' ≤ 24 ∧ (b = 1 → ∃ ks' : List Int, kl C' n' = insl [] ks' ∧ kl P' n' = insl [] ks' ∧ ks' ≠ [] ∧ ∀ x ∈ ks', zk dn x) ∧ (∀ h, Ca 47 [.ref 3, .int (ii (dn : Int))] (wd [(2, ar 90 T), (3, oR tl p), (4, ar 4 q), (5, oP5 (dn : Int) 4 ((0 : Nat) : Int)), (6, ar 96 C)] h) (.inl (some (.int (ii b))), wd [(2, ar 90 T), (3, oR tl p'), (4, ar 4 q'), (5, oP5 (dn : Int) 4 (n' : Int)), (6, ar 96 C')] h)) ∧ ∀ h, Ca 136 [.ref 102] (wd [(102, oX6 rf tl p d kd vs rw (dn : Int) 4 ((0 : Nat) : Int) rr ac), (103, ar 90 T), (105, ar 128 P)] h) (.inl (some (.int (ii b))), wd [(102, oX6 rf tl p' d kd vs rw (dn : Int) 4 (n' : Int) rr ac), (103, ar 90 T), (105, ar 128 P')] h) := by
  have c1 := c43 (T := T) (tl := tl) (p := p) (lo := 1) (hi := 8) hT ht hp (by omega) (by omega)
  have c2 := c130 (rf := rf) (d := d) (k := kd) (vs := vs) (rw := rw) (rd := (dn : Int)) (rk := 4) (rv := ((0 : Nat) : Int)) (rr := rr) (ac := ac) (T := T) (tl := tl) (p := p) (lo := 1) (hi := 8) hT ht hp (by omega) (by omega)
  by_cases e : dg T tl 1 8 p = -9
  · rw [e, show nxp p (-9) = p from if_pos rfl] at c1 c2
    refine ⟨0, p, 0, C, P, q, .inl rfl, hp, hC, hP, by omega, fun q => absurd q (by omega), fun h => ?_, fun h => ?_⟩
    · refine E_in (lv := [_, _, _, _]) rfl ?_
      refine E_aload pf_47_0 rfl ?_
      refine E_iconst pf_47_1 ?_
      refine E_iconst pf_47_2 ?_
      refine F_v3v (l' := [(_, _), (_, _), (_, _), (_, _), (_, _)]) pf_47_4 (c1) (And.intro rfl (And.intro rfl (trivial))) rfl rfl rfl rfl ?_
      refine E_istore (lv' := [_, _, _, _]) pf_47_7 rfl rfl ?_
      refine E_iconst pf_47_8 ?_
      refine E_istore (lv' := [_, _, _, _]) pf_47_9 rfl rfl ?_
      refine E_iload pf_47_10 rfl ?_
      refine E_iload pf_47_11 rfl ?_
      refine E_icmp_ge_t pf_47_12 (by omega) ?_
      refine E_iload pf_47_58 rfl ?_
      refine E_iconst pf_47_59 ?_
      refine E_icmp_eq_t pf_47_61 (by omega) ?_
      refine E_iconst pf_47_68 ?_
      exact E_iret pf_47_69 rfl
    · refine E_in (lv := [_, _, _, _, _]) rfl ?_
      refine E_aload pf_136_0 rfl ?_
      refine E_iconst pf_136_1 ?_
      refine E_iconst pf_136_2 ?_
      refine F_v3v (l' := [(_, _), (_, _), (_, _)]) pf_136_4 (c2) (And.intro rfl (And.intro rfl (trivial))) rfl rfl rfl rfl ?_
      refine E_istore (lv' := [_, _, _, _, _]) pf_136_7 rfl rfl ?_
      refine E_iconst pf_136_8 ?_
      refine E_istore (lv' := [_, _, _, _, _]) pf_136_9 rfl rfl ?_
      refine E_iload pf_136_10 rfl ?_
      refine E_iload pf_136_11 rfl ?_
      refine E_icmp_ge_t pf_136_12 (by omega) ?_
      refine E_iload pf_136_93 rfl ?_
      refine E_iconst pf_136_94 ?_
      refine E_icmp_eq_t pf_136_96 (by omega) ?_
      refine E_iconst pf_136_103 ?_
      exact E_iret pf_136_104 rfl
  · have hv := dg_val e
    rw [show nxp p (dg T tl 1 8 p) = p + 1 from if_neg e] at c1 c2
    obtain ⟨nn, hnn⟩ : ∃ nn : Nat, dg T tl 1 8 p = (nn : Int) := ⟨(dg T tl 1 8 p).toNat, by omega⟩
    rw [hnn] at c1 c2 hv
    obtain ⟨b, p', n', C', P', q', f1, f2, f3, f4, f5, f6, f7, f8⟩ := lis_loop (rf := rf) (d := d) (kd := kd) (vs := vs) (rw := rw) (rr := rr) (ac := ac) (nn := nn) hT ht hd (by omega) nn 0 0 (p + 1) C P q [] (by omega) (by omega) hC hP rfl rfl rfl (fun x hx => absurd hx (by simp))
    refine ⟨b, p', n', C', P', q', f1, f2, f3, f4, f5, f6, fun h => ?_, fun h => ?_⟩
    · refine E_in (lv := [_, _, _, _]) rfl ?_
      refine E_aload pf_47_0 rfl ?_
      refine E_iconst pf_47_1 ?_
      refine E_iconst pf_47_2 ?_
      refine F_v3v (l' := [(_, _), (_, _), (_, _), (_, _), (_, _)]) pf_47_4 (c1) (And.intro rfl (And.intro rfl (trivial))) rfl rfl rfl rfl ?_
      refine E_istore (lv' := [_, _, _, _]) pf_47_7 rfl rfl ?_
      refine E_iconst pf_47_8 ?_
      refine E_istore (lv' := [_, _, _, _]) pf_47_9 rfl rfl ?_
      exact f7 h
    · refine E_in (lv := [_, _, _, _, _]) rfl ?_
      refine E_aload pf_136_0 rfl ?_
      refine E_iconst pf_136_1 ?_
      refine E_iconst pf_136_2 ?_
      refine F_v3v (l' := [(_, _), (_, _), (_, _)]) pf_136_4 (c2) (And.intro rfl (And.intro rfl (trivial))) rfl rfl rfl rfl ?_
      refine E_istore (lv' := [_, _, _, _, _]) pf_136_7 rfl rfl ?_
      refine E_iconst pf_136_8 ?_
      refine E_istore (lv' := [_, _, _, _, _]) pf_136_9 rfl rfl ?_
      exact f8 h _ _
end LIS
