/-! Both objects made. -/
section INI
variable {C pt P : Int → Int} {d k : Int} {n : Nat}
theorem d31 {i : Int} (hi : 0 ≤ i ∧ i < 24) (hC : ∀ q, -9 ≤ C q ∧ C q ≤ 9) (hp : ∀ j : Int, 0 ≤ j → j < 4 → -2147483648 ≤ pt j ∧ pt j ≤ 2147483647) : ∀ h, Ca 31 [.ref 13, .int (ii i), .ref 15] (wd [(13, oP d k (n : Int)), (14, ar 96 C), (15, ar 4 pt)] h) (.inl (some (.int (ii (lxr (fun j => C (i * 4 + j)) pt 4 0)))), wd [(13, oP d k (n : Int)), (14, ar 96 C), (15, ar 4 pt)] h) := by
  intro h
  refine E_in (lv := [_, _, _, _, _]) rfl ?_
  have loop : ∀ (m j : Nat) (w4 : Value) (z : Int), j + m = 4 → z = lxr (fun j => C (i * 4 + j)) pt m (j : Int) → Rn 31 2 [.ref 13, .int (ii i), .ref 15, .int (ii (j : Int)), w4] [] (wd [(13, oP d k (n : Int)), (14, ar 96 C), (15, ar 4 pt)] h) (.inl (some (.int (ii z))), wd [(13, oP d k (n : Int)), (14, ar 96 C), (15, ar 4 pt)] h) := by
    intro m
    induction m with
    | zero =>
      intro j w4 z hj hz
      obtain rfl : z = 0 := hz
      refine E_iload pf_31_2 rfl ?_
      refine E_iconst pf_31_3 ?_
      refine E_icmp_ge_t pf_31_4 (by omega) ?_
      refine E_iconst pf_31_43 ?_
      exact E_iret pf_31_44 rfl
    | succ m ih =>
      intro j w4 z hj hz
      have b1 := hC (i * 4 + j)
      have b2 := hp j (by omega) (by omega)
      simp only [lxr] at hz
      by_cases e : C (i * 4 + j) = pt j
      · rw [if_pos e] at hz
        have ih := fun w4 => ih (j + 1) w4 z (by omega) hz
        refine E_iload pf_31_2 rfl ?_
        refine E_iconst pf_31_3 ?_
        refine E_icmp_ge_f pf_31_4 (by omega) ?_
        refine E_aload pf_31_7 rfl ?_
        refine E_iload pf_31_8 rfl ?_
        refine E_iload pf_31_9 rfl ?_
        refine F_v3v0 pf_31_10 (c28 (by omega) (by omega)) (And.intro rfl (And.intro rfl (trivial))) rfl rfl ?_
        refine E_istore (lv' := [_, _, _, _, _]) pf_31_13 rfl rfl ?_
        refine E_iload pf_31_15 rfl ?_
        refine E_aload pf_31_17 rfl ?_
        refine E_iload pf_31_18 rfl ?_
        refine F_iald pf_31_19 rfl (by omega) ?_
        refine E_icmp_eq_t pf_31_20 (by omega) ?_
        refine E_iinc (lv' := [_, _, _, _, _]) pf_31_37 rfl rfl ?_
        refine E_goto pf_31_40 ?_
        exact ih _
      · rw [if_neg e] at hz
        by_cases e2 : C (i * 4 + j) < pt j
        · rw [if_pos e2] at hz
          subst hz
          refine E_iload pf_31_2 rfl ?_
          refine E_iconst pf_31_3 ?_
          refine E_icmp_ge_f pf_31_4 (by omega) ?_
          refine E_aload pf_31_7 rfl ?_
          refine E_iload pf_31_8 rfl ?_
          refine E_iload pf_31_9 rfl ?_
          refine F_v3v0 pf_31_10 (c28 (by omega) (by omega)) (And.intro rfl (And.intro rfl (trivial))) rfl rfl ?_
          refine E_istore (lv' := [_, _, _, _, _]) pf_31_13 rfl rfl ?_
          refine E_iload pf_31_15 rfl ?_
          refine E_aload pf_31_17 rfl ?_
          refine E_iload pf_31_18 rfl ?_
          refine F_iald pf_31_19 rfl (by omega) ?_
          refine E_icmp_eq_f pf_31_20 (by omega) ?_
          refine E_iload pf_31_23 rfl ?_
          refine E_aload pf_31_25 rfl ?_
          refine E_iload pf_31_26 rfl ?_
          refine F_iald pf_31_27 rfl (by omega) ?_
          refine E_icmp_ge_f pf_31_28 (by omega) ?_
          refine E_iconst pf_31_31 ?_
          refine E_goto pf_31_32 ?_
          exact E_iret pf_31_36 rfl
        · rw [if_neg e2] at hz
          subst hz
          refine E_iload pf_31_2 rfl ?_
          refine E_iconst pf_31_3 ?_
          refine E_icmp_ge_f pf_31_4 (by omega) ?_
          refine E_aload pf_31_7 rfl ?_
          refine E_iload pf_31_8 rfl ?_
          refine E_iload pf_31_9 rfl ?_
          refine F_v3v0 pf_31_10 (c28 (by omega) (by omega)) (And.intro rfl (And.intro rfl (trivial))) rfl rfl ?_
          refine E_istore (lv' := [_, _, _, _, _]) pf_31_13 rfl rfl ?_
          refine E_iload pf_31_15 rfl ?_
          refine E_aload pf_31_17 rfl ?_
          refine E_iload pf_31_18 rfl ?_
          refine F_iald pf_31_19 rfl (by omega) ?_
          refine E_icmp_eq_f pf_31_20 (by omega) ?_
          refine E_iload pf_31_23 rfl ?_
          refine E_aload pf_31_25 rfl ?_
          refine E_iload pf_31_26 rfl ?_
          refine F_iald pf_31_27 rfl (by omega) ?_
          refine E_icmp_ge_t pf_31_28 (by omega) ?_
          refine E_iconst pf_31_35 ?_
          exact E_iret pf_31_36 rfl
  refine E_iconst pf_31_0 ?_
  refine E_istore (lv' := [_, _, _, _, _]) pf_31_1 rfl rfl ?_
  exact loop 4 0 _ _ (by omega) rfl
theorem d29 (hn : n < 24) (hC : ∀ q, -9 ≤ C q ∧ C q ≤ 9) (hp : b9 pt 0) (hs : (kl C n).Pairwise (· < ·)) : ∃ (n' : Nat) (C' : Int → Int), (∀ q, -9 ≤ C' q ∧ C' q ≤ 9) ∧ kl C' n' = ins (kl C n) (ky pt 0) ∧ n' = (if (ky pt 0) ∈ kl C n then n else n + 1) ∧ ∀ h, Ca 29 [.ref 13, .ref 15] (wd [(13, oP d k (n : Int)), (14, ar 96 C), (15, ar 4 pt)] h) (.inl (some (.int (ii (zb ((ky pt 0) ∉ kl C n))))), wd [(13, oP d k (n' : Int)), (14, ar 96 C'), (15, ar 4 pt)] h) := by
  have hpr : ∀ j : Int, 0 ≤ j → j < 4 → -2147483648 ≤ pt j ∧ pt j ≤ 2147483647 := fun j h1 h2 => by
    unfold b9 at hp
    have : j = 0 ∨ j = 0 + 1 ∨ j = 0 + 2 ∨ j = 0 + 3 := by omega
    rcases this with g | g | g | g <;> rw [g] <;> omega
  have put : ∀ (p : Nat), p ≤ n → (∀ (h : pd_H) (w3 : Value), Rn 29 53 [.ref 13, .ref 15, .int (ii (p : Int)), w3] [] (wd [(13, oP d k (n : Int)), (14, ar 96 C), (15, ar 4 pt)] h) (.inl (some (.int (ii 1))), wd [(13, oP d k ((n + 1 : Nat) : Int)), (14, ar 96 (shp C pt p n)), (15, ar 4 pt)] h)) := by
    intro p hpn h w3
    have loop2 : ∀ (m j : Nat) (A : Int → Int), j + m = 4 → A = zcpy pt (sft C n (4 * n - 4 * p)) 0 ((p : Int) * 4) (j : Int) → Rn 29 91 [.ref 13, .ref 15, .int (ii (p : Int)), .int (ii (j : Int))] [] (wd [(13, oP d k (n : Int)), (14, ar 96 A), (15, ar 4 pt)] h) (.inl (some (.int (ii 1))), wd [(13, oP d k ((n + 1 : Nat) : Int)), (14, ar 96 (shp C pt p n)), (15, ar 4 pt)] h) := by
      intro m
      induction m with
      | zero =>
        intro j A hj hA
        obtain rfl : j = 4 := by omega
        have hA2 : A = shp C pt p n := hA.trans (sft_shp hpn)
        rw [hA2]
        refine E_iload pf_29_91 rfl ?_
        refine E_iconst pf_29_92 ?_
        refine E_icmp_ge_t pf_29_93 (by omega) ?_
        refine E_aload pf_29_115 rfl ?_
        refine E_dup pf_29_116 rfl ?_
        refine F_getf pf_29_117 rfl rfl rfl ?_
        refine E_iconst pf_29_120 ?_
        refine E_iadd pf_29_121 ?_
        refine F_putf (l' := [(_, _), (_, _), (_, _)]) (x := ob _ [_, _, _, _, _, _]) pf_29_122 rfl rfl rfl rfl rfl ?_
        refine E_iconst pf_29_125 ?_
        exact E_iret pf_29_126 rfl
      | succ m ih =>
        intro j A hj hA
        have ih := ih (j + 1) (zu A ((p : Int) * 4 + j) (pt j)) (by omega) (by rw [zcpy_s, hA, Int.zero_add])
        refine E_iload pf_29_91 rfl ?_
        refine E_iconst pf_29_92 ?_
        refine E_icmp_ge_f pf_29_93 (by omega) ?_
        refine E_aload pf_29_96 rfl ?_
        refine F_getf pf_29_97 rfl rfl rfl ?_
        refine E_iload pf_29_100 rfl ?_
        refine E_iconst pf_29_101 ?_
        refine E_imul pf_29_102 ?_
        refine E_iload pf_29_103 rfl ?_
        refine E_iadd pf_29_104 ?_
        refine E_aload pf_29_105 rfl ?_
        refine E_iload pf_29_106 rfl ?_
        refine F_iald pf_29_107 rfl (by omega) ?_
        refine F_iast (l' := [(_, _), (_, _), (_, _)]) pf_29_108 rfl (by omega) rfl ?_
        refine E_iinc (lv' := [_, _, _, _]) pf_29_109 rfl rfl ?_
        refine E_goto pf_29_112 ?_
        exact ih
    have loop1 : ∀ (m t : Nat) (A : Int → Int), t + m = 4 * n - 4 * p → A = sft C n t → Rn 29 62 [.ref 13, .ref 15, .int (ii (p : Int)), .int (ii ((n : Int) * 4 - 1 - t))] [] (wd [(13, oP d k (n : Int)), (14, ar 96 A), (15, ar 4 pt)] h) (.inl (some (.int (ii 1))), wd [(13, oP d k ((n + 1 : Nat) : Int)), (14, ar 96 (shp C pt p n)), (15, ar 4 pt)] h) := by
      intro m
      induction m with
      | zero =>
        intro t A ht hA
        obtain rfl : t = 4 * n - 4 * p := by omega
        refine E_iload pf_29_62 rfl ?_
        refine E_iload pf_29_63 rfl ?_
        refine E_iconst pf_29_64 ?_
        refine E_imul pf_29_65 ?_
        refine E_icmp_lt_t pf_29_66 (by omega) ?_
        refine E_iconst pf_29_89 ?_
        refine E_istore (lv' := [_, _, _, _]) pf_29_90 rfl rfl ?_
        exact loop2 4 0 A (by omega) (by rw [zcpy_0]; exact hA)
      | succ m ih =>
        intro t A ht hA
        have e1 : A ((n : Int) * 4 - 1 - t) = C (4 * n - 1 - t) := by
          rw [hA]; unfold sft; rw [if_neg (by omega)]; congr 1; omega
        have ih := ih (t + 1) (zu A ((n : Int) * 4 - 1 - t + 4) (A ((n : Int) * 4 - 1 - t))) (by omega) (by rw [sft_s, e1, hA]; congr 1; omega)
        rw [show (n : Int) * 4 - 1 - ((t + 1 : Nat) : Int) = (n : Int) * 4 - 1 - t + -1 by omega] at ih
        refine E_iload pf_29_62 rfl ?_
        refine E_iload pf_29_63 rfl ?_
        refine E_iconst pf_29_64 ?_
        refine E_imul pf_29_65 ?_
        refine E_icmp_lt_f pf_29_66 (by omega) ?_
        refine E_aload pf_29_69 rfl ?_
        refine F_getf pf_29_70 rfl rfl rfl ?_
        refine E_iload pf_29_73 rfl ?_
        refine E_iconst pf_29_74 ?_
        refine E_iadd pf_29_75 ?_
        refine E_aload pf_29_76 rfl ?_
        refine F_getf pf_29_77 rfl rfl rfl ?_
        refine E_iload pf_29_80 rfl ?_
        refine F_iald pf_29_81 rfl (by omega) ?_
        refine F_iast (l' := [(_, _), (_, _), (_, _)]) pf_29_82 rfl (by omega) rfl ?_
        refine E_iinc (lv' := [_, _, _, _]) pf_29_83 rfl rfl ?_
        refine E_goto pf_29_86 ?_
        exact ih
    have l1 := loop1 (4 * n - 4 * p) 0 C (by omega) (sft_0 C n).symm
    rw [show (n : Int) * 4 - 1 - ((0 : Nat) : Int) = (n : Int) * 4 - 1 by omega] at l1
    refine E_aload pf_29_53 rfl ?_
    refine F_getf pf_29_54 rfl rfl rfl ?_
    refine E_iconst pf_29_57 ?_
    refine E_imul pf_29_58 ?_
    refine E_iconst pf_29_59 ?_
    refine E_isub pf_29_60 ?_
    refine E_istore (lv' := [_, _, _, _]) pf_29_61 rfl rfl ?_
    exact l1
  have loop : ∀ (m p : Nat), p + m = n → (∀ i : Nat, i < p → ky C (4 * i) < (ky pt 0)) → ∃ (n' : Nat) (C' : Int → Int), (∀ q, -9 ≤ C' q ∧ C' q ≤ 9) ∧ kl C' n' = ins (kl C n) (ky pt 0) ∧ n' = (if (ky pt 0) ∈ kl C n then n else n + 1) ∧ ∀ (h : pd_H) (w3 : Value), Rn 29 2 [.ref 13, .ref 15, .int (ii (p : Int)), w3] [] (wd [(13, oP d k (n : Int)), (14, ar 96 C), (15, ar 4 pt)] h) (.inl (some (.int (ii (zb ((ky pt 0) ∉ kl C n))))), wd [(13, oP d k (n' : Int)), (14, ar 96 C'), (15, ar 4 pt)] h) := by
    intro m
    induction m with
    | zero =>
      intro p hpn hl
      obtain rfl : p = n := by omega
      have hno : (ky pt 0) ∉ kl C p := fun hm => by
        obtain ⟨i, h1, h2⟩ := kl_mem.mp hm
        have := hl i h1
        omega
      have hz : zb ((ky pt 0) ∉ kl C p) = 1 := if_pos hno
      refine ⟨p + 1, shp C pt p p, shp_b9 hC hp, shp_ins (Nat.le_refl _) hl (fun q => by omega), by rw [if_neg hno], fun h w3 => ?_⟩
      rw [hz]
      refine E_iload pf_29_2 rfl ?_
      refine E_aload pf_29_3 rfl ?_
      refine F_getf pf_29_4 rfl rfl rfl ?_
      refine E_icmp_ge_t pf_29_7 (by omega) ?_
      refine E_aload pf_29_25 rfl ?_
      refine F_getf pf_29_26 rfl rfl rfl ?_
      refine E_iconst pf_29_29 ?_
      refine E_icmp_ge_f pf_29_31 (by omega) ?_
      refine E_iload pf_29_34 rfl ?_
      refine E_aload pf_29_35 rfl ?_
      refine F_getf pf_29_36 rfl rfl rfl ?_
      refine E_icmp_ge_t pf_29_39 (by omega) ?_
      exact put p (Nat.le_refl _) h w3
    | succ m ih =>
      intro p hpn hl
      have ec := lxk (i := (p : Int)) hC hp
      rcases cmk_in (ky C (4 * (p : Int))) (ky pt 0) with ⟨c1, c2⟩ | ⟨c1, c2⟩ | ⟨c1, c2⟩
      · have hm : (ky pt 0) ∈ kl C n := kl_mem.mpr ⟨p, by omega, c2.symm⟩
        have hz : zb ((ky pt 0) ∉ kl C n) = 0 := if_neg (fun q => q hm)
        refine ⟨n, C, hC, (ins_old hs hm).symm, by rw [if_pos hm], fun h w3 => ?_⟩
        rw [hz]
        refine E_iload pf_29_2 rfl ?_
        refine E_aload pf_29_3 rfl ?_
        refine F_getf pf_29_4 rfl rfl rfl ?_
        refine E_icmp_ge_f pf_29_7 (by omega) ?_
        refine E_aload pf_29_10 rfl ?_
        refine E_iload pf_29_11 rfl ?_
        refine E_aload pf_29_12 rfl ?_
        refine F_v3v0 pf_29_13 (d31 (by omega) hC hpr) (And.intro rfl (And.intro rfl (And.intro rfl (trivial)))) rfl rfl ?_
        rw [ec, c1]
        refine E_if_ge_t pf_29_16 (by omega) ?_
        refine E_aload pf_29_25 rfl ?_
        refine F_getf pf_29_26 rfl rfl rfl ?_
        refine E_iconst pf_29_29 ?_
        refine E_icmp_ge_f pf_29_31 (by omega) ?_
        refine E_iload pf_29_34 rfl ?_
        refine E_aload pf_29_35 rfl ?_
        refine F_getf pf_29_36 rfl rfl rfl ?_
        refine E_icmp_ge_f pf_29_39 (by omega) ?_
        refine E_aload pf_29_42 rfl ?_
        refine E_iload pf_29_43 rfl ?_
        refine E_aload pf_29_44 rfl ?_
        refine F_v3v0 pf_29_45 (d31 (by omega) hC hpr) (And.intro rfl (And.intro rfl (And.intro rfl (trivial)))) rfl rfl ?_
        rw [ec, c1]
        refine E_if_ne_f pf_29_48 (by omega) ?_
        refine E_iconst pf_29_51 ?_
        exact E_iret pf_29_52 rfl
      · obtain ⟨n', C', h1, h2, h3, h4⟩ := ih (p + 1) (by omega) (fun i hi => if q : i = p then by rw [q]; exact c2 else hl i (by omega))
        refine ⟨n', C', h1, h2, h3, fun h w3 => ?_⟩
        have h4 := h4 h w3
        refine E_iload pf_29_2 rfl ?_
        refine E_aload pf_29_3 rfl ?_
        refine F_getf pf_29_4 rfl rfl rfl ?_
        refine E_icmp_ge_f pf_29_7 (by omega) ?_
        refine E_aload pf_29_10 rfl ?_
        refine E_iload pf_29_11 rfl ?_
        refine E_aload pf_29_12 rfl ?_
        refine F_v3v0 pf_29_13 (d31 (by omega) hC hpr) (And.intro rfl (And.intro rfl (And.intro rfl (trivial)))) rfl rfl ?_
        rw [ec, c1]
        refine E_if_ge_f pf_29_16 (by omega) ?_
        refine E_iinc (lv' := [_, _, _, _]) pf_29_19 rfl rfl ?_
        refine E_goto pf_29_22 ?_
        exact h4
      · have hno : (ky pt 0) ∉ kl C n := fun hm => by
          obtain ⟨i, h1, h2⟩ := kl_mem.mp hm
          rcases Nat.lt_trichotomy i p with g | g | g
          · have := hl i g; omega
          · subst g; omega
          · have := kl_lt hs g h1; omega
        have hz : zb ((ky pt 0) ∉ kl C n) = 1 := if_pos hno
        refine ⟨n + 1, shp C pt p n, shp_b9 hC hp, shp_ins (by omega) hl (fun _ => c2), by rw [if_neg hno], fun h w3 => ?_⟩
        rw [hz]
        refine E_iload pf_29_2 rfl ?_
        refine E_aload pf_29_3 rfl ?_
        refine F_getf pf_29_4 rfl rfl rfl ?_
        refine E_icmp_ge_f pf_29_7 (by omega) ?_
        refine E_aload pf_29_10 rfl ?_
        refine E_iload pf_29_11 rfl ?_
        refine E_aload pf_29_12 rfl ?_
        refine F_v3v0 pf_29_13 (d31 (by omega) hC hpr) (And.intro rfl (And.intro rfl (And.intro rfl (trivial)))) rfl rfl ?_
        rw [ec, c1]
        refine E_if_ge_t pf_29_16 (by omega) ?_
        refine E_aload pf_29_25 rfl ?_
        refine F_getf pf_29_26 rfl rfl rfl ?_
        refine E_iconst pf_29_29 ?_
        refine E_icmp_ge_f pf_29_31 (by omega) ?_
        refine E_iload pf_29_34 rfl ?_
        refine E_aload pf_29_35 rfl ?_
        refine F_getf pf_29_36 rfl rfl rfl ?_
        refine E_icmp_ge_f pf_29_39 (by omega) ?_
        refine E_aload pf_29_42 rfl ?_
        refine E_iload pf_29_43 rfl ?_
        refine E_aload pf_29_44 rfl ?_
        refine F_v3v0 pf_29_45 (d31 (by omega) hC hpr) (And.intro rfl (And.intro rfl (And.intro rfl (trivial)))) rfl rfl ?_
        rw [ec, c1]
        refine E_if_ne_t pf_29_48 (by omega) ?_
        exact put p (by omega) h w3
  obtain ⟨n', C', h1, h2, h3, h4⟩ := loop n 0 (by omega) (fun i hi => by omega)
  refine ⟨n', C', h1, h2, h3, fun h => ?_⟩
  refine E_in (lv := [_, _, _, _]) rfl ?_
  refine E_iconst pf_29_0 ?_
  refine E_istore (lv' := [_, _, _, _]) pf_29_1 rfl rfl ?_
  exact h4 h _
end INI
section INI2
variable {C c g sz q : Int → Int} {k : Int} {dn n : Nat} {ks : List Int}
theorem d32 : ∃ c' : Int → Int, (∀ j : Int, 0 ≤ j → j < 4 → c' j = 0) ∧ ∀ h, Ca 32 [.ref 13] (wd [(13, oP (dn : Int) k (n : Int)), (15, ar 4 c)] h) (.inl none, wd [(13, oP (dn : Int) k (n : Int)), (15, ar 4 c')] h) := by
  refine ⟨zfill c (fun _ => 0) 4, fun j h1 h2 => zfill_at ⟨h1, h2⟩, fun h => ?_⟩
  have loop : ∀ (m j : Nat) (A : Int → Int), j + m = 4 → A = zfill c (fun _ => 0) j → Rn 32 2 [.ref 13, .int (ii (j : Int))] [] (wd [(13, oP (dn : Int) k (n : Int)), (15, ar 4 A)] h) (.inl none, wd [(13, oP (dn : Int) k (n : Int)), (15, ar 4 (zfill c (fun _ => 0) 4))] h) := by
    intro m
    induction m with
    | zero =>
      intro j A hj hA
      obtain rfl : j = 4 := by omega
      subst hA
      refine E_iload pf_32_2 rfl ?_
      refine E_iconst pf_32_3 ?_
      refine E_icmp_ge_t pf_32_4 (by omega) ?_
      exact E_vret pf_32_20 rfl
    | succ m ih =>
      intro j A hj hA
      have ih := ih (j + 1) _ (by omega) (by rw [zfill_s, ← hA])
      refine E_iload pf_32_2 rfl ?_
      refine E_iconst pf_32_3 ?_
      refine E_icmp_ge_f pf_32_4 (by omega) ?_
      refine E_aload pf_32_7 rfl ?_
      refine F_getf pf_32_8 rfl rfl rfl ?_
      refine E_iload pf_32_11 rfl ?_
      refine E_iconst pf_32_12 ?_
      refine F_iast (l' := [(_, _), (_, _)]) pf_32_13 rfl (by omega) rfl ?_
      refine E_iinc (lv' := [_, _]) pf_32_14 rfl rfl ?_
      refine E_goto pf_32_17 ?_
      exact ih
  refine E_in (lv := [_, _]) rfl ?_
  refine E_iconst pf_32_0 ?_
  refine E_istore (lv' := [_, _]) pf_32_1 rfl rfl ?_
  exact loop 4 0 c (by omega) (zfill_0 _ _).symm
theorem d34 {s : Int} (hs : -9 ≤ s ∧ s ≤ 9) (hd : dn ≤ 4) (hC : (∀ q, -9 ≤ C q ∧ C q ≤ 9)) (hk : kl C n = insl [] ks) (hn : n + dn ≤ 24) : ∃ (n' : Nat) (C' c' : Int → Int), (∀ q, -9 ≤ C' q ∧ C' q ≤ 9) ∧ kl C' n' = insl [] (ks ++ axk s dn) ∧ n' ≤ n + dn ∧ ∀ h, Ca 34 [.ref 13, .int (ii s)] (wd [(13, oP (dn : Int) k (n : Int)), (14, ar 96 C), (15, ar 4 c)] h) (.inl none, wd [(13, oP (dn : Int) k (n' : Int)), (14, ar 96 C'), (15, ar 4 c')] h) := by
  have loop : ∀ (m j n : Nat) (C c : Int → Int), j + m = dn → n + m ≤ 24 → (∀ q, -9 ≤ C q ∧ C q ≤ 9) → kl C n = insl [] (ks ++ (List.range j).map (axp s)) → ∃ (n' : Nat) (C' c' : Int → Int), (∀ q, -9 ≤ C' q ∧ C' q ≤ 9) ∧ kl C' n' = insl [] (ks ++ axk s dn) ∧ n' ≤ n + m ∧ ∀ h, Rn 34 2 [.ref 13, .int (ii s), .int (ii (j : Int))] [] (wd [(13, oP (dn : Int) k (n : Int)), (14, ar 96 C), (15, ar 4 c)] h) (.inl none, wd [(13, oP (dn : Int) k (n' : Int)), (14, ar 96 C'), (15, ar 4 c')] h) := by
    intro m
    induction m with
    | zero =>
      intro j n C c hj hn hC hk
      obtain rfl : j = dn := by omega
      refine ⟨n, C, c, hC, hk, by omega, fun h => ?_⟩
      refine E_iload pf_34_2 rfl ?_
      refine E_aload pf_34_3 rfl ?_
      refine F_getf pf_34_4 rfl rfl rfl ?_
      refine E_icmp_ge_t pf_34_7 (by omega) ?_
      exact E_vret pf_34_41 rfl
    | succ m ih =>
      intro j n C c hj hn hC hk
      obtain ⟨c1, hc1, h32⟩ := d32 (dn := dn) (k := k) (n := n) (c := c)
      have hb : b9 (zu c1 (j : Int) s) 0 := b9_of fun i h1 h2 => by
        unfold zu
        split
        · exact hs
        · rw [hc1 i h1 h2]; omega
      have ek : ky (zu c1 (j : Int) s) 0 = axp s j := ky_congr fun i h1 h2 => by
        unfold zu
        split
        · rfl
        · exact hc1 _ (by omega) (by omega)
      obtain ⟨n1, C1, h1, h2, h3, h29⟩ := d29 (d := (dn : Int)) (k := k) (n := n) (C := C) (pt := zu c1 (j : Int) s) (by omega) hC hb (by rw [hk]; exact insl_s0 _)
      have h3' : n1 ≤ n + 1 := by rw [h3]; split <;> omega
      obtain ⟨n2, C2, c2, g1, g2, g3, g4⟩ := ih (j + 1) n1 C1 (zu c1 (j : Int) s) (by omega) (by omega) h1 (by rw [h2, hk, ek, ← insl_snoc, rgm_s, List.append_assoc])
      refine ⟨n2, C2, c2, g1, g2, by omega, fun h => ?_⟩
      refine E_iload pf_34_2 rfl ?_
      refine E_aload pf_34_3 rfl ?_
      refine F_getf pf_34_4 rfl rfl rfl ?_
      refine E_icmp_ge_f pf_34_7 (by omega) ?_
      refine E_iload pf_34_10 rfl ?_
      refine E_iconst pf_34_11 ?_
      refine E_icmp_ge_f pf_34_12 (by omega) ?_
      refine E_aload pf_34_15 rfl ?_
      refine F_v1u (l' := [(_, _), (_, _), (_, _)]) pf_34_16 (h32) (And.intro rfl (And.intro rfl (trivial))) rfl rfl rfl rfl ?_
      refine E_aload pf_34_19 rfl ?_
      refine F_getf pf_34_20 rfl rfl rfl ?_
      refine E_iload pf_34_23 rfl ?_
      refine E_iload pf_34_24 rfl ?_
      refine F_iast (l' := [(_, _), (_, _), (_, _)]) pf_34_25 rfl (by omega) rfl ?_
      refine E_aload pf_34_26 rfl ?_
      refine E_aload pf_34_27 rfl ?_
      refine F_getf pf_34_28 rfl rfl rfl ?_
      refine F_v2v (l' := [(_, _), (_, _), (_, _)]) pf_34_31 (h29) (And.intro rfl (And.intro rfl (And.intro rfl (trivial)))) rfl rfl rfl rfl ?_
      refine E_pop pf_34_34 rfl ?_
      refine E_iinc (lv' := [_, _, _]) pf_34_35 rfl rfl ?_
      refine E_goto pf_34_38 ?_
      exact g4 h
  obtain ⟨n2, C2, c2, g1, g2, g3, g4⟩ := loop dn 0 n C c (by omega) hn hC (by rw [hk]; simp)
  refine ⟨n2, C2, c2, g1, g2, g3, fun h => ?_⟩
  refine E_in (lv := [_, _, _]) rfl ?_
  refine E_iconst pf_34_0 ?_
  refine E_istore (lv' := [_, _, _]) pf_34_1 rfl rfl ?_
  exact g4 h
theorem d26 {a b d0 k0 n0 : Int} : ∀ h, Ca 26 [.ref 13, .int (ii a), .int (ii b)] (wd [(13, oP d0 k0 n0)] h) (.inl none, wd [(13, oP a b ((0 : Nat) : Int))] h) := by
  intro h
  refine E_in (lv := [_, _, _]) rfl ?_
  refine E_aload pf_26_0 rfl ?_
  refine E_iload pf_26_1 rfl ?_
  refine F_putf (l' := [(_, _)]) (x := ob _ [_, _, _, _, _, _]) pf_26_2 rfl rfl rfl rfl rfl ?_
  refine E_aload pf_26_5 rfl ?_
  refine E_iload pf_26_6 rfl ?_
  refine F_putf (l' := [(_, _)]) (x := ob _ [_, _, _, _, _, _]) pf_26_7 rfl rfl rfl rfl rfl ?_
  refine E_aload pf_26_10 rfl ?_
  refine E_iconst pf_26_11 ?_
  refine F_putf (l' := [(_, _)]) (x := ob _ [_, _, _, _, _, _]) pf_26_12 rfl rfl rfl rfl rfl ?_
  exact E_vret pf_26_15 rfl
theorem d33 (hq : q 0 = 1) (hC : (∀ q, -9 ≤ C q ∧ C q ≤ 9)) : ∃ C' c' : Int → Int, (∀ q, -9 ≤ C' q ∧ C' q ≤ 9) ∧ kl C' 2 = [0, 32768] ∧ ∀ h, Ca 33 [.ref 13, .ref 17] (wd [(13, oP (1 : Int) 0 ((0 : Nat) : Int)), (14, ar 96 C), (15, ar 4 c), (17, ar 4 q)] h) (.inl none, wd [(13, oP (1 : Int) 0 ((2 : Nat) : Int)), (14, ar 96 C'), (15, ar 4 c'), (17, ar 4 q)] h) := by
  obtain ⟨c1, hc1, h32⟩ := d32 (dn := 1) (k := 0) (n := 0) (c := c)
  obtain ⟨n1, C1, h1, h2, h3, h29⟩ := d29 (d := ((1 : Nat) : Int)) (k := 0) (n := 0) (C := C) (pt := c1) (by omega) hC (b9_of fun i h1 h2 => by rw [hc1 i h1 h2]; omega) List.Pairwise.nil
  have ek : ky c1 0 = 0 := by
    have : ky c1 0 = ky (fun _ => 0) 0 := ky_congr fun i h1 h2 => hc1 _ (by omega) (by omega)
    rw [this]; rfl
  have h3' : n1 ≤ 1 := by rw [h3]; split <;> omega
  obtain ⟨n2, C2, c2, e1, e2, e3, h34⟩ := d34 (dn := 1) (k := 0) (n := n1) (C := C1) (c := c1) (ks := [0]) (s := 1) (by omega) (by omega) h1 (by rw [h2, ek]; rfl) (by omega)
  have e4 : kl C2 n2 = [0, 32768] := by rw [e2]; decide
  have en : n2 = 2 := by
    have := congrArg List.length e4
    rw [kl_len] at this
    exact this
  subst en
  refine ⟨C2, c2, e1, e4, fun h => ?_⟩
  refine E_in (lv := [_, _]) rfl ?_
  refine E_aload pf_33_0 rfl ?_
  refine F_getf pf_33_1 rfl rfl rfl ?_
  refine E_tsw pf_33_4 (by omega) rfl ?_
  refine E_aload pf_33_36 rfl ?_
  refine F_v1u (l' := [(_, _), (_, _), (_, _), (_, _)]) pf_33_37 (h32) (And.intro rfl (And.intro rfl (trivial))) rfl rfl rfl rfl ?_
  refine E_aload pf_33_40 rfl ?_
  refine E_aload pf_33_41 rfl ?_
  refine F_getf pf_33_42 rfl rfl rfl ?_
  refine F_v2v (l' := [(_, _), (_, _), (_, _), (_, _)]) pf_33_45 (h29) (And.intro rfl (And.intro rfl (And.intro rfl (trivial)))) rfl rfl rfl rfl ?_
  refine E_pop pf_33_48 rfl ?_
  refine E_aload pf_33_49 rfl ?_
  refine E_aload pf_33_50 rfl ?_
  refine E_iconst pf_33_51 ?_
  refine F_iald pf_33_52 rfl (by omega) ?_
  rw [hq]
  refine F_v2u (l' := [(_, _), (_, _), (_, _), (_, _)]) pf_33_53 (h34) (And.intro rfl (And.intro rfl (And.intro rfl (trivial)))) rfl rfl rfl rfl ?_
  refine E_goto pf_33_56 ?_
  exact E_vret pf_33_93 rfl
end INI2
set_option maxRecDepth 100000 in
set_option maxHeartbeats 8000000 in
theorem n62 : ∃ C' c' : Int → Int, (∀ q, -9 ≤ C' q ∧ C' q ≤ 9) ∧ kl C' 2 = [0, 32768] ∧ ∀ f, Ca 62 [.ref 1] (wd [(1, ob 5 [.null, .int (ii 0), .null, .null, .null, .null, .null, .null, .null, .null, .null, .null, .null])] ((1, 13, 1), f)) (.inl none, wd [(1, oPD 0), (2, ar 90 (fun _ => 0)), (3, oR 0 0), (4, ar 4 (fun _ => 0)), (5, oP5 0 0 0), (6, ar 96 (fun _ => 0)), (7, ar 4 (fun _ => 0)), (8, ar 4 (fun _ => 0)), (9, oS9 0 0 0 0), (10, ar 20 (fun _ => 0)), (11, ar 24 (fun _ => 0)), (12, ar 24 (fun _ => 0)), (13, oP 1 0 ((2 : Nat) : Int)), (14, ar 96 C'), (15, ar 4 c'), (16, ar 4 (fun _ => 0)), (17, ar 4 (zu (fun _ => 0) 0 1)), (18, oD 0 0), (19, ar 4 (fun _ => 0)), (20, ar 4 (fun _ => 0)), (21, lr 4 (fun _ => 0)), (22, ar 4 (fun _ => 0)), (23, ar 24 (fun _ => 0)), (24, oS24 1 1 0 0), (25, ar 20 (zu (fun _ => 0) 0 1)), (26, ar 24 (zu (fun _ => 0) 0 0)), (27, ar 24 (zu (fun _ => 0) 0 100)), (28, ob 4 [.int (ii 0), .ref 29, .int (ii 0), .ref 30, .ref 31, .int (ii 0), .int (ii 0)]), (29, ar 20 (fun _ => 0)), (30, ar 24 (fun _ => 0)), (31, ar 24 (fun _ => 0)), (32, ob 1 [.int (ii 0), .int (ii 0), .ref 33]), (33, rr 14 rq34), (34, ob 4 [.int (ii 0), .ref 35, .int (ii 0), .ref 36, .ref 37, .int (ii 0), .int (ii 0)]), (35, ar 20 (fun _ => 0)), (36, ar 24 (fun _ => 0)), (37, ar 24 (fun _ => 0)), (38, ob 4 [.int (ii 0), .ref 39, .int (ii 0), .ref 40, .ref 41, .int (ii 0), .int (ii 0)]), (39, ar 20 (fun _ => 0)), (40, ar 24 (fun _ => 0)), (41, ar 24 (fun _ => 0)), (42, ob 4 [.int (ii 0), .ref 43, .int (ii 0), .ref 44, .ref 45, .int (ii 0), .int (ii 0)]), (43, ar 20 (fun _ => 0)), (44, ar 24 (fun _ => 0)), (45, ar 24 (fun _ => 0)), (46, ob 4 [.int (ii 0), .ref 47, .int (ii 0), .ref 48, .ref 49, .int (ii 0), .int (ii 0)]), (47, ar 20 (fun _ => 0)), (48, ar 24 (fun _ => 0)), (49, ar 24 (fun _ => 0)), (50, ob 4 [.int (ii 0), .ref 51, .int (ii 0), .ref 52, .ref 53, .int (ii 0), .int (ii 0)]), (51, ar 20 (fun _ => 0)), (52, ar 24 (fun _ => 0)), (53, ar 24 (fun _ => 0)), (54, ob 4 [.int (ii 0), .ref 55, .int (ii 0), .ref 56, .ref 57, .int (ii 0), .int (ii 0)]), (55, ar 20 (fun _ => 0)), (56, ar 24 (fun _ => 0)), (57, ar 24 (fun _ => 0)), (58, ob 4 [.int (ii 0), .ref 59, .int (ii 0), .ref 60, .ref 61, .int (ii 0), .int (ii 0)]), (59, ar 20 (fun _ => 0)), (60, ar 24 (fun _ => 0)), (61, ar 24 (fun _ => 0)), (62, ob 4 [.int (ii 0), .ref 63, .int (ii 0), .ref 64, .ref 65, .int (ii 0), .int (ii 0)]), (63, ar 20 (fun _ => 0)), (64, ar 24 (fun _ => 0)), (65, ar 24 (fun _ => 0)), (66, ob 4 [.int (ii 0), .ref 67, .int (ii 0), .ref 68, .ref 69, .int (ii 0), .int (ii 0)]), (67, ar 20 (fun _ => 0)), (68, ar 24 (fun _ => 0)), (69, ar 24 (fun _ => 0)), (70, ob 4 [.int (ii 0), .ref 71, .int (ii 0), .ref 72, .ref 73, .int (ii 0), .int (ii 0)]), (71, ar 20 (fun _ => 0)), (72, ar 24 (fun _ => 0)), (73, ar 24 (fun _ => 0)), (74, ob 4 [.int (ii 0), .ref 75, .int (ii 0), .ref 76, .ref 77, .int (ii 0), .int (ii 0)]), (75, ar 20 (fun _ => 0)), (76, ar 24 (fun _ => 0)), (77, ar 24 (fun _ => 0)), (78, ob 4 [.int (ii 0), .ref 79, .int (ii 0), .ref 80, .ref 81, .int (ii 0), .int (ii 0)]), (79, ar 20 (fun _ => 0)), (80, ar 24 (fun _ => 0)), (81, ar 24 (fun _ => 0)), (82, ob 4 [.int (ii 0), .ref 83, .int (ii 0), .ref 84, .ref 85, .int (ii 0), .int (ii 0)]), (83, ar 20 (fun _ => 0)), (84, ar 24 (fun _ => 0)), (85, ar 24 (fun _ => 0)), (86, ob 4 [.int (ii 0), .ref 87, .int (ii 0), .ref 88, .ref 89, .int (ii 0), .int (ii 0)]), (87, ar 20 (fun _ => 0)), (88, ar 24 (fun _ => 0)), (89, ar 24 (fun _ => 0)), (90, rr 2 rq91), (91, ob 4 [.int (ii 0), .ref 92, .int (ii 0), .ref 93, .ref 94, .int (ii 0), .int (ii 0)]), (92, ar 20 (fun _ => 0)), (93, ar 24 (fun _ => 0)), (94, ar 24 (fun _ => 0)), (95, ob 4 [.int (ii 0), .ref 96, .int (ii 0), .ref 97, .ref 98, .int (ii 0), .int (ii 0)]), (96, ar 20 (fun _ => 0)), (97, ar 24 (fun _ => 0)), (98, ar 24 (fun _ => 0)), (99, br 2 (fun _ => 0)), (100, lr 4 (fun _ => 0)), (101, ar 4 (fun _ => 0))] ((101, 1839, 101), f)) := by
  obtain ⟨C', c', y1, y2, h33⟩ := d33 (C := fun _ => 0) (c := fun _ => 0) (q := zu (fun _ => 0) 0 1) rfl (fun _ => by omega)
  refine ⟨C', c', y1, y2, fun f => ?_⟩
  refine E_in (lv := [_, _]) rfl ?_
  refine E_aload pf_62_0 rfl ?_
  refine P_oi pf_62_1 rfl ?_
  refine E_aload pf_62_4 rfl ?_
  refine E_iconst pf_62_5 ?_
  refine P_nI (nn := 90) pf_62_7 rfl rfl rfl rfl ?_
  refine P_putf (x := ob _ [_, _, _, _, _, _, _, _, _, _, _, _, _]) pf_62_9 rfl rfl rfl rfl ?_
  refine E_aload pf_62_12 rfl ?_
  refine E_iconst pf_62_13 ?_
  refine P_putf (x := ob _ [_, _, _, _, _, _, _, _, _, _, _, _, _]) pf_62_14 rfl rfl rfl rfl ?_
  refine E_aload pf_62_17 rfl ?_
  refine P_new (x := ob 3 [.null, .int (ii 0), .int (ii 0), .null, .null, .null]) pf_62_18 rfl rfl rfl rfl rfl ?_
  refine E_dup pf_62_21 rfl ?_
  refine E_aload pf_62_22 rfl ?_
  refine F_getf pf_62_23 rfl rfl rfl ?_
  refine E_s2u pf_62_26 (wd_at rfl) rfl (Ca_nw (n40) (And.intro rfl (trivial)) _) ?_
  refine P_putf (x := ob _ [_, _, _, _, _, _, _, _, _, _, _, _, _]) pf_62_29 rfl rfl rfl rfl ?_
  refine E_aload pf_62_32 rfl ?_
  refine P_new (x := ob 2 [.int (ii 0), .int (ii 0), .int (ii 0), .null, .null, .null]) pf_62_33 rfl rfl rfl rfl rfl ?_
  refine E_dup pf_62_36 rfl ?_
  refine E_s1u pf_62_37 (wd_at rfl) rfl (Ca_nw (n25_13) (And.intro rfl (trivial)) _) ?_
  refine P_putf (x := ob _ [_, _, _, _, _, _, _, _, _, _, _, _, _]) pf_62_40 rfl rfl rfl rfl ?_
  refine E_aload pf_62_43 rfl ?_
  refine E_iconst pf_62_44 ?_
  refine P_nI (nn := 4) pf_62_45 rfl rfl rfl rfl ?_
  refine P_putf (x := ob _ [_, _, _, _, _, _, _, _, _, _, _, _, _]) pf_62_47 rfl rfl rfl rfl ?_
  refine E_aload pf_62_50 rfl ?_
  refine F_getf pf_62_51 rfl rfl rfl ?_
  refine E_iconst pf_62_54 ?_
  refine E_iconst pf_62_55 ?_
  refine P_iast (n := 4) (q := fun _ => 0) pf_62_56 rfl (by omega) ?_
  refine E_aload pf_62_57 rfl ?_
  refine F_getf pf_62_58 rfl rfl rfl ?_
  refine E_iconst pf_62_61 ?_
  refine E_iconst pf_62_62 ?_
  refine E_v3u pf_62_63 (wd_at rfl) rfl (Ca_ps (d26) (And.intro rfl (trivial)) _) ?_
  refine E_aload pf_62_66 rfl ?_
  refine F_getf pf_62_67 rfl rfl rfl ?_
  refine E_aload pf_62_70 rfl ?_
  refine F_getf pf_62_71 rfl rfl rfl ?_
  refine E_v2u pf_62_74 (wd_at rfl) rfl (Ca_ps (h33) (And.intro rfl (And.intro rfl (And.intro rfl (And.intro rfl (trivial))))) _) ?_
  refine E_aload pf_62_77 rfl ?_
  refine P_new (x := ob 0 [.null, .null, .null, .null, .null, .null, .long (ll 0), .long (ll 0)]) pf_62_78 rfl rfl rfl rfl rfl ?_
  refine E_dup pf_62_81 rfl ?_
  refine E_aload pf_62_82 rfl ?_
  refine F_getf pf_62_83 rfl rfl rfl ?_
  refine E_s2u pf_62_86 (wd_at rfl) rfl (Ca_nw (n0) (And.intro rfl (trivial)) _) ?_
  refine P_putf (x := ob _ [_, _, _, _, _, _, _, _, _, _, _, _, _]) pf_62_89 rfl rfl rfl rfl ?_
  refine E_aload pf_62_92 rfl ?_
  refine P_new (x := ob 4 [.int (ii 0), .null, .int (ii 0), .null, .null, .int (ii 0), .int (ii 0)]) pf_62_93 rfl rfl rfl rfl rfl ?_
  refine E_dup pf_62_96 rfl ?_
  refine E_s1u pf_62_97 (wd_at rfl) rfl (Ca_nw (n51_24) (And.intro rfl (trivial)) _) ?_
  refine P_putf (x := ob _ [_, _, _, _, _, _, _, _, _, _, _, _, _]) pf_62_100 rfl rfl rfl rfl ?_
  refine E_aload pf_62_103 rfl ?_
  refine F_getf pf_62_104 rfl rfl rfl ?_
  refine E_iconst pf_62_107 ?_
  refine P_putf (x := ob _ [_, _, _, _, _, _, _]) pf_62_108 rfl rfl rfl rfl ?_
  refine E_aload pf_62_111 rfl ?_
  refine F_getf pf_62_112 rfl rfl rfl ?_
  refine F_getf pf_62_115 rfl rfl rfl ?_
  refine E_iconst pf_62_118 ?_
  refine E_iconst pf_62_119 ?_
  refine P_iast (n := 20) (q := fun _ => 0) pf_62_120 rfl (by omega) ?_
  refine E_aload pf_62_121 rfl ?_
  refine F_getf pf_62_122 rfl rfl rfl ?_
  refine E_iconst pf_62_125 ?_
  refine E_v2u pf_62_126 (wd_at rfl) rfl (Ca_ps (c58s (rn := 1) (m := 0)) (And.intro rfl (And.intro rfl (And.intro rfl (trivial)))) _) ?_
  refine E_aload pf_62_129 rfl ?_
  refine P_new (x := ob 4 [.int (ii 0), .null, .int (ii 0), .null, .null, .int (ii 0), .int (ii 0)]) pf_62_130 rfl rfl rfl rfl rfl ?_
  refine E_dup pf_62_133 rfl ?_
  refine E_s1u pf_62_134 (wd_at rfl) rfl (Ca_nw (n51_28) (And.intro rfl (trivial)) _) ?_
  refine P_putf (x := ob _ [_, _, _, _, _, _, _, _, _, _, _, _, _]) pf_62_137 rfl rfl rfl rfl ?_
  refine E_aload pf_62_140 rfl ?_
  refine P_new (x := ob 1 [.int (ii 0), .int (ii 0), .null]) pf_62_141 rfl rfl rfl rfl rfl ?_
  refine E_dup pf_62_144 rfl ?_
  refine E_s1u pf_62_145 (wd_at rfl) rfl (Ca_nw (n21) (And.intro rfl (trivial)) _) ?_
  refine P_putf (x := ob _ [_, _, _, _, _, _, _, _, _, _, _, _, _]) pf_62_148 rfl rfl rfl rfl ?_
  refine E_aload pf_62_151 rfl ?_
  refine E_iconst pf_62_152 ?_
  refine P_nR (nn := 2) pf_62_153 rfl rfl rfl rfl ?_
  refine P_putf (x := ob _ [_, _, _, _, _, _, _, _, _, _, _, _, _]) pf_62_156 rfl rfl rfl rfl ?_
  refine E_iconst pf_62_159 ?_
  refine E_istore (lv' := [_, _]) pf_62_160 rfl rfl ?_
  refine E_iload pf_62_161 rfl ?_
  refine E_iconst pf_62_162 ?_
  refine E_icmp_ge_f pf_62_163 (by omega) ?_
  refine E_aload pf_62_166 rfl ?_
  refine F_getf pf_62_167 rfl rfl rfl ?_
  refine E_iload pf_62_170 rfl ?_
  refine P_new (x := ob 4 [.int (ii 0), .null, .int (ii 0), .null, .null, .int (ii 0), .int (ii 0)]) pf_62_171 rfl rfl rfl rfl rfl ?_
  refine E_dup pf_62_174 rfl ?_
  refine E_s1u pf_62_175 (wd_at rfl) rfl (Ca_nw (n51_91) (And.intro rfl (trivial)) _) ?_
  refine P_aast pf_62_178 rfl rfl (j := 0) rfl rfl rfl ?_
  refine E_iinc (lv' := [_, _]) pf_62_179 rfl rfl ?_
  refine E_goto pf_62_182 ?_
  refine E_iload pf_62_161 rfl ?_
  refine E_iconst pf_62_162 ?_
  refine E_icmp_ge_f pf_62_163 (by omega) ?_
  refine E_aload pf_62_166 rfl ?_
  refine F_getf pf_62_167 rfl rfl rfl ?_
  refine E_iload pf_62_170 rfl ?_
  refine P_new (x := ob 4 [.int (ii 0), .null, .int (ii 0), .null, .null, .int (ii 0), .int (ii 0)]) pf_62_171 rfl rfl rfl rfl rfl ?_
  refine E_dup pf_62_174 rfl ?_
  refine E_s1u pf_62_175 (wd_at rfl) rfl (Ca_nw (n51_95) (And.intro rfl (trivial)) _) ?_
  refine P_aast pf_62_178 rfl rfl (j := 1) rfl rfl rfl ?_
  refine E_iinc (lv' := [_, _]) pf_62_179 rfl rfl ?_
  refine E_goto pf_62_182 ?_
  refine E_iload pf_62_161 rfl ?_
  refine E_iconst pf_62_162 ?_
  refine E_icmp_ge_t pf_62_163 (by omega) ?_
  refine E_aload pf_62_185 rfl ?_
  refine E_iconst pf_62_186 ?_
  refine P_nB (nn := 2) pf_62_187 rfl rfl rfl rfl ?_
  refine P_putf (x := ob _ [_, _, _, _, _, _, _, _, _, _, _, _, _]) pf_62_189 rfl rfl rfl rfl ?_
  refine E_aload pf_62_192 rfl ?_
  refine E_iconst pf_62_193 ?_
  refine P_nL (nn := 4) pf_62_194 rfl rfl rfl rfl ?_
  refine P_putf (x := ob _ [_, _, _, _, _, _, _, _, _, _, _, _, _]) pf_62_196 rfl rfl rfl rfl ?_
  refine E_aload pf_62_199 rfl ?_
  refine E_iconst pf_62_200 ?_
  refine P_nI (nn := 4) pf_62_201 rfl rfl rfl rfl ?_
  refine P_putf (x := ob _ [_, _, _, _, _, _, _, _, _, _, _, _, _]) pf_62_203 rfl rfl rfl rfl ?_
  rw [rz2]
  exact Rn_eq (E_vret pf_62_206 rfl) (Prod.ext rfl (wd_eq (And.intro rfl (And.intro rfl (And.intro rfl (And.intro rfl (And.intro rfl (And.intro rfl (And.intro rfl (And.intro rfl (And.intro rfl (And.intro rfl (And.intro rfl (And.intro rfl (And.intro rfl (And.intro rfl (And.intro rfl (And.intro rfl (And.intro rfl (And.intro rfl (And.intro rfl (And.intro rfl (And.intro rfl (And.intro rfl (And.intro rfl (And.intro rfl (And.intro rfl (And.intro rfl (And.intro rfl (And.intro rfl (And.intro rfl (And.intro rfl (And.intro rfl (And.intro rfl (And.intro rfl (And.intro rfl (And.intro rfl (And.intro rfl (And.intro rfl (And.intro rfl (And.intro rfl (And.intro rfl (And.intro rfl (And.intro rfl (And.intro rfl (And.intro rfl (And.intro rfl (And.intro rfl (And.intro rfl (And.intro rfl (And.intro rfl (And.intro rfl (And.intro rfl (And.intro rfl (And.intro rfl (And.intro rfl (And.intro rfl (And.intro rfl (And.intro rfl (And.intro rfl (And.intro rfl (And.intro rfl (And.intro rfl (And.intro rfl (And.intro rfl (And.intro rfl (And.intro rfl (And.intro rfl (And.intro rfl (And.intro rfl (And.intro rfl (And.intro rfl (And.intro rfl (And.intro rfl (And.intro rfl (And.intro rfl (And.intro rfl (And.intro rfl (And.intro rfl (And.intro rfl (And.intro rfl (And.intro rfl (And.intro rfl (And.intro rfl (And.intro rfl (And.intro rfl (And.intro rfl (And.intro rfl (And.intro rfl (And.intro rfl (And.intro rfl (And.intro rfl (And.intro rfl (And.intro rfl (And.intro rfl (And.intro rfl (And.intro rfl (And.intro rfl (And.intro rfl (And.intro rfl (And.intro rfl (And.intro rfl (And.intro rfl (trivial)))))))))))))))))))))))))))))))))))))))))))))))))))))))))))))))))))))))))))))))))))))))))))))))))))))) rfl))
set_option maxRecDepth 100000 in
theorem n106 {s : Nat} : ∀ f, Ca 106 [.ref 102] (wd [(102, ob 6 [.int (ii 0), .null, .int (ii 0), .int (ii 0), .int (ii 0), .int (ii 0), .int (ii 0), .int (ii 0), .null, .int (ii 0), .int (ii 0), .int (ii 0), .int (ii 0), .null, .null, .null, .null, .null, .int (ii 0), .null, .null, .null, .null, .null, .null])] ((102, s, 102), f)) (.inl none, wd [(102, oX6 0 0 0 1 0 2 1 0 0 0 0 0), (103, ar 90 (fun _ => 0)), (104, ar 128 (zu (fun _ => 0) 4 1)), (105, ar 128 (fun _ => 0)), (106, ar 72 (fun _ => 0)), (107, ar 72 (zu (zu (zu (fun _ => 0) 0 1) 44 100) 68 1)), (108, ar 72 (fun _ => 0)), (109, ar 1008 (fun _ => 0)), (110, ar 144 (fun _ => 0)), (111, br 2 (fun _ => 0)), (112, ar 24 (fun _ => 0)), (113, lr 4 (fun _ => 0)), (114, lr 4 (fun _ => 0)), (115, ar 4 (fun _ => 0))] ((115, s + 90 + 128 + 128 + 72 + 72 + 72 + 1008 + 144 + 2 + 24 + 4 + 4 + 4, 115), f)) := by
  intro f
  refine E_in (lv := [_]) rfl ?_
  refine E_aload pf_106_0 rfl ?_
  refine P_oi pf_106_1 rfl ?_
  refine E_aload pf_106_4 rfl ?_
  refine E_iconst pf_106_5 ?_
  refine P_nI (nn := 90) pf_106_7 rfl rfl rfl rfl ?_
  refine P_putf (x := ob _ [_, _, _, _, _, _, _, _, _, _, _, _, _, _, _, _, _, _, _, _, _, _, _, _, _]) pf_106_9 rfl rfl rfl rfl ?_
  refine E_aload pf_106_12 rfl ?_
  refine E_iconst pf_106_13 ?_
  refine P_putf (x := ob _ [_, _, _, _, _, _, _, _, _, _, _, _, _, _, _, _, _, _, _, _, _, _, _, _, _]) pf_106_14 rfl rfl rfl rfl ?_
  refine E_aload pf_106_17 rfl ?_
  refine E_iconst pf_106_18 ?_
  refine P_putf (x := ob _ [_, _, _, _, _, _, _, _, _, _, _, _, _, _, _, _, _, _, _, _, _, _, _, _, _]) pf_106_19 rfl rfl rfl rfl ?_
  refine E_aload pf_106_22 rfl ?_
  refine E_iconst pf_106_23 ?_
  refine P_putf (x := ob _ [_, _, _, _, _, _, _, _, _, _, _, _, _, _, _, _, _, _, _, _, _, _, _, _, _]) pf_106_24 rfl rfl rfl rfl ?_
  refine E_aload pf_106_27 rfl ?_
  refine E_iconst pf_106_28 ?_
  refine P_nI (nn := 128) pf_106_31 rfl rfl rfl rfl ?_
  refine P_putf (x := ob _ [_, _, _, _, _, _, _, _, _, _, _, _, _, _, _, _, _, _, _, _, _, _, _, _, _]) pf_106_33 rfl rfl rfl rfl ?_
  refine E_aload pf_106_36 rfl ?_
  refine E_iconst pf_106_37 ?_
  refine P_nI (nn := 128) pf_106_40 rfl rfl rfl rfl ?_
  refine P_putf (x := ob _ [_, _, _, _, _, _, _, _, _, _, _, _, _, _, _, _, _, _, _, _, _, _, _, _, _]) pf_106_42 rfl rfl rfl rfl ?_
  refine E_aload pf_106_45 rfl ?_
  refine E_iconst pf_106_46 ?_
  refine P_nI (nn := 72) pf_106_48 rfl rfl rfl rfl ?_
  refine P_putf (x := ob _ [_, _, _, _, _, _, _, _, _, _, _, _, _, _, _, _, _, _, _, _, _, _, _, _, _]) pf_106_50 rfl rfl rfl rfl ?_
  refine E_aload pf_106_53 rfl ?_
  refine E_iconst pf_106_54 ?_
  refine P_nI (nn := 72) pf_106_56 rfl rfl rfl rfl ?_
  refine P_putf (x := ob _ [_, _, _, _, _, _, _, _, _, _, _, _, _, _, _, _, _, _, _, _, _, _, _, _, _]) pf_106_58 rfl rfl rfl rfl ?_
  refine E_aload pf_106_61 rfl ?_
  refine E_iconst pf_106_62 ?_
  refine P_nI (nn := 72) pf_106_64 rfl rfl rfl rfl ?_
  refine P_putf (x := ob _ [_, _, _, _, _, _, _, _, _, _, _, _, _, _, _, _, _, _, _, _, _, _, _, _, _]) pf_106_66 rfl rfl rfl rfl ?_
  refine E_aload pf_106_69 rfl ?_
  refine E_iconst pf_106_70 ?_
  refine P_nI (nn := 1008) pf_106_73 rfl rfl rfl rfl ?_
  refine P_putf (x := ob _ [_, _, _, _, _, _, _, _, _, _, _, _, _, _, _, _, _, _, _, _, _, _, _, _, _]) pf_106_75 rfl rfl rfl rfl ?_
  refine E_aload pf_106_78 rfl ?_
  refine E_iconst pf_106_79 ?_
  refine P_nI (nn := 144) pf_106_82 rfl rfl rfl rfl ?_
  refine P_putf (x := ob _ [_, _, _, _, _, _, _, _, _, _, _, _, _, _, _, _, _, _, _, _, _, _, _, _, _]) pf_106_84 rfl rfl rfl rfl ?_
  refine E_aload pf_106_87 rfl ?_
  refine E_iconst pf_106_88 ?_
  refine P_nB (nn := 2) pf_106_89 rfl rfl rfl rfl ?_
  refine P_putf (x := ob _ [_, _, _, _, _, _, _, _, _, _, _, _, _, _, _, _, _, _, _, _, _, _, _, _, _]) pf_106_91 rfl rfl rfl rfl ?_
  refine E_aload pf_106_94 rfl ?_
  refine E_iconst pf_106_95 ?_
  refine P_nI (nn := 24) pf_106_97 rfl rfl rfl rfl ?_
  refine P_putf (x := ob _ [_, _, _, _, _, _, _, _, _, _, _, _, _, _, _, _, _, _, _, _, _, _, _, _, _]) pf_106_99 rfl rfl rfl rfl ?_
  refine E_aload pf_106_102 rfl ?_
  refine E_iconst pf_106_103 ?_
  refine P_nL (nn := 4) pf_106_104 rfl rfl rfl rfl ?_
  refine P_putf (x := ob _ [_, _, _, _, _, _, _, _, _, _, _, _, _, _, _, _, _, _, _, _, _, _, _, _, _]) pf_106_106 rfl rfl rfl rfl ?_
  refine E_aload pf_106_109 rfl ?_
  refine E_iconst pf_106_110 ?_
  refine P_nL (nn := 4) pf_106_111 rfl rfl rfl rfl ?_
  refine P_putf (x := ob _ [_, _, _, _, _, _, _, _, _, _, _, _, _, _, _, _, _, _, _, _, _, _, _, _, _]) pf_106_113 rfl rfl rfl rfl ?_
  refine E_aload pf_106_116 rfl ?_
  refine E_iconst pf_106_117 ?_
  refine P_nI (nn := 4) pf_106_118 rfl rfl rfl rfl ?_
  refine P_putf (x := ob _ [_, _, _, _, _, _, _, _, _, _, _, _, _, _, _, _, _, _, _, _, _, _, _, _, _]) pf_106_120 rfl rfl rfl rfl ?_
  refine E_aload pf_106_123 rfl ?_
  refine F_getf pf_106_124 rfl rfl rfl ?_
  refine E_iconst pf_106_127 ?_
  refine E_iconst pf_106_128 ?_
  refine P_iast (n := 128) (q := fun _ => 0) pf_106_129 rfl (by omega) ?_
  refine E_aload pf_106_130 rfl ?_
  refine F_getf pf_106_131 rfl rfl rfl ?_
  refine E_iconst pf_106_134 ?_
  refine E_iconst pf_106_135 ?_
  refine P_iast (n := 72) (q := fun _ => 0) pf_106_136 rfl (by omega) ?_
  refine E_aload pf_106_137 rfl ?_
  refine F_getf pf_106_138 rfl rfl rfl ?_
  refine E_iconst pf_106_141 ?_
  refine E_iconst pf_106_143 ?_
  refine P_iast (n := 72) (q := zu (fun _ => 0) 0 1) pf_106_145 rfl (by omega) ?_
  refine E_aload pf_106_146 rfl ?_
  refine F_getf pf_106_147 rfl rfl rfl ?_
  refine E_iconst pf_106_150 ?_
  refine E_iconst pf_106_152 ?_
  refine P_iast (n := 72) (q := zu (zu (fun _ => 0) 0 1) 44 100) pf_106_153 rfl (by omega) ?_
  exact Rn_eq (E_vret pf_106_154 rfl) (Prod.ext rfl (wd_eq (And.intro rfl (And.intro rfl (And.intro rfl (And.intro rfl (And.intro rfl (And.intro rfl (And.intro rfl (And.intro rfl (And.intro rfl (And.intro rfl (And.intro rfl (And.intro rfl (And.intro rfl (And.intro rfl (trivial))))))))))))))) rfl))
