/-! Taking points in, on both sides. -/
theorem lxk {C pt : Int → Int} {i : Int} (hC : ∀ q, -9 ≤ C q ∧ C q ≤ 9) (hp : b9 pt 0) : lxr (fun j => C (i * 4 + j)) pt 4 0 = cmk (ky C (4 * i)) (ky pt 0) := by
  have h := lxr_ky (f := C) (g := pt) (a := i * 4) (b := 0) ⟨hC _, hC _, hC _, hC _⟩ hp
  have e : (fun j => pt (0 + j)) = pt := by funext j; rw [Int.zero_add]
  rw [e, Int.mul_comm i 4] at h
  rw [Int.mul_comm i 4]
  exact h
theorem cmk_in (x y : Int) : (cmk x y = 0 ∧ x = y) ∨ (cmk x y = -1 ∧ x < y) ∨ (cmk x y = 1 ∧ y < x) := by
  unfold cmk
  by_cases e : x = y
  · rw [if_pos e]; exact .inl ⟨rfl, e⟩
  · rw [if_neg e]
    by_cases e2 : x < y
    · rw [if_pos e2]; exact .inr (.inl ⟨rfl, e2⟩)
    · rw [if_neg e2]; exact .inr (.inr ⟨rfl, by omega⟩)
/-- t numbers moved up by a block -/
def sft (C : Int → Int) (n t : Nat) : Int → Int := fun q => if 4 * (n : Int) + 4 - t ≤ q ∧ q < 4 * n + 4 then C (q - 4) else C q
theorem sft_0 (C : Int → Int) (n : Nat) : sft C n 0 = C := by funext q; unfold sft; rw [if_neg (by omega)]
theorem sft_s (C : Int → Int) (n t : Nat) : sft C n (t + 1) = zu (sft C n t) (4 * n + 3 - t) (C (4 * n - 1 - t)) := by
  funext q
  unfold zu
  by_cases e : q = 4 * n + 3 - t
  · rw [if_pos e]; unfold sft; rw [if_pos (by omega), e]; congr 1; omega
  · rw [if_neg e]; unfold sft
    by_cases e2 : 4 * (n : Int) + 4 - t ≤ q ∧ q < 4 * n + 4
    · rw [if_pos (by omega), if_pos e2]
    · rw [if_neg (by omega), if_neg e2]
theorem sft_shp {C pt : Int → Int} {p n : Nat} (hp : p ≤ n) : zcpy pt (sft C n (4 * n - 4 * p)) 0 ((p : Int) * 4) 4 = shp C pt p n := by
  funext q
  by_cases e : (p : Int) * 4 ≤ q ∧ q < (p : Int) * 4 + 4
  · rw [zcpy_at e]; unfold shp; rw [if_neg (by omega), if_pos (by omega)]; congr 1; omega
  · rw [zcpy_out e]; unfold shp sft
    by_cases e2 : q < 4 * p ∨ 4 * (n : Int) + 4 ≤ q
    · rw [if_neg (by omega), if_pos e2]
    · rw [if_pos (by omega), if_neg e2, if_neg (by omega)]
/-- from a place between the smaller and the greater -/
theorem shp_ins {C pt : Int → Int} {p n : Nat} (hp : p ≤ n) (hl : ∀ i : Nat, i < p → ky C (4 * i) < ky pt 0) (hr : p < n → ky pt 0 < ky C (4 * p)) : kl (shp C pt p n) (n + 1) = ins (kl C n) (ky pt 0) := by
  rw [shp_kl hp]
  refine (ins_at (fun i x hi hx => ?_) (by rw [kl_len]; exact hp) (fun x hx => ?_)).symm
  · rw [kl_get (by omega)] at hx
    cases hx
    exact hl i hi
  · rcases Nat.lt_or_ge p n with g | g
    · rw [kl_get g] at hx
      cases hx
      exact hr g
    · rw [List.getElem?_eq_none (by rw [kl_len]; exact g)] at hx; cases hx
theorem kl_lt {C : Int → Int} {n : Nat} (h : (kl C n).Pairwise (· < ·)) {i j : Nat} (hij : i < j) (hj : j < n) : ky C (4 * i) < ky C (4 * j) := by
  have := List.pairwise_iff_getElem.mp h i j (by rw [kl_len]; omega) (by rw [kl_len]; omega) hij
  simpa [kl] using this
section ADD
variable {C pt P : Int → Int} {d k : Int} {n : Nat}
theorem c29p (hn : n < 24) (hC : ∀ q, -9 ≤ C q ∧ C q ≤ 9) (hp : b9 pt 0) (hs : (kl C n).Pairwise (· < ·)) : ∃ (n' : Nat) (C' : Int → Int), (∀ q, -9 ≤ C' q ∧ C' q ≤ 9) ∧ kl C' n' = ins (kl C n) (ky pt 0) ∧ n' = (if (ky pt 0) ∈ kl C n then n else n + 1) ∧ ∀ h, Ca 29 [.ref 5, .ref 4] (wd [(5, oP5 d k (n : Int)), (6, ar 96 C), (4, ar 4 pt)] h) (.inl (some (.int (ii (zb ((ky pt 0) ∉ kl C n))))), wd [(5, oP5 d k (n' : Int)), (6, ar 96 C'), (4, ar 4 pt)] h) := by
  have hpr : ∀ j : Int, 0 ≤ j → j < 4 → -2147483648 ≤ pt j ∧ pt j ≤ 2147483647 := fun j h1 h2 => by
    unfold b9 at hp
    have : j = 0 ∨ j = 0 + 1 ∨ j = 0 + 2 ∨ j = 0 + 3 := by omega
    rcases this with g | g | g | g <;> rw [g] <;> omega
  have put : ∀ (p : Nat), p ≤ n → (∀ (h : pd_H) (w3 : Value), Rn 29 53 [.ref 5, .ref 4, .int (ii (p : Int)), w3] [] (wd [(5, oP5 d k (n : Int)), (6, ar 96 C), (4, ar 4 pt)] h) (.inl (some (.int (ii 1))), wd [(5, oP5 d k ((n + 1 : Nat) : Int)), (6, ar 96 (shp C pt p n)), (4, ar 4 pt)] h)) := by
    intro p hpn h w3
    have loop2 : ∀ (m j : Nat) (A : Int → Int), j + m = 4 → A = zcpy pt (sft C n (4 * n - 4 * p)) 0 ((p : Int) * 4) (j : Int) → Rn 29 91 [.ref 5, .ref 4, .int (ii (p : Int)), .int (ii (j : Int))] [] (wd [(5, oP5 d k (n : Int)), (6, ar 96 A), (4, ar 4 pt)] h) (.inl (some (.int (ii 1))), wd [(5, oP5 d k ((n + 1 : Nat) : Int)), (6, ar 96 (shp C pt p n)), (4, ar 4 pt)] h) := by
      intro m
      induction m with
      | zero =>
        intro j A hj hA
        obtain rfl : j = 4 := by omega
        have hA2 : A = shp C pt p n := hA.trans (sft_shp hpn)
        rw [hA2]
        refine E_iload pf_29_91 rfl ?_
        refine E_iconst pf_29_92 ?_
        refine E_icmp_ge_t pf_29_93 (by omega) ?_
        refine E_aload pf_29_115 rfl ?_
        refine E_dup pf_29_116 rfl ?_
        refine F_getf pf_29_117 rfl rfl rfl ?_
        refine E_iconst pf_29_120 ?_
        refine E_iadd pf_29_121 ?_
        refine F_putf (l' := [(_, _), (_, _), (_, _)]) (x := ob _ [_, _, _, _, _, _]) pf_29_122 rfl rfl rfl rfl rfl ?_
        refine E_iconst pf_29_125 ?_
        exact E_iret pf_29_126 rfl
      | succ m ih =>
        intro j A hj hA
        have ih := ih (j + 1) (zu A ((p : Int) * 4 + j) (pt j)) (by omega) (by rw [zcpy_s, hA, Int.zero_add])
        refine E_iload pf_29_91 rfl ?_
        refine E_iconst pf_29_92 ?_
        refine E_icmp_ge_f pf_29_93 (by omega) ?_
        refine E_aload pf_29_96 rfl ?_
        refine F_getf pf_29_97 rfl rfl rfl ?_
        refine E_iload pf_29_100 rfl ?_
        refine E_iconst pf_29_101 ?_
        refine E_imul pf_29_102 ?_
        refine E_iload pf_29_103 rfl ?_
        refine E_iadd pf_29_104 ?_
        refine E_aload pf_29_105 rfl ?_
        refine E_iload pf_29_106 rfl ?_
        refine F_iald pf_29_107 rfl (by omega) ?_
        refine F_iast (l' := [(_, _), (_, _), (_, _)]) pf_29_108 rfl (by omega) rfl ?_
        refine E_iinc (lv' := [_, _, _, _]) pf_29_109 rfl rfl ?_
        refine E_goto pf_29_112 ?_
        exact ih
    have loop1 : ∀ (m t : Nat) (A : Int → Int), t + m = 4 * n - 4 * p → A = sft C n t → Rn 29 62 [.ref 5, .ref 4, .int (ii (p : Int)), .int (ii ((n : Int) * 4 - 1 - t))] [] (wd [(5, oP5 d k (n : Int)), (6, ar 96 A), (4, ar 4 pt)] h) (.inl (some (.int (ii 1))), wd [(5, oP5 d k ((n + 1 : Nat) : Int)), (6, ar 96 (shp C pt p n)), (4, ar 4 pt)] h) := by
      intro m
      induction m with
      | zero =>
        intro t A ht hA
        obtain rfl : t = 4 * n - 4 * p := by omega
        refine E_iload pf_29_62 rfl ?_
        refine E_iload pf_29_63 rfl ?_
        refine E_iconst pf_29_64 ?_
        refine E_imul pf_29_65 ?_
        refine E_icmp_lt_t pf_29_66 (by omega) ?_
        refine E_iconst pf_29_89 ?_
        refine E_istore (lv' := [_, _, _, _]) pf_29_90 rfl rfl ?_
        exact loop2 4 0 A (by omega) (by rw [zcpy_0]; exact hA)
      | succ m ih =>
        intro t A ht hA
        have e1 : A ((n : Int) * 4 - 1 - t) = C (4 * n - 1 - t) := by
          rw [hA]; unfold sft; rw [if_neg (by omega)]; congr 1; omega
        have ih := ih (t + 1) (zu A ((n : Int) * 4 - 1 - t + 4) (A ((n : Int) * 4 - 1 - t))) (by omega) (by rw [sft_s, e1, hA]; congr 1; omega)
        rw [show (n : Int) * 4 - 1 - ((t + 1 : Nat) : Int) = (n : Int) * 4 - 1 - t + -1 by omega] at ih
        refine E_iload pf_29_62 rfl ?_
        refine E_iload pf_29_63 rfl ?_
        refine E_iconst pf_29_64 ?_
        refine E_imul pf_29_65 ?_
        refine E_icmp_lt_f pf_29_66 (by omega) ?_
        refine E_aload pf_29_69 rfl ?_
        refine F_getf pf_29_70 rfl rfl rfl ?_
        refine E_iload pf_29_73 rfl ?_
        refine E_iconst pf_29_74 ?_
        refine E_iadd pf_29_75 ?_
        refine E_aload pf_29_76 rfl ?_
        refine F_getf pf_29_77 rfl rfl rfl ?_
        refine E_iload pf_29_80 rfl ?_
        refine F_iald pf_29_81 rfl (by omega) ?_
        refine F_iast (l' := [(_, _), (_, _), (_, _)]) pf_29_82 rfl (by omega) rfl ?_
        refine E_iinc (lv' := [_, _, _, _]) pf_29_83 rfl rfl ?_
        refine E_goto pf_29_86 ?_
        exact ih
    have l1 := loop1 (4 * n - 4 * p) 0 C (by omega) (sft_0 C n).symm
    rw [show (n : Int) * 4 - 1 - ((0 : Nat) : Int) = (n : Int) * 4 - 1 by omega] at l1
    refine E_aload pf_29_53 rfl ?_
    refine F_getf pf_29_54 rfl rfl rfl ?_
    refine E_iconst pf_29_57 ?_
    refine E_imul pf_29_58 ?_
    refine E_iconst pf_29_59 ?_
    refine E_isub pf_29_60 ?_
    refine E_istore (lv' := [_, _, _, _]) pf_29_61 rfl rfl ?_
    exact l1
  have loop : ∀ (m p : Nat), p + m = n → (∀ i : Nat, i < p → ky C (4 * i) < (ky pt 0)) → ∃ (n' : Nat) (C' : Int → Int), (∀ q, -9 ≤ C' q ∧ C' q ≤ 9) ∧ kl C' n' = ins (kl C n) (ky pt 0) ∧ n' = (if (ky pt 0) ∈ kl C n then n else n + 1) ∧ ∀ (h : pd_H) (w3 : Value), Rn 29 2 [.ref 5, .ref 4, .int (ii (p : Int)), w3] [] (wd [(5, oP5 d k (n : Int)), (6, ar 96 C), (4, ar 4 pt)] h) (.inl (some (.int (ii (zb ((ky pt 0) ∉ kl C n))))), wd [(5, oP5 d k (n' : Int)), (6, ar 96 C'), (4, ar 4 pt)] h) := by
    intro m
    induction m with
    | zero =>
      intro p hpn hl
      obtain rfl : p = n := by omega
      have hno : (ky pt 0) ∉ kl C p := fun hm => by
        obtain ⟨i, h1, h2⟩ := kl_mem.mp hm
        have := hl i h1
        omega
      have hz : zb ((ky pt 0) ∉ kl C p) = 1 := if_pos hno
      refine ⟨p + 1, shp C pt p p, shp_b9 hC hp, shp_ins (Nat.le_refl _) hl (fun q => by omega), by rw [if_neg hno], fun h w3 => ?_⟩
      rw [hz]
      refine E_iload pf_29_2 rfl ?_
      refine E_aload pf_29_3 rfl ?_
      refine F_getf pf_29_4 rfl rfl rfl ?_
      refine E_icmp_ge_t pf_29_7 (by omega) ?_
      refine E_aload pf_29_25 rfl ?_
      refine F_getf pf_29_26 rfl rfl rfl ?_
      refine E_iconst pf_29_29 ?_
      refine E_icmp_ge_f pf_29_31 (by omega) ?_
      refine E_iload pf_29_34 rfl ?_
      refine E_aload pf_29_35 rfl ?_
      refine F_getf pf_29_36 rfl rfl rfl ?_
      refine E_icmp_ge_t pf_29_39 (by omega) ?_
      exact put p (Nat.le_refl _) h w3
    | succ m ih =>
      intro p hpn hl
      have ec := lxk (i := (p : Int)) hC hp
      rcases cmk_in (ky C (4 * (p : Int))) (ky pt 0) with ⟨c1, c2⟩ | ⟨c1, c2⟩ | ⟨c1, c2⟩
      · have hm : (ky pt 0) ∈ kl C n := kl_mem.mpr ⟨p, by omega, c2.symm⟩
        have hz : zb ((ky pt 0) ∉ kl C n) = 0 := if_neg (fun q => q hm)
        refine ⟨n, C, hC, (ins_old hs hm).symm, by rw [if_pos hm], fun h w3 => ?_⟩
        rw [hz]
        refine E_iload pf_29_2 rfl ?_
        refine E_aload pf_29_3 rfl ?_
        refine F_getf pf_29_4 rfl rfl rfl ?_
        refine E_icmp_ge_f pf_29_7 (by omega) ?_
        refine E_aload pf_29_10 rfl ?_
        refine E_iload pf_29_11 rfl ?_
        refine E_aload pf_29_12 rfl ?_
        refine F_v3v0 pf_29_13 (c31p (by omega) hC hpr) (And.intro rfl (And.intro rfl (And.intro rfl (trivial)))) rfl rfl ?_
        rw [ec, c1]
        refine E_if_ge_t pf_29_16 (by omega) ?_
        refine E_aload pf_29_25 rfl ?_
        refine F_getf pf_29_26 rfl rfl rfl ?_
        refine E_iconst pf_29_29 ?_
        refine E_icmp_ge_f pf_29_31 (by omega) ?_
        refine E_iload pf_29_34 rfl ?_
        refine E_aload pf_29_35 rfl ?_
        refine F_getf pf_29_36 rfl rfl rfl ?_
        refine E_icmp_ge_f pf_29_39 (by omega) ?_
        refine E_aload pf_29_42 rfl ?_
        refine E_iload pf_29_43 rfl ?_
        refine E_aload pf_29_44 rfl ?_
        refine F_v3v0 pf_29_45 (c31p (by omega) hC hpr) (And.intro rfl (And.intro rfl (And.intro rfl (trivial)))) rfl rfl ?_
        rw [ec, c1]
        refine E_if_ne_f pf_29_48 (by omega) ?_
        refine E_iconst pf_29_51 ?_
        exact E_iret pf_29_52 rfl
      · obtain ⟨n', C', h1, h2, h3, h4⟩ := ih (p + 1) (by omega) (fun i hi => if q : i = p then by rw [q]; exact c2 else hl i (by omega))
        refine ⟨n', C', h1, h2, h3, fun h w3 => ?_⟩
        have h4 := h4 h w3
        refine E_iload pf_29_2 rfl ?_
        refine E_aload pf_29_3 rfl ?_
        refine F_getf pf_29_4 rfl rfl rfl ?_
        refine E_icmp_ge_f pf_29_7 (by omega) ?_
        refine E_aload pf_29_10 rfl ?_
        refine E_iload pf_29_11 rfl ?_
        refine E_aload pf_29_12 rfl ?_
        refine F_v3v0 pf_29_13 (c31p (by omega) hC hpr) (And.intro rfl (And.intro rfl (And.intro rfl (trivial)))) rfl rfl ?_
        rw [ec, c1]
        refine E_if_ge_f pf_29_16 (by omega) ?_
        refine E_iinc (lv' := [_, _, _, _]) pf_29_19 rfl rfl ?_
        refine E_goto pf_29_22 ?_
        exact h4
      · have hno : (ky pt 0) ∉ kl C n := fun hm => by
          obtain ⟨i, h1, h2⟩ := kl_mem.mp hm
          rcases Nat.lt_trichotomy i p with g | g | g
          · have := hl i g; omega
          · subst g; omega
          · have := kl_lt hs g h1; omega
        have hz : zb ((ky pt 0) ∉ kl C n) = 1 := if_pos hno
        refine ⟨n + 1, shp C pt p n, shp_b9 hC hp, shp_ins (by omega) hl (fun _ => c2), by rw [if_neg hno], fun h w3 => ?_⟩
        rw [hz]
        refine E_iload pf_29_2 rfl ?_
        refine E_aload pf_29_3 rfl ?_
        refine F_getf pf_29_4 rfl rfl rfl ?_
        refine E_icmp_ge_f pf_29_7 (by omega) ?_
        refine E_aload pf_29_10 rfl ?_
        refine E_iload pf_29_11 rfl ?_
        refine E_aload pf_29_12 rfl ?_
        refine F_v3v0 pf_29_13 (c31p (by omega) hC hpr) (And.intro rfl (And.intro rfl (And.intro rfl (trivial)))) rfl rfl ?_
        rw [ec, c1]
        refine E_if_ge_t pf_29_16 (by omega) ?_
        refine E_aload pf_29_25 rfl ?_
        refine F_getf pf_29_26 rfl rfl rfl ?_
        refine E_iconst pf_29_29 ?_
        refine E_icmp_ge_f pf_29_31 (by omega) ?_
        refine E_iload pf_29_34 rfl ?_
        refine E_aload pf_29_35 rfl ?_
        refine F_getf pf_29_36 rfl rfl rfl ?_
        refine E_icmp_ge_f pf_29_39 (by omega) ?_
        refine E_aload pf_29_42 rfl ?_
        refine E_iload pf_29_43 rfl ?_
        refine E_aload pf_29_44 rfl ?_
        refine F_v3v0 pf_29_45 (c31p (by omega) hC hpr) (And.intro rfl (And.intro rfl (And.intro rfl (trivial)))) rfl rfl ?_
        rw [ec, c1]
        refine E_if_ne_t pf_29_48 (by omega) ?_
        exact put p (by omega) h w3
  obtain ⟨n', C', h1, h2, h3, h4⟩ := loop n 0 (by omega) (fun i hi => by omega)
  refine ⟨n', C', h1, h2, h3, fun h => ?_⟩
  refine E_in (lv := [_, _, _, _]) rfl ?_
  refine E_iconst pf_29_0 ?_
  refine E_istore (lv' := [_, _, _, _]) pf_29_1 rfl rfl ?_
  exact h4 h _
theorem c29c (hn : n < 24) (hC : ∀ q, -9 ≤ C q ∧ C q ≤ 9) (hp : b9 pt 0) (hs : (kl C n).Pairwise (· < ·)) : ∃ (n' : Nat) (C' : Int → Int), (∀ q, -9 ≤ C' q ∧ C' q ≤ 9) ∧ kl C' n' = ins (kl C n) (ky pt 0) ∧ n' = (if (ky pt 0) ∈ kl C n then n else n + 1) ∧ ∀ h, Ca 29 [.ref 5, .ref 7] (wd [(5, oP5 d k (n : Int)), (6, ar 96 C), (7, ar 4 pt)] h) (.inl (some (.int (ii (zb ((ky pt 0) ∉ kl C n))))), wd [(5, oP5 d k (n' : Int)), (6, ar 96 C'), (7, ar 4 pt)] h) := by
  have hpr : ∀ j : Int, 0 ≤ j → j < 4 → -2147483648 ≤ pt j ∧ pt j ≤ 2147483647 := fun j h1 h2 => by
    unfold b9 at hp
    have : j = 0 ∨ j = 0 + 1 ∨ j = 0 + 2 ∨ j = 0 + 3 := by omega
    rcases this with g | g | g | g <;> rw [g] <;> omega
  have put : ∀ (p : Nat), p ≤ n → (∀ (h : pd_H) (w3 : Value), Rn 29 53 [.ref 5, .ref 7, .int (ii (p : Int)), w3] [] (wd [(5, oP5 d k (n : Int)), (6, ar 96 C), (7, ar 4 pt)] h) (.inl (some (.int (ii 1))), wd [(5, oP5 d k ((n + 1 : Nat) : Int)), (6, ar 96 (shp C pt p n)), (7, ar 4 pt)] h)) := by
    intro p hpn h w3
    have loop2 : ∀ (m j : Nat) (A : Int → Int), j + m = 4 → A = zcpy pt (sft C n (4 * n - 4 * p)) 0 ((p : Int) * 4) (j : Int) → Rn 29 91 [.ref 5, .ref 7, .int (ii (p : Int)), .int (ii (j : Int))] [] (wd [(5, oP5 d k (n : Int)), (6, ar 96 A), (7, ar 4 pt)] h) (.inl (some (.int (ii 1))), wd [(5, oP5 d k ((n + 1 : Nat) : Int)), (6, ar 96 (shp C pt p n)), (7, ar 4 pt)] h) := by
      intro m
      induction m with
      | zero =>
        intro j A hj hA
        obtain rfl : j = 4 := by omega
        have hA2 : A = shp C pt p n := hA.trans (sft_shp hpn)
        rw [hA2]
        refine E_iload pf_29_91 rfl ?_
        refine E_iconst pf_29_92 ?_
        refine E_icmp_ge_t pf_29_93 (by omega) ?_
        refine E_aload pf_29_115 rfl ?_
        refine E_dup pf_29_116 rfl ?_
        refine F_getf pf_29_117 rfl rfl rfl ?_
        refine E_iconst pf_29_120 ?_
        refine E_iadd pf_29_121 ?_
        refine F_putf (l' := [(_, _), (_, _), (_, _)]) (x := ob _ [_, _, _, _, _, _]) pf_29_122 rfl rfl rfl rfl rfl ?_
        refine E_iconst pf_29_125 ?_
        exact E_iret pf_29_126 rfl
      | succ m ih =>
        intro j A hj hA
        have ih := ih (j + 1) (zu A ((p : Int) * 4 + j) (pt j)) (by omega) (by rw [zcpy_s, hA, Int.zero_add])
        refine E_iload pf_29_91 rfl ?_
        refine E_iconst pf_29_92 ?_
        refine E_icmp_ge_f pf_29_93 (by omega) ?_
        refine E_aload pf_29_96 rfl ?_
        refine F_getf pf_29_97 rfl rfl rfl ?_
        refine E_iload pf_29_100 rfl ?_
        refine E_iconst pf_29_101 ?_
        refine E_imul pf_29_102 ?_
        refine E_iload pf_29_103 rfl ?_
        refine E_iadd pf_29_104 ?_
        refine E_aload pf_29_105 rfl ?_
        refine E_iload pf_29_106 rfl ?_
        refine F_iald pf_29_107 rfl (by omega) ?_
        refine F_iast (l' := [(_, _), (_, _), (_, _)]) pf_29_108 rfl (by omega) rfl ?_
        refine E_iinc (lv' := [_, _, _, _]) pf_29_109 rfl rfl ?_
        refine E_goto pf_29_112 ?_
        exact ih
    have loop1 : ∀ (m t : Nat) (A : Int → Int), t + m = 4 * n - 4 * p → A = sft C n t → Rn 29 62 [.ref 5, .ref 7, .int (ii (p : Int)), .int (ii ((n : Int) * 4 - 1 - t))] [] (wd [(5, oP5 d k (n : Int)), (6, ar 96 A), (7, ar 4 pt)] h) (.inl (some (.int (ii 1))), wd [(5, oP5 d k ((n + 1 : Nat) : Int)), (6, ar 96 (shp C pt p n)), (7, ar 4 pt)] h) := by
      intro m
      induction m with
      | zero =>
        intro t A ht hA
        obtain rfl : t = 4 * n - 4 * p := by omega
        refine E_iload pf_29_62 rfl ?_
        refine E_iload pf_29_63 rfl ?_
        refine E_iconst pf_29_64 ?_
        refine E_imul pf_29_65 ?_
        refine E_icmp_lt_t pf_29_66 (by omega) ?_
        refine E_iconst pf_29_89 ?_
        refine E_istore (lv' := [_, _, _, _]) pf_29_90 rfl rfl ?_
        exact loop2 4 0 A (by omega) (by rw [zcpy_0]; exact hA)
      | succ m ih =>
        intro t A ht hA
        have e1 : A ((n : Int) * 4 - 1 - t) = C (4 * n - 1 - t) := by
          rw [hA]; unfold sft; rw [if_neg (by omega)]; congr 1; omega
        have ih := ih (t + 1) (zu A ((n : Int) * 4 - 1 - t + 4) (A ((n : Int) * 4 - 1 - t))) (by omega) (by rw [sft_s, e1, hA]; congr 1; omega)
        rw [show (n : Int) * 4 - 1 - ((t + 1 : Nat) : Int) = (n : Int) * 4 - 1 - t + -1 by omega] at ih
        refine E_iload pf_29_62 rfl ?_
        refine E_iload pf_29_63 rfl ?_
        refine E_iconst pf_29_64 ?_
        refine E_imul pf_29_65 ?_
        refine E_icmp_lt_f pf_29_66 (by omega) ?_
        refine E_aload pf_29_69 rfl ?_
        refine F_getf pf_29_70 rfl rfl rfl ?_
        refine E_iload pf_29_73 rfl ?_
        refine E_iconst pf_29_74 ?_
        refine E_iadd pf_29_75 ?_
        refine E_aload pf_29_76 rfl ?_
        refine F_getf pf_29_77 rfl rfl rfl ?_
        refine E_iload pf_29_80 rfl ?_
        refine F_iald pf_29_81 rfl (by omega) ?_
        refine F_iast (l' := [(_, _), (_, _), (_, _)]) pf_29_82 rfl (by omega) rfl ?_
        refine E_iinc (lv' := [_, _, _, _]) pf_29_83 rfl rfl ?_
        refine E_goto pf_29_86 ?_
        exact ih
    have l1 := loop1 (4 * n - 4 * p) 0 C (by omega) (sft_0 C n).symm
    rw [show (n : Int) * 4 - 1 - ((0 : Nat) : Int) = (n : Int) * 4 - 1 by omega] at l1
    refine E_aload pf_29_53 rfl ?_
    refine F_getf pf_29_54 rfl rfl rfl ?_
    refine E_iconst pf_29_57 ?_
    refine E_imul pf_29_58 ?_
    refine E_iconst pf_29_59 ?_
    refine E_isub pf_29_60 ?_
    refine E_istore (lv' := [_, _, _, _]) pf_29_61 rfl rfl ?_
    exact l1
  have loop : ∀ (m p : Nat), p + m = n → (∀ i : Nat, i < p → ky C (4 * i) < (ky pt 0)) → ∃ (n' : Nat) (C' : Int → Int), (∀ q, -9 ≤ C' q ∧ C' q ≤ 9) ∧ kl C' n' = ins (kl C n) (ky pt 0) ∧ n' = (if (ky pt 0) ∈ kl C n then n else n + 1) ∧ ∀ (h : pd_H) (w3 : Value), Rn 29 2 [.ref 5, .ref 7, .int (ii (p : Int)), w3] [] (wd [(5, oP5 d k (n : Int)), (6, ar 96 C), (7, ar 4 pt)] h) (.inl (some (.int (ii (zb ((ky pt 0) ∉ kl C n))))), wd [(5, oP5 d k (n' : Int)), (6, ar 96 C'), (7, ar 4 pt)] h) := by
    intro m
    induction m with
    | zero =>
      intro p hpn hl
      obtain rfl : p = n := by omega
      have hno : (ky pt 0) ∉ kl C p := fun hm => by
        obtain ⟨i, h1, h2⟩ := kl_mem.mp hm
        have := hl i h1
        omega
      have hz : zb ((ky pt 0) ∉ kl C p) = 1 := if_pos hno
      refine ⟨p + 1, shp C pt p p, shp_b9 hC hp, shp_ins (Nat.le_refl _) hl (fun q => by omega), by rw [if_neg hno], fun h w3 => ?_⟩
      rw [hz]
      refine E_iload pf_29_2 rfl ?_
      refine E_aload pf_29_3 rfl ?_
      refine F_getf pf_29_4 rfl rfl rfl ?_
      refine E_icmp_ge_t pf_29_7 (by omega) ?_
      refine E_aload pf_29_25 rfl ?_
      refine F_getf pf_29_26 rfl rfl rfl ?_
      refine E_iconst pf_29_29 ?_
      refine E_icmp_ge_f pf_29_31 (by omega) ?_
      refine E_iload pf_29_34 rfl ?_
      refine E_aload pf_29_35 rfl ?_
      refine F_getf pf_29_36 rfl rfl rfl ?_
      refine E_icmp_ge_t pf_29_39 (by omega) ?_
      exact put p (Nat.le_refl _) h w3
    | succ m ih =>
      intro p hpn hl
      have ec := lxk (i := (p : Int)) hC hp
      rcases cmk_in (ky C (4 * (p : Int))) (ky pt 0) with ⟨c1, c2⟩ | ⟨c1, c2⟩ | ⟨c1, c2⟩
      · have hm : (ky pt 0) ∈ kl C n := kl_mem.mpr ⟨p, by omega, c2.symm⟩
        have hz : zb ((ky pt 0) ∉ kl C n) = 0 := if_neg (fun q => q hm)
        refine ⟨n, C, hC, (ins_old hs hm).symm, by rw [if_pos hm], fun h w3 => ?_⟩
        rw [hz]
        refine E_iload pf_29_2 rfl ?_
        refine E_aload pf_29_3 rfl ?_
        refine F_getf pf_29_4 rfl rfl rfl ?_
        refine E_icmp_ge_f pf_29_7 (by omega) ?_
        refine E_aload pf_29_10 rfl ?_
        refine E_iload pf_29_11 rfl ?_
        refine E_aload pf_29_12 rfl ?_
        refine F_v3v0 pf_29_13 (c31c (by omega) hC hpr) (And.intro rfl (And.intro rfl (And.intro rfl (trivial)))) rfl rfl ?_
        rw [ec, c1]
        refine E_if_ge_t pf_29_16 (by omega) ?_
        refine E_aload pf_29_25 rfl ?_
        refine F_getf pf_29_26 rfl rfl rfl ?_
        refine E_iconst pf_29_29 ?_
        refine E_icmp_ge_f pf_29_31 (by omega) ?_
        refine E_iload pf_29_34 rfl ?_
        refine E_aload pf_29_35 rfl ?_
        refine F_getf pf_29_36 rfl rfl rfl ?_
        refine E_icmp_ge_f pf_29_39 (by omega) ?_
        refine E_aload pf_29_42 rfl ?_
        refine E_iload pf_29_43 rfl ?_
        refine E_aload pf_29_44 rfl ?_
        refine F_v3v0 pf_29_45 (c31c (by omega) hC hpr) (And.intro rfl (And.intro rfl (And.intro rfl (trivial)))) rfl rfl ?_
        rw [ec, c1]
        refine E_if_ne_f pf_29_48 (by omega) ?_
        refine E_iconst pf_29_51 ?_
        exact E_iret pf_29_52 rfl
      · obtain ⟨n', C', h1, h2, h3, h4⟩ := ih (p + 1) (by omega) (fun i hi => if q : i = p then by rw [q]; exact c2 else hl i (by omega))
        refine ⟨n', C', h1, h2, h3, fun h w3 => ?_⟩
        have h4 := h4 h w3
        refine E_iload pf_29_2 rfl ?_
        refine E_aload pf_29_3 rfl ?_
        refine F_getf pf_29_4 rfl rfl rfl ?_
        refine E_icmp_ge_f pf_29_7 (by omega) ?_
        refine E_aload pf_29_10 rfl ?_
        refine E_iload pf_29_11 rfl ?_
        refine E_aload pf_29_12 rfl ?_
        refine F_v3v0 pf_29_13 (c31c (by omega) hC hpr) (And.intro rfl (And.intro rfl (And.intro rfl (trivial)))) rfl rfl ?_
        rw [ec, c1]
        refine E_if_ge_f pf_29_16 (by omega) ?_
        refine E_iinc (lv' := [_, _, _, _]) pf_29_19 rfl rfl ?_
        refine E_goto pf_29_22 ?_
        exact h4
      · have hno : (ky pt 0) ∉ kl C n := fun hm => by
          obtain ⟨i, h1, h2⟩ := kl_mem.mp hm
          rcases Nat.lt_trichotomy i p with g | g | g
          · have := hl i g; omega
          · subst g; omega
          · have := kl_lt hs g h1; omega
        have hz : zb ((ky pt 0) ∉ kl C n) = 1 := if_pos hno
        refine ⟨n + 1, shp C pt p n, shp_b9 hC hp, shp_ins (by omega) hl (fun _ => c2), by rw [if_neg hno], fun h w3 => ?_⟩
        rw [hz]
        refine E_iload pf_29_2 rfl ?_
        refine E_aload pf_29_3 rfl ?_
        refine F_getf pf_29_4 rfl rfl rfl ?_
        refine E_icmp_ge_f pf_29_7 (by omega) ?_
        refine E_aload pf_29_10 rfl ?_
        refine E_iload pf_29_11 rfl ?_
        refine E_aload pf_29_12 rfl ?_
        refine F_v3v0 pf_29_13 (c31c (by omega) hC hpr) (And.intro rfl (And.intro rfl (And.intro rfl (trivial)))) rfl rfl ?_
        rw [ec, c1]
        refine E_if_ge_t pf_29_16 (by omega) ?_
        refine E_aload pf_29_25 rfl ?_
        refine F_getf pf_29_26 rfl rfl rfl ?_
        refine E_iconst pf_29_29 ?_
        refine E_icmp_ge_f pf_29_31 (by omega) ?_
        refine E_iload pf_29_34 rfl ?_
        refine E_aload pf_29_35 rfl ?_
        refine F_getf pf_29_36 rfl rfl rfl ?_
        refine E_icmp_ge_f pf_29_39 (by omega) ?_
        refine E_aload pf_29_42 rfl ?_
        refine E_iload pf_29_43 rfl ?_
        refine E_aload pf_29_44 rfl ?_
        refine F_v3v0 pf_29_45 (c31c (by omega) hC hpr) (And.intro rfl (And.intro rfl (And.intro rfl (trivial)))) rfl rfl ?_
        rw [ec, c1]
        refine E_if_ne_t pf_29_48 (by omega) ?_
        exact put p (by omega) h w3
  obtain ⟨n', C', h1, h2, h3, h4⟩ := loop n 0 (by omega) (fun i hi => by omega)
  refine ⟨n', C', h1, h2, h3, fun h => ?_⟩
  refine E_in (lv := [_, _, _, _]) rfl ?_
  refine E_iconst pf_29_0 ?_
  refine E_istore (lv' := [_, _, _, _]) pf_29_1 rfl rfl ?_
  exact h4 h _
variable {rf ts sp kd vs rw rd rk rr ac : Int}
/-- two neighbouring blocks changed over, up to place j -/
def swp (A : Int → Int) (v j : Int) : Int → Int := fun q => if 4 * v ≤ q ∧ q < 4 * v + j then A (q - 4) else if 4 * v - 4 ≤ q ∧ q < 4 * v - 4 + j then A (q + 4) else A q
theorem swp_0 (A : Int → Int) (v : Int) : swp A v ((0 : Nat) : Int) = A := by funext q; unfold swp; rw [if_neg (by omega), if_neg (by omega)]
theorem swp_s (A : Int → Int) (v : Int) (j : Nat) (hj : j < 4) : swp A v ((j + 1 : Nat) : Int) = zu (zu (swp A v j) (4 * v + j) (swp A v j (4 * v - 4 + j))) (4 * v - 4 + j) (swp A v j (4 * v + j)) := by
  funext q
  have a1 : swp A v j (4 * v - 4 + j) = A (4 * v - 4 + j) := by unfold swp; rw [if_neg (by omega), if_neg (by omega)]
  have a2 : swp A v j (4 * v + j) = A (4 * v + j) := by unfold swp; rw [if_neg (by omega), if_neg (by omega)]
  rw [a1, a2]
  unfold zu
  by_cases e1 : q = 4 * v - 4 + j
  · rw [if_pos e1]; unfold swp; rw [if_neg (by omega), if_pos (by omega), e1]; congr 1; omega
  · rw [if_neg e1]
    by_cases e2 : q = 4 * v + j
    · rw [if_pos e2]; unfold swp; rw [if_pos (by omega), e2]; congr 1; omega
    · rw [if_neg e2]; unfold swp
      by_cases e3 : 4 * v ≤ q ∧ q < 4 * v + j
      · rw [if_pos (by omega), if_pos e3]
      · rw [if_neg (by omega), if_neg e3]
        by_cases e4 : 4 * v - 4 ≤ q ∧ q < 4 * v - 4 + j
        · rw [if_pos (by omega), if_pos e4]
        · rw [if_neg (by omega), if_neg e4]
theorem swp_shp {P pt : Int → Int} {v n : Int} (hv : 1 ≤ v ∧ v ≤ n) : swp (shp P pt v n) v ((4 : Nat) : Int) = shp P pt (v - 1) n := by
  funext q
  unfold swp
  by_cases e1 : 4 * v ≤ q ∧ q < 4 * v + ((4 : Nat) : Int)
  · rw [if_pos e1]; unfold shp; rw [if_pos (by omega), if_neg (by omega), if_neg (by omega)]
  · rw [if_neg e1]
    by_cases e2 : 4 * v - 4 ≤ q ∧ q < 4 * v - 4 + ((4 : Nat) : Int)
    · rw [if_pos e2]; unfold shp; rw [if_neg (by omega), if_pos (by omega), if_neg (by omega), if_pos (by omega)]; congr 1; omega
    · rw [if_neg e2]; unfold shp
      by_cases e3 : q < 4 * v ∨ 4 * n + 4 ≤ q
      · rw [if_pos e3, if_pos (by omega)]
      · rw [if_neg e3, if_neg (by omega), if_neg (by omega), if_neg (by omega)]
theorem shp_n {P : Int → Int} {n : Int} : shp P (fun j => P (4 * n + j)) n n = P := by
  funext q; unfold shp
  by_cases e : q < 4 * n ∨ 4 * n + 4 ≤ q
  · rw [if_pos e]
  · rw [if_neg e, if_pos (by omega)]; show P (4 * n + (q - 4 * n)) = P q; congr 1; omega
theorem c132 (hn : n ≤ 24) (hP : ∀ q, -9 ≤ P q ∧ P q ≤ 9) (hs : (kl P n).Pairwise (· < ·)) : ∃ (n' : Nat) (P' : Int → Int), (∀ q, -9 ≤ P' q ∧ P' q ≤ 9) ∧ kl P' n' = ins (kl P n) (ky P (4 * (n : Int))) ∧ n' = (if (ky P (4 * (n : Int))) ∈ kl P n then n else n + 1) ∧ ∀ h, Ca 132 [.ref 102] (wd [(102, oX6 rf ts sp d kd vs rw rd rk (n : Int) rr ac), (105, ar 128 P)] h) (.inl (some (.int (ii (zb ((ky P (4 * (n : Int))) ∉ kl P n))))), wd [(102, oX6 rf ts sp d kd vs rw rd rk (n' : Int) rr ac), (105, ar 128 P')] h) := by
  have ek : ky (fun j => P (4 * (n : Int) + j)) 0 = (ky P (4 * (n : Int))) := ky_congr fun j _ _ => by rw [Int.zero_add]
  have b9p : b9 (fun j => P (4 * (n : Int) + j)) 0 := ⟨hP _, hP _, hP _, hP _⟩
  have down : (ky P (4 * (n : Int))) ∉ kl P n → ∀ (m v : Nat), v = m → v ≤ n → (∀ i : Nat, v ≤ i → i < n → (ky P (4 * (n : Int))) < ky P (4 * i)) → ∃ P' : Int → Int, (∀ q, -9 ≤ P' q ∧ P' q ≤ 9) ∧ kl P' (n + 1) = ins (kl P n) (ky P (4 * (n : Int))) ∧ ∀ (h : pd_H) (w2 w3 : Value), Rn 132 38 [.ref 102, .int (ii (v : Int)), w2, w3] [] (wd [(102, oX6 rf ts sp d kd vs rw rd rk (n : Int) rr ac), (105, ar 128 (shp P (fun j => P (4 * (n : Int) + j)) v n))] h) (.inl (some (.int (ii 1))), wd [(102, oX6 rf ts sp d kd vs rw rd rk ((n + 1 : Nat) : Int) rr ac), (105, ar 128 P')] h) := by
    intro hno m
    induction m with
    | zero =>
      intro v hv hvn hr
      subst hv
      refine ⟨_, shp_b9 hP b9p, by rw [← ek]; exact shp_ins (by omega) (fun i hi => by omega) (fun q => by rw [ek]; exact hr 0 (by omega) q), fun h w2 w3 => ?_⟩
      refine E_iload pf_132_38 rfl ?_
      refine E_if_le_t pf_132_39 (by omega) ?_
      refine E_aload pf_132_121 rfl ?_
      refine E_dup pf_132_122 rfl ?_
      refine F_getf pf_132_123 rfl rfl rfl ?_
      refine E_iconst pf_132_126 ?_
      refine E_iadd pf_132_127 ?_
      refine F_putf (l' := [(_, _), (_, _)]) (x := ob _ [_, _, _, _, _, _, _, _, _, _, _, _, _, _, _, _, _, _, _, _, _, _, _, _, _]) pf_132_128 rfl rfl rfl rfl rfl ?_
      refine E_iconst pf_132_131 ?_
      exact E_iret pf_132_132 rfl
    | succ m ih =>
      intro v hv hvn hr
      have hB := shp_b9 (p := (v : Int)) (n := (n : Int)) hP b9p
      have e1 : ky (shp P (fun j => P (4 * (n : Int) + j)) v n) (4 * (v : Int)) = (ky P (4 * (n : Int))) := by
        rw [← ek]
        exact ky_congr fun j h1 h2 => by unfold shp; rw [if_neg (by omega), if_pos (by omega)]; show P _ = P _; congr 1; omega
      have e2 : ky (shp P (fun j => P (4 * (n : Int) + j)) v n) (4 * ((v : Int) - 1)) = ky P (4 * ((v - 1 : Nat) : Int)) := ky_congr fun j h1 h2 => by unfold shp; rw [if_pos (by omega)]; congr 1; omega
      have ec := lxr_ky (f := shp P (fun j => P (4 * (n : Int) + j)) v n) (g := shp P (fun j => P (4 * (n : Int) + j)) v n) (a := 4 * (v : Int)) (b := 4 * ((v : Int) - 1)) ⟨hB _, hB _, hB _, hB _⟩ ⟨hB _, hB _, hB _, hB _⟩
      rw [e1, e2] at ec
      have hP0 := hP
      have hP := hB
      rcases cmk_in (ky P (4 * (n : Int))) (ky P (4 * ((v - 1 : Nat) : Int))) with ⟨c1, c2⟩ | ⟨c1, c2⟩ | ⟨c1, c2⟩
      · exact absurd (kl_mem.mpr ⟨v - 1, by omega, c2⟩) hno
      · obtain ⟨P', h1, h2, h3⟩ := ih (v - 1) (by omega) (by omega) (fun i hi hi2 => if q : i = v - 1 then by rw [q]; exact c2 else hr i (by omega) hi2)
        refine ⟨P', h1, h2, fun h w2 w3 => ?_⟩
        have swap : ∀ (m j : Nat) (A : Int → Int) (w3 : Value), j + m = 4 → A = swp (shp P (fun j => P (4 * (n : Int) + j)) v n) v (j : Int) → Rn 132 58 [.ref 102, .int (ii (v : Int)), .int (ii (j : Int)), w3] [] (wd [(102, oX6 rf ts sp d kd vs rw rd rk (n : Int) rr ac), (105, ar 128 A)] h) (.inl (some (.int (ii 1))), wd [(102, oX6 rf ts sp d kd vs rw rd rk ((n + 1 : Nat) : Int) rr ac), (105, ar 128 P')] h) := by
          intro m
          induction m with
          | zero =>
            intro j A w3 hj hA
            obtain rfl : j = 4 := by omega
            rw [swp_shp (by omega)] at hA
            rw [hA]
            have h3 := h3 h (.int (ii ((4 : Nat) : Int))) w3
            rw [show ((v - 1 : Nat) : Int) = (v : Int) + -1 by omega] at h3
            rw [show (v : Int) - 1 = (v : Int) + -1 by omega]
            refine E_iload pf_132_58 rfl ?_
            refine E_iconst pf_132_59 ?_
            refine E_icmp_ge_t pf_132_60 (by omega) ?_
            refine E_iinc (lv' := [_, _, _, _]) pf_132_115 rfl rfl ?_
            refine E_goto pf_132_118 ?_
            exact h3
          | succ m ih =>
            intro j A w3 hj hA
            have ih := fun w3 => ih (j + 1) (zu (zu A (4 * v + j) (A (4 * v - 4 + j))) (4 * v - 4 + j) (A (4 * v + j))) w3 (by omega) (by rw [swp_s _ _ _ (by omega), ← hA])
            refine E_iload pf_132_58 rfl ?_
            refine E_iconst pf_132_59 ?_
            refine E_icmp_ge_f pf_132_60 (by omega) ?_
            refine E_aload pf_132_63 rfl ?_
            refine F_getf pf_132_64 rfl rfl rfl ?_
            refine E_iconst pf_132_67 ?_
            refine E_iload pf_132_68 rfl ?_
            refine E_imul pf_132_69 ?_
            refine E_iload pf_132_70 rfl ?_
            refine E_iadd pf_132_71 ?_
            refine F_iald pf_132_72 rfl (by omega) ?_
            refine E_istore (lv' := [_, _, _, _]) pf_132_73 rfl rfl ?_
            refine E_aload pf_132_74 rfl ?_
            refine F_getf pf_132_75 rfl rfl rfl ?_
            refine E_iconst pf_132_78 ?_
            refine E_iload pf_132_79 rfl ?_
            refine E_imul pf_132_80 ?_
            refine E_iload pf_132_81 rfl ?_
            refine E_iadd pf_132_82 ?_
            refine E_aload pf_132_83 rfl ?_
            refine F_getf pf_132_84 rfl rfl rfl ?_
            refine E_iconst pf_132_87 ?_
            refine E_iload pf_132_88 rfl ?_
            refine E_imul pf_132_89 ?_
            refine E_iconst pf_132_90 ?_
            refine E_isub pf_132_91 ?_
            refine E_iload pf_132_92 rfl ?_
            refine E_iadd pf_132_93 ?_
            refine F_iald pf_132_94 rfl (by omega) ?_
            refine F_iast (l' := [(_, _), (_, _)]) pf_132_95 rfl (by omega) rfl ?_
            refine E_aload pf_132_96 rfl ?_
            refine F_getf pf_132_97 rfl rfl rfl ?_
            refine E_iconst pf_132_100 ?_
            refine E_iload pf_132_101 rfl ?_
            refine E_imul pf_132_102 ?_
            refine E_iconst pf_132_103 ?_
            refine E_isub pf_132_104 ?_
            refine E_iload pf_132_105 rfl ?_
            refine E_iadd pf_132_106 ?_
            refine E_iload pf_132_107 rfl ?_
            refine F_iast (l' := [(_, _), (_, _)]) pf_132_108 rfl (by omega) rfl ?_
            refine E_iinc (lv' := [_, _, _, _]) pf_132_109 rfl rfl ?_
            refine E_goto pf_132_112 ?_
            exact ih _
        refine E_iload pf_132_38 rfl ?_
        refine E_if_le_f pf_132_39 (by omega) ?_
        refine E_aload pf_132_42 rfl ?_
        refine F_getf pf_132_43 rfl rfl rfl ?_
        refine E_iload pf_132_46 rfl ?_
        refine E_iload pf_132_47 rfl ?_
        refine E_iconst pf_132_48 ?_
        refine E_isub pf_132_49 ?_
        refine F_c3v0 pf_132_50 (c131 (by omega) (by omega) hP) (And.intro rfl (trivial)) rfl ?_
        rw [ec, c1]
        refine E_if_ge_f pf_132_53 (by omega) ?_
        refine E_iconst pf_132_56 ?_
        refine E_istore (lv' := [_, _, _, _]) pf_132_57 rfl rfl ?_
        exact swap 4 0 _ _ (by omega) (swp_0 _ _).symm
      · refine ⟨_, shp_b9 (p := (v : Int)) (n := (n : Int)) hP0 b9p, by
            rw [← ek]
            refine shp_ins hvn (fun i hi => ?_) (fun q => by rw [ek]; exact hr v (Nat.le_refl _) q)
            rw [ek]
            by_cases q : i = v - 1
            · rw [q]; exact c2
            · have := kl_lt hs (i := i) (j := v - 1) (by omega) (by omega); omega, fun h w2 w3 => ?_⟩
        refine E_iload pf_132_38 rfl ?_
        refine E_if_le_f pf_132_39 (by omega) ?_
        refine E_aload pf_132_42 rfl ?_
        refine F_getf pf_132_43 rfl rfl rfl ?_
        refine E_iload pf_132_46 rfl ?_
        refine E_iload pf_132_47 rfl ?_
        refine E_iconst pf_132_48 ?_
        refine E_isub pf_132_49 ?_
        refine F_c3v0 pf_132_50 (c131 (by omega) (by omega) hP) (And.intro rfl (trivial)) rfl ?_
        rw [ec, c1]
        refine E_if_ge_t pf_132_53 (by omega) ?_
        refine E_aload pf_132_121 rfl ?_
        refine E_dup pf_132_122 rfl ?_
        refine F_getf pf_132_123 rfl rfl rfl ?_
        refine E_iconst pf_132_126 ?_
        refine E_iadd pf_132_127 ?_
        refine F_putf (l' := [(_, _), (_, _)]) (x := ob _ [_, _, _, _, _, _, _, _, _, _, _, _, _, _, _, _, _, _, _, _, _, _, _, _, _]) pf_132_128 rfl rfl rfl rfl rfl ?_
        refine E_iconst pf_132_131 ?_
        exact E_iret pf_132_132 rfl
  have loop : ∀ (m v : Nat), v + m = n → (∀ i : Nat, i < v → ky P (4 * i) ≠ (ky P (4 * (n : Int)))) → ∃ (n' : Nat) (P' : Int → Int), (∀ q, -9 ≤ P' q ∧ P' q ≤ 9) ∧ kl P' n' = ins (kl P n) (ky P (4 * (n : Int))) ∧ n' = (if (ky P (4 * (n : Int))) ∈ kl P n then n else n + 1) ∧ ∀ (h : pd_H) (w2 w3 : Value), Rn 132 2 [.ref 102, .int (ii (v : Int)), w2, w3] [] (wd [(102, oX6 rf ts sp d kd vs rw rd rk (n : Int) rr ac), (105, ar 128 P)] h) (.inl (some (.int (ii (zb ((ky P (4 * (n : Int))) ∉ kl P n))))), wd [(102, oX6 rf ts sp d kd vs rw rd rk (n' : Int) rr ac), (105, ar 128 P')] h) := by
    intro m
    induction m with
    | zero =>
      intro v hv hl
      obtain rfl : n = v := by omega
      have hno : (ky P (4 * (n : Int))) ∉ kl P n := fun hm => by
        obtain ⟨i, h1, h2⟩ := kl_mem.mp hm
        exact hl i h1 h2.symm
      have hz : zb ((ky P (4 * (n : Int))) ∉ kl P n) = 1 := if_pos hno
      obtain ⟨P', h1, h2, h3⟩ := down hno n n rfl (Nat.le_refl _) (fun i h1 h2 => by omega)
      rw [shp_n] at h3
      refine ⟨n + 1, P', h1, h2, by rw [if_neg hno], fun h w2 w3 => ?_⟩
      rw [hz]
      refine E_iload pf_132_2 rfl ?_
      refine E_aload pf_132_3 rfl ?_
      refine F_getf pf_132_4 rfl rfl rfl ?_
      refine E_icmp_ge_t pf_132_7 (by omega) ?_
      refine E_aload pf_132_33 rfl ?_
      refine F_getf pf_132_34 rfl rfl rfl ?_
      refine E_istore (lv' := [_, _, _, _]) pf_132_37 rfl rfl ?_
      exact h3 h w2 w3
    | succ m ih =>
      intro v hv hl
      have ec := lxr_ky (f := P) (g := P) (a := 4 * (v : Int)) (b := 4 * (n : Int)) ⟨hP _, hP _, hP _, hP _⟩ ⟨hP _, hP _, hP _, hP _⟩
      by_cases e : ky P (4 * v) = (ky P (4 * (n : Int)))
      · have hm : (ky P (4 * (n : Int))) ∈ kl P n := kl_mem.mpr ⟨v, by omega, e.symm⟩
        have hz : zb ((ky P (4 * (n : Int))) ∉ kl P n) = 0 := if_neg (fun q => q hm)
        have c1 : cmk (ky P (4 * (v : Int))) (ky P (4 * (n : Int))) = 0 := if_pos e
        refine ⟨n, P, hP, (ins_old hs hm).symm, by rw [if_pos hm], fun h w2 w3 => ?_⟩
        rw [hz]
        refine E_iload pf_132_2 rfl ?_
        refine E_aload pf_132_3 rfl ?_
        refine F_getf pf_132_4 rfl rfl rfl ?_
        refine E_icmp_ge_f pf_132_7 (by omega) ?_
        refine E_aload pf_132_10 rfl ?_
        refine F_getf pf_132_11 rfl rfl rfl ?_
        refine E_iload pf_132_14 rfl ?_
        refine E_aload pf_132_15 rfl ?_
        refine F_getf pf_132_16 rfl rfl rfl ?_
        refine F_c3v0 pf_132_19 (c131 (by omega) (by omega) hP) (And.intro rfl (trivial)) rfl ?_
        rw [ec, c1]
        refine E_if_ne_f pf_132_22 (by omega) ?_
        refine E_iconst pf_132_25 ?_
        exact E_iret pf_132_26 rfl
      · obtain ⟨n', P', h1, h2, h3, h4⟩ := ih (v + 1) (by omega) (fun i hi => if q : i = v then by rw [q]; exact e else hl i (by omega))
        refine ⟨n', P', h1, h2, h3, fun h w2 w3 => ?_⟩
        have h4 := h4 h w2 w3
        have c1 := cmk_in (ky P (4 * (v : Int))) (ky P (4 * (n : Int)))
        refine E_iload pf_132_2 rfl ?_
        refine E_aload pf_132_3 rfl ?_
        refine F_getf pf_132_4 rfl rfl rfl ?_
        refine E_icmp_ge_f pf_132_7 (by omega) ?_
        refine E_aload pf_132_10 rfl ?_
        refine F_getf pf_132_11 rfl rfl rfl ?_
        refine E_iload pf_132_14 rfl ?_
        refine E_aload pf_132_15 rfl ?_
        refine F_getf pf_132_16 rfl rfl rfl ?_
        refine F_c3v0 pf_132_19 (c131 (by omega) (by omega) hP) (And.intro rfl (trivial)) rfl ?_
        rw [ec]
        refine E_if_ne_t pf_132_22 (by omega) ?_
        refine E_iinc (lv' := [_, _, _, _]) pf_132_27 rfl rfl ?_
        refine E_goto pf_132_30 ?_
        exact h4
  obtain ⟨n', P', h1, h2, h3, h4⟩ := loop n 0 (by omega) (fun i hi => by omega)
  refine ⟨n', P', h1, h2, h3, fun h => ?_⟩
  refine E_in (lv := [_, _, _, _]) rfl ?_
  refine E_iconst pf_132_0 ?_
  refine E_istore (lv' := [_, _, _, _]) pf_132_1 rfl rfl ?_
  exact h4 h _ _
end ADD
