/-! Taking points in, on both sides. -/
theorem lxk {C pt : Int → Int} {i : Int} (hC : ∀ q, -9 ≤ C q ∧ C q ≤ 9) (hp : b9 pt 0) : lxr (fun j => C (i * 4 + j)) pt 4 0 = cmk (ky C (4 * i)) (ky pt 0) := by
  have h := lxr_ky (f := C) (g := pt) (a := i * 4) (b := 0) ⟨hC _, hC _, hC _, hC _⟩ hp
  have e : (fun j => pt (0 + j)) = pt := by funext j; rw [Int.zero_add]
  rw [e, Int.mul_comm i 4] at h
  rw [Int.mul_comm i 4]
  exact h
theorem cmk_in (x y : Int) : (cmk x y = 0 ∧ x = y) ∨ (cmk x y = -1 ∧ x < y) ∨ (cmk x y = 1 ∧ y < x) := by
  unfold cmk
  by_cases e : x = y
  · rw [if_pos e]; exact .inl ⟨rfl, e⟩
  · rw [if_neg e]
    by_cases e2 : x < y
    · rw [if_pos e2]; exact .inr (.inl ⟨rfl, e2⟩)
    · rw [if_neg e2]; exact .inr (.inr ⟨rfl, by omega⟩)
/-- t numbers moved up by a block -/
def sft (C : Int → Int) (n t : Nat) : Int → Int := fun q => if 4 * (n : Int) + 4 - t ≤ q ∧ q < 4 * n + 4 then C (q - 4) else C q
theorem sft_0 (C : Int → Int) (n : Nat) : sft C n 0 = C := by funext q; unfold sft; rw [if_neg (by omega)]
theorem sft_s (C : Int → Int) (n t : Nat) : sft C n (t + 1) = zu (sft C n t) (4 * n + 3 - t) (C (4 * n - 1 - t)) := by
  funext q
  unfold zu
  by_cases e : q = 4 * n + 3 - t
  · rw [if_pos e]; unfold sft; rw [if_pos (by omega), e]; congr 1; omega
  · rw [if_neg e]; unfold sft
    by_cases e2 : 4 * (n : Int) + 4 - t ≤ q ∧ q < 4 * n + 4
    · rw [if_pos (by omega), if_pos e2]
    · rw [if_neg (by omega), if_neg e2]
theorem sft_shp {C pt : Int → Int} {p n : Nat} (hp : p ≤ n) : zcpy pt (sft C n (4 * n - 4 * p)) 0 ((p : Int) * 4) 4 = shp C pt p n := by
  funext q
  by_cases e : (p : Int) * 4 ≤ q ∧ q < (p : Int) * 4 + 4
  · rw [zcpy_at e]; unfold shp; rw [if_neg (by omega), if_pos (by omega)]; congr 1; omega
  · rw [zcpy_out e]; unfold shp sft
    by_cases e2 : q < 4 * p ∨ 4 * (n : Int) + 4 ≤ q
    · rw [if_neg (by omega), if_pos e2]
    · rw [if_pos (by omega), if_neg e2, if_neg (by omega)]
/-- from a place between the smaller and the greater -/
theorem shp_ins {C pt : Int → Int} {p n : Nat} (hp : p ≤ n) (hl : ∀ i : Nat, i < p → ky C (4 * i) < ky pt 0) (hr : p < n → ky pt 0 < ky C (4 * p)) : kl (shp C pt p n) (n + 1) = ins (kl C n) (ky pt 0) := by
  rw [shp_kl hp]
  refine (ins_at (fun i x hi hx => ?_) (by rw [kl_len]; exact hp) (fun x hx => ?_)).symm
  · rw [kl_get (by omega)] at hx
    cases hx
    exact hl i hi
  · rcases Nat.lt_or_ge p n with g | g
    · rw [kl_get g] at hx
      cases hx
      exact hr g
    · rw [List.getElem?_eq_none (by rw [kl_len]; exact g)] at hx; cases hx
theorem kl_lt {C : Int → Int} {n : Nat} (h : (kl C n).Pairwise (· < ·)) {i j : Nat} (hij : i < j) (hj : j < n) : ky C (4 * i) < ky C (4 * j) := by
  have := List.pairwise_iff_getElem.mp h i j (by rw [kl_len]; omega) (by rw [kl_len]; omega) hij
  simpa [kl] using this
section ADD
variable {C pt P : Int → Int} {d k : Int} {n : Nat}
theorem c29p (hn : n < 24) (hC : ∀ q, -9 ≤ C q ∧ C q ≤ 9) (hp : b9 pt 0) (hs : (kl C n).Pairwise (· < ·)) : ∃ (n' : Nat) (C' : Int → Int), (∀ q, -9 ≤ C' q ∧ C' q ≤ 9) ∧ kl C' n' = ins (kl C n) (ky pt 0) ∧ n' = (if (ky pt 0) ∈ kl C n then n else n + 1) ∧ ∀ h, Ca 29 [.ref 5, .ref 4] (wd [(5, oP5 d k (n : Int)), (6, ar 96 C), (4, ar 4 pt)] h) (.inl (some (.int (ii (zb ((ky pt 0) ∉ kl C n))))), wd [(5, oP5 d k (n' : Int)), (6, ar 96 C'), (4, ar 4 pt)] h) := by
  have hpr : ∀ j : Int, 0 ≤ j → j < 4 → -2147483648 ≤ pt j ∧ pt j ≤ 2147483647 := fun j h1 h2 => by
    unfold b9 at hp
    have : j = 0 ∨ j = 0 + 1 ∨ j = 0 + 2 ∨ j = 0 + 3 := by omega
    rcases this with g | g | g | g <;> rw [g] <;> omega
  have put : ∀ (p : Nat), p ≤ n → (∀ (h : pd_H) (w3 : Value), Rn 29 53 [.ref 5, .ref 4, .int (ii (p : Int)), w3] [] (wd [(5, oP5 d k (n : Int)), (6, ar 96 C), (4, ar 4 pt)] h) (.inl (some (.int (ii 1))), wd [(5, oP5 d k ((n + 1 : Nat) : Int)), (6, ar 96 (shp C pt p n)), (4, ar 4 pt)] h)) := by
    intro p hpn h w3
    have loop2 : ∀ (m j : Nat) (A : Int → Int), j + m = 4 → A = zcpy pt (sft C n (4 * n - 4 * p)) 0 ((p : Int) * 4) (j : Int) → Rn 29 91 [.ref 5, .ref 4, .int (ii (p : Int)), .int (ii (j : Int))] [] (wd [(5, oP5 d k (n : Int)), (6, ar 96 A), (4, ar 4 pt)] h) (.inl (some (.int (ii 1))), wd [(5, oP5 d k ((n + 1 : Nat) : Int)), (6, ar 96 (shp C pt p n)), (4, ar 4 pt)] h) := by
      intro m
      induction m with
      | zero =>
        intro j A hj hA
        obtain rfl : j = 4 := by omega
        have hA2 : A = shp C pt p n := hA.trans (sft_shp hpn)
        rw [hA2]
        refine E_iload pf_29_91 rfl ?_
        refine E_iconst pf_29_92 ?_
        refine E_icmp_ge_t pf_29_93 (by omega) ?_
        refine E_aload pf_29_115 rfl ?_
        refine E_dup pf_29_116 rfl ?_
        refine F_getf pf_29_117 rfl rfl rfl ?_
        refine E_iconst pf_29_120 ?_
        refine E_iadd pf_29_121 ?_
        refine F_putf (l' := [(_, _), (_, _), (_, _)]) (x := ob _ [_, _, _, _, _, _]) pf_29_122 rfl rfl rfl rfl rfl ?_
        refine E_iconst pf_29_125 ?_
        exact E_iret pf_29_126 rfl
      | succ m ih =>
        intro j A hj hA
        have ih := ih (j + 1) (zu A ((p : Int) * 4 + j) (pt j)) (by omega) (by rw [zcpy_s, hA, Int.zero_add])
        refine E_iload pf_29_91 rfl ?_
        refine E_iconst pf_29_92 ?_
        refine E_icmp_ge_f pf_29_93 (by omega) ?_
        refine E_aload pf_29_96 rfl ?_
        refine F_getf pf_29_97 rfl rfl rfl ?_
        refine E_iload pf_29_100 rfl ?_
        refine E_iconst pf_29_101 ?_
        refine E_imul pf_29_102 ?_
        refine E_iload pf_29_103 rfl ?_
        refine E_iadd pf_29_104 ?_
        refine E_aload pf_29_105 rfl ?_
        refine E_iload pf_29_106 rfl ?_
        refine F_iald pf_29_107 rfl (by omega) ?_
        refine F_iast (l' := [(_, _), (_, _), (_, _)]) pf_29_108 rfl (by omega) rfl ?_
        refine E_iinc (lv' := [_, _, _, _]) pf_29_109 rfl rfl ?_
        refine E_goto pf_29_112 ?_
        exact ih
    have loop1 : ∀ (m t : Nat) (A : Int → Int), t + m = 4 * n - 4 * p → A = sft C n t → Rn 29 62 [.ref 5, .ref 4, .int (ii (p : Int)), .int (ii ((n : Int) * 4 - 1 - t))] [] (wd [(5, oP5 d k (n : Int)), (6, ar 96 A), (4, ar 4 pt)] h) (.inl (some (.int (ii 1))), wd [(5, oP5 d k ((n + 1 : Nat) : Int)), (6, ar 96 (shp C pt p n)), (4, ar 4 pt)] h) := by
      intro m
      induction m with
      | zero =>
        intro t A ht hA
        obtain rfl : t = 4 * n - 4 * p := by omega
        refine E_iload pf_29_62 rfl ?_
        refine E_iload pf_29_63 rfl ?_
        refine E_iconst pf_29_64 ?_
        refine E_imul pf_29_65 ?_
        refine E_icmp_lt_t pf_29_66 (by omega) ?_
        refine E_iconst pf_29_89 ?_
        refine E_istore (lv' := [_, _, _, _]) pf_29_90 rfl rfl ?_
        exact loop2 4 0 A (by omega) (by rw [zcpy_0]; exact hA)
      | succ m ih =>
        intro t A ht hA
        have e1 : A ((n : Int) * 4 - 1 - t) = C (4 * n - 1 - t) := by
          rw [hA]; unfold sft; rw [if_neg (by omega)]; congr 1; omega
        have ih := ih (t + 1) (zu A ((n : Int) * 4 - 1 - t + 4) (A ((n : Int) * 4 - 1 - t))) (by omega) (by rw [sft_s, e1, hA]; congr 1; omega)
        rw [show (n : Int) * 4 - 1 - ((t + 1 : Nat) : Int) = (n : Int) * 4 - 1 - t + -1 by omega] at ih
        refine E_iload pf_29_62 rfl ?_
        refine E_iload pf_29_63 rfl ?_
        refine E_iconst pf_29_64 ?_
        refine E_imul pf_29_65 ?_
        refine E_icmp_lt_f pf_29_66 (by omega) ?_
        refine E_aload pf_29_69 rfl ?_
        refine F_getf pf_29_70 rfl rfl rfl ?_
        refine E_iload pf_29_73 rfl ?_
        refine E_iconst pf_29_74 ?_
        refine E_iadd pf_29_75 ?_
        refine E_aload pf_29_76 rfl ?_
        refine F_getf pf_29_77 rfl rfl rfl ?_
        refine E_iload pf_29_80 rfl ?_
        refine F_iald pf_29_81 rfl (by omega) ?_
        refine F_iast (l' := [(_, _), (_, _), (_, _)]) pf_29_82 rfl (by omega) rfl ?_
        refine E_iinc (lv' := [_, _, _, _]) pf_29_83 rfl rfl ?_
        refine E_goto pf_29_86 ?_
        exact ih
    have l1 := loop1 (4 * n - 4 * p) 0 C (by omega) (sft_0 C n).symm
    rw [show (n : Int) * 4 - 1 - ((0 : Nat) : Int) = (n : Int) * 4 - 1 by omega] at l1
    refine E_aload pf_29_53 rfl ?_
    refine F_getf pf_29_54 rfl rfl rfl ?_
    refine E_iconst pf_29_57 ?_
    refine E_imul pf_29_58 ?_
    refine E_iconst pf_29_59 ?_
    refine E_isub pf_29_60 ?_
    refine E_istore (lv' := [_, _, _, _]) pf_29_61 rfl rfl ?_
    exact l1
  have loop : ∀ (m p : Nat), p + m = n → (∀ i : Nat, i < p → ky C (4 * i) < (ky pt 0)) → ∃ (n' : Nat) (C' : Int → Int), (∀ q, -9 ≤ C' q ∧ C' q ≤ 9) ∧ kl C' n' = ins (kl C n) (ky pt 0) ∧ n' = (if (ky pt 0) ∈ kl C n then n else n + 1) ∧ ∀ (h : pd_H) (w3 : Value), Rn 29 2 [.ref 5, .ref 4, .int (ii (p : Int)), w3] [] (wd [(5, oP5 d k (n : Int)), (6, ar 96 C), (4, ar 4 pt)] h) (.inl (some (.int (ii (zb ((ky pt 0) ∉ kl C n))))), wd [(5, oP5 d k (n' : Int)), (6, ar 96 C'), (4, ar 4 pt)] h) := by
    intro m
    induction m with
    | zero =>
      intro p hpn hl
      obtain rfl : p = n := by omega
      have hno : (ky pt 0) ∉ kl C p := fun hm => by
        obtain ⟨i, h1, h2⟩ := kl_mem.mp hm
        have := hl i h1
        omega
      have hz : zb ((ky pt 0) ∉ kl C p) = 1 := if_pos hno
      refine ⟨p + 1, shp C pt p p, shp_b9 hC hp, shp_ins (Nat.le_refl _) hl (fun q => by omega), by rw [if_neg hno], fun h w3 => ?_⟩
      rw [hz]
      refine E_iload pf_29_2 rfl ?_
      refine E_aload pf_29_3 rfl ?_
      refine F_getf pf_29_4 rfl rfl rfl ?_
      refine E_icmp_ge_t pf_29_7 (by omega) ?_
      refine E_aload pf_29_25 rfl ?_
      refine F_getf pf_29_26 rfl rfl rfl ?_
      refine E_iconst pf_29_29 ?_
      refine E_icmp_ge_f pf_29_31 (by omega) ?_
      refine E_iload pf_29_34 rfl ?_
      refine E_aload pf_29_35 rfl ?_
      refine F_getf pf_29_36 rfl rfl rfl ?_
      refine E_icmp_ge_t pf_29_39 (by omega) ?_
      exact put p (Nat.le_refl _) h w3
    | succ m ih =>
      intro p hpn hl
      have ec := lxk (i := (p : Int)) hC hp
      rcases cmk_in (ky C (4 * (p : Int))) (ky pt 0) with ⟨c1, c2⟩ | ⟨c1, c2⟩ | ⟨c1, c2⟩
      · have hm : (ky pt 0) ∈ kl C n := kl_mem.mpr ⟨p, by omega, c2.symm⟩
        have hz : zb ((ky pt 0) ∉ kl C n) = 0 := if_neg (fun q => q hm)
        refine ⟨n, C, hC, (ins_old hs hm).symm, by rw [if_pos hm], fun h w3 => ?_⟩
        rw [hz]
        refine E_iload pf_29_2 rfl ?_
        refine E_aload pf_29_3 rfl ?_
        refine F_getf pf_29_4 rfl rfl rfl ?_
        refine E_icmp_ge_f pf_29_7 (by omega) ?_
        refine E_aload pf_29_10 rfl ?_
        refine E_iload pf_29_11 rfl ?_
        refine E_aload pf_29_12 rfl ?_
        refine F_v3v0 pf_29_13 (c31p (by omega) hC hpr) (And.intro rfl (And.intro rfl (And.intro rfl (trivial)))) rfl rfl ?_
        rw [ec, c1]
        refine E_if_ge_t pf_29_16 (by omega) ?_
        refine E_aload pf_29_25 rfl ?_
        refine F_getf pf_29_26 rfl rfl rfl ?_
        refine E_iconst pf_29_29 ?_
        refine E_icmp_ge_f pf_29_31 (by omega) ?_
        refine E_iload pf_29_34 rfl ?_
        refine E_aload pf_29_35 rfl ?_
        refine F_getf pf_29_36 rfl rfl rfl ?_
        refine E_icmp_ge_f pf_29_39 (by omega) ?_
        refine E_aload pf_29_42 rfl ?_
        refine E_iload pf_29_43 rfl ?_
        refine E_aload pf_29_44 rfl ?_
        refine F_v3v0 pf_29_45 (c31p (by omega) hC hpr) (And.intro rfl (And.intro rfl (And.intro rfl (trivial)))) rfl rfl ?_
        rw [ec, c1]
        refine E_if_ne_f pf_29_48 (by omega) ?_
        refine E_iconst pf_29_51 ?_
        exact E_iret pf_29_52 rfl
      · obtain ⟨n', C', h1, h2, h3, h4⟩ := ih (p + 1) (by omega) (fun i hi => if q : i = p then by rw [q]; exact c2 else hl i (by omega))
        refine ⟨n', C', h1, h2, h3, fun h w3 => ?_⟩
        have h4 := h4 h w3
        refine E_iload pf_29_2 rfl ?_
        refine E_aload pf_29_3 rfl ?_
        refine F_getf pf_29_4 rfl rfl rfl ?_
        refine E_icmp_ge_f pf_29_7 (by omega) ?_
        refine E_aload pf_29_10 rfl ?_
        refine E_iload pf_29_11 rfl ?_
        refine E_aload pf_29_12 rfl ?_
        refine F_v3v0 pf_29_13 (c31p (by omega) hC hpr) (And.intro rfl (And.intro rfl (And.intro rfl (trivial)))) rfl rfl ?_
        rw [ec, c1]
        refine E_if_ge_f pf_29_16 (by omega) ?_
        refine E_iinc (lv' := [_, _, _, _]) pf_29_19 rfl rfl ?_
        refine E_goto pf_29_22 ?_
        exact h4
      · have hno : (ky pt 0) ∉ kl C n := fun hm => by
          obtain ⟨i, h1, h2⟩ := kl_mem.mp hm
          rcases Nat.lt_trichotomy i p with g | g | g
          · have := hl i g; omega
          · subst g; omega
          · have := kl_lt hs g h1; omega
        have hz : zb ((ky pt 0) ∉ kl C n) = 1 := if_pos hno
        refine ⟨n + 1, shp C pt p n, shp_b9 hC hp, shp_ins (by omega) hl (fun _ => c2), by rw [if_neg hno], fun h w3 => ?_⟩
        rw [hz]
        refine E_iload pf_29_2 rfl ?_
        refine E_aload pf_29_3 rfl ?_
        refine F_getf pf_29_4 rfl rfl rfl ?_
        refine E_icmp_ge_f pf_29_7 (by omega) ?_
        refine E_aload pf_29_10 rfl ?_
        refine E_iload pf_29_11 rfl ?_
        refine E_aload pf_29_12 rfl ?_
        refine F_v3v0 pf_29_13 (c31p (by omega) hC hpr) (And.intro rfl (And.intro rfl (And.intro rfl (trivial)))) rfl rfl ?_
        rw [ec, c1]
        refine E_if_ge_t pf_29_16 (by omega) ?_
        refine E_aload pf_29_25 rfl ?_
        refine F_getf pf_29_26 rfl rfl rfl ?_
        refine E_iconst pf_29_29 ?_
        refine E_icmp_ge_f pf_29_31 (by omega) ?_
        refine E_iload pf_29_34 rfl ?_
        refine E_aload pf_29_35 rfl ?_
        refine F_getf pf_29_36 rfl rfl rfl ?_
        refine E_icmp_ge_f pf_29_39 (by omega) ?_
        refine E_aload pf_29_42 rfl ?_
        refine E_iload pf_29_43 rfl ?_
        refine E_aload pf_29_44 rfl ?_
        refine F_v3v0 pf_29_45 (c31p (by omega) hC hpr) (And.intro rfl (And.intro rfl (And.intro rfl (trivial)))) rfl rfl ?_
        rw [ec, c1]
        refine E_if_ne_t pf_29_48 (by omega) ?_
        exact put p (by omega) h w3
  obtain ⟨n', C', h1, h2, h3, h4⟩ := loop n 0 (by omega) (fun i hi => by omega)
  refine ⟨n', C', h1, h2, h3, fun h => ?_⟩
  refine E_in (lv := [_, _, _, _]) rfl ?_
  refine E_iconst pf_29_0 ?_
  refine E_istore (lv' := [_, _, _, _]) pf_29_1 rfl rfl ?_
  exact h4 h _
theorem c29c (hn : n < 24) (hC : ∀ q, -9 ≤ C q ∧ C q ≤ 9) (hp : b9 pt 0) (hs : (kl C n).Pairwise (· < ·)) : ∃ (n' : Nat) (C' : Int → Int), (∀ q, -9 ≤ C' q ∧ C' q ≤ 9) ∧ kl C' n' = ins (kl C n) (ky pt 0) ∧ n' = (if (ky pt 0) ∈ kl C n then n else n + 1) ∧ ∀ h, Ca 29 [.ref 5, .ref 7] (wd [(5, oP5 d k (n : Int)), (6, ar 96 C), (7, ar 4 pt)] h) (.inl (some (.int (ii (zb ((ky pt 0) ∉ kl C n))))), wd [(5, oP5 d k (n' : Int)), (6, ar 96 C'), (7, ar 4 pt)] h) := by
  have hpr : ∀ j : Int, 0 ≤ j → j < 4 → -2147483648 ≤ pt j ∧ pt j ≤ 2147483647 := fun j h1 h2 => by
    unfold b9 at hp
    have : j = 0 ∨ j = 0 + 1 ∨ j = 0 + 2 ∨ j = 0 + 3 := by omega
    rcases this with g | g | g | g <;> rw [g] <;> omega
  have put : ∀ (p : Nat), p ≤ n → (∀ (h : pd_H) (w3 : Value), Rn 29 53 [.ref 5, .ref 7, .int (ii (p : Int)), w3] [] (wd [(5, oP5 d k (n : Int)), (6, ar 96 C), (7, ar 4 pt)] h) (.inl (some (.int (ii 1))), wd [(5, oP5 d k ((n + 1 : Nat) : Int)), (6, ar 96 (shp C pt p n)), (7, ar 4 pt)] h)) := by
    intro p hpn h w3
    have loop2 : ∀ (m j : Nat) (A : Int → Int), j + m = 4 → A = zcpy pt (sft C n (4 * n - 4 * p)) 0 ((p : Int) * 4) (j : Int) → Rn 29 91 [.ref 5, .ref 7, .int (ii (p : Int)), .int (ii (j : Int))] [] (wd [(5, oP5 d k (n : Int)), (6, ar 96 A), (7, ar 4 pt)] h) (.inl (some (.int (ii 1))), wd [(5, oP5 d k ((n + 1 : Nat) : Int)), (6, ar 96 (shp C pt p n)), (7, ar 4 pt)] h) := by
      intro m
      induction m with
      | zero =>
        intro j A hj hA
        obtain rfl : j = 4 := by omega
        have hA2 : A = shp C pt p n := hA.trans (sft_shp hpn)
        rw [hA2]
        refine E_iload pf_29_91 rfl ?_
        refine E_iconst pf_29_92 ?_
        refine E_icmp_ge_t pf_29_93 (by omega) ?_
        refine E_aload pf_29_115 rfl ?_
        refine E_dup pf_29_116 rfl ?_
        refine F_getf pf_29_117 rfl rfl rfl ?_
        refine E_iconst pf_29_120 ?_
        refine E_iadd pf_29_121 ?_
        refine F_putf (l' := [(_, _), (_, _), (_, _)]) (x := ob _ [_, _, _, _, _, _]) pf_29_122 rfl rfl rfl rfl rfl ?_
        refine E_iconst pf_29_125 ?_
        exact E_iret pf_29_126 rfl
      | succ m ih =>
        intro j A hj hA
        have ih := ih (j + 1) (zu A ((p : Int) * 4 + j) (pt j)) (by omega) (by rw [zcpy_s, hA, Int.zero_add])
        refine E_iload pf_29_91 rfl ?_
        refine E_iconst pf_29_92 ?_
        refine E_icmp_ge_f pf_29_93 (by omega) ?_
        refine E_aload pf_29_96 rfl ?_
        refine F_getf pf_29_97 rfl rfl rfl ?_
        refine E_iload pf_29_100 rfl ?_
        refine E_iconst pf_29_101 ?_
        refine E_imul pf_29_102 ?_
        refine E_iload pf_29_103 rfl ?_
        refine E_iadd pf_29_104 ?_
        refine E_aload pf_29_105 rfl ?_
        refine E_iload pf_29_106 rfl ?_
        refine F_iald pf_29_107 rfl (by omega) ?_
        refine F_iast (l' := [(_, _), (_, _), (_, _)]) pf_29_108 rfl (by omega) rfl ?_
        refine E_iinc (lv' := [_, _, _, _]) pf_29_109 rfl rfl ?_
        refine E_goto pf_29_112 ?_
        exact ih
    have loop1 : ∀ (m t : Nat) (A : Int → Int), t + m = 4 * n - 4 * p → A = sft C n t → Rn 29 62 [.ref 5, .ref 7, .int (ii (p : Int)), .int (ii ((n : Int) * 4 - 1 - t))] [] (wd [(5, oP5 d k (n : Int)), (6, ar 96 A), (7, ar 4 pt)] h) (.inl (some (.int (ii 1))), wd [(5, oP5 d k ((n + 1 : Nat) : Int)), (6, ar 96 (shp C pt p n)), (7, ar 4 pt)] h) := by
      intro m
      induction m with
      | zero =>
        intro t A ht hA
        obtain rfl : t = 4 * n - 4 * p := by omega
        refine E_iload pf_29_62 rfl ?_
        refine E_iload pf_29_63 rfl ?_
        refine E_iconst pf_29_64 ?_
        refine E_imul pf_29_65 ?_
        refine E_icmp_lt_t pf_29_66 (by omega) ?_
        refine E_iconst pf_29_89 ?_
        refine E_istore (lv' := [_, _, _, _]) pf_29_90 rfl rfl ?_
        exact loop2 4 0 A (by omega) (by rw [zcpy_0]; exact hA)
      | succ m ih =>
        intro t A ht hA
        have e1 : A ((n : Int) * 4 - 1 - t) = C (4 * n - 1 - t) := by
          rw [hA]; unfold sft; rw [if_neg (by omega)]; congr 1; omega
        have ih := ih (t + 1) (zu A ((n : Int) * 4 - 1 - t + 4) (A ((n : Int) * 4 - 1 - t))) (by omega) (by rw [sft_s, e1, hA]; congr 1; omega)
        rw [show (n : Int) * 4 - 1 - ((t + 1 : Nat) : Int) = (n : Int) * 4 - 1 - t + -1 by omega] at ih
        refine E_iload pf_29_62 rfl ?_
        refine E_iload pf_29_63 rfl ?_
        refine E_iconst pf_29_64 ?_
        refine E_imul pf_29_65 ?_
        refine E_icmp_lt_f pf_29_66 (by omega) ?_
        refine E_aload pf_29_69 rfl ?_
        refine F_getf pf_29_70 rfl rfl rfl ?_
        refine E_iload pf_29_73 rfl ?_
        refine E_iconst pf_29_74 ?_
        refine E_iadd pf_29_75 ?_
        refine E_aload pf_29_76 rfl ?_
        refine F_getf pf_29_77 rfl rfl rfl ?_
        refine E_iload pf_29_80 rfl ?_
        refine F_iald pf_29_81 rfl (by omega) ?_
        refine F_iast (l' := [(_, _), (_, _), (_, _)]) pf_29_82 rfl (by omega) rfl ?_
        refine E_iinc (lv' := [_, _, _, _]) pf_29_83 rfl rfl ?_
        refine E_goto pf_29_86 ?_
        exact ih
    have l1 := loop1 (4 * n - 4 * p) 0 C (by omega) (sft_0 C n).symm
    rw [show (n : Int) * 4 - 1 - ((0 : Nat) : Int) = (n : Int) * 4 - 1 by omega] at l1
    refine E_aload pf_29_53 rfl ?_
    refine F_getf pf_29_54 rfl rfl rfl ?_
    refine E_iconst pf_29_57 ?_
    refine E_imul pf_29_58 ?_
    refine E_iconst pf_29_59 ?_
    refine E_isub pf_29_60 ?_
    refine E_istore (lv' := [_, _, _, _]) pf_29_61 rfl rfl ?_
    exact l1
  have loop : ∀ (m p : Nat), p + m = n → (∀ i : Nat, i < p → ky C (4 * i) < (ky pt 0)) → ∃ (n' : Nat) (C' : Int → Int), (∀ q, -9 ≤ C' q ∧ C' q ≤ 9) ∧ kl C' n' = ins (kl C n) (ky pt 0) ∧ n' = (if (ky pt 0) ∈ kl C n then n else n + 1) ∧ ∀ (h : pd_H) (w3 : Value), Rn 29 2 [.ref 5, .ref 7, .int (ii (p : Int)), w3] [] (wd [(5, oP5 d k (n : Int)), (6, ar 96 C), (7, ar 4 pt)] h) (.inl (some (.int (ii (zb ((ky pt 0) ∉ kl C n))))), wd [(5, oP5 d k (n' : Int)), (6, ar 96 C'), (7, ar 4 pt)] h) := by
    intro m
    induction m with
    | zero =>
      intro p hpn hl
      obtain rfl : p = n := by omega
      have hno : (ky pt 0) ∉ kl C p := fun hm => by
        obtain ⟨i, h1, h2⟩ := kl_mem.mp hm
        have := hl i h1
        omega
      have hz : zb ((ky pt 0) ∉ kl C p) = 1 := if_pos hno
      refine ⟨p + 1, shp C pt p p, shp_b9 hC hp, shp_ins (Nat.le_refl _) hl (fun q => by omega), by rw [if_neg hno], fun h w3 => ?_⟩
      rw [hz]
      refine E_iload pf_29_2 rfl ?_
      refine E_aload pf_29_3 rfl ?_
      refine F_getf pf_29_4 rfl rfl rfl ?_
      refine E_icmp_ge_t pf_29_7 (by omega) ?_
      refine E_aload pf_29_25 rfl ?_
      refine F_getf pf_29_26 rfl rfl rfl ?_
      refine E_iconst pf_29_29 ?_
      refine E_icmp_ge_f pf_29_31 (by omega) ?_
      refine E_iload pf_29_34 rfl ?_
      refine E_aload pf_29_35 rfl ?_
      refine F_getf pf_29_36 rfl rfl rfl ?_
      refine E_icmp_ge_t pf_29_39 (by omega) ?_
      exact put p (Nat.le_refl _) h w3
    | succ m ih =>
      intro p hpn hl
      have ec := lxk (i := (p : Int)) hC hp
      rcases cmk_in (ky C (4 * (p : Int))) (ky pt 0) with ⟨c1, c2⟩ | ⟨c1, c2⟩ | ⟨c1, c2⟩
      · have hm : (ky pt 0) ∈ kl C n := kl_mem.mpr ⟨p, by omega, c2.symm⟩
        have hz : zb ((ky pt 0) ∉ kl C n) = 0 := if_neg (fun q => q hm)
        refine ⟨n, C, hC, (ins_old hs hm).symm, by rw [if_pos hm], fun h w3 => ?_⟩
        rw [hz]
        refine E_iload pf_29_2 rfl ?_
        refine E_aload pf_29_3 rfl ?_
        refine F_getf pf_29_4 rfl rfl rfl ?_
        refine E_icmp_ge_f pf_29_7 (by omega) ?_
        refine E_aload pf_29_10 rfl ?_
        refine E_iload pf_29_11 rfl ?_
        refine E_aload pf_29_12 rfl ?_
        refine F_v3v0 pf_29_13 (c31c (by omega) hC hpr) (And.intro rfl (And.intro rfl (And.intro rfl (trivial)))) rfl rfl ?_
        rw [ec, c1]
        refine E_if_ge_t pf_29_16 (by omega) ?_
        refine E_aload pf_29_25 rfl ?_
        refine F_getf pf_29_26 rfl rfl rfl ?_
        refine E_iconst pf_29_29 ?_
        refine E_icmp_ge_f pf_29_31 (by omega) ?_
        refine E_iload pf_29_34 rfl ?_
        refine E_aload pf_29_35 rfl ?_
        refine F_getf pf_29_36 rfl rfl rfl ?_
        refine E_icmp_ge_f pf_29_39 (by omega) ?_
        refine E_aload pf_29_42 rfl ?_
        refine E_iload pf_29_43 rfl ?_
        refine E_aload pf_29_44 rfl ?_
        refine F_v3v0 pf_29_45 (c31c (by omega) hC hpr) (And.intro rfl (And.intro rfl (And.intro rfl (trivial)))) rfl rfl ?_
        rw [ec, c1]
        refine E_if_ne_f pf_29_48 (by omega) ?_
        refine E_iconst pf_29_51 ?_
        exact E_iret pf_29_52 rfl
      · obtain ⟨n', C', h1, h2, h3, h4⟩ := ih (p + 1) (by omega) (fun i hi => if q : i = p then by rw [q]; exact c2 else hl i (by omega))
        refine ⟨n', C', h1, h2, h3, fun h w3 => ?_⟩
        have h4 := h4 h w3
        refine E_iload pf_29_2 rfl ?_
        refine E_aload pf_29_3 rfl ?_
        refine F_getf pf_29_4 rfl rfl rfl ?_
        refine E_icmp_ge_f pf_29_7 (by omega) ?_
        refine E_aload pf_29_10 rfl ?_
        refine E_iload pf_29_11 rfl ?_
        refine E_aload pf_29_12 rfl ?_
        refine F_v3v0 pf_29_13 (c31c (by omega) hC hpr) (And.intro rfl (And.intro rfl (And.intro rfl (trivial)))) rfl rfl ?_
        rw [ec, c1]
        refine E_if_ge_f pf_29_16 (by omega) ?_
        refine E_iinc (lv' := [_, _, _, _]) pf_29_19 rfl rfl ?_
        refine E_goto pf_29_22 ?_
        exact h4
      · have hno : (ky pt 0) ∉ kl C n := fun hm => by
          obtain ⟨i, h1, h2⟩ := kl_mem.mp hm
          rcases Nat.lt_trichotomy i p with g | g | g
          · have := hl i g; omega
          · subst g; omega
          · have := kl_lt hs g h1; omega
        have hz : zb ((ky pt 0) ∉ kl C n) = 1 := if_pos hno
        refine ⟨n + 1, shp C pt p n, shp_b9 hC hp, shp_ins (by omega) hl (fun _ => c2), by rw [if_neg hno], fun h w3 => ?_⟩
        rw [hz]
        refine E_iload pf_29_2 rfl ?_
        refine E_aload pf_29_3 rfl ?_
        refine F_getf pf_29_4 rfl rfl rfl ?_
        refine E_icmp_ge_f pf_29_7 (by omega) ?_
        refine E_aload pf_29_10 rfl ?_
        refine E_iload pf_29_11 rfl ?_
        refine E_aload pf_29_12 rfl ?_
        refine F_v3v0 pf_29_13 (c31c (by omega) hC hpr) (And.intro rfl (And.intro rfl (And.intro rfl (trivial)))) rfl rfl ?_
        rw [ec, c1]
        refine E_if_ge_t pf_29_16 (by omega) ?_
        refine E_aload pf_29_25 rfl ?_
        refine F_getf pf_29_26 rfl rfl rfl ?_
        refine E_iconst pf_29_29 ?_
        refine E_icmp_ge_f pf_29_31 (by omega) ?_
        refine E_iload pf_29_34 rfl ?_
        refine E_aload pf_29_35 rfl ?_
        refine F_getf pf_29_36 rfl rfl rfl ?_
        refine E_icmp_ge_f pf_29_39 (by omega) ?_
        refine E_aload pf_29_42 rfl ?_
        refine E_iload pf_29_43 rfl ?_
        refine E_aload pf_29_44 rfl ?_
        refine F_v3v0 pf_29_45 (c31c (by omega) hC hpr) (And.intro rfl (And.intro rfl (And.intro rfl (trivial)))) rfl rfl ?_
        rw [ec, c1]
        refine E_if_ne_t pf_29_48 (by omega) ?_
        exact put p (by omega) h w3
  obtain ⟨n', C', h1, h2, h3, h4⟩ := loop n 0 (by omega) (fun i hi => by omega)
  refine ⟨n', C', h1, h2, h3, fun h => ?_⟩
  refine E_in (lv := [_, _, _, _]) rfl ?_
  refine E_iconst pf_29_0 ?_
  refine E_istore (lv' := [_, _, _, _]) pf_29_1 rfl rfl ?_
  exact h4 h _
end ADD
