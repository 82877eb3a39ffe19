/-! Giving and dropping units, on both sides. -/
section MIX
variable {R V U r : Int → Int} {m rn vn : Nat} {st dr : Int}
theorem c58s {v : Int} : ∀ h, Ca 58 [.ref 24, .int (ii v)] (wd [(24, oS24 (rn : Int) (m : Int) st dr), (26, ar 24 V), (27, ar 24 U)] h) (.inl none, wd [(24, oS24 (rn : Int) 1 0 0), (26, ar 24 (zu V 0 v)), (27, ar 24 (zu U 0 100))] h) := by
  intro h
  refine E_in (lv := [_, _]) rfl ?_
  refine E_aload pf_58_0 rfl ?_
  refine E_iconst pf_58_1 ?_
  refine F_putf (l' := [(_, _), (_, _), (_, _)]) (x := ob _ [_, _, _, _, _, _, _]) pf_58_2 rfl rfl rfl rfl rfl ?_
  refine E_aload pf_58_5 rfl ?_
  refine F_getf pf_58_6 rfl rfl rfl ?_
  refine E_iconst pf_58_9 ?_
  refine E_iload pf_58_10 rfl ?_
  refine F_iast (l' := [(_, _), (_, _), (_, _)]) pf_58_11 rfl (by omega) rfl ?_
  refine E_aload pf_58_12 rfl ?_
  refine F_getf pf_58_13 rfl rfl rfl ?_
  refine E_iconst pf_58_16 ?_
  refine E_iconst pf_58_17 ?_
  refine F_iast (l' := [(_, _), (_, _), (_, _)]) pf_58_19 rfl (by omega) rfl ?_
  refine E_aload pf_58_20 rfl ?_
  refine E_iconst pf_58_21 ?_
  refine F_putf (l' := [(_, _), (_, _), (_, _)]) (x := ob _ [_, _, _, _, _, _, _]) pf_58_22 rfl rfl rfl rfl rfl ?_
  refine E_aload pf_58_25 rfl ?_
  refine E_iconst pf_58_26 ?_
  refine F_putf (l' := [(_, _), (_, _), (_, _)]) (x := ob _ [_, _, _, _, _, _, _]) pf_58_27 rfl rfl rfl rfl rfl ?_
  exact E_vret pf_58_30 rfl
theorem c59s {v n : Int} (hm : m ≤ 24) (hV : ∀ i : Nat, i < m → 0 ≤ V i ∧ V i < 24) (hv : 0 ≤ v ∧ v < 24) (hn : 0 ≤ n ∧ n ≤ 100) (hc : m < 24 ∨ ∃ i : Nat, i < m ∧ V i = v) : ∃ (m' : Nat) (V' U' : Int → Int), zl V' U' m' = gv (zl V U m) v n ∧ ∀ h, Ca 59 [.ref 24, .int (ii v), .int (ii n)] (wd [(24, oS24 (rn : Int) (m : Int) st dr), (26, ar 24 V), (27, ar 24 U)] h) (.inl none, wd [(24, oS24 (rn : Int) (m' : Int) st dr), (26, ar 24 V'), (27, ar 24 U')] h) := by
  by_cases h0 : n ≤ 0
  · refine ⟨m, V, U, by unfold gv; rw [if_pos h0], fun h => ?_⟩
    refine E_in (lv := [_, _, _, _]) rfl ?_
    refine E_iload pf_59_0 rfl ?_
    refine E_iconst pf_59_1 ?_
    refine E_icmp_ge_f pf_59_2 (by omega) ?_
    exact E_vret pf_59_5 rfl
  have hg : gv (zl V U m) v n = gvl (zl V U m) v n := by unfold gv; rw [if_neg h0]
  have loop : ∀ (k i : Nat), i + k = m → (∀ j : Nat, j < i → V j ≠ v) → ∃ (m' : Nat) (V' U' : Int → Int), zl V' U' m' = gv (zl V U m) v n ∧ ∀ h, Rn 59 8 [.ref 24, .int (ii v), .int (ii n), .int (ii (i : Int))] [] (wd [(24, oS24 (rn : Int) (m : Int) st dr), (26, ar 24 V), (27, ar 24 U)] h) (.inl none, wd [(24, oS24 (rn : Int) (m' : Int) st dr), (26, ar 24 V'), (27, ar 24 U')] h) := by
    intro k
    induction k with
    | zero =>
      intro i hi hno
      obtain rfl : i = m := by omega
      have hc : i < 24 := by
        rcases hc with q | ⟨j, q1, q2⟩
        · exact q
        · exact absurd q2 (hno j q1)
      refine ⟨i + 1, zu V i v, zu U i n, ?_, fun h => ?_⟩
      · rw [hg, zl_push, gvl_new]
        intro q hq
        obtain ⟨j, h1, rfl⟩ := zl_mem.mp hq
        exact hno j h1
      refine E_iload pf_59_8 rfl ?_
      refine E_aload pf_59_9 rfl ?_
      refine F_getf pf_59_10 rfl rfl rfl ?_
      refine E_icmp_ge_t pf_59_13 (by omega) ?_
      refine E_aload pf_59_43 rfl ?_
      refine F_getf pf_59_44 rfl rfl rfl ?_
      refine E_iconst pf_59_47 ?_
      refine E_icmp_ge_f pf_59_49 (by omega) ?_
      refine E_aload pf_59_52 rfl ?_
      refine F_getf pf_59_53 rfl rfl rfl ?_
      refine E_aload pf_59_56 rfl ?_
      refine F_getf pf_59_57 rfl rfl rfl ?_
      refine E_iload pf_59_60 rfl ?_
      refine F_iast (l' := [(_, _), (_, _), (_, _)]) pf_59_61 rfl (by omega) rfl ?_
      refine E_aload pf_59_62 rfl ?_
      refine F_getf pf_59_63 rfl rfl rfl ?_
      refine E_aload pf_59_66 rfl ?_
      refine F_getf pf_59_67 rfl rfl rfl ?_
      refine E_iload pf_59_70 rfl ?_
      refine F_iast (l' := [(_, _), (_, _), (_, _)]) pf_59_71 rfl (by omega) rfl ?_
      refine E_aload pf_59_72 rfl ?_
      refine E_dup pf_59_73 rfl ?_
      refine F_getf pf_59_74 rfl rfl rfl ?_
      refine E_iconst pf_59_77 ?_
      refine E_iadd pf_59_78 ?_
      refine F_putf (l' := [(_, _), (_, _), (_, _)]) (x := ob _ [_, _, _, _, _, _, _]) pf_59_79 rfl rfl rfl rfl rfl ?_
      exact E_vret pf_59_82 rfl
    | succ k ih =>
      intro i hi hno
      have hb := hV i (by omega)
      by_cases e : V i = v
      · refine ⟨m, V, zu U i (U i + n), ?_, fun h => ?_⟩
        · rw [hg, zl_set, gvl_set (i := i) (u := U i) (fun j q hj hq => ?_) (by rw [zl_get (by omega), e]), e]
          rw [zl_get (by omega)] at hq
          cases hq
          exact hno j hj
        refine E_iload pf_59_8 rfl ?_
        refine E_aload pf_59_9 rfl ?_
        refine F_getf pf_59_10 rfl rfl rfl ?_
        refine E_icmp_ge_f pf_59_13 (by omega) ?_
        refine E_aload pf_59_16 rfl ?_
        refine F_getf pf_59_17 rfl rfl rfl ?_
        refine E_iload pf_59_20 rfl ?_
        refine F_iald pf_59_21 rfl (by omega) ?_
        refine E_iload pf_59_22 rfl ?_
        refine E_icmp_ne_f pf_59_23 (by omega) ?_
        refine E_aload pf_59_26 rfl ?_
        refine F_getf pf_59_27 rfl rfl rfl ?_
        refine E_iload pf_59_30 rfl ?_
        refine E_dup2 pf_59_31 rfl rfl ?_
        refine F_iald pf_59_32 rfl (by omega) ?_
        refine E_iload pf_59_33 rfl ?_
        refine E_iadd pf_59_34 ?_
        refine F_iast (l' := [(_, _), (_, _), (_, _)]) pf_59_35 rfl (by omega) rfl ?_
        exact E_vret pf_59_36 rfl
      · obtain ⟨m', V', U', h1, h2⟩ := ih (i + 1) (by omega) (fun j hj => if q : j = i then by rw [q]; exact e else hno j (by omega))
        refine ⟨m', V', U', h1, fun h => ?_⟩
        have h2 := h2 h
        refine E_iload pf_59_8 rfl ?_
        refine E_aload pf_59_9 rfl ?_
        refine F_getf pf_59_10 rfl rfl rfl ?_
        refine E_icmp_ge_f pf_59_13 (by omega) ?_
        refine E_aload pf_59_16 rfl ?_
        refine F_getf pf_59_17 rfl rfl rfl ?_
        refine E_iload pf_59_20 rfl ?_
        refine F_iald pf_59_21 rfl (by omega) ?_
        refine E_iload pf_59_22 rfl ?_
        refine E_icmp_ne_t pf_59_23 (by omega) ?_
        refine E_iinc (lv' := [_, _, _, _]) pf_59_37 rfl rfl ?_
        refine E_goto pf_59_40 ?_
        exact h2
  obtain ⟨m', V', U', h1, h2⟩ := loop m 0 (by omega) (fun j hj => by omega)
  refine ⟨m', V', U', h1, fun h => ?_⟩
  refine E_in (lv := [_, _, _, _]) rfl ?_
  refine E_iload pf_59_0 rfl ?_
  refine E_iconst pf_59_1 ?_
  refine E_icmp_ge_t pf_59_2 (by omega) ?_
  refine E_iconst pf_59_6 ?_
  refine E_istore (lv' := [_, _, _, _]) pf_59_7 rfl rfl ?_
  exact h2 h
theorem c61s (hm : m ≤ 24) (hU : ∀ i : Nat, i < m → 0 ≤ U i ∧ U i ≤ 1000) : ∃ (m' : Nat) (V' U' : Int → Int), zl V' U' m' = pos (zl V U m) ∧ m' ≤ m ∧ ∀ h, Ca 61 [.ref 24] (wd [(24, oS24 (rn : Int) (m : Int) st dr), (26, ar 24 V), (27, ar 24 U)] h) (.inl (some (.int (ii ((m : Int) - m')))), wd [(24, oS24 (rn : Int) (m' : Int) st dr), (26, ar 24 V'), (27, ar 24 U')] h) := by
  have loop : ∀ (k i kept : Nat) (V1 U1 : Int → Int), i + k = m → kept ≤ i → zl V1 U1 kept = pos (zl V U i) → (∀ j : Nat, i ≤ j → V1 j = V j ∧ U1 j = U j) → ∃ (m' : Nat) (V' U' : Int → Int), zl V' U' m' = pos (zl V U m) ∧ m' ≤ m ∧ ∀ h, Rn 61 4 [.ref 24, .int (ii (kept : Int)), .int (ii (i : Int))] [] (wd [(24, oS24 (rn : Int) (m : Int) st dr), (26, ar 24 V1), (27, ar 24 U1)] h) (.inl (some (.int (ii ((m : Int) - m')))), wd [(24, oS24 (rn : Int) (m' : Int) st dr), (26, ar 24 V'), (27, ar 24 U')] h) := by
    intro k
    induction k with
    | zero =>
      intro i kept V1 U1 hi hk hz hr
      obtain rfl : i = m := by omega
      refine ⟨kept, V1, U1, hz, hk, fun h => ?_⟩
      refine E_iload pf_61_4 rfl ?_
      refine E_aload pf_61_5 rfl ?_
      refine F_getf pf_61_6 rfl rfl rfl ?_
      refine E_icmp_ge_t pf_61_9 (by omega) ?_
      refine E_aload pf_61_54 rfl ?_
      refine F_getf pf_61_55 rfl rfl rfl ?_
      refine E_iload pf_61_58 rfl ?_
      refine E_isub pf_61_59 ?_
      refine E_istore (lv' := [_, _, _]) pf_61_60 rfl rfl ?_
      refine E_aload pf_61_61 rfl ?_
      refine E_iload pf_61_62 rfl ?_
      refine F_putf (l' := [(_, _), (_, _), (_, _)]) (x := ob _ [_, _, _, _, _, _, _]) pf_61_63 rfl rfl rfl rfl rfl ?_
      refine E_iload pf_61_66 rfl ?_
      exact E_iret pf_61_67 rfl
    | succ k ih =>
      intro i kept V1 U1 hi hk hz hr
      have hb := hU i (by omega)
      have hri := hr i (Nat.le_refl _)
      by_cases e : 0 < U i
      · obtain ⟨m', V', U', h1, h2, h3⟩ := ih (i + 1) (kept + 1) (zu V1 kept (V1 i)) (zu U1 kept (U1 i)) (by omega) (by omega) (by rw [zl_push, hz, pos_s e, hri.1, hri.2]) (fun j hj => ⟨by rw [zu_n _ _ (by omega)]; exact (hr j (by omega)).1, by rw [zu_n _ _ (by omega)]; exact (hr j (by omega)).2⟩)
        refine ⟨m', V', U', h1, h2, fun h => ?_⟩
        have h3 := h3 h
        refine E_iload pf_61_4 rfl ?_
        refine E_aload pf_61_5 rfl ?_
        refine F_getf pf_61_6 rfl rfl rfl ?_
        refine E_icmp_ge_f pf_61_9 (by omega) ?_
        refine E_aload pf_61_12 rfl ?_
        refine F_getf pf_61_13 rfl rfl rfl ?_
        refine E_iload pf_61_16 rfl ?_
        refine F_iald pf_61_17 rfl (by omega) ?_
        refine E_if_le_f pf_61_18 (by omega) ?_
        refine E_aload pf_61_21 rfl ?_
        refine F_getf pf_61_22 rfl rfl rfl ?_
        refine E_iload pf_61_25 rfl ?_
        refine E_aload pf_61_26 rfl ?_
        refine F_getf pf_61_27 rfl rfl rfl ?_
        refine E_iload pf_61_30 rfl ?_
        refine F_iald pf_61_31 rfl (by omega) ?_
        refine F_iast (l' := [(_, _), (_, _), (_, _)]) pf_61_32 rfl (by omega) rfl ?_
        refine E_aload pf_61_33 rfl ?_
        refine F_getf pf_61_34 rfl rfl rfl ?_
        refine E_iload pf_61_37 rfl ?_
        refine E_aload pf_61_38 rfl ?_
        refine F_getf pf_61_39 rfl rfl rfl ?_
        refine E_iload pf_61_42 rfl ?_
        refine F_iald pf_61_43 rfl (by omega) ?_
        refine F_iast (l' := [(_, _), (_, _), (_, _)]) pf_61_44 rfl (by omega) rfl ?_
        refine E_iinc (lv' := [_, _, _]) pf_61_45 rfl rfl ?_
        refine E_iinc (lv' := [_, _, _]) pf_61_48 rfl rfl ?_
        refine E_goto pf_61_51 ?_
        exact h3
      · obtain ⟨m', V', U', h1, h2, h3⟩ := ih (i + 1) kept V1 U1 (by omega) (by omega) (by rw [hz, pos_n e]) (fun j hj => hr j (by omega))
        refine ⟨m', V', U', h1, h2, fun h => ?_⟩
        have h3 := h3 h
        refine E_iload pf_61_4 rfl ?_
        refine E_aload pf_61_5 rfl ?_
        refine F_getf pf_61_6 rfl rfl rfl ?_
        refine E_icmp_ge_f pf_61_9 (by omega) ?_
        refine E_aload pf_61_12 rfl ?_
        refine F_getf pf_61_13 rfl rfl rfl ?_
        refine E_iload pf_61_16 rfl ?_
        refine F_iald pf_61_17 rfl (by omega) ?_
        refine E_if_le_t pf_61_18 (by omega) ?_
        refine E_iinc (lv' := [_, _, _]) pf_61_48 rfl rfl ?_
        refine E_goto pf_61_51 ?_
        exact h3
  obtain ⟨m', V', U', h1, h2, h3⟩ := loop m 0 0 V U (by omega) (by omega) rfl (fun j _ => ⟨rfl, rfl⟩)
  refine ⟨m', V', U', h1, h2, fun h => ?_⟩
  refine E_in (lv := [_, _, _]) rfl ?_
  refine E_iconst pf_61_0 ?_
  refine E_istore (lv' := [_, _, _]) pf_61_1 rfl rfl ?_
  refine E_iconst pf_61_2 ?_
  refine E_istore (lv' := [_, _, _]) pf_61_3 rfl rfl ?_
  exact h3 h
theorem c58t {v : Int} : ∀ h, Ca 58 [.ref 28, .int (ii v)] (wd [(28, oS28 (rn : Int) (m : Int) st dr), (30, ar 24 V), (31, ar 24 U)] h) (.inl none, wd [(28, oS28 (rn : Int) 1 0 0), (30, ar 24 (zu V 0 v)), (31, ar 24 (zu U 0 100))] h) := by
  intro h
  refine E_in (lv := [_, _]) rfl ?_
  refine E_aload pf_58_0 rfl ?_
  refine E_iconst pf_58_1 ?_
  refine F_putf (l' := [(_, _), (_, _), (_, _)]) (x := ob _ [_, _, _, _, _, _, _]) pf_58_2 rfl rfl rfl rfl rfl ?_
  refine E_aload pf_58_5 rfl ?_
  refine F_getf pf_58_6 rfl rfl rfl ?_
  refine E_iconst pf_58_9 ?_
  refine E_iload pf_58_10 rfl ?_
  refine F_iast (l' := [(_, _), (_, _), (_, _)]) pf_58_11 rfl (by omega) rfl ?_
  refine E_aload pf_58_12 rfl ?_
  refine F_getf pf_58_13 rfl rfl rfl ?_
  refine E_iconst pf_58_16 ?_
  refine E_iconst pf_58_17 ?_
  refine F_iast (l' := [(_, _), (_, _), (_, _)]) pf_58_19 rfl (by omega) rfl ?_
  refine E_aload pf_58_20 rfl ?_
  refine E_iconst pf_58_21 ?_
  refine F_putf (l' := [(_, _), (_, _), (_, _)]) (x := ob _ [_, _, _, _, _, _, _]) pf_58_22 rfl rfl rfl rfl rfl ?_
  refine E_aload pf_58_25 rfl ?_
  refine E_iconst pf_58_26 ?_
  refine F_putf (l' := [(_, _), (_, _), (_, _)]) (x := ob _ [_, _, _, _, _, _, _]) pf_58_27 rfl rfl rfl rfl rfl ?_
  exact E_vret pf_58_30 rfl
theorem c59t {v n : Int} (hm : m ≤ 24) (hV : ∀ i : Nat, i < m → 0 ≤ V i ∧ V i < 24) (hv : 0 ≤ v ∧ v < 24) (hn : 0 ≤ n ∧ n ≤ 100) (hc : m < 24 ∨ ∃ i : Nat, i < m ∧ V i = v) : ∃ (m' : Nat) (V' U' : Int → Int), zl V' U' m' = gv (zl V U m) v n ∧ ∀ h, Ca 59 [.ref 28, .int (ii v), .int (ii n)] (wd [(28, oS28 (rn : Int) (m : Int) st dr), (30, ar 24 V), (31, ar 24 U)] h) (.inl none, wd [(28, oS28 (rn : Int) (m' : Int) st dr), (30, ar 24 V'), (31, ar 24 U')] h) := by
  by_cases h0 : n ≤ 0
  · refine ⟨m, V, U, by unfold gv; rw [if_pos h0], fun h => ?_⟩
    refine E_in (lv := [_, _, _, _]) rfl ?_
    refine E_iload pf_59_0 rfl ?_
    refine E_iconst pf_59_1 ?_
    refine E_icmp_ge_f pf_59_2 (by omega) ?_
    exact E_vret pf_59_5 rfl
  have hg : gv (zl V U m) v n = gvl (zl V U m) v n := by unfold gv; rw [if_neg h0]
  have loop : ∀ (k i : Nat), i + k = m → (∀ j : Nat, j < i → V j ≠ v) → ∃ (m' : Nat) (V' U' : Int → Int), zl V' U' m' = gv (zl V U m) v n ∧ ∀ h, Rn 59 8 [.ref 28, .int (ii v), .int (ii n), .int (ii (i : Int))] [] (wd [(28, oS28 (rn : Int) (m : Int) st dr), (30, ar 24 V), (31, ar 24 U)] h) (.inl none, wd [(28, oS28 (rn : Int) (m' : Int) st dr), (30, ar 24 V'), (31, ar 24 U')] h) := by
    intro k
    induction k with
    | zero =>
      intro i hi hno
      obtain rfl : i = m := by omega
      have hc : i < 24 := by
        rcases hc with q | ⟨j, q1, q2⟩
        · exact q
        · exact absurd q2 (hno j q1)
      refine ⟨i + 1, zu V i v, zu U i n, ?_, fun h => ?_⟩
      · rw [hg, zl_push, gvl_new]
        intro q hq
        obtain ⟨j, h1, rfl⟩ := zl_mem.mp hq
        exact hno j h1
      refine E_iload pf_59_8 rfl ?_
      refine E_aload pf_59_9 rfl ?_
      refine F_getf pf_59_10 rfl rfl rfl ?_
      refine E_icmp_ge_t pf_59_13 (by omega) ?_
      refine E_aload pf_59_43 rfl ?_
      refine F_getf pf_59_44 rfl rfl rfl ?_
      refine E_iconst pf_59_47 ?_
      refine E_icmp_ge_f pf_59_49 (by omega) ?_
      refine E_aload pf_59_52 rfl ?_
      refine F_getf pf_59_53 rfl rfl rfl ?_
      refine E_aload pf_59_56 rfl ?_
      refine F_getf pf_59_57 rfl rfl rfl ?_
      refine E_iload pf_59_60 rfl ?_
      refine F_iast (l' := [(_, _), (_, _), (_, _)]) pf_59_61 rfl (by omega) rfl ?_
      refine E_aload pf_59_62 rfl ?_
      refine F_getf pf_59_63 rfl rfl rfl ?_
      refine E_aload pf_59_66 rfl ?_
      refine F_getf pf_59_67 rfl rfl rfl ?_
      refine E_iload pf_59_70 rfl ?_
      refine F_iast (l' := [(_, _), (_, _), (_, _)]) pf_59_71 rfl (by omega) rfl ?_
      refine E_aload pf_59_72 rfl ?_
      refine E_dup pf_59_73 rfl ?_
      refine F_getf pf_59_74 rfl rfl rfl ?_
      refine E_iconst pf_59_77 ?_
      refine E_iadd pf_59_78 ?_
      refine F_putf (l' := [(_, _), (_, _), (_, _)]) (x := ob _ [_, _, _, _, _, _, _]) pf_59_79 rfl rfl rfl rfl rfl ?_
      exact E_vret pf_59_82 rfl
    | succ k ih =>
      intro i hi hno
      have hb := hV i (by omega)
      by_cases e : V i = v
      · refine ⟨m, V, zu U i (U i + n), ?_, fun h => ?_⟩
        · rw [hg, zl_set, gvl_set (i := i) (u := U i) (fun j q hj hq => ?_) (by rw [zl_get (by omega), e]), e]
          rw [zl_get (by omega)] at hq
          cases hq
          exact hno j hj
        refine E_iload pf_59_8 rfl ?_
        refine E_aload pf_59_9 rfl ?_
        refine F_getf pf_59_10 rfl rfl rfl ?_
        refine E_icmp_ge_f pf_59_13 (by omega) ?_
        refine E_aload pf_59_16 rfl ?_
        refine F_getf pf_59_17 rfl rfl rfl ?_
        refine E_iload pf_59_20 rfl ?_
        refine F_iald pf_59_21 rfl (by omega) ?_
        refine E_iload pf_59_22 rfl ?_
        refine E_icmp_ne_f pf_59_23 (by omega) ?_
        refine E_aload pf_59_26 rfl ?_
        refine F_getf pf_59_27 rfl rfl rfl ?_
        refine E_iload pf_59_30 rfl ?_
        refine E_dup2 pf_59_31 rfl rfl ?_
        refine F_iald pf_59_32 rfl (by omega) ?_
        refine E_iload pf_59_33 rfl ?_
        refine E_iadd pf_59_34 ?_
        refine F_iast (l' := [(_, _), (_, _), (_, _)]) pf_59_35 rfl (by omega) rfl ?_
        exact E_vret pf_59_36 rfl
      · obtain ⟨m', V', U', h1, h2⟩ := ih (i + 1) (by omega) (fun j hj => if q : j = i then by rw [q]; exact e else hno j (by omega))
        refine ⟨m', V', U', h1, fun h => ?_⟩
        have h2 := h2 h
        refine E_iload pf_59_8 rfl ?_
        refine E_aload pf_59_9 rfl ?_
        refine F_getf pf_59_10 rfl rfl rfl ?_
        refine E_icmp_ge_f pf_59_13 (by omega) ?_
        refine E_aload pf_59_16 rfl ?_
        refine F_getf pf_59_17 rfl rfl rfl ?_
        refine E_iload pf_59_20 rfl ?_
        refine F_iald pf_59_21 rfl (by omega) ?_
        refine E_iload pf_59_22 rfl ?_
        refine E_icmp_ne_t pf_59_23 (by omega) ?_
        refine E_iinc (lv' := [_, _, _, _]) pf_59_37 rfl rfl ?_
        refine E_goto pf_59_40 ?_
        exact h2
  obtain ⟨m', V', U', h1, h2⟩ := loop m 0 (by omega) (fun j hj => by omega)
  refine ⟨m', V', U', h1, fun h => ?_⟩
  refine E_in (lv := [_, _, _, _]) rfl ?_
  refine E_iload pf_59_0 rfl ?_
  refine E_iconst pf_59_1 ?_
  refine E_icmp_ge_t pf_59_2 (by omega) ?_
  refine E_iconst pf_59_6 ?_
  refine E_istore (lv' := [_, _, _, _]) pf_59_7 rfl rfl ?_
  exact h2 h
theorem c61t (hm : m ≤ 24) (hU : ∀ i : Nat, i < m → 0 ≤ U i ∧ U i ≤ 1000) : ∃ (m' : Nat) (V' U' : Int → Int), zl V' U' m' = pos (zl V U m) ∧ m' ≤ m ∧ ∀ h, Ca 61 [.ref 28] (wd [(28, oS28 (rn : Int) (m : Int) st dr), (30, ar 24 V), (31, ar 24 U)] h) (.inl (some (.int (ii ((m : Int) - m')))), wd [(28, oS28 (rn : Int) (m' : Int) st dr), (30, ar 24 V'), (31, ar 24 U')] h) := by
  have loop : ∀ (k i kept : Nat) (V1 U1 : Int → Int), i + k = m → kept ≤ i → zl V1 U1 kept = pos (zl V U i) → (∀ j : Nat, i ≤ j → V1 j = V j ∧ U1 j = U j) → ∃ (m' : Nat) (V' U' : Int → Int), zl V' U' m' = pos (zl V U m) ∧ m' ≤ m ∧ ∀ h, Rn 61 4 [.ref 28, .int (ii (kept : Int)), .int (ii (i : Int))] [] (wd [(28, oS28 (rn : Int) (m : Int) st dr), (30, ar 24 V1), (31, ar 24 U1)] h) (.inl (some (.int (ii ((m : Int) - m')))), wd [(28, oS28 (rn : Int) (m' : Int) st dr), (30, ar 24 V'), (31, ar 24 U')] h) := by
    intro k
    induction k with
    | zero =>
      intro i kept V1 U1 hi hk hz hr
      obtain rfl : i = m := by omega
      refine ⟨kept, V1, U1, hz, hk, fun h => ?_⟩
      refine E_iload pf_61_4 rfl ?_
      refine E_aload pf_61_5 rfl ?_
      refine F_getf pf_61_6 rfl rfl rfl ?_
      refine E_icmp_ge_t pf_61_9 (by omega) ?_
      refine E_aload pf_61_54 rfl ?_
      refine F_getf pf_61_55 rfl rfl rfl ?_
      refine E_iload pf_61_58 rfl ?_
      refine E_isub pf_61_59 ?_
      refine E_istore (lv' := [_, _, _]) pf_61_60 rfl rfl ?_
      refine E_aload pf_61_61 rfl ?_
      refine E_iload pf_61_62 rfl ?_
      refine F_putf (l' := [(_, _), (_, _), (_, _)]) (x := ob _ [_, _, _, _, _, _, _]) pf_61_63 rfl rfl rfl rfl rfl ?_
      refine E_iload pf_61_66 rfl ?_
      exact E_iret pf_61_67 rfl
    | succ k ih =>
      intro i kept V1 U1 hi hk hz hr
      have hb := hU i (by omega)
      have hri := hr i (Nat.le_refl _)
      by_cases e : 0 < U i
      · obtain ⟨m', V', U', h1, h2, h3⟩ := ih (i + 1) (kept + 1) (zu V1 kept (V1 i)) (zu U1 kept (U1 i)) (by omega) (by omega) (by rw [zl_push, hz, pos_s e, hri.1, hri.2]) (fun j hj => ⟨by rw [zu_n _ _ (by omega)]; exact (hr j (by omega)).1, by rw [zu_n _ _ (by omega)]; exact (hr j (by omega)).2⟩)
        refine ⟨m', V', U', h1, h2, fun h => ?_⟩
        have h3 := h3 h
        refine E_iload pf_61_4 rfl ?_
        refine E_aload pf_61_5 rfl ?_
        refine F_getf pf_61_6 rfl rfl rfl ?_
        refine E_icmp_ge_f pf_61_9 (by omega) ?_
        refine E_aload pf_61_12 rfl ?_
        refine F_getf pf_61_13 rfl rfl rfl ?_
        refine E_iload pf_61_16 rfl ?_
        refine F_iald pf_61_17 rfl (by omega) ?_
        refine E_if_le_f pf_61_18 (by omega) ?_
        refine E_aload pf_61_21 rfl ?_
        refine F_getf pf_61_22 rfl rfl rfl ?_
        refine E_iload pf_61_25 rfl ?_
        refine E_aload pf_61_26 rfl ?_
        refine F_getf pf_61_27 rfl rfl rfl ?_
        refine E_iload pf_61_30 rfl ?_
        refine F_iald pf_61_31 rfl (by omega) ?_
        refine F_iast (l' := [(_, _), (_, _), (_, _)]) pf_61_32 rfl (by omega) rfl ?_
        refine E_aload pf_61_33 rfl ?_
        refine F_getf pf_61_34 rfl rfl rfl ?_
        refine E_iload pf_61_37 rfl ?_
        refine E_aload pf_61_38 rfl ?_
        refine F_getf pf_61_39 rfl rfl rfl ?_
        refine E_iload pf_61_42 rfl ?_
        refine F_iald pf_61_43 rfl (by omega) ?_
        refine F_iast (l' := [(_, _), (_, _), (_, _)]) pf_61_44 rfl (by omega) rfl ?_
        refine E_iinc (lv' := [_, _, _]) pf_61_45 rfl rfl ?_
        refine E_iinc (lv' := [_, _, _]) pf_61_48 rfl rfl ?_
        refine E_goto pf_61_51 ?_
        exact h3
      · obtain ⟨m', V', U', h1, h2, h3⟩ := ih (i + 1) kept V1 U1 (by omega) (by omega) (by rw [hz, pos_n e]) (fun j hj => hr j (by omega))
        refine ⟨m', V', U', h1, h2, fun h => ?_⟩
        have h3 := h3 h
        refine E_iload pf_61_4 rfl ?_
        refine E_aload pf_61_5 rfl ?_
        refine F_getf pf_61_6 rfl rfl rfl ?_
        refine E_icmp_ge_f pf_61_9 (by omega) ?_
        refine E_aload pf_61_12 rfl ?_
        refine F_getf pf_61_13 rfl rfl rfl ?_
        refine E_iload pf_61_16 rfl ?_
        refine F_iald pf_61_17 rfl (by omega) ?_
        refine E_if_le_t pf_61_18 (by omega) ?_
        refine E_iinc (lv' := [_, _, _]) pf_61_48 rfl rfl ?_
        refine E_goto pf_61_51 ?_
        exact h3
  obtain ⟨m', V', U', h1, h2, h3⟩ := loop m 0 0 V U (by omega) (by omega) rfl (fun j _ => ⟨rfl, rfl⟩)
  refine ⟨m', V', U', h1, h2, fun h => ?_⟩
  refine E_in (lv := [_, _, _]) rfl ?_
  refine E_iconst pf_61_0 ?_
  refine E_istore (lv' := [_, _, _]) pf_61_1 rfl rfl ?_
  refine E_iconst pf_61_2 ?_
  refine E_istore (lv' := [_, _, _]) pf_61_3 rfl rfl ?_
  exact h3 h
theorem c126n {v : Int} : ∀ h, Ca 126 [.ref 107, .int (ii v)] (wd [(107, ar 72 r)] h) (.inl none, wd [(107, ar 72 (zu (zu (zu (zu (zu r 20 v) 44 100) 68 1) 69 0) 70 0))] h) := by
  intro h
  refine E_in (lv := [_, _]) rfl ?_
  refine E_aload pf_126_0 rfl ?_
  refine E_iconst pf_126_1 ?_
  refine E_iload pf_126_3 rfl ?_
  refine F_iast (l' := [(_, _)]) pf_126_4 rfl (by omega) rfl ?_
  refine E_aload pf_126_5 rfl ?_
  refine E_iconst pf_126_6 ?_
  refine E_iconst pf_126_8 ?_
  refine F_iast (l' := [(_, _)]) pf_126_10 rfl (by omega) rfl ?_
  refine E_aload pf_126_11 rfl ?_
  refine E_iconst pf_126_12 ?_
  refine E_iconst pf_126_14 ?_
  refine F_iast (l' := [(_, _)]) pf_126_15 rfl (by omega) rfl ?_
  refine E_aload pf_126_16 rfl ?_
  refine E_iconst pf_126_17 ?_
  refine E_iconst pf_126_19 ?_
  refine F_iast (l' := [(_, _)]) pf_126_20 rfl (by omega) rfl ?_
  refine E_aload pf_126_21 rfl ?_
  refine E_iconst pf_126_22 ?_
  refine E_iconst pf_126_24 ?_
  refine F_iast (l' := [(_, _)]) pf_126_25 rfl (by omega) rfl ?_
  exact E_vret pf_126_26 rfl
theorem c121n {v n : Int} (h68 : r 68 = m) (hm : m ≤ 24) (hV : ∀ i : Nat, i < m → 0 ≤ pV r i ∧ pV r i < 24) (hv : 0 ≤ v ∧ v < 24) (hn : 0 ≤ n ∧ n ≤ 100) (hc : m < 24 ∨ ∃ i : Nat, i < m ∧ pV r i = v) : ∃ (m' : Nat) (r' : Int → Int), zp r' m' = gv (zp r m) v n ∧ r' 68 = m' ∧ pfr r r' ∧ ∀ h, Ca 121 [.ref 107, .int (ii v), .int (ii n)] (wd [(107, ar 72 r)] h) (.inl none, wd [(107, ar 72 r')] h) := by
  by_cases h0 : n ≤ 0
  · refine ⟨m, r, by unfold gv; rw [if_pos h0], h68, pfr_rf r, fun h => ?_⟩
    refine E_in (lv := [_, _, _, _]) rfl ?_
    refine E_iload pf_121_0 rfl ?_
    refine E_if_ne_f pf_121_1 (by omega) ?_
    exact E_vret pf_121_4 rfl
  have hg : gv (zp r m) v n = gvl (zp r m) v n := by unfold gv; rw [if_neg h0]
  have loop : ∀ (k i : Nat), i + k = m → (∀ j : Nat, j < i → pV r j ≠ v) → ∃ (m' : Nat) (r' : Int → Int), zp r' m' = gv (zp r m) v n ∧ r' 68 = m' ∧ pfr r r' ∧ ∀ h, Rn 121 7 [.ref 107, .int (ii v), .int (ii n), .int (ii (i : Int))] [] (wd [(107, ar 72 r)] h) (.inl none, wd [(107, ar 72 r')] h) := by
    intro k
    induction k with
    | zero =>
      intro i hi hno
      obtain rfl : i = m := by omega
      have hc : i < 24 := by
        rcases hc with q | ⟨j, q1, q2⟩
        · exact q
        · exact absurd q2 (hno j q1)
      have e68 : zu r (20 + r 68) v 68 = i := by rw [zu_n _ _ (by omega)]; exact h68
      have e68b : zu (zu r (20 + r 68) v) (44 + zu r (20 + r 68) v 68) n 68 = i := by rw [zu_n _ _ (by omega)]; exact e68
      refine ⟨i + 1, zu (zu (zu r (20 + (i : Int)) v) (44 + (i : Int)) n) 68 ((i : Int) + 1), ?_, ?_, ?_, fun h => ?_⟩
      · have e1 : zp (zu (zu (zu r (20 + (i : Int)) v) (44 + (i : Int)) n) 68 ((i : Int) + 1)) (i + 1) = zl (zu (pV r) i v) (zu (pU r) i n) (i + 1) := by
          refine zl_congr fun j hj => ⟨?_, ?_⟩
          · show zu _ 68 _ (20 + (j : Int)) = _
            rw [zu_n _ _ (by omega), zu_n _ _ (by omega), ← pV_u]; rfl
          · show zu _ 68 _ (44 + (j : Int)) = _
            rw [zu_n _ _ (by omega)]
            show pU (zu (zu r (20 + (i : Int)) v) (44 + (i : Int)) n) j = _
            rw [pU_u]
            unfold zu
            split
            · rfl
            · exact if_neg (by omega)
        rw [e1, hg, zl_push]
        show _ = gvl (zl (pV r) (pU r) i) v n
        rw [gvl_new]
        intro q hq
        obtain ⟨j, h1, rfl⟩ := zl_mem.mp hq
        exact hno j h1
      · rw [zu_s]; rfl
      · exact pfr_tr (pfr_tr (pfr_u _ (by omega)) (pfr_u _ (by omega))) (pfr_u _ (by omega))
      refine E_iload pf_121_7 rfl ?_
      refine E_aload pf_121_8 rfl ?_
      refine E_iconst pf_121_9 ?_
      refine F_iald pf_121_11 rfl (by omega) ?_
      refine E_icmp_ge_t pf_121_12 (by omega) ?_
      refine E_aload pf_121_42 rfl ?_
      refine E_iconst pf_121_43 ?_
      refine E_aload pf_121_45 rfl ?_
      refine E_iconst pf_121_46 ?_
      refine F_iald pf_121_48 rfl (by omega) ?_
      refine E_iadd pf_121_49 ?_
      refine E_iload pf_121_50 rfl ?_
      refine F_iast (l' := [(_, _)]) pf_121_51 rfl (by omega) rfl ?_
      refine E_aload pf_121_52 rfl ?_
      refine E_iconst pf_121_53 ?_
      refine E_aload pf_121_55 rfl ?_
      refine E_iconst pf_121_56 ?_
      refine F_iald pf_121_58 rfl (by omega) ?_
      refine E_iadd pf_121_59 ?_
      refine E_iload pf_121_60 rfl ?_
      refine F_iast (l' := [(_, _)]) pf_121_61 rfl (by omega) rfl ?_
      refine E_aload pf_121_62 rfl ?_
      refine E_iconst pf_121_63 ?_
      refine E_dup2 pf_121_65 rfl rfl ?_
      refine F_iald pf_121_66 rfl (by omega) ?_
      refine E_iconst pf_121_67 ?_
      refine E_iadd pf_121_68 ?_
      refine F_iast (l' := [(_, _)]) pf_121_69 rfl (by omega) rfl ?_
      rw [e68b, e68, h68]
      exact E_vret pf_121_70 rfl
    | succ k ih =>
      intro i hi hno
      have hb := hV i (by omega)
      unfold pV at hb
      by_cases e : pV r i = v
      · refine ⟨m, zu r (44 + (i : Int)) (r (44 + (i : Int)) + n), ?_, by rw [zu_n _ _ (by omega)]; exact h68, pfr_u _ (by omega), fun h => ?_⟩
        · have e1 : zp (zu r (44 + (i : Int)) (r (44 + (i : Int)) + n)) m = zl (pV r) (zu (pU r) i (pU r i + n)) m := by
            refine zl_congr fun j hj => ⟨?_, by rw [pU_u]; rfl⟩
            show zu _ _ _ (20 + (j : Int)) = _
            rw [zu_n _ _ (by omega)]; rfl
          rw [e1, hg, zl_set]
          show _ = gvl (zl (pV r) (pU r) m) v n
          rw [gvl_set (i := i) (u := pU r i) (fun j q hj hq => ?_) (by rw [zl_get (by omega), e]), e]
          rw [zl_get (by omega)] at hq
          cases hq
          exact hno j hj
        · unfold pV at e
          refine E_iload pf_121_7 rfl ?_
          refine E_aload pf_121_8 rfl ?_
          refine E_iconst pf_121_9 ?_
          refine F_iald pf_121_11 rfl (by omega) ?_
          refine E_icmp_ge_f pf_121_12 (by omega) ?_
          refine E_aload pf_121_15 rfl ?_
          refine E_iconst pf_121_16 ?_
          refine E_iload pf_121_18 rfl ?_
          refine E_iadd pf_121_19 ?_
          refine F_iald pf_121_20 rfl (by omega) ?_
          refine E_iload pf_121_21 rfl ?_
          refine E_icmp_ne_f pf_121_22 (by omega) ?_
          refine E_aload pf_121_25 rfl ?_
          refine E_iconst pf_121_26 ?_
          refine E_iload pf_121_28 rfl ?_
          refine E_iadd pf_121_29 ?_
          refine E_dup2 pf_121_30 rfl rfl ?_
          refine F_iald pf_121_31 rfl (by omega) ?_
          refine E_iload pf_121_32 rfl ?_
          refine E_iadd pf_121_33 ?_
          refine F_iast (l' := [(_, _)]) pf_121_34 rfl (by omega) rfl ?_
          exact E_vret pf_121_35 rfl
      · obtain ⟨m', r', h1, h2, h3, h4⟩ := ih (i + 1) (by omega) (fun j hj => if q : j = i then by rw [q]; exact e else hno j (by omega))
        refine ⟨m', r', h1, h2, h3, fun h => ?_⟩
        have h4 := h4 h
        unfold pV at e
        refine E_iload pf_121_7 rfl ?_
        refine E_aload pf_121_8 rfl ?_
        refine E_iconst pf_121_9 ?_
        refine F_iald pf_121_11 rfl (by omega) ?_
        refine E_icmp_ge_f pf_121_12 (by omega) ?_
        refine E_aload pf_121_15 rfl ?_
        refine E_iconst pf_121_16 ?_
        refine E_iload pf_121_18 rfl ?_
        refine E_iadd pf_121_19 ?_
        refine F_iald pf_121_20 rfl (by omega) ?_
        refine E_iload pf_121_21 rfl ?_
        refine E_icmp_ne_t pf_121_22 (by omega) ?_
        refine E_iinc (lv' := [_, _, _, _]) pf_121_36 rfl rfl ?_
        refine E_goto pf_121_39 ?_
        exact h4
  obtain ⟨m', r', h1, h2, h3, h4⟩ := loop m 0 (by omega) (fun j hj => by omega)
  refine ⟨m', r', h1, h2, h3, fun h => ?_⟩
  refine E_in (lv := [_, _, _, _]) rfl ?_
  refine E_iload pf_121_0 rfl ?_
  refine E_if_ne_t pf_121_1 (by omega) ?_
  refine E_iconst pf_121_5 ?_
  refine E_istore (lv' := [_, _, _, _]) pf_121_6 rfl rfl ?_
  exact h4 h
theorem c122n (h68 : r 68 = m) (hm : m ≤ 24) (hU : ∀ i : Nat, i < m → 0 ≤ pU r i ∧ pU r i ≤ 1000) : ∃ (m' : Nat) (r' : Int → Int), zp r' m' = pos (zp r m) ∧ m' ≤ m ∧ r' 68 = m' ∧ pfr r r' ∧ ∀ h, Ca 122 [.ref 107] (wd [(107, ar 72 r)] h) (.inl (some (.int (ii ((m : Int) - m')))), wd [(107, ar 72 r')] h) := by
  have loop : ∀ (k i kept : Nat) (r1 : Int → Int), i + k = m → kept ≤ i → r1 68 = m → pfr r r1 → zp r1 kept = pos (zp r i) → (∀ j : Nat, i ≤ j → j < 24 → pV r1 j = pV r j ∧ pU r1 j = pU r j) → ∃ (m' : Nat) (r' : Int → Int), zp r' m' = pos (zp r m) ∧ m' ≤ m ∧ r' 68 = m' ∧ pfr r r' ∧ ∀ h, Rn 122 4 [.ref 107, .int (ii (kept : Int)), .int (ii (i : Int))] [] (wd [(107, ar 72 r1)] h) (.inl (some (.int (ii ((m : Int) - m')))), wd [(107, ar 72 r')] h) := by
    intro k
    induction k with
    | zero =>
      intro i kept r1 hi hk h68 hf hz hr
      obtain rfl : i = m := by omega
      refine ⟨kept, zu r1 68 kept, ?_, hk, zu_s _ _ _, pfr_tr hf (pfr_u _ (by omega)), fun h => ?_⟩
      · rw [← hz]
        refine zl_congr fun j hj => ⟨?_, ?_⟩
        · show zu _ 68 _ (20 + (j : Int)) = _
          rw [zu_n _ _ (by omega)]; rfl
        · show zu _ 68 _ (44 + (j : Int)) = _
          rw [zu_n _ _ (by omega)]; rfl
      refine E_iload pf_122_4 rfl ?_
      refine E_aload pf_122_5 rfl ?_
      refine E_iconst pf_122_6 ?_
      refine F_iald pf_122_8 rfl (by omega) ?_
      refine E_icmp_ge_t pf_122_9 (by omega) ?_
      refine E_aload pf_122_54 rfl ?_
      refine E_iconst pf_122_55 ?_
      refine F_iald pf_122_57 rfl (by omega) ?_
      refine E_iload pf_122_58 rfl ?_
      refine E_isub pf_122_59 ?_
      refine E_istore (lv' := [_, _, _]) pf_122_60 rfl rfl ?_
      refine E_aload pf_122_61 rfl ?_
      refine E_iconst pf_122_62 ?_
      refine E_iload pf_122_64 rfl ?_
      refine F_iast (l' := [(_, _)]) pf_122_65 rfl (by omega) rfl ?_
      refine E_iload pf_122_66 rfl ?_
      rw [h68]
      exact E_iret pf_122_67 rfl
    | succ k ih =>
      intro i kept r1 hi hk h68 hf hz hr
      have hb := hU i (by omega)
      have hri := hr i (Nat.le_refl _) (by omega)
      have hu : r1 (44 + (i : Int)) = pU r i := hri.2
      have hv : r1 (20 + (i : Int)) = pV r i := hri.1
      by_cases e : 0 < pU r i
      · have e44 : zu r1 (20 + (kept : Int)) (r1 (20 + (i : Int))) (44 + (i : Int)) = r1 (44 + (i : Int)) := zu_n _ _ (by omega)
        obtain ⟨m', r', h1, h2, h3, h4, h5⟩ := ih (i + 1) (kept + 1) (zu (zu r1 (20 + (kept : Int)) (r1 (20 + (i : Int)))) (44 + (kept : Int)) (r1 (44 + (i : Int)))) (by omega) (by omega) (by rw [zu_n _ _ (by omega), zu_n _ _ (by omega)]; exact h68) (pfr_tr hf (pfr_tr (pfr_u _ (by omega)) (pfr_u _ (by omega)))) (by
            have e1 : zp (zu (zu r1 (20 + (kept : Int)) (r1 (20 + (i : Int)))) (44 + (kept : Int)) (r1 (44 + (i : Int)))) (kept + 1) = zl (zu (pV r1) kept (r1 (20 + (i : Int)))) (zu (pU r1) kept (r1 (44 + (i : Int)))) (kept + 1) := by
              refine zl_congr fun j hj => ⟨?_, ?_⟩
              · show zu _ (44 + (kept : Int)) _ (20 + (j : Int)) = _
                rw [zu_n _ _ (by omega), ← pV_u]; rfl
              · rw [pU_u]
                unfold zu
                split
                · rfl
                · exact if_neg (by omega)
            have e2 : pos (zp r (i + 1)) = pos (zp r i) ++ [(pV r i, pU r i)] := pos_s e
            have hz' : zl (pV r1) (pU r1) kept = pos (zp r i) := hz
            rw [e1, zl_push, hz', e2, hu, hv]) (fun j hj hj2 => by
            refine ⟨?_, ?_⟩
            · show zu (zu r1 _ _) _ _ (20 + (j : Int)) = _
              rw [zu_n _ _ (by omega), zu_n _ _ (by omega)]; exact (hr j (by omega) hj2).1
            · show zu (zu r1 _ _) _ _ (44 + (j : Int)) = _
              rw [zu_n _ _ (by omega), zu_n _ _ (by omega)]; exact (hr j (by omega) hj2).2)
        refine ⟨m', r', h1, h2, h3, h4, fun h => ?_⟩
        have h5 := h5 h
        refine E_iload pf_122_4 rfl ?_
        refine E_aload pf_122_5 rfl ?_
        refine E_iconst pf_122_6 ?_
        refine F_iald pf_122_8 rfl (by omega) ?_
        refine E_icmp_ge_f pf_122_9 (by omega) ?_
        refine E_aload pf_122_12 rfl ?_
        refine E_iconst pf_122_13 ?_
        refine E_iload pf_122_15 rfl ?_
        refine E_iadd pf_122_16 ?_
        refine F_iald pf_122_17 rfl (by omega) ?_
        refine E_if_le_f pf_122_18 (by omega) ?_
        refine E_aload pf_122_21 rfl ?_
        refine E_iconst pf_122_22 ?_
        refine E_iload pf_122_24 rfl ?_
        refine E_iadd pf_122_25 ?_
        refine E_aload pf_122_26 rfl ?_
        refine E_iconst pf_122_27 ?_
        refine E_iload pf_122_29 rfl ?_
        refine E_iadd pf_122_30 ?_
        refine F_iald pf_122_31 rfl (by omega) ?_
        refine F_iast (l' := [(_, _)]) pf_122_32 rfl (by omega) rfl ?_
        refine E_aload pf_122_33 rfl ?_
        refine E_iconst pf_122_34 ?_
        refine E_iload pf_122_36 rfl ?_
        refine E_iadd pf_122_37 ?_
        refine E_aload pf_122_38 rfl ?_
        refine E_iconst pf_122_39 ?_
        refine E_iload pf_122_41 rfl ?_
        refine E_iadd pf_122_42 ?_
        refine F_iald pf_122_43 rfl (by omega) ?_
        rw [e44]
        refine F_iast (l' := [(_, _)]) pf_122_44 rfl (by omega) rfl ?_
        refine E_iinc (lv' := [_, _, _]) pf_122_45 rfl rfl ?_
        refine E_iinc (lv' := [_, _, _]) pf_122_48 rfl rfl ?_
        refine E_goto pf_122_51 ?_
        exact h5
      · obtain ⟨m', r', h1, h2, h3, h4, h5⟩ := ih (i + 1) kept r1 (by omega) (by omega) h68 hf (by rw [hz]; exact (pos_n e).symm) (fun j hj hj2 => hr j (by omega) hj2)
        refine ⟨m', r', h1, h2, h3, h4, fun h => ?_⟩
        have h5 := h5 h
        refine E_iload pf_122_4 rfl ?_
        refine E_aload pf_122_5 rfl ?_
        refine E_iconst pf_122_6 ?_
        refine F_iald pf_122_8 rfl (by omega) ?_
        refine E_icmp_ge_f pf_122_9 (by omega) ?_
        refine E_aload pf_122_12 rfl ?_
        refine E_iconst pf_122_13 ?_
        refine E_iload pf_122_15 rfl ?_
        refine E_iadd pf_122_16 ?_
        refine F_iald pf_122_17 rfl (by omega) ?_
        refine E_if_le_t pf_122_18 (by omega) ?_
        refine E_iinc (lv' := [_, _, _]) pf_122_48 rfl rfl ?_
        refine E_goto pf_122_51 ?_
        exact h5
  obtain ⟨m', r', h1, h2, h3, h4, h5⟩ := loop m 0 0 r (by omega) (by omega) h68 (pfr_rf r) rfl (fun j _ _ => ⟨rfl, rfl⟩)
  refine ⟨m', r', h1, h2, h3, h4, fun h => ?_⟩
  refine E_in (lv := [_, _, _]) rfl ?_
  refine E_iconst pf_122_0 ?_
  refine E_istore (lv' := [_, _, _]) pf_122_1 rfl rfl ?_
  refine E_iconst pf_122_2 ?_
  refine E_istore (lv' := [_, _, _]) pf_122_3 rfl rfl ?_
  exact h5 h
theorem c126t {v : Int} : ∀ h, Ca 126 [.ref 108, .int (ii v)] (wd [(108, ar 72 r)] h) (.inl none, wd [(108, ar 72 (zu (zu (zu (zu (zu r 20 v) 44 100) 68 1) 69 0) 70 0))] h) := by
  intro h
  refine E_in (lv := [_, _]) rfl ?_
  refine E_aload pf_126_0 rfl ?_
  refine E_iconst pf_126_1 ?_
  refine E_iload pf_126_3 rfl ?_
  refine F_iast (l' := [(_, _)]) pf_126_4 rfl (by omega) rfl ?_
  refine E_aload pf_126_5 rfl ?_
  refine E_iconst pf_126_6 ?_
  refine E_iconst pf_126_8 ?_
  refine F_iast (l' := [(_, _)]) pf_126_10 rfl (by omega) rfl ?_
  refine E_aload pf_126_11 rfl ?_
  refine E_iconst pf_126_12 ?_
  refine E_iconst pf_126_14 ?_
  refine F_iast (l' := [(_, _)]) pf_126_15 rfl (by omega) rfl ?_
  refine E_aload pf_126_16 rfl ?_
  refine E_iconst pf_126_17 ?_
  refine E_iconst pf_126_19 ?_
  refine F_iast (l' := [(_, _)]) pf_126_20 rfl (by omega) rfl ?_
  refine E_aload pf_126_21 rfl ?_
  refine E_iconst pf_126_22 ?_
  refine E_iconst pf_126_24 ?_
  refine F_iast (l' := [(_, _)]) pf_126_25 rfl (by omega) rfl ?_
  exact E_vret pf_126_26 rfl
theorem c121t {v n : Int} (h68 : r 68 = m) (hm : m ≤ 24) (hV : ∀ i : Nat, i < m → 0 ≤ pV r i ∧ pV r i < 24) (hv : 0 ≤ v ∧ v < 24) (hn : 0 ≤ n ∧ n ≤ 100) (hc : m < 24 ∨ ∃ i : Nat, i < m ∧ pV r i = v) : ∃ (m' : Nat) (r' : Int → Int), zp r' m' = gv (zp r m) v n ∧ r' 68 = m' ∧ pfr r r' ∧ ∀ h, Ca 121 [.ref 108, .int (ii v), .int (ii n)] (wd [(108, ar 72 r)] h) (.inl none, wd [(108, ar 72 r')] h) := by
  by_cases h0 : n ≤ 0
  · refine ⟨m, r, by unfold gv; rw [if_pos h0], h68, pfr_rf r, fun h => ?_⟩
    refine E_in (lv := [_, _, _, _]) rfl ?_
    refine E_iload pf_121_0 rfl ?_
    refine E_if_ne_f pf_121_1 (by omega) ?_
    exact E_vret pf_121_4 rfl
  have hg : gv (zp r m) v n = gvl (zp r m) v n := by unfold gv; rw [if_neg h0]
  have loop : ∀ (k i : Nat), i + k = m → (∀ j : Nat, j < i → pV r j ≠ v) → ∃ (m' : Nat) (r' : Int → Int), zp r' m' = gv (zp r m) v n ∧ r' 68 = m' ∧ pfr r r' ∧ ∀ h, Rn 121 7 [.ref 108, .int (ii v), .int (ii n), .int (ii (i : Int))] [] (wd [(108, ar 72 r)] h) (.inl none, wd [(108, ar 72 r')] h) := by
    intro k
    induction k with
    | zero =>
      intro i hi hno
      obtain rfl : i = m := by omega
      have hc : i < 24 := by
        rcases hc with q | ⟨j, q1, q2⟩
        · exact q
        · exact absurd q2 (hno j q1)
      have e68 : zu r (20 + r 68) v 68 = i := by rw [zu_n _ _ (by omega)]; exact h68
      have e68b : zu (zu r (20 + r 68) v) (44 + zu r (20 + r 68) v 68) n 68 = i := by rw [zu_n _ _ (by omega)]; exact e68
      refine ⟨i + 1, zu (zu (zu r (20 + (i : Int)) v) (44 + (i : Int)) n) 68 ((i : Int) + 1), ?_, ?_, ?_, fun h => ?_⟩
      · have e1 : zp (zu (zu (zu r (20 + (i : Int)) v) (44 + (i : Int)) n) 68 ((i : Int) + 1)) (i + 1) = zl (zu (pV r) i v) (zu (pU r) i n) (i + 1) := by
          refine zl_congr fun j hj => ⟨?_, ?_⟩
          · show zu _ 68 _ (20 + (j : Int)) = _
            rw [zu_n _ _ (by omega), zu_n _ _ (by omega), ← pV_u]; rfl
          · show zu _ 68 _ (44 + (j : Int)) = _
            rw [zu_n _ _ (by omega)]
            show pU (zu (zu r (20 + (i : Int)) v) (44 + (i : Int)) n) j = _
            rw [pU_u]
            unfold zu
            split
            · rfl
            · exact if_neg (by omega)
        rw [e1, hg, zl_push]
        show _ = gvl (zl (pV r) (pU r) i) v n
        rw [gvl_new]
        intro q hq
        obtain ⟨j, h1, rfl⟩ := zl_mem.mp hq
        exact hno j h1
      · rw [zu_s]; rfl
      · exact pfr_tr (pfr_tr (pfr_u _ (by omega)) (pfr_u _ (by omega))) (pfr_u _ (by omega))
      refine E_iload pf_121_7 rfl ?_
      refine E_aload pf_121_8 rfl ?_
      refine E_iconst pf_121_9 ?_
      refine F_iald pf_121_11 rfl (by omega) ?_
      refine E_icmp_ge_t pf_121_12 (by omega) ?_
      refine E_aload pf_121_42 rfl ?_
      refine E_iconst pf_121_43 ?_
      refine E_aload pf_121_45 rfl ?_
      refine E_iconst pf_121_46 ?_
      refine F_iald pf_121_48 rfl (by omega) ?_
      refine E_iadd pf_121_49 ?_
      refine E_iload pf_121_50 rfl ?_
      refine F_iast (l' := [(_, _)]) pf_121_51 rfl (by omega) rfl ?_
      refine E_aload pf_121_52 rfl ?_
      refine E_iconst pf_121_53 ?_
      refine E_aload pf_121_55 rfl ?_
      refine E_iconst pf_121_56 ?_
      refine F_iald pf_121_58 rfl (by omega) ?_
      refine E_iadd pf_121_59 ?_
      refine E_iload pf_121_60 rfl ?_
      refine F_iast (l' := [(_, _)]) pf_121_61 rfl (by omega) rfl ?_
      refine E_aload pf_121_62 rfl ?_
      refine E_iconst pf_121_63 ?_
      refine E_dup2 pf_121_65 rfl rfl ?_
      refine F_iald pf_121_66 rfl (by omega) ?_
      refine E_iconst pf_121_67 ?_
      refine E_iadd pf_121_68 ?_
      refine F_iast (l' := [(_, _)]) pf_121_69 rfl (by omega) rfl ?_
      rw [e68b, e68, h68]
      exact E_vret pf_121_70 rfl
    | succ k ih =>
      intro i hi hno
      have hb := hV i (by omega)
      unfold pV at hb
      by_cases e : pV r i = v
      · refine ⟨m, zu r (44 + (i : Int)) (r (44 + (i : Int)) + n), ?_, by rw [zu_n _ _ (by omega)]; exact h68, pfr_u _ (by omega), fun h => ?_⟩
        · have e1 : zp (zu r (44 + (i : Int)) (r (44 + (i : Int)) + n)) m = zl (pV r) (zu (pU r) i (pU r i + n)) m := by
            refine zl_congr fun j hj => ⟨?_, by rw [pU_u]; rfl⟩
            show zu _ _ _ (20 + (j : Int)) = _
            rw [zu_n _ _ (by omega)]; rfl
          rw [e1, hg, zl_set]
          show _ = gvl (zl (pV r) (pU r) m) v n
          rw [gvl_set (i := i) (u := pU r i) (fun j q hj hq => ?_) (by rw [zl_get (by omega), e]), e]
          rw [zl_get (by omega)] at hq
          cases hq
          exact hno j hj
        · unfold pV at e
          refine E_iload pf_121_7 rfl ?_
          refine E_aload pf_121_8 rfl ?_
          refine E_iconst pf_121_9 ?_
          refine F_iald pf_121_11 rfl (by omega) ?_
          refine E_icmp_ge_f pf_121_12 (by omega) ?_
          refine E_aload pf_121_15 rfl ?_
          refine E_iconst pf_121_16 ?_
          refine E_iload pf_121_18 rfl ?_
          refine E_iadd pf_121_19 ?_
          refine F_iald pf_121_20 rfl (by omega) ?_
          refine E_iload pf_121_21 rfl ?_
          refine E_icmp_ne_f pf_121_22 (by omega) ?_
          refine E_aload pf_121_25 rfl ?_
          refine E_iconst pf_121_26 ?_
          refine E_iload pf_121_28 rfl ?_
          refine E_iadd pf_121_29 ?_
          refine E_dup2 pf_121_30 rfl rfl ?_
          refine F_iald pf_121_31 rfl (by omega) ?_
          refine E_iload pf_121_32 rfl ?_
          refine E_iadd pf_121_33 ?_
          refine F_iast (l' := [(_, _)]) pf_121_34 rfl (by omega) rfl ?_
          exact E_vret pf_121_35 rfl
      · obtain ⟨m', r', h1, h2, h3, h4⟩ := ih (i + 1) (by omega) (fun j hj => if q : j = i then by rw [q]; exact e else hno j (by omega))
        refine ⟨m', r', h1, h2, h3, fun h => ?_⟩
        have h4 := h4 h
        unfold pV at e
        refine E_iload pf_121_7 rfl ?_
        refine E_aload pf_121_8 rfl ?_
        refine E_iconst pf_121_9 ?_
        refine F_iald pf_121_11 rfl (by omega) ?_
        refine E_icmp_ge_f pf_121_12 (by omega) ?_
        refine E_aload pf_121_15 rfl ?_
        refine E_iconst pf_121_16 ?_
        refine E_iload pf_121_18 rfl ?_
        refine E_iadd pf_121_19 ?_
        refine F_iald pf_121_20 rfl (by omega) ?_
        refine E_iload pf_121_21 rfl ?_
        refine E_icmp_ne_t pf_121_22 (by omega) ?_
        refine E_iinc (lv' := [_, _, _, _]) pf_121_36 rfl rfl ?_
        refine E_goto pf_121_39 ?_
        exact h4
  obtain ⟨m', r', h1, h2, h3, h4⟩ := loop m 0 (by omega) (fun j hj => by omega)
  refine ⟨m', r', h1, h2, h3, fun h => ?_⟩
  refine E_in (lv := [_, _, _, _]) rfl ?_
  refine E_iload pf_121_0 rfl ?_
  refine E_if_ne_t pf_121_1 (by omega) ?_
  refine E_iconst pf_121_5 ?_
  refine E_istore (lv' := [_, _, _, _]) pf_121_6 rfl rfl ?_
  exact h4 h
theorem c122t (h68 : r 68 = m) (hm : m ≤ 24) (hU : ∀ i : Nat, i < m → 0 ≤ pU r i ∧ pU r i ≤ 1000) : ∃ (m' : Nat) (r' : Int → Int), zp r' m' = pos (zp r m) ∧ m' ≤ m ∧ r' 68 = m' ∧ pfr r r' ∧ ∀ h, Ca 122 [.ref 108] (wd [(108, ar 72 r)] h) (.inl (some (.int (ii ((m : Int) - m')))), wd [(108, ar 72 r')] h) := by
  have loop : ∀ (k i kept : Nat) (r1 : Int → Int), i + k = m → kept ≤ i → r1 68 = m → pfr r r1 → zp r1 kept = pos (zp r i) → (∀ j : Nat, i ≤ j → j < 24 → pV r1 j = pV r j ∧ pU r1 j = pU r j) → ∃ (m' : Nat) (r' : Int → Int), zp r' m' = pos (zp r m) ∧ m' ≤ m ∧ r' 68 = m' ∧ pfr r r' ∧ ∀ h, Rn 122 4 [.ref 108, .int (ii (kept : Int)), .int (ii (i : Int))] [] (wd [(108, ar 72 r1)] h) (.inl (some (.int (ii ((m : Int) - m')))), wd [(108, ar 72 r')] h) := by
    intro k
    induction k with
    | zero =>
      intro i kept r1 hi hk h68 hf hz hr
      obtain rfl : i = m := by omega
      refine ⟨kept, zu r1 68 kept, ?_, hk, zu_s _ _ _, pfr_tr hf (pfr_u _ (by omega)), fun h => ?_⟩
      · rw [← hz]
        refine zl_congr fun j hj => ⟨?_, ?_⟩
        · show zu _ 68 _ (20 + (j : Int)) = _
          rw [zu_n _ _ (by omega)]; rfl
        · show zu _ 68 _ (44 + (j : Int)) = _
          rw [zu_n _ _ (by omega)]; rfl
      refine E_iload pf_122_4 rfl ?_
      refine E_aload pf_122_5 rfl ?_
      refine E_iconst pf_122_6 ?_
      refine F_iald pf_122_8 rfl (by omega) ?_
      refine E_icmp_ge_t pf_122_9 (by omega) ?_
      refine E_aload pf_122_54 rfl ?_
      refine E_iconst pf_122_55 ?_
      refine F_iald pf_122_57 rfl (by omega) ?_
      refine E_iload pf_122_58 rfl ?_
      refine E_isub pf_122_59 ?_
      refine E_istore (lv' := [_, _, _]) pf_122_60 rfl rfl ?_
      refine E_aload pf_122_61 rfl ?_
      refine E_iconst pf_122_62 ?_
      refine E_iload pf_122_64 rfl ?_
      refine F_iast (l' := [(_, _)]) pf_122_65 rfl (by omega) rfl ?_
      refine E_iload pf_122_66 rfl ?_
      rw [h68]
      exact E_iret pf_122_67 rfl
    | succ k ih =>
      intro i kept r1 hi hk h68 hf hz hr
      have hb := hU i (by omega)
      have hri := hr i (Nat.le_refl _) (by omega)
      have hu : r1 (44 + (i : Int)) = pU r i := hri.2
      have hv : r1 (20 + (i : Int)) = pV r i := hri.1
      by_cases e : 0 < pU r i
      · have e44 : zu r1 (20 + (kept : Int)) (r1 (20 + (i : Int))) (44 + (i : Int)) = r1 (44 + (i : Int)) := zu_n _ _ (by omega)
        obtain ⟨m', r', h1, h2, h3, h4, h5⟩ := ih (i + 1) (kept + 1) (zu (zu r1 (20 + (kept : Int)) (r1 (20 + (i : Int)))) (44 + (kept : Int)) (r1 (44 + (i : Int)))) (by omega) (by omega) (by rw [zu_n _ _ (by omega), zu_n _ _ (by omega)]; exact h68) (pfr_tr hf (pfr_tr (pfr_u _ (by omega)) (pfr_u _ (by omega)))) (by
            have e1 : zp (zu (zu r1 (20 + (kept : Int)) (r1 (20 + (i : Int)))) (44 + (kept : Int)) (r1 (44 + (i : Int)))) (kept + 1) = zl (zu (pV r1) kept (r1 (20 + (i : Int)))) (zu (pU r1) kept (r1 (44 + (i : Int)))) (kept + 1) := by
              refine zl_congr fun j hj => ⟨?_, ?_⟩
              · show zu _ (44 + (kept : Int)) _ (20 + (j : Int)) = _
                rw [zu_n _ _ (by omega), ← pV_u]; rfl
              · rw [pU_u]
                unfold zu
                split
                · rfl
                · exact if_neg (by omega)
            have e2 : pos (zp r (i + 1)) = pos (zp r i) ++ [(pV r i, pU r i)] := pos_s e
            have hz' : zl (pV r1) (pU r1) kept = pos (zp r i) := hz
            rw [e1, zl_push, hz', e2, hu, hv]) (fun j hj hj2 => by
            refine ⟨?_, ?_⟩
            · show zu (zu r1 _ _) _ _ (20 + (j : Int)) = _
              rw [zu_n _ _ (by omega), zu_n _ _ (by omega)]; exact (hr j (by omega) hj2).1
            · show zu (zu r1 _ _) _ _ (44 + (j : Int)) = _
              rw [zu_n _ _ (by omega), zu_n _ _ (by omega)]; exact (hr j (by omega) hj2).2)
        refine ⟨m', r', h1, h2, h3, h4, fun h => ?_⟩
        have h5 := h5 h
        refine E_iload pf_122_4 rfl ?_
        refine E_aload pf_122_5 rfl ?_
        refine E_iconst pf_122_6 ?_
        refine F_iald pf_122_8 rfl (by omega) ?_
        refine E_icmp_ge_f pf_122_9 (by omega) ?_
        refine E_aload pf_122_12 rfl ?_
        refine E_iconst pf_122_13 ?_
        refine E_iload pf_122_15 rfl ?_
        refine E_iadd pf_122_16 ?_
        refine F_iald pf_122_17 rfl (by omega) ?_
        refine E_if_le_f pf_122_18 (by omega) ?_
        refine E_aload pf_122_21 rfl ?_
        refine E_iconst pf_122_22 ?_
        refine E_iload pf_122_24 rfl ?_
        refine E_iadd pf_122_25 ?_
        refine E_aload pf_122_26 rfl ?_
        refine E_iconst pf_122_27 ?_
        refine E_iload pf_122_29 rfl ?_
        refine E_iadd pf_122_30 ?_
        refine F_iald pf_122_31 rfl (by omega) ?_
        refine F_iast (l' := [(_, _)]) pf_122_32 rfl (by omega) rfl ?_
        refine E_aload pf_122_33 rfl ?_
        refine E_iconst pf_122_34 ?_
        refine E_iload pf_122_36 rfl ?_
        refine E_iadd pf_122_37 ?_
        refine E_aload pf_122_38 rfl ?_
        refine E_iconst pf_122_39 ?_
        refine E_iload pf_122_41 rfl ?_
        refine E_iadd pf_122_42 ?_
        refine F_iald pf_122_43 rfl (by omega) ?_
        rw [e44]
        refine F_iast (l' := [(_, _)]) pf_122_44 rfl (by omega) rfl ?_
        refine E_iinc (lv' := [_, _, _]) pf_122_45 rfl rfl ?_
        refine E_iinc (lv' := [_, _, _]) pf_122_48 rfl rfl ?_
        refine E_goto pf_122_51 ?_
        exact h5
      · obtain ⟨m', r', h1, h2, h3, h4, h5⟩ := ih (i + 1) kept r1 (by omega) (by omega) h68 hf (by rw [hz]; exact (pos_n e).symm) (fun j hj hj2 => hr j (by omega) hj2)
        refine ⟨m', r', h1, h2, h3, h4, fun h => ?_⟩
        have h5 := h5 h
        refine E_iload pf_122_4 rfl ?_
        refine E_aload pf_122_5 rfl ?_
        refine E_iconst pf_122_6 ?_
        refine F_iald pf_122_8 rfl (by omega) ?_
        refine E_icmp_ge_f pf_122_9 (by omega) ?_
        refine E_aload pf_122_12 rfl ?_
        refine E_iconst pf_122_13 ?_
        refine E_iload pf_122_15 rfl ?_
        refine E_iadd pf_122_16 ?_
        refine F_iald pf_122_17 rfl (by omega) ?_
        refine E_if_le_t pf_122_18 (by omega) ?_
        refine E_iinc (lv' := [_, _, _]) pf_122_48 rfl rfl ?_
        refine E_goto pf_122_51 ?_
        exact h5
  obtain ⟨m', r', h1, h2, h3, h4, h5⟩ := loop m 0 0 r (by omega) (by omega) h68 (pfr_rf r) rfl (fun j _ _ => ⟨rfl, rfl⟩)
  refine ⟨m', r', h1, h2, h3, h4, fun h => ?_⟩
  refine E_in (lv := [_, _, _]) rfl ?_
  refine E_iconst pf_122_0 ?_
  refine E_istore (lv' := [_, _, _]) pf_122_1 rfl rfl ?_
  refine E_iconst pf_122_2 ?_
  refine E_istore (lv' := [_, _, _]) pf_122_3 rfl rfl ?_
  exact h5 h
end MIX
