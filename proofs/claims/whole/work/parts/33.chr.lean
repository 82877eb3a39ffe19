/-! Signs and digits, on both sides. -/
abbrev oR (len p : Int) : pd_E := ob 3 [.ref 2, .int (ii len), .int (ii p), .ref 4, .ref 5, .ref 9]
def sgn (T : Int → Int) (tl p c : Int) : Int := zb (p < tl ∧ T p = c)
def dg (T : Int → Int) (tl lo hi p : Int) : Int := if p < tl ∧ lo ≤ T p - 48 ∧ T p - 48 ≤ hi then T p - 48 else -9
def nxp (p v : Int) : Int := if v = -9 then p else p + 1
def kdf (T : Int → Int) (tl p : Int) : Int := if p < tl then (if T p = 115 then 0 else if T p = 98 then 1 else if T p = 99 then 2 else if T p = 112 then 3 else if T p = 108 then 4 else -9) else -9
/-- how many of the next n characters are good digits, up to the first that is not -/
def gd (T : Int → Int) (tl lo : Int) : Nat → Int → Nat
  | 0, _ => 0
  | n + 1, p => if dg T tl lo 9 p = -9 then 0 else 1 + gd T tl lo n (p + 1)
theorem gd_all {T : Int → Int} {tl lo : Int} : ∀ (n : Nat) (p : Int), (∀ i : Nat, i < n → dg T tl lo 9 (p + i) ≠ -9) → gd T tl lo n p = n
  | 0, _, _ => rfl
  | n + 1, p, h => by
    have h0 := h 0 (by omega)
    rw [show p + ((0 : Nat) : Int) = p by omega] at h0
    simp only [gd, if_neg h0]
    rw [gd_all n (p + 1) fun i hi => by
      have := h (i + 1) (by omega)
      rwa [show p + ((i + 1 : Nat) : Int) = p + 1 + i by omega] at this]
    omega
theorem gd_at {T : Int → Int} {tl lo : Int} : ∀ (n : Nat) (p : Int) (j : Nat), j < n → (∀ i : Nat, i < j → dg T tl lo 9 (p + i) ≠ -9) → dg T tl lo 9 (p + j) = -9 → gd T tl lo n p = j
  | 0, _, _, hj, _, _ => by omega
  | n + 1, p, 0, _, _, hb => by
    rw [show p + ((0 : Nat) : Int) = p by omega] at hb
    simp only [gd, if_pos hb]
  | n + 1, p, j + 1, hj, h, hb => by
    have h0 := h 0 (by omega)
    rw [show p + ((0 : Nat) : Int) = p by omega] at h0
    simp only [gd, if_neg h0]
    rw [gd_at n (p + 1) j (by omega) (fun i hi => by
      have := h (i + 1) (by omega)
      rwa [show p + ((i + 1 : Nat) : Int) = p + 1 + i by omega] at this) (by rwa [show p + ((j + 1 : Nat) : Int) = p + 1 + j by omega] at hb)]
    omega
theorem gd_le {T : Int → Int} {tl lo : Int} : ∀ (n : Nat) (p : Int), gd T tl lo n p ≤ n
  | 0, _ => Nat.le_refl _
  | n + 1, p => by
    have := gd_le (T := T) (tl := tl) (lo := lo) n (p + 1)
    simp only [gd]; split <;> omega
theorem gd_good {T : Int → Int} {tl lo : Int} : ∀ (n : Nat) (p : Int) (i : Nat), i < gd T tl lo n p → dg T tl lo 9 (p + i) ≠ -9
  | 0, _, _, h => by simp only [gd] at h; omega
  | n + 1, p, i, h => by
    simp only [gd] at h
    by_cases e : dg T tl lo 9 p = -9
    · rw [if_pos e] at h; omega
    · rw [if_neg e] at h
      cases i with
      | zero => rwa [show p + ((0 : Nat) : Int) = p by omega]
      | succ i =>
        have := gd_good (T := T) (tl := tl) (lo := lo) n (p + 1) i (by omega)
        rwa [show p + ((i + 1 : Nat) : Int) = p + 1 + i by omega]
theorem dg_val {T : Int → Int} {tl lo hi p : Int} (h : dg T tl lo hi p ≠ -9) : dg T tl lo hi p = T p - 48 ∧ p < tl ∧ lo ≤ T p - 48 ∧ T p - 48 ≤ hi := by
  unfold dg at h ⊢
  by_cases e : p < tl ∧ lo ≤ T p - 48 ∧ T p - 48 ≤ hi
  · rw [if_pos e]; exact ⟨rfl, e⟩
  · rw [if_neg e] at h; exact absurd rfl h
theorem gd_end {T : Int → Int} {tl lo : Int} {n : Nat} {p : Int} (hp : p ≤ tl) : p + gd T tl lo n p ≤ tl := by
  rcases Nat.eq_zero_or_pos (gd T tl lo n p) with e | e
  · rw [e]; omega
  · have := (dg_val (gd_good (T := T) (tl := tl) (lo := lo) n p (gd T tl lo n p - 1) (by omega))).2.1
    omega
section CHR
variable {T q : Int → Int} {tl p : Int}
theorem c42 {c : Int} (hT : ∀ i, 0 ≤ T i ∧ T i ≤ 255) (ht : tl ≤ 90) (hp : 0 ≤ p ∧ p ≤ tl) (hc : 0 ≤ c ∧ c ≤ 255) : ∀ h, Ca 42 [.ref 3, .int (ii c)] (wd [(2, ar 90 T), (3, oR tl p)] h) (.inl (some (.int (ii (sgn T tl p c)))), wd [(2, ar 90 T), (3, oR tl (p + sgn T tl p c))] h) := by
  intro h
  refine E_in (lv := [_, _]) rfl ?_
  have hTp := hT p
  unfold sgn
  by_cases e1 : p < tl
  · by_cases e2 : T p = c
    · have hz : zb (p < tl ∧ T p = c) = 1 := if_pos ⟨e1, e2⟩
      rw [hz]
      refine E_aload pf_42_0 rfl ?_
      refine F_getf pf_42_1 rfl rfl rfl ?_
      refine E_aload pf_42_4 rfl ?_
      refine F_getf pf_42_5 rfl rfl rfl ?_
      refine E_icmp_ge_f pf_42_8 (by omega) ?_
      refine E_aload pf_42_11 rfl ?_
      refine F_getf pf_42_12 rfl rfl rfl ?_
      refine E_aload pf_42_15 rfl ?_
      refine F_getf pf_42_16 rfl rfl rfl ?_
      refine F_iald pf_42_19 rfl (by omega) ?_
      refine E_iload pf_42_20 rfl ?_
      refine E_icmp_eq_t pf_42_21 (by omega) ?_
      refine E_aload pf_42_26 rfl ?_
      refine E_dup pf_42_27 rfl ?_
      refine F_getf pf_42_28 rfl rfl rfl ?_
      refine E_iconst pf_42_31 ?_
      refine E_iadd pf_42_32 ?_
      refine F_putf (l' := [(_, _), (_, _)]) (x := ob _ [_, _, _, _, _, _]) pf_42_33 rfl rfl rfl rfl rfl ?_
      refine E_iconst pf_42_36 ?_
      exact E_iret pf_42_37 rfl
    · have hz : zb (p < tl ∧ T p = c) = 0 := if_neg (fun q => e2 q.2)
      rw [hz, Int.add_zero]
      refine E_aload pf_42_0 rfl ?_
      refine F_getf pf_42_1 rfl rfl rfl ?_
      refine E_aload pf_42_4 rfl ?_
      refine F_getf pf_42_5 rfl rfl rfl ?_
      refine E_icmp_ge_f pf_42_8 (by omega) ?_
      refine E_aload pf_42_11 rfl ?_
      refine F_getf pf_42_12 rfl rfl rfl ?_
      refine E_aload pf_42_15 rfl ?_
      refine F_getf pf_42_16 rfl rfl rfl ?_
      refine F_iald pf_42_19 rfl (by omega) ?_
      refine E_iload pf_42_20 rfl ?_
      refine E_icmp_eq_f pf_42_21 (by omega) ?_
      refine E_iconst pf_42_24 ?_
      exact E_iret pf_42_25 rfl
  · have hz : zb (p < tl ∧ T p = c) = 0 := if_neg (fun q => e1 q.1)
    rw [hz, Int.add_zero]
    refine E_aload pf_42_0 rfl ?_
    refine F_getf pf_42_1 rfl rfl rfl ?_
    refine E_aload pf_42_4 rfl ?_
    refine F_getf pf_42_5 rfl rfl rfl ?_
    refine E_icmp_ge_t pf_42_8 (by omega) ?_
    refine E_iconst pf_42_24 ?_
    exact E_iret pf_42_25 rfl
theorem c43 {lo hi : Int} (hT : ∀ i, 0 ≤ T i ∧ T i ≤ 255) (ht : tl ≤ 90) (hp : 0 ≤ p ∧ p ≤ tl) (hl : 0 ≤ lo ∧ lo ≤ 9) (hh : 0 ≤ hi ∧ hi ≤ 9) : ∀ h, Ca 43 [.ref 3, .int (ii lo), .int (ii hi)] (wd [(2, ar 90 T), (3, oR tl p)] h) (.inl (some (.int (ii (dg T tl lo hi p)))), wd [(2, ar 90 T), (3, oR tl (nxp p (dg T tl lo hi p)))] h) := by
  intro h
  refine E_in (lv := [_, _, _, _]) rfl ?_
  have hTp := hT p
  unfold dg
  by_cases e1 : p < tl
  · by_cases e2 : lo ≤ T p - 48
    · by_cases e3 : T p - 48 ≤ hi
      · rw [if_pos ⟨e1, e2, e3⟩]
        have hz : nxp p (T p - 48) = p + 1 := if_neg (by omega)
        rw [hz]
        refine E_aload pf_43_0 rfl ?_
        refine F_getf pf_43_1 rfl rfl rfl ?_
        refine E_aload pf_43_4 rfl ?_
        refine F_getf pf_43_5 rfl rfl rfl ?_
        refine E_icmp_lt_t pf_43_8 (by omega) ?_
        refine E_aload pf_43_14 rfl ?_
        refine F_getf pf_43_15 rfl rfl rfl ?_
        refine E_aload pf_43_18 rfl ?_
        refine F_getf pf_43_19 rfl rfl rfl ?_
        refine F_iald pf_43_22 rfl (by omega) ?_
        refine E_iconst pf_43_23 ?_
        refine E_isub pf_43_25 ?_
        refine E_istore (lv' := [_, _, _, _]) pf_43_26 rfl rfl ?_
        refine E_iload pf_43_27 rfl ?_
        refine E_iload pf_43_28 rfl ?_
        refine E_icmp_lt_f pf_43_29 (by omega) ?_
        refine E_iload pf_43_32 rfl ?_
        refine E_iload pf_43_33 rfl ?_
        refine E_icmp_le_t pf_43_34 (by omega) ?_
        refine E_aload pf_43_40 rfl ?_
        refine E_dup pf_43_41 rfl ?_
        refine F_getf pf_43_42 rfl rfl rfl ?_
        refine E_iconst pf_43_45 ?_
        refine E_iadd pf_43_46 ?_
        refine F_putf (l' := [(_, _), (_, _)]) (x := ob _ [_, _, _, _, _, _]) pf_43_47 rfl rfl rfl rfl rfl ?_
        refine E_iload pf_43_50 rfl ?_
        exact E_iret pf_43_51 rfl
      · rw [if_neg (fun q => e3 q.2.2)]
        have hz : nxp p (-9) = p := if_pos rfl
        rw [hz]
        refine E_aload pf_43_0 rfl ?_
        refine F_getf pf_43_1 rfl rfl rfl ?_
        refine E_aload pf_43_4 rfl ?_
        refine F_getf pf_43_5 rfl rfl rfl ?_
        refine E_icmp_lt_t pf_43_8 (by omega) ?_
        refine E_aload pf_43_14 rfl ?_
        refine F_getf pf_43_15 rfl rfl rfl ?_
        refine E_aload pf_43_18 rfl ?_
        refine F_getf pf_43_19 rfl rfl rfl ?_
        refine F_iald pf_43_22 rfl (by omega) ?_
        refine E_iconst pf_43_23 ?_
        refine E_isub pf_43_25 ?_
        refine E_istore (lv' := [_, _, _, _]) pf_43_26 rfl rfl ?_
        refine E_iload pf_43_27 rfl ?_
        refine E_iload pf_43_28 rfl ?_
        refine E_icmp_lt_f pf_43_29 (by omega) ?_
        refine E_iload pf_43_32 rfl ?_
        refine E_iload pf_43_33 rfl ?_
        refine E_icmp_le_f pf_43_34 (by omega) ?_
        refine E_iconst pf_43_37 ?_
        exact E_iret pf_43_39 rfl
    · rw [if_neg (fun q => e2 q.2.1)]
      have hz : nxp p (-9) = p := if_pos rfl
      rw [hz]
      refine E_aload pf_43_0 rfl ?_
      refine F_getf pf_43_1 rfl rfl rfl ?_
      refine E_aload pf_43_4 rfl ?_
      refine F_getf pf_43_5 rfl rfl rfl ?_
      refine E_icmp_lt_t pf_43_8 (by omega) ?_
      refine E_aload pf_43_14 rfl ?_
      refine F_getf pf_43_15 rfl rfl rfl ?_
      refine E_aload pf_43_18 rfl ?_
      refine F_getf pf_43_19 rfl rfl rfl ?_
      refine F_iald pf_43_22 rfl (by omega) ?_
      refine E_iconst pf_43_23 ?_
      refine E_isub pf_43_25 ?_
      refine E_istore (lv' := [_, _, _, _]) pf_43_26 rfl rfl ?_
      refine E_iload pf_43_27 rfl ?_
      refine E_iload pf_43_28 rfl ?_
      refine E_icmp_lt_t pf_43_29 (by omega) ?_
      refine E_iconst pf_43_37 ?_
      exact E_iret pf_43_39 rfl
  · rw [if_neg (fun q => e1 q.1)]
    have hz : nxp p (-9) = p := if_pos rfl
    rw [hz]
    refine E_aload pf_43_0 rfl ?_
    refine F_getf pf_43_1 rfl rfl rfl ?_
    refine E_aload pf_43_4 rfl ?_
    refine F_getf pf_43_5 rfl rfl rfl ?_
    refine E_icmp_lt_f pf_43_8 (by omega) ?_
    refine E_iconst pf_43_11 ?_
    exact E_iret pf_43_13 rfl
theorem c44 (hT : ∀ i, 0 ≤ T i ∧ T i ≤ 255) (ht : tl ≤ 90) (hp : 0 ≤ p ∧ p ≤ tl) : ∀ h, Ca 44 [.ref 3] (wd [(2, ar 90 T), (3, oR tl p)] h) (.inl (some (.int (ii (kdf T tl p)))), wd [(2, ar 90 T), (3, oR tl (nxp p (kdf T tl p)))] h) := by
  intro h
  refine E_in (lv := [_]) rfl ?_
  have hTp := hT p
  by_cases e0 : p < tl ∧ T p = 115
  · have s0 : sgn T tl p 115 = 1 := if_pos e0
    have hk : kdf T tl p = 0 := by unfold kdf; rw [if_pos e0.1, if_pos e0.2]
    have hz : nxp p 0 = p + 1 := if_neg (by omega)
    rw [hk, hz]
    refine E_aload pf_44_0 rfl ?_
    refine E_iconst pf_44_1 ?_
    refine F_v2v (l' := [(_, _), (_, _)]) pf_44_3 (c42 hT ht hp (by omega)) (And.intro rfl (And.intro rfl (trivial))) rfl rfl rfl rfl ?_
    rw [s0]
    refine E_if_eq_f pf_44_6 (by omega) ?_
    refine E_iconst pf_44_9 ?_
    exact E_iret pf_44_10 rfl
  by_cases e1 : p < tl ∧ T p = 98
  · have s0 : sgn T tl p 115 = 0 := if_neg e0
    have s1 : sgn T tl p 98 = 1 := if_pos e1
    have hk : kdf T tl p = 1 := by unfold kdf; rw [if_pos e1.1, if_neg (by omega), if_pos e1.2]
    have hz : nxp p 1 = p + 1 := if_neg (by omega)
    rw [hk, hz]
    refine E_aload pf_44_0 rfl ?_
    refine E_iconst pf_44_1 ?_
    refine F_v2v (l' := [(_, _), (_, _)]) pf_44_3 (c42 hT ht hp (by omega)) (And.intro rfl (And.intro rfl (trivial))) rfl rfl rfl rfl ?_
    rw [s0, Int.add_zero]
    refine E_if_eq_t pf_44_6 (by omega) ?_
    refine E_aload pf_44_11 rfl ?_
    refine E_iconst pf_44_12 ?_
    refine F_v2v (l' := [(_, _), (_, _)]) pf_44_14 (c42 hT ht hp (by omega)) (And.intro rfl (And.intro rfl (trivial))) rfl rfl rfl rfl ?_
    rw [s1]
    refine E_if_eq_f pf_44_17 (by omega) ?_
    refine E_iconst pf_44_20 ?_
    exact E_iret pf_44_21 rfl
  by_cases e2 : p < tl ∧ T p = 99
  · have s0 : sgn T tl p 115 = 0 := if_neg e0
    have s1 : sgn T tl p 98 = 0 := if_neg e1
    have s2 : sgn T tl p 99 = 1 := if_pos e2
    have hk : kdf T tl p = 2 := by unfold kdf; rw [if_pos e2.1, if_neg (by omega), if_neg (by omega), if_pos e2.2]
    have hz : nxp p 2 = p + 1 := if_neg (by omega)
    rw [hk, hz]
    refine E_aload pf_44_0 rfl ?_
    refine E_iconst pf_44_1 ?_
    refine F_v2v (l' := [(_, _), (_, _)]) pf_44_3 (c42 hT ht hp (by omega)) (And.intro rfl (And.intro rfl (trivial))) rfl rfl rfl rfl ?_
    rw [s0, Int.add_zero]
    refine E_if_eq_t pf_44_6 (by omega) ?_
    refine E_aload pf_44_11 rfl ?_
    refine E_iconst pf_44_12 ?_
    refine F_v2v (l' := [(_, _), (_, _)]) pf_44_14 (c42 hT ht hp (by omega)) (And.intro rfl (And.intro rfl (trivial))) rfl rfl rfl rfl ?_
    rw [s1, Int.add_zero]
    refine E_if_eq_t pf_44_17 (by omega) ?_
    refine E_aload pf_44_22 rfl ?_
    refine E_iconst pf_44_23 ?_
    refine F_v2v (l' := [(_, _), (_, _)]) pf_44_25 (c42 hT ht hp (by omega)) (And.intro rfl (And.intro rfl (trivial))) rfl rfl rfl rfl ?_
    rw [s2]
    refine E_if_eq_f pf_44_28 (by omega) ?_
    refine E_iconst pf_44_31 ?_
    exact E_iret pf_44_32 rfl
  by_cases e3 : p < tl ∧ T p = 112
  · have s0 : sgn T tl p 115 = 0 := if_neg e0
    have s1 : sgn T tl p 98 = 0 := if_neg e1
    have s2 : sgn T tl p 99 = 0 := if_neg e2
    have s3 : sgn T tl p 112 = 1 := if_pos e3
    have hk : kdf T tl p = 3 := by unfold kdf; rw [if_pos e3.1, if_neg (by omega), if_neg (by omega), if_neg (by omega), if_pos e3.2]
    have hz : nxp p 3 = p + 1 := if_neg (by omega)
    rw [hk, hz]
    refine E_aload pf_44_0 rfl ?_
    refine E_iconst pf_44_1 ?_
    refine F_v2v (l' := [(_, _), (_, _)]) pf_44_3 (c42 hT ht hp (by omega)) (And.intro rfl (And.intro rfl (trivial))) rfl rfl rfl rfl ?_
    rw [s0, Int.add_zero]
    refine E_if_eq_t pf_44_6 (by omega) ?_
    refine E_aload pf_44_11 rfl ?_
    refine E_iconst pf_44_12 ?_
    refine F_v2v (l' := [(_, _), (_, _)]) pf_44_14 (c42 hT ht hp (by omega)) (And.intro rfl (And.intro rfl (trivial))) rfl rfl rfl rfl ?_
    rw [s1, Int.add_zero]
    refine E_if_eq_t pf_44_17 (by omega) ?_
    refine E_aload pf_44_22 rfl ?_
    refine E_iconst pf_44_23 ?_
    refine F_v2v (l' := [(_, _), (_, _)]) pf_44_25 (c42 hT ht hp (by omega)) (And.intro rfl (And.intro rfl (trivial))) rfl rfl rfl rfl ?_
    rw [s2, Int.add_zero]
    refine E_if_eq_t pf_44_28 (by omega) ?_
    refine E_aload pf_44_33 rfl ?_
    refine E_iconst pf_44_34 ?_
    refine F_v2v (l' := [(_, _), (_, _)]) pf_44_36 (c42 hT ht hp (by omega)) (And.intro rfl (And.intro rfl (trivial))) rfl rfl rfl rfl ?_
    rw [s3]
    refine E_if_eq_f pf_44_39 (by omega) ?_
    refine E_iconst pf_44_42 ?_
    exact E_iret pf_44_43 rfl
  by_cases e4 : p < tl ∧ T p = 108
  · have s0 : sgn T tl p 115 = 0 := if_neg e0
    have s1 : sgn T tl p 98 = 0 := if_neg e1
    have s2 : sgn T tl p 99 = 0 := if_neg e2
    have s3 : sgn T tl p 112 = 0 := if_neg e3
    have s4 : sgn T tl p 108 = 1 := if_pos e4
    have hk : kdf T tl p = 4 := by unfold kdf; rw [if_pos e4.1, if_neg (by omega), if_neg (by omega), if_neg (by omega), if_neg (by omega), if_pos e4.2]
    have hz : nxp p 4 = p + 1 := if_neg (by omega)
    rw [hk, hz]
    refine E_aload pf_44_0 rfl ?_
    refine E_iconst pf_44_1 ?_
    refine F_v2v (l' := [(_, _), (_, _)]) pf_44_3 (c42 hT ht hp (by omega)) (And.intro rfl (And.intro rfl (trivial))) rfl rfl rfl rfl ?_
    rw [s0, Int.add_zero]
    refine E_if_eq_t pf_44_6 (by omega) ?_
    refine E_aload pf_44_11 rfl ?_
    refine E_iconst pf_44_12 ?_
    refine F_v2v (l' := [(_, _), (_, _)]) pf_44_14 (c42 hT ht hp (by omega)) (And.intro rfl (And.intro rfl (trivial))) rfl rfl rfl rfl ?_
    rw [s1, Int.add_zero]
    refine E_if_eq_t pf_44_17 (by omega) ?_
    refine E_aload pf_44_22 rfl ?_
    refine E_iconst pf_44_23 ?_
    refine F_v2v (l' := [(_, _), (_, _)]) pf_44_25 (c42 hT ht hp (by omega)) (And.intro rfl (And.intro rfl (trivial))) rfl rfl rfl rfl ?_
    rw [s2, Int.add_zero]
    refine E_if_eq_t pf_44_28 (by omega) ?_
    refine E_aload pf_44_33 rfl ?_
    refine E_iconst pf_44_34 ?_
    refine F_v2v (l' := [(_, _), (_, _)]) pf_44_36 (c42 hT ht hp (by omega)) (And.intro rfl (And.intro rfl (trivial))) rfl rfl rfl rfl ?_
    rw [s3, Int.add_zero]
    refine E_if_eq_t pf_44_39 (by omega) ?_
    refine E_aload pf_44_44 rfl ?_
    refine E_iconst pf_44_45 ?_
    refine F_v2v (l' := [(_, _), (_, _)]) pf_44_47 (c42 hT ht hp (by omega)) (And.intro rfl (And.intro rfl (trivial))) rfl rfl rfl rfl ?_
    rw [s4]
    refine E_if_eq_f pf_44_50 (by omega) ?_
    refine E_iconst pf_44_53 ?_
    refine E_goto pf_44_54 ?_
    exact E_iret pf_44_59 rfl
  have s0 : sgn T tl p 115 = 0 := if_neg e0
  have s1 : sgn T tl p 98 = 0 := if_neg e1
  have s2 : sgn T tl p 99 = 0 := if_neg e2
  have s3 : sgn T tl p 112 = 0 := if_neg e3
  have s4 : sgn T tl p 108 = 0 := if_neg e4
  have hk : kdf T tl p = -9 := by
    unfold kdf; by_cases e : p < tl
    · rw [if_pos e, if_neg (fun q => e0 ⟨e, q⟩), if_neg (fun q => e1 ⟨e, q⟩), if_neg (fun q => e2 ⟨e, q⟩), if_neg (fun q => e3 ⟨e, q⟩), if_neg (fun q => e4 ⟨e, q⟩)]
    · rw [if_neg e]
  have hz : nxp p (-9) = p := if_pos rfl
  rw [hk, hz]
  refine E_aload pf_44_0 rfl ?_
  refine E_iconst pf_44_1 ?_
  refine F_v2v (l' := [(_, _), (_, _)]) pf_44_3 (c42 hT ht hp (by omega)) (And.intro rfl (And.intro rfl (trivial))) rfl rfl rfl rfl ?_
  rw [s0, Int.add_zero]
  refine E_if_eq_t pf_44_6 (by omega) ?_
  refine E_aload pf_44_11 rfl ?_
  refine E_iconst pf_44_12 ?_
  refine F_v2v (l' := [(_, _), (_, _)]) pf_44_14 (c42 hT ht hp (by omega)) (And.intro rfl (And.intro rfl (trivial))) rfl rfl rfl rfl ?_
  rw [s1, Int.add_zero]
  refine E_if_eq_t pf_44_17 (by omega) ?_
  refine E_aload pf_44_22 rfl ?_
  refine E_iconst pf_44_23 ?_
  refine F_v2v (l' := [(_, _), (_, _)]) pf_44_25 (c42 hT ht hp (by omega)) (And.intro rfl (And.intro rfl (trivial))) rfl rfl rfl rfl ?_
  rw [s2, Int.add_zero]
  refine E_if_eq_t pf_44_28 (by omega) ?_
  refine E_aload pf_44_33 rfl ?_
  refine E_iconst pf_44_34 ?_
  refine F_v2v (l' := [(_, _), (_, _)]) pf_44_36 (c42 hT ht hp (by omega)) (And.intro rfl (And.intro rfl (trivial))) rfl rfl rfl rfl ?_
  rw [s3, Int.add_zero]
  refine E_if_eq_t pf_44_39 (by omega) ?_
  refine E_aload pf_44_44 rfl ?_
  refine E_iconst pf_44_45 ?_
  refine F_v2v (l' := [(_, _), (_, _)]) pf_44_47 (c42 hT ht hp (by omega)) (And.intro rfl (And.intro rfl (trivial))) rfl rfl rfl rfl ?_
  rw [s4, Int.add_zero]
  refine E_if_eq_t pf_44_50 (by omega) ?_
  refine E_iconst pf_44_57 ?_
  exact E_iret pf_44_59 rfl
/-- the numbers that n good digits give -/
def nmf (T : Int → Int) (p : Int) (n : Nat) (j : Int) : Int := if j < n then T (p + j) - 48 else 0
theorem c46 {n : Nat} {lo : Int} (hT : ∀ i, 0 ≤ T i ∧ T i ≤ 255) (ht : tl ≤ 90) (hp : 0 ≤ p ∧ p ≤ tl) (hn : n ≤ 4) (hl : 0 ≤ lo ∧ lo ≤ 9) : ∃ q' : Int → Int, (gd T tl lo n p = n → ∀ j : Int, 0 ≤ j → j < 4 → q' j = nmf T p n j) ∧ ∀ h, Ca 46 [.ref 3, .int (ii (n : Int)), .int (ii lo)] (wd [(2, ar 90 T), (3, oR tl p), (4, ar 4 q)] h) (.inl (some (.int (ii (zb (gd T tl lo n p = n))))), wd [(2, ar 90 T), (3, oR tl (p + (gd T tl lo n p : Int))), (4, ar 4 q')] h) := by
  have loop : ∀ (k j : Nat) (q1 : Int → Int), j + k = 4 → q1 = zfill q (nmf T p n) j → (∀ i : Nat, i < j → i < n → dg T tl lo 9 (p + i) ≠ -9) → ∃ q' : Int → Int, (gd T tl lo n p = n → ∀ j : Int, 0 ≤ j → j < 4 → q' j = nmf T p n j) ∧ ∀ h, Rn 46 2 [.ref 3, .int (ii (n : Int)), .int (ii lo), .int (ii (j : Int))] [] (wd [(2, ar 90 T), (3, oR tl (p + ((if j < n then j else n : Nat) : Int))), (4, ar 4 q1)] h) (.inl (some (.int (ii (zb (gd T tl lo n p = n))))), wd [(2, ar 90 T), (3, oR tl (p + (gd T tl lo n p : Int))), (4, ar 4 q')] h) := by
    intro k
    induction k with
    | zero =>
      intro j q1 hj hq hg
      obtain rfl : j = 4 := by omega
      have e := gd_all n p (fun i hi => hg i (by omega) hi)
      have hz : zb (gd T tl lo n p = n) = 1 := if_pos e
      have e4 : (if (4 : Nat) < n then (4 : Nat) else n) = n := by rw [if_neg (by omega)]
      refine ⟨q1, fun _ j h1 h2 => by rw [hq, zfill_at (by omega)], fun h => ?_⟩
      rw [hz, e, e4]
      refine E_iload pf_46_2 rfl ?_
      refine E_iconst pf_46_3 ?_
      refine E_icmp_ge_t pf_46_4 (by omega) ?_
      refine E_iconst pf_46_48 ?_
      exact E_iret pf_46_49 rfl
    | succ k ih =>
      intro j q1 hj hq hg
      by_cases e1 : j < n
      · have e5 : (if j < n then j else n) = j := if_pos e1
        by_cases e2 : dg T tl lo 9 (p + j) = -9
        · have e := gd_at n p j e1 (fun i hi => hg i hi (by omega)) e2
          have hz : zb (gd T tl lo n p = n) = 0 := if_neg (by omega)
          refine ⟨zu q1 j (-9), fun q => by omega, fun h => ?_⟩
          have hpj : p + (j : Int) ≤ tl := by rw [← e]; exact gd_end hp.2
          have hx : nxp (p + (j : Int)) (-9) = p + (j : Int) := if_pos rfl
          rw [hz, e, e5]
          refine E_iload pf_46_2 rfl ?_
          refine E_iconst pf_46_3 ?_
          refine E_icmp_ge_f pf_46_4 (by omega) ?_
          refine E_aload pf_46_7 rfl ?_
          refine F_getf pf_46_8 rfl rfl rfl ?_
          refine E_iload pf_46_11 rfl ?_
          refine E_iload pf_46_12 rfl ?_
          refine E_iload pf_46_13 rfl ?_
          refine E_icmp_ge_f pf_46_14 (by omega) ?_
          refine E_aload pf_46_17 rfl ?_
          refine E_iload pf_46_18 rfl ?_
          refine E_iconst pf_46_19 ?_
          refine F_v3v (l' := [(_, _), (_, _), (_, _)]) pf_46_21 (c43 hT ht (by omega) (by omega) (by omega)) (And.intro rfl (And.intro rfl (trivial))) rfl rfl rfl rfl ?_
          rw [e2, hx]
          refine E_goto pf_46_24 ?_
          refine F_iast (l' := [(_, _), (_, _), (_, _)]) pf_46_28 rfl (by omega) rfl ?_
          refine E_aload pf_46_29 rfl ?_
          refine F_getf pf_46_30 rfl rfl rfl ?_
          refine E_iload pf_46_33 rfl ?_
          refine F_iald pf_46_34 rfl (by omega) ?_
          refine E_iconst pf_46_35 ?_
          refine E_icmp_ne_f pf_46_37 (by rw [zu_s]; omega) ?_
          refine E_iconst pf_46_40 ?_
          exact E_iret pf_46_41 rfl
        · have hv := dg_val e2
          have hx : nxp (p + (j : Int)) (T (p + j) - 48) = p + ((j + 1 : Nat) : Int) := by unfold nxp; rw [if_neg (by omega)]; omega
          have e6 : (if j + 1 < n then j + 1 else n) = j + 1 := by split <;> omega
          obtain ⟨q', h1, h2⟩ := ih (j + 1) (zu q1 j (T (p + j) - 48)) (by omega) (by rw [zfill_s, hq]; unfold nmf; rw [if_pos (by omega)]) (fun i hi hi2 => if q : i = j then by rw [q]; exact e2 else hg i (by omega) hi2)
          refine ⟨q', h1, fun h => ?_⟩
          have h2 := h2 h
          rw [e6] at h2
          rw [e5]
          refine E_iload pf_46_2 rfl ?_
          refine E_iconst pf_46_3 ?_
          refine E_icmp_ge_f pf_46_4 (by omega) ?_
          refine E_aload pf_46_7 rfl ?_
          refine F_getf pf_46_8 rfl rfl rfl ?_
          refine E_iload pf_46_11 rfl ?_
          refine E_iload pf_46_12 rfl ?_
          refine E_iload pf_46_13 rfl ?_
          refine E_icmp_ge_f pf_46_14 (by omega) ?_
          refine E_aload pf_46_17 rfl ?_
          refine E_iload pf_46_18 rfl ?_
          refine E_iconst pf_46_19 ?_
          refine F_v3v (l' := [(_, _), (_, _), (_, _)]) pf_46_21 (c43 hT ht (by omega) (by omega) (by omega)) (And.intro rfl (And.intro rfl (trivial))) rfl rfl rfl rfl ?_
          rw [hv.1, hx]
          refine E_goto pf_46_24 ?_
          refine F_iast (l' := [(_, _), (_, _), (_, _)]) pf_46_28 rfl (by omega) rfl ?_
          refine E_aload pf_46_29 rfl ?_
          refine F_getf pf_46_30 rfl rfl rfl ?_
          refine E_iload pf_46_33 rfl ?_
          refine F_iald pf_46_34 rfl (by omega) ?_
          rw [zu_s]
          refine E_iconst pf_46_35 ?_
          refine E_icmp_ne_t pf_46_37 (by omega) ?_
          refine E_iinc (lv' := [_, _, _, _]) pf_46_42 rfl rfl ?_
          refine E_goto pf_46_45 ?_
          exact h2
      · have e5 : (if j < n then j else n) = n := if_neg e1
        have e6 : (if j + 1 < n then j + 1 else n) = n := if_neg (by omega)
        obtain ⟨q', h1, h2⟩ := ih (j + 1) (zu q1 j 0) (by omega) (by rw [zfill_s, hq]; unfold nmf; rw [if_neg (by omega)]) (fun i hi hi2 => hg i (by omega) hi2)
        refine ⟨q', h1, fun h => ?_⟩
        have h2 := h2 h
        rw [e6] at h2
        rw [e5]
        refine E_iload pf_46_2 rfl ?_
        refine E_iconst pf_46_3 ?_
        refine E_icmp_ge_f pf_46_4 (by omega) ?_
        refine E_aload pf_46_7 rfl ?_
        refine F_getf pf_46_8 rfl rfl rfl ?_
        refine E_iload pf_46_11 rfl ?_
        refine E_iload pf_46_12 rfl ?_
        refine E_iload pf_46_13 rfl ?_
        refine E_icmp_ge_t pf_46_14 (by omega) ?_
        refine E_iconst pf_46_27 ?_
        refine F_iast (l' := [(_, _), (_, _), (_, _)]) pf_46_28 rfl (by omega) rfl ?_
        refine E_aload pf_46_29 rfl ?_
        refine F_getf pf_46_30 rfl rfl rfl ?_
        refine E_iload pf_46_33 rfl ?_
        refine F_iald pf_46_34 rfl (by omega) ?_
        rw [zu_s]
        refine E_iconst pf_46_35 ?_
        refine E_icmp_ne_t pf_46_37 (by omega) ?_
        refine E_iinc (lv' := [_, _, _, _]) pf_46_42 rfl rfl ?_
        refine E_goto pf_46_45 ?_
        exact h2
  obtain ⟨q', h1, h2⟩ := loop 4 0 q (by omega) (zfill_0 _ _).symm (fun i hi => by omega)
  refine ⟨q', h1, fun h => ?_⟩
  have h2 := h2 h
  have e0 : (((if 0 < n then 0 else n : Nat)) : Int) = 0 := by split <;> omega
  rw [e0, Int.add_zero] at h2
  refine E_in (lv := [_, _, _, _]) rfl ?_
  refine E_iconst pf_46_0 ?_
  refine E_istore (lv' := [_, _, _, _]) pf_46_1 rfl rfl ?_
  exact h2
variable {rf d k vs rw rd rk rv rr ac : Int}
theorem c129 {c : Int} (hT : ∀ i, 0 ≤ T i ∧ T i ≤ 255) (ht : tl ≤ 90) (hp : 0 ≤ p ∧ p ≤ tl) (hc : 0 ≤ c ∧ c ≤ 255) : ∀ h, Ca 129 [.ref 102, .int (ii c)] (wd [(102, oX6 rf tl p d k vs rw rd rk rv rr ac), (103, ar 90 T)] h) (.inl (some (.int (ii (sgn T tl p c)))), wd [(102, oX6 rf tl (p + sgn T tl p c) d k vs rw rd rk rv rr ac), (103, ar 90 T)] h) := by
  intro h
  refine E_in (lv := [_, _, _]) rfl ?_
  have hTp := hT p
  unfold sgn
  by_cases e1 : p < tl
  · by_cases e2 : T p = c
    · have hz : zb (p < tl ∧ T p = c) = 1 := if_pos ⟨e1, e2⟩
      rw [hz]
      refine E_aload pf_129_0 rfl ?_
      refine F_getf pf_129_1 rfl rfl rfl ?_
      refine E_aload pf_129_4 rfl ?_
      refine F_getf pf_129_5 rfl rfl rfl ?_
      refine E_icmp_ge_f pf_129_8 (by omega) ?_
      refine E_aload pf_129_11 rfl ?_
      refine F_getf pf_129_12 rfl rfl rfl ?_
      refine E_aload pf_129_15 rfl ?_
      refine F_getf pf_129_16 rfl rfl rfl ?_
      refine F_iald pf_129_19 rfl (by omega) ?_
      refine E_iload pf_129_20 rfl ?_
      refine E_icmp_ne_f pf_129_21 (by omega) ?_
      refine E_iconst pf_129_24 ?_
      refine E_goto pf_129_25 ?_
      refine E_istore (lv' := [_, _, _]) pf_129_29 rfl rfl ?_
      refine E_aload pf_129_30 rfl ?_
      refine E_dup pf_129_31 rfl ?_
      refine F_getf pf_129_32 rfl rfl rfl ?_
      refine E_iload pf_129_35 rfl ?_
      refine E_if_eq_f pf_129_36 (by omega) ?_
      refine E_iconst pf_129_39 ?_
      refine E_goto pf_129_40 ?_
      refine E_iadd pf_129_44 ?_
      refine F_putf (l' := [(_, _), (_, _)]) (x := ob _ [_, _, _, _, _, _, _, _, _, _, _, _, _, _, _, _, _, _, _, _, _, _, _, _, _]) pf_129_45 rfl rfl rfl rfl rfl ?_
      refine E_iload pf_129_48 rfl ?_
      exact E_iret pf_129_49 rfl
    · have hz : zb (p < tl ∧ T p = c) = 0 := if_neg (fun q => e2 q.2)
      rw [hz]
      refine E_aload pf_129_0 rfl ?_
      refine F_getf pf_129_1 rfl rfl rfl ?_
      refine E_aload pf_129_4 rfl ?_
      refine F_getf pf_129_5 rfl rfl rfl ?_
      refine E_icmp_ge_f pf_129_8 (by omega) ?_
      refine E_aload pf_129_11 rfl ?_
      refine F_getf pf_129_12 rfl rfl rfl ?_
      refine E_aload pf_129_15 rfl ?_
      refine F_getf pf_129_16 rfl rfl rfl ?_
      refine F_iald pf_129_19 rfl (by omega) ?_
      refine E_iload pf_129_20 rfl ?_
      refine E_icmp_ne_t pf_129_21 (by omega) ?_
      refine E_iconst pf_129_28 ?_
      refine E_istore (lv' := [_, _, _]) pf_129_29 rfl rfl ?_
      refine E_aload pf_129_30 rfl ?_
      refine E_dup pf_129_31 rfl ?_
      refine F_getf pf_129_32 rfl rfl rfl ?_
      refine E_iload pf_129_35 rfl ?_
      refine E_if_eq_t pf_129_36 (by omega) ?_
      refine E_iconst pf_129_43 ?_
      refine E_iadd pf_129_44 ?_
      refine F_putf (l' := [(_, _), (_, _)]) (x := ob _ [_, _, _, _, _, _, _, _, _, _, _, _, _, _, _, _, _, _, _, _, _, _, _, _, _]) pf_129_45 rfl rfl rfl rfl rfl ?_
      refine E_iload pf_129_48 rfl ?_
      exact E_iret pf_129_49 rfl
  · have hz : zb (p < tl ∧ T p = c) = 0 := if_neg (fun q => e1 q.1)
    rw [hz]
    refine E_aload pf_129_0 rfl ?_
    refine F_getf pf_129_1 rfl rfl rfl ?_
    refine E_aload pf_129_4 rfl ?_
    refine F_getf pf_129_5 rfl rfl rfl ?_
    refine E_icmp_ge_t pf_129_8 (by omega) ?_
    refine E_iconst pf_129_28 ?_
    refine E_istore (lv' := [_, _, _]) pf_129_29 rfl rfl ?_
    refine E_aload pf_129_30 rfl ?_
    refine E_dup pf_129_31 rfl ?_
    refine F_getf pf_129_32 rfl rfl rfl ?_
    refine E_iload pf_129_35 rfl ?_
    refine E_if_eq_t pf_129_36 (by omega) ?_
    refine E_iconst pf_129_43 ?_
    refine E_iadd pf_129_44 ?_
    refine F_putf (l' := [(_, _), (_, _)]) (x := ob _ [_, _, _, _, _, _, _, _, _, _, _, _, _, _, _, _, _, _, _, _, _, _, _, _, _]) pf_129_45 rfl rfl rfl rfl rfl ?_
    refine E_iload pf_129_48 rfl ?_
    exact E_iret pf_129_49 rfl
theorem c130 {lo hi : Int} (hT : ∀ i, 0 ≤ T i ∧ T i ≤ 255) (ht : tl ≤ 90) (hp : 0 ≤ p ∧ p ≤ tl) (hl : 0 ≤ lo ∧ lo ≤ 9) (hh : 0 ≤ hi ∧ hi ≤ 9) : ∀ h, Ca 130 [.ref 102, .int (ii lo), .int (ii hi)] (wd [(102, oX6 rf tl p d k vs rw rd rk rv rr ac), (103, ar 90 T)] h) (.inl (some (.int (ii (dg T tl lo hi p)))), wd [(102, oX6 rf tl (nxp p (dg T tl lo hi p)) d k vs rw rd rk rv rr ac), (103, ar 90 T)] h) := by
  intro h
  refine E_in (lv := [_, _, _, _, _]) rfl ?_
  have hTp := hT p
  unfold dg
  by_cases e1 : p < tl
  · by_cases e2 : lo ≤ T p - 48 ∧ T p - 48 ≤ hi
    · rw [if_pos ⟨e1, e2⟩]
      have hz : nxp p (T p - 48) = p + 1 := if_neg (by omega)
      have hb : zb (lo ≤ T p - 48 ∧ T p - 48 ≤ hi) = 1 := if_pos e2
      rw [hz]
      refine E_aload pf_130_0 rfl ?_
      refine F_getf pf_130_1 rfl rfl rfl ?_
      refine E_aload pf_130_4 rfl ?_
      refine F_getf pf_130_5 rfl rfl rfl ?_
      refine E_icmp_ge_f pf_130_8 (by omega) ?_
      refine E_aload pf_130_11 rfl ?_
      refine F_getf pf_130_12 rfl rfl rfl ?_
      refine E_aload pf_130_15 rfl ?_
      refine F_getf pf_130_16 rfl rfl rfl ?_
      refine F_iald pf_130_19 rfl (by omega) ?_
      refine E_iconst pf_130_20 ?_
      refine E_isub pf_130_22 ?_
      refine E_goto pf_130_23 ?_
      refine E_istore (lv' := [_, _, _, _, _]) pf_130_28 rfl rfl ?_
      refine E_iload pf_130_29 rfl ?_
      refine E_i2l pf_130_30 (by omega) ?_
      refine E_iload pf_130_31 rfl ?_
      refine E_i2l pf_130_32 (by omega) ?_
      refine E_iload pf_130_33 rfl ?_
      refine E_i2l pf_130_34 (by omega) ?_
      refine F_c3v0 pf_130_35 (c109 (by omega)) (trivial) rfl ?_
      rw [hb]
      refine E_istore (lv' := [_, _, _, _, _]) pf_130_38 rfl rfl ?_
      refine E_aload pf_130_40 rfl ?_
      refine E_dup pf_130_41 rfl ?_
      refine F_getf pf_130_42 rfl rfl rfl ?_
      refine E_iload pf_130_45 rfl ?_
      refine E_if_eq_f pf_130_47 (by omega) ?_
      refine E_iconst pf_130_50 ?_
      refine E_goto pf_130_51 ?_
      refine E_iadd pf_130_55 ?_
      refine F_putf (l' := [(_, _), (_, _)]) (x := ob _ [_, _, _, _, _, _, _, _, _, _, _, _, _, _, _, _, _, _, _, _, _, _, _, _, _]) pf_130_56 rfl rfl rfl rfl rfl ?_
      refine E_iload pf_130_59 rfl ?_
      refine E_if_eq_f pf_130_61 (by omega) ?_
      refine E_iload pf_130_64 rfl ?_
      refine E_goto pf_130_65 ?_
      exact E_iret pf_130_70 rfl
    · rw [if_neg (fun q => e2 q.2)]
      have hz : nxp p (-9) = p + 0 := by rw [Int.add_zero]; exact if_pos rfl
      have hb : zb (lo ≤ T p - 48 ∧ T p - 48 ≤ hi) = 0 := if_neg e2
      rw [hz]
      refine E_aload pf_130_0 rfl ?_
      refine F_getf pf_130_1 rfl rfl rfl ?_
      refine E_aload pf_130_4 rfl ?_
      refine F_getf pf_130_5 rfl rfl rfl ?_
      refine E_icmp_ge_f pf_130_8 (by omega) ?_
      refine E_aload pf_130_11 rfl ?_
      refine F_getf pf_130_12 rfl rfl rfl ?_
      refine E_aload pf_130_15 rfl ?_
      refine F_getf pf_130_16 rfl rfl rfl ?_
      refine F_iald pf_130_19 rfl (by omega) ?_
      refine E_iconst pf_130_20 ?_
      refine E_isub pf_130_22 ?_
      refine E_goto pf_130_23 ?_
      refine E_istore (lv' := [_, _, _, _, _]) pf_130_28 rfl rfl ?_
      refine E_iload pf_130_29 rfl ?_
      refine E_i2l pf_130_30 (by omega) ?_
      refine E_iload pf_130_31 rfl ?_
      refine E_i2l pf_130_32 (by omega) ?_
      refine E_iload pf_130_33 rfl ?_
      refine E_i2l pf_130_34 (by omega) ?_
      refine F_c3v0 pf_130_35 (c109 (by omega)) (trivial) rfl ?_
      rw [hb]
      refine E_istore (lv' := [_, _, _, _, _]) pf_130_38 rfl rfl ?_
      refine E_aload pf_130_40 rfl ?_
      refine E_dup pf_130_41 rfl ?_
      refine F_getf pf_130_42 rfl rfl rfl ?_
      refine E_iload pf_130_45 rfl ?_
      refine E_if_eq_t pf_130_47 (by omega) ?_
      refine E_iconst pf_130_54 ?_
      refine E_iadd pf_130_55 ?_
      refine F_putf (l' := [(_, _), (_, _)]) (x := ob _ [_, _, _, _, _, _, _, _, _, _, _, _, _, _, _, _, _, _, _, _, _, _, _, _, _]) pf_130_56 rfl rfl rfl rfl rfl ?_
      refine E_iload pf_130_59 rfl ?_
      refine E_if_eq_t pf_130_61 (by omega) ?_
      refine E_iconst pf_130_68 ?_
      exact E_iret pf_130_70 rfl
  · rw [if_neg (fun q => e1 q.1)]
    have hz : nxp p (-9) = p + 0 := by rw [Int.add_zero]; exact if_pos rfl
    have hb : zb (lo ≤ -9 ∧ -9 ≤ hi) = 0 := if_neg (by omega)
    rw [hz]
    refine E_aload pf_130_0 rfl ?_
    refine F_getf pf_130_1 rfl rfl rfl ?_
    refine E_aload pf_130_4 rfl ?_
    refine F_getf pf_130_5 rfl rfl rfl ?_
    refine E_icmp_ge_t pf_130_8 (by omega) ?_
    refine E_iconst pf_130_26 ?_
    refine E_istore (lv' := [_, _, _, _, _]) pf_130_28 rfl rfl ?_
    refine E_iload pf_130_29 rfl ?_
    refine E_i2l pf_130_30 (by omega) ?_
    refine E_iload pf_130_31 rfl ?_
    refine E_i2l pf_130_32 (by omega) ?_
    refine E_iload pf_130_33 rfl ?_
    refine E_i2l pf_130_34 (by omega) ?_
    refine F_c3v0 pf_130_35 (c109 (by omega)) (trivial) rfl ?_
    rw [hb]
    refine E_istore (lv' := [_, _, _, _, _]) pf_130_38 rfl rfl ?_
    refine E_aload pf_130_40 rfl ?_
    refine E_dup pf_130_41 rfl ?_
    refine F_getf pf_130_42 rfl rfl rfl ?_
    refine E_iload pf_130_45 rfl ?_
    refine E_if_eq_t pf_130_47 (by omega) ?_
    refine E_iconst pf_130_54 ?_
    refine E_iadd pf_130_55 ?_
    refine F_putf (l' := [(_, _), (_, _)]) (x := ob _ [_, _, _, _, _, _, _, _, _, _, _, _, _, _, _, _, _, _, _, _, _, _, _, _, _]) pf_130_56 rfl rfl rfl rfl rfl ?_
    refine E_iload pf_130_59 rfl ?_
    refine E_if_eq_t pf_130_61 (by omega) ?_
    refine E_iconst pf_130_68 ?_
    exact E_iret pf_130_70 rfl
end CHR
