/-! The class's readings of a state. -/
abbrev oP (d k n : Int) : pd_E := ob 2 [.int (ii d), .int (ii k), .int (ii n), .ref 14, .ref 15, .ref 16]
abbrev oD (pu be : Int) : pd_E := ob 0 [.ref 13, .ref 19, .ref 20, .ref 21, .ref 22, .ref 23, .long (ll pu), .long (ll be)]
abbrev oS24 (rc ac st dr : Int) : pd_E := ob 4 [.int (ii rc), .ref 25, .int (ii ac), .ref 26, .ref 27, .int (ii st), .int (ii dr)]
abbrev oS28 (rc ac st dr : Int) : pd_E := ob 4 [.int (ii rc), .ref 29, .int (ii ac), .ref 30, .ref 31, .int (ii st), .int (ii dr)]
def zfill (q f : Int → Int) (n : Nat) : Int → Int := fun k => if 0 ≤ k ∧ k < n then f k else q k
theorem zfill_0 (q f : Int → Int) : zfill q f 0 = q := by
  funext k; unfold zfill; rw [if_neg (by omega)]
theorem zfill_s (q f : Int → Int) (n : Nat) : zfill q f (n + 1) = zu (zfill q f n) n (f n) := by
  funext k
  simp only [zfill, zu]
  by_cases e : k = n
  · rw [if_pos (by omega), if_pos e, e]
  · rw [if_neg e]
    by_cases e2 : 0 ≤ k ∧ k < n
    · rw [if_pos (by omega), if_pos e2]
    · rw [if_neg (by omega), if_neg e2]
theorem zfill_at {q f : Int → Int} {n : Nat} {k : Int} (h : 0 ≤ k ∧ k < n) : zfill q f n k = f k := by unfold zfill; rw [if_pos h]
def yX (V U C : Int → Int) (m : Nat) (j : Int) : Int := zs (fun i => U i * C (V i * 4 + j)) m
def yT (R x : Int → Int) (k : Int) : Int := zs (fun j => R (k * 5 + j) * x j) 4
def yRs (R x : Int → Int) (k : Int) : Int := yT R x k - 100 * R (k * 5 + 4)
def yS (R rs : Int → Int) (rn : Nat) (j : Int) : Int := 2 * zs (fun k => rs k * R (k * 5 + j)) rn
def yD (C wt : Int → Int) (i : Int) : Int := zs (fun j => C (i * 4 + j) * wt j) 4
/-- a state's numbers -/
def sok (vn : Int) (R V U : Int → Int) (m : Nat) : Prop := (1 ≤ m ∧ m ≤ 24) ∧ (∀ i : Int, 0 ≤ i → i < m → 0 ≤ V i ∧ V i < vn ∧ 0 ≤ U i ∧ U i ≤ 100) ∧ (∀ k j : Int, 0 ≤ k → k < 4 → 0 ≤ j → j < 4 → -9 ≤ R (k * 5 + j) ∧ R (k * 5 + j) ≤ 9) ∧ ∀ k : Int, 0 ≤ k → k < 4 → -99 ≤ R (k * 5 + 4) ∧ R (k * 5 + 4) ≤ 99
section CLS1
variable {d k pu be rc ac st dr : Int} {C R V U x rs sl wt : Int → Int} {m dn rn vn : Nat}
theorem yX_le (hs : sok vn R V U m) (hC : ∀ k, -9 ≤ C k ∧ C k ≤ 9) (j : Int) : -21600 ≤ yX V U C m j ∧ yX V U C m j ≤ 21600 := by
  have h1 : -((m : Int) * (100 * 9)) ≤ yX V U C m j ∧ yX V U C m j ≤ m * (100 * 9) := zs_le fun i hi => by
    have h2 := hs.2.1 i (by omega) (by omega)
    exact mul_le (by omega) (hC _)
  have := hs.1
  omega
theorem yT_le {B : Int} (hs : sok vn R V U m) (hx : ∀ j : Int, 0 ≤ j → j < 4 → -B ≤ x j ∧ x j ≤ B) {k : Int} (hk : 0 ≤ k ∧ k < 4) : -(36 * B) ≤ yT R x k ∧ yT R x k ≤ 36 * B := by
  have h1 : -(((4 : Nat) : Int) * (9 * B)) ≤ yT R x k ∧ yT R x k ≤ ((4 : Nat) : Int) * (9 * B) := zs_le fun j hj => mul_le (hs.2.2.1 k j hk.1 hk.2 (by omega) (by omega)) (hx j (by omega) (by omega))
  omega
theorem yRs_le (hs : sok vn R V U m) (hx : ∀ j : Int, 0 ≤ j → j < 4 → -21600 ≤ x j ∧ x j ≤ 21600) {k : Int} (hk : 0 ≤ k ∧ k < 4) : -787500 ≤ yRs R x k ∧ yRs R x k ≤ 787500 := by
  have h1 := yT_le (B := 21600) hs hx hk
  have h2 := hs.2.2.2 k hk.1 hk.2
  unfold yRs
  omega
theorem yS_le (hs : sok vn R V U m) (hrn : rn ≤ 4) (hr : ∀ k : Int, 0 ≤ k → k < 4 → -787500 ≤ rs k ∧ rs k ≤ 787500) {j : Int} (hj : 0 ≤ j ∧ j < 4) : -56700000 ≤ yS R rs rn j ∧ yS R rs rn j ≤ 56700000 := by
  have h1 : -((rn : Int) * (787500 * 9)) ≤ zs (fun k => rs k * R (k * 5 + j)) rn ∧ zs (fun k => rs k * R (k * 5 + j)) rn ≤ rn * (787500 * 9) := zs_le fun k hk => mul_le (hr k (by omega) (by omega)) (hs.2.2.1 k j (by omega) (by omega) hj.1 hj.2)
  unfold yS
  omega
theorem yD_le {B : Int} (hC : ∀ k, -9 ≤ C k ∧ C k ≤ 9) (hw : ∀ j : Int, 0 ≤ j → j < 4 → -B ≤ wt j ∧ wt j ≤ B) (i : Int) : -(36 * B) ≤ yD C wt i ∧ yD C wt i ≤ 36 * B := by
  have h1 : -(((4 : Nat) : Int) * (9 * B)) ≤ yD C wt i ∧ yD C wt i ≤ ((4 : Nat) : Int) * (9 * B) := zs_le fun j hj => mul_le (hC _) (hw j (by omega) (by omega))
  omega
theorem c28 {i j : Int} (hi : 0 ≤ i ∧ i < 24) (hj : 0 ≤ j ∧ j < 4) : ∀ h, Ca 28 [.ref 13, .int (ii i), .int (ii j)] (wd [(13, oP d k (vn : Int)), (14, ar 96 C)] h) (.inl (some (.int (ii (C (i * 4 + j))))), wd [(13, oP d k (vn : Int)), (14, ar 96 C)] h) := by
  intro h
  refine E_in (lv := [_, _, _]) rfl ?_
  refine E_iload pf_28_0 rfl ?_
  refine E_if_lt_f pf_28_1 (by omega) ?_
  refine E_iload pf_28_4 rfl ?_
  refine E_iconst pf_28_5 ?_
  refine E_icmp_ge_f pf_28_7 (by omega) ?_
  refine E_iload pf_28_10 rfl ?_
  refine E_if_lt_f pf_28_11 (by omega) ?_
  refine E_iload pf_28_14 rfl ?_
  refine E_iconst pf_28_15 ?_
  refine E_icmp_lt_t pf_28_16 (by omega) ?_
  refine E_aload pf_28_21 rfl ?_
  refine F_getf pf_28_22 rfl rfl rfl ?_
  refine E_iload pf_28_25 rfl ?_
  refine E_iconst pf_28_26 ?_
  refine E_imul pf_28_27 ?_
  refine E_iload pf_28_28 rfl ?_
  refine E_iadd pf_28_29 ?_
  refine F_iald pf_28_30 rfl (by omega) ?_
  exact E_iret pf_28_31 rfl
theorem c38s {i : Int} (hC : ∀ k, -9 ≤ C k ∧ C k ≤ 9) (hi : 0 ≤ i ∧ i < 24) : ∀ h, Ca 38 [.ref 13, .int (ii i), .ref 21] (wd [(13, oP d k (vn : Int)), (14, ar 96 C), (21, lr 4 wt)] h) (.inl (some (.long (ll (yD C wt i)))), wd [(13, oP d k (vn : Int)), (14, ar 96 C), (21, lr 4 wt)] h) := by
  intro h
  refine E_in (lv := [_, _, _, _, _, _]) rfl ?_
  have loop : ∀ (n q : Nat), q + n = 4 → Rn 38 5 [.ref 13, .int (ii i), .ref 21, .long (ll (zs (fun j => C (i * 4 + j) * wt j) q)), pd_dum, .int (ii (q : Int))] [] (wd [(13, oP d k (vn : Int)), (14, ar 96 C), (21, lr 4 wt)] h) (.inl (some (.long (ll (yD C wt i)))), wd [(13, oP d k (vn : Int)), (14, ar 96 C), (21, lr 4 wt)] h) := by
    intro n
    induction n with
    | zero =>
      intro q hq
      obtain rfl : q = 4 := by omega
      refine E_iload pf_38_5 rfl ?_
      refine E_iconst pf_38_7 ?_
      refine E_icmp_ge_t pf_38_8 (by omega) ?_
      refine E_lload pf_38_33 rfl ?_
      exact E_lret pf_38_34 rfl
    | succ n ih =>
      intro q hq
      have ih := ih (q + 1) (by omega)
      have hb := hC (i * 4 + q)
      refine E_iload pf_38_5 rfl ?_
      refine E_iconst pf_38_7 ?_
      refine E_icmp_ge_f pf_38_8 (by omega) ?_
      refine E_lload pf_38_11 rfl ?_
      refine E_aload pf_38_12 rfl ?_
      refine E_iload pf_38_13 rfl ?_
      refine E_iload pf_38_14 rfl ?_
      refine F_v3v0 pf_38_16 (c28 (by omega) (by omega)) (And.intro rfl (And.intro rfl (trivial))) rfl rfl ?_
      refine E_i2l pf_38_19 (by omega) ?_
      refine E_aload pf_38_20 rfl ?_
      refine E_iload pf_38_21 rfl ?_
      refine F_lald pf_38_23 rfl (by omega) ?_
      refine E_lmul pf_38_24 ?_
      refine E_ladd pf_38_25 ?_
      refine E_lstore (lv' := [_, _, _, _, _, _]) pf_38_26 rfl rfl ?_
      refine E_iinc (lv' := [_, _, _, _, _, _]) pf_38_27 rfl rfl ?_
      refine E_goto pf_38_30 ?_
      exact ih
  refine E_lconst pf_38_0 ?_
  refine E_lstore (lv' := [_, _, _, _, _, _]) pf_38_1 rfl rfl ?_
  refine E_iconst pf_38_2 ?_
  refine E_istore (lv' := [_, _, _, _, _, _]) pf_38_3 rfl rfl ?_
  exact loop 4 0 (by omega)
theorem c39s (hC : ∀ k, -9 ≤ C k ∧ C k ≤ 9) (hw : ∀ j : Int, 0 ≤ j → j < 4 → -1000000000 ≤ wt j ∧ wt j ≤ 1000000000) (hv : 1 ≤ vn ∧ vn ≤ 24) : ∀ h, Ca 39 [.ref 13, .ref 21] (wd [(13, oP d k (vn : Int)), (14, ar 96 C), (21, lr 4 wt)] h) (.inl (some (.int (ii (zam (yD C wt) (vn - 1))))), wd [(13, oP d k (vn : Int)), (14, ar 96 C), (21, lr 4 wt)] h) := by
  intro h
  refine E_in (lv := [_, _, _, _, _, _, _, _]) rfl ?_
  have loop : ∀ (n i : Nat) (w6 w7 : Value), i + n = vn - 1 → Rn 39 12 [.ref 13, .ref 21, .int (ii (zam (yD C wt) i)), .long (ll (yD C wt (zam (yD C wt) i))), pd_dum, .int (ii ((i + 1 : Nat) : Int)), w6, w7] [] (wd [(13, oP d k (vn : Int)), (14, ar 96 C), (21, lr 4 wt)] h) (.inl (some (.int (ii (zam (yD C wt) (vn - 1))))), wd [(13, oP d k (vn : Int)), (14, ar 96 C), (21, lr 4 wt)] h) := by
    intro n
    induction n with
    | zero =>
      intro i w6 w7 hi
      obtain rfl : i = vn - 1 := by omega
      refine E_iload pf_39_12 rfl ?_
      refine E_aload pf_39_14 rfl ?_
      refine F_getf pf_39_15 rfl rfl rfl ?_
      refine E_icmp_ge_t pf_39_18 (by omega) ?_
      refine E_iload pf_39_49 rfl ?_
      exact E_iret pf_39_50 rfl
    | succ n ih =>
      intro i w6 w7 hi
      have ih := ih (i + 1)
      have hb1 := yD_le hC hw ((i + 1 : Nat) : Int)
      have hb2 := yD_le hC hw (zam (yD C wt) i)
      by_cases hc : yD C wt ((i + 1 : Nat) : Int) < yD C wt (zam (yD C wt) i)
      · have e1 : zam (yD C wt) (i + 1) = ((i + 1 : Nat) : Int) := by simp only [zam]; rw [if_pos hc]
        rw [e1] at ih
        refine E_iload pf_39_12 rfl ?_
        refine E_aload pf_39_14 rfl ?_
        refine F_getf pf_39_15 rfl rfl rfl ?_
        refine E_icmp_ge_f pf_39_18 (by omega) ?_
        refine E_aload pf_39_21 rfl ?_
        refine E_iload pf_39_22 rfl ?_
        refine E_aload pf_39_24 rfl ?_
        refine F_v3v0 pf_39_25 (c38s hC (by omega)) (And.intro rfl (And.intro rfl (And.intro rfl (trivial)))) rfl rfl ?_
        refine E_lstore (lv' := [_, _, _, _, _, _, _, _]) pf_39_28 rfl rfl ?_
        refine E_lload pf_39_30 rfl ?_
        refine E_lload pf_39_32 rfl ?_
        refine E_lcmp_ge_f pf_39_33 pf_39_34 (by omega) ?_
        refine E_lload pf_39_37 rfl ?_
        refine E_lstore (lv' := [_, _, _, _, _, _, _, _]) pf_39_39 rfl rfl ?_
        refine E_iload pf_39_40 rfl ?_
        refine E_istore (lv' := [_, _, _, _, _, _, _, _]) pf_39_42 rfl rfl ?_
        refine E_iinc (lv' := [_, _, _, _, _, _, _, _]) pf_39_43 rfl rfl ?_
        refine E_goto pf_39_46 ?_
        exact ih _ _ (by omega)
      · have e1 : zam (yD C wt) (i + 1) = zam (yD C wt) i := by simp only [zam]; rw [if_neg hc]
        rw [e1] at ih
        refine E_iload pf_39_12 rfl ?_
        refine E_aload pf_39_14 rfl ?_
        refine F_getf pf_39_15 rfl rfl rfl ?_
        refine E_icmp_ge_f pf_39_18 (by omega) ?_
        refine E_aload pf_39_21 rfl ?_
        refine E_iload pf_39_22 rfl ?_
        refine E_aload pf_39_24 rfl ?_
        refine F_v3v0 pf_39_25 (c38s hC (by omega)) (And.intro rfl (And.intro rfl (And.intro rfl (trivial)))) rfl rfl ?_
        refine E_lstore (lv' := [_, _, _, _, _, _, _, _]) pf_39_28 rfl rfl ?_
        refine E_lload pf_39_30 rfl ?_
        refine E_lload pf_39_32 rfl ?_
        refine E_lcmp_ge_t pf_39_33 pf_39_34 (by omega) ?_
        refine E_iinc (lv' := [_, _, _, _, _, _, _, _]) pf_39_43 rfl rfl ?_
        refine E_goto pf_39_46 ?_
        exact ih _ _ (by omega)
  refine E_iconst pf_39_0 ?_
  refine E_istore (lv' := [_, _, _, _, _, _, _, _]) pf_39_1 rfl rfl ?_
  refine E_aload pf_39_2 rfl ?_
  refine E_iconst pf_39_3 ?_
  refine E_aload pf_39_4 rfl ?_
  refine F_v3v0 pf_39_5 (c38s hC (by omega)) (And.intro rfl (And.intro rfl (And.intro rfl (trivial)))) rfl rfl ?_
  refine E_lstore (lv' := [_, _, _, _, _, _, _, _]) pf_39_8 rfl rfl ?_
  refine E_iconst pf_39_9 ?_
  refine E_istore (lv' := [_, _, _, _, _, _, _, _]) pf_39_10 rfl rfl ?_
  exact loop (vn - 1) 0 _ _ (by omega)
theorem c38f {i : Int} (hC : ∀ k, -9 ≤ C k ∧ C k ≤ 9) (hi : 0 ≤ i ∧ i < 24) : ∀ h, Ca 38 [.ref 13, .int (ii i), .ref 100] (wd [(13, oP d k (vn : Int)), (14, ar 96 C), (100, lr 4 wt)] h) (.inl (some (.long (ll (yD C wt i)))), wd [(13, oP d k (vn : Int)), (14, ar 96 C), (100, lr 4 wt)] h) := by
  intro h
  refine E_in (lv := [_, _, _, _, _, _]) rfl ?_
  have loop : ∀ (n q : Nat), q + n = 4 → Rn 38 5 [.ref 13, .int (ii i), .ref 100, .long (ll (zs (fun j => C (i * 4 + j) * wt j) q)), pd_dum, .int (ii (q : Int))] [] (wd [(13, oP d k (vn : Int)), (14, ar 96 C), (100, lr 4 wt)] h) (.inl (some (.long (ll (yD C wt i)))), wd [(13, oP d k (vn : Int)), (14, ar 96 C), (100, lr 4 wt)] h) := by
    intro n
    induction n with
    | zero =>
      intro q hq
      obtain rfl : q = 4 := by omega
      refine E_iload pf_38_5 rfl ?_
      refine E_iconst pf_38_7 ?_
      refine E_icmp_ge_t pf_38_8 (by omega) ?_
      refine E_lload pf_38_33 rfl ?_
      exact E_lret pf_38_34 rfl
    | succ n ih =>
      intro q hq
      have ih := ih (q + 1) (by omega)
      have hb := hC (i * 4 + q)
      refine E_iload pf_38_5 rfl ?_
      refine E_iconst pf_38_7 ?_
      refine E_icmp_ge_f pf_38_8 (by omega) ?_
      refine E_lload pf_38_11 rfl ?_
      refine E_aload pf_38_12 rfl ?_
      refine E_iload pf_38_13 rfl ?_
      refine E_iload pf_38_14 rfl ?_
      refine F_v3v0 pf_38_16 (c28 (by omega) (by omega)) (And.intro rfl (And.intro rfl (trivial))) rfl rfl ?_
      refine E_i2l pf_38_19 (by omega) ?_
      refine E_aload pf_38_20 rfl ?_
      refine E_iload pf_38_21 rfl ?_
      refine F_lald pf_38_23 rfl (by omega) ?_
      refine E_lmul pf_38_24 ?_
      refine E_ladd pf_38_25 ?_
      refine E_lstore (lv' := [_, _, _, _, _, _]) pf_38_26 rfl rfl ?_
      refine E_iinc (lv' := [_, _, _, _, _, _]) pf_38_27 rfl rfl ?_
      refine E_goto pf_38_30 ?_
      exact ih
  refine E_lconst pf_38_0 ?_
  refine E_lstore (lv' := [_, _, _, _, _, _]) pf_38_1 rfl rfl ?_
  refine E_iconst pf_38_2 ?_
  refine E_istore (lv' := [_, _, _, _, _, _]) pf_38_3 rfl rfl ?_
  exact loop 4 0 (by omega)
theorem c39f (hC : ∀ k, -9 ≤ C k ∧ C k ≤ 9) (hw : ∀ j : Int, 0 ≤ j → j < 4 → -1000000000 ≤ wt j ∧ wt j ≤ 1000000000) (hv : 1 ≤ vn ∧ vn ≤ 24) : ∀ h, Ca 39 [.ref 13, .ref 100] (wd [(13, oP d k (vn : Int)), (14, ar 96 C), (100, lr 4 wt)] h) (.inl (some (.int (ii (zam (yD C wt) (vn - 1))))), wd [(13, oP d k (vn : Int)), (14, ar 96 C), (100, lr 4 wt)] h) := by
  intro h
  refine E_in (lv := [_, _, _, _, _, _, _, _]) rfl ?_
  have loop : ∀ (n i : Nat) (w6 w7 : Value), i + n = vn - 1 → Rn 39 12 [.ref 13, .ref 100, .int (ii (zam (yD C wt) i)), .long (ll (yD C wt (zam (yD C wt) i))), pd_dum, .int (ii ((i + 1 : Nat) : Int)), w6, w7] [] (wd [(13, oP d k (vn : Int)), (14, ar 96 C), (100, lr 4 wt)] h) (.inl (some (.int (ii (zam (yD C wt) (vn - 1))))), wd [(13, oP d k (vn : Int)), (14, ar 96 C), (100, lr 4 wt)] h) := by
    intro n
    induction n with
    | zero =>
      intro i w6 w7 hi
      obtain rfl : i = vn - 1 := by omega
      refine E_iload pf_39_12 rfl ?_
      refine E_aload pf_39_14 rfl ?_
      refine F_getf pf_39_15 rfl rfl rfl ?_
      refine E_icmp_ge_t pf_39_18 (by omega) ?_
      refine E_iload pf_39_49 rfl ?_
      exact E_iret pf_39_50 rfl
    | succ n ih =>
      intro i w6 w7 hi
      have ih := ih (i + 1)
      have hb1 := yD_le hC hw ((i + 1 : Nat) : Int)
      have hb2 := yD_le hC hw (zam (yD C wt) i)
      by_cases hc : yD C wt ((i + 1 : Nat) : Int) < yD C wt (zam (yD C wt) i)
      · have e1 : zam (yD C wt) (i + 1) = ((i + 1 : Nat) : Int) := by simp only [zam]; rw [if_pos hc]
        rw [e1] at ih
        refine E_iload pf_39_12 rfl ?_
        refine E_aload pf_39_14 rfl ?_
        refine F_getf pf_39_15 rfl rfl rfl ?_
        refine E_icmp_ge_f pf_39_18 (by omega) ?_
        refine E_aload pf_39_21 rfl ?_
        refine E_iload pf_39_22 rfl ?_
        refine E_aload pf_39_24 rfl ?_
        refine F_v3v0 pf_39_25 (c38f hC (by omega)) (And.intro rfl (And.intro rfl (And.intro rfl (trivial)))) rfl rfl ?_
        refine E_lstore (lv' := [_, _, _, _, _, _, _, _]) pf_39_28 rfl rfl ?_
        refine E_lload pf_39_30 rfl ?_
        refine E_lload pf_39_32 rfl ?_
        refine E_lcmp_ge_f pf_39_33 pf_39_34 (by omega) ?_
        refine E_lload pf_39_37 rfl ?_
        refine E_lstore (lv' := [_, _, _, _, _, _, _, _]) pf_39_39 rfl rfl ?_
        refine E_iload pf_39_40 rfl ?_
        refine E_istore (lv' := [_, _, _, _, _, _, _, _]) pf_39_42 rfl rfl ?_
        refine E_iinc (lv' := [_, _, _, _, _, _, _, _]) pf_39_43 rfl rfl ?_
        refine E_goto pf_39_46 ?_
        exact ih _ _ (by omega)
      · have e1 : zam (yD C wt) (i + 1) = zam (yD C wt) i := by simp only [zam]; rw [if_neg hc]
        rw [e1] at ih
        refine E_iload pf_39_12 rfl ?_
        refine E_aload pf_39_14 rfl ?_
        refine F_getf pf_39_15 rfl rfl rfl ?_
        refine E_icmp_ge_f pf_39_18 (by omega) ?_
        refine E_aload pf_39_21 rfl ?_
        refine E_iload pf_39_22 rfl ?_
        refine E_aload pf_39_24 rfl ?_
        refine F_v3v0 pf_39_25 (c38f hC (by omega)) (And.intro rfl (And.intro rfl (And.intro rfl (trivial)))) rfl rfl ?_
        refine E_lstore (lv' := [_, _, _, _, _, _, _, _]) pf_39_28 rfl rfl ?_
        refine E_lload pf_39_30 rfl ?_
        refine E_lload pf_39_32 rfl ?_
        refine E_lcmp_ge_t pf_39_33 pf_39_34 (by omega) ?_
        refine E_iinc (lv' := [_, _, _, _, _, _, _, _]) pf_39_43 rfl rfl ?_
        refine E_goto pf_39_46 ?_
        exact ih _ _ (by omega)
  refine E_iconst pf_39_0 ?_
  refine E_istore (lv' := [_, _, _, _, _, _, _, _]) pf_39_1 rfl rfl ?_
  refine E_aload pf_39_2 rfl ?_
  refine E_iconst pf_39_3 ?_
  refine E_aload pf_39_4 rfl ?_
  refine F_v3v0 pf_39_5 (c38f hC (by omega)) (And.intro rfl (And.intro rfl (And.intro rfl (trivial)))) rfl rfl ?_
  refine E_lstore (lv' := [_, _, _, _, _, _, _, _]) pf_39_8 rfl rfl ?_
  refine E_iconst pf_39_9 ?_
  refine E_istore (lv' := [_, _, _, _, _, _, _, _]) pf_39_10 rfl rfl ?_
  exact loop (vn - 1) 0 _ _ (by omega)
theorem c55s {q j : Int} (hq : 0 ≤ q ∧ q < 4) (hj : 0 ≤ j ∧ j < 4) : ∀ h, Ca 55 [.ref 24, .int (ii q)] (wd [(24, oS24 (rn : Int) (m : Int) st dr), (25, ar 20 R)] h) (.inl (some (.int (ii (R (q * 5 + 4))))), wd [(24, oS24 (rn : Int) (m : Int) st dr), (25, ar 20 R)] h) := by
  intro h
  refine E_in (lv := [_, _]) rfl ?_
  refine E_aload pf_55_0 rfl ?_
  refine F_getf pf_55_1 rfl rfl rfl ?_
  refine E_iload pf_55_4 rfl ?_
  refine E_iconst pf_55_5 ?_
  refine E_imul pf_55_6 ?_
  refine E_iconst pf_55_7 ?_
  refine E_iadd pf_55_8 ?_
  refine F_iald pf_55_9 rfl (by omega) ?_
  exact E_iret pf_55_10 rfl
theorem c56s {q j : Int} (hq : 0 ≤ q ∧ q < 4) (hj : 0 ≤ j ∧ j < 4) : ∀ h, Ca 56 [.ref 24, .int (ii q), .int (ii j)] (wd [(24, oS24 (rn : Int) (m : Int) st dr), (25, ar 20 R)] h) (.inl (some (.int (ii (R (q * 5 + j))))), wd [(24, oS24 (rn : Int) (m : Int) st dr), (25, ar 20 R)] h) := by
  intro h
  refine E_in (lv := [_, _, _]) rfl ?_
  refine E_aload pf_56_0 rfl ?_
  refine F_getf pf_56_1 rfl rfl rfl ?_
  refine E_iload pf_56_4 rfl ?_
  refine E_iconst pf_56_5 ?_
  refine E_imul pf_56_6 ?_
  refine E_iload pf_56_7 rfl ?_
  refine E_iadd pf_56_8 ?_
  refine F_iald pf_56_9 rfl (by omega) ?_
  exact E_iret pf_56_10 rfl
theorem c57s19 {q : Int} (hq : 0 ≤ q ∧ q < 4) : ∀ h, Ca 57 [.ref 24, .int (ii q), .ref 19] (wd [(24, oS24 (rn : Int) (m : Int) st dr), (25, ar 20 R), (19, ar 4 x)] h) (.inl (some (.int (ii (yT R x q)))), wd [(24, oS24 (rn : Int) (m : Int) st dr), (25, ar 20 R), (19, ar 4 x)] h) := by
  intro h
  refine E_in (lv := [_, _, _, _, _]) rfl ?_
  have loop : ∀ (n i : Nat), i + n = 4 → Rn 57 5 [.ref 24, .int (ii q), .ref 19, .int (ii (zs (fun j => R (q * 5 + j) * x j) i)), .int (ii (i : Int))] [] (wd [(24, oS24 (rn : Int) (m : Int) st dr), (25, ar 20 R), (19, ar 4 x)] h) (.inl (some (.int (ii (yT R x q)))), wd [(24, oS24 (rn : Int) (m : Int) st dr), (25, ar 20 R), (19, ar 4 x)] h) := by
    intro n
    induction n with
    | zero =>
      intro i hi
      obtain rfl : i = 4 := by omega
      refine E_iload pf_57_5 rfl ?_
      refine E_iconst pf_57_7 ?_
      refine E_icmp_ge_t pf_57_8 (by omega) ?_
      refine E_iload pf_57_36 rfl ?_
      exact E_iret pf_57_37 rfl
    | succ n ih =>
      intro i hi
      have ih := ih (i + 1) (by omega)
      refine E_iload pf_57_5 rfl ?_
      refine E_iconst pf_57_7 ?_
      refine E_icmp_ge_f pf_57_8 (by omega) ?_
      refine E_iload pf_57_11 rfl ?_
      refine E_aload pf_57_12 rfl ?_
      refine F_getf pf_57_13 rfl rfl rfl ?_
      refine E_iload pf_57_16 rfl ?_
      refine E_iconst pf_57_17 ?_
      refine E_imul pf_57_18 ?_
      refine E_iload pf_57_19 rfl ?_
      refine E_iadd pf_57_21 ?_
      refine F_iald pf_57_22 rfl (by omega) ?_
      refine E_aload pf_57_23 rfl ?_
      refine E_iload pf_57_24 rfl ?_
      refine F_iald pf_57_26 rfl (by omega) ?_
      refine E_imul pf_57_27 ?_
      refine E_iadd pf_57_28 ?_
      refine E_istore (lv' := [_, _, _, _, _]) pf_57_29 rfl rfl ?_
      refine E_iinc (lv' := [_, _, _, _, _]) pf_57_30 rfl rfl ?_
      refine E_goto pf_57_33 ?_
      exact ih
  refine E_iconst pf_57_0 ?_
  refine E_istore (lv' := [_, _, _, _, _]) pf_57_1 rfl rfl ?_
  refine E_iconst pf_57_2 ?_
  refine E_istore (lv' := [_, _, _, _, _]) pf_57_3 rfl rfl ?_
  exact loop 4 0 (by omega)
theorem c57s22 {q : Int} (hq : 0 ≤ q ∧ q < 4) : ∀ h, Ca 57 [.ref 24, .int (ii q), .ref 22] (wd [(24, oS24 (rn : Int) (m : Int) st dr), (25, ar 20 R), (22, ar 4 x)] h) (.inl (some (.int (ii (yT R x q)))), wd [(24, oS24 (rn : Int) (m : Int) st dr), (25, ar 20 R), (22, ar 4 x)] h) := by
  intro h
  refine E_in (lv := [_, _, _, _, _]) rfl ?_
  have loop : ∀ (n i : Nat), i + n = 4 → Rn 57 5 [.ref 24, .int (ii q), .ref 22, .int (ii (zs (fun j => R (q * 5 + j) * x j) i)), .int (ii (i : Int))] [] (wd [(24, oS24 (rn : Int) (m : Int) st dr), (25, ar 20 R), (22, ar 4 x)] h) (.inl (some (.int (ii (yT R x q)))), wd [(24, oS24 (rn : Int) (m : Int) st dr), (25, ar 20 R), (22, ar 4 x)] h) := by
    intro n
    induction n with
    | zero =>
      intro i hi
      obtain rfl : i = 4 := by omega
      refine E_iload pf_57_5 rfl ?_
      refine E_iconst pf_57_7 ?_
      refine E_icmp_ge_t pf_57_8 (by omega) ?_
      refine E_iload pf_57_36 rfl ?_
      exact E_iret pf_57_37 rfl
    | succ n ih =>
      intro i hi
      have ih := ih (i + 1) (by omega)
      refine E_iload pf_57_5 rfl ?_
      refine E_iconst pf_57_7 ?_
      refine E_icmp_ge_f pf_57_8 (by omega) ?_
      refine E_iload pf_57_11 rfl ?_
      refine E_aload pf_57_12 rfl ?_
      refine F_getf pf_57_13 rfl rfl rfl ?_
      refine E_iload pf_57_16 rfl ?_
      refine E_iconst pf_57_17 ?_
      refine E_imul pf_57_18 ?_
      refine E_iload pf_57_19 rfl ?_
      refine E_iadd pf_57_21 ?_
      refine F_iald pf_57_22 rfl (by omega) ?_
      refine E_aload pf_57_23 rfl ?_
      refine E_iload pf_57_24 rfl ?_
      refine F_iald pf_57_26 rfl (by omega) ?_
      refine E_imul pf_57_27 ?_
      refine E_iadd pf_57_28 ?_
      refine E_istore (lv' := [_, _, _, _, _]) pf_57_29 rfl rfl ?_
      refine E_iinc (lv' := [_, _, _, _, _]) pf_57_30 rfl rfl ?_
      refine E_goto pf_57_33 ?_
      exact ih
  refine E_iconst pf_57_0 ?_
  refine E_istore (lv' := [_, _, _, _, _]) pf_57_1 rfl rfl ?_
  refine E_iconst pf_57_2 ?_
  refine E_istore (lv' := [_, _, _, _, _]) pf_57_3 rfl rfl ?_
  exact loop 4 0 (by omega)
theorem c2s (hrn : 1 ≤ rn ∧ rn ≤ 4) : ∀ h, Ca 2 [.ref 18, .ref 24] (wd [(18, oD pu be), (19, ar 4 x), (20, ar 4 rs), (24, oS24 (rn : Int) (m : Int) st dr), (25, ar 20 R)] h) (.inl none, wd [(18, oD pu be), (19, ar 4 x), (20, ar 4 (zfill rs (yRs R x) rn)), (24, oS24 (rn : Int) (m : Int) st dr), (25, ar 20 R)] h) := by
  intro h
  refine E_in (lv := [_, _, _]) rfl ?_
  have loop : ∀ (n i : Nat), i + n = rn → Rn 2 2 [.ref 18, .ref 24, .int (ii (i : Int))] [] (wd [(18, oD pu be), (19, ar 4 x), (20, ar 4 (zfill rs (yRs R x) i)), (24, oS24 (rn : Int) (m : Int) st dr), (25, ar 20 R)] h) (.inl none, wd [(18, oD pu be), (19, ar 4 x), (20, ar 4 (zfill rs (yRs R x) rn)), (24, oS24 (rn : Int) (m : Int) st dr), (25, ar 20 R)] h) := by
    intro n
    induction n with
    | zero =>
      intro i hi
      obtain rfl : i = rn := by omega
      refine E_iload pf_2_2 rfl ?_
      refine E_aload pf_2_3 rfl ?_
      refine F_getf pf_2_4 rfl rfl rfl ?_
      refine E_icmp_ge_t pf_2_7 (by omega) ?_
      exact E_vret pf_2_40 rfl
    | succ n ih =>
      intro i hi
      have ih := ih (i + 1) (by omega)
      rw [zfill_s rs _ i] at ih
      refine E_iload pf_2_2 rfl ?_
      refine E_aload pf_2_3 rfl ?_
      refine F_getf pf_2_4 rfl rfl rfl ?_
      refine E_icmp_ge_f pf_2_7 (by omega) ?_
      refine E_aload pf_2_10 rfl ?_
      refine F_getf pf_2_11 rfl rfl rfl ?_
      refine E_iload pf_2_14 rfl ?_
      refine E_aload pf_2_15 rfl ?_
      refine E_iload pf_2_16 rfl ?_
      refine E_aload pf_2_17 rfl ?_
      refine F_getf pf_2_18 rfl rfl rfl ?_
      refine F_v3v0 pf_2_21 (c57s19 (by omega)) (And.intro rfl (And.intro rfl (And.intro rfl (trivial)))) rfl rfl ?_
      refine E_iconst pf_2_24 ?_
      refine E_aload pf_2_26 rfl ?_
      refine E_iload pf_2_27 rfl ?_
      refine F_v2v0 pf_2_28 (c55s (j := 0) (by omega) (by omega)) (And.intro rfl (And.intro rfl (trivial))) rfl rfl ?_
      refine E_imul pf_2_31 ?_
      refine E_isub pf_2_32 ?_
      refine F_iast (l' := [(_, _), (_, _), (_, _), (_, _), (_, _)]) pf_2_33 rfl (by omega) rfl ?_
      refine E_iinc (lv' := [_, _, _]) pf_2_34 rfl rfl ?_
      refine E_goto pf_2_37 ?_
      exact ih
  refine E_iconst pf_2_0 ?_
  refine E_istore (lv' := [_, _, _]) pf_2_1 rfl rfl ?_
  have h0 := loop rn 0 (by omega)
  rw [zfill_0] at h0
  exact h0
theorem c3s (hrn : 1 ≤ rn ∧ rn ≤ 4) (hr : ∀ k : Int, 0 ≤ k → k < rn → -2000000 ≤ rs k ∧ rs k ≤ 2000000) : ∀ h, Ca 3 [.ref 18, .ref 24] (wd [(18, oD pu be), (20, ar 4 rs), (24, oS24 (rn : Int) (m : Int) st dr)] h) (.inl (some (.long (ll (zs (fun k => rs k * rs k) rn)))), wd [(18, oD pu be), (20, ar 4 rs), (24, oS24 (rn : Int) (m : Int) st dr)] h) := by
  intro h
  refine E_in (lv := [_, _, _, _, _]) rfl ?_
  have loop : ∀ (n i : Nat), i + n = rn → Rn 3 5 [.ref 18, .ref 24, .long (ll (zs (fun k => rs k * rs k) i)), pd_dum, .int (ii (i : Int))] [] (wd [(18, oD pu be), (20, ar 4 rs), (24, oS24 (rn : Int) (m : Int) st dr)] h) (.inl (some (.long (ll (zs (fun k => rs k * rs k) rn)))), wd [(18, oD pu be), (20, ar 4 rs), (24, oS24 (rn : Int) (m : Int) st dr)] h) := by
    intro n
    induction n with
    | zero =>
      intro i hi
      obtain rfl : i = rn := by omega
      refine E_iload pf_3_5 rfl ?_
      refine E_aload pf_3_7 rfl ?_
      refine F_getf pf_3_8 rfl rfl rfl ?_
      refine E_icmp_ge_t pf_3_11 (by omega) ?_
      refine E_lload pf_3_40 rfl ?_
      exact E_lret pf_3_41 rfl
    | succ n ih =>
      intro i hi
      have ih := ih (i + 1) (by omega)
      have hb := hr i (by omega) (by omega)
      refine E_iload pf_3_5 rfl ?_
      refine E_aload pf_3_7 rfl ?_
      refine F_getf pf_3_8 rfl rfl rfl ?_
      refine E_icmp_ge_f pf_3_11 (by omega) ?_
      refine E_lload pf_3_14 rfl ?_
      refine E_aload pf_3_15 rfl ?_
      refine F_getf pf_3_16 rfl rfl rfl ?_
      refine E_iload pf_3_19 rfl ?_
      refine F_iald pf_3_21 rfl (by omega) ?_
      refine E_i2l pf_3_22 (by omega) ?_
      refine E_aload pf_3_23 rfl ?_
      refine F_getf pf_3_24 rfl rfl rfl ?_
      refine E_iload pf_3_27 rfl ?_
      refine F_iald pf_3_29 rfl (by omega) ?_
      refine E_i2l pf_3_30 (by omega) ?_
      refine E_lmul pf_3_31 ?_
      refine E_ladd pf_3_32 ?_
      refine E_lstore (lv' := [_, _, _, _, _]) pf_3_33 rfl rfl ?_
      refine E_iinc (lv' := [_, _, _, _, _]) pf_3_34 rfl rfl ?_
      refine E_goto pf_3_37 ?_
      exact ih
  refine E_lconst pf_3_0 ?_
  refine E_lstore (lv' := [_, _, _, _, _]) pf_3_1 rfl rfl ?_
  refine E_iconst pf_3_2 ?_
  refine E_istore (lv' := [_, _, _, _, _]) pf_3_3 rfl rfl ?_
  exact loop rn 0 (by omega)
theorem c1s (hs : sok vn R V U m) (hP : ppk C dn vn rn) : ∀ h, Ca 1 [.ref 18, .ref 24] (wd [(13, oP d k (vn : Int)), (14, ar 96 C), (18, oD pu be), (19, ar 4 x), (20, ar 4 rs), (21, lr 4 sl), (24, oS24 (rn : Int) (m : Int) st dr), (25, ar 20 R), (26, ar 24 V), (27, ar 24 U)] h) (.inl none, wd [(13, oP d k (vn : Int)), (14, ar 96 C), (18, oD pu be), (19, ar 4 (zfill x (yX V U C m) 4)), (20, ar 4 (zfill rs (yRs R (zfill x (yX V U C m) 4)) rn)), (21, lr 4 (zfill sl (yS R (zfill rs (yRs R (zfill x (yX V U C m) 4)) rn) rn) 4)), (24, oS24 (rn : Int) (m : Int) st dr), (25, ar 20 R), (26, ar 24 V), (27, ar 24 U)] h) := by
  intro h
  refine E_in (lv := [_, _, _, _, _, _]) rfl ?_
  have hvn := hP.2.1
  have hrn := hP.2.2.1
  have hC := hP.2.2.2
  obtain ⟨hm, hat, hR1, hR2⟩ := id hs
  have hxb : ∀ j : Int, 0 ≤ j → j < 4 → -21600 ≤ (zfill x (yX V U C m) 4) j ∧ (zfill x (yX V U C m) 4) j ≤ 21600 := fun j h1 h2 => by rw [zfill_at ⟨h1, h2⟩]; exact yX_le hs hC j
  have hrb : ∀ q : Int, 0 ≤ q → q < rn → -787500 ≤ (zfill rs (yRs R (zfill x (yX V U C m) 4)) rn) q ∧ (zfill rs (yRs R (zfill x (yX V U C m) 4)) rn) q ≤ 787500 := fun q h1 h2 => by rw [zfill_at ⟨h1, h2⟩]; exact yRs_le hs hxb (by omega)
  have inner2 : ∀ (j : Nat), j < 4 → Rn 1 118 [.ref 18, .ref 24, .int (ii (j : Int)), .long (ll (zs (fun k => (zfill rs (yRs R (zfill x (yX V U C m) 4)) rn) k * R (k * 5 + (j : Int))) rn)), pd_dum, .int (ii (rn : Int))] [] (wd [(13, oP d k (vn : Int)), (14, ar 96 C), (18, oD pu be), (19, ar 4 (zfill x (yX V U C m) 4)), (20, ar 4 (zfill rs (yRs R (zfill x (yX V U C m) 4)) rn)), (21, lr 4 (zfill sl (yS R (zfill rs (yRs R (zfill x (yX V U C m) 4)) rn) rn) j)), (24, oS24 (rn : Int) (m : Int) st dr), (25, ar 20 R), (26, ar 24 V), (27, ar 24 U)] h) (.inl none, wd [(13, oP d k (vn : Int)), (14, ar 96 C), (18, oD pu be), (19, ar 4 (zfill x (yX V U C m) 4)), (20, ar 4 (zfill rs (yRs R (zfill x (yX V U C m) 4)) rn)), (21, lr 4 (zfill sl (yS R (zfill rs (yRs R (zfill x (yX V U C m) 4)) rn) rn) 4)), (24, oS24 (rn : Int) (m : Int) st dr), (25, ar 20 R), (26, ar 24 V), (27, ar 24 U)] h) → ∀ (n i : Nat), i + n = rn → Rn 1 83 [.ref 18, .ref 24, .int (ii (j : Int)), .long (ll (zs (fun k => (zfill rs (yRs R (zfill x (yX V U C m) 4)) rn) k * R (k * 5 + (j : Int))) i)), pd_dum, .int (ii (i : Int))] [] (wd [(13, oP d k (vn : Int)), (14, ar 96 C), (18, oD pu be), (19, ar 4 (zfill x (yX V U C m) 4)), (20, ar 4 (zfill rs (yRs R (zfill x (yX V U C m) 4)) rn)), (21, lr 4 (zfill sl (yS R (zfill rs (yRs R (zfill x (yX V U C m) 4)) rn) rn) j)), (24, oS24 (rn : Int) (m : Int) st dr), (25, ar 20 R), (26, ar 24 V), (27, ar 24 U)] h) (.inl none, wd [(13, oP d k (vn : Int)), (14, ar 96 C), (18, oD pu be), (19, ar 4 (zfill x (yX V U C m) 4)), (20, ar 4 (zfill rs (yRs R (zfill x (yX V U C m) 4)) rn)), (21, lr 4 (zfill sl (yS R (zfill rs (yRs R (zfill x (yX V U C m) 4)) rn) rn) 4)), (24, oS24 (rn : Int) (m : Int) st dr), (25, ar 20 R), (26, ar 24 V), (27, ar 24 U)] h) := by
    intro j hj kk n
    induction n with
    | zero =>
      intro i hi
      obtain rfl : i = rn := by omega
      refine E_iload pf_1_83 rfl ?_
      refine E_aload pf_1_85 rfl ?_
      refine F_getf pf_1_86 rfl rfl rfl ?_
      refine E_icmp_ge_t pf_1_89 (by omega) ?_
      exact kk
    | succ n ih =>
      intro i hi
      have ih := ih (i + 1) (by omega)
      have hb := hrb i (by omega) (by omega)
      have hb2 := hR1 i j (by omega) (by omega) (by omega) (by omega)
      refine E_iload pf_1_83 rfl ?_
      refine E_aload pf_1_85 rfl ?_
      refine F_getf pf_1_86 rfl rfl rfl ?_
      refine E_icmp_ge_f pf_1_89 (by omega) ?_
      refine E_lload pf_1_92 rfl ?_
      refine E_aload pf_1_93 rfl ?_
      refine F_getf pf_1_94 rfl rfl rfl ?_
      refine E_iload pf_1_97 rfl ?_
      refine F_iald pf_1_99 rfl (by omega) ?_
      refine E_i2l pf_1_100 (by omega) ?_
      refine E_aload pf_1_101 rfl ?_
      refine E_iload pf_1_102 rfl ?_
      refine E_iload pf_1_104 rfl ?_
      refine F_v3v0 pf_1_105 (c56s (by omega) (by omega)) (And.intro rfl (And.intro rfl (trivial))) rfl rfl ?_
      refine E_i2l pf_1_108 (by omega) ?_
      refine E_lmul pf_1_109 ?_
      refine E_ladd pf_1_110 ?_
      refine E_lstore (lv' := [_, _, _, _, _, _]) pf_1_111 rfl rfl ?_
      refine E_iinc (lv' := [_, _, _, _, _, _]) pf_1_112 rfl rfl ?_
      refine E_goto pf_1_115 ?_
      exact ih
  have loop2 : ∀ (n j : Nat) (w3 w4 w5 : Value), j + n = 4 → Rn 1 73 [.ref 18, .ref 24, .int (ii (j : Int)), w3, w4, w5] [] (wd [(13, oP d k (vn : Int)), (14, ar 96 C), (18, oD pu be), (19, ar 4 (zfill x (yX V U C m) 4)), (20, ar 4 (zfill rs (yRs R (zfill x (yX V U C m) 4)) rn)), (21, lr 4 (zfill sl (yS R (zfill rs (yRs R (zfill x (yX V U C m) 4)) rn) rn) j)), (24, oS24 (rn : Int) (m : Int) st dr), (25, ar 20 R), (26, ar 24 V), (27, ar 24 U)] h) (.inl none, wd [(13, oP d k (vn : Int)), (14, ar 96 C), (18, oD pu be), (19, ar 4 (zfill x (yX V U C m) 4)), (20, ar 4 (zfill rs (yRs R (zfill x (yX V U C m) 4)) rn)), (21, lr 4 (zfill sl (yS R (zfill rs (yRs R (zfill x (yX V U C m) 4)) rn) rn) 4)), (24, oS24 (rn : Int) (m : Int) st dr), (25, ar 20 R), (26, ar 24 V), (27, ar 24 U)] h) := by
    intro n
    induction n with
    | zero =>
      intro j w3 w4 w5 hj
      obtain rfl : j = 4 := by omega
      refine E_iload pf_1_73 rfl ?_
      refine E_iconst pf_1_74 ?_
      refine E_icmp_ge_t pf_1_75 (by omega) ?_
      exact E_vret pf_1_135 rfl
    | succ n ih =>
      intro j w3 w4 w5 hj
      have ih := ih (j + 1)
      rw [zfill_s sl _ j] at ih
      refine E_iload pf_1_73 rfl ?_
      refine E_iconst pf_1_74 ?_
      refine E_icmp_ge_f pf_1_75 (by omega) ?_
      refine E_lconst pf_1_78 ?_
      refine E_lstore (lv' := [_, _, _, _, _, _]) pf_1_79 rfl rfl ?_
      refine E_iconst pf_1_80 ?_
      refine E_istore (lv' := [_, _, _, _, _, _]) pf_1_81 rfl rfl ?_
      refine inner2 j (by omega) ?_ rn 0 (by omega)
      refine E_aload pf_1_118 rfl ?_
      refine F_getf pf_1_119 rfl rfl rfl ?_
      refine E_iload pf_1_122 rfl ?_
      refine E_lconst pf_1_123 ?_
      refine E_lload pf_1_126 rfl ?_
      refine E_lmul pf_1_127 ?_
      refine F_last (l' := [(_, _), (_, _), (_, _), (_, _), (_, _), (_, _), (_, _), (_, _), (_, _), (_, _)]) pf_1_128 rfl (by omega) rfl ?_
      refine E_iinc (lv' := [_, _, _, _, _, _]) pf_1_129 rfl rfl ?_
      refine E_goto pf_1_132 ?_
      exact ih _ _ _ (by omega)
  have inner1 : ∀ (j : Nat) (w5 : Value), j < 4 → Rn 1 53 [.ref 18, .ref 24, .int (ii (j : Int)), .int (ii (yX V U C m j)), .int (ii (m : Int)), w5] [] (wd [(13, oP d k (vn : Int)), (14, ar 96 C), (18, oD pu be), (19, ar 4 (zfill x (yX V U C m) j)), (20, ar 4 rs), (21, lr 4 sl), (24, oS24 (rn : Int) (m : Int) st dr), (25, ar 20 R), (26, ar 24 V), (27, ar 24 U)] h) (.inl none, wd [(13, oP d k (vn : Int)), (14, ar 96 C), (18, oD pu be), (19, ar 4 (zfill x (yX V U C m) 4)), (20, ar 4 (zfill rs (yRs R (zfill x (yX V U C m) 4)) rn)), (21, lr 4 (zfill sl (yS R (zfill rs (yRs R (zfill x (yX V U C m) 4)) rn) rn) 4)), (24, oS24 (rn : Int) (m : Int) st dr), (25, ar 20 R), (26, ar 24 V), (27, ar 24 U)] h) → ∀ (n i : Nat), i + n = m → Rn 1 12 [.ref 18, .ref 24, .int (ii (j : Int)), .int (ii (yX V U C i j)), .int (ii (i : Int)), w5] [] (wd [(13, oP d k (vn : Int)), (14, ar 96 C), (18, oD pu be), (19, ar 4 (zfill x (yX V U C m) j)), (20, ar 4 rs), (21, lr 4 sl), (24, oS24 (rn : Int) (m : Int) st dr), (25, ar 20 R), (26, ar 24 V), (27, ar 24 U)] h) (.inl none, wd [(13, oP d k (vn : Int)), (14, ar 96 C), (18, oD pu be), (19, ar 4 (zfill x (yX V U C m) 4)), (20, ar 4 (zfill rs (yRs R (zfill x (yX V U C m) 4)) rn)), (21, lr 4 (zfill sl (yS R (zfill rs (yRs R (zfill x (yX V U C m) 4)) rn) rn) 4)), (24, oS24 (rn : Int) (m : Int) st dr), (25, ar 20 R), (26, ar 24 V), (27, ar 24 U)] h) := by
    intro j w5 hj kk n
    induction n with
    | zero =>
      intro i hi
      obtain rfl : i = m := by omega
      refine E_iload pf_1_12 rfl ?_
      refine E_aload pf_1_14 rfl ?_
      refine F_getf pf_1_15 rfl rfl rfl ?_
      refine E_icmp_ge_t pf_1_18 (by omega) ?_
      exact kk
    | succ n ih =>
      intro i hi
      have ih := ih (i + 1) (by omega)
      have hq := hat i (by omega) (by omega)
      refine E_iload pf_1_12 rfl ?_
      refine E_aload pf_1_14 rfl ?_
      refine F_getf pf_1_15 rfl rfl rfl ?_
      refine E_icmp_ge_f pf_1_18 (by omega) ?_
      refine E_iload pf_1_21 rfl ?_
      refine E_aload pf_1_22 rfl ?_
      refine F_getf pf_1_23 rfl rfl rfl ?_
      refine E_iload pf_1_26 rfl ?_
      refine F_iald pf_1_28 rfl (by omega) ?_
      refine E_aload pf_1_29 rfl ?_
      refine F_getf pf_1_30 rfl rfl rfl ?_
      refine E_aload pf_1_33 rfl ?_
      refine F_getf pf_1_34 rfl rfl rfl ?_
      refine E_iload pf_1_37 rfl ?_
      refine F_iald pf_1_39 rfl (by omega) ?_
      refine E_iload pf_1_40 rfl ?_
      refine F_v3v0 pf_1_41 (c28 (by omega) (by omega)) (And.intro rfl (And.intro rfl (trivial))) rfl rfl ?_
      refine E_imul pf_1_44 ?_
      refine E_iadd pf_1_45 ?_
      refine E_istore (lv' := [_, _, _, _, _, _]) pf_1_46 rfl rfl ?_
      refine E_iinc (lv' := [_, _, _, _, _, _]) pf_1_47 rfl rfl ?_
      refine E_goto pf_1_50 ?_
      exact ih
  have loop1 : ∀ (n j : Nat) (w3 w4 w5 : Value), pd_wide w4 = false → j + n = 4 → Rn 1 2 [.ref 18, .ref 24, .int (ii (j : Int)), w3, w4, w5] [] (wd [(13, oP d k (vn : Int)), (14, ar 96 C), (18, oD pu be), (19, ar 4 (zfill x (yX V U C m) j)), (20, ar 4 rs), (21, lr 4 sl), (24, oS24 (rn : Int) (m : Int) st dr), (25, ar 20 R), (26, ar 24 V), (27, ar 24 U)] h) (.inl none, wd [(13, oP d k (vn : Int)), (14, ar 96 C), (18, oD pu be), (19, ar 4 (zfill x (yX V U C m) 4)), (20, ar 4 (zfill rs (yRs R (zfill x (yX V U C m) 4)) rn)), (21, lr 4 (zfill sl (yS R (zfill rs (yRs R (zfill x (yX V U C m) 4)) rn) rn) 4)), (24, oS24 (rn : Int) (m : Int) st dr), (25, ar 20 R), (26, ar 24 V), (27, ar 24 U)] h) := by
    intro n
    induction n with
    | zero =>
      intro j w3 w4 w5 hw4 hj
      obtain rfl : j = 4 := by omega
      refine E_iload pf_1_2 rfl ?_
      refine E_iconst pf_1_3 ?_
      refine E_icmp_ge_t pf_1_4 (by omega) ?_
      refine E_aload pf_1_66 rfl ?_
      refine E_aload pf_1_67 rfl ?_
      refine F_v2u (l' := [(_, _), (_, _), (_, _), (_, _), (_, _), (_, _), (_, _), (_, _), (_, _), (_, _)]) pf_1_68 (c2s (by omega)) (And.intro rfl (And.intro rfl (And.intro rfl (And.intro rfl (And.intro rfl (trivial)))))) rfl rfl rfl rfl ?_
      refine E_iconst pf_1_71 ?_
      refine E_istore (lv' := [_, _, _, _, _, _]) pf_1_72 rfl rfl ?_
      have h0 := loop2 4 0 w3 w4 w5 (by omega)
      rw [zfill_0] at h0
      exact h0
    | succ n ih =>
      intro j w3 w4 w5 hw4 hj
      have ih := ih (j + 1)
      rw [zfill_s x _ j] at ih
      refine E_iload pf_1_2 rfl ?_
      refine E_iconst pf_1_3 ?_
      refine E_icmp_ge_f pf_1_4 (by omega) ?_
      refine E_iconst pf_1_7 ?_
      refine E_istore (lv' := [_, _, _, _, _, _]) pf_1_8 rfl rfl ?_
      refine E_iconst pf_1_9 ?_
      refine E_istore (lv' := [_, _, _, _, _, _]) pf_1_10 rfl rfl ?_
      refine inner1 j _ (by omega) ?_ m 0 (by omega)
      refine E_aload pf_1_53 rfl ?_
      refine F_getf pf_1_54 rfl rfl rfl ?_
      refine E_iload pf_1_57 rfl ?_
      refine E_iload pf_1_58 rfl ?_
      refine F_iast (l' := [(_, _), (_, _), (_, _), (_, _), (_, _), (_, _), (_, _), (_, _), (_, _), (_, _)]) pf_1_59 rfl (by omega) rfl ?_
      refine E_iinc (lv' := [_, _, _, _, _, _]) pf_1_60 rfl rfl ?_
      refine E_goto pf_1_63 ?_
      exact ih _ _ _ rfl (by omega)
  refine E_iconst pf_1_0 ?_
  refine E_istore (lv' := [_, _, _, _, _, _]) pf_1_1 rfl rfl ?_
  have h0 := loop1 4 0 pd_dum pd_dum pd_dum rfl (by omega)
  rw [zfill_0] at h0
  exact h0
theorem c55t {q j : Int} (hq : 0 ≤ q ∧ q < 4) (hj : 0 ≤ j ∧ j < 4) : ∀ h, Ca 55 [.ref 28, .int (ii q)] (wd [(28, oS28 (rn : Int) (m : Int) st dr), (29, ar 20 R)] h) (.inl (some (.int (ii (R (q * 5 + 4))))), wd [(28, oS28 (rn : Int) (m : Int) st dr), (29, ar 20 R)] h) := by
  intro h
  refine E_in (lv := [_, _]) rfl ?_
  refine E_aload pf_55_0 rfl ?_
  refine F_getf pf_55_1 rfl rfl rfl ?_
  refine E_iload pf_55_4 rfl ?_
  refine E_iconst pf_55_5 ?_
  refine E_imul pf_55_6 ?_
  refine E_iconst pf_55_7 ?_
  refine E_iadd pf_55_8 ?_
  refine F_iald pf_55_9 rfl (by omega) ?_
  exact E_iret pf_55_10 rfl
theorem c56t {q j : Int} (hq : 0 ≤ q ∧ q < 4) (hj : 0 ≤ j ∧ j < 4) : ∀ h, Ca 56 [.ref 28, .int (ii q), .int (ii j)] (wd [(28, oS28 (rn : Int) (m : Int) st dr), (29, ar 20 R)] h) (.inl (some (.int (ii (R (q * 5 + j))))), wd [(28, oS28 (rn : Int) (m : Int) st dr), (29, ar 20 R)] h) := by
  intro h
  refine E_in (lv := [_, _, _]) rfl ?_
  refine E_aload pf_56_0 rfl ?_
  refine F_getf pf_56_1 rfl rfl rfl ?_
  refine E_iload pf_56_4 rfl ?_
  refine E_iconst pf_56_5 ?_
  refine E_imul pf_56_6 ?_
  refine E_iload pf_56_7 rfl ?_
  refine E_iadd pf_56_8 ?_
  refine F_iald pf_56_9 rfl (by omega) ?_
  exact E_iret pf_56_10 rfl
theorem c57t19 {q : Int} (hq : 0 ≤ q ∧ q < 4) : ∀ h, Ca 57 [.ref 28, .int (ii q), .ref 19] (wd [(28, oS28 (rn : Int) (m : Int) st dr), (29, ar 20 R), (19, ar 4 x)] h) (.inl (some (.int (ii (yT R x q)))), wd [(28, oS28 (rn : Int) (m : Int) st dr), (29, ar 20 R), (19, ar 4 x)] h) := by
  intro h
  refine E_in (lv := [_, _, _, _, _]) rfl ?_
  have loop : ∀ (n i : Nat), i + n = 4 → Rn 57 5 [.ref 28, .int (ii q), .ref 19, .int (ii (zs (fun j => R (q * 5 + j) * x j) i)), .int (ii (i : Int))] [] (wd [(28, oS28 (rn : Int) (m : Int) st dr), (29, ar 20 R), (19, ar 4 x)] h) (.inl (some (.int (ii (yT R x q)))), wd [(28, oS28 (rn : Int) (m : Int) st dr), (29, ar 20 R), (19, ar 4 x)] h) := by
    intro n
    induction n with
    | zero =>
      intro i hi
      obtain rfl : i = 4 := by omega
      refine E_iload pf_57_5 rfl ?_
      refine E_iconst pf_57_7 ?_
      refine E_icmp_ge_t pf_57_8 (by omega) ?_
      refine E_iload pf_57_36 rfl ?_
      exact E_iret pf_57_37 rfl
    | succ n ih =>
      intro i hi
      have ih := ih (i + 1) (by omega)
      refine E_iload pf_57_5 rfl ?_
      refine E_iconst pf_57_7 ?_
      refine E_icmp_ge_f pf_57_8 (by omega) ?_
      refine E_iload pf_57_11 rfl ?_
      refine E_aload pf_57_12 rfl ?_
      refine F_getf pf_57_13 rfl rfl rfl ?_
      refine E_iload pf_57_16 rfl ?_
      refine E_iconst pf_57_17 ?_
      refine E_imul pf_57_18 ?_
      refine E_iload pf_57_19 rfl ?_
      refine E_iadd pf_57_21 ?_
      refine F_iald pf_57_22 rfl (by omega) ?_
      refine E_aload pf_57_23 rfl ?_
      refine E_iload pf_57_24 rfl ?_
      refine F_iald pf_57_26 rfl (by omega) ?_
      refine E_imul pf_57_27 ?_
      refine E_iadd pf_57_28 ?_
      refine E_istore (lv' := [_, _, _, _, _]) pf_57_29 rfl rfl ?_
      refine E_iinc (lv' := [_, _, _, _, _]) pf_57_30 rfl rfl ?_
      refine E_goto pf_57_33 ?_
      exact ih
  refine E_iconst pf_57_0 ?_
  refine E_istore (lv' := [_, _, _, _, _]) pf_57_1 rfl rfl ?_
  refine E_iconst pf_57_2 ?_
  refine E_istore (lv' := [_, _, _, _, _]) pf_57_3 rfl rfl ?_
  exact loop 4 0 (by omega)
theorem c57t22 {q : Int} (hq : 0 ≤ q ∧ q < 4) : ∀ h, Ca 57 [.ref 28, .int (ii q), .ref 22] (wd [(28, oS28 (rn : Int) (m : Int) st dr), (29, ar 20 R), (22, ar 4 x)] h) (.inl (some (.int (ii (yT R x q)))), wd [(28, oS28 (rn : Int) (m : Int) st dr), (29, ar 20 R), (22, ar 4 x)] h) := by
  intro h
  refine E_in (lv := [_, _, _, _, _]) rfl ?_
  have loop : ∀ (n i : Nat), i + n = 4 → Rn 57 5 [.ref 28, .int (ii q), .ref 22, .int (ii (zs (fun j => R (q * 5 + j) * x j) i)), .int (ii (i : Int))] [] (wd [(28, oS28 (rn : Int) (m : Int) st dr), (29, ar 20 R), (22, ar 4 x)] h) (.inl (some (.int (ii (yT R x q)))), wd [(28, oS28 (rn : Int) (m : Int) st dr), (29, ar 20 R), (22, ar 4 x)] h) := by
    intro n
    induction n with
    | zero =>
      intro i hi
      obtain rfl : i = 4 := by omega
      refine E_iload pf_57_5 rfl ?_
      refine E_iconst pf_57_7 ?_
      refine E_icmp_ge_t pf_57_8 (by omega) ?_
      refine E_iload pf_57_36 rfl ?_
      exact E_iret pf_57_37 rfl
    | succ n ih =>
      intro i hi
      have ih := ih (i + 1) (by omega)
      refine E_iload pf_57_5 rfl ?_
      refine E_iconst pf_57_7 ?_
      refine E_icmp_ge_f pf_57_8 (by omega) ?_
      refine E_iload pf_57_11 rfl ?_
      refine E_aload pf_57_12 rfl ?_
      refine F_getf pf_57_13 rfl rfl rfl ?_
      refine E_iload pf_57_16 rfl ?_
      refine E_iconst pf_57_17 ?_
      refine E_imul pf_57_18 ?_
      refine E_iload pf_57_19 rfl ?_
      refine E_iadd pf_57_21 ?_
      refine F_iald pf_57_22 rfl (by omega) ?_
      refine E_aload pf_57_23 rfl ?_
      refine E_iload pf_57_24 rfl ?_
      refine F_iald pf_57_26 rfl (by omega) ?_
      refine E_imul pf_57_27 ?_
      refine E_iadd pf_57_28 ?_
      refine E_istore (lv' := [_, _, _, _, _]) pf_57_29 rfl rfl ?_
      refine E_iinc (lv' := [_, _, _, _, _]) pf_57_30 rfl rfl ?_
      refine E_goto pf_57_33 ?_
      exact ih
  refine E_iconst pf_57_0 ?_
  refine E_istore (lv' := [_, _, _, _, _]) pf_57_1 rfl rfl ?_
  refine E_iconst pf_57_2 ?_
  refine E_istore (lv' := [_, _, _, _, _]) pf_57_3 rfl rfl ?_
  exact loop 4 0 (by omega)
theorem c2t (hrn : 1 ≤ rn ∧ rn ≤ 4) : ∀ h, Ca 2 [.ref 18, .ref 28] (wd [(18, oD pu be), (19, ar 4 x), (20, ar 4 rs), (28, oS28 (rn : Int) (m : Int) st dr), (29, ar 20 R)] h) (.inl none, wd [(18, oD pu be), (19, ar 4 x), (20, ar 4 (zfill rs (yRs R x) rn)), (28, oS28 (rn : Int) (m : Int) st dr), (29, ar 20 R)] h) := by
  intro h
  refine E_in (lv := [_, _, _]) rfl ?_
  have loop : ∀ (n i : Nat), i + n = rn → Rn 2 2 [.ref 18, .ref 28, .int (ii (i : Int))] [] (wd [(18, oD pu be), (19, ar 4 x), (20, ar 4 (zfill rs (yRs R x) i)), (28, oS28 (rn : Int) (m : Int) st dr), (29, ar 20 R)] h) (.inl none, wd [(18, oD pu be), (19, ar 4 x), (20, ar 4 (zfill rs (yRs R x) rn)), (28, oS28 (rn : Int) (m : Int) st dr), (29, ar 20 R)] h) := by
    intro n
    induction n with
    | zero =>
      intro i hi
      obtain rfl : i = rn := by omega
      refine E_iload pf_2_2 rfl ?_
      refine E_aload pf_2_3 rfl ?_
      refine F_getf pf_2_4 rfl rfl rfl ?_
      refine E_icmp_ge_t pf_2_7 (by omega) ?_
      exact E_vret pf_2_40 rfl
    | succ n ih =>
      intro i hi
      have ih := ih (i + 1) (by omega)
      rw [zfill_s rs _ i] at ih
      refine E_iload pf_2_2 rfl ?_
      refine E_aload pf_2_3 rfl ?_
      refine F_getf pf_2_4 rfl rfl rfl ?_
      refine E_icmp_ge_f pf_2_7 (by omega) ?_
      refine E_aload pf_2_10 rfl ?_
      refine F_getf pf_2_11 rfl rfl rfl ?_
      refine E_iload pf_2_14 rfl ?_
      refine E_aload pf_2_15 rfl ?_
      refine E_iload pf_2_16 rfl ?_
      refine E_aload pf_2_17 rfl ?_
      refine F_getf pf_2_18 rfl rfl rfl ?_
      refine F_v3v0 pf_2_21 (c57t19 (by omega)) (And.intro rfl (And.intro rfl (And.intro rfl (trivial)))) rfl rfl ?_
      refine E_iconst pf_2_24 ?_
      refine E_aload pf_2_26 rfl ?_
      refine E_iload pf_2_27 rfl ?_
      refine F_v2v0 pf_2_28 (c55t (j := 0) (by omega) (by omega)) (And.intro rfl (And.intro rfl (trivial))) rfl rfl ?_
      refine E_imul pf_2_31 ?_
      refine E_isub pf_2_32 ?_
      refine F_iast (l' := [(_, _), (_, _), (_, _), (_, _), (_, _)]) pf_2_33 rfl (by omega) rfl ?_
      refine E_iinc (lv' := [_, _, _]) pf_2_34 rfl rfl ?_
      refine E_goto pf_2_37 ?_
      exact ih
  refine E_iconst pf_2_0 ?_
  refine E_istore (lv' := [_, _, _]) pf_2_1 rfl rfl ?_
  have h0 := loop rn 0 (by omega)
  rw [zfill_0] at h0
  exact h0
theorem c3t (hrn : 1 ≤ rn ∧ rn ≤ 4) (hr : ∀ k : Int, 0 ≤ k → k < rn → -2000000 ≤ rs k ∧ rs k ≤ 2000000) : ∀ h, Ca 3 [.ref 18, .ref 28] (wd [(18, oD pu be), (20, ar 4 rs), (28, oS28 (rn : Int) (m : Int) st dr)] h) (.inl (some (.long (ll (zs (fun k => rs k * rs k) rn)))), wd [(18, oD pu be), (20, ar 4 rs), (28, oS28 (rn : Int) (m : Int) st dr)] h) := by
  intro h
  refine E_in (lv := [_, _, _, _, _]) rfl ?_
  have loop : ∀ (n i : Nat), i + n = rn → Rn 3 5 [.ref 18, .ref 28, .long (ll (zs (fun k => rs k * rs k) i)), pd_dum, .int (ii (i : Int))] [] (wd [(18, oD pu be), (20, ar 4 rs), (28, oS28 (rn : Int) (m : Int) st dr)] h) (.inl (some (.long (ll (zs (fun k => rs k * rs k) rn)))), wd [(18, oD pu be), (20, ar 4 rs), (28, oS28 (rn : Int) (m : Int) st dr)] h) := by
    intro n
    induction n with
    | zero =>
      intro i hi
      obtain rfl : i = rn := by omega
      refine E_iload pf_3_5 rfl ?_
      refine E_aload pf_3_7 rfl ?_
      refine F_getf pf_3_8 rfl rfl rfl ?_
      refine E_icmp_ge_t pf_3_11 (by omega) ?_
      refine E_lload pf_3_40 rfl ?_
      exact E_lret pf_3_41 rfl
    | succ n ih =>
      intro i hi
      have ih := ih (i + 1) (by omega)
      have hb := hr i (by omega) (by omega)
      refine E_iload pf_3_5 rfl ?_
      refine E_aload pf_3_7 rfl ?_
      refine F_getf pf_3_8 rfl rfl rfl ?_
      refine E_icmp_ge_f pf_3_11 (by omega) ?_
      refine E_lload pf_3_14 rfl ?_
      refine E_aload pf_3_15 rfl ?_
      refine F_getf pf_3_16 rfl rfl rfl ?_
      refine E_iload pf_3_19 rfl ?_
      refine F_iald pf_3_21 rfl (by omega) ?_
      refine E_i2l pf_3_22 (by omega) ?_
      refine E_aload pf_3_23 rfl ?_
      refine F_getf pf_3_24 rfl rfl rfl ?_
      refine E_iload pf_3_27 rfl ?_
      refine F_iald pf_3_29 rfl (by omega) ?_
      refine E_i2l pf_3_30 (by omega) ?_
      refine E_lmul pf_3_31 ?_
      refine E_ladd pf_3_32 ?_
      refine E_lstore (lv' := [_, _, _, _, _]) pf_3_33 rfl rfl ?_
      refine E_iinc (lv' := [_, _, _, _, _]) pf_3_34 rfl rfl ?_
      refine E_goto pf_3_37 ?_
      exact ih
  refine E_lconst pf_3_0 ?_
  refine E_lstore (lv' := [_, _, _, _, _]) pf_3_1 rfl rfl ?_
  refine E_iconst pf_3_2 ?_
  refine E_istore (lv' := [_, _, _, _, _]) pf_3_3 rfl rfl ?_
  exact loop rn 0 (by omega)
theorem c1t (hs : sok vn R V U m) (hP : ppk C dn vn rn) : ∀ h, Ca 1 [.ref 18, .ref 28] (wd [(13, oP d k (vn : Int)), (14, ar 96 C), (18, oD pu be), (19, ar 4 x), (20, ar 4 rs), (21, lr 4 sl), (28, oS28 (rn : Int) (m : Int) st dr), (29, ar 20 R), (30, ar 24 V), (31, ar 24 U)] h) (.inl none, wd [(13, oP d k (vn : Int)), (14, ar 96 C), (18, oD pu be), (19, ar 4 (zfill x (yX V U C m) 4)), (20, ar 4 (zfill rs (yRs R (zfill x (yX V U C m) 4)) rn)), (21, lr 4 (zfill sl (yS R (zfill rs (yRs R (zfill x (yX V U C m) 4)) rn) rn) 4)), (28, oS28 (rn : Int) (m : Int) st dr), (29, ar 20 R), (30, ar 24 V), (31, ar 24 U)] h) := by
  intro h
  refine E_in (lv := [_, _, _, _, _, _]) rfl ?_
  have hvn := hP.2.1
  have hrn := hP.2.2.1
  have hC := hP.2.2.2
  obtain ⟨hm, hat, hR1, hR2⟩ := id hs
  have hxb : ∀ j : Int, 0 ≤ j → j < 4 → -21600 ≤ (zfill x (yX V U C m) 4) j ∧ (zfill x (yX V U C m) 4) j ≤ 21600 := fun j h1 h2 => by rw [zfill_at ⟨h1, h2⟩]; exact yX_le hs hC j
  have hrb : ∀ q : Int, 0 ≤ q → q < rn → -787500 ≤ (zfill rs (yRs R (zfill x (yX V U C m) 4)) rn) q ∧ (zfill rs (yRs R (zfill x (yX V U C m) 4)) rn) q ≤ 787500 := fun q h1 h2 => by rw [zfill_at ⟨h1, h2⟩]; exact yRs_le hs hxb (by omega)
  have inner2 : ∀ (j : Nat), j < 4 → Rn 1 118 [.ref 18, .ref 28, .int (ii (j : Int)), .long (ll (zs (fun k => (zfill rs (yRs R (zfill x (yX V U C m) 4)) rn) k * R (k * 5 + (j : Int))) rn)), pd_dum, .int (ii (rn : Int))] [] (wd [(13, oP d k (vn : Int)), (14, ar 96 C), (18, oD pu be), (19, ar 4 (zfill x (yX V U C m) 4)), (20, ar 4 (zfill rs (yRs R (zfill x (yX V U C m) 4)) rn)), (21, lr 4 (zfill sl (yS R (zfill rs (yRs R (zfill x (yX V U C m) 4)) rn) rn) j)), (28, oS28 (rn : Int) (m : Int) st dr), (29, ar 20 R), (30, ar 24 V), (31, ar 24 U)] h) (.inl none, wd [(13, oP d k (vn : Int)), (14, ar 96 C), (18, oD pu be), (19, ar 4 (zfill x (yX V U C m) 4)), (20, ar 4 (zfill rs (yRs R (zfill x (yX V U C m) 4)) rn)), (21, lr 4 (zfill sl (yS R (zfill rs (yRs R (zfill x (yX V U C m) 4)) rn) rn) 4)), (28, oS28 (rn : Int) (m : Int) st dr), (29, ar 20 R), (30, ar 24 V), (31, ar 24 U)] h) → ∀ (n i : Nat), i + n = rn → Rn 1 83 [.ref 18, .ref 28, .int (ii (j : Int)), .long (ll (zs (fun k => (zfill rs (yRs R (zfill x (yX V U C m) 4)) rn) k * R (k * 5 + (j : Int))) i)), pd_dum, .int (ii (i : Int))] [] (wd [(13, oP d k (vn : Int)), (14, ar 96 C), (18, oD pu be), (19, ar 4 (zfill x (yX V U C m) 4)), (20, ar 4 (zfill rs (yRs R (zfill x (yX V U C m) 4)) rn)), (21, lr 4 (zfill sl (yS R (zfill rs (yRs R (zfill x (yX V U C m) 4)) rn) rn) j)), (28, oS28 (rn : Int) (m : Int) st dr), (29, ar 20 R), (30, ar 24 V), (31, ar 24 U)] h) (.inl none, wd [(13, oP d k (vn : Int)), (14, ar 96 C), (18, oD pu be), (19, ar 4 (zfill x (yX V U C m) 4)), (20, ar 4 (zfill rs (yRs R (zfill x (yX V U C m) 4)) rn)), (21, lr 4 (zfill sl (yS R (zfill rs (yRs R (zfill x (yX V U C m) 4)) rn) rn) 4)), (28, oS28 (rn : Int) (m : Int) st dr), (29, ar 20 R), (30, ar 24 V), (31, ar 24 U)] h) := by
    intro j hj kk n
    induction n with
    | zero =>
      intro i hi
      obtain rfl : i = rn := by omega
      refine E_iload pf_1_83 rfl ?_
      refine E_aload pf_1_85 rfl ?_
      refine F_getf pf_1_86 rfl rfl rfl ?_
      refine E_icmp_ge_t pf_1_89 (by omega) ?_
      exact kk
    | succ n ih =>
      intro i hi
      have ih := ih (i + 1) (by omega)
      have hb := hrb i (by omega) (by omega)
      have hb2 := hR1 i j (by omega) (by omega) (by omega) (by omega)
      refine E_iload pf_1_83 rfl ?_
      refine E_aload pf_1_85 rfl ?_
      refine F_getf pf_1_86 rfl rfl rfl ?_
      refine E_icmp_ge_f pf_1_89 (by omega) ?_
      refine E_lload pf_1_92 rfl ?_
      refine E_aload pf_1_93 rfl ?_
      refine F_getf pf_1_94 rfl rfl rfl ?_
      refine E_iload pf_1_97 rfl ?_
      refine F_iald pf_1_99 rfl (by omega) ?_
      refine E_i2l pf_1_100 (by omega) ?_
      refine E_aload pf_1_101 rfl ?_
      refine E_iload pf_1_102 rfl ?_
      refine E_iload pf_1_104 rfl ?_
      refine F_v3v0 pf_1_105 (c56t (by omega) (by omega)) (And.intro rfl (And.intro rfl (trivial))) rfl rfl ?_
      refine E_i2l pf_1_108 (by omega) ?_
      refine E_lmul pf_1_109 ?_
      refine E_ladd pf_1_110 ?_
      refine E_lstore (lv' := [_, _, _, _, _, _]) pf_1_111 rfl rfl ?_
      refine E_iinc (lv' := [_, _, _, _, _, _]) pf_1_112 rfl rfl ?_
      refine E_goto pf_1_115 ?_
      exact ih
  have loop2 : ∀ (n j : Nat) (w3 w4 w5 : Value), j + n = 4 → Rn 1 73 [.ref 18, .ref 28, .int (ii (j : Int)), w3, w4, w5] [] (wd [(13, oP d k (vn : Int)), (14, ar 96 C), (18, oD pu be), (19, ar 4 (zfill x (yX V U C m) 4)), (20, ar 4 (zfill rs (yRs R (zfill x (yX V U C m) 4)) rn)), (21, lr 4 (zfill sl (yS R (zfill rs (yRs R (zfill x (yX V U C m) 4)) rn) rn) j)), (28, oS28 (rn : Int) (m : Int) st dr), (29, ar 20 R), (30, ar 24 V), (31, ar 24 U)] h) (.inl none, wd [(13, oP d k (vn : Int)), (14, ar 96 C), (18, oD pu be), (19, ar 4 (zfill x (yX V U C m) 4)), (20, ar 4 (zfill rs (yRs R (zfill x (yX V U C m) 4)) rn)), (21, lr 4 (zfill sl (yS R (zfill rs (yRs R (zfill x (yX V U C m) 4)) rn) rn) 4)), (28, oS28 (rn : Int) (m : Int) st dr), (29, ar 20 R), (30, ar 24 V), (31, ar 24 U)] h) := by
    intro n
    induction n with
    | zero =>
      intro j w3 w4 w5 hj
      obtain rfl : j = 4 := by omega
      refine E_iload pf_1_73 rfl ?_
      refine E_iconst pf_1_74 ?_
      refine E_icmp_ge_t pf_1_75 (by omega) ?_
      exact E_vret pf_1_135 rfl
    | succ n ih =>
      intro j w3 w4 w5 hj
      have ih := ih (j + 1)
      rw [zfill_s sl _ j] at ih
      refine E_iload pf_1_73 rfl ?_
      refine E_iconst pf_1_74 ?_
      refine E_icmp_ge_f pf_1_75 (by omega) ?_
      refine E_lconst pf_1_78 ?_
      refine E_lstore (lv' := [_, _, _, _, _, _]) pf_1_79 rfl rfl ?_
      refine E_iconst pf_1_80 ?_
      refine E_istore (lv' := [_, _, _, _, _, _]) pf_1_81 rfl rfl ?_
      refine inner2 j (by omega) ?_ rn 0 (by omega)
      refine E_aload pf_1_118 rfl ?_
      refine F_getf pf_1_119 rfl rfl rfl ?_
      refine E_iload pf_1_122 rfl ?_
      refine E_lconst pf_1_123 ?_
      refine E_lload pf_1_126 rfl ?_
      refine E_lmul pf_1_127 ?_
      refine F_last (l' := [(_, _), (_, _), (_, _), (_, _), (_, _), (_, _), (_, _), (_, _), (_, _), (_, _)]) pf_1_128 rfl (by omega) rfl ?_
      refine E_iinc (lv' := [_, _, _, _, _, _]) pf_1_129 rfl rfl ?_
      refine E_goto pf_1_132 ?_
      exact ih _ _ _ (by omega)
  have inner1 : ∀ (j : Nat) (w5 : Value), j < 4 → Rn 1 53 [.ref 18, .ref 28, .int (ii (j : Int)), .int (ii (yX V U C m j)), .int (ii (m : Int)), w5] [] (wd [(13, oP d k (vn : Int)), (14, ar 96 C), (18, oD pu be), (19, ar 4 (zfill x (yX V U C m) j)), (20, ar 4 rs), (21, lr 4 sl), (28, oS28 (rn : Int) (m : Int) st dr), (29, ar 20 R), (30, ar 24 V), (31, ar 24 U)] h) (.inl none, wd [(13, oP d k (vn : Int)), (14, ar 96 C), (18, oD pu be), (19, ar 4 (zfill x (yX V U C m) 4)), (20, ar 4 (zfill rs (yRs R (zfill x (yX V U C m) 4)) rn)), (21, lr 4 (zfill sl (yS R (zfill rs (yRs R (zfill x (yX V U C m) 4)) rn) rn) 4)), (28, oS28 (rn : Int) (m : Int) st dr), (29, ar 20 R), (30, ar 24 V), (31, ar 24 U)] h) → ∀ (n i : Nat), i + n = m → Rn 1 12 [.ref 18, .ref 28, .int (ii (j : Int)), .int (ii (yX V U C i j)), .int (ii (i : Int)), w5] [] (wd [(13, oP d k (vn : Int)), (14, ar 96 C), (18, oD pu be), (19, ar 4 (zfill x (yX V U C m) j)), (20, ar 4 rs), (21, lr 4 sl), (28, oS28 (rn : Int) (m : Int) st dr), (29, ar 20 R), (30, ar 24 V), (31, ar 24 U)] h) (.inl none, wd [(13, oP d k (vn : Int)), (14, ar 96 C), (18, oD pu be), (19, ar 4 (zfill x (yX V U C m) 4)), (20, ar 4 (zfill rs (yRs R (zfill x (yX V U C m) 4)) rn)), (21, lr 4 (zfill sl (yS R (zfill rs (yRs R (zfill x (yX V U C m) 4)) rn) rn) 4)), (28, oS28 (rn : Int) (m : Int) st dr), (29, ar 20 R), (30, ar 24 V), (31, ar 24 U)] h) := by
    intro j w5 hj kk n
    induction n with
    | zero =>
      intro i hi
      obtain rfl : i = m := by omega
      refine E_iload pf_1_12 rfl ?_
      refine E_aload pf_1_14 rfl ?_
      refine F_getf pf_1_15 rfl rfl rfl ?_
      refine E_icmp_ge_t pf_1_18 (by omega) ?_
      exact kk
    | succ n ih =>
      intro i hi
      have ih := ih (i + 1) (by omega)
      have hq := hat i (by omega) (by omega)
      refine E_iload pf_1_12 rfl ?_
      refine E_aload pf_1_14 rfl ?_
      refine F_getf pf_1_15 rfl rfl rfl ?_
      refine E_icmp_ge_f pf_1_18 (by omega) ?_
      refine E_iload pf_1_21 rfl ?_
      refine E_aload pf_1_22 rfl ?_
      refine F_getf pf_1_23 rfl rfl rfl ?_
      refine E_iload pf_1_26 rfl ?_
      refine F_iald pf_1_28 rfl (by omega) ?_
      refine E_aload pf_1_29 rfl ?_
      refine F_getf pf_1_30 rfl rfl rfl ?_
      refine E_aload pf_1_33 rfl ?_
      refine F_getf pf_1_34 rfl rfl rfl ?_
      refine E_iload pf_1_37 rfl ?_
      refine F_iald pf_1_39 rfl (by omega) ?_
      refine E_iload pf_1_40 rfl ?_
      refine F_v3v0 pf_1_41 (c28 (by omega) (by omega)) (And.intro rfl (And.intro rfl (trivial))) rfl rfl ?_
      refine E_imul pf_1_44 ?_
      refine E_iadd pf_1_45 ?_
      refine E_istore (lv' := [_, _, _, _, _, _]) pf_1_46 rfl rfl ?_
      refine E_iinc (lv' := [_, _, _, _, _, _]) pf_1_47 rfl rfl ?_
      refine E_goto pf_1_50 ?_
      exact ih
  have loop1 : ∀ (n j : Nat) (w3 w4 w5 : Value), pd_wide w4 = false → j + n = 4 → Rn 1 2 [.ref 18, .ref 28, .int (ii (j : Int)), w3, w4, w5] [] (wd [(13, oP d k (vn : Int)), (14, ar 96 C), (18, oD pu be), (19, ar 4 (zfill x (yX V U C m) j)), (20, ar 4 rs), (21, lr 4 sl), (28, oS28 (rn : Int) (m : Int) st dr), (29, ar 20 R), (30, ar 24 V), (31, ar 24 U)] h) (.inl none, wd [(13, oP d k (vn : Int)), (14, ar 96 C), (18, oD pu be), (19, ar 4 (zfill x (yX V U C m) 4)), (20, ar 4 (zfill rs (yRs R (zfill x (yX V U C m) 4)) rn)), (21, lr 4 (zfill sl (yS R (zfill rs (yRs R (zfill x (yX V U C m) 4)) rn) rn) 4)), (28, oS28 (rn : Int) (m : Int) st dr), (29, ar 20 R), (30, ar 24 V), (31, ar 24 U)] h) := by
    intro n
    induction n with
    | zero =>
      intro j w3 w4 w5 hw4 hj
      obtain rfl : j = 4 := by omega
      refine E_iload pf_1_2 rfl ?_
      refine E_iconst pf_1_3 ?_
      refine E_icmp_ge_t pf_1_4 (by omega) ?_
      refine E_aload pf_1_66 rfl ?_
      refine E_aload pf_1_67 rfl ?_
      refine F_v2u (l' := [(_, _), (_, _), (_, _), (_, _), (_, _), (_, _), (_, _), (_, _), (_, _), (_, _)]) pf_1_68 (c2t (by omega)) (And.intro rfl (And.intro rfl (And.intro rfl (And.intro rfl (And.intro rfl (trivial)))))) rfl rfl rfl rfl ?_
      refine E_iconst pf_1_71 ?_
      refine E_istore (lv' := [_, _, _, _, _, _]) pf_1_72 rfl rfl ?_
      have h0 := loop2 4 0 w3 w4 w5 (by omega)
      rw [zfill_0] at h0
      exact h0
    | succ n ih =>
      intro j w3 w4 w5 hw4 hj
      have ih := ih (j + 1)
      rw [zfill_s x _ j] at ih
      refine E_iload pf_1_2 rfl ?_
      refine E_iconst pf_1_3 ?_
      refine E_icmp_ge_f pf_1_4 (by omega) ?_
      refine E_iconst pf_1_7 ?_
      refine E_istore (lv' := [_, _, _, _, _, _]) pf_1_8 rfl rfl ?_
      refine E_iconst pf_1_9 ?_
      refine E_istore (lv' := [_, _, _, _, _, _]) pf_1_10 rfl rfl ?_
      refine inner1 j _ (by omega) ?_ m 0 (by omega)
      refine E_aload pf_1_53 rfl ?_
      refine F_getf pf_1_54 rfl rfl rfl ?_
      refine E_iload pf_1_57 rfl ?_
      refine E_iload pf_1_58 rfl ?_
      refine F_iast (l' := [(_, _), (_, _), (_, _), (_, _), (_, _), (_, _), (_, _), (_, _), (_, _), (_, _)]) pf_1_59 rfl (by omega) rfl ?_
      refine E_iinc (lv' := [_, _, _, _, _, _]) pf_1_60 rfl rfl ?_
      refine E_goto pf_1_63 ?_
      exact ih _ _ _ rfl (by omega)
  refine E_iconst pf_1_0 ?_
  refine E_istore (lv' := [_, _, _, _, _, _]) pf_1_1 rfl rfl ?_
  have h0 := loop1 4 0 pd_dum pd_dum pd_dum rfl (by omega)
  rw [zfill_0] at h0
  exact h0
end CLS1
