/-! Value, gap, best, worst of a state in the class. -/
theorem yT_fill {R x f : Int → Int} : yT R (zfill x f 4) = yT R f := by
  funext k
  exact zs_congr fun j hj => by rw [zfill_at (by omega)]
theorem yRs_fill {R x f : Int → Int} : yRs R (zfill x f 4) = yRs R f := by
  funext k; unfold yRs; rw [yT_fill]
theorem yS_fill {R x f : Int → Int} {rn : Nat} : yS R (zfill x f rn) rn = yS R f rn := by
  funext j
  unfold yS
  exact congrArg (2 * ·) (zs_congr fun k hk => by rw [zfill_at (by omega)])
theorem yD_fill {C x f : Int → Int} : yD C (zfill x f 4) = yD C f := by
  funext i
  exact zs_congr fun j hj => by rw [zfill_at (by omega)]
def eR (R V U C : Int → Int) (m : Nat) : Int → Int := yRs R (yX V U C m)
def eS (R V U C : Int → Int) (m rn : Nat) : Int → Int := yS R (eR R V U C m) rn
def eV (R V U C : Int → Int) (m rn : Nat) : Int → Int := yD C (eS R V U C m rn)
def eVal (R V U C : Int → Int) (m rn : Nat) : Int := zs (fun k => eR R V U C m k * eR R V U C m k) rn
def eBest (R V U C : Int → Int) (m rn vn : Nat) : Int := zam (eV R V U C m rn) (vn - 1)
def eWorst (R V U C : Int → Int) (m rn : Nat) : Int := zax (fun i => eV R V U C m rn (V i)) (m - 1)
def eGap (R V U C : Int → Int) (m rn vn : Nat) : Int := zs (fun j => yX V U C m j * eS R V U C m rn j) 4 - 100 * eV R V U C m rn (eBest R V U C m rn vn)
section CLS2
variable {d k pu be rc ac st dr : Int} {C R V U x rs sl wt : Int → Int} {m dn rn vn : Nat}
theorem eR_le (hs : sok vn R V U m) (hC : ∀ k, -9 ≤ C k ∧ C k ≤ 9) {k : Int} (hk : 0 ≤ k ∧ k < 4) : -787500 ≤ eR R V U C m k ∧ eR R V U C m k ≤ 787500 := yRs_le hs (fun j _ _ => yX_le hs hC j) hk
theorem eS_le (hs : sok vn R V U m) (hP : ppk C dn vn rn) {j : Int} (hj : 0 ≤ j ∧ j < 4) : -56700000 ≤ eS R V U C m rn j ∧ eS R V U C m rn j ≤ 56700000 := yS_le hs (by have := hP.2.2.1; omega) (fun k h1 h2 => eR_le hs hP.2.2.2 ⟨h1, h2⟩) hj
theorem eV_le (hs : sok vn R V U m) (hP : ppk C dn vn rn) (v : Int) : -2041200000 ≤ eV R V U C m rn v ∧ eV R V U C m rn v ≤ 2041200000 := by
  have := yD_le (B := 56700000) (wt := eS R V U C m rn) hP.2.2.2 (fun j h1 h2 => eS_le hs hP ⟨h1, h2⟩) v
  unfold eV
  omega
theorem eBest_in (hP : ppk C dn vn rn) : 0 ≤ eBest R V U C m rn vn ∧ eBest R V U C m rn vn < vn := by
  have h1 := zam_in (eV R V U C m rn) (vn - 1)
  have h2 := hP.2.1
  unfold eBest
  omega
theorem eWorst_in (hs : sok vn R V U m) : 0 ≤ eWorst R V U C m rn ∧ eWorst R V U C m rn < m := by
  have h1 := zax_in (fun i => eV R V U C m rn (V i)) (m - 1)
  have h2 := hs.1
  unfold eWorst
  omega
theorem c1sx (hs : sok vn R V U m) (hP : ppk C dn vn rn) : ∀ h, Ca 1 [.ref 18, .ref 24] (wd [(13, oP d k (vn : Int)), (14, ar 96 C), (18, oD pu be), (19, ar 4 x), (20, ar 4 rs), (21, lr 4 sl), (24, oS24 (rn : Int) (m : Int) st dr), (25, ar 20 R), (26, ar 24 V), (27, ar 24 U)] h) (.inl none, wd [(13, oP d k (vn : Int)), (14, ar 96 C), (18, oD pu be), (19, ar 4 (zfill x (yX V U C m) 4)), (20, ar 4 (zfill rs (eR R V U C m) rn)), (21, lr 4 (zfill sl (eS R V U C m rn) 4)), (24, oS24 (rn : Int) (m : Int) st dr), (25, ar 20 R), (26, ar 24 V), (27, ar 24 U)] h) := by
  intro h
  have h0 := c1s (d := d) (k := k) (pu := pu) (be := be) (x := x) (rs := rs) (sl := sl) (st := st) (dr := dr) hs hP h
  rw [yRs_fill, yS_fill] at h0
  exact h0
theorem c4s (hs : sok vn R V U m) (hP : ppk C dn vn rn) : ∀ h, Ca 4 [.ref 18, .ref 24] (wd [(13, oP d k (vn : Int)), (14, ar 96 C), (18, oD pu be), (19, ar 4 x), (20, ar 4 rs), (21, lr 4 sl), (24, oS24 (rn : Int) (m : Int) st dr), (25, ar 20 R), (26, ar 24 V), (27, ar 24 U)] h) (.inl (some (.long (ll (eVal R V U C m rn)))), wd [(13, oP d k (vn : Int)), (14, ar 96 C), (18, oD pu be), (19, ar 4 (zfill x (yX V U C m) 4)), (20, ar 4 (zfill rs (eR R V U C m) rn)), (21, lr 4 (zfill sl (eS R V U C m rn) 4)), (24, oS24 (rn : Int) (m : Int) st dr), (25, ar 20 R), (26, ar 24 V), (27, ar 24 U)] h) := by
  intro h
  refine E_in (lv := [_, _]) rfl ?_
  have hrn := hP.2.2.1
  have hr : ∀ q : Int, 0 ≤ q → q < rn → -2000000 ≤ (zfill rs (eR R V U C m) rn) q ∧ (zfill rs (eR R V U C m) rn) q ≤ 2000000 := fun q h1 h2 => by
    have := eR_le hs hP.2.2.2 (k := q) (by omega)
    rw [zfill_at ⟨h1, h2⟩]
    omega
  have e1 : zs (fun k => (zfill rs (eR R V U C m) rn) k * (zfill rs (eR R V U C m) rn) k) rn = eVal R V U C m rn := zs_congr fun k hk => by rw [zfill_at (by omega)]
  refine E_aload pf_4_0 rfl ?_
  refine E_aload pf_4_1 rfl ?_
  refine F_v2u (l' := [(_, _), (_, _), (_, _), (_, _), (_, _), (_, _), (_, _), (_, _), (_, _), (_, _)]) pf_4_2 (c1sx hs hP) (And.intro rfl (And.intro rfl (And.intro rfl (And.intro rfl (And.intro rfl (And.intro rfl (And.intro rfl (And.intro rfl (And.intro rfl (And.intro rfl (trivial))))))))))) rfl rfl rfl rfl ?_
  refine E_aload pf_4_5 rfl ?_
  refine E_aload pf_4_6 rfl ?_
  refine F_v2v0 pf_4_7 (c3s (by omega) hr) (And.intro rfl (And.intro rfl (And.intro rfl (trivial)))) rfl rfl ?_
  rw [e1]
  exact E_lret pf_4_10 rfl
theorem c8s (hs : sok vn R V U m) (hP : ppk C dn vn rn) : ∀ h, Ca 8 [.ref 18, .ref 24] (wd [(13, oP d k (vn : Int)), (14, ar 96 C), (18, oD pu be), (19, ar 4 x), (20, ar 4 rs), (21, lr 4 sl), (24, oS24 (rn : Int) (m : Int) st dr), (25, ar 20 R), (26, ar 24 V), (27, ar 24 U)] h) (.inl (some (.int (ii (eBest R V U C m rn vn)))), wd [(13, oP d k (vn : Int)), (14, ar 96 C), (18, oD pu be), (19, ar 4 (zfill x (yX V U C m) 4)), (20, ar 4 (zfill rs (eR R V U C m) rn)), (21, lr 4 (zfill sl (eS R V U C m rn) 4)), (24, oS24 (rn : Int) (m : Int) st dr), (25, ar 20 R), (26, ar 24 V), (27, ar 24 U)] h) := by
  intro h
  refine E_in (lv := [_, _]) rfl ?_
  have hvn := hP.2.1
  have hw : ∀ j : Int, 0 ≤ j → j < 4 → -1000000000 ≤ (zfill sl (eS R V U C m rn) 4) j ∧ (zfill sl (eS R V U C m rn) 4) j ≤ 1000000000 := fun j h1 h2 => by
    have := eS_le hs hP (j := j) ⟨h1, h2⟩
    rw [zfill_at ⟨h1, h2⟩]
    omega
  have e1 : zam (yD C (zfill sl (eS R V U C m rn) 4)) (vn - 1) = eBest R V U C m rn vn := by rw [yD_fill]; rfl
  refine E_aload pf_8_0 rfl ?_
  refine E_aload pf_8_1 rfl ?_
  refine F_v2u (l' := [(_, _), (_, _), (_, _), (_, _), (_, _), (_, _), (_, _), (_, _), (_, _), (_, _)]) pf_8_2 (c1sx hs hP) (And.intro rfl (And.intro rfl (And.intro rfl (And.intro rfl (And.intro rfl (And.intro rfl (And.intro rfl (And.intro rfl (And.intro rfl (And.intro rfl (trivial))))))))))) rfl rfl rfl rfl ?_
  refine E_aload pf_8_5 rfl ?_
  refine F_getf pf_8_6 rfl rfl rfl ?_
  refine E_aload pf_8_9 rfl ?_
  refine F_getf pf_8_10 rfl rfl rfl ?_
  refine F_v2v0 pf_8_13 (c39s hP.2.2.2 hw (by omega)) (And.intro rfl (And.intro rfl (And.intro rfl (trivial)))) rfl rfl ?_
  rw [e1]
  exact E_iret pf_8_16 rfl
theorem c7s (hs : sok vn R V U m) (hP : ppk C dn vn rn) : ∀ h, Ca 7 [.ref 18, .ref 24] (wd [(13, oP d k (vn : Int)), (14, ar 96 C), (18, oD pu be), (19, ar 4 x), (20, ar 4 rs), (21, lr 4 sl), (24, oS24 (rn : Int) (m : Int) st dr), (25, ar 20 R), (26, ar 24 V), (27, ar 24 U)] h) (.inl (some (.long (ll (eGap R V U C m rn vn)))), wd [(13, oP d k (vn : Int)), (14, ar 96 C), (18, oD pu be), (19, ar 4 (zfill x (yX V U C m) 4)), (20, ar 4 (zfill rs (eR R V U C m) rn)), (21, lr 4 (zfill sl (eS R V U C m rn) 4)), (24, oS24 (rn : Int) (m : Int) st dr), (25, ar 20 R), (26, ar 24 V), (27, ar 24 U)] h) := by
  intro h
  refine E_in (lv := [_, _, _, _, _, _]) rfl ?_
  have hvn := hP.2.1
  have hbi := eBest_in (R := R) (V := V) (U := U) (m := m) hP
  have e1 : yD C (zfill sl (eS R V U C m rn) 4) (eBest R V U C m rn vn) = eV R V U C m rn (eBest R V U C m rn vn) := by rw [yD_fill]; rfl
  have e2 : zs (fun j => (zfill x (yX V U C m) 4) j * (zfill sl (eS R V U C m rn) 4) j) 4 = zs (fun j => yX V U C m j * eS R V U C m rn j) 4 := zs_congr fun j hj => by rw [zfill_at (by omega), zfill_at (by omega)]
  have loop : ∀ (n i : Nat), i + n = 4 → Rn 7 11 [.ref 18, .ref 24, .int (ii (eBest R V U C m rn vn)), .long (ll (zs (fun j => (zfill x (yX V U C m) 4) j * (zfill sl (eS R V U C m rn) 4) j) i)), pd_dum, .int (ii (i : Int))] [] (wd [(13, oP d k (vn : Int)), (14, ar 96 C), (18, oD pu be), (19, ar 4 (zfill x (yX V U C m) 4)), (20, ar 4 (zfill rs (eR R V U C m) rn)), (21, lr 4 (zfill sl (eS R V U C m rn) 4)), (24, oS24 (rn : Int) (m : Int) st dr), (25, ar 20 R), (26, ar 24 V), (27, ar 24 U)] h) (.inl (some (.long (ll (eGap R V U C m rn vn)))), wd [(13, oP d k (vn : Int)), (14, ar 96 C), (18, oD pu be), (19, ar 4 (zfill x (yX V U C m) 4)), (20, ar 4 (zfill rs (eR R V U C m) rn)), (21, lr 4 (zfill sl (eS R V U C m rn) 4)), (24, oS24 (rn : Int) (m : Int) st dr), (25, ar 20 R), (26, ar 24 V), (27, ar 24 U)] h) := by
    intro n
    induction n with
    | zero =>
      intro i hi
      obtain rfl : i = 4 := by omega
      refine E_iload pf_7_11 rfl ?_
      refine E_iconst pf_7_13 ?_
      refine E_icmp_ge_t pf_7_14 (by omega) ?_
      refine E_lload pf_7_42 rfl ?_
      refine E_lconst pf_7_43 ?_
      refine E_aload pf_7_46 rfl ?_
      refine F_getf pf_7_47 rfl rfl rfl ?_
      refine E_iload pf_7_50 rfl ?_
      refine E_aload pf_7_51 rfl ?_
      refine F_getf pf_7_52 rfl rfl rfl ?_
      refine F_v3v0 pf_7_55 (c38s hP.2.2.2 (by omega)) (And.intro rfl (And.intro rfl (And.intro rfl (trivial)))) rfl rfl ?_
      refine E_lmul pf_7_58 ?_
      refine E_lsub pf_7_59 ?_
      rw [e1, e2]
      exact E_lret pf_7_60 rfl
    | succ n ih =>
      intro i hi
      have ih := ih (i + 1) (by omega)
      have hb : -21600 ≤ (zfill x (yX V U C m) 4) i ∧ (zfill x (yX V U C m) 4) i ≤ 21600 := by rw [zfill_at (by omega)]; exact yX_le hs hP.2.2.2 i
      refine E_iload pf_7_11 rfl ?_
      refine E_iconst pf_7_13 ?_
      refine E_icmp_ge_f pf_7_14 (by omega) ?_
      refine E_lload pf_7_17 rfl ?_
      refine E_aload pf_7_18 rfl ?_
      refine F_getf pf_7_19 rfl rfl rfl ?_
      refine E_iload pf_7_22 rfl ?_
      refine F_iald pf_7_24 rfl (by omega) ?_
      refine E_i2l pf_7_25 (by omega) ?_
      refine E_aload pf_7_26 rfl ?_
      refine F_getf pf_7_27 rfl rfl rfl ?_
      refine E_iload pf_7_30 rfl ?_
      refine F_lald pf_7_32 rfl (by omega) ?_
      refine E_lmul pf_7_33 ?_
      refine E_ladd pf_7_34 ?_
      refine E_lstore (lv' := [_, _, _, _, _, _]) pf_7_35 rfl rfl ?_
      refine E_iinc (lv' := [_, _, _, _, _, _]) pf_7_36 rfl rfl ?_
      refine E_goto pf_7_39 ?_
      exact ih
  refine E_aload pf_7_0 rfl ?_
  refine E_aload pf_7_1 rfl ?_
  refine F_v2v (l' := [(_, _), (_, _), (_, _), (_, _), (_, _), (_, _), (_, _), (_, _), (_, _), (_, _)]) pf_7_2 (c8s hs hP) (And.intro rfl (And.intro rfl (And.intro rfl (And.intro rfl (And.intro rfl (And.intro rfl (And.intro rfl (And.intro rfl (And.intro rfl (And.intro rfl (trivial))))))))))) rfl rfl rfl rfl ?_
  refine E_istore (lv' := [_, _, _, _, _, _]) pf_7_5 rfl rfl ?_
  refine E_lconst pf_7_6 ?_
  refine E_lstore (lv' := [_, _, _, _, _, _]) pf_7_7 rfl rfl ?_
  refine E_iconst pf_7_8 ?_
  refine E_istore (lv' := [_, _, _, _, _, _]) pf_7_9 rfl rfl ?_
  exact loop 4 0 (by omega)
theorem c9s (hs : sok vn R V U m) (hP : ppk C dn vn rn) (hw : ∀ j : Int, 0 ≤ j → j < 4 → -1000000000 ≤ sl j ∧ sl j ≤ 1000000000) : ∀ h, Ca 9 [.ref 18, .ref 24] (wd [(13, oP d k (vn : Int)), (14, ar 96 C), (18, oD pu be), (21, lr 4 sl), (24, oS24 (rn : Int) (m : Int) st dr), (26, ar 24 V)] h) (.inl (some (.int (ii (zax (fun i => yD C sl (V i)) (m - 1))))), wd [(13, oP d k (vn : Int)), (14, ar 96 C), (18, oD pu be), (21, lr 4 sl), (24, oS24 (rn : Int) (m : Int) st dr), (26, ar 24 V)] h) := by
  intro h
  refine E_in (lv := [_, _, _, _, _, _, _, _]) rfl ?_
  have hvn := hP.2.1
  obtain ⟨hm, hat, -, -⟩ := id hs
  have loop : ∀ (n i : Nat) (w6 w7 : Value), i + n = m - 1 → Rn 9 23 [.ref 18, .ref 24, .int (ii (zax (fun i => yD C sl (V i)) i)), .long (ll (yD C sl (V (zax (fun i => yD C sl (V i)) i)))), pd_dum, .int (ii ((i + 1 : Nat) : Int)), w6, w7] [] (wd [(13, oP d k (vn : Int)), (14, ar 96 C), (18, oD pu be), (21, lr 4 sl), (24, oS24 (rn : Int) (m : Int) st dr), (26, ar 24 V)] h) (.inl (some (.int (ii (zax (fun i => yD C sl (V i)) (m - 1))))), wd [(13, oP d k (vn : Int)), (14, ar 96 C), (18, oD pu be), (21, lr 4 sl), (24, oS24 (rn : Int) (m : Int) st dr), (26, ar 24 V)] h) := by
    intro n
    induction n with
    | zero =>
      intro i w6 w7 hi
      obtain rfl : i = m - 1 := by omega
      refine E_iload pf_9_23 rfl ?_
      refine E_aload pf_9_25 rfl ?_
      refine F_getf pf_9_26 rfl rfl rfl ?_
      refine E_icmp_ge_t pf_9_29 (by omega) ?_
      refine E_iload pf_9_71 rfl ?_
      exact E_iret pf_9_72 rfl
    | succ n ih =>
      intro i w6 w7 hi
      have ih := ih (i + 1)
      have hq := hat ((i + 1 : Nat) : Int) (by omega) (by omega)
      have hb1 := yD_le hP.2.2.2 hw (V ((i + 1 : Nat) : Int))
      have hb2 := yD_le hP.2.2.2 hw (V (zax (fun i => yD C sl (V i)) i))
      by_cases hc : yD C sl (V (zax (fun i => yD C sl (V i)) i)) < yD C sl (V ((i + 1 : Nat) : Int))
      · have e1 : zax (fun i => yD C sl (V i)) (i + 1) = ((i + 1 : Nat) : Int) := by simp only [zax]; rw [if_pos hc]
        rw [e1] at ih
        refine E_iload pf_9_23 rfl ?_
        refine E_aload pf_9_25 rfl ?_
        refine F_getf pf_9_26 rfl rfl rfl ?_
        refine E_icmp_ge_f pf_9_29 (by omega) ?_
        refine E_aload pf_9_32 rfl ?_
        refine F_getf pf_9_33 rfl rfl rfl ?_
        refine E_aload pf_9_36 rfl ?_
        refine F_getf pf_9_37 rfl rfl rfl ?_
        refine E_iload pf_9_40 rfl ?_
        refine F_iald pf_9_42 rfl (by omega) ?_
        refine E_aload pf_9_43 rfl ?_
        refine F_getf pf_9_44 rfl rfl rfl ?_
        refine F_v3v0 pf_9_47 (c38s hP.2.2.2 (by omega)) (And.intro rfl (And.intro rfl (And.intro rfl (trivial)))) rfl rfl ?_
        refine E_lstore (lv' := [_, _, _, _, _, _, _, _]) pf_9_50 rfl rfl ?_
        refine E_lload pf_9_52 rfl ?_
        refine E_lload pf_9_54 rfl ?_
        refine E_lcmp_le_f pf_9_55 pf_9_56 (by omega) ?_
        refine E_lload pf_9_59 rfl ?_
        refine E_lstore (lv' := [_, _, _, _, _, _, _, _]) pf_9_61 rfl rfl ?_
        refine E_iload pf_9_62 rfl ?_
        refine E_istore (lv' := [_, _, _, _, _, _, _, _]) pf_9_64 rfl rfl ?_
        refine E_iinc (lv' := [_, _, _, _, _, _, _, _]) pf_9_65 rfl rfl ?_
        refine E_goto pf_9_68 ?_
        exact ih _ _ (by omega)
      · have e1 : zax (fun i => yD C sl (V i)) (i + 1) = zax (fun i => yD C sl (V i)) i := by simp only [zax]; rw [if_neg hc]
        rw [e1] at ih
        refine E_iload pf_9_23 rfl ?_
        refine E_aload pf_9_25 rfl ?_
        refine F_getf pf_9_26 rfl rfl rfl ?_
        refine E_icmp_ge_f pf_9_29 (by omega) ?_
        refine E_aload pf_9_32 rfl ?_
        refine F_getf pf_9_33 rfl rfl rfl ?_
        refine E_aload pf_9_36 rfl ?_
        refine F_getf pf_9_37 rfl rfl rfl ?_
        refine E_iload pf_9_40 rfl ?_
        refine F_iald pf_9_42 rfl (by omega) ?_
        refine E_aload pf_9_43 rfl ?_
        refine F_getf pf_9_44 rfl rfl rfl ?_
        refine F_v3v0 pf_9_47 (c38s hP.2.2.2 (by omega)) (And.intro rfl (And.intro rfl (And.intro rfl (trivial)))) rfl rfl ?_
        refine E_lstore (lv' := [_, _, _, _, _, _, _, _]) pf_9_50 rfl rfl ?_
        refine E_lload pf_9_52 rfl ?_
        refine E_lload pf_9_54 rfl ?_
        refine E_lcmp_le_t pf_9_55 pf_9_56 (by omega) ?_
        refine E_iinc (lv' := [_, _, _, _, _, _, _, _]) pf_9_65 rfl rfl ?_
        refine E_goto pf_9_68 ?_
        exact ih _ _ (by omega)
  have hq0 := hat 0 (by omega) (by omega)
  refine E_iconst pf_9_0 ?_
  refine E_istore (lv' := [_, _, _, _, _, _, _, _]) pf_9_1 rfl rfl ?_
  refine E_aload pf_9_2 rfl ?_
  refine F_getf pf_9_3 rfl rfl rfl ?_
  refine E_aload pf_9_6 rfl ?_
  refine F_getf pf_9_7 rfl rfl rfl ?_
  refine E_iconst pf_9_10 ?_
  refine F_iald pf_9_11 rfl (by omega) ?_
  refine E_aload pf_9_12 rfl ?_
  refine F_getf pf_9_13 rfl rfl rfl ?_
  refine F_v3v0 pf_9_16 (c38s hP.2.2.2 (by omega)) (And.intro rfl (And.intro rfl (And.intro rfl (trivial)))) rfl rfl ?_
  refine E_lstore (lv' := [_, _, _, _, _, _, _, _]) pf_9_19 rfl rfl ?_
  refine E_iconst pf_9_20 ?_
  refine E_istore (lv' := [_, _, _, _, _, _, _, _]) pf_9_21 rfl rfl ?_
  exact loop (m - 1) 0 _ _ (by omega)
theorem c10s {q : Int} (hs : sok vn R V U m) (hq : -2147483648 ≤ q ∧ q ≤ 2147483647) : ∀ h, Ca 10 [.ref 18, .ref 24, .int (ii q)] (wd [(18, oD pu be), (24, oS24 (rn : Int) (m : Int) st dr)] h) (.inl (some (.int (ii (zb (q ≠ 1 ∨ 1 < m))))), wd [(18, oD pu be), (24, oS24 (rn : Int) (m : Int) st dr)] h) := by
  intro h
  refine E_in (lv := [_, _, _]) rfl ?_
  have hm := hs.1
  by_cases h1 : q = 1
  · by_cases h2 : 1 < m
    · rw [zb_t (Or.inr h2)]
      refine E_iload pf_10_0 rfl ?_
      refine E_iconst pf_10_1 ?_
      refine E_icmp_ne_f pf_10_2 (by omega) ?_
      refine E_aload pf_10_5 rfl ?_
      refine F_getf pf_10_6 rfl rfl rfl ?_
      refine E_iconst pf_10_9 ?_
      refine E_icmp_le_f pf_10_10 (by omega) ?_
      refine E_iconst pf_10_13 ?_
      refine E_goto pf_10_14 ?_
      exact E_iret pf_10_18 rfl
    · rw [zb_f (by omega)]
      refine E_iload pf_10_0 rfl ?_
      refine E_iconst pf_10_1 ?_
      refine E_icmp_ne_f pf_10_2 (by omega) ?_
      refine E_aload pf_10_5 rfl ?_
      refine F_getf pf_10_6 rfl rfl rfl ?_
      refine E_iconst pf_10_9 ?_
      refine E_icmp_le_t pf_10_10 (by omega) ?_
      refine E_iconst pf_10_17 ?_
      exact E_iret pf_10_18 rfl
  · rw [zb_t (Or.inl h1)]
    refine E_iload pf_10_0 rfl ?_
    refine E_iconst pf_10_1 ?_
    refine E_icmp_ne_t pf_10_2 (by omega) ?_
    refine E_iconst pf_10_13 ?_
    refine E_goto pf_10_14 ?_
    exact E_iret pf_10_18 rfl
theorem c6 {v : Int} (hv : 0 ≤ v ∧ v < 24) : ∀ h, Ca 6 [.ref 18, .int (ii v)] (wd [(13, oP d k (vn : Int)), (14, ar 96 C), (18, oD pu be), (19, ar 4 x)] h) (.inl none, wd [(13, oP d k (vn : Int)), (14, ar 96 C), (18, oD pu be), (19, ar 4 (zfill x (fun j => 100 * C (v * 4 + j)) 4))] h) := by
  intro h
  refine E_in (lv := [_, _, _]) rfl ?_
  have loop : ∀ (n i : Nat), i + n = 4 → Rn 6 2 [.ref 18, .int (ii v), .int (ii (i : Int))] [] (wd [(13, oP d k (vn : Int)), (14, ar 96 C), (18, oD pu be), (19, ar 4 (zfill x (fun j => 100 * C (v * 4 + j)) i))] h) (.inl none, wd [(13, oP d k (vn : Int)), (14, ar 96 C), (18, oD pu be), (19, ar 4 (zfill x (fun j => 100 * C (v * 4 + j)) 4))] h) := by
    intro n
    induction n with
    | zero =>
      intro i hi
      obtain rfl : i = 4 := by omega
      refine E_iload pf_6_2 rfl ?_
      refine E_iconst pf_6_3 ?_
      refine E_icmp_ge_t pf_6_4 (by omega) ?_
      exact E_vret pf_6_31 rfl
    | succ n ih =>
      intro i hi
      have ih := ih (i + 1) (by omega)
      rw [zfill_s x _ i] at ih
      refine E_iload pf_6_2 rfl ?_
      refine E_iconst pf_6_3 ?_
      refine E_icmp_ge_f pf_6_4 (by omega) ?_
      refine E_aload pf_6_7 rfl ?_
      refine F_getf pf_6_8 rfl rfl rfl ?_
      refine E_iload pf_6_11 rfl ?_
      refine E_iconst pf_6_12 ?_
      refine E_aload pf_6_14 rfl ?_
      refine F_getf pf_6_15 rfl rfl rfl ?_
      refine E_iload pf_6_18 rfl ?_
      refine E_iload pf_6_19 rfl ?_
      refine F_v3v0 pf_6_20 (c28 (by omega) (by omega)) (And.intro rfl (And.intro rfl (trivial))) rfl rfl ?_
      refine E_imul pf_6_23 ?_
      refine F_iast (l' := [(_, _), (_, _), (_, _), (_, _)]) pf_6_24 rfl (by omega) rfl ?_
      refine E_iinc (lv' := [_, _, _]) pf_6_25 rfl rfl ?_
      refine E_goto pf_6_28 ?_
      exact ih
  refine E_iconst pf_6_0 ?_
  refine E_istore (lv' := [_, _, _]) pf_6_1 rfl rfl ?_
  have h0 := loop 4 0 (by omega)
  rw [zfill_0] at h0
  exact h0
theorem c5 {v : Int} (hs : sok vn R V U m) (hP : ppk C dn vn rn) (hv : 0 ≤ v ∧ v < 24) : ∀ h, Ca 5 [.ref 18, .ref 24, .int (ii v)] (wd [(13, oP d k (vn : Int)), (14, ar 96 C), (18, oD pu be), (19, ar 4 x), (20, ar 4 rs), (24, oS24 (rn : Int) (m : Int) st dr), (25, ar 20 R)] h) (.inl (some (.long (ll (zs (fun q => yRs R (fun j => 100 * C (v * 4 + j)) q * yRs R (fun j => 100 * C (v * 4 + j)) q) rn)))), wd [(13, oP d k (vn : Int)), (14, ar 96 C), (18, oD pu be), (19, ar 4 (zfill x (fun j => 100 * C (v * 4 + j)) 4)), (20, ar 4 (zfill rs (yRs R (zfill x (fun j => 100 * C (v * 4 + j)) 4)) rn)), (24, oS24 (rn : Int) (m : Int) st dr), (25, ar 20 R)] h) := by
  intro h
  refine E_in (lv := [_, _, _]) rfl ?_
  have hrn := hP.2.2.1
  have hr : ∀ q : Int, 0 ≤ q → q < rn → -2000000 ≤ (zfill rs (yRs R (zfill x (fun j => 100 * C (v * 4 + j)) 4)) rn) q ∧ (zfill rs (yRs R (zfill x (fun j => 100 * C (v * 4 + j)) 4)) rn) q ≤ 2000000 := fun q h1 h2 => by
    rw [zfill_at ⟨h1, h2⟩, yRs_fill]
    have := yRs_le (x := fun j => 100 * C (v * 4 + j)) (k := q) hs (fun j _ _ => by have := hP.2.2.2 (v * 4 + j); omega) (by omega)
    omega
  have e1 : zs (fun k => (zfill rs (yRs R (zfill x (fun j => 100 * C (v * 4 + j)) 4)) rn) k * (zfill rs (yRs R (zfill x (fun j => 100 * C (v * 4 + j)) 4)) rn) k) rn = zs (fun q => yRs R (fun j => 100 * C (v * 4 + j)) q * yRs R (fun j => 100 * C (v * 4 + j)) q) rn := zs_congr fun k hk => by rw [zfill_at (by omega), yRs_fill]
  refine E_aload pf_5_0 rfl ?_
  refine E_iload pf_5_1 rfl ?_
  refine F_v2u (l' := [(_, _), (_, _), (_, _), (_, _), (_, _), (_, _), (_, _)]) pf_5_2 (c6 (by omega)) (And.intro rfl (And.intro rfl (And.intro rfl (And.intro rfl (trivial))))) rfl rfl rfl rfl ?_
  refine E_aload pf_5_5 rfl ?_
  refine E_aload pf_5_6 rfl ?_
  refine F_v2u (l' := [(_, _), (_, _), (_, _), (_, _), (_, _), (_, _), (_, _)]) pf_5_7 (c2s (by omega)) (And.intro rfl (And.intro rfl (And.intro rfl (And.intro rfl (And.intro rfl (trivial)))))) rfl rfl rfl rfl ?_
  refine E_aload pf_5_10 rfl ?_
  refine E_aload pf_5_11 rfl ?_
  refine F_v2v0 pf_5_12 (c3s (by omega) hr) (And.intro rfl (And.intro rfl (And.intro rfl (trivial)))) rfl rfl ?_
  rw [e1]
  exact E_lret pf_5_15 rfl
theorem c1tx (hs : sok vn R V U m) (hP : ppk C dn vn rn) : ∀ h, Ca 1 [.ref 18, .ref 28] (wd [(13, oP d k (vn : Int)), (14, ar 96 C), (18, oD pu be), (19, ar 4 x), (20, ar 4 rs), (21, lr 4 sl), (28, oS28 (rn : Int) (m : Int) st dr), (29, ar 20 R), (30, ar 24 V), (31, ar 24 U)] h) (.inl none, wd [(13, oP d k (vn : Int)), (14, ar 96 C), (18, oD pu be), (19, ar 4 (zfill x (yX V U C m) 4)), (20, ar 4 (zfill rs (eR R V U C m) rn)), (21, lr 4 (zfill sl (eS R V U C m rn) 4)), (28, oS28 (rn : Int) (m : Int) st dr), (29, ar 20 R), (30, ar 24 V), (31, ar 24 U)] h) := by
  intro h
  have h0 := c1t (d := d) (k := k) (pu := pu) (be := be) (x := x) (rs := rs) (sl := sl) (st := st) (dr := dr) hs hP h
  rw [yRs_fill, yS_fill] at h0
  exact h0
theorem c4t (hs : sok vn R V U m) (hP : ppk C dn vn rn) : ∀ h, Ca 4 [.ref 18, .ref 28] (wd [(13, oP d k (vn : Int)), (14, ar 96 C), (18, oD pu be), (19, ar 4 x), (20, ar 4 rs), (21, lr 4 sl), (28, oS28 (rn : Int) (m : Int) st dr), (29, ar 20 R), (30, ar 24 V), (31, ar 24 U)] h) (.inl (some (.long (ll (eVal R V U C m rn)))), wd [(13, oP d k (vn : Int)), (14, ar 96 C), (18, oD pu be), (19, ar 4 (zfill x (yX V U C m) 4)), (20, ar 4 (zfill rs (eR R V U C m) rn)), (21, lr 4 (zfill sl (eS R V U C m rn) 4)), (28, oS28 (rn : Int) (m : Int) st dr), (29, ar 20 R), (30, ar 24 V), (31, ar 24 U)] h) := by
  intro h
  refine E_in (lv := [_, _]) rfl ?_
  have hrn := hP.2.2.1
  have hr : ∀ q : Int, 0 ≤ q → q < rn → -2000000 ≤ (zfill rs (eR R V U C m) rn) q ∧ (zfill rs (eR R V U C m) rn) q ≤ 2000000 := fun q h1 h2 => by
    have := eR_le hs hP.2.2.2 (k := q) (by omega)
    rw [zfill_at ⟨h1, h2⟩]
    omega
  have e1 : zs (fun k => (zfill rs (eR R V U C m) rn) k * (zfill rs (eR R V U C m) rn) k) rn = eVal R V U C m rn := zs_congr fun k hk => by rw [zfill_at (by omega)]
  refine E_aload pf_4_0 rfl ?_
  refine E_aload pf_4_1 rfl ?_
  refine F_v2u (l' := [(_, _), (_, _), (_, _), (_, _), (_, _), (_, _), (_, _), (_, _), (_, _), (_, _)]) pf_4_2 (c1tx hs hP) (And.intro rfl (And.intro rfl (And.intro rfl (And.intro rfl (And.intro rfl (And.intro rfl (And.intro rfl (And.intro rfl (And.intro rfl (And.intro rfl (trivial))))))))))) rfl rfl rfl rfl ?_
  refine E_aload pf_4_5 rfl ?_
  refine E_aload pf_4_6 rfl ?_
  refine F_v2v0 pf_4_7 (c3t (by omega) hr) (And.intro rfl (And.intro rfl (And.intro rfl (trivial)))) rfl rfl ?_
  rw [e1]
  exact E_lret pf_4_10 rfl
theorem c8t (hs : sok vn R V U m) (hP : ppk C dn vn rn) : ∀ h, Ca 8 [.ref 18, .ref 28] (wd [(13, oP d k (vn : Int)), (14, ar 96 C), (18, oD pu be), (19, ar 4 x), (20, ar 4 rs), (21, lr 4 sl), (28, oS28 (rn : Int) (m : Int) st dr), (29, ar 20 R), (30, ar 24 V), (31, ar 24 U)] h) (.inl (some (.int (ii (eBest R V U C m rn vn)))), wd [(13, oP d k (vn : Int)), (14, ar 96 C), (18, oD pu be), (19, ar 4 (zfill x (yX V U C m) 4)), (20, ar 4 (zfill rs (eR R V U C m) rn)), (21, lr 4 (zfill sl (eS R V U C m rn) 4)), (28, oS28 (rn : Int) (m : Int) st dr), (29, ar 20 R), (30, ar 24 V), (31, ar 24 U)] h) := by
  intro h
  refine E_in (lv := [_, _]) rfl ?_
  have hvn := hP.2.1
  have hw : ∀ j : Int, 0 ≤ j → j < 4 → -1000000000 ≤ (zfill sl (eS R V U C m rn) 4) j ∧ (zfill sl (eS R V U C m rn) 4) j ≤ 1000000000 := fun j h1 h2 => by
    have := eS_le hs hP (j := j) ⟨h1, h2⟩
    rw [zfill_at ⟨h1, h2⟩]
    omega
  have e1 : zam (yD C (zfill sl (eS R V U C m rn) 4)) (vn - 1) = eBest R V U C m rn vn := by rw [yD_fill]; rfl
  refine E_aload pf_8_0 rfl ?_
  refine E_aload pf_8_1 rfl ?_
  refine F_v2u (l' := [(_, _), (_, _), (_, _), (_, _), (_, _), (_, _), (_, _), (_, _), (_, _), (_, _)]) pf_8_2 (c1tx hs hP) (And.intro rfl (And.intro rfl (And.intro rfl (And.intro rfl (And.intro rfl (And.intro rfl (And.intro rfl (And.intro rfl (And.intro rfl (And.intro rfl (trivial))))))))))) rfl rfl rfl rfl ?_
  refine E_aload pf_8_5 rfl ?_
  refine F_getf pf_8_6 rfl rfl rfl ?_
  refine E_aload pf_8_9 rfl ?_
  refine F_getf pf_8_10 rfl rfl rfl ?_
  refine F_v2v0 pf_8_13 (c39s hP.2.2.2 hw (by omega)) (And.intro rfl (And.intro rfl (And.intro rfl (trivial)))) rfl rfl ?_
  rw [e1]
  exact E_iret pf_8_16 rfl
theorem c7t (hs : sok vn R V U m) (hP : ppk C dn vn rn) : ∀ h, Ca 7 [.ref 18, .ref 28] (wd [(13, oP d k (vn : Int)), (14, ar 96 C), (18, oD pu be), (19, ar 4 x), (20, ar 4 rs), (21, lr 4 sl), (28, oS28 (rn : Int) (m : Int) st dr), (29, ar 20 R), (30, ar 24 V), (31, ar 24 U)] h) (.inl (some (.long (ll (eGap R V U C m rn vn)))), wd [(13, oP d k (vn : Int)), (14, ar 96 C), (18, oD pu be), (19, ar 4 (zfill x (yX V U C m) 4)), (20, ar 4 (zfill rs (eR R V U C m) rn)), (21, lr 4 (zfill sl (eS R V U C m rn) 4)), (28, oS28 (rn : Int) (m : Int) st dr), (29, ar 20 R), (30, ar 24 V), (31, ar 24 U)] h) := by
  intro h
  refine E_in (lv := [_, _, _, _, _, _]) rfl ?_
  have hvn := hP.2.1
  have hbi := eBest_in (R := R) (V := V) (U := U) (m := m) hP
  have e1 : yD C (zfill sl (eS R V U C m rn) 4) (eBest R V U C m rn vn) = eV R V U C m rn (eBest R V U C m rn vn) := by rw [yD_fill]; rfl
  have e2 : zs (fun j => (zfill x (yX V U C m) 4) j * (zfill sl (eS R V U C m rn) 4) j) 4 = zs (fun j => yX V U C m j * eS R V U C m rn j) 4 := zs_congr fun j hj => by rw [zfill_at (by omega), zfill_at (by omega)]
  have loop : ∀ (n i : Nat), i + n = 4 → Rn 7 11 [.ref 18, .ref 28, .int (ii (eBest R V U C m rn vn)), .long (ll (zs (fun j => (zfill x (yX V U C m) 4) j * (zfill sl (eS R V U C m rn) 4) j) i)), pd_dum, .int (ii (i : Int))] [] (wd [(13, oP d k (vn : Int)), (14, ar 96 C), (18, oD pu be), (19, ar 4 (zfill x (yX V U C m) 4)), (20, ar 4 (zfill rs (eR R V U C m) rn)), (21, lr 4 (zfill sl (eS R V U C m rn) 4)), (28, oS28 (rn : Int) (m : Int) st dr), (29, ar 20 R), (30, ar 24 V), (31, ar 24 U)] h) (.inl (some (.long (ll (eGap R V U C m rn vn)))), wd [(13, oP d k (vn : Int)), (14, ar 96 C), (18, oD pu be), (19, ar 4 (zfill x (yX V U C m) 4)), (20, ar 4 (zfill rs (eR R V U C m) rn)), (21, lr 4 (zfill sl (eS R V U C m rn) 4)), (28, oS28 (rn : Int) (m : Int) st dr), (29, ar 20 R), (30, ar 24 V), (31, ar 24 U)] h) := by
    intro n
    induction n with
    | zero =>
      intro i hi
      obtain rfl : i = 4 := by omega
      refine E_iload pf_7_11 rfl ?_
      refine E_iconst pf_7_13 ?_
      refine E_icmp_ge_t pf_7_14 (by omega) ?_
      refine E_lload pf_7_42 rfl ?_
      refine E_lconst pf_7_43 ?_
      refine E_aload pf_7_46 rfl ?_
      refine F_getf pf_7_47 rfl rfl rfl ?_
      refine E_iload pf_7_50 rfl ?_
      refine E_aload pf_7_51 rfl ?_
      refine F_getf pf_7_52 rfl rfl rfl ?_
      refine F_v3v0 pf_7_55 (c38s hP.2.2.2 (by omega)) (And.intro rfl (And.intro rfl (And.intro rfl (trivial)))) rfl rfl ?_
      refine E_lmul pf_7_58 ?_
      refine E_lsub pf_7_59 ?_
      rw [e1, e2]
      exact E_lret pf_7_60 rfl
    | succ n ih =>
      intro i hi
      have ih := ih (i + 1) (by omega)
      have hb : -21600 ≤ (zfill x (yX V U C m) 4) i ∧ (zfill x (yX V U C m) 4) i ≤ 21600 := by rw [zfill_at (by omega)]; exact yX_le hs hP.2.2.2 i
      refine E_iload pf_7_11 rfl ?_
      refine E_iconst pf_7_13 ?_
      refine E_icmp_ge_f pf_7_14 (by omega) ?_
      refine E_lload pf_7_17 rfl ?_
      refine E_aload pf_7_18 rfl ?_
      refine F_getf pf_7_19 rfl rfl rfl ?_
      refine E_iload pf_7_22 rfl ?_
      refine F_iald pf_7_24 rfl (by omega) ?_
      refine E_i2l pf_7_25 (by omega) ?_
      refine E_aload pf_7_26 rfl ?_
      refine F_getf pf_7_27 rfl rfl rfl ?_
      refine E_iload pf_7_30 rfl ?_
      refine F_lald pf_7_32 rfl (by omega) ?_
      refine E_lmul pf_7_33 ?_
      refine E_ladd pf_7_34 ?_
      refine E_lstore (lv' := [_, _, _, _, _, _]) pf_7_35 rfl rfl ?_
      refine E_iinc (lv' := [_, _, _, _, _, _]) pf_7_36 rfl rfl ?_
      refine E_goto pf_7_39 ?_
      exact ih
  refine E_aload pf_7_0 rfl ?_
  refine E_aload pf_7_1 rfl ?_
  refine F_v2v (l' := [(_, _), (_, _), (_, _), (_, _), (_, _), (_, _), (_, _), (_, _), (_, _), (_, _)]) pf_7_2 (c8t hs hP) (And.intro rfl (And.intro rfl (And.intro rfl (And.intro rfl (And.intro rfl (And.intro rfl (And.intro rfl (And.intro rfl (And.intro rfl (And.intro rfl (trivial))))))))))) rfl rfl rfl rfl ?_
  refine E_istore (lv' := [_, _, _, _, _, _]) pf_7_5 rfl rfl ?_
  refine E_lconst pf_7_6 ?_
  refine E_lstore (lv' := [_, _, _, _, _, _]) pf_7_7 rfl rfl ?_
  refine E_iconst pf_7_8 ?_
  refine E_istore (lv' := [_, _, _, _, _, _]) pf_7_9 rfl rfl ?_
  exact loop 4 0 (by omega)
theorem c9t (hs : sok vn R V U m) (hP : ppk C dn vn rn) (hw : ∀ j : Int, 0 ≤ j → j < 4 → -1000000000 ≤ sl j ∧ sl j ≤ 1000000000) : ∀ h, Ca 9 [.ref 18, .ref 28] (wd [(13, oP d k (vn : Int)), (14, ar 96 C), (18, oD pu be), (21, lr 4 sl), (28, oS28 (rn : Int) (m : Int) st dr), (30, ar 24 V)] h) (.inl (some (.int (ii (zax (fun i => yD C sl (V i)) (m - 1))))), wd [(13, oP d k (vn : Int)), (14, ar 96 C), (18, oD pu be), (21, lr 4 sl), (28, oS28 (rn : Int) (m : Int) st dr), (30, ar 24 V)] h) := by
  intro h
  refine E_in (lv := [_, _, _, _, _, _, _, _]) rfl ?_
  have hvn := hP.2.1
  obtain ⟨hm, hat, -, -⟩ := id hs
  have loop : ∀ (n i : Nat) (w6 w7 : Value), i + n = m - 1 → Rn 9 23 [.ref 18, .ref 28, .int (ii (zax (fun i => yD C sl (V i)) i)), .long (ll (yD C sl (V (zax (fun i => yD C sl (V i)) i)))), pd_dum, .int (ii ((i + 1 : Nat) : Int)), w6, w7] [] (wd [(13, oP d k (vn : Int)), (14, ar 96 C), (18, oD pu be), (21, lr 4 sl), (28, oS28 (rn : Int) (m : Int) st dr), (30, ar 24 V)] h) (.inl (some (.int (ii (zax (fun i => yD C sl (V i)) (m - 1))))), wd [(13, oP d k (vn : Int)), (14, ar 96 C), (18, oD pu be), (21, lr 4 sl), (28, oS28 (rn : Int) (m : Int) st dr), (30, ar 24 V)] h) := by
    intro n
    induction n with
    | zero =>
      intro i w6 w7 hi
      obtain rfl : i = m - 1 := by omega
      refine E_iload pf_9_23 rfl ?_
      refine E_aload pf_9_25 rfl ?_
      refine F_getf pf_9_26 rfl rfl rfl ?_
      refine E_icmp_ge_t pf_9_29 (by omega) ?_
      refine E_iload pf_9_71 rfl ?_
      exact E_iret pf_9_72 rfl
    | succ n ih =>
      intro i w6 w7 hi
      have ih := ih (i + 1)
      have hq := hat ((i + 1 : Nat) : Int) (by omega) (by omega)
      have hb1 := yD_le hP.2.2.2 hw (V ((i + 1 : Nat) : Int))
      have hb2 := yD_le hP.2.2.2 hw (V (zax (fun i => yD C sl (V i)) i))
      by_cases hc : yD C sl (V (zax (fun i => yD C sl (V i)) i)) < yD C sl (V ((i + 1 : Nat) : Int))
      · have e1 : zax (fun i => yD C sl (V i)) (i + 1) = ((i + 1 : Nat) : Int) := by simp only [zax]; rw [if_pos hc]
        rw [e1] at ih
        refine E_iload pf_9_23 rfl ?_
        refine E_aload pf_9_25 rfl ?_
        refine F_getf pf_9_26 rfl rfl rfl ?_
        refine E_icmp_ge_f pf_9_29 (by omega) ?_
        refine E_aload pf_9_32 rfl ?_
        refine F_getf pf_9_33 rfl rfl rfl ?_
        refine E_aload pf_9_36 rfl ?_
        refine F_getf pf_9_37 rfl rfl rfl ?_
        refine E_iload pf_9_40 rfl ?_
        refine F_iald pf_9_42 rfl (by omega) ?_
        refine E_aload pf_9_43 rfl ?_
        refine F_getf pf_9_44 rfl rfl rfl ?_
        refine F_v3v0 pf_9_47 (c38s hP.2.2.2 (by omega)) (And.intro rfl (And.intro rfl (And.intro rfl (trivial)))) rfl rfl ?_
        refine E_lstore (lv' := [_, _, _, _, _, _, _, _]) pf_9_50 rfl rfl ?_
        refine E_lload pf_9_52 rfl ?_
        refine E_lload pf_9_54 rfl ?_
        refine E_lcmp_le_f pf_9_55 pf_9_56 (by omega) ?_
        refine E_lload pf_9_59 rfl ?_
        refine E_lstore (lv' := [_, _, _, _, _, _, _, _]) pf_9_61 rfl rfl ?_
        refine E_iload pf_9_62 rfl ?_
        refine E_istore (lv' := [_, _, _, _, _, _, _, _]) pf_9_64 rfl rfl ?_
        refine E_iinc (lv' := [_, _, _, _, _, _, _, _]) pf_9_65 rfl rfl ?_
        refine E_goto pf_9_68 ?_
        exact ih _ _ (by omega)
      · have e1 : zax (fun i => yD C sl (V i)) (i + 1) = zax (fun i => yD C sl (V i)) i := by simp only [zax]; rw [if_neg hc]
        rw [e1] at ih
        refine E_iload pf_9_23 rfl ?_
        refine E_aload pf_9_25 rfl ?_
        refine F_getf pf_9_26 rfl rfl rfl ?_
        refine E_icmp_ge_f pf_9_29 (by omega) ?_
        refine E_aload pf_9_32 rfl ?_
        refine F_getf pf_9_33 rfl rfl rfl ?_
        refine E_aload pf_9_36 rfl ?_
        refine F_getf pf_9_37 rfl rfl rfl ?_
        refine E_iload pf_9_40 rfl ?_
        refine F_iald pf_9_42 rfl (by omega) ?_
        refine E_aload pf_9_43 rfl ?_
        refine F_getf pf_9_44 rfl rfl rfl ?_
        refine F_v3v0 pf_9_47 (c38s hP.2.2.2 (by omega)) (And.intro rfl (And.intro rfl (And.intro rfl (trivial)))) rfl rfl ?_
        refine E_lstore (lv' := [_, _, _, _, _, _, _, _]) pf_9_50 rfl rfl ?_
        refine E_lload pf_9_52 rfl ?_
        refine E_lload pf_9_54 rfl ?_
        refine E_lcmp_le_t pf_9_55 pf_9_56 (by omega) ?_
        refine E_iinc (lv' := [_, _, _, _, _, _, _, _]) pf_9_65 rfl rfl ?_
        refine E_goto pf_9_68 ?_
        exact ih _ _ (by omega)
  have hq0 := hat 0 (by omega) (by omega)
  refine E_iconst pf_9_0 ?_
  refine E_istore (lv' := [_, _, _, _, _, _, _, _]) pf_9_1 rfl rfl ?_
  refine E_aload pf_9_2 rfl ?_
  refine F_getf pf_9_3 rfl rfl rfl ?_
  refine E_aload pf_9_6 rfl ?_
  refine F_getf pf_9_7 rfl rfl rfl ?_
  refine E_iconst pf_9_10 ?_
  refine F_iald pf_9_11 rfl (by omega) ?_
  refine E_aload pf_9_12 rfl ?_
  refine F_getf pf_9_13 rfl rfl rfl ?_
  refine F_v3v0 pf_9_16 (c38s hP.2.2.2 (by omega)) (And.intro rfl (And.intro rfl (And.intro rfl (trivial)))) rfl rfl ?_
  refine E_lstore (lv' := [_, _, _, _, _, _, _, _]) pf_9_19 rfl rfl ?_
  refine E_iconst pf_9_20 ?_
  refine E_istore (lv' := [_, _, _, _, _, _, _, _]) pf_9_21 rfl rfl ?_
  exact loop (m - 1) 0 _ _ (by omega)
theorem c10t {q : Int} (hs : sok vn R V U m) (hq : -2147483648 ≤ q ∧ q ≤ 2147483647) : ∀ h, Ca 10 [.ref 18, .ref 28, .int (ii q)] (wd [(18, oD pu be), (28, oS28 (rn : Int) (m : Int) st dr)] h) (.inl (some (.int (ii (zb (q ≠ 1 ∨ 1 < m))))), wd [(18, oD pu be), (28, oS28 (rn : Int) (m : Int) st dr)] h) := by
  intro h
  refine E_in (lv := [_, _, _]) rfl ?_
  have hm := hs.1
  by_cases h1 : q = 1
  · by_cases h2 : 1 < m
    · rw [zb_t (Or.inr h2)]
      refine E_iload pf_10_0 rfl ?_
      refine E_iconst pf_10_1 ?_
      refine E_icmp_ne_f pf_10_2 (by omega) ?_
      refine E_aload pf_10_5 rfl ?_
      refine F_getf pf_10_6 rfl rfl rfl ?_
      refine E_iconst pf_10_9 ?_
      refine E_icmp_le_f pf_10_10 (by omega) ?_
      refine E_iconst pf_10_13 ?_
      refine E_goto pf_10_14 ?_
      exact E_iret pf_10_18 rfl
    · rw [zb_f (by omega)]
      refine E_iload pf_10_0 rfl ?_
      refine E_iconst pf_10_1 ?_
      refine E_icmp_ne_f pf_10_2 (by omega) ?_
      refine E_aload pf_10_5 rfl ?_
      refine F_getf pf_10_6 rfl rfl rfl ?_
      refine E_iconst pf_10_9 ?_
      refine E_icmp_le_t pf_10_10 (by omega) ?_
      refine E_iconst pf_10_17 ?_
      exact E_iret pf_10_18 rfl
  · rw [zb_t (Or.inl h1)]
    refine E_iload pf_10_0 rfl ?_
    refine E_iconst pf_10_1 ?_
    refine E_icmp_ne_t pf_10_2 (by omega) ?_
    refine E_iconst pf_10_13 ?_
    refine E_goto pf_10_14 ?_
    exact E_iret pf_10_18 rfl
end CLS2
