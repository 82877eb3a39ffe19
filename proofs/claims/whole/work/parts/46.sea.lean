/-! search, both sides; what vertices are worth alone. -/
theorem h100 (a b : Int) : 100 * a * (100 * b) = 10000 * (a * b) := by
  rw [Int.mul_assoc, Int.mul_left_comm a 100 b]
  generalize a * b = x
  omega
def sH (r P : Int → Int) (dn rn : Nat) (v w : Int) : Int := zs (fun k => zA r P dn k v * (zA r P dn k w - zA r P dn k v)) rn
def sB (r P : Int → Int) (dn rn : Nat) (v w : Int) : Int := zs (fun k => (zA r P dn k w - zA r P dn k v) * (zA r P dn k w - zA r P dn k v)) rn
def seaU (t b : Int) : Int := if t ≤ 0 then 0 else if b ≤ t then 1 else ((t.toNat / Nat.gcd b.toNat t.toNat : Nat) : Int)
def seaL (t b : Int) : Int := if t ≤ 0 then 1 else if b ≤ t then 1 else ((b.toNat / Nat.gcd b.toNat t.toNat : Nat) : Int)
def clN (p b : Int) : Int := if b < (if -p < 0 then 0 else -p) then b else (if -p < 0 then 0 else -p)
def clD (b : Int) : Int := if 0 < b then b else 1
theorem sea_math {t b : Int} (hb : 0 ≤ b) (h0 : b = 0 → t = 0) : (((clN (-(10000 * t)) (10000 * b)).toNat / Nat.gcd (clN (-(10000 * t)) (10000 * b)).toNat (clD (10000 * b)).toNat : Nat) : Int) = seaU t b ∧ (((clD (10000 * b)).toNat / Nat.gcd (clN (-(10000 * t)) (10000 * b)).toNat (clD (10000 * b)).toNat : Nat) : Int) = seaL t b := by
  by_cases h1 : t ≤ 0
  · have eN : clN (-(10000 * t)) (10000 * b) = 0 := by unfold clN; split <;> (try split) <;> omega
    have hD : 1 ≤ (clD (10000 * b)).toNat := by unfold clD; split <;> omega
    unfold seaU seaL
    rw [eN, if_pos h1, if_pos h1, show (0 : Int).toNat = 0 from rfl, Nat.gcd_zero_left, Nat.zero_div, Nat.div_self hD]
    exact ⟨rfl, rfl⟩
  · have hb1 : 0 < b := by
      rcases Int.lt_or_eq_of_le hb with q | q
      · exact q
      · have := h0 q.symm; omega
    have eD : clD (10000 * b) = 10000 * b := by unfold clD; rw [if_pos (by omega)]
    unfold seaU seaL
    rw [if_neg h1, if_neg h1]
    by_cases h2 : b ≤ t
    · have eN : clN (-(10000 * t)) (10000 * b) = 10000 * b := by unfold clN; split <;> (try split) <;> omega
      rw [if_pos h2, if_pos h2, eN, eD, Nat.gcd_self, Nat.div_self (by omega)]
      exact ⟨rfl, rfl⟩
    · have eN : clN (-(10000 * t)) (10000 * b) = 10000 * t := by unfold clN; split <;> (try split) <;> omega
      rw [if_neg h2, if_neg h2, eN, eD]
      have e1 : (10000 * t).toNat = 10000 * t.toNat := by omega
      have e2 : (10000 * b).toNat = 10000 * b.toNat := by omega
      rw [e1, e2, Nat.gcd_mul_left, Nat.gcd_comm b.toNat t.toNat, Nat.mul_div_mul_left _ _ (by omega), Nat.mul_div_mul_left _ _ (by omega)]
      exact ⟨rfl, rfl⟩
theorem E_tl {mi pc : Nat} {lv st : List Value} {h : pd_H} {r : pd_Out × pd_H} {a b : Int} (e : a = b) (k : Rn mi pc lv (.long (ll b) :: st) h r) : Rn mi pc lv (.long (ll a) :: st) h r := e ▸ k
section SEA
variable {T C P R V U r q x rs sl wt fa mv : Int → Int} {rf ts tl sp d kd vs rw rd rk rv rr ac k st dr pu be : Int} {m dn rn vn n : Nat}
theorem al_R (h : cpl R V U C r P m dn vn) (hP : ppk C dn vn rn) {k v : Int} (hk : 0 ≤ k ∧ k < 4) (hv : 0 ≤ v ∧ v < vn) : yRs R (fun j => 100 * C (v * 4 + j)) k = 100 * zA r P dn k v := by
  have h1 := yT_lin R (fun j => C (v * 4 + j)) (fun j => C (v * 4 + j)) 100 0 k
  have e : (fun j => 100 * C (v * 4 + j) + 0 * C (v * 4 + j)) = (fun j => 100 * C (v * 4 + j)) := by funext j; omega
  rw [e] at h1
  unfold yRs
  rw [h1, cpl_TC h hP hk hv, cpl_R h hk (by omega : (0 : Int) ≤ 4 ∧ (4 : Int) ≤ 4)]
  omega
theorem al_A (h : cpl R V U C r P m dn vn) (hP : ppk C dn vn rn) {v : Int} (hv : 0 ≤ v ∧ v < vn) : vA R C rn v = 10000 * vM r P dn rn v := by
  have h4 := hP.2.2.1
  unfold vA vM
  rw [← zs_mul]
  refine zs_congr fun k hk => ?_
  rw [al_R h hP (by omega) hv]
  show 100 * zA r P dn k v * (100 * zA r P dn k v) = 10000 * (zA r P dn k v * zA r P dn k v)
  exact h100 _ _
theorem al_best (h : cpl R V U C r P m dn vn) (hP : ppk C dn vn rn) : zam (vA R C rn) (vn - 1) = zam (vM r P dn rn) (vn - 1) := by
  have h2 := hP.2.1
  exact zam_scale (s := 10000) (by omega) fun e he => al_A h hP (by omega)
theorem se_P (h : cpl R V U C r P m dn vn) (hP : ppk C dn vn rn) {v w : Int} (hv : 0 ≤ v ∧ v < vn) (hw : 0 ≤ w ∧ w < vn) : yP R (mvP C 100 v w) (yRs R (fun j => 100 * C (v * 4 + j))) rn = 10000 * sH r P dn rn v w := by
  have h4 := hP.2.2.1
  unfold yP sH
  rw [← zs_mul]
  refine zs_congr fun k hk => ?_
  rw [al_R h hP (by omega) hv, cpl_mP h hP (by omega) hv hw]
  show 100 * (zA r P dn k w - zA r P dn k v) * (100 * zA r P dn k v) = 10000 * (zA r P dn k v * (zA r P dn k w - zA r P dn k v))
  rw [Int.mul_comm (zA r P dn k v)]; exact h100 _ _
theorem se_B (h : cpl R V U C r P m dn vn) (hP : ppk C dn vn rn) {v w : Int} (hv : 0 ≤ v ∧ v < vn) (hw : 0 ≤ w ∧ w < vn) : yB R (mvP C 100 v w) rn = 10000 * sB r P dn rn v w := by
  have h4 := hP.2.2.1
  unfold yB sB
  rw [← zs_mul]
  refine zs_congr fun k hk => ?_
  rw [cpl_mP h hP (by omega) hv hw]
  show 100 * (zA r P dn k w - zA r P dn k v) * (100 * (zA r P dn k w - zA r P dn k v)) = 10000 * ((zA r P dn k w - zA r P dn k v) * (zA r P dn k w - zA r P dn k v))
  exact h100 _ _
theorem sB_nn (r P : Int → Int) (dn rn : Nat) (v w : Int) : 0 ≤ sB r P dn rn v w := zs_nn fun k _ => by
  show 0 ≤ (zA r P dn k w - zA r P dn k v) * (zA r P dn k w - zA r P dn k v)
  generalize zA r P dn k w - zA r P dn k v = x
  rcases Int.le_total 0 x with q | q
  · exact Int.mul_nonneg q q
  · exact Int.mul_nonneg_of_nonpos_of_nonpos q q
theorem sB_0 {r P : Int → Int} {dn rn : Nat} {v w : Int} (h : sB r P dn rn v w = 0) : sH r P dn rn v w = 0 := by
  have h1 := zs_sq0 (W := fun k => zA r P dn k w - zA r P dn k v) (n := rn) (Int.le_of_eq h)
  have : sH r P dn rn v w = zs (fun _ => 0) rn := zs_congr fun k hk => by
    have := h1 k hk
    show zA r P dn k v * (zA r P dn k w - zA r P dn k v) = 0
    have e : zA r P dn k w - zA r P dn k v = 0 := this
    rw [e, Int.mul_zero]
  rw [this, zs_zero]
theorem sHB_in (hp : pgk (vn : Int) r m) (hP : ppk P dn vn rn) (v w : Int) (n : Nat) (hn : n ≤ rn) : (-4000000 ≤ zs (fun k => zA r P dn k v * (zA r P dn k w - zA r P dn k v)) n ∧ zs (fun k => zA r P dn k v * (zA r P dn k w - zA r P dn k v)) n ≤ 4000000) ∧ (-4000000 ≤ zs (fun k => (zA r P dn k w - zA r P dn k v) * (zA r P dn k w - zA r P dn k v)) n ∧ zs (fun k => (zA r P dn k w - zA r P dn k v) * (zA r P dn k w - zA r P dn k v)) n ≤ 4000000) := by
  have h4 := hP.2.2.1
  have b1 := zs_le (f := fun k => zA r P dn k v * (zA r P dn k w - zA r P dn k v)) (n := n) (B := 423 * 846) fun k hk => by
    have h1 := zA_le hp hP (k := (k : Int)) (by omega) v
    have h2 := zA_le hp hP (k := (k : Int)) (by omega) w
    exact mul_le h1 (by omega)
  have b2 := zs_le (f := fun k => (zA r P dn k w - zA r P dn k v) * (zA r P dn k w - zA r P dn k v)) (n := n) (B := 846 * 846) fun k hk => by
    have h1 := zA_le hp hP (k := (k : Int)) (by omega) v
    have h2 := zA_le hp hP (k := (k : Int)) (by omega) w
    exact mul_le (by omega) (by omega)
  have h5 : (n : Int) * (423 * 846) ≤ 4 * (423 * 846) := Int.mul_le_mul_of_nonneg_right (by omega) (by omega)
  have h6 : (n : Int) * (846 * 846) ≤ 4 * (846 * 846) := Int.mul_le_mul_of_nonneg_right (by omega) (by omega)
  omega
theorem c16 {v w : Int} (hs : sok vn R V U m) (hP : ppk C dn vn rn) (hv : 0 ≤ v ∧ v < vn) (hw : 0 ≤ w ∧ w < vn) : ∀ h, Ca 16 [.ref 18, .ref 24, .int (ii v), .int (ii w)] (wd [(13, oP (dn : Int) k (vn : Int)), (14, ar 96 C), (18, oD pu be), (19, ar 4 x), (20, ar 4 rs), (22, ar 4 mv), (24, oS24 (rn : Int) (m : Int) st dr), (25, ar 20 R)] h) (.inl none, wd [(13, oP (dn : Int) k (vn : Int)), (14, ar 96 C), (18, oD (yP R (mvP C 100 v w) (yRs R (fun j => 100 * C (v * 4 + j))) rn) (yB R (mvP C 100 v w) rn)), (19, ar 4 (zfill x (fun j => 100 * C (v * 4 + j)) 4)), (20, ar 4 (zfill rs (yRs R (zfill x (fun j => 100 * C (v * 4 + j)) 4)) rn)), (22, ar 4 (zfill mv (mvP C 100 v w) 4)), (24, oS24 (rn : Int) (m : Int) st dr), (25, ar 20 R)] h) := by
  intro h
  have hp1 := hP.1
  have hp2 := hP.2.1
  have hp3 := hP.2.2.1
  have hm : ∀ j : Int, 0 ≤ j → j < 4 → -30000 ≤ (zfill mv (mvP C 100 v w) 4) j ∧ (zfill mv (mvP C 100 v w) 4) j ≤ 30000 := fun j h1 h2 => by
    rw [zfill_at (by omega)]
    unfold mvP
    have g1 := hP.2.2.2 (w * 4 + j)
    have g2 := hP.2.2.2 (v * 4 + j)
    omega
  have hr : ∀ k : Int, 0 ≤ k → k < rn → -2000000 ≤ (zfill rs (yRs R (zfill x (fun j => 100 * C (v * 4 + j)) 4)) rn) k ∧ (zfill rs (yRs R (zfill x (fun j => 100 * C (v * 4 + j)) 4)) rn) k ≤ 2000000 := fun k h1 h2 => by
    rw [zfill_at (by omega), yRs_fill]
    have := yRs_le (x := fun j => 100 * C (v * 4 + j)) (k := k) hs (fun j _ _ => by have := hP.2.2.2 (v * 4 + j); show -21600 ≤ 100 * C (v * 4 + j) ∧ 100 * C (v * 4 + j) ≤ 21600; omega) (by omega)
    omega
  have eP : yP R (zfill mv (mvP C 100 v w) 4) (zfill rs (yRs R (zfill x (fun j => 100 * C (v * 4 + j)) 4)) rn) rn = (yP R (mvP C 100 v w) (yRs R (fun j => 100 * C (v * 4 + j))) rn) := yP_congr (fun j hj => zfill_at (by omega)) (fun k hk => by rw [zfill_at (by omega), yRs_fill])
  have eB : yB R (zfill mv (mvP C 100 v w) 4) rn = (yB R (mvP C 100 v w) rn) := yB_congr (fun j hj => zfill_at (by omega))
  have h17 := c17s (pu := pu) (be := be) (st := st) (dr := dr) (rs := (zfill rs (yRs R (zfill x (fun j => 100 * C (v * 4 + j)) 4)) rn)) (mv := (zfill mv (mvP C 100 v w) 4)) hs hp3 hm hr
  rw [eP, eB] at h17
  refine E_in (lv := [_, _, _, _]) rfl ?_
  refine E_aload pf_16_0 rfl ?_
  refine E_iload pf_16_1 rfl ?_
  refine F_v2u (l' := [(_, _), (_, _), (_, _), (_, _), (_, _), (_, _), (_, _), (_, _)]) pf_16_2 (c6 (by omega)) (And.intro rfl (And.intro rfl (And.intro rfl (And.intro rfl (trivial))))) rfl rfl rfl rfl ?_
  refine E_aload pf_16_5 rfl ?_
  refine E_aload pf_16_6 rfl ?_
  refine F_v2u (l' := [(_, _), (_, _), (_, _), (_, _), (_, _), (_, _), (_, _), (_, _)]) pf_16_7 (c2s hp3) (And.intro rfl (And.intro rfl (And.intro rfl (And.intro rfl (And.intro rfl (trivial)))))) rfl rfl rfl rfl ?_
  refine E_aload pf_16_10 rfl ?_
  refine E_iload pf_16_11 rfl ?_
  refine E_iload pf_16_12 rfl ?_
  refine E_iconst pf_16_13 ?_
  refine F_v4u (l' := [(_, _), (_, _), (_, _), (_, _), (_, _), (_, _), (_, _), (_, _)]) pf_16_15 (c15 (by omega) (by omega)) (And.intro rfl (And.intro rfl (And.intro rfl (And.intro rfl (trivial))))) rfl rfl rfl rfl ?_
  refine E_aload pf_16_18 rfl ?_
  refine E_aload pf_16_19 rfl ?_
  refine F_v2u (l' := [(_, _), (_, _), (_, _), (_, _), (_, _), (_, _), (_, _), (_, _)]) pf_16_20 (h17) (And.intro rfl (And.intro rfl (And.intro rfl (And.intro rfl (And.intro rfl (trivial)))))) rfl rfl rfl rfl ?_
  exact E_vret pf_16_23 rfl
theorem c88u {v w : Int} (hs : sok vn R V U m) (hP : ppk C dn vn rn) (hv : 0 ≤ v ∧ v < vn) (hw : 0 ≤ w ∧ w < vn) : ∀ h, Ca 88 [.ref 1, .int (ii v), .int (ii w), .int (ii 1)] (wd [(1, oPD tl), (13, oP (dn : Int) k (vn : Int)), (14, ar 96 C), (18, oD pu be), (19, ar 4 x), (20, ar 4 rs), (22, ar 4 mv), (24, oS24 (rn : Int) (m : Int) st dr), (25, ar 20 R)] h) (.inl (some (.long (ll (((clN (yP R (mvP C 100 v w) (yRs R (fun j => 100 * C (v * 4 + j))) rn) (yB R (mvP C 100 v w) rn)).toNat / Nat.gcd (clN (yP R (mvP C 100 v w) (yRs R (fun j => 100 * C (v * 4 + j))) rn) (yB R (mvP C 100 v w) rn)).toNat (clD (yB R (mvP C 100 v w) rn)).toNat : Nat) : Int)))), wd [(1, oPD tl), (13, oP (dn : Int) k (vn : Int)), (14, ar 96 C), (18, oD (yP R (mvP C 100 v w) (yRs R (fun j => 100 * C (v * 4 + j))) rn) (yB R (mvP C 100 v w) rn)), (19, ar 4 (zfill x (fun j => 100 * C (v * 4 + j)) 4)), (20, ar 4 (zfill rs (yRs R (zfill x (fun j => 100 * C (v * 4 + j)) 4)) rn)), (22, ar 4 (zfill mv (mvP C 100 v w) 4)), (24, oS24 (rn : Int) (m : Int) st dr), (25, ar 20 R)] h) := by
  intro h
  have hp1 := hP.1
  have hp2 := hP.2.1
  have hp3 := hP.2.2.1
  have hb := (yPB_le (rs := yRs R (fun j => 100 * C (v * 4 + j))) (mv := mvP C 100 v w) hs hp3.2 (fun j _ _ => by unfold mvP; have g1 := hP.2.2.2 (w * 4 + j); have g2 := hP.2.2.2 (v * 4 + j); omega) (fun k h1 h2 => by
    have := yRs_le (x := fun j => 100 * C (v * 4 + j)) (k := k) hs (fun j _ _ => by have := hP.2.2.2 (v * 4 + j); show -21600 ≤ 100 * C (v * 4 + j) ∧ 100 * C (v * 4 + j) ≤ 21600; omega) (by omega)
    omega))
  have hn := yB_nn R (mvP C 100 v w) rn
  have h16 := c16 (k := k) (pu := pu) (be := be) (st := st) (dr := dr) (x := x) (rs := rs) (mv := mv) hs hP hv hw
  revert hb hn h16
  generalize (yP R (mvP C 100 v w) (yRs R (fun j => 100 * C (v * 4 + j))) rn) = pp
  generalize (yB R (mvP C 100 v w) rn) = bb
  intro hb hn h16
  obtain ⟨N, hN⟩ : ∃ N : Nat, clN pp bb = (N : Int) := ⟨(clN pp bb).toNat, by unfold clN; split <;> (try split) <;> omega⟩
  obtain ⟨D, hD⟩ : ∃ D : Nat, clD bb = (D : Int) := ⟨(clD bb).toNat, by unfold clD; split <;> omega⟩
  have hN2 : N ≤ 10000000000000 := by
    have : clN pp bb ≤ 10000000000000 := by unfold clN; split <;> (try split) <;> omega
    omega
  have hD2 : 1 ≤ D ∧ D ≤ 10000000000000 := by
    have : 1 ≤ clD bb ∧ clD bb ≤ 10000000000000 := by unfold clD; split <;> omega
    omega
  have hg1 : 0 < Nat.gcd N D := Nat.gcd_pos_of_pos_right _ (by omega)
  have hg2 : Nat.gcd N D ≤ D := Nat.gcd_le_right _ (by omega)
  have h99 := c99 (p0 := N) (q0 := D) (by omega) (by omega)
  rw [hN, hD]
  show Ca 88 _ _ (.inl (some (.long (ll ((N / Nat.gcd N D : Nat) : Int)))), _)
  rw [Int.natCast_ediv]
  have hg3 : (0 : Int) < ((Nat.gcd N D : Nat) : Int) := by omega
  have hg4 : ((Nat.gcd N D : Nat) : Int) ≤ 10000000000000 := by omega
  have hD3 : (if 0 < bb then bb else 1) = (D : Int) := hD
  refine E_in (lv := [_, _, _, _, _, _, _, _, _, _]) rfl ?_
  refine E_iload pf_88_0 rfl ?_
  refine E_aload pf_88_1 rfl ?_
  refine F_getf pf_88_2 rfl rfl rfl ?_
  refine F_getf pf_88_5 rfl rfl rfl ?_
  refine F_c2u0 pf_88_8 (c95 (by omega) (by omega)) (trivial) rfl ?_
  refine E_iload pf_88_11 rfl ?_
  refine E_aload pf_88_12 rfl ?_
  refine F_getf pf_88_13 rfl rfl rfl ?_
  refine F_getf pf_88_16 rfl rfl rfl ?_
  refine F_c2u0 pf_88_19 (c95 (by omega) (by omega)) (trivial) rfl ?_
  refine E_aload pf_88_22 rfl ?_
  refine F_getf pf_88_23 rfl rfl rfl ?_
  refine E_aload pf_88_26 rfl ?_
  refine F_getf pf_88_27 rfl rfl rfl ?_
  refine E_iload pf_88_30 rfl ?_
  refine E_iload pf_88_31 rfl ?_
  refine F_v4u (l' := [(_, _), (_, _), (_, _), (_, _), (_, _), (_, _), (_, _), (_, _), (_, _)]) pf_88_32 (h16) (And.intro rfl (And.intro rfl (And.intro rfl (And.intro rfl (And.intro rfl (And.intro rfl (And.intro rfl (And.intro rfl (trivial))))))))) rfl rfl rfl rfl ?_
  refine E_aload pf_88_35 rfl ?_
  refine F_getf pf_88_36 rfl rfl rfl ?_
  refine F_getf pf_88_39 rfl rfl rfl ?_
  refine E_lneg pf_88_42 ?_
  refine E_lconst pf_88_43 ?_
  refine E_maxL pf_88_44 (by omega) rfl ?_
  refine E_aload pf_88_47 rfl ?_
  refine F_getf pf_88_48 rfl rfl rfl ?_
  refine F_getf pf_88_51 rfl rfl rfl ?_
  refine E_minL pf_88_54 (by omega) rfl ?_
  refine E_tl (b := (N : Int)) hN ?_
  by_cases e : 0 < bb
  · rw [if_pos e] at hD3
    refine E_lstore (lv' := [_, _, _, _, _, _, _, _, _, _]) pf_88_57 rfl rfl ?_
    refine E_aload pf_88_59 rfl ?_
    refine F_getf pf_88_60 rfl rfl rfl ?_
    refine F_getf pf_88_63 rfl rfl rfl ?_
    refine E_lconst pf_88_66 ?_
    refine E_lcmp_le_f pf_88_67 pf_88_68 (by omega) ?_
    refine E_aload pf_88_71 rfl ?_
    refine F_getf pf_88_72 rfl rfl rfl ?_
    refine F_getf pf_88_75 rfl rfl rfl ?_
    refine E_goto pf_88_78 ?_
    refine E_tl (b := (D : Int)) hD3 ?_
    refine E_lstore (lv' := [_, _, _, _, _, _, _, _, _, _]) pf_88_82 rfl rfl ?_
    refine E_lload pf_88_84 rfl ?_
    refine E_lload pf_88_86 rfl ?_
    refine F_c2v0 pf_88_88 (h99) (trivial) rfl ?_
    refine E_lstore (lv' := [_, _, _, _, _, _, _, _, _, _]) pf_88_91 rfl rfl ?_
    refine E_lload pf_88_93 rfl ?_
    refine E_lconst pf_88_95 ?_
    refine E_lcmp_ge_t pf_88_96 pf_88_97 (by omega) ?_
    refine E_iload pf_88_112 rfl ?_
    refine E_if_eq_f pf_88_113 (by omega) ?_
    refine E_lload pf_88_116 rfl ?_
    refine E_goto pf_88_118 ?_
    refine E_lload pf_88_123 rfl ?_
    refine E_ldiv pf_88_125 (by omega) ?_
    exact E_lret pf_88_126 rfl
  · rw [if_neg e] at hD3
    refine E_lstore (lv' := [_, _, _, _, _, _, _, _, _, _]) pf_88_57 rfl rfl ?_
    refine E_aload pf_88_59 rfl ?_
    refine F_getf pf_88_60 rfl rfl rfl ?_
    refine F_getf pf_88_63 rfl rfl rfl ?_
    refine E_lconst pf_88_66 ?_
    refine E_lcmp_le_t pf_88_67 pf_88_68 (by omega) ?_
    refine E_lconst pf_88_81 ?_
    refine E_tl (b := (D : Int)) hD3 ?_
    refine E_lstore (lv' := [_, _, _, _, _, _, _, _, _, _]) pf_88_82 rfl rfl ?_
    refine E_lload pf_88_84 rfl ?_
    refine E_lload pf_88_86 rfl ?_
    refine F_c2v0 pf_88_88 (h99) (trivial) rfl ?_
    refine E_lstore (lv' := [_, _, _, _, _, _, _, _, _, _]) pf_88_91 rfl rfl ?_
    refine E_lload pf_88_93 rfl ?_
    refine E_lconst pf_88_95 ?_
    refine E_lcmp_ge_t pf_88_96 pf_88_97 (by omega) ?_
    refine E_iload pf_88_112 rfl ?_
    refine E_if_eq_f pf_88_113 (by omega) ?_
    refine E_lload pf_88_116 rfl ?_
    refine E_goto pf_88_118 ?_
    refine E_lload pf_88_123 rfl ?_
    refine E_ldiv pf_88_125 (by omega) ?_
    exact E_lret pf_88_126 rfl
theorem c88l {v w : Int} (hs : sok vn R V U m) (hP : ppk C dn vn rn) (hv : 0 ≤ v ∧ v < vn) (hw : 0 ≤ w ∧ w < vn) : ∀ h, Ca 88 [.ref 1, .int (ii v), .int (ii w), .int (ii 0)] (wd [(1, oPD tl), (13, oP (dn : Int) k (vn : Int)), (14, ar 96 C), (18, oD pu be), (19, ar 4 x), (20, ar 4 rs), (22, ar 4 mv), (24, oS24 (rn : Int) (m : Int) st dr), (25, ar 20 R)] h) (.inl (some (.long (ll (((clD (yB R (mvP C 100 v w) rn)).toNat / Nat.gcd (clN (yP R (mvP C 100 v w) (yRs R (fun j => 100 * C (v * 4 + j))) rn) (yB R (mvP C 100 v w) rn)).toNat (clD (yB R (mvP C 100 v w) rn)).toNat : Nat) : Int)))), wd [(1, oPD tl), (13, oP (dn : Int) k (vn : Int)), (14, ar 96 C), (18, oD (yP R (mvP C 100 v w) (yRs R (fun j => 100 * C (v * 4 + j))) rn) (yB R (mvP C 100 v w) rn)), (19, ar 4 (zfill x (fun j => 100 * C (v * 4 + j)) 4)), (20, ar 4 (zfill rs (yRs R (zfill x (fun j => 100 * C (v * 4 + j)) 4)) rn)), (22, ar 4 (zfill mv (mvP C 100 v w) 4)), (24, oS24 (rn : Int) (m : Int) st dr), (25, ar 20 R)] h) := by
  intro h
  have hp1 := hP.1
  have hp2 := hP.2.1
  have hp3 := hP.2.2.1
  have hb := (yPB_le (rs := yRs R (fun j => 100 * C (v * 4 + j))) (mv := mvP C 100 v w) hs hp3.2 (fun j _ _ => by unfold mvP; have g1 := hP.2.2.2 (w * 4 + j); have g2 := hP.2.2.2 (v * 4 + j); omega) (fun k h1 h2 => by
    have := yRs_le (x := fun j => 100 * C (v * 4 + j)) (k := k) hs (fun j _ _ => by have := hP.2.2.2 (v * 4 + j); show -21600 ≤ 100 * C (v * 4 + j) ∧ 100 * C (v * 4 + j) ≤ 21600; omega) (by omega)
    omega))
  have hn := yB_nn R (mvP C 100 v w) rn
  have h16 := c16 (k := k) (pu := pu) (be := be) (st := st) (dr := dr) (x := x) (rs := rs) (mv := mv) hs hP hv hw
  revert hb hn h16
  generalize (yP R (mvP C 100 v w) (yRs R (fun j => 100 * C (v * 4 + j))) rn) = pp
  generalize (yB R (mvP C 100 v w) rn) = bb
  intro hb hn h16
  obtain ⟨N, hN⟩ : ∃ N : Nat, clN pp bb = (N : Int) := ⟨(clN pp bb).toNat, by unfold clN; split <;> (try split) <;> omega⟩
  obtain ⟨D, hD⟩ : ∃ D : Nat, clD bb = (D : Int) := ⟨(clD bb).toNat, by unfold clD; split <;> omega⟩
  have hN2 : N ≤ 10000000000000 := by
    have : clN pp bb ≤ 10000000000000 := by unfold clN; split <;> (try split) <;> omega
    omega
  have hD2 : 1 ≤ D ∧ D ≤ 10000000000000 := by
    have : 1 ≤ clD bb ∧ clD bb ≤ 10000000000000 := by unfold clD; split <;> omega
    omega
  have hg1 : 0 < Nat.gcd N D := Nat.gcd_pos_of_pos_right _ (by omega)
  have hg2 : Nat.gcd N D ≤ D := Nat.gcd_le_right _ (by omega)
  have h99 := c99 (p0 := N) (q0 := D) (by omega) (by omega)
  rw [hN, hD]
  show Ca 88 _ _ (.inl (some (.long (ll ((D / Nat.gcd N D : Nat) : Int)))), _)
  rw [Int.natCast_ediv]
  have hg3 : (0 : Int) < ((Nat.gcd N D : Nat) : Int) := by omega
  have hg4 : ((Nat.gcd N D : Nat) : Int) ≤ 10000000000000 := by omega
  have hD3 : (if 0 < bb then bb else 1) = (D : Int) := hD
  refine E_in (lv := [_, _, _, _, _, _, _, _, _, _]) rfl ?_
  refine E_iload pf_88_0 rfl ?_
  refine E_aload pf_88_1 rfl ?_
  refine F_getf pf_88_2 rfl rfl rfl ?_
  refine F_getf pf_88_5 rfl rfl rfl ?_
  refine F_c2u0 pf_88_8 (c95 (by omega) (by omega)) (trivial) rfl ?_
  refine E_iload pf_88_11 rfl ?_
  refine E_aload pf_88_12 rfl ?_
  refine F_getf pf_88_13 rfl rfl rfl ?_
  refine F_getf pf_88_16 rfl rfl rfl ?_
  refine F_c2u0 pf_88_19 (c95 (by omega) (by omega)) (trivial) rfl ?_
  refine E_aload pf_88_22 rfl ?_
  refine F_getf pf_88_23 rfl rfl rfl ?_
  refine E_aload pf_88_26 rfl ?_
  refine F_getf pf_88_27 rfl rfl rfl ?_
  refine E_iload pf_88_30 rfl ?_
  refine E_iload pf_88_31 rfl ?_
  refine F_v4u (l' := [(_, _), (_, _), (_, _), (_, _), (_, _), (_, _), (_, _), (_, _), (_, _)]) pf_88_32 (h16) (And.intro rfl (And.intro rfl (And.intro rfl (And.intro rfl (And.intro rfl (And.intro rfl (And.intro rfl (And.intro rfl (trivial))))))))) rfl rfl rfl rfl ?_
  refine E_aload pf_88_35 rfl ?_
  refine F_getf pf_88_36 rfl rfl rfl ?_
  refine F_getf pf_88_39 rfl rfl rfl ?_
  refine E_lneg pf_88_42 ?_
  refine E_lconst pf_88_43 ?_
  refine E_maxL pf_88_44 (by omega) rfl ?_
  refine E_aload pf_88_47 rfl ?_
  refine F_getf pf_88_48 rfl rfl rfl ?_
  refine F_getf pf_88_51 rfl rfl rfl ?_
  refine E_minL pf_88_54 (by omega) rfl ?_
  refine E_tl (b := (N : Int)) hN ?_
  by_cases e : 0 < bb
  · rw [if_pos e] at hD3
    refine E_lstore (lv' := [_, _, _, _, _, _, _, _, _, _]) pf_88_57 rfl rfl ?_
    refine E_aload pf_88_59 rfl ?_
    refine F_getf pf_88_60 rfl rfl rfl ?_
    refine F_getf pf_88_63 rfl rfl rfl ?_
    refine E_lconst pf_88_66 ?_
    refine E_lcmp_le_f pf_88_67 pf_88_68 (by omega) ?_
    refine E_aload pf_88_71 rfl ?_
    refine F_getf pf_88_72 rfl rfl rfl ?_
    refine F_getf pf_88_75 rfl rfl rfl ?_
    refine E_goto pf_88_78 ?_
    refine E_tl (b := (D : Int)) hD3 ?_
    refine E_lstore (lv' := [_, _, _, _, _, _, _, _, _, _]) pf_88_82 rfl rfl ?_
    refine E_lload pf_88_84 rfl ?_
    refine E_lload pf_88_86 rfl ?_
    refine F_c2v0 pf_88_88 (h99) (trivial) rfl ?_
    refine E_lstore (lv' := [_, _, _, _, _, _, _, _, _, _]) pf_88_91 rfl rfl ?_
    refine E_lload pf_88_93 rfl ?_
    refine E_lconst pf_88_95 ?_
    refine E_lcmp_ge_t pf_88_96 pf_88_97 (by omega) ?_
    refine E_iload pf_88_112 rfl ?_
    refine E_if_eq_t pf_88_113 (by omega) ?_
    refine E_lload pf_88_121 rfl ?_
    refine E_lload pf_88_123 rfl ?_
    refine E_ldiv pf_88_125 (by omega) ?_
    exact E_lret pf_88_126 rfl
  · rw [if_neg e] at hD3
    refine E_lstore (lv' := [_, _, _, _, _, _, _, _, _, _]) pf_88_57 rfl rfl ?_
    refine E_aload pf_88_59 rfl ?_
    refine F_getf pf_88_60 rfl rfl rfl ?_
    refine F_getf pf_88_63 rfl rfl rfl ?_
    refine E_lconst pf_88_66 ?_
    refine E_lcmp_le_t pf_88_67 pf_88_68 (by omega) ?_
    refine E_lconst pf_88_81 ?_
    refine E_tl (b := (D : Int)) hD3 ?_
    refine E_lstore (lv' := [_, _, _, _, _, _, _, _, _, _]) pf_88_82 rfl rfl ?_
    refine E_lload pf_88_84 rfl ?_
    refine E_lload pf_88_86 rfl ?_
    refine F_c2v0 pf_88_88 (h99) (trivial) rfl ?_
    refine E_lstore (lv' := [_, _, _, _, _, _, _, _, _, _]) pf_88_91 rfl rfl ?_
    refine E_lload pf_88_93 rfl ?_
    refine E_lconst pf_88_95 ?_
    refine E_lcmp_ge_t pf_88_96 pf_88_97 (by omega) ?_
    refine E_iload pf_88_112 rfl ?_
    refine E_if_eq_t pf_88_113 (by omega) ?_
    refine E_lload pf_88_121 rfl ?_
    refine E_lload pf_88_123 rfl ?_
    refine E_ldiv pf_88_125 (by omega) ?_
    exact E_lret pf_88_126 rfl
theorem c88x {v w u : Int} (hi : (-2147483648 ≤ v ∧ v ≤ 2147483647)) (hj : (-2147483648 ≤ w ∧ w ≤ 2147483647)) (hv : vn ≤ 24) (h1 : ¬ ((0 ≤ v ∧ v < vn) ∧ (0 ≤ w ∧ w < vn))) : ∀ h, Ca 88 [.ref 1, .int (ii v), .int (ii w), .int (ii u)] (wd [(1, oPD tl), (13, oP (dn : Int) k (vn : Int))] h) (.inr 2, pd_thr (wd [(1, oPD tl), (13, oP (dn : Int) k (vn : Int))] h)) := by
  intro h
  refine E_in (lv := [_, _, _, _, _, _, _, _, _, _]) rfl ?_
  by_cases e : 0 ≤ v ∧ v < vn
  ·
    refine E_iload pf_88_0 rfl ?_
    refine E_aload pf_88_1 rfl ?_
    refine F_getf pf_88_2 rfl rfl rfl ?_
    refine F_getf pf_88_5 rfl rfl rfl ?_
    refine F_c2u0 pf_88_8 (c95 (by omega) (by omega)) (trivial) rfl ?_
    refine E_iload pf_88_11 rfl ?_
    refine E_aload pf_88_12 rfl ?_
    refine F_getf pf_88_13 rfl rfl rfl ?_
    refine F_getf pf_88_16 rfl rfl rfl ?_
    exact E_c2x pf_88_19 rfl (c95x (by omega) (by omega) (by omega) _) rfl
  ·
    refine E_iload pf_88_0 rfl ?_
    refine E_aload pf_88_1 rfl ?_
    refine F_getf pf_88_2 rfl rfl rfl ?_
    refine F_getf pf_88_5 rfl rfl rfl ?_
    exact E_c2x pf_88_8 rfl (c95x (by omega) (by omega) (by omega) _) rfl
theorem c168x {v w u : Int} (hi : (-2147483648 ≤ v ∧ v ≤ 2147483647)) (hj : (-2147483648 ≤ w ∧ w ≤ 2147483647)) (hv : vn ≤ 24) (h1 : ¬ ((0 ≤ v ∧ v < vn) ∧ (0 ≤ w ∧ w < vn))) : ∀ h, Ca 168 [.ref 102, .int (ii v), .int (ii w), .int (ii u)] (wd [(102, oX6 rf ts sp (dn : Int) kd (vn : Int) (rn : Int) rd rk rv rr ac)] h) (.inl (some (.long (ll 0))), wd [(102, oX6 1 ts sp (dn : Int) kd (vn : Int) (rn : Int) rd rk rv rr ac)] h) := by
  intro h
  refine E_in (lv := [_, _, _, _, _, _, _, _, _, _, _, _, _]) rfl ?_
  by_cases e : 0 ≤ v ∧ v < vn
  ·
    refine E_aload pf_168_0 rfl ?_
    refine E_aload pf_168_1 rfl ?_
    refine E_iload pf_168_2 rfl ?_
    refine F_v2v0 pf_168_3 (c111t (by omega) (by omega)) (And.intro rfl (trivial)) rfl rfl ?_
    refine E_if_eq_f pf_168_6 (by omega) ?_
    refine E_aload pf_168_9 rfl ?_
    refine E_iload pf_168_10 rfl ?_
    refine F_v2v0 pf_168_11 (c111f (by omega) (by omega) (by omega)) (And.intro rfl (trivial)) rfl rfl ?_
    refine E_if_eq_t pf_168_14 (by omega) ?_
    refine E_iconst pf_168_21 ?_
    refine F_v2v (l' := [(_, _)]) pf_168_22 (c108_1) (And.intro rfl (trivial)) rfl rfl rfl rfl ?_
    refine E_if_eq_f pf_168_25 (by omega) ?_
    refine E_lconst pf_168_28 ?_
    exact E_lret pf_168_29 rfl
  ·
    refine E_aload pf_168_0 rfl ?_
    refine E_aload pf_168_1 rfl ?_
    refine E_iload pf_168_2 rfl ?_
    refine F_v2v0 pf_168_3 (c111f (by omega) (by omega) (by omega)) (And.intro rfl (trivial)) rfl rfl ?_
    refine E_if_eq_t pf_168_6 (by omega) ?_
    refine E_iconst pf_168_21 ?_
    refine F_v2v (l' := [(_, _)]) pf_168_22 (c108_1) (And.intro rfl (trivial)) rfl rfl rfl rfl ?_
    refine E_if_eq_f pf_168_25 (by omega) ?_
    refine E_lconst pf_168_28 ?_
    exact E_lret pf_168_29 rfl
theorem c168k {v w u : Int} (hp : pgk (vn : Int) r m) (hP : ppk P dn vn rn) (hv : 0 ≤ v ∧ v < vn) (hw : 0 ≤ w ∧ w < vn) (h : pd_H) (o : pd_Out × pd_H) (fin : ∀ w9 w10 w11 w12 : Value, Rn 168 105 [.ref 102, .int (ii v), .int (ii w), .int (ii u), .long (ll (-(zs (fun k => zA r P dn k v * (zA r P dn k w - zA r P dn k v)) rn))), pd_dum, .long (ll (zs (fun k => (zA r P dn k w - zA r P dn k v) * (zA r P dn k w - zA r P dn k v)) rn)), pd_dum, .int (ii (rn : Int)), w9, w10, w11, w12] [] (wd [(102, oX6 0 ts sp (dn : Int) kd (vn : Int) (rn : Int) rd rk rv rr ac), (104, ar 128 P), (107, ar 72 r)] h) o) : Ca 168 [.ref 102, .int (ii v), .int (ii w), .int (ii u)] (wd [(102, oX6 rf ts sp (dn : Int) kd (vn : Int) (rn : Int) rd rk rv rr ac), (104, ar 128 P), (107, ar 72 r)] h) o := by
  have hp1 := hP.1
  have hp2 := hP.2.1
  have hp3 := hP.2.2.1
  have loop : ∀ (n j : Nat) (w9 w10 w11 w12 : Value), j + n = rn → Rn 168 39 [.ref 102, .int (ii v), .int (ii w), .int (ii u), .long (ll (-(zs (fun k => zA r P dn k v * (zA r P dn k w - zA r P dn k v)) j))), pd_dum, .long (ll (zs (fun k => (zA r P dn k w - zA r P dn k v) * (zA r P dn k w - zA r P dn k v)) j)), pd_dum, .int (ii (j : Int)), w9, w10, w11, w12] [] (wd [(102, oX6 0 ts sp (dn : Int) kd (vn : Int) (rn : Int) rd rk rv rr ac), (104, ar 128 P), (107, ar 72 r)] h) o := by
    intro n
    induction n with
    | zero =>
      intro j w9 w10 w11 w12 hj
      obtain rfl : rn = j := by omega
      refine E_iload pf_168_39 rfl ?_
      refine E_aload pf_168_41 rfl ?_
      refine F_getf pf_168_42 rfl rfl rfl ?_
      refine E_icmp_ge_t pf_168_45 (by omega) ?_
      exact fin _ _ _ _
    | succ n ih =>
      intro j w9 w10 w11 w12 hj
      have ih := fun w9 w10 w11 w12 => ih (j + 1) w9 w10 w11 w12 (by omega)
      simp only [zs] at ih
      simp only [Int.neg_add, ← Int.sub_eq_add_neg] at ih
      have hA := zA_le hp hP (k := (j : Int)) (by omega) v
      have hB := zA_le hp hP (k := (j : Int)) (by omega) w
      refine E_iload pf_168_39 rfl ?_
      refine E_aload pf_168_41 rfl ?_
      refine F_getf pf_168_42 rfl rfl rfl ?_
      refine E_icmp_ge_f pf_168_45 (by omega) ?_
      refine E_aload pf_168_48 rfl ?_
      refine E_aload pf_168_49 rfl ?_
      refine F_getf pf_168_50 rfl rfl rfl ?_
      refine E_iload pf_168_53 rfl ?_
      refine E_iload pf_168_55 rfl ?_
      refine F_v4v0 pf_168_56 (c114n hp hP (by omega) (by omega)) (And.intro rfl (And.intro rfl (And.intro rfl (trivial)))) rfl rfl ?_
      refine E_i2l pf_168_59 (by omega) ?_
      refine E_lstore (lv' := [_, _, _, _, _, _, _, _, _, _, _, _, _]) pf_168_60 rfl rfl ?_
      refine E_aload pf_168_62 rfl ?_
      refine E_aload pf_168_63 rfl ?_
      refine F_getf pf_168_64 rfl rfl rfl ?_
      refine E_iload pf_168_67 rfl ?_
      refine E_iload pf_168_69 rfl ?_
      refine F_v4v0 pf_168_70 (c114n hp hP (by omega) (by omega)) (And.intro rfl (And.intro rfl (And.intro rfl (trivial)))) rfl rfl ?_
      refine E_i2l pf_168_73 (by omega) ?_
      refine E_lload pf_168_74 rfl ?_
      refine E_lsub pf_168_76 ?_
      refine E_lstore (lv' := [_, _, _, _, _, _, _, _, _, _, _, _, _]) pf_168_77 rfl rfl ?_
      refine E_lload pf_168_79 rfl ?_
      refine E_lload pf_168_81 rfl ?_
      refine E_lload pf_168_83 rfl ?_
      refine E_lmul pf_168_85 ?_
      refine E_lsub pf_168_86 ?_
      refine E_lstore (lv' := [_, _, _, _, _, _, _, _, _, _, _, _, _]) pf_168_87 rfl rfl ?_
      refine E_lload pf_168_89 rfl ?_
      refine E_lload pf_168_91 rfl ?_
      refine E_lload pf_168_93 rfl ?_
      refine E_lmul pf_168_95 ?_
      refine E_ladd pf_168_96 ?_
      refine E_lstore (lv' := [_, _, _, _, _, _, _, _, _, _, _, _, _]) pf_168_97 rfl rfl ?_
      refine E_iinc (lv' := [_, _, _, _, _, _, _, _, _, _, _, _, _]) pf_168_99 rfl rfl ?_
      refine E_goto pf_168_102 ?_
      exact ih _ _ _ _
  refine E_in (lv := [_, _, _, _, _, _, _, _, _, _, _, _, _]) rfl ?_
  refine E_aload pf_168_0 rfl ?_
  refine E_aload pf_168_1 rfl ?_
  refine E_iload pf_168_2 rfl ?_
  refine F_v2v0 pf_168_3 (c111t (by omega) (by omega)) (And.intro rfl (trivial)) rfl rfl ?_
  refine E_if_eq_f pf_168_6 (by omega) ?_
  refine E_aload pf_168_9 rfl ?_
  refine E_iload pf_168_10 rfl ?_
  refine F_v2v0 pf_168_11 (c111t (by omega) (by omega)) (And.intro rfl (trivial)) rfl rfl ?_
  refine E_if_eq_f pf_168_14 (by omega) ?_
  refine E_iconst pf_168_17 ?_
  refine E_goto pf_168_18 ?_
  refine F_v2v (l' := [(_, _), (_, _), (_, _)]) pf_168_22 (c108_0) (And.intro rfl (trivial)) rfl rfl rfl rfl ?_
  refine E_if_eq_t pf_168_25 (by omega) ?_
  refine E_lconst pf_168_30 ?_
  refine E_lstore (lv' := [_, _, _, _, _, _, _, _, _, _, _, _, _]) pf_168_31 rfl rfl ?_
  refine E_lconst pf_168_33 ?_
  refine E_lstore (lv' := [_, _, _, _, _, _, _, _, _, _, _, _, _]) pf_168_34 rfl rfl ?_
  refine E_iconst pf_168_36 ?_
  refine E_istore (lv' := [_, _, _, _, _, _, _, _, _, _, _, _, _]) pf_168_37 rfl rfl ?_
  exact loop rn 0 _ _ _ _ (by omega)
theorem c168u {v w : Int} (hp : pgk (vn : Int) r m) (hP : ppk P dn vn rn) (hv : 0 ≤ v ∧ v < vn) (hw : 0 ≤ w ∧ w < vn) : ∀ h, Ca 168 [.ref 102, .int (ii v), .int (ii w), .int (ii 1)] (wd [(102, oX6 rf ts sp (dn : Int) kd (vn : Int) (rn : Int) rd rk rv rr ac), (104, ar 128 P), (107, ar 72 r)] h) (.inl (some (.long (ll (seaU (- sH r P dn rn v w) (sB r P dn rn v w))))), wd [(102, oX6 0 ts sp (dn : Int) kd (vn : Int) (rn : Int) rd rk rv rr ac), (104, ar 128 P), (107, ar 72 r)] h) := by
  intro h
  have hb := sHB_in hp hP v w rn (Nat.le_refl _)
  have hnn := sB_nn r P dn rn v w
  refine c168k hp hP hv hw h _ fun w9 w10 w11 w12 => ?_
  change (-4000000 ≤ sH r P dn rn v w ∧ sH r P dn rn v w ≤ 4000000) ∧ (-4000000 ≤ sB r P dn rn v w ∧ sB r P dn rn v w ≤ 4000000) at hb
  change Rn 168 105 [.ref 102, .int (ii v), .int (ii w), .int (ii 1), .long (ll (- sH r P dn rn v w)), pd_dum, .long (ll (sB r P dn rn v w)), pd_dum, .int (ii (rn : Int)), w9, w10, w11, w12] [] _ _
  revert hb hnn
  generalize sH r P dn rn v w = t0
  generalize sB r P dn rn v w = b
  intro hb hnn
  obtain ⟨t, ht⟩ : ∃ t, t = -t0 := ⟨_, rfl⟩
  rw [← ht]
  by_cases h1 : t ≤ 0
  · rw [show seaU t b = 0 from if_pos h1]
    refine E_lload pf_168_105 rfl ?_
    refine E_lconst pf_168_107 ?_
    refine E_lcmp_gt_f pf_168_108 pf_168_109 (by omega) ?_
    refine E_iload pf_168_112 rfl ?_
    refine E_if_eq_f pf_168_113 (by omega) ?_
    refine E_lconst pf_168_116 ?_
    refine E_goto pf_168_117 ?_
    exact E_lret pf_168_121 rfl
  · by_cases h2 : b ≤ t
    · rw [show seaU t b = 1 from by unfold seaU; rw [if_neg h1, if_pos h2]]
      refine E_lload pf_168_105 rfl ?_
      refine E_lconst pf_168_107 ?_
      refine E_lcmp_gt_t pf_168_108 pf_168_109 (by omega) ?_
      refine E_lload pf_168_122 rfl ?_
      refine E_lload pf_168_124 rfl ?_
      refine E_lcmp_lt_f pf_168_126 pf_168_127 (by omega) ?_
      refine E_lconst pf_168_130 ?_
      exact E_lret pf_168_131 rfl
    · rw [show seaU t b = ((t.toNat / Nat.gcd b.toNat t.toNat : Nat) : Int) from by unfold seaU; rw [if_neg h1, if_neg h2]]
      have h167 := c167 (p0 := b.toNat) (q0 := t.toNat) (by omega) (by omega)
      have hg1 : 0 < Nat.gcd b.toNat t.toNat := Nat.gcd_pos_of_pos_right _ (by omega)
      have hg2 : Nat.gcd b.toNat t.toNat ≤ t.toNat := Nat.gcd_le_right _ (by omega)
      rw [Int.natCast_ediv]
      rw [show ((t.toNat : Nat) : Int) = t by omega, show ((b.toNat : Nat) : Int) = b by omega] at h167
      rw [show ((t.toNat : Nat) : Int) = t by omega]
      generalize Nat.gcd b.toNat t.toNat = gg at hg1 hg2 h167
      refine E_lload pf_168_105 rfl ?_
      refine E_lconst pf_168_107 ?_
      refine E_lcmp_gt_t pf_168_108 pf_168_109 (by omega) ?_
      refine E_lload pf_168_122 rfl ?_
      refine E_lload pf_168_124 rfl ?_
      refine E_lcmp_lt_t pf_168_126 pf_168_127 (by omega) ?_
      refine E_lload pf_168_132 rfl ?_
      refine E_lload pf_168_134 rfl ?_
      refine F_c2v0 pf_168_136 (h167) (trivial) rfl ?_
      refine E_lstore (lv' := [_, _, _, _, _, _, _, _, _, _, _, _, _]) pf_168_139 rfl rfl ?_
      refine E_iload pf_168_141 rfl ?_
      refine E_if_eq_f pf_168_142 (by omega) ?_
      refine E_lload pf_168_145 rfl ?_
      refine E_lload pf_168_147 rfl ?_
      refine E_ldiv pf_168_149 (by omega) ?_
      refine E_goto pf_168_150 ?_
      exact E_lret pf_168_158 rfl
theorem c168l {v w : Int} (hp : pgk (vn : Int) r m) (hP : ppk P dn vn rn) (hv : 0 ≤ v ∧ v < vn) (hw : 0 ≤ w ∧ w < vn) : ∀ h, Ca 168 [.ref 102, .int (ii v), .int (ii w), .int (ii 0)] (wd [(102, oX6 rf ts sp (dn : Int) kd (vn : Int) (rn : Int) rd rk rv rr ac), (104, ar 128 P), (107, ar 72 r)] h) (.inl (some (.long (ll (seaL (- sH r P dn rn v w) (sB r P dn rn v w))))), wd [(102, oX6 0 ts sp (dn : Int) kd (vn : Int) (rn : Int) rd rk rv rr ac), (104, ar 128 P), (107, ar 72 r)] h) := by
  intro h
  have hb := sHB_in hp hP v w rn (Nat.le_refl _)
  have hnn := sB_nn r P dn rn v w
  refine c168k hp hP hv hw h _ fun w9 w10 w11 w12 => ?_
  change (-4000000 ≤ sH r P dn rn v w ∧ sH r P dn rn v w ≤ 4000000) ∧ (-4000000 ≤ sB r P dn rn v w ∧ sB r P dn rn v w ≤ 4000000) at hb
  change Rn 168 105 [.ref 102, .int (ii v), .int (ii w), .int (ii 0), .long (ll (- sH r P dn rn v w)), pd_dum, .long (ll (sB r P dn rn v w)), pd_dum, .int (ii (rn : Int)), w9, w10, w11, w12] [] _ _
  revert hb hnn
  generalize sH r P dn rn v w = t0
  generalize sB r P dn rn v w = b
  intro hb hnn
  obtain ⟨t, ht⟩ : ∃ t, t = -t0 := ⟨_, rfl⟩
  rw [← ht]
  by_cases h1 : t ≤ 0
  · rw [show seaL t b = 1 from if_pos h1]
    refine E_lload pf_168_105 rfl ?_
    refine E_lconst pf_168_107 ?_
    refine E_lcmp_gt_f pf_168_108 pf_168_109 (by omega) ?_
    refine E_iload pf_168_112 rfl ?_
    refine E_if_eq_t pf_168_113 (by omega) ?_
    refine E_lconst pf_168_120 ?_
    exact E_lret pf_168_121 rfl
  · by_cases h2 : b ≤ t
    · rw [show seaL t b = 1 from by unfold seaL; rw [if_neg h1, if_pos h2]]
      refine E_lload pf_168_105 rfl ?_
      refine E_lconst pf_168_107 ?_
      refine E_lcmp_gt_t pf_168_108 pf_168_109 (by omega) ?_
      refine E_lload pf_168_122 rfl ?_
      refine E_lload pf_168_124 rfl ?_
      refine E_lcmp_lt_f pf_168_126 pf_168_127 (by omega) ?_
      refine E_lconst pf_168_130 ?_
      exact E_lret pf_168_131 rfl
    · rw [show seaL t b = ((b.toNat / Nat.gcd b.toNat t.toNat : Nat) : Int) from by unfold seaL; rw [if_neg h1, if_neg h2]]
      have h167 := c167 (p0 := b.toNat) (q0 := t.toNat) (by omega) (by omega)
      have hg1 : 0 < Nat.gcd b.toNat t.toNat := Nat.gcd_pos_of_pos_right _ (by omega)
      have hg2 : Nat.gcd b.toNat t.toNat ≤ t.toNat := Nat.gcd_le_right _ (by omega)
      rw [Int.natCast_ediv]
      rw [show ((t.toNat : Nat) : Int) = t by omega, show ((b.toNat : Nat) : Int) = b by omega] at h167
      rw [show ((b.toNat : Nat) : Int) = b by omega]
      generalize Nat.gcd b.toNat t.toNat = gg at hg1 hg2 h167
      refine E_lload pf_168_105 rfl ?_
      refine E_lconst pf_168_107 ?_
      refine E_lcmp_gt_t pf_168_108 pf_168_109 (by omega) ?_
      refine E_lload pf_168_122 rfl ?_
      refine E_lload pf_168_124 rfl ?_
      refine E_lcmp_lt_t pf_168_126 pf_168_127 (by omega) ?_
      refine E_lload pf_168_132 rfl ?_
      refine E_lload pf_168_134 rfl ?_
      refine F_c2v0 pf_168_136 (h167) (trivial) rfl ?_
      refine E_lstore (lv' := [_, _, _, _, _, _, _, _, _, _, _, _, _]) pf_168_139 rfl rfl ?_
      refine E_iload pf_168_141 rfl ?_
      refine E_if_eq_t pf_168_142 (by omega) ?_
      refine E_lload pf_168_153 rfl ?_
      refine E_lload pf_168_155 rfl ?_
      refine E_ldiv pf_168_157 (by omega) ?_
      exact E_lret pf_168_158 rfl
end SEA
