/-! Lines and steps in the class. -/
theorem zl_mxs (V U : Int → Int) (m : Nat) : mxs (zl V U m) = zs U m := by
  have happ : ∀ A B : List (Int × Int), mxs (A ++ B) = mxs A + mxs B := fun A B => by
    induction A with
    | nil => simp [mxs]
    | cons q A ih => simp only [List.cons_append, mxs, ih]; omega
  induction m with
  | zero => rfl
  | succ m ih => rw [zl_s, happ, ih]; simp [zs, mxs]
theorem zl_fst (V U : Int → Int) (m : Nat) : (zl V U m).map Prod.fst = (List.range m).map (fun i : Nat => V i) := by
  unfold zl; rw [List.map_map]; rfl
theorem zl_Mb {vn : Int} {V U U' : Int → Int} {m : Nat} (h : Mb vn (zl V U m)) (hU : ∀ i : Nat, i < m → 0 ≤ U' i) : Mb vn (zl V U' m) := by
  refine ⟨fun q hq => ?_, by have := h.2; rw [zl_fst] at this ⊢; exact this⟩
  obtain ⟨i, h1, rfl⟩ := zl_mem.mp hq
  have := Mb_at h h1
  exact ⟨this.1, this.2.1, hU i h1⟩
theorem scl_zl {V U : Int → Int} {m : Nat} {up lo ex : Int} (hl : 0 < lo) : scl (zl V U m) up lo ex = zl V (inU (-9) m (zs (sL U up lo ex) m / lo).toNat (sQ (-9) U up lo ex) (sU U up lo ex)) m := (scl_eq hl (by omega) (fun _ _ => rfl) (fun _ _ => rfl)).symm
theorem sU_nn {U : Int → Int} {up lo ex : Int} {i : Int} (hl : 0 < lo) (hup : 0 ≤ up) (h : 0 ≤ U i) : 0 ≤ sU U up lo ex i := by
  unfold sU; split
  · exact h
  · exact Int.ediv_nonneg (Int.mul_nonneg h hup) (by omega)
theorem scl_Mb {vn : Int} {V U : Int → Int} {m : Nat} {up lo ex : Int} (h : Mb vn (zl V U m)) (hl : 0 < lo) (hup : 0 ≤ up) : Mb vn (scl (zl V U m) up lo ex) := by
  rw [scl_zl hl]
  exact zl_Mb h fun i hi => Int.le_trans (sU_nn (ex := ex) hl hup (Mb_at h hi).2.2.1) (inU_ge _ _ _ _)
theorem s_sum_n {U : Int → Int} {up lo ex : Int} {m : Nat} (hl : 0 < lo) (hex : ex < 0) (hs : zs U m = lo) (hm : 1 ≤ m) : mxs (scl (zl (fun _ => 0) U m) up lo ex) = up := by
  rw [scl_zl hl, zl_mxs, inU_sum hm]
  have hk := s_key U up lo ex m
  have e1 : zs (sA U ex) m = zs U m := zs_congr fun k _ => by unfold sA; rw [if_neg (by omega)]
  have e2 : zs (sU U up lo ex) m = zs (sG U up lo ex) m := zs_congr fun k _ => by unfold sU sG; rw [if_neg (by omega), if_neg (by omega)]
  rw [e1, hs] at hk
  have e3 : zs (sL U up lo ex) m / lo = up - zs (sG U up lo ex) m := by
    have : zs (sL U up lo ex) m = lo * (up - zs (sG U up lo ex) m) := by rw [Int.mul_sub]; omega
    rw [this, Int.mul_ediv_cancel_left _ (by omega)]
  have h2 : 0 ≤ zs (sL U up lo ex) m / lo := Int.ediv_nonneg (zs_nn fun i _ => (sL_nn hl i).1) (by omega)
  rw [e2]; omega
theorem s_sum_e {U : Int → Int} {up lo : Int} {ex m : Nat} (hl : 0 < lo) (hex : ex < m) (hs : zs U m = lo + U ex) : mxs (scl (zl (fun _ => 0) U m) up lo ex) = up + U ex := by
  rw [scl_zl hl, zl_mxs, inU_sum (by omega)]
  have hk := s_key U up lo ex m
  have e1 : zs (sA U ex) m = zs U m - U ex := by
    have : sA U ex = zu U ex 0 := by funext k; unfold sA zu; rfl
    rw [this, zs_zu _ _ _ _ (by omega) (by omega)]; omega
  have e2 : zs (sU U up lo ex) m = zs (sG U up lo ex) m + U ex := by
    have : sG U up lo ex = zu (sU U up lo ex) ex 0 := by
      funext k; unfold sG zu sU; split <;> rfl
    rw [this, zs_zu _ _ _ _ (by omega) (by omega)]
    have : sU U up lo ex ex = U ex := by unfold sU; rw [if_pos rfl]
    omega
  rw [e1, hs] at hk
  have e3 : zs (sL U up lo ex) m / lo = up - zs (sG U up lo ex) m := by
    have : zs (sL U up lo ex) m = lo * (up - zs (sG U up lo ex) m) := by
      rw [Int.mul_sub]
      have : (lo + U ex - U ex) * up = lo * up := by congr 1; omega
      omega
    rw [this, Int.mul_ediv_cancel_left _ (by omega)]
  have h2 : 0 ≤ zs (sL U up lo ex) m / lo := Int.ediv_nonneg (zs_nn fun i _ => (sL_nn hl i).1) (by omega)
  rw [e2]; omega
theorem scl_mxs (V V' U : Int → Int) {m : Nat} {up lo ex : Int} (hl : 0 < lo) : mxs (scl (zl V U m) up lo ex) = mxs (scl (zl V' U m) up lo ex) := by
  rw [scl_zl hl, scl_zl hl, zl_mxs, zl_mxs]
def sbt (A : List (Int × Int)) (i : Nat) (t : Int) : List (Int × Int) :=
  match A[i]? with
  | none => A
  | some q => A.set i (q.1, q.2 - t)
theorem sbt_zl {V U : Int → Int} {m i : Nat} {t : Int} (hi : i < m) : sbt (zl V U m) i t = zl V (zu U i (U i - t)) m := by
  unfold sbt; rw [zl_get hi, zl_set]
theorem sbt_at {A : List (Int × Int)} {i : Nat} {t a u : Int} (h : A[i]? = some (a, u)) : sbt A i t = A.set i (a, u - t) := by
  unfold sbt; rw [h]
/-- a step's mixture before empty atoms are dropped: to the vertex b, from the atom w, t units -/
def stq (how : Int) (A : List (Int × Int)) (b : Int) (w : Nat) (t : Int) : List (Int × Int) :=
  if how = 0 then gv (scl A (100 - t) 100 (-9)) b t
  else if how = 1 then sbt (scl A (100 - (A.getD w (0, 0)).2 + t) (100 - (A.getD w (0, 0)).2) w) w t
  else gv (sbt A w t) b t
theorem zl_getD {V U : Int → Int} {m i : Nat} (hi : i < m) : (zl V U m).getD i (0, 0) = (V i, U i) := by rw [List.getD_eq_getElem?_getD, zl_get hi]; rfl
/-- a held share is below the whole where there is another -/
theorem Mx_part {vn : Int} {V U : Int → Int} {m i : Nat} (h : Mx vn (zl V U m)) (hi : i < m) (hm : 1 < m) : U i ≤ 99 := by
  have hs : zs U m = 100 := by rw [← zl_mxs V]; exact h.2.2
  have hz := zs_zu U i 0 m (by omega) (by omega)
  have : 0 < zs (zu U i 0) m := by
    obtain ⟨j, hj, hne⟩ : ∃ j : Nat, j < m ∧ j ≠ i := by
      by_cases e : i = 0
      · exact ⟨1, hm, by omega⟩
      · exact ⟨0, by omega, by omega⟩
    have hz2 := zs_zu (zu U i 0) j 0 m (by omega) (by omega)
    have hj2 := Mx_at h hj
    have : 0 ≤ zs (zu (zu U i 0) j 0) m := zs_nn fun k hk => by
      unfold zu; split
      · omega
      · split
        · omega
        · have := Mx_at h hk; omega
    rw [zu_n _ _ (by omega)] at hz2
    omega
  omega
theorem stq_ok {vn how b t : Int} {V U : Int → Int} {m wi : Nat} (h : Mx vn (zl V U m)) (hh : how = 0 ∨ (how = 1 ∧ 1 < m) ∨ how = 2) (hb : 0 ≤ b ∧ b < vn) (hw : wi < m) (ht : 0 ≤ t ∧ t ≤ 100 ∧ (how ≠ 0 → t ≤ U wi)) : Mb vn (stq how (zl V U m) b wi t) ∧ mxs (stq how (zl V U m) b wi t) = 100 := by
  have hs : zs U m = 100 := by rw [← zl_mxs V]; exact h.2.2
  have hu := Mx_at h hw
  unfold stq
  rw [zl_getD hw]
  rcases hh with rfl | ⟨rfl, hm⟩ | rfl
  · rw [if_pos rfl]
    refine ⟨gv_Mb (scl_Mb h.1 (by omega) (by omega)) hb, ?_⟩
    rw [gv_mxs ht.1, scl_mxs V (fun _ => 0) U (by omega), s_sum_n (by omega) (by omega) hs (by omega)]; omega
  · have hp := Mx_part h hw hm
    have htu := ht.2.2 (by omega)
    rw [if_neg (by omega), if_pos rfl]
    have hM : Mb vn (scl (zl V U m) (100 - U wi + t) (100 - U wi) wi) := scl_Mb h.1 (by omega) (by omega)
    have hS : mxs (scl (zl V U m) (100 - U wi + t) (100 - U wi) wi) = 100 + t := by
      rw [scl_mxs V (fun _ => 0) U (by omega), s_sum_e (by omega) hw (by omega)]; omega
    show Mb vn (sbt (scl (zl V U m) (100 - U wi + t) (100 - U wi) wi) wi t) ∧ mxs (sbt (scl (zl V U m) (100 - U wi + t) (100 - U wi) wi) wi t) = 100
    have hg : ∃ u, (scl (zl V U m) (100 - U wi + t) (100 - U wi) wi)[wi]? = some (V wi, u) ∧ U wi ≤ u := by
      rw [scl_zl (by omega), zl_get hw]
      refine ⟨_, rfl, Int.le_trans ?_ (inU_ge _ _ _ _)⟩
      unfold sU; rw [if_pos rfl]; exact Int.le_refl _
    obtain ⟨u, hg, hge⟩ := hg
    rw [sbt_at hg]
    refine ⟨Mb_set hM hg rfl (by show 0 ≤ u - t; omega), ?_⟩
    rw [mxs_set hg, hS]; show 100 + t - u + (u - t) = 100; omega
  · have htu := ht.2.2 (by omega)
    rw [if_neg (by omega), if_neg (by omega), sbt_at (zl_get hw)]
    refine ⟨gv_Mb (Mb_set h.1 (zl_get hw) rfl (by show 0 ≤ U wi - t; omega)) hb, ?_⟩
    rw [gv_mxs ht.1, mxs_set (zl_get hw), h.2.2]; show 100 - U wi + (U wi - t) + t = 100; omega
/-- the units that a step along a line moves -/
def tmn (p b sc lim : Int) : Int := if b ≤ 0 ∨ 0 ≤ p then 0 else if lim < (-2 * sc * p + b - 1) / (2 * b) then lim else (-2 * sc * p + b - 1) / (2 * b)
theorem tmn_in {p b sc lim : Int} (hs : 0 ≤ sc) (hl : 0 ≤ lim) : 0 ≤ tmn p b sc lim ∧ tmn p b sc lim ≤ lim := by
  unfold tmn
  by_cases e : b ≤ 0 ∨ 0 ≤ p
  · rw [if_pos e]; omega
  · rw [if_neg e]
    have h1 : 0 ≤ sc * (-p) := Int.mul_nonneg hs (by omega)
    have h2 : -2 * sc * p = 2 * (sc * (-p)) := by rw [Int.mul_neg, Int.mul_assoc]; omega
    have : 0 ≤ (-2 * sc * p + b - 1) / (2 * b) := Int.ediv_nonneg (by omega) (by omega)
    split <;> omega
def yP (R mv rs : Int → Int) (rn : Nat) : Int := zs (fun k => yT R mv k * rs k) rn
def yB (R mv : Int → Int) (rn : Nat) : Int := zs (fun k => yT R mv k * yT R mv k) rn
theorem yT_congr {R f g : Int → Int} (h : ∀ j : Nat, j < 4 → f j = g j) (k : Int) : yT R f k = yT R g k := zs_congr fun j hj => by rw [h j hj]
theorem yP_congr {R f g a b : Int → Int} {rn : Nat} (h : ∀ j : Nat, j < 4 → f j = g j) (h2 : ∀ k : Nat, k < rn → a k = b k) : yP R f a rn = yP R g b rn := zs_congr fun k hk => by rw [yT_congr h, h2 k hk]
theorem yB_congr {R f g : Int → Int} {rn : Nat} (h : ∀ j : Nat, j < 4 → f j = g j) : yB R f rn = yB R g rn := zs_congr fun k hk => by rw [yT_congr h]
def mvT (C x : Int → Int) (v j : Int) : Int := 100 * C (v * 4 + j) - x j
def mvA (C x : Int → Int) (v j : Int) : Int := x j - 100 * C (v * 4 + j)
def mvP (C : Int → Int) (sc a v j : Int) : Int := sc * (C (v * 4 + j) - C (a * 4 + j))
/-- the class's units of a step -/
def eT (how : Int) (R V U C : Int → Int) (m rn vn : Nat) : Int :=
  if how = 0 then tmn (yP R (mvT C (yX V U C m) (eBest R V U C m rn vn)) (eR R V U C m) rn) (yB R (mvT C (yX V U C m) (eBest R V U C m rn vn)) rn) 100 100
  else if how = 1 then tmn (yP R (mvA C (yX V U C m) (V (eWorst R V U C m rn))) (eR R V U C m) rn) (yB R (mvA C (yX V U C m) (V (eWorst R V U C m rn))) rn) (100 - U (eWorst R V U C m rn)) (U (eWorst R V U C m rn))
  else tmn (yP R (mvP C 1 (V (eWorst R V U C m rn)) (eBest R V U C m rn vn)) (eR R V U C m) rn) (yB R (mvP C 1 (V (eWorst R V U C m rn)) (eBest R V U C m rn vn)) rn) 1 (U (eWorst R V U C m rn))
theorem yB_nn (R mv : Int → Int) (rn : Nat) : 0 ≤ yB R mv rn := zs_nn fun k _ => by
  rcases Int.le_total 0 (yT R mv k) with h | h
  · exact Int.mul_nonneg h h
  · exact Int.mul_nonneg_of_nonpos_of_nonpos h h
theorem yPB_le {R V U mv rs : Int → Int} {m rn vn : Nat} (hs : sok vn R V U m) (hrn : rn ≤ 4) (hv : ∀ j : Int, 0 ≤ j → j < 4 → -30000 ≤ mv j ∧ mv j ≤ 30000) (hr : ∀ k : Int, 0 ≤ k → k < rn → -2000000 ≤ rs k ∧ rs k ≤ 2000000) : (-10000000000000 ≤ yP R mv rs rn ∧ yP R mv rs rn ≤ 10000000000000) ∧ yB R mv rn ≤ 10000000000000 := by
  have hT : ∀ k : Nat, k < rn → -1080000 ≤ yT R mv k ∧ yT R mv k ≤ 1080000 := fun k hk => by
    have := yT_le (B := 30000) (x := mv) hs hv (k := k) (by omega)
    omega
  have h1 := zs_le (f := fun k => yT R mv k * rs k) (n := rn) (B := 2160000000000) (fun k hk => by
    have a := hT k hk
    have b := hr k (by omega) (by omega)
    have := mul_le (a := yT R mv k) (b := rs k) (A := 1080000) (B := 2000000) (by omega) (by omega)
    omega)
  have h2 := zs_le (f := fun k => yT R mv k * yT R mv k) (n := rn) (B := 2160000000000) (fun k hk => by
    have a := hT k hk
    have := mul_le (a := yT R mv k) (b := yT R mv k) (A := 1080000) (B := 1080000) (by omega) (by omega)
    omega)
  unfold yP yB
  have : (rn : Int) * 2160000000000 ≤ 4 * 2160000000000 := by omega
  omega
section LIN
variable {d k pu be rc ac st dr : Int} {C R V U x rs sl wt mv Q : Int → Int} {m dn rn vn : Nat}
theorem c15 {a v sc : Int} (ha : 0 ≤ a ∧ a < 24) (hv : 0 ≤ v ∧ v < 24) : ∀ h, Ca 15 [.ref 18, .int (ii a), .int (ii v), .int (ii sc)] (wd [(13, oP d k (vn : Int)), (14, ar 96 C), (18, oD pu be), (22, ar 4 mv)] h) (.inl none, wd [(13, oP d k (vn : Int)), (14, ar 96 C), (18, oD pu be), (22, ar 4 (zfill mv (mvP C sc a v) 4))] h) := by
  intro h
  refine E_in (lv := [_, _, _, _, _]) rfl ?_
  have loop : ∀ (n i : Nat) (q : Int → Int), i + n = 4 → q = zfill mv (mvP C sc a v) i → Rn 15 3 [.ref 18, .int (ii a), .int (ii v), .int (ii sc), .int (ii (i : Int))] [] (wd [(13, oP d k (vn : Int)), (14, ar 96 C), (18, oD pu be), (22, ar 4 q)] h) (.inl none, wd [(13, oP d k (vn : Int)), (14, ar 96 C), (18, oD pu be), (22, ar 4 (zfill mv (mvP C sc a v) 4))] h) := by
    intro n
    induction n with
    | zero =>
      intro i q hi hq
      obtain rfl : i = 4 := by omega
      rw [hq]
      refine E_iload pf_15_3 rfl ?_
      refine E_iconst pf_15_5 ?_
      refine E_icmp_ge_t pf_15_6 (by omega) ?_
      exact E_vret pf_15_45 rfl
    | succ n ih =>
      intro i q hi hq
      have ih := ih (i + 1) (zu q i (mvP C sc a v i)) (by omega) (by rw [hq, zfill_s])
      refine E_iload pf_15_3 rfl ?_
      refine E_iconst pf_15_5 ?_
      refine E_icmp_ge_f pf_15_6 (by omega) ?_
      refine E_aload pf_15_9 rfl ?_
      refine F_getf pf_15_10 rfl rfl rfl ?_
      refine E_iload pf_15_13 rfl ?_
      refine E_iload pf_15_15 rfl ?_
      refine E_aload pf_15_16 rfl ?_
      refine F_getf pf_15_17 rfl rfl rfl ?_
      refine E_iload pf_15_20 rfl ?_
      refine E_iload pf_15_21 rfl ?_
      refine F_v3v0 pf_15_23 (c28 (by omega) (by omega)) (And.intro rfl (And.intro rfl (trivial))) rfl rfl ?_
      refine E_aload pf_15_26 rfl ?_
      refine F_getf pf_15_27 rfl rfl rfl ?_
      refine E_iload pf_15_30 rfl ?_
      refine E_iload pf_15_31 rfl ?_
      refine F_v3v0 pf_15_33 (c28 (by omega) (by omega)) (And.intro rfl (And.intro rfl (trivial))) rfl rfl ?_
      refine E_isub pf_15_36 ?_
      refine E_imul pf_15_37 ?_
      refine F_iast (l' := [(_, _), (_, _), (_, _), (_, _)]) pf_15_38 rfl (by omega) rfl ?_
      refine E_iinc (lv' := [_, _, _, _, _]) pf_15_39 rfl rfl ?_
      refine E_goto pf_15_42 ?_
      exact ih
  refine E_iconst pf_15_0 ?_
  refine E_istore (lv' := [_, _, _, _, _]) pf_15_1 rfl rfl ?_
  exact loop 4 0 mv (by omega) (zfill_0 _ _).symm
theorem c18 {sc lim : Int} (hp : -10000000000000 ≤ pu ∧ pu ≤ 10000000000000) (hb : 0 ≤ be ∧ be ≤ 10000000000000) (hs : 0 ≤ sc ∧ sc ≤ 100) (hl : 0 ≤ lim ∧ lim ≤ 100) : ∀ h, Ca 18 [.ref 18, .int (ii sc), .int (ii lim)] (wd [(18, oD pu be)] h) (.inl (some (.int (ii (tmn pu be sc lim)))), wd [(18, oD pu be)] h) := by
  intro h
  refine E_in (lv := [_, _, _, _, _]) rfl ?_
  unfold tmn
  by_cases e1 : be ≤ 0
  · rw [if_pos (.inl e1)]
    refine E_aload pf_18_0 rfl ?_
    refine F_getf pf_18_1 rfl rfl rfl ?_
    refine E_lconst pf_18_4 ?_
    refine E_lcmp_le_t pf_18_5 pf_18_6 (by omega) ?_
    refine E_iconst pf_18_18 ?_
    exact E_iret pf_18_19 rfl
  by_cases e2 : 0 ≤ pu
  · rw [if_pos (.inr e2)]
    refine E_aload pf_18_0 rfl ?_
    refine F_getf pf_18_1 rfl rfl rfl ?_
    refine E_lconst pf_18_4 ?_
    refine E_lcmp_le_f pf_18_5 pf_18_6 (by omega) ?_
    refine E_aload pf_18_9 rfl ?_
    refine F_getf pf_18_10 rfl rfl rfl ?_
    refine E_lconst pf_18_13 ?_
    refine E_lcmp_lt_f pf_18_14 pf_18_15 (by omega) ?_
    refine E_iconst pf_18_18 ?_
    exact E_iret pf_18_19 rfl
  · rw [if_neg (fun q => q.elim e1 e2)]
    have h1 : 0 ≤ sc * (-pu) := Int.mul_nonneg hs.1 (by omega)
    have h2 : -2 * sc * pu = 2 * (sc * (-pu)) := by rw [Int.mul_neg, Int.mul_assoc]; omega
    have h3 : sc * (-pu) ≤ 100 * 10000000000000 := Int.mul_le_mul hs.2 (by omega) (by omega) (by omega)
    have h4 : 0 ≤ (-2 * sc * pu + be - 1) / (2 * be) := Int.ediv_nonneg (by omega) (by omega)
    have h5 : (-2 * sc * pu + be - 1) / (2 * be) ≤ -2 * sc * pu + be - 1 := Int.ediv_le_self _ (by omega)
    refine E_aload pf_18_0 rfl ?_
    refine F_getf pf_18_1 rfl rfl rfl ?_
    refine E_lconst pf_18_4 ?_
    refine E_lcmp_le_f pf_18_5 pf_18_6 (by omega) ?_
    refine E_aload pf_18_9 rfl ?_
    refine F_getf pf_18_10 rfl rfl rfl ?_
    refine E_lconst pf_18_13 ?_
    refine E_lcmp_lt_t pf_18_14 pf_18_15 (by omega) ?_
    refine E_iconst pf_18_20 ?_
    refine E_iload pf_18_22 rfl ?_
    refine E_imul pf_18_23 ?_
    refine E_i2l pf_18_24 (by omega) ?_
    refine E_aload pf_18_25 rfl ?_
    refine F_getf pf_18_26 rfl rfl rfl ?_
    refine E_lmul pf_18_29 ?_
    refine E_aload pf_18_30 rfl ?_
    refine F_getf pf_18_31 rfl rfl rfl ?_
    refine E_ladd pf_18_34 ?_
    refine E_lconst pf_18_35 ?_
    refine E_lsub pf_18_36 ?_
    refine E_lconst pf_18_37 ?_
    refine E_aload pf_18_40 rfl ?_
    refine F_getf pf_18_41 rfl rfl rfl ?_
    refine E_lmul pf_18_44 ?_
    refine E_ldiv pf_18_45 (by omega) ?_
    refine E_lstore (lv' := [_, _, _, _, _]) pf_18_46 rfl rfl ?_
    refine E_lload pf_18_47 rfl ?_
    refine E_iload pf_18_48 rfl ?_
    refine E_i2l pf_18_49 (by omega) ?_
    refine E_minL pf_18_50 (by omega) rfl ?_
    refine E_l2i pf_18_53 ?_
    exact E_iret pf_18_54 rfl
theorem c17s (hs : sok vn R V U m) (hrn : 1 ≤ rn ∧ rn ≤ 4) (hv : ∀ j : Int, 0 ≤ j → j < 4 → -30000 ≤ mv j ∧ mv j ≤ 30000) (hr : ∀ k : Int, 0 ≤ k → k < rn → -2000000 ≤ rs k ∧ rs k ≤ 2000000) : ∀ h, Ca 17 [.ref 18, .ref 24] (wd [(18, oD pu be), (20, ar 4 rs), (22, ar 4 mv), (24, oS24 (rn : Int) (m : Int) st dr), (25, ar 20 R)] h) (.inl none, wd [(18, oD (yP R mv rs rn) (yB R mv rn)), (20, ar 4 rs), (22, ar 4 mv), (24, oS24 (rn : Int) (m : Int) st dr), (25, ar 20 R)] h) := by
  intro h
  refine E_in (lv := [_, _, _, _, _]) rfl ?_
  have loop : ∀ (n i : Nat) (w3 w4 : Value), i + n = rn → Rn 17 12 [.ref 18, .ref 24, .int (ii (i : Int)), w3, w4] [] (wd [(18, oD (zs (fun k => yT R mv k * rs k) i) (zs (fun k => yT R mv k * yT R mv k) i)), (20, ar 4 rs), (22, ar 4 mv), (24, oS24 (rn : Int) (m : Int) st dr), (25, ar 20 R)] h) (.inl none, wd [(18, oD (yP R mv rs rn) (yB R mv rn)), (20, ar 4 rs), (22, ar 4 mv), (24, oS24 (rn : Int) (m : Int) st dr), (25, ar 20 R)] h) := by
    intro n
    induction n with
    | zero =>
      intro i w3 w4 hi
      obtain rfl : i = rn := by omega
      refine E_iload pf_17_12 rfl ?_
      refine E_aload pf_17_13 rfl ?_
      refine F_getf pf_17_14 rfl rfl rfl ?_
      refine E_icmp_ge_t pf_17_17 (by omega) ?_
      exact E_vret pf_17_67 rfl
    | succ n ih =>
      intro i w3 w4 hi
      have ih := ih (i + 1)
      have hT := yT_le (B := 30000) (x := mv) hs hv (k := i) (by omega)
      have hR := hr i (by omega) (by omega)
      refine E_iload pf_17_12 rfl ?_
      refine E_aload pf_17_13 rfl ?_
      refine F_getf pf_17_14 rfl rfl rfl ?_
      refine E_icmp_ge_f pf_17_17 (by omega) ?_
      refine E_aload pf_17_20 rfl ?_
      refine E_iload pf_17_21 rfl ?_
      refine E_aload pf_17_22 rfl ?_
      refine F_getf pf_17_23 rfl rfl rfl ?_
      refine F_v3v0 pf_17_26 (c57s22 (by omega)) (And.intro rfl (And.intro rfl (And.intro rfl (trivial)))) rfl rfl ?_
      refine E_i2l pf_17_29 (by omega) ?_
      refine E_lstore (lv' := [_, _, _, _, _]) pf_17_30 rfl rfl ?_
      refine E_aload pf_17_31 rfl ?_
      refine E_dup pf_17_32 rfl ?_
      refine F_getf pf_17_33 rfl rfl rfl ?_
      refine E_lload pf_17_36 rfl ?_
      refine E_aload pf_17_37 rfl ?_
      refine F_getf pf_17_38 rfl rfl rfl ?_
      refine E_iload pf_17_41 rfl ?_
      refine F_iald pf_17_42 rfl (by omega) ?_
      refine E_i2l pf_17_43 (by omega) ?_
      refine E_lmul pf_17_44 ?_
      refine E_ladd pf_17_45 ?_
      refine F_putf (l' := [(_, _), (_, _), (_, _), (_, _), (_, _)]) (x := ob _ [_, _, _, _, _, _, _, _]) pf_17_46 rfl rfl rfl rfl rfl ?_
      refine E_aload pf_17_49 rfl ?_
      refine E_dup pf_17_50 rfl ?_
      refine F_getf pf_17_51 rfl rfl rfl ?_
      refine E_lload pf_17_54 rfl ?_
      refine E_lload pf_17_55 rfl ?_
      refine E_lmul pf_17_56 ?_
      refine E_ladd pf_17_57 ?_
      refine F_putf (l' := [(_, _), (_, _), (_, _), (_, _), (_, _)]) (x := ob _ [_, _, _, _, _, _, _, _]) pf_17_58 rfl rfl rfl rfl rfl ?_
      refine E_iinc (lv' := [_, _, _, _, _]) pf_17_61 rfl rfl ?_
      refine E_goto pf_17_64 ?_
      exact ih _ _ (by omega)
  refine E_aload pf_17_0 rfl ?_
  refine E_lconst pf_17_1 ?_
  refine F_putf (l' := [(_, _), (_, _), (_, _), (_, _), (_, _)]) (x := ob _ [_, _, _, _, _, _, _, _]) pf_17_2 rfl rfl rfl rfl rfl ?_
  refine E_aload pf_17_5 rfl ?_
  refine E_lconst pf_17_6 ?_
  refine F_putf (l' := [(_, _), (_, _), (_, _), (_, _), (_, _)]) (x := ob _ [_, _, _, _, _, _, _, _]) pf_17_7 rfl rfl rfl rfl rfl ?_
  refine E_iconst pf_17_10 ?_
  refine E_istore (lv' := [_, _, _, _, _]) pf_17_11 rfl rfl ?_
  exact loop rn 0 _ _ (by omega)
theorem c17t (hs : sok vn R V U m) (hrn : 1 ≤ rn ∧ rn ≤ 4) (hv : ∀ j : Int, 0 ≤ j → j < 4 → -30000 ≤ mv j ∧ mv j ≤ 30000) (hr : ∀ k : Int, 0 ≤ k → k < rn → -2000000 ≤ rs k ∧ rs k ≤ 2000000) : ∀ h, Ca 17 [.ref 18, .ref 28] (wd [(18, oD pu be), (20, ar 4 rs), (22, ar 4 mv), (28, oS28 (rn : Int) (m : Int) st dr), (29, ar 20 R)] h) (.inl none, wd [(18, oD (yP R mv rs rn) (yB R mv rn)), (20, ar 4 rs), (22, ar 4 mv), (28, oS28 (rn : Int) (m : Int) st dr), (29, ar 20 R)] h) := by
  intro h
  refine E_in (lv := [_, _, _, _, _]) rfl ?_
  have loop : ∀ (n i : Nat) (w3 w4 : Value), i + n = rn → Rn 17 12 [.ref 18, .ref 28, .int (ii (i : Int)), w3, w4] [] (wd [(18, oD (zs (fun k => yT R mv k * rs k) i) (zs (fun k => yT R mv k * yT R mv k) i)), (20, ar 4 rs), (22, ar 4 mv), (28, oS28 (rn : Int) (m : Int) st dr), (29, ar 20 R)] h) (.inl none, wd [(18, oD (yP R mv rs rn) (yB R mv rn)), (20, ar 4 rs), (22, ar 4 mv), (28, oS28 (rn : Int) (m : Int) st dr), (29, ar 20 R)] h) := by
    intro n
    induction n with
    | zero =>
      intro i w3 w4 hi
      obtain rfl : i = rn := by omega
      refine E_iload pf_17_12 rfl ?_
      refine E_aload pf_17_13 rfl ?_
      refine F_getf pf_17_14 rfl rfl rfl ?_
      refine E_icmp_ge_t pf_17_17 (by omega) ?_
      exact E_vret pf_17_67 rfl
    | succ n ih =>
      intro i w3 w4 hi
      have ih := ih (i + 1)
      have hT := yT_le (B := 30000) (x := mv) hs hv (k := i) (by omega)
      have hR := hr i (by omega) (by omega)
      refine E_iload pf_17_12 rfl ?_
      refine E_aload pf_17_13 rfl ?_
      refine F_getf pf_17_14 rfl rfl rfl ?_
      refine E_icmp_ge_f pf_17_17 (by omega) ?_
      refine E_aload pf_17_20 rfl ?_
      refine E_iload pf_17_21 rfl ?_
      refine E_aload pf_17_22 rfl ?_
      refine F_getf pf_17_23 rfl rfl rfl ?_
      refine F_v3v0 pf_17_26 (c57t22 (by omega)) (And.intro rfl (And.intro rfl (And.intro rfl (trivial)))) rfl rfl ?_
      refine E_i2l pf_17_29 (by omega) ?_
      refine E_lstore (lv' := [_, _, _, _, _]) pf_17_30 rfl rfl ?_
      refine E_aload pf_17_31 rfl ?_
      refine E_dup pf_17_32 rfl ?_
      refine F_getf pf_17_33 rfl rfl rfl ?_
      refine E_lload pf_17_36 rfl ?_
      refine E_aload pf_17_37 rfl ?_
      refine F_getf pf_17_38 rfl rfl rfl ?_
      refine E_iload pf_17_41 rfl ?_
      refine F_iald pf_17_42 rfl (by omega) ?_
      refine E_i2l pf_17_43 (by omega) ?_
      refine E_lmul pf_17_44 ?_
      refine E_ladd pf_17_45 ?_
      refine F_putf (l' := [(_, _), (_, _), (_, _), (_, _), (_, _)]) (x := ob _ [_, _, _, _, _, _, _, _]) pf_17_46 rfl rfl rfl rfl rfl ?_
      refine E_aload pf_17_49 rfl ?_
      refine E_dup pf_17_50 rfl ?_
      refine F_getf pf_17_51 rfl rfl rfl ?_
      refine E_lload pf_17_54 rfl ?_
      refine E_lload pf_17_55 rfl ?_
      refine E_lmul pf_17_56 ?_
      refine E_ladd pf_17_57 ?_
      refine F_putf (l' := [(_, _), (_, _), (_, _), (_, _), (_, _)]) (x := ob _ [_, _, _, _, _, _, _, _]) pf_17_58 rfl rfl rfl rfl rfl ?_
      refine E_iinc (lv' := [_, _, _, _, _]) pf_17_61 rfl rfl ?_
      refine E_goto pf_17_64 ?_
      exact ih _ _ (by omega)
  refine E_aload pf_17_0 rfl ?_
  refine E_lconst pf_17_1 ?_
  refine F_putf (l' := [(_, _), (_, _), (_, _), (_, _), (_, _)]) (x := ob _ [_, _, _, _, _, _, _, _]) pf_17_2 rfl rfl rfl rfl rfl ?_
  refine E_aload pf_17_5 rfl ?_
  refine E_lconst pf_17_6 ?_
  refine F_putf (l' := [(_, _), (_, _), (_, _), (_, _), (_, _)]) (x := ob _ [_, _, _, _, _, _, _, _]) pf_17_7 rfl rfl rfl rfl rfl ?_
  refine E_iconst pf_17_10 ?_
  refine E_istore (lv' := [_, _, _, _, _]) pf_17_11 rfl rfl ?_
  exact loop rn 0 _ _ (by omega)
theorem c12s {v : Int} (hM : Mx vn (zl V U m)) (hs : sok vn R V U m) (hP : ppk C dn vn rn) (hx : ∀ j : Int, 0 ≤ j → j < 4 → -21600 ≤ x j ∧ x j ≤ 21600) (hr : ∀ k : Int, 0 ≤ k → k < rn → -2000000 ≤ rs k ∧ rs k ≤ 2000000) (hv : 0 ≤ v ∧ v < vn) : ∃ (m' : Nat) (V' U' mv' Q' : Int → Int) (pu' be' : Int), zl V' U' m' = gv (scl (zl V U m) (100 - (tmn (yP R (mvT C x v) rs rn) (yB R (mvT C x v) rn) 100 100)) 100 (-9)) v (tmn (yP R (mvT C x v) rs rn) (yB R (mvT C x v) rn) 100 100) ∧ ∀ h, Ca 12 [.ref 18, .ref 24, .int (ii v)] (wd [(13, oP d k (vn : Int)), (14, ar 96 C), (18, oD pu be), (19, ar 4 x), (20, ar 4 rs), (21, lr 4 sl), (22, ar 4 mv), (23, ar 24 Q), (24, oS24 (rn : Int) (m : Int) st dr), (25, ar 20 R), (26, ar 24 V), (27, ar 24 U)] h) (.inl (some (.int (ii (tmn (yP R (mvT C x v) rs rn) (yB R (mvT C x v) rn) 100 100)))), wd [(13, oP d k (vn : Int)), (14, ar 96 C), (18, oD pu' be'), (19, ar 4 x), (20, ar 4 rs), (21, lr 4 sl), (22, ar 4 mv'), (23, ar 24 Q'), (24, oS24 (rn : Int) (m' : Int) st dr), (25, ar 20 R), (26, ar 24 V'), (27, ar 24 U')] h) := by
  have hrn := hP.2.2.1
  have hvn := hP.2.1
  have hm := hs.1
  have hmv : ∀ j : Int, 0 ≤ j → j < 4 → -30000 ≤ (zfill mv (mvT C x v) 4) j ∧ (zfill mv (mvT C x v) 4) j ≤ 30000 := fun j h1 h2 => by
    rw [zfill_at ⟨h1, h2⟩]
    have := hx j h1 h2
    have := hP.2.2.2 (v * 4 + j)
    unfold mvT; omega
  have et : (tmn (yP R (zfill mv (mvT C x v) 4) rs rn) (yB R (zfill mv (mvT C x v) 4) rn) 100 100) = (tmn (yP R (mvT C x v) rs rn) (yB R (mvT C x v) rn) 100 100) := by
    rw [yP_congr (fun j hj => zfill_at (by omega)) (fun _ _ => rfl), yB_congr (fun j hj => zfill_at (by omega))]
  rw [← et]
  have hT := tmn_in (p := yP R (zfill mv (mvT C x v) 4) rs rn) (b := yB R (zfill mv (mvT C x v) 4) rn) (sc := 100) (lim := 100) (by omega) (by omega)
  have hle := yPB_le hs hrn.2 hmv hr
  have hnn := yB_nn R (zfill mv (mvT C x v) 4) rn
  obtain ⟨U1, Q1, e1, h1⟩ := c19s (rn := rn) (st := st) (dr := dr) (pu := yP R (zfill mv (mvT C x v) 4) rs rn) (be := yB R (zfill mv (mvT C x v) 4) rn) (V := V) (U := U) (Q := Q) (m := m) (up := 100 - (tmn (yP R (zfill mv (mvT C x v) 4) rs rn) (yB R (zfill mv (mvT C x v) 4) rn) 100 100)) (lo := 100) (ex := -9) hm (fun i hi => by have := Mx_at hM hi; omega) (by omega) (by omega) (by omega)
  have hM1 : Mb vn (zl V U1 m) := by rw [e1]; exact scl_Mb hM.1 (by omega) (by omega)
  obtain ⟨m2, V2, U2, e2, h2⟩ := c59s (rn := rn) (st := st) (dr := dr) (V := V) (U := U1) (m := m) (v := v) (n := (tmn (yP R (zfill mv (mvT C x v) 4) rs rn) (yB R (zfill mv (mvT C x v) 4) rn) 100 100)) hm.2 (fun j hj => by have := Mb_at hM1 hj; omega) (by omega) hT (Mb_room hM1 hv hvn.2)
  refine ⟨m2, V2, U2, (zfill mv (mvT C x v) 4), Q1, yP R (zfill mv (mvT C x v) 4) rs rn, yB R (zfill mv (mvT C x v) 4) rn, by rw [e2, e1], fun h => ?_⟩
  refine E_in (lv := [_, _, _, _]) rfl ?_
  have loop : ∀ (n i : Nat) (q : Int → Int), i + n = 4 → q = zfill mv (mvT C x v) i → Rn 12 2 [.ref 18, .ref 24, .int (ii v), .int (ii (i : Int))] [] (wd [(13, oP d k (vn : Int)), (14, ar 96 C), (18, oD pu be), (19, ar 4 x), (20, ar 4 rs), (21, lr 4 sl), (22, ar 4 q), (23, ar 24 Q), (24, oS24 (rn : Int) (m : Int) st dr), (25, ar 20 R), (26, ar 24 V), (27, ar 24 U)] h) (.inl (some (.int (ii (tmn (yP R (zfill mv (mvT C x v) 4) rs rn) (yB R (zfill mv (mvT C x v) 4) rn) 100 100)))), wd [(13, oP d k (vn : Int)), (14, ar 96 C), (18, oD (yP R (zfill mv (mvT C x v) 4) rs rn) (yB R (zfill mv (mvT C x v) 4) rn)), (19, ar 4 x), (20, ar 4 rs), (21, lr 4 sl), (22, ar 4 (zfill mv (mvT C x v) 4)), (23, ar 24 Q1), (24, oS24 (rn : Int) (m2 : Int) st dr), (25, ar 20 R), (26, ar 24 V2), (27, ar 24 U2)] h) := by
    intro n
    induction n with
    | zero =>
      intro i q hi hq
      obtain rfl : i = 4 := by omega
      rw [hq]
      refine E_iload pf_12_2 rfl ?_
      refine E_iconst pf_12_3 ?_
      refine E_icmp_ge_t pf_12_4 (by omega) ?_
      refine E_aload pf_12_38 rfl ?_
      refine E_aload pf_12_39 rfl ?_
      refine F_v2u (l' := [(_, _), (_, _), (_, _), (_, _), (_, _), (_, _), (_, _), (_, _), (_, _), (_, _), (_, _), (_, _)]) pf_12_40 (c17s hs hrn hmv hr) (And.intro rfl (And.intro rfl (And.intro rfl (And.intro rfl (And.intro rfl (trivial)))))) rfl rfl rfl rfl ?_
      refine E_aload pf_12_43 rfl ?_
      refine E_iconst pf_12_44 ?_
      refine E_iconst pf_12_46 ?_
      refine F_v3v0 pf_12_48 (c18 (by omega) (by omega) (by omega) (by omega)) (And.intro rfl (trivial)) rfl rfl ?_
      refine E_istore (lv' := [_, _, _, _]) pf_12_51 rfl rfl ?_
      refine E_aload pf_12_52 rfl ?_
      refine E_aload pf_12_53 rfl ?_
      refine E_iconst pf_12_54 ?_
      refine E_iload pf_12_56 rfl ?_
      refine E_isub pf_12_57 ?_
      refine E_iconst pf_12_58 ?_
      refine E_iconst pf_12_60 ?_
      refine F_v5u (l' := [(_, _), (_, _), (_, _), (_, _), (_, _), (_, _), (_, _), (_, _), (_, _), (_, _), (_, _), (_, _)]) pf_12_62 (h1) (And.intro rfl (And.intro rfl (And.intro rfl (And.intro rfl (trivial))))) rfl rfl rfl rfl ?_
      refine E_aload pf_12_65 rfl ?_
      refine E_iload pf_12_66 rfl ?_
      refine E_iload pf_12_67 rfl ?_
      refine F_v3u (l' := [(_, _), (_, _), (_, _), (_, _), (_, _), (_, _), (_, _), (_, _), (_, _), (_, _), (_, _), (_, _)]) pf_12_68 (h2) (And.intro rfl (And.intro rfl (And.intro rfl (trivial)))) rfl rfl rfl rfl ?_
      refine E_iload pf_12_71 rfl ?_
      exact E_iret pf_12_72 rfl
    | succ n ih =>
      intro i q hi hq
      have ih := ih (i + 1) (zu q i (mvT C x v i)) (by omega) (by rw [hq, zfill_s])
      refine E_iload pf_12_2 rfl ?_
      refine E_iconst pf_12_3 ?_
      refine E_icmp_ge_f pf_12_4 (by omega) ?_
      refine E_aload pf_12_7 rfl ?_
      refine F_getf pf_12_8 rfl rfl rfl ?_
      refine E_iload pf_12_11 rfl ?_
      refine E_iconst pf_12_12 ?_
      refine E_aload pf_12_14 rfl ?_
      refine F_getf pf_12_15 rfl rfl rfl ?_
      refine E_iload pf_12_18 rfl ?_
      refine E_iload pf_12_19 rfl ?_
      refine F_v3v0 pf_12_20 (c28 (by omega) (by omega)) (And.intro rfl (And.intro rfl (trivial))) rfl rfl ?_
      refine E_imul pf_12_23 ?_
      refine E_aload pf_12_24 rfl ?_
      refine F_getf pf_12_25 rfl rfl rfl ?_
      refine E_iload pf_12_28 rfl ?_
      refine F_iald pf_12_29 rfl (by omega) ?_
      refine E_isub pf_12_30 ?_
      refine F_iast (l' := [(_, _), (_, _), (_, _), (_, _), (_, _), (_, _), (_, _), (_, _), (_, _), (_, _), (_, _), (_, _)]) pf_12_31 rfl (by omega) rfl ?_
      refine E_iinc (lv' := [_, _, _, _]) pf_12_32 rfl rfl ?_
      refine E_goto pf_12_35 ?_
      exact ih
  refine E_iconst pf_12_0 ?_
  refine E_istore (lv' := [_, _, _, _]) pf_12_1 rfl rfl ?_
  exact loop 4 0 mv (by omega) (zfill_0 _ _).symm
theorem c13s {wi : Nat} (hM : Mx vn (zl V U m)) (hs : sok vn R V U m) (hP : ppk C dn vn rn) (hx : ∀ j : Int, 0 ≤ j → j < 4 → -21600 ≤ x j ∧ x j ≤ 21600) (hr : ∀ k : Int, 0 ≤ k → k < rn → -2000000 ≤ rs k ∧ rs k ≤ 2000000) (hw : wi < m) (h2m : 1 < m) : ∃ (m' : Nat) (V' U' mv' Q' : Int → Int) (pu' be' : Int), m' = m ∧ zl V' U' m' = sbt (scl (zl V U m) (100 - U wi + (tmn (yP R (mvA C x (V wi)) rs rn) (yB R (mvA C x (V wi)) rn) (100 - U wi) (U wi))) (100 - U wi) wi) wi (tmn (yP R (mvA C x (V wi)) rs rn) (yB R (mvA C x (V wi)) rn) (100 - U wi) (U wi)) ∧ ∀ h, Ca 13 [.ref 18, .ref 24, .int (ii (wi : Int))] (wd [(13, oP d k (vn : Int)), (14, ar 96 C), (18, oD pu be), (19, ar 4 x), (20, ar 4 rs), (21, lr 4 sl), (22, ar 4 mv), (23, ar 24 Q), (24, oS24 (rn : Int) (m : Int) st dr), (25, ar 20 R), (26, ar 24 V), (27, ar 24 U)] h) (.inl (some (.int (ii (tmn (yP R (mvA C x (V wi)) rs rn) (yB R (mvA C x (V wi)) rn) (100 - U wi) (U wi))))), wd [(13, oP d k (vn : Int)), (14, ar 96 C), (18, oD pu' be'), (19, ar 4 x), (20, ar 4 rs), (21, lr 4 sl), (22, ar 4 mv'), (23, ar 24 Q'), (24, oS24 (rn : Int) (m' : Int) st dr), (25, ar 20 R), (26, ar 24 V'), (27, ar 24 U')] h) := by
  have hrn := hP.2.2.1
  have hvn := hP.2.1
  have hm := hs.1
  have hu := Mx_at hM hw
  have hp := Mx_part hM hw h2m
  have hmv : ∀ j : Int, 0 ≤ j → j < 4 → -30000 ≤ (zfill mv (mvA C x (V wi)) 4) j ∧ (zfill mv (mvA C x (V wi)) 4) j ≤ 30000 := fun j h1 h2 => by
    rw [zfill_at ⟨h1, h2⟩]
    have := hx j h1 h2
    have := hP.2.2.2 (V wi * 4 + j)
    unfold mvA; omega
  have et : (tmn (yP R (zfill mv (mvA C x (V wi)) 4) rs rn) (yB R (zfill mv (mvA C x (V wi)) 4) rn) (100 - U wi) (U wi)) = (tmn (yP R (mvA C x (V wi)) rs rn) (yB R (mvA C x (V wi)) rn) (100 - U wi) (U wi)) := by
    rw [yP_congr (fun j hj => zfill_at (by omega)) (fun _ _ => rfl), yB_congr (fun j hj => zfill_at (by omega))]
  rw [← et]
  have hT := tmn_in (p := yP R (zfill mv (mvA C x (V wi)) 4) rs rn) (b := yB R (zfill mv (mvA C x (V wi)) 4) rn) (sc := 100 - U wi) (lim := U wi) (by omega) (by omega)
  have hle := yPB_le hs hrn.2 hmv hr
  have hnn := yB_nn R (zfill mv (mvA C x (V wi)) 4) rn
  obtain ⟨U1, Q1, e1, h1⟩ := c19s (rn := rn) (st := st) (dr := dr) (pu := yP R (zfill mv (mvA C x (V wi)) 4) rs rn) (be := yB R (zfill mv (mvA C x (V wi)) 4) rn) (V := V) (U := U) (Q := Q) (m := m) (up := 100 - U wi + (tmn (yP R (zfill mv (mvA C x (V wi)) 4) rs rn) (yB R (zfill mv (mvA C x (V wi)) 4) rn) (100 - U wi) (U wi))) (lo := 100 - U wi) (ex := wi) hm (fun i hi => by have := Mx_at hM hi; omega) (by omega) (by omega) (by omega)
  refine ⟨m, V, zu U1 wi (U1 wi - (tmn (yP R (zfill mv (mvA C x (V wi)) 4) rs rn) (yB R (zfill mv (mvA C x (V wi)) 4) rn) (100 - U wi) (U wi))), (zfill mv (mvA C x (V wi)) 4), Q1, yP R (zfill mv (mvA C x (V wi)) 4) rs rn, yB R (zfill mv (mvA C x (V wi)) 4) rn, rfl, by rw [← e1, sbt_zl hw], fun h => ?_⟩
  refine E_in (lv := [_, _, _, _, _, _]) rfl ?_
  have loop : ∀ (n i : Nat) (q : Int → Int), i + n = 4 → q = zfill mv (mvA C x (V wi)) i → Rn 13 16 [.ref 18, .ref 24, .int (ii (wi : Int)), .int (ii (U wi)), .int (ii (100 - U wi)), .int (ii (i : Int))] [] (wd [(13, oP d k (vn : Int)), (14, ar 96 C), (18, oD pu be), (19, ar 4 x), (20, ar 4 rs), (21, lr 4 sl), (22, ar 4 q), (23, ar 24 Q), (24, oS24 (rn : Int) (m : Int) st dr), (25, ar 20 R), (26, ar 24 V), (27, ar 24 U)] h) (.inl (some (.int (ii (tmn (yP R (zfill mv (mvA C x (V wi)) 4) rs rn) (yB R (zfill mv (mvA C x (V wi)) 4) rn) (100 - U wi) (U wi))))), wd [(13, oP d k (vn : Int)), (14, ar 96 C), (18, oD (yP R (zfill mv (mvA C x (V wi)) 4) rs rn) (yB R (zfill mv (mvA C x (V wi)) 4) rn)), (19, ar 4 x), (20, ar 4 rs), (21, lr 4 sl), (22, ar 4 (zfill mv (mvA C x (V wi)) 4)), (23, ar 24 Q1), (24, oS24 (rn : Int) (m : Int) st dr), (25, ar 20 R), (26, ar 24 V), (27, ar 24 (zu U1 wi (U1 wi - (tmn (yP R (zfill mv (mvA C x (V wi)) 4) rs rn) (yB R (zfill mv (mvA C x (V wi)) 4) rn) (100 - U wi) (U wi)))))] h) := by
    intro n
    induction n with
    | zero =>
      intro i q hi hq
      obtain rfl : i = 4 := by omega
      rw [hq]
      refine E_iload pf_13_16 rfl ?_
      refine E_iconst pf_13_18 ?_
      refine E_icmp_ge_t pf_13_19 (by omega) ?_
      refine E_aload pf_13_61 rfl ?_
      refine E_aload pf_13_62 rfl ?_
      refine F_v2u (l' := [(_, _), (_, _), (_, _), (_, _), (_, _), (_, _), (_, _), (_, _), (_, _), (_, _), (_, _), (_, _)]) pf_13_63 (c17s hs hrn hmv hr) (And.intro rfl (And.intro rfl (And.intro rfl (And.intro rfl (And.intro rfl (trivial)))))) rfl rfl rfl rfl ?_
      refine E_aload pf_13_66 rfl ?_
      refine E_iload pf_13_67 rfl ?_
      refine E_iload pf_13_69 rfl ?_
      refine F_v3v0 pf_13_70 (c18 (by omega) (by omega) (by omega) (by omega)) (And.intro rfl (trivial)) rfl rfl ?_
      refine E_istore (lv' := [_, _, _, _, _, _]) pf_13_73 rfl rfl ?_
      refine E_aload pf_13_75 rfl ?_
      refine E_aload pf_13_76 rfl ?_
      refine E_iload pf_13_77 rfl ?_
      refine E_iload pf_13_79 rfl ?_
      refine E_iadd pf_13_81 ?_
      refine E_iload pf_13_82 rfl ?_
      refine E_iload pf_13_84 rfl ?_
      refine F_v5u (l' := [(_, _), (_, _), (_, _), (_, _), (_, _), (_, _), (_, _), (_, _), (_, _), (_, _), (_, _), (_, _)]) pf_13_85 (h1) (And.intro rfl (And.intro rfl (And.intro rfl (And.intro rfl (trivial))))) rfl rfl rfl rfl ?_
      refine E_aload pf_13_88 rfl ?_
      refine F_getf pf_13_89 rfl rfl rfl ?_
      refine E_iload pf_13_92 rfl ?_
      refine E_dup2 pf_13_93 rfl rfl ?_
      refine F_iald pf_13_94 rfl (by omega) ?_
      refine E_iload pf_13_95 rfl ?_
      refine E_isub pf_13_97 ?_
      refine F_iast (l' := [(_, _), (_, _), (_, _), (_, _), (_, _), (_, _), (_, _), (_, _), (_, _), (_, _), (_, _), (_, _)]) pf_13_98 rfl (by omega) rfl ?_
      refine E_iload pf_13_99 rfl ?_
      exact E_iret pf_13_101 rfl
    | succ n ih =>
      intro i q hi hq
      have ih := ih (i + 1) (zu q i (mvA C x (V wi) i)) (by omega) (by rw [hq, zfill_s])
      refine E_iload pf_13_16 rfl ?_
      refine E_iconst pf_13_18 ?_
      refine E_icmp_ge_f pf_13_19 (by omega) ?_
      refine E_aload pf_13_22 rfl ?_
      refine F_getf pf_13_23 rfl rfl rfl ?_
      refine E_iload pf_13_26 rfl ?_
      refine E_aload pf_13_28 rfl ?_
      refine F_getf pf_13_29 rfl rfl rfl ?_
      refine E_iload pf_13_32 rfl ?_
      refine F_iald pf_13_34 rfl (by omega) ?_
      refine E_iconst pf_13_35 ?_
      refine E_aload pf_13_37 rfl ?_
      refine F_getf pf_13_38 rfl rfl rfl ?_
      refine E_aload pf_13_41 rfl ?_
      refine F_getf pf_13_42 rfl rfl rfl ?_
      refine E_iload pf_13_45 rfl ?_
      refine F_iald pf_13_46 rfl (by omega) ?_
      refine E_iload pf_13_47 rfl ?_
      refine F_v3v0 pf_13_49 (c28 (by omega) (by omega)) (And.intro rfl (And.intro rfl (trivial))) rfl rfl ?_
      refine E_imul pf_13_52 ?_
      refine E_isub pf_13_53 ?_
      refine F_iast (l' := [(_, _), (_, _), (_, _), (_, _), (_, _), (_, _), (_, _), (_, _), (_, _), (_, _), (_, _), (_, _)]) pf_13_54 rfl (by omega) rfl ?_
      refine E_iinc (lv' := [_, _, _, _, _, _]) pf_13_55 rfl rfl ?_
      refine E_goto pf_13_58 ?_
      exact ih
  refine E_aload pf_13_0 rfl ?_
  refine F_getf pf_13_1 rfl rfl rfl ?_
  refine E_iload pf_13_4 rfl ?_
  refine F_iald pf_13_5 rfl (by omega) ?_
  refine E_istore (lv' := [_, _, _, _, _, _]) pf_13_6 rfl rfl ?_
  refine E_iconst pf_13_7 ?_
  refine E_iload pf_13_9 rfl ?_
  refine E_isub pf_13_10 ?_
  refine E_istore (lv' := [_, _, _, _, _, _]) pf_13_11 rfl rfl ?_
  refine E_iconst pf_13_13 ?_
  refine E_istore (lv' := [_, _, _, _, _, _]) pf_13_14 rfl rfl ?_
  exact loop 4 0 mv (by omega) (zfill_0 _ _).symm
theorem c14s {v : Int} {wi : Nat} (hM : Mx vn (zl V U m)) (hs : sok vn R V U m) (hP : ppk C dn vn rn) (hx : ∀ j : Int, 0 ≤ j → j < 4 → -21600 ≤ x j ∧ x j ≤ 21600) (hr : ∀ k : Int, 0 ≤ k → k < rn → -2000000 ≤ rs k ∧ rs k ≤ 2000000) (hw : wi < m) (hv : 0 ≤ v ∧ v < vn) : ∃ (m' : Nat) (V' U' mv' Q' : Int → Int) (pu' be' : Int), zl V' U' m' = gv (sbt (zl V U m) wi (tmn (yP R (mvP C 1 (V wi) v) rs rn) (yB R (mvP C 1 (V wi) v) rn) 1 (U wi))) v (tmn (yP R (mvP C 1 (V wi) v) rs rn) (yB R (mvP C 1 (V wi) v) rn) 1 (U wi)) ∧ ∀ h, Ca 14 [.ref 18, .ref 24, .int (ii (wi : Int)), .int (ii v)] (wd [(13, oP d k (vn : Int)), (14, ar 96 C), (18, oD pu be), (19, ar 4 x), (20, ar 4 rs), (21, lr 4 sl), (22, ar 4 mv), (23, ar 24 Q), (24, oS24 (rn : Int) (m : Int) st dr), (25, ar 20 R), (26, ar 24 V), (27, ar 24 U)] h) (.inl (some (.int (ii (tmn (yP R (mvP C 1 (V wi) v) rs rn) (yB R (mvP C 1 (V wi) v) rn) 1 (U wi))))), wd [(13, oP d k (vn : Int)), (14, ar 96 C), (18, oD pu' be'), (19, ar 4 x), (20, ar 4 rs), (21, lr 4 sl), (22, ar 4 mv'), (23, ar 24 Q'), (24, oS24 (rn : Int) (m' : Int) st dr), (25, ar 20 R), (26, ar 24 V'), (27, ar 24 U')] h) := by
  have hrn := hP.2.2.1
  have hvn := hP.2.1
  have hm := hs.1
  have hu := Mx_at hM hw
  have hmv : ∀ j : Int, 0 ≤ j → j < 4 → -30000 ≤ (zfill mv (mvP C 1 (V wi) v) 4) j ∧ (zfill mv (mvP C 1 (V wi) v) 4) j ≤ 30000 := fun j h1 h2 => by
    rw [zfill_at ⟨h1, h2⟩]
    have := hP.2.2.2 (V wi * 4 + j)
    have := hP.2.2.2 (v * 4 + j)
    unfold mvP; omega
  have et : (tmn (yP R (zfill mv (mvP C 1 (V wi) v) 4) rs rn) (yB R (zfill mv (mvP C 1 (V wi) v) 4) rn) 1 (U wi)) = (tmn (yP R (mvP C 1 (V wi) v) rs rn) (yB R (mvP C 1 (V wi) v) rn) 1 (U wi)) := by
    rw [yP_congr (fun j hj => zfill_at (by omega)) (fun _ _ => rfl), yB_congr (fun j hj => zfill_at (by omega))]
  rw [← et]
  have hT := tmn_in (p := yP R (zfill mv (mvP C 1 (V wi) v) 4) rs rn) (b := yB R (zfill mv (mvP C 1 (V wi) v) 4) rn) (sc := 1) (lim := U wi) (by omega) (by omega)
  have hle := yPB_le hs hrn.2 hmv hr
  have hnn := yB_nn R (zfill mv (mvP C 1 (V wi) v) 4) rn
  have hM1 : Mb vn (zl V (zu U wi (U wi - (tmn (yP R (zfill mv (mvP C 1 (V wi) v) 4) rs rn) (yB R (zfill mv (mvP C 1 (V wi) v) 4) rn) 1 (U wi)))) m) := by
    rw [zl_set]; exact Mb_set hM.1 (zl_get hw) rfl (by show 0 ≤ U wi - _; omega)
  obtain ⟨m2, V2, U2, e2, h2⟩ := c59s (rn := rn) (st := st) (dr := dr) (V := V) (U := zu U wi (U wi - (tmn (yP R (zfill mv (mvP C 1 (V wi) v) 4) rs rn) (yB R (zfill mv (mvP C 1 (V wi) v) 4) rn) 1 (U wi)))) (m := m) (v := v) (n := (tmn (yP R (zfill mv (mvP C 1 (V wi) v) 4) rs rn) (yB R (zfill mv (mvP C 1 (V wi) v) 4) rn) 1 (U wi))) hm.2 (fun j hj => by have := Mb_at hM1 hj; omega) (by omega) (by omega) (Mb_room hM1 hv hvn.2)
  refine ⟨m2, V2, U2, (zfill mv (mvP C 1 (V wi) v) 4), Q, yP R (zfill mv (mvP C 1 (V wi) v) 4) rs rn, yB R (zfill mv (mvP C 1 (V wi) v) 4) rn, by rw [e2, sbt_zl hw], fun h => ?_⟩
  refine E_in (lv := [_, _, _, _, _]) rfl ?_
  refine E_aload pf_14_0 rfl ?_
  refine E_aload pf_14_1 rfl ?_
  refine F_getf pf_14_2 rfl rfl rfl ?_
  refine E_iload pf_14_5 rfl ?_
  refine F_iald pf_14_6 rfl (by omega) ?_
  refine E_iload pf_14_7 rfl ?_
  refine E_iconst pf_14_8 ?_
  refine F_v4u (l' := [(_, _), (_, _), (_, _), (_, _), (_, _), (_, _), (_, _), (_, _), (_, _), (_, _), (_, _), (_, _)]) pf_14_9 (c15 (by omega) (by omega)) (And.intro rfl (And.intro rfl (And.intro rfl (And.intro rfl (trivial))))) rfl rfl rfl rfl ?_
  refine E_aload pf_14_12 rfl ?_
  refine E_aload pf_14_13 rfl ?_
  refine F_v2u (l' := [(_, _), (_, _), (_, _), (_, _), (_, _), (_, _), (_, _), (_, _), (_, _), (_, _), (_, _), (_, _)]) pf_14_14 (c17s hs hrn hmv hr) (And.intro rfl (And.intro rfl (And.intro rfl (And.intro rfl (And.intro rfl (trivial)))))) rfl rfl rfl rfl ?_
  refine E_aload pf_14_17 rfl ?_
  refine E_iconst pf_14_18 ?_
  refine E_aload pf_14_19 rfl ?_
  refine F_getf pf_14_20 rfl rfl rfl ?_
  refine E_iload pf_14_23 rfl ?_
  refine F_iald pf_14_24 rfl (by omega) ?_
  refine F_v3v0 pf_14_25 (c18 (by omega) (by omega) (by omega) (by omega)) (And.intro rfl (trivial)) rfl rfl ?_
  refine E_istore (lv' := [_, _, _, _, _]) pf_14_28 rfl rfl ?_
  refine E_aload pf_14_30 rfl ?_
  refine F_getf pf_14_31 rfl rfl rfl ?_
  refine E_iload pf_14_34 rfl ?_
  refine E_dup2 pf_14_35 rfl rfl ?_
  refine F_iald pf_14_36 rfl (by omega) ?_
  refine E_iload pf_14_37 rfl ?_
  refine E_isub pf_14_39 ?_
  refine F_iast (l' := [(_, _), (_, _), (_, _), (_, _), (_, _), (_, _), (_, _), (_, _), (_, _), (_, _), (_, _), (_, _)]) pf_14_40 rfl (by omega) rfl ?_
  refine E_aload pf_14_41 rfl ?_
  refine E_iload pf_14_42 rfl ?_
  refine E_iload pf_14_43 rfl ?_
  refine F_v3u (l' := [(_, _), (_, _), (_, _), (_, _), (_, _), (_, _), (_, _), (_, _), (_, _), (_, _), (_, _), (_, _)]) pf_14_45 (h2) (And.intro rfl (And.intro rfl (And.intro rfl (trivial)))) rfl rfl rfl rfl ?_
  refine E_iload pf_14_48 rfl ?_
  exact E_iret pf_14_50 rfl
theorem c11s {how : Int} (hh : how = 0 ∨ (how = 1 ∧ 1 < m) ∨ how = 2) (hM : Mx vn (zl V U m)) (hs : sok vn R V U m) (hP : ppk C dn vn rn) : ∃ (m' : Nat) (V' U' mv' Q' : Int → Int) (pu' be' : Int), zl V' U' m' = pos (stq how (zl V U m) (eBest R V U C m rn vn) (eWorst R V U C m rn).toNat (eT how R V U C m rn vn)) ∧ ∀ h, Ca 11 [.ref 18, .ref 24, .int (ii how)] (wd [(13, oP d k (vn : Int)), (14, ar 96 C), (18, oD pu be), (19, ar 4 x), (20, ar 4 rs), (21, lr 4 sl), (22, ar 4 mv), (23, ar 24 Q), (24, oS24 (rn : Int) (m : Int) st dr), (25, ar 20 R), (26, ar 24 V), (27, ar 24 U)] h) (.inl (some (.int (ii (eT how R V U C m rn vn)))), wd [(13, oP d k (vn : Int)), (14, ar 96 C), (18, oD pu' be'), (19, ar 4 (zfill x (yX V U C m) 4)), (20, ar 4 (zfill rs (eR R V U C m) rn)), (21, lr 4 (zfill sl (eS R V U C m rn) 4)), (22, ar 4 mv'), (23, ar 24 Q'), (24, oS24 (rn : Int) (m' : Int) (st + 1) (dr + (((stq how (zl V U m) (eBest R V U C m rn vn) (eWorst R V U C m rn).toNat (eT how R V U C m rn vn)).length : Int) - m'))), (25, ar 20 R), (26, ar 24 V'), (27, ar 24 U')] h) := by
  have hrn := hP.2.2.1
  have hvn := hP.2.1
  have hm := hs.1
  have hx1 : ∀ j : Int, 0 ≤ j → j < 4 → -21600 ≤ (zfill x (yX V U C m) 4) j ∧ (zfill x (yX V U C m) 4) j ≤ 21600 := fun j h1 h2 => by rw [zfill_at ⟨h1, h2⟩]; exact yX_le hs hP.2.2.2 j
  have hr1 : ∀ q : Int, 0 ≤ q → q < rn → -2000000 ≤ (zfill rs (eR R V U C m) rn) q ∧ (zfill rs (eR R V U C m) rn) q ≤ 2000000 := fun q h1 h2 => by
    have := eR_le hs hP.2.2.2 (k := q) (by omega)
    rw [zfill_at ⟨h1, h2⟩]
    omega
  have hw : ∀ j : Int, 0 ≤ j → j < 4 → -1000000000 ≤ (zfill sl (eS R V U C m rn) 4) j ∧ (zfill sl (eS R V U C m rn) 4) j ≤ 1000000000 := fun j h1 h2 => by
    have := eS_le hs hP (j := j) ⟨h1, h2⟩
    rw [zfill_at ⟨h1, h2⟩]
    omega
  have eb : zam (yD C (zfill sl (eS R V U C m rn) 4)) (vn - 1) = eBest R V U C m rn vn := by rw [yD_fill]; rfl
  have ew : zax (fun i => yD C (zfill sl (eS R V U C m rn) 4) (V i)) (m - 1) = eWorst R V U C m rn := by rw [yD_fill]; rfl
  have hb := eBest_in (R := R) (V := V) (U := U) (m := m) hP
  have hwi := eWorst_in (C := C) (rn := rn) hs
  have ewn : ((eWorst R V U C m rn).toNat : Int) = eWorst R V U C m rn := Int.toNat_of_nonneg hwi.1
  have hwl : (eWorst R V U C m rn).toNat < m := by omega
  have hu := Mx_at hM hwl
  rw [ewn] at hu
  have key : ∃ (m1 : Nat) (V1 U1 mv1 Q1 : Int → Int) (pu1 be1 : Int), zl V1 U1 m1 = stq how (zl V U m) (eBest R V U C m rn vn) (eWorst R V U C m rn).toNat (eT how R V U C m rn vn) ∧ (0 ≤ eT how R V U C m rn vn ∧ eT how R V U C m rn vn ≤ 100 ∧ (how ≠ 0 → eT how R V U C m rn vn ≤ U (eWorst R V U C m rn))) ∧ ∀ (w5 : Value) h r, Rn 11 66 [.ref 18, .ref 24, .int (ii how), .int (ii (eBest R V U C m rn vn)), .int (ii (eWorst R V U C m rn)), .int (ii (eT how R V U C m rn vn))] [] (wd [(13, oP d k (vn : Int)), (14, ar 96 C), (18, oD pu1 be1), (19, ar 4 (zfill x (yX V U C m) 4)), (20, ar 4 (zfill rs (eR R V U C m) rn)), (21, lr 4 (zfill sl (eS R V U C m rn) 4)), (22, ar 4 mv1), (23, ar 24 Q1), (24, oS24 (rn : Int) (m1 : Int) st dr), (25, ar 20 R), (26, ar 24 V1), (27, ar 24 U1)] h) r → Rn 11 24 [.ref 18, .ref 24, .int (ii how), .int (ii (eBest R V U C m rn vn)), .int (ii (eWorst R V U C m rn)), w5] [] (wd [(13, oP d k (vn : Int)), (14, ar 96 C), (18, oD pu be), (19, ar 4 (zfill x (yX V U C m) 4)), (20, ar 4 (zfill rs (eR R V U C m) rn)), (21, lr 4 (zfill sl (eS R V U C m rn) 4)), (22, ar 4 mv), (23, ar 24 Q), (24, oS24 (rn : Int) (m : Int) st dr), (25, ar 20 R), (26, ar 24 V), (27, ar 24 U)] h) r := by
    rcases hh with rfl | ⟨rfl, h2m⟩ | rfl
    · obtain ⟨m1, V1, U1, mv1, Q1, pu1, be1, e1, h1⟩ := c12s (d := d) (k := k) (pu := pu) (be := be) (x := (zfill x (yX V U C m) 4)) (rs := (zfill rs (eR R V U C m) rn)) (sl := (zfill sl (eS R V U C m rn) 4)) (mv := mv) (Q := Q) (st := st) (dr := dr)  hM hs hP hx1 hr1 hb
      have et : tmn (yP R (mvT C (zfill x (yX V U C m) 4) (eBest R V U C m rn vn)) (zfill rs (eR R V U C m) rn) rn) (yB R (mvT C (zfill x (yX V U C m) 4) (eBest R V U C m rn vn)) rn) 100 100 = eT 0 R V U C m rn vn := by
        unfold eT
        rw [if_pos rfl, yP_congr (g := mvT C (yX V U C m) (eBest R V U C m rn vn)) (b := eR R V U C m) (fun j hj => by unfold mvT; rw [zfill_at (by omega)]) (fun q hq => zfill_at (by omega)), yB_congr (g := mvT C (yX V U C m) (eBest R V U C m rn vn)) (fun j hj => by unfold mvT; rw [zfill_at (by omega)])]
      rw [et] at e1 h1
      refine ⟨m1, V1, U1, mv1, Q1, pu1, be1, by rw [e1]; unfold stq; rw [if_pos rfl], ?_, fun w5 h r hk => ?_⟩
      · have := tmn_in (p := yP R (mvT C (zfill x (yX V U C m) 4) (eBest R V U C m rn vn)) (zfill rs (eR R V U C m) rn) rn) (b := yB R (mvT C (zfill x (yX V U C m) 4) (eBest R V U C m rn vn)) rn) (sc := 100) (lim := 100) (by omega) (by omega)
        rw [et] at this
        exact ⟨this.1, this.2, fun q => absurd rfl q⟩
      refine E_iload pf_11_24 rfl ?_
      refine E_if_ne_f pf_11_25 (by omega) ?_
      refine E_aload pf_11_28 rfl ?_
      refine E_aload pf_11_29 rfl ?_
      refine E_iload pf_11_30 rfl ?_
      refine F_v3v (l' := [(_, _), (_, _), (_, _), (_, _), (_, _), (_, _), (_, _), (_, _), (_, _), (_, _), (_, _), (_, _)]) pf_11_31 (h1) (And.intro rfl (And.intro rfl (And.intro rfl (And.intro rfl (And.intro rfl (And.intro rfl (And.intro rfl (And.intro rfl (And.intro rfl (And.intro rfl (And.intro rfl (And.intro rfl (trivial))))))))))))) rfl rfl rfl rfl ?_
      refine E_istore (lv' := [_, _, _, _, _, _]) pf_11_34 rfl rfl ?_
      refine E_goto pf_11_36 ?_
      exact hk
    · obtain ⟨m1, V1, U1, mv1, Q1, pu1, be1, -, e1, h1⟩ := c13s (d := d) (k := k) (pu := pu) (be := be) (x := (zfill x (yX V U C m) 4)) (rs := (zfill rs (eR R V U C m) rn)) (sl := (zfill sl (eS R V U C m rn) 4)) (mv := mv) (Q := Q) (st := st) (dr := dr)  hM hs hP hx1 hr1 hwl h2m
      have et : tmn (yP R (mvA C (zfill x (yX V U C m) 4) (V ((eWorst R V U C m rn).toNat : Int))) (zfill rs (eR R V U C m) rn) rn) (yB R (mvA C (zfill x (yX V U C m) 4) (V ((eWorst R V U C m rn).toNat : Int))) rn) (100 - U ((eWorst R V U C m rn).toNat : Int)) (U ((eWorst R V U C m rn).toNat : Int)) = eT 1 R V U C m rn vn := by
        unfold eT
        rw [ewn, if_neg (by omega), if_pos rfl, yP_congr (g := mvA C (yX V U C m) (V (eWorst R V U C m rn))) (b := eR R V U C m) (fun j hj => by unfold mvA; rw [zfill_at (by omega)]) (fun q hq => zfill_at (by omega)), yB_congr (g := mvA C (yX V U C m) (V (eWorst R V U C m rn))) (fun j hj => by unfold mvA; rw [zfill_at (by omega)])]
      rw [et] at e1 h1
      rw [ewn] at h1
      refine ⟨m1, V1, U1, mv1, Q1, pu1, be1, by rw [e1]; unfold stq; rw [if_neg (by omega), if_pos rfl, zl_getD hwl], ?_, fun w5 h r hk => ?_⟩
      · have := tmn_in (p := yP R (mvA C (zfill x (yX V U C m) 4) (V ((eWorst R V U C m rn).toNat : Int))) (zfill rs (eR R V U C m) rn) rn) (b := yB R (mvA C (zfill x (yX V U C m) 4) (V ((eWorst R V U C m rn).toNat : Int))) rn) (sc := 100 - U ((eWorst R V U C m rn).toNat : Int)) (lim := U ((eWorst R V U C m rn).toNat : Int)) (by rw [ewn]; omega) (by rw [ewn]; omega)
        rw [et, ewn] at this
        exact ⟨this.1, by omega, fun _ => this.2⟩
      refine E_iload pf_11_24 rfl ?_
      refine E_if_ne_t pf_11_25 (by omega) ?_
      refine E_iload pf_11_39 rfl ?_
      refine E_iconst pf_11_40 ?_
      refine E_icmp_ne_f pf_11_41 (by omega) ?_
      refine E_aload pf_11_44 rfl ?_
      refine E_aload pf_11_45 rfl ?_
      refine E_iload pf_11_46 rfl ?_
      refine F_v3v (l' := [(_, _), (_, _), (_, _), (_, _), (_, _), (_, _), (_, _), (_, _), (_, _), (_, _), (_, _), (_, _)]) pf_11_48 (h1) (And.intro rfl (And.intro rfl (And.intro rfl (And.intro rfl (And.intro rfl (And.intro rfl (And.intro rfl (And.intro rfl (And.intro rfl (And.intro rfl (And.intro rfl (And.intro rfl (trivial))))))))))))) rfl rfl rfl rfl ?_
      refine E_istore (lv' := [_, _, _, _, _, _]) pf_11_51 rfl rfl ?_
      refine E_goto pf_11_53 ?_
      exact hk
    · obtain ⟨m1, V1, U1, mv1, Q1, pu1, be1, e1, h1⟩ := c14s (d := d) (k := k) (pu := pu) (be := be) (x := (zfill x (yX V U C m) 4)) (rs := (zfill rs (eR R V U C m) rn)) (sl := (zfill sl (eS R V U C m rn) 4)) (mv := mv) (Q := Q) (st := st) (dr := dr)  hM hs hP hx1 hr1 hwl hb
      have et : tmn (yP R (mvP C 1 (V ((eWorst R V U C m rn).toNat : Int)) (eBest R V U C m rn vn)) (zfill rs (eR R V U C m) rn) rn) (yB R (mvP C 1 (V ((eWorst R V U C m rn).toNat : Int)) (eBest R V U C m rn vn)) rn) 1 (U ((eWorst R V U C m rn).toNat : Int)) = eT 2 R V U C m rn vn := by
        unfold eT
        rw [ewn, if_neg (by omega), if_neg (by omega), yP_congr (g := mvP C 1 (V (eWorst R V U C m rn)) (eBest R V U C m rn vn)) (b := eR R V U C m) (fun j hj => rfl) (fun q hq => zfill_at (by omega))]
      rw [et] at e1 h1
      rw [ewn] at h1
      refine ⟨m1, V1, U1, mv1, Q1, pu1, be1, by rw [e1]; unfold stq; rw [if_neg (by omega), if_neg (by omega)], ?_, fun w5 h r hk => ?_⟩
      · have := tmn_in (p := yP R (mvP C 1 (V ((eWorst R V U C m rn).toNat : Int)) (eBest R V U C m rn vn)) (zfill rs (eR R V U C m) rn) rn) (b := yB R (mvP C 1 (V ((eWorst R V U C m rn).toNat : Int)) (eBest R V U C m rn vn)) rn) (sc := 1) (lim := U ((eWorst R V U C m rn).toNat : Int)) (by omega) (by rw [ewn]; omega)
        rw [et, ewn] at this
        exact ⟨this.1, by omega, fun _ => this.2⟩
      refine E_iload pf_11_24 rfl ?_
      refine E_if_ne_t pf_11_25 (by omega) ?_
      refine E_iload pf_11_39 rfl ?_
      refine E_iconst pf_11_40 ?_
      refine E_icmp_ne_t pf_11_41 (by omega) ?_
      refine E_aload pf_11_56 rfl ?_
      refine E_aload pf_11_57 rfl ?_
      refine E_iload pf_11_58 rfl ?_
      refine E_iload pf_11_60 rfl ?_
      refine F_v4v (l' := [(_, _), (_, _), (_, _), (_, _), (_, _), (_, _), (_, _), (_, _), (_, _), (_, _), (_, _), (_, _)]) pf_11_61 (h1) (And.intro rfl (And.intro rfl (And.intro rfl (And.intro rfl (And.intro rfl (And.intro rfl (And.intro rfl (And.intro rfl (And.intro rfl (And.intro rfl (And.intro rfl (And.intro rfl (trivial))))))))))))) rfl rfl rfl rfl ?_
      refine E_istore (lv' := [_, _, _, _, _, _]) pf_11_64 rfl rfl ?_
      exact hk
  obtain ⟨m1, V1, U1, mv1, Q1, pu1, be1, e1, ht, hk⟩ := key
  have hq := stq_ok hM hh hb hwl (t := eT how R V U C m rn vn) ⟨ht.1, ht.2.1, fun q => by rw [ewn]; exact ht.2.2 q⟩
  have hM1 : Mb vn (zl V1 U1 m1) := by rw [e1]; exact hq.1
  have hs1 : mxs (zl V1 U1 m1) = 100 := by rw [e1]; exact hq.2
  have hm1 : m1 ≤ 24 := by have := Mb_len hM1; rw [zl_len] at this; omega
  have hl1 : ((stq how (zl V U m) (eBest R V U C m rn vn) (eWorst R V U C m rn).toNat (eT how R V U C m rn vn)).length : Int) = m1 := by rw [← e1, zl_len]
  obtain ⟨m2, V2, U2, e2, _, h3⟩ := c61s (rn := rn) (st := st + 1) (dr := dr) (V := V1) (U := U1) (m := m1) hm1 (fun j hj => by have := Mb_at hM1 hj; omega)
  refine ⟨m2, V2, U2, mv1, Q1, pu1, be1, by rw [e2, e1], fun h => ?_⟩
  rw [hl1]
  refine E_in (lv := [_, _, _, _, _, _]) rfl ?_
  refine E_aload pf_11_0 rfl ?_
  refine E_aload pf_11_1 rfl ?_
  refine F_v2u (l' := [(_, _), (_, _), (_, _), (_, _), (_, _), (_, _), (_, _), (_, _), (_, _), (_, _), (_, _), (_, _)]) pf_11_2 (c1sx hs hP) (And.intro rfl (And.intro rfl (And.intro rfl (And.intro rfl (And.intro rfl (And.intro rfl (And.intro rfl (And.intro rfl (And.intro rfl (And.intro rfl (trivial))))))))))) rfl rfl rfl rfl ?_
  refine E_aload pf_11_5 rfl ?_
  refine F_getf pf_11_6 rfl rfl rfl ?_
  refine E_aload pf_11_9 rfl ?_
  refine F_getf pf_11_10 rfl rfl rfl ?_
  refine F_v2v0 pf_11_13 (c39s hP.2.2.2 hw (by omega)) (And.intro rfl (And.intro rfl (And.intro rfl (trivial)))) rfl rfl ?_
  rw [eb]
  refine E_istore (lv' := [_, _, _, _, _, _]) pf_11_16 rfl rfl ?_
  refine E_aload pf_11_17 rfl ?_
  refine E_aload pf_11_18 rfl ?_
  refine F_v2v0 pf_11_19 (c9s hs hP hw) (And.intro rfl (And.intro rfl (And.intro rfl (And.intro rfl (And.intro rfl (And.intro rfl (trivial))))))) rfl rfl ?_
  rw [ew]
  refine E_istore (lv' := [_, _, _, _, _, _]) pf_11_22 rfl rfl ?_
  refine hk _ _ _ ?_
  refine E_aload pf_11_66 rfl ?_
  refine E_dup pf_11_67 rfl ?_
  refine F_getf pf_11_68 rfl rfl rfl ?_
  refine E_iconst pf_11_71 ?_
  refine E_iadd pf_11_72 ?_
  refine F_putf (l' := [(_, _), (_, _), (_, _), (_, _), (_, _), (_, _), (_, _), (_, _), (_, _), (_, _), (_, _), (_, _)]) (x := ob _ [_, _, _, _, _, _, _]) pf_11_73 rfl rfl rfl rfl rfl ?_
  refine E_aload pf_11_76 rfl ?_
  refine E_dup pf_11_77 rfl ?_
  refine F_getf pf_11_78 rfl rfl rfl ?_
  refine E_aload pf_11_81 rfl ?_
  refine F_v1v (l' := [(_, _), (_, _), (_, _), (_, _), (_, _), (_, _), (_, _), (_, _), (_, _), (_, _), (_, _), (_, _)]) pf_11_82 (h3) (And.intro rfl (And.intro rfl (And.intro rfl (trivial)))) rfl rfl rfl rfl ?_
  refine E_iadd pf_11_85 ?_
  refine F_putf (l' := [(_, _), (_, _), (_, _), (_, _), (_, _), (_, _), (_, _), (_, _), (_, _), (_, _), (_, _), (_, _)]) (x := ob _ [_, _, _, _, _, _, _]) pf_11_86 rfl rfl rfl rfl rfl ?_
  refine E_iload pf_11_89 rfl ?_
  exact E_iret pf_11_91 rfl
theorem c12t {v : Int} (hM : Mx vn (zl V U m)) (hs : sok vn R V U m) (hP : ppk C dn vn rn) (hx : ∀ j : Int, 0 ≤ j → j < 4 → -21600 ≤ x j ∧ x j ≤ 21600) (hr : ∀ k : Int, 0 ≤ k → k < rn → -2000000 ≤ rs k ∧ rs k ≤ 2000000) (hv : 0 ≤ v ∧ v < vn) : ∃ (m' : Nat) (V' U' mv' Q' : Int → Int) (pu' be' : Int), zl V' U' m' = gv (scl (zl V U m) (100 - (tmn (yP R (mvT C x v) rs rn) (yB R (mvT C x v) rn) 100 100)) 100 (-9)) v (tmn (yP R (mvT C x v) rs rn) (yB R (mvT C x v) rn) 100 100) ∧ ∀ h, Ca 12 [.ref 18, .ref 28, .int (ii v)] (wd [(13, oP d k (vn : Int)), (14, ar 96 C), (18, oD pu be), (19, ar 4 x), (20, ar 4 rs), (21, lr 4 sl), (22, ar 4 mv), (23, ar 24 Q), (28, oS28 (rn : Int) (m : Int) st dr), (29, ar 20 R), (30, ar 24 V), (31, ar 24 U)] h) (.inl (some (.int (ii (tmn (yP R (mvT C x v) rs rn) (yB R (mvT C x v) rn) 100 100)))), wd [(13, oP d k (vn : Int)), (14, ar 96 C), (18, oD pu' be'), (19, ar 4 x), (20, ar 4 rs), (21, lr 4 sl), (22, ar 4 mv'), (23, ar 24 Q'), (28, oS28 (rn : Int) (m' : Int) st dr), (29, ar 20 R), (30, ar 24 V'), (31, ar 24 U')] h) := by
  have hrn := hP.2.2.1
  have hvn := hP.2.1
  have hm := hs.1
  have hmv : ∀ j : Int, 0 ≤ j → j < 4 → -30000 ≤ (zfill mv (mvT C x v) 4) j ∧ (zfill mv (mvT C x v) 4) j ≤ 30000 := fun j h1 h2 => by
    rw [zfill_at ⟨h1, h2⟩]
    have := hx j h1 h2
    have := hP.2.2.2 (v * 4 + j)
    unfold mvT; omega
  have et : (tmn (yP R (zfill mv (mvT C x v) 4) rs rn) (yB R (zfill mv (mvT C x v) 4) rn) 100 100) = (tmn (yP R (mvT C x v) rs rn) (yB R (mvT C x v) rn) 100 100) := by
    rw [yP_congr (fun j hj => zfill_at (by omega)) (fun _ _ => rfl), yB_congr (fun j hj => zfill_at (by omega))]
  rw [← et]
  have hT := tmn_in (p := yP R (zfill mv (mvT C x v) 4) rs rn) (b := yB R (zfill mv (mvT C x v) 4) rn) (sc := 100) (lim := 100) (by omega) (by omega)
  have hle := yPB_le hs hrn.2 hmv hr
  have hnn := yB_nn R (zfill mv (mvT C x v) 4) rn
  obtain ⟨U1, Q1, e1, h1⟩ := c19t (rn := rn) (st := st) (dr := dr) (pu := yP R (zfill mv (mvT C x v) 4) rs rn) (be := yB R (zfill mv (mvT C x v) 4) rn) (V := V) (U := U) (Q := Q) (m := m) (up := 100 - (tmn (yP R (zfill mv (mvT C x v) 4) rs rn) (yB R (zfill mv (mvT C x v) 4) rn) 100 100)) (lo := 100) (ex := -9) hm (fun i hi => by have := Mx_at hM hi; omega) (by omega) (by omega) (by omega)
  have hM1 : Mb vn (zl V U1 m) := by rw [e1]; exact scl_Mb hM.1 (by omega) (by omega)
  obtain ⟨m2, V2, U2, e2, h2⟩ := c59t (rn := rn) (st := st) (dr := dr) (V := V) (U := U1) (m := m) (v := v) (n := (tmn (yP R (zfill mv (mvT C x v) 4) rs rn) (yB R (zfill mv (mvT C x v) 4) rn) 100 100)) hm.2 (fun j hj => by have := Mb_at hM1 hj; omega) (by omega) hT (Mb_room hM1 hv hvn.2)
  refine ⟨m2, V2, U2, (zfill mv (mvT C x v) 4), Q1, yP R (zfill mv (mvT C x v) 4) rs rn, yB R (zfill mv (mvT C x v) 4) rn, by rw [e2, e1], fun h => ?_⟩
  refine E_in (lv := [_, _, _, _]) rfl ?_
  have loop : ∀ (n i : Nat) (q : Int → Int), i + n = 4 → q = zfill mv (mvT C x v) i → Rn 12 2 [.ref 18, .ref 28, .int (ii v), .int (ii (i : Int))] [] (wd [(13, oP d k (vn : Int)), (14, ar 96 C), (18, oD pu be), (19, ar 4 x), (20, ar 4 rs), (21, lr 4 sl), (22, ar 4 q), (23, ar 24 Q), (28, oS28 (rn : Int) (m : Int) st dr), (29, ar 20 R), (30, ar 24 V), (31, ar 24 U)] h) (.inl (some (.int (ii (tmn (yP R (zfill mv (mvT C x v) 4) rs rn) (yB R (zfill mv (mvT C x v) 4) rn) 100 100)))), wd [(13, oP d k (vn : Int)), (14, ar 96 C), (18, oD (yP R (zfill mv (mvT C x v) 4) rs rn) (yB R (zfill mv (mvT C x v) 4) rn)), (19, ar 4 x), (20, ar 4 rs), (21, lr 4 sl), (22, ar 4 (zfill mv (mvT C x v) 4)), (23, ar 24 Q1), (28, oS28 (rn : Int) (m2 : Int) st dr), (29, ar 20 R), (30, ar 24 V2), (31, ar 24 U2)] h) := by
    intro n
    induction n with
    | zero =>
      intro i q hi hq
      obtain rfl : i = 4 := by omega
      rw [hq]
      refine E_iload pf_12_2 rfl ?_
      refine E_iconst pf_12_3 ?_
      refine E_icmp_ge_t pf_12_4 (by omega) ?_
      refine E_aload pf_12_38 rfl ?_
      refine E_aload pf_12_39 rfl ?_
      refine F_v2u (l' := [(_, _), (_, _), (_, _), (_, _), (_, _), (_, _), (_, _), (_, _), (_, _), (_, _), (_, _), (_, _)]) pf_12_40 (c17t hs hrn hmv hr) (And.intro rfl (And.intro rfl (And.intro rfl (And.intro rfl (And.intro rfl (trivial)))))) rfl rfl rfl rfl ?_
      refine E_aload pf_12_43 rfl ?_
      refine E_iconst pf_12_44 ?_
      refine E_iconst pf_12_46 ?_
      refine F_v3v0 pf_12_48 (c18 (by omega) (by omega) (by omega) (by omega)) (And.intro rfl (trivial)) rfl rfl ?_
      refine E_istore (lv' := [_, _, _, _]) pf_12_51 rfl rfl ?_
      refine E_aload pf_12_52 rfl ?_
      refine E_aload pf_12_53 rfl ?_
      refine E_iconst pf_12_54 ?_
      refine E_iload pf_12_56 rfl ?_
      refine E_isub pf_12_57 ?_
      refine E_iconst pf_12_58 ?_
      refine E_iconst pf_12_60 ?_
      refine F_v5u (l' := [(_, _), (_, _), (_, _), (_, _), (_, _), (_, _), (_, _), (_, _), (_, _), (_, _), (_, _), (_, _)]) pf_12_62 (h1) (And.intro rfl (And.intro rfl (And.intro rfl (And.intro rfl (trivial))))) rfl rfl rfl rfl ?_
      refine E_aload pf_12_65 rfl ?_
      refine E_iload pf_12_66 rfl ?_
      refine E_iload pf_12_67 rfl ?_
      refine F_v3u (l' := [(_, _), (_, _), (_, _), (_, _), (_, _), (_, _), (_, _), (_, _), (_, _), (_, _), (_, _), (_, _)]) pf_12_68 (h2) (And.intro rfl (And.intro rfl (And.intro rfl (trivial)))) rfl rfl rfl rfl ?_
      refine E_iload pf_12_71 rfl ?_
      exact E_iret pf_12_72 rfl
    | succ n ih =>
      intro i q hi hq
      have ih := ih (i + 1) (zu q i (mvT C x v i)) (by omega) (by rw [hq, zfill_s])
      refine E_iload pf_12_2 rfl ?_
      refine E_iconst pf_12_3 ?_
      refine E_icmp_ge_f pf_12_4 (by omega) ?_
      refine E_aload pf_12_7 rfl ?_
      refine F_getf pf_12_8 rfl rfl rfl ?_
      refine E_iload pf_12_11 rfl ?_
      refine E_iconst pf_12_12 ?_
      refine E_aload pf_12_14 rfl ?_
      refine F_getf pf_12_15 rfl rfl rfl ?_
      refine E_iload pf_12_18 rfl ?_
      refine E_iload pf_12_19 rfl ?_
      refine F_v3v0 pf_12_20 (c28 (by omega) (by omega)) (And.intro rfl (And.intro rfl (trivial))) rfl rfl ?_
      refine E_imul pf_12_23 ?_
      refine E_aload pf_12_24 rfl ?_
      refine F_getf pf_12_25 rfl rfl rfl ?_
      refine E_iload pf_12_28 rfl ?_
      refine F_iald pf_12_29 rfl (by omega) ?_
      refine E_isub pf_12_30 ?_
      refine F_iast (l' := [(_, _), (_, _), (_, _), (_, _), (_, _), (_, _), (_, _), (_, _), (_, _), (_, _), (_, _), (_, _)]) pf_12_31 rfl (by omega) rfl ?_
      refine E_iinc (lv' := [_, _, _, _]) pf_12_32 rfl rfl ?_
      refine E_goto pf_12_35 ?_
      exact ih
  refine E_iconst pf_12_0 ?_
  refine E_istore (lv' := [_, _, _, _]) pf_12_1 rfl rfl ?_
  exact loop 4 0 mv (by omega) (zfill_0 _ _).symm
theorem c13t {wi : Nat} (hM : Mx vn (zl V U m)) (hs : sok vn R V U m) (hP : ppk C dn vn rn) (hx : ∀ j : Int, 0 ≤ j → j < 4 → -21600 ≤ x j ∧ x j ≤ 21600) (hr : ∀ k : Int, 0 ≤ k → k < rn → -2000000 ≤ rs k ∧ rs k ≤ 2000000) (hw : wi < m) (h2m : 1 < m) : ∃ (m' : Nat) (V' U' mv' Q' : Int → Int) (pu' be' : Int), m' = m ∧ zl V' U' m' = sbt (scl (zl V U m) (100 - U wi + (tmn (yP R (mvA C x (V wi)) rs rn) (yB R (mvA C x (V wi)) rn) (100 - U wi) (U wi))) (100 - U wi) wi) wi (tmn (yP R (mvA C x (V wi)) rs rn) (yB R (mvA C x (V wi)) rn) (100 - U wi) (U wi)) ∧ ∀ h, Ca 13 [.ref 18, .ref 28, .int (ii (wi : Int))] (wd [(13, oP d k (vn : Int)), (14, ar 96 C), (18, oD pu be), (19, ar 4 x), (20, ar 4 rs), (21, lr 4 sl), (22, ar 4 mv), (23, ar 24 Q), (28, oS28 (rn : Int) (m : Int) st dr), (29, ar 20 R), (30, ar 24 V), (31, ar 24 U)] h) (.inl (some (.int (ii (tmn (yP R (mvA C x (V wi)) rs rn) (yB R (mvA C x (V wi)) rn) (100 - U wi) (U wi))))), wd [(13, oP d k (vn : Int)), (14, ar 96 C), (18, oD pu' be'), (19, ar 4 x), (20, ar 4 rs), (21, lr 4 sl), (22, ar 4 mv'), (23, ar 24 Q'), (28, oS28 (rn : Int) (m' : Int) st dr), (29, ar 20 R), (30, ar 24 V'), (31, ar 24 U')] h) := by
  have hrn := hP.2.2.1
  have hvn := hP.2.1
  have hm := hs.1
  have hu := Mx_at hM hw
  have hp := Mx_part hM hw h2m
  have hmv : ∀ j : Int, 0 ≤ j → j < 4 → -30000 ≤ (zfill mv (mvA C x (V wi)) 4) j ∧ (zfill mv (mvA C x (V wi)) 4) j ≤ 30000 := fun j h1 h2 => by
    rw [zfill_at ⟨h1, h2⟩]
    have := hx j h1 h2
    have := hP.2.2.2 (V wi * 4 + j)
    unfold mvA; omega
  have et : (tmn (yP R (zfill mv (mvA C x (V wi)) 4) rs rn) (yB R (zfill mv (mvA C x (V wi)) 4) rn) (100 - U wi) (U wi)) = (tmn (yP R (mvA C x (V wi)) rs rn) (yB R (mvA C x (V wi)) rn) (100 - U wi) (U wi)) := by
    rw [yP_congr (fun j hj => zfill_at (by omega)) (fun _ _ => rfl), yB_congr (fun j hj => zfill_at (by omega))]
  rw [← et]
  have hT := tmn_in (p := yP R (zfill mv (mvA C x (V wi)) 4) rs rn) (b := yB R (zfill mv (mvA C x (V wi)) 4) rn) (sc := 100 - U wi) (lim := U wi) (by omega) (by omega)
  have hle := yPB_le hs hrn.2 hmv hr
  have hnn := yB_nn R (zfill mv (mvA C x (V wi)) 4) rn
  obtain ⟨U1, Q1, e1, h1⟩ := c19t (rn := rn) (st := st) (dr := dr) (pu := yP R (zfill mv (mvA C x (V wi)) 4) rs rn) (be := yB R (zfill mv (mvA C x (V wi)) 4) rn) (V := V) (U := U) (Q := Q) (m := m) (up := 100 - U wi + (tmn (yP R (zfill mv (mvA C x (V wi)) 4) rs rn) (yB R (zfill mv (mvA C x (V wi)) 4) rn) (100 - U wi) (U wi))) (lo := 100 - U wi) (ex := wi) hm (fun i hi => by have := Mx_at hM hi; omega) (by omega) (by omega) (by omega)
  refine ⟨m, V, zu U1 wi (U1 wi - (tmn (yP R (zfill mv (mvA C x (V wi)) 4) rs rn) (yB R (zfill mv (mvA C x (V wi)) 4) rn) (100 - U wi) (U wi))), (zfill mv (mvA C x (V wi)) 4), Q1, yP R (zfill mv (mvA C x (V wi)) 4) rs rn, yB R (zfill mv (mvA C x (V wi)) 4) rn, rfl, by rw [← e1, sbt_zl hw], fun h => ?_⟩
  refine E_in (lv := [_, _, _, _, _, _]) rfl ?_
  have loop : ∀ (n i : Nat) (q : Int → Int), i + n = 4 → q = zfill mv (mvA C x (V wi)) i → Rn 13 16 [.ref 18, .ref 28, .int (ii (wi : Int)), .int (ii (U wi)), .int (ii (100 - U wi)), .int (ii (i : Int))] [] (wd [(13, oP d k (vn : Int)), (14, ar 96 C), (18, oD pu be), (19, ar 4 x), (20, ar 4 rs), (21, lr 4 sl), (22, ar 4 q), (23, ar 24 Q), (28, oS28 (rn : Int) (m : Int) st dr), (29, ar 20 R), (30, ar 24 V), (31, ar 24 U)] h) (.inl (some (.int (ii (tmn (yP R (zfill mv (mvA C x (V wi)) 4) rs rn) (yB R (zfill mv (mvA C x (V wi)) 4) rn) (100 - U wi) (U wi))))), wd [(13, oP d k (vn : Int)), (14, ar 96 C), (18, oD (yP R (zfill mv (mvA C x (V wi)) 4) rs rn) (yB R (zfill mv (mvA C x (V wi)) 4) rn)), (19, ar 4 x), (20, ar 4 rs), (21, lr 4 sl), (22, ar 4 (zfill mv (mvA C x (V wi)) 4)), (23, ar 24 Q1), (28, oS28 (rn : Int) (m : Int) st dr), (29, ar 20 R), (30, ar 24 V), (31, ar 24 (zu U1 wi (U1 wi - (tmn (yP R (zfill mv (mvA C x (V wi)) 4) rs rn) (yB R (zfill mv (mvA C x (V wi)) 4) rn) (100 - U wi) (U wi)))))] h) := by
    intro n
    induction n with
    | zero =>
      intro i q hi hq
      obtain rfl : i = 4 := by omega
      rw [hq]
      refine E_iload pf_13_16 rfl ?_
      refine E_iconst pf_13_18 ?_
      refine E_icmp_ge_t pf_13_19 (by omega) ?_
      refine E_aload pf_13_61 rfl ?_
      refine E_aload pf_13_62 rfl ?_
      refine F_v2u (l' := [(_, _), (_, _), (_, _), (_, _), (_, _), (_, _), (_, _), (_, _), (_, _), (_, _), (_, _), (_, _)]) pf_13_63 (c17t hs hrn hmv hr) (And.intro rfl (And.intro rfl (And.intro rfl (And.intro rfl (And.intro rfl (trivial)))))) rfl rfl rfl rfl ?_
      refine E_aload pf_13_66 rfl ?_
      refine E_iload pf_13_67 rfl ?_
      refine E_iload pf_13_69 rfl ?_
      refine F_v3v0 pf_13_70 (c18 (by omega) (by omega) (by omega) (by omega)) (And.intro rfl (trivial)) rfl rfl ?_
      refine E_istore (lv' := [_, _, _, _, _, _]) pf_13_73 rfl rfl ?_
      refine E_aload pf_13_75 rfl ?_
      refine E_aload pf_13_76 rfl ?_
      refine E_iload pf_13_77 rfl ?_
      refine E_iload pf_13_79 rfl ?_
      refine E_iadd pf_13_81 ?_
      refine E_iload pf_13_82 rfl ?_
      refine E_iload pf_13_84 rfl ?_
      refine F_v5u (l' := [(_, _), (_, _), (_, _), (_, _), (_, _), (_, _), (_, _), (_, _), (_, _), (_, _), (_, _), (_, _)]) pf_13_85 (h1) (And.intro rfl (And.intro rfl (And.intro rfl (And.intro rfl (trivial))))) rfl rfl rfl rfl ?_
      refine E_aload pf_13_88 rfl ?_
      refine F_getf pf_13_89 rfl rfl rfl ?_
      refine E_iload pf_13_92 rfl ?_
      refine E_dup2 pf_13_93 rfl rfl ?_
      refine F_iald pf_13_94 rfl (by omega) ?_
      refine E_iload pf_13_95 rfl ?_
      refine E_isub pf_13_97 ?_
      refine F_iast (l' := [(_, _), (_, _), (_, _), (_, _), (_, _), (_, _), (_, _), (_, _), (_, _), (_, _), (_, _), (_, _)]) pf_13_98 rfl (by omega) rfl ?_
      refine E_iload pf_13_99 rfl ?_
      exact E_iret pf_13_101 rfl
    | succ n ih =>
      intro i q hi hq
      have ih := ih (i + 1) (zu q i (mvA C x (V wi) i)) (by omega) (by rw [hq, zfill_s])
      refine E_iload pf_13_16 rfl ?_
      refine E_iconst pf_13_18 ?_
      refine E_icmp_ge_f pf_13_19 (by omega) ?_
      refine E_aload pf_13_22 rfl ?_
      refine F_getf pf_13_23 rfl rfl rfl ?_
      refine E_iload pf_13_26 rfl ?_
      refine E_aload pf_13_28 rfl ?_
      refine F_getf pf_13_29 rfl rfl rfl ?_
      refine E_iload pf_13_32 rfl ?_
      refine F_iald pf_13_34 rfl (by omega) ?_
      refine E_iconst pf_13_35 ?_
      refine E_aload pf_13_37 rfl ?_
      refine F_getf pf_13_38 rfl rfl rfl ?_
      refine E_aload pf_13_41 rfl ?_
      refine F_getf pf_13_42 rfl rfl rfl ?_
      refine E_iload pf_13_45 rfl ?_
      refine F_iald pf_13_46 rfl (by omega) ?_
      refine E_iload pf_13_47 rfl ?_
      refine F_v3v0 pf_13_49 (c28 (by omega) (by omega)) (And.intro rfl (And.intro rfl (trivial))) rfl rfl ?_
      refine E_imul pf_13_52 ?_
      refine E_isub pf_13_53 ?_
      refine F_iast (l' := [(_, _), (_, _), (_, _), (_, _), (_, _), (_, _), (_, _), (_, _), (_, _), (_, _), (_, _), (_, _)]) pf_13_54 rfl (by omega) rfl ?_
      refine E_iinc (lv' := [_, _, _, _, _, _]) pf_13_55 rfl rfl ?_
      refine E_goto pf_13_58 ?_
      exact ih
  refine E_aload pf_13_0 rfl ?_
  refine F_getf pf_13_1 rfl rfl rfl ?_
  refine E_iload pf_13_4 rfl ?_
  refine F_iald pf_13_5 rfl (by omega) ?_
  refine E_istore (lv' := [_, _, _, _, _, _]) pf_13_6 rfl rfl ?_
  refine E_iconst pf_13_7 ?_
  refine E_iload pf_13_9 rfl ?_
  refine E_isub pf_13_10 ?_
  refine E_istore (lv' := [_, _, _, _, _, _]) pf_13_11 rfl rfl ?_
  refine E_iconst pf_13_13 ?_
  refine E_istore (lv' := [_, _, _, _, _, _]) pf_13_14 rfl rfl ?_
  exact loop 4 0 mv (by omega) (zfill_0 _ _).symm
theorem c14t {v : Int} {wi : Nat} (hM : Mx vn (zl V U m)) (hs : sok vn R V U m) (hP : ppk C dn vn rn) (hx : ∀ j : Int, 0 ≤ j → j < 4 → -21600 ≤ x j ∧ x j ≤ 21600) (hr : ∀ k : Int, 0 ≤ k → k < rn → -2000000 ≤ rs k ∧ rs k ≤ 2000000) (hw : wi < m) (hv : 0 ≤ v ∧ v < vn) : ∃ (m' : Nat) (V' U' mv' Q' : Int → Int) (pu' be' : Int), zl V' U' m' = gv (sbt (zl V U m) wi (tmn (yP R (mvP C 1 (V wi) v) rs rn) (yB R (mvP C 1 (V wi) v) rn) 1 (U wi))) v (tmn (yP R (mvP C 1 (V wi) v) rs rn) (yB R (mvP C 1 (V wi) v) rn) 1 (U wi)) ∧ ∀ h, Ca 14 [.ref 18, .ref 28, .int (ii (wi : Int)), .int (ii v)] (wd [(13, oP d k (vn : Int)), (14, ar 96 C), (18, oD pu be), (19, ar 4 x), (20, ar 4 rs), (21, lr 4 sl), (22, ar 4 mv), (23, ar 24 Q), (28, oS28 (rn : Int) (m : Int) st dr), (29, ar 20 R), (30, ar 24 V), (31, ar 24 U)] h) (.inl (some (.int (ii (tmn (yP R (mvP C 1 (V wi) v) rs rn) (yB R (mvP C 1 (V wi) v) rn) 1 (U wi))))), wd [(13, oP d k (vn : Int)), (14, ar 96 C), (18, oD pu' be'), (19, ar 4 x), (20, ar 4 rs), (21, lr 4 sl), (22, ar 4 mv'), (23, ar 24 Q'), (28, oS28 (rn : Int) (m' : Int) st dr), (29, ar 20 R), (30, ar 24 V'), (31, ar 24 U')] h) := by
  have hrn := hP.2.2.1
  have hvn := hP.2.1
  have hm := hs.1
  have hu := Mx_at hM hw
  have hmv : ∀ j : Int, 0 ≤ j → j < 4 → -30000 ≤ (zfill mv (mvP C 1 (V wi) v) 4) j ∧ (zfill mv (mvP C 1 (V wi) v) 4) j ≤ 30000 := fun j h1 h2 => by
    rw [zfill_at ⟨h1, h2⟩]
    have := hP.2.2.2 (V wi * 4 + j)
    have := hP.2.2.2 (v * 4 + j)
    unfold mvP; omega
  have et : (tmn (yP R (zfill mv (mvP C 1 (V wi) v) 4) rs rn) (yB R (zfill mv (mvP C 1 (V wi) v) 4) rn) 1 (U wi)) = (tmn (yP R (mvP C 1 (V wi) v) rs rn) (yB R (mvP C 1 (V wi) v) rn) 1 (U wi)) := by
    rw [yP_congr (fun j hj => zfill_at (by omega)) (fun _ _ => rfl), yB_congr (fun j hj => zfill_at (by omega))]
  rw [← et]
  have hT := tmn_in (p := yP R (zfill mv (mvP C 1 (V wi) v) 4) rs rn) (b := yB R (zfill mv (mvP C 1 (V wi) v) 4) rn) (sc := 1) (lim := U wi) (by omega) (by omega)
  have hle := yPB_le hs hrn.2 hmv hr
  have hnn := yB_nn R (zfill mv (mvP C 1 (V wi) v) 4) rn
  have hM1 : Mb vn (zl V (zu U wi (U wi - (tmn (yP R (zfill mv (mvP C 1 (V wi) v) 4) rs rn) (yB R (zfill mv (mvP C 1 (V wi) v) 4) rn) 1 (U wi)))) m) := by
    rw [zl_set]; exact Mb_set hM.1 (zl_get hw) rfl (by show 0 ≤ U wi - _; omega)
  obtain ⟨m2, V2, U2, e2, h2⟩ := c59t (rn := rn) (st := st) (dr := dr) (V := V) (U := zu U wi (U wi - (tmn (yP R (zfill mv (mvP C 1 (V wi) v) 4) rs rn) (yB R (zfill mv (mvP C 1 (V wi) v) 4) rn) 1 (U wi)))) (m := m) (v := v) (n := (tmn (yP R (zfill mv (mvP C 1 (V wi) v) 4) rs rn) (yB R (zfill mv (mvP C 1 (V wi) v) 4) rn) 1 (U wi))) hm.2 (fun j hj => by have := Mb_at hM1 hj; omega) (by omega) (by omega) (Mb_room hM1 hv hvn.2)
  refine ⟨m2, V2, U2, (zfill mv (mvP C 1 (V wi) v) 4), Q, yP R (zfill mv (mvP C 1 (V wi) v) 4) rs rn, yB R (zfill mv (mvP C 1 (V wi) v) 4) rn, by rw [e2, sbt_zl hw], fun h => ?_⟩
  refine E_in (lv := [_, _, _, _, _]) rfl ?_
  refine E_aload pf_14_0 rfl ?_
  refine E_aload pf_14_1 rfl ?_
  refine F_getf pf_14_2 rfl rfl rfl ?_
  refine E_iload pf_14_5 rfl ?_
  refine F_iald pf_14_6 rfl (by omega) ?_
  refine E_iload pf_14_7 rfl ?_
  refine E_iconst pf_14_8 ?_
  refine F_v4u (l' := [(_, _), (_, _), (_, _), (_, _), (_, _), (_, _), (_, _), (_, _), (_, _), (_, _), (_, _), (_, _)]) pf_14_9 (c15 (by omega) (by omega)) (And.intro rfl (And.intro rfl (And.intro rfl (And.intro rfl (trivial))))) rfl rfl rfl rfl ?_
  refine E_aload pf_14_12 rfl ?_
  refine E_aload pf_14_13 rfl ?_
  refine F_v2u (l' := [(_, _), (_, _), (_, _), (_, _), (_, _), (_, _), (_, _), (_, _), (_, _), (_, _), (_, _), (_, _)]) pf_14_14 (c17t hs hrn hmv hr) (And.intro rfl (And.intro rfl (And.intro rfl (And.intro rfl (And.intro rfl (trivial)))))) rfl rfl rfl rfl ?_
  refine E_aload pf_14_17 rfl ?_
  refine E_iconst pf_14_18 ?_
  refine E_aload pf_14_19 rfl ?_
  refine F_getf pf_14_20 rfl rfl rfl ?_
  refine E_iload pf_14_23 rfl ?_
  refine F_iald pf_14_24 rfl (by omega) ?_
  refine F_v3v0 pf_14_25 (c18 (by omega) (by omega) (by omega) (by omega)) (And.intro rfl (trivial)) rfl rfl ?_
  refine E_istore (lv' := [_, _, _, _, _]) pf_14_28 rfl rfl ?_
  refine E_aload pf_14_30 rfl ?_
  refine F_getf pf_14_31 rfl rfl rfl ?_
  refine E_iload pf_14_34 rfl ?_
  refine E_dup2 pf_14_35 rfl rfl ?_
  refine F_iald pf_14_36 rfl (by omega) ?_
  refine E_iload pf_14_37 rfl ?_
  refine E_isub pf_14_39 ?_
  refine F_iast (l' := [(_, _), (_, _), (_, _), (_, _), (_, _), (_, _), (_, _), (_, _), (_, _), (_, _), (_, _), (_, _)]) pf_14_40 rfl (by omega) rfl ?_
  refine E_aload pf_14_41 rfl ?_
  refine E_iload pf_14_42 rfl ?_
  refine E_iload pf_14_43 rfl ?_
  refine F_v3u (l' := [(_, _), (_, _), (_, _), (_, _), (_, _), (_, _), (_, _), (_, _), (_, _), (_, _), (_, _), (_, _)]) pf_14_45 (h2) (And.intro rfl (And.intro rfl (And.intro rfl (trivial)))) rfl rfl rfl rfl ?_
  refine E_iload pf_14_48 rfl ?_
  exact E_iret pf_14_50 rfl
theorem c11t {how : Int} (hh : how = 0 ∨ (how = 1 ∧ 1 < m) ∨ how = 2) (hM : Mx vn (zl V U m)) (hs : sok vn R V U m) (hP : ppk C dn vn rn) : ∃ (m' : Nat) (V' U' mv' Q' : Int → Int) (pu' be' : Int), zl V' U' m' = pos (stq how (zl V U m) (eBest R V U C m rn vn) (eWorst R V U C m rn).toNat (eT how R V U C m rn vn)) ∧ ∀ h, Ca 11 [.ref 18, .ref 28, .int (ii how)] (wd [(13, oP d k (vn : Int)), (14, ar 96 C), (18, oD pu be), (19, ar 4 x), (20, ar 4 rs), (21, lr 4 sl), (22, ar 4 mv), (23, ar 24 Q), (28, oS28 (rn : Int) (m : Int) st dr), (29, ar 20 R), (30, ar 24 V), (31, ar 24 U)] h) (.inl (some (.int (ii (eT how R V U C m rn vn)))), wd [(13, oP d k (vn : Int)), (14, ar 96 C), (18, oD pu' be'), (19, ar 4 (zfill x (yX V U C m) 4)), (20, ar 4 (zfill rs (eR R V U C m) rn)), (21, lr 4 (zfill sl (eS R V U C m rn) 4)), (22, ar 4 mv'), (23, ar 24 Q'), (28, oS28 (rn : Int) (m' : Int) (st + 1) (dr + (((stq how (zl V U m) (eBest R V U C m rn vn) (eWorst R V U C m rn).toNat (eT how R V U C m rn vn)).length : Int) - m'))), (29, ar 20 R), (30, ar 24 V'), (31, ar 24 U')] h) := by
  have hrn := hP.2.2.1
  have hvn := hP.2.1
  have hm := hs.1
  have hx1 : ∀ j : Int, 0 ≤ j → j < 4 → -21600 ≤ (zfill x (yX V U C m) 4) j ∧ (zfill x (yX V U C m) 4) j ≤ 21600 := fun j h1 h2 => by rw [zfill_at ⟨h1, h2⟩]; exact yX_le hs hP.2.2.2 j
  have hr1 : ∀ q : Int, 0 ≤ q → q < rn → -2000000 ≤ (zfill rs (eR R V U C m) rn) q ∧ (zfill rs (eR R V U C m) rn) q ≤ 2000000 := fun q h1 h2 => by
    have := eR_le hs hP.2.2.2 (k := q) (by omega)
    rw [zfill_at ⟨h1, h2⟩]
    omega
  have hw : ∀ j : Int, 0 ≤ j → j < 4 → -1000000000 ≤ (zfill sl (eS R V U C m rn) 4) j ∧ (zfill sl (eS R V U C m rn) 4) j ≤ 1000000000 := fun j h1 h2 => by
    have := eS_le hs hP (j := j) ⟨h1, h2⟩
    rw [zfill_at ⟨h1, h2⟩]
    omega
  have eb : zam (yD C (zfill sl (eS R V U C m rn) 4)) (vn - 1) = eBest R V U C m rn vn := by rw [yD_fill]; rfl
  have ew : zax (fun i => yD C (zfill sl (eS R V U C m rn) 4) (V i)) (m - 1) = eWorst R V U C m rn := by rw [yD_fill]; rfl
  have hb := eBest_in (R := R) (V := V) (U := U) (m := m) hP
  have hwi := eWorst_in (C := C) (rn := rn) hs
  have ewn : ((eWorst R V U C m rn).toNat : Int) = eWorst R V U C m rn := Int.toNat_of_nonneg hwi.1
  have hwl : (eWorst R V U C m rn).toNat < m := by omega
  have hu := Mx_at hM hwl
  rw [ewn] at hu
  have key : ∃ (m1 : Nat) (V1 U1 mv1 Q1 : Int → Int) (pu1 be1 : Int), zl V1 U1 m1 = stq how (zl V U m) (eBest R V U C m rn vn) (eWorst R V U C m rn).toNat (eT how R V U C m rn vn) ∧ (0 ≤ eT how R V U C m rn vn ∧ eT how R V U C m rn vn ≤ 100 ∧ (how ≠ 0 → eT how R V U C m rn vn ≤ U (eWorst R V U C m rn))) ∧ ∀ (w5 : Value) h r, Rn 11 66 [.ref 18, .ref 28, .int (ii how), .int (ii (eBest R V U C m rn vn)), .int (ii (eWorst R V U C m rn)), .int (ii (eT how R V U C m rn vn))] [] (wd [(13, oP d k (vn : Int)), (14, ar 96 C), (18, oD pu1 be1), (19, ar 4 (zfill x (yX V U C m) 4)), (20, ar 4 (zfill rs (eR R V U C m) rn)), (21, lr 4 (zfill sl (eS R V U C m rn) 4)), (22, ar 4 mv1), (23, ar 24 Q1), (28, oS28 (rn : Int) (m1 : Int) st dr), (29, ar 20 R), (30, ar 24 V1), (31, ar 24 U1)] h) r → Rn 11 24 [.ref 18, .ref 28, .int (ii how), .int (ii (eBest R V U C m rn vn)), .int (ii (eWorst R V U C m rn)), w5] [] (wd [(13, oP d k (vn : Int)), (14, ar 96 C), (18, oD pu be), (19, ar 4 (zfill x (yX V U C m) 4)), (20, ar 4 (zfill rs (eR R V U C m) rn)), (21, lr 4 (zfill sl (eS R V U C m rn) 4)), (22, ar 4 mv), (23, ar 24 Q), (28, oS28 (rn : Int) (m : Int) st dr), (29, ar 20 R), (30, ar 24 V), (31, ar 24 U)] h) r := by
    rcases hh with rfl | ⟨rfl, h2m⟩ | rfl
    · obtain ⟨m1, V1, U1, mv1, Q1, pu1, be1, e1, h1⟩ := c12t (d := d) (k := k) (pu := pu) (be := be) (x := (zfill x (yX V U C m) 4)) (rs := (zfill rs (eR R V U C m) rn)) (sl := (zfill sl (eS R V U C m rn) 4)) (mv := mv) (Q := Q) (st := st) (dr := dr)  hM hs hP hx1 hr1 hb
      have et : tmn (yP R (mvT C (zfill x (yX V U C m) 4) (eBest R V U C m rn vn)) (zfill rs (eR R V U C m) rn) rn) (yB R (mvT C (zfill x (yX V U C m) 4) (eBest R V U C m rn vn)) rn) 100 100 = eT 0 R V U C m rn vn := by
        unfold eT
        rw [if_pos rfl, yP_congr (g := mvT C (yX V U C m) (eBest R V U C m rn vn)) (b := eR R V U C m) (fun j hj => by unfold mvT; rw [zfill_at (by omega)]) (fun q hq => zfill_at (by omega)), yB_congr (g := mvT C (yX V U C m) (eBest R V U C m rn vn)) (fun j hj => by unfold mvT; rw [zfill_at (by omega)])]
      rw [et] at e1 h1
      refine ⟨m1, V1, U1, mv1, Q1, pu1, be1, by rw [e1]; unfold stq; rw [if_pos rfl], ?_, fun w5 h r hk => ?_⟩
      · have := tmn_in (p := yP R (mvT C (zfill x (yX V U C m) 4) (eBest R V U C m rn vn)) (zfill rs (eR R V U C m) rn) rn) (b := yB R (mvT C (zfill x (yX V U C m) 4) (eBest R V U C m rn vn)) rn) (sc := 100) (lim := 100) (by omega) (by omega)
        rw [et] at this
        exact ⟨this.1, this.2, fun q => absurd rfl q⟩
      refine E_iload pf_11_24 rfl ?_
      refine E_if_ne_f pf_11_25 (by omega) ?_
      refine E_aload pf_11_28 rfl ?_
      refine E_aload pf_11_29 rfl ?_
      refine E_iload pf_11_30 rfl ?_
      refine F_v3v (l' := [(_, _), (_, _), (_, _), (_, _), (_, _), (_, _), (_, _), (_, _), (_, _), (_, _), (_, _), (_, _)]) pf_11_31 (h1) (And.intro rfl (And.intro rfl (And.intro rfl (And.intro rfl (And.intro rfl (And.intro rfl (And.intro rfl (And.intro rfl (And.intro rfl (And.intro rfl (And.intro rfl (And.intro rfl (trivial))))))))))))) rfl rfl rfl rfl ?_
      refine E_istore (lv' := [_, _, _, _, _, _]) pf_11_34 rfl rfl ?_
      refine E_goto pf_11_36 ?_
      exact hk
    · obtain ⟨m1, V1, U1, mv1, Q1, pu1, be1, -, e1, h1⟩ := c13t (d := d) (k := k) (pu := pu) (be := be) (x := (zfill x (yX V U C m) 4)) (rs := (zfill rs (eR R V U C m) rn)) (sl := (zfill sl (eS R V U C m rn) 4)) (mv := mv) (Q := Q) (st := st) (dr := dr)  hM hs hP hx1 hr1 hwl h2m
      have et : tmn (yP R (mvA C (zfill x (yX V U C m) 4) (V ((eWorst R V U C m rn).toNat : Int))) (zfill rs (eR R V U C m) rn) rn) (yB R (mvA C (zfill x (yX V U C m) 4) (V ((eWorst R V U C m rn).toNat : Int))) rn) (100 - U ((eWorst R V U C m rn).toNat : Int)) (U ((eWorst R V U C m rn).toNat : Int)) = eT 1 R V U C m rn vn := by
        unfold eT
        rw [ewn, if_neg (by omega), if_pos rfl, yP_congr (g := mvA C (yX V U C m) (V (eWorst R V U C m rn))) (b := eR R V U C m) (fun j hj => by unfold mvA; rw [zfill_at (by omega)]) (fun q hq => zfill_at (by omega)), yB_congr (g := mvA C (yX V U C m) (V (eWorst R V U C m rn))) (fun j hj => by unfold mvA; rw [zfill_at (by omega)])]
      rw [et] at e1 h1
      rw [ewn] at h1
      refine ⟨m1, V1, U1, mv1, Q1, pu1, be1, by rw [e1]; unfold stq; rw [if_neg (by omega), if_pos rfl, zl_getD hwl], ?_, fun w5 h r hk => ?_⟩
      · have := tmn_in (p := yP R (mvA C (zfill x (yX V U C m) 4) (V ((eWorst R V U C m rn).toNat : Int))) (zfill rs (eR R V U C m) rn) rn) (b := yB R (mvA C (zfill x (yX V U C m) 4) (V ((eWorst R V U C m rn).toNat : Int))) rn) (sc := 100 - U ((eWorst R V U C m rn).toNat : Int)) (lim := U ((eWorst R V U C m rn).toNat : Int)) (by rw [ewn]; omega) (by rw [ewn]; omega)
        rw [et, ewn] at this
        exact ⟨this.1, by omega, fun _ => this.2⟩
      refine E_iload pf_11_24 rfl ?_
      refine E_if_ne_t pf_11_25 (by omega) ?_
      refine E_iload pf_11_39 rfl ?_
      refine E_iconst pf_11_40 ?_
      refine E_icmp_ne_f pf_11_41 (by omega) ?_
      refine E_aload pf_11_44 rfl ?_
      refine E_aload pf_11_45 rfl ?_
      refine E_iload pf_11_46 rfl ?_
      refine F_v3v (l' := [(_, _), (_, _), (_, _), (_, _), (_, _), (_, _), (_, _), (_, _), (_, _), (_, _), (_, _), (_, _)]) pf_11_48 (h1) (And.intro rfl (And.intro rfl (And.intro rfl (And.intro rfl (And.intro rfl (And.intro rfl (And.intro rfl (And.intro rfl (And.intro rfl (And.intro rfl (And.intro rfl (And.intro rfl (trivial))))))))))))) rfl rfl rfl rfl ?_
      refine E_istore (lv' := [_, _, _, _, _, _]) pf_11_51 rfl rfl ?_
      refine E_goto pf_11_53 ?_
      exact hk
    · obtain ⟨m1, V1, U1, mv1, Q1, pu1, be1, e1, h1⟩ := c14t (d := d) (k := k) (pu := pu) (be := be) (x := (zfill x (yX V U C m) 4)) (rs := (zfill rs (eR R V U C m) rn)) (sl := (zfill sl (eS R V U C m rn) 4)) (mv := mv) (Q := Q) (st := st) (dr := dr)  hM hs hP hx1 hr1 hwl hb
      have et : tmn (yP R (mvP C 1 (V ((eWorst R V U C m rn).toNat : Int)) (eBest R V U C m rn vn)) (zfill rs (eR R V U C m) rn) rn) (yB R (mvP C 1 (V ((eWorst R V U C m rn).toNat : Int)) (eBest R V U C m rn vn)) rn) 1 (U ((eWorst R V U C m rn).toNat : Int)) = eT 2 R V U C m rn vn := by
        unfold eT
        rw [ewn, if_neg (by omega), if_neg (by omega), yP_congr (g := mvP C 1 (V (eWorst R V U C m rn)) (eBest R V U C m rn vn)) (b := eR R V U C m) (fun j hj => rfl) (fun q hq => zfill_at (by omega))]
      rw [et] at e1 h1
      rw [ewn] at h1
      refine ⟨m1, V1, U1, mv1, Q1, pu1, be1, by rw [e1]; unfold stq; rw [if_neg (by omega), if_neg (by omega)], ?_, fun w5 h r hk => ?_⟩
      · have := tmn_in (p := yP R (mvP C 1 (V ((eWorst R V U C m rn).toNat : Int)) (eBest R V U C m rn vn)) (zfill rs (eR R V U C m) rn) rn) (b := yB R (mvP C 1 (V ((eWorst R V U C m rn).toNat : Int)) (eBest R V U C m rn vn)) rn) (sc := 1) (lim := U ((eWorst R V U C m rn).toNat : Int)) (by omega) (by rw [ewn]; omega)
        rw [et, ewn] at this
        exact ⟨this.1, by omega, fun _ => this.2⟩
      refine E_iload pf_11_24 rfl ?_
      refine E_if_ne_t pf_11_25 (by omega) ?_
      refine E_iload pf_11_39 rfl ?_
      refine E_iconst pf_11_40 ?_
      refine E_icmp_ne_t pf_11_41 (by omega) ?_
      refine E_aload pf_11_56 rfl ?_
      refine E_aload pf_11_57 rfl ?_
      refine E_iload pf_11_58 rfl ?_
      refine E_iload pf_11_60 rfl ?_
      refine F_v4v (l' := [(_, _), (_, _), (_, _), (_, _), (_, _), (_, _), (_, _), (_, _), (_, _), (_, _), (_, _), (_, _)]) pf_11_61 (h1) (And.intro rfl (And.intro rfl (And.intro rfl (And.intro rfl (And.intro rfl (And.intro rfl (And.intro rfl (And.intro rfl (And.intro rfl (And.intro rfl (And.intro rfl (And.intro rfl (trivial))))))))))))) rfl rfl rfl rfl ?_
      refine E_istore (lv' := [_, _, _, _, _, _]) pf_11_64 rfl rfl ?_
      exact hk
  obtain ⟨m1, V1, U1, mv1, Q1, pu1, be1, e1, ht, hk⟩ := key
  have hq := stq_ok hM hh hb hwl (t := eT how R V U C m rn vn) ⟨ht.1, ht.2.1, fun q => by rw [ewn]; exact ht.2.2 q⟩
  have hM1 : Mb vn (zl V1 U1 m1) := by rw [e1]; exact hq.1
  have hs1 : mxs (zl V1 U1 m1) = 100 := by rw [e1]; exact hq.2
  have hm1 : m1 ≤ 24 := by have := Mb_len hM1; rw [zl_len] at this; omega
  have hl1 : ((stq how (zl V U m) (eBest R V U C m rn vn) (eWorst R V U C m rn).toNat (eT how R V U C m rn vn)).length : Int) = m1 := by rw [← e1, zl_len]
  obtain ⟨m2, V2, U2, e2, _, h3⟩ := c61t (rn := rn) (st := st + 1) (dr := dr) (V := V1) (U := U1) (m := m1) hm1 (fun j hj => by have := Mb_at hM1 hj; omega)
  refine ⟨m2, V2, U2, mv1, Q1, pu1, be1, by rw [e2, e1], fun h => ?_⟩
  rw [hl1]
  refine E_in (lv := [_, _, _, _, _, _]) rfl ?_
  refine E_aload pf_11_0 rfl ?_
  refine E_aload pf_11_1 rfl ?_
  refine F_v2u (l' := [(_, _), (_, _), (_, _), (_, _), (_, _), (_, _), (_, _), (_, _), (_, _), (_, _), (_, _), (_, _)]) pf_11_2 (c1tx hs hP) (And.intro rfl (And.intro rfl (And.intro rfl (And.intro rfl (And.intro rfl (And.intro rfl (And.intro rfl (And.intro rfl (And.intro rfl (And.intro rfl (trivial))))))))))) rfl rfl rfl rfl ?_
  refine E_aload pf_11_5 rfl ?_
  refine F_getf pf_11_6 rfl rfl rfl ?_
  refine E_aload pf_11_9 rfl ?_
  refine F_getf pf_11_10 rfl rfl rfl ?_
  refine F_v2v0 pf_11_13 (c39s hP.2.2.2 hw (by omega)) (And.intro rfl (And.intro rfl (And.intro rfl (trivial)))) rfl rfl ?_
  rw [eb]
  refine E_istore (lv' := [_, _, _, _, _, _]) pf_11_16 rfl rfl ?_
  refine E_aload pf_11_17 rfl ?_
  refine E_aload pf_11_18 rfl ?_
  refine F_v2v0 pf_11_19 (c9t hs hP hw) (And.intro rfl (And.intro rfl (And.intro rfl (And.intro rfl (And.intro rfl (And.intro rfl (trivial))))))) rfl rfl ?_
  rw [ew]
  refine E_istore (lv' := [_, _, _, _, _, _]) pf_11_22 rfl rfl ?_
  refine hk _ _ _ ?_
  refine E_aload pf_11_66 rfl ?_
  refine E_dup pf_11_67 rfl ?_
  refine F_getf pf_11_68 rfl rfl rfl ?_
  refine E_iconst pf_11_71 ?_
  refine E_iadd pf_11_72 ?_
  refine F_putf (l' := [(_, _), (_, _), (_, _), (_, _), (_, _), (_, _), (_, _), (_, _), (_, _), (_, _), (_, _), (_, _)]) (x := ob _ [_, _, _, _, _, _, _]) pf_11_73 rfl rfl rfl rfl rfl ?_
  refine E_aload pf_11_76 rfl ?_
  refine E_dup pf_11_77 rfl ?_
  refine F_getf pf_11_78 rfl rfl rfl ?_
  refine E_aload pf_11_81 rfl ?_
  refine F_v1v (l' := [(_, _), (_, _), (_, _), (_, _), (_, _), (_, _), (_, _), (_, _), (_, _), (_, _), (_, _), (_, _)]) pf_11_82 (h3) (And.intro rfl (And.intro rfl (And.intro rfl (trivial)))) rfl rfl rfl rfl ?_
  refine E_iadd pf_11_85 ?_
  refine F_putf (l' := [(_, _), (_, _), (_, _), (_, _), (_, _), (_, _), (_, _), (_, _), (_, _), (_, _), (_, _), (_, _)]) (x := ob _ [_, _, _, _, _, _, _]) pf_11_86 rfl rfl rfl rfl rfl ?_
  refine E_iload pf_11_89 rfl ?_
  exact E_iret pf_11_91 rfl
end LIN
