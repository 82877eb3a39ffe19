/-! A state of the class and a page of the reference: the same numbers. -/
theorem zs_mul (c : Int) (f : Int → Int) (n : Nat) : zs (fun k => c * f k) n = c * zs f n := by
  induction n with
  | zero => simp [zs]
  | succ n ih => simp only [zs, ih, Int.mul_add]
theorem zs_zero (n : Nat) : zs (fun _ => 0) n = 0 := by
  induction n with
  | zero => rfl
  | succ n ih => simp only [zs, ih]; rfl
theorem zs_cut {f : Int → Int} {d : Nat} (hd : d ≤ 4) (h : ∀ j : Nat, d ≤ j → j < 4 → f j = 0) : zs f 4 = zs f d := by
  have : ∀ n : Nat, d + n ≤ 4 → zs f (d + n) = zs f d := by
    intro n
    induction n with
    | zero => intro _; rfl
    | succ n ih =>
      intro hn
      show zs f (d + n) + f ((d + n : Nat) : Int) = _
      rw [ih (by omega), h (d + n) (by omega) (by omega)]; omega
  have := this (4 - d) (by omega)
  rwa [show d + (4 - d) = 4 by omega] at this
theorem zam_cong {f g : Int → Int} {n : Nat} : (∀ e : Nat, e ≤ n → f e = g e) → zam f n = zam g n := by
  induction n with
  | zero => intro _; rfl
  | succ n ih =>
    intro h
    have h1 := ih fun e he => h e (by omega)
    have h2 := h (n + 1) (by omega)
    have hz := zam_in g n
    have h3 := h (zam g n).toNat (by omega)
    rw [Int.toNat_of_nonneg hz.1] at h3
    simp only [zam]
    rw [h1, h2, h3]
theorem zax_cong {f g : Int → Int} {n : Nat} : (∀ e : Nat, e ≤ n → f e = g e) → zax f n = zax g n := by
  induction n with
  | zero => intro _; rfl
  | succ n ih =>
    intro h
    have h1 := ih fun e he => h e (by omega)
    have h2 := h (n + 1) (by omega)
    have hz := zax_in g n
    have h3 := h (zax g n).toNat (by omega)
    rw [Int.toNat_of_nonneg hz.1] at h3
    simp only [zax]
    rw [h1, h2, h3]
theorem zam_min (f : Int → Int) (n : Nat) : ∀ e : Nat, e ≤ n → f (zam f n) ≤ f e := by
  induction n with
  | zero => intro e he; obtain rfl : e = 0 := by omega
            exact Int.le_refl _
  | succ n ih =>
    intro e he
    simp only [zam]
    by_cases q : e = n + 1
    · subst q; split
      · exact Int.le_refl _
      · omega
    · have := ih e (by omega)
      split
      · omega
      · exact this
theorem zam_fst (f : Int → Int) (n : Nat) : ∀ e : Nat, (e : Int) < zam f n → f (zam f n) < f e := by
  induction n with
  | zero => intro e he; simp only [zam] at he; omega
  | succ n ih =>
    intro e he
    simp only [zam] at he ⊢
    by_cases q : f ((n + 1 : Nat) : Int) < f (zam f n)
    · rw [if_pos q] at he ⊢
      have := zam_min f n e (by omega)
      omega
    · rw [if_neg q] at he ⊢
      exact ih e he
theorem zam_uniq {f : Int → Int} {n : Nat} {t : Int} (h0 : 0 ≤ t ∧ t ≤ n) (h1 : ∀ e : Nat, e ≤ n → f t ≤ f e) (h2 : ∀ e : Nat, (e : Int) < t → f t < f e) : zam f n = t := by
  have hz := zam_in f n
  have a := zam_min f n t.toNat (by omega)
  have b := h1 (zam f n).toNat (by omega)
  rw [Int.toNat_of_nonneg h0.1] at a
  rw [Int.toNat_of_nonneg hz.1] at b
  rcases Int.lt_trichotomy (zam f n) t with c | c | c
  · have := h2 (zam f n).toNat (by omega)
    rw [Int.toNat_of_nonneg hz.1] at this
    omega
  · exact c
  · have := zam_fst f n t.toNat (by omega)
    rw [Int.toNat_of_nonneg h0.1] at this
    omega
/-- the first least of a line by its pull and bend -/
theorem zF_exp (H W : Int → Int) (sc e : Int) (rn : Nat) : zF (fun k => sc * H k) W rn e = sc * sc * zs (fun k => H k * H k) rn + 2 * sc * e * zs (fun k => W k * H k) rn + e * e * zs (fun k => W k * W k) rn := by
  unfold zF
  induction rn with
  | zero => simp [zs]
  | succ n ih => simp only [zs, ih]; grind
theorem zs_sq0 {W : Int → Int} {n : Nat} (h : zs (fun k => W k * W k) n ≤ 0) : ∀ k : Nat, k < n → W k = 0 := by
  have nn : ∀ x : Int, 0 ≤ x * x := fun x => by
    rcases Int.le_total 0 x with g | g
    · exact Int.mul_nonneg g g
    · exact Int.mul_nonneg_of_nonpos_of_nonpos g g
  induction n with
  | zero => intro k hk; omega
  | succ n ih =>
    simp only [zs] at h
    have h1 := nn (W n)
    have h2 : 0 ≤ zs (fun k => W k * W k) n := zs_nn fun k _ => nn (W k)
    intro k hk
    by_cases e : k = n
    · subst e
      have : W k * W k = 0 := by omega
      exact (Int.mul_eq_zero.mp this).elim id id
    · exact ih (by omega) k (by omega)
theorem tmn_zam {H W : Int → Int} {sc : Int} {rn lim : Nat} (hs : 0 ≤ sc) : zam (zF (fun k => sc * H k) W rn) lim = tmn (zs (fun k => W k * H k) rn) (zs (fun k => W k * W k) rn) sc lim := by
  have hb : 0 ≤ zs (fun k => W k * W k) rn := zs_nn fun k _ => by
    rcases Int.le_total 0 (W k) with g | g
    · exact Int.mul_nonneg g g
    · exact Int.mul_nonneg_of_nonpos_of_nonpos g g
  have hexp := fun e => zF_exp H W sc e rn
  have hin := tmn_in (p := zs (fun k => W k * H k) rn) (b := zs (fun k => W k * W k) rn) (sc := sc) (lim := lim) hs (by omega)
  by_cases e0 : zs (fun k => W k * W k) rn ≤ 0
  · have hW := zs_sq0 e0
    have et : tmn (zs (fun k => W k * H k) rn) (zs (fun k => W k * W k) rn) sc lim = 0 := by unfold tmn; rw [if_pos (.inl e0)]
    rw [et]
    have hp : zs (fun k => W k * H k) rn = 0 := by
      have : zs (fun k => W k * H k) rn = zs (fun _ => 0) rn := zs_congr fun k hk => by rw [hW k hk]; simp
      rw [this, zs_zero]
    have hc : ∀ e, zF (fun k => sc * H k) W rn e = sc * sc * zs (fun k => H k * H k) rn := fun e => by
      rw [hexp, hp, show zs (fun k => W k * W k) rn = 0 by omega]; simp
    exact zam_uniq (by omega) (fun e _ => by rw [hc, hc]; exact Int.le_refl _) (fun e he => by omega)
  · generalize hP : zs (fun k => W k * H k) rn = p at *
    generalize hB : zs (fun k => W k * W k) rn = b at *
    generalize hK : sc * sc * zs (fun k => H k * H k) rn = c at *
    by_cases e1 : 0 ≤ p
    · have et : tmn p b sc lim = 0 := by unfold tmn; rw [if_pos (.inr e1)]
      rw [et]
      refine zam_uniq (by omega) (fun e _ => ?_) (fun e he => by omega)
      rw [hexp, hexp]
      have a1 : 0 ≤ 2 * sc * (e : Int) * p := Int.mul_nonneg (Int.mul_nonneg (by omega) (by omega)) e1
      have a2 : 0 ≤ (e : Int) * e * b := Int.mul_nonneg (Int.mul_nonneg (by omega) (by omega)) (by omega)
      simp only [Int.mul_zero, Int.zero_mul]
      omega
    · -- nearest whole number, a half going down
      have hN : ∃ N, (-2 * sc * p + b - 1) / (2 * b) = N ∧ 2 * b * N ≤ -2 * sc * p + b - 1 ∧ -2 * sc * p + b - 1 < 2 * b * N + 2 * b := by
        refine ⟨_, rfl, ?_, ?_⟩
        · exact Int.mul_ediv_self_le (by omega)
        · exact Int.lt_mul_ediv_self_add (by omega)
      obtain ⟨N, eN, n1, n2⟩ := hN
      have et : tmn p b sc lim = if (lim : Int) < N then (lim : Int) else N := by unfold tmn; rw [if_neg (fun q => q.elim e0 e1), eN]
      generalize tmn p b sc lim = t at *
      have hd : ∀ e : Int, zF (fun k => sc * H k) W rn e - zF (fun k => sc * H k) W rn t = (t - e) * (-2 * sc * p - b * (e + t)) := fun e => by
        rw [hexp, hexp]; grind
      have htN : t ≤ N := by rw [et]; split <;> omega
      refine zam_uniq hin (fun e he => ?_) (fun e he => ?_)
      · have h := hd e
        rcases Int.lt_trichotomy (e : Int) t with g | g | g
        · have : b * (e + t) ≤ b * (2 * N - 1) := Int.mul_le_mul_of_nonneg_left (by omega) (by omega)
          have e3 : b * (2 * N - 1) = 2 * b * N - b := by grind
          have : 0 ≤ (t - e) * (-2 * sc * p - b * (e + t)) := Int.mul_nonneg (by omega) (by omega)
          omega
        · rw [g]; exact Int.le_refl _
        · have htN2 : t = N := by rw [et]; split <;> omega
          have : b * (2 * N + 1) ≤ b * (e + t) := Int.mul_le_mul_of_nonneg_left (by omega) (by omega)
          have e3 : b * (2 * N + 1) = 2 * b * N + b := by grind
          have : 0 ≤ (t - e) * (-2 * sc * p - b * (e + t)) := Int.mul_nonneg_of_nonpos_of_nonpos (by omega) (by omega)
          omega
      · have h := hd e
        have : b * (e + t) ≤ b * (2 * N - 1) := Int.mul_le_mul_of_nonneg_left (by omega) (by omega)
        have e3 : b * (2 * N - 1) = 2 * b * N - b := by grind
        have : 0 < (t - e) * (-2 * sc * p - b * (e + t)) := Int.mul_pos (by omega) (by omega)
        omega
def cpl (R V U C r P : Int → Int) (m dn vn : Nat) : Prop := (∀ q : Int, 0 ≤ q → q < 20 → R q = r q) ∧ (∀ i : Nat, i < m → V i = r (20 + i) ∧ U i = r (44 + i)) ∧ (∀ v j : Int, 0 ≤ v → v < vn → 0 ≤ j → j < 4 → C (v * 4 + j) = P (4 * v + j)) ∧ ∀ v j : Int, 0 ≤ v → v < vn → dn ≤ j → j < 4 → P (4 * v + j) = 0
section CPL
variable {R V U C r P : Int → Int} {m dn rn vn : Nat}
theorem cpl_R (h : cpl R V U C r P m dn vn) {k j : Int} (hk : 0 ≤ k ∧ k < 4) (hj : 0 ≤ j ∧ j ≤ 4) : R (k * 5 + j) = r (5 * k + j) := by
  rw [h.1 (k * 5 + j) (by omega) (by omega)]; congr 1; omega
theorem cpl_X (h : cpl R V U C r P m dn vn) (hs : sok vn R V U m) {j : Int} (hj : 0 ≤ j ∧ j < 4) : yX V U C m j = zX r P m j := zs_congr fun i hi => by
  have h1 := h.2.1 i hi
  have h2 := hs.2.1 i (by omega) (by omega)
  rw [h.2.2.1 (V i) j h2.1 h2.2.1 hj.1 hj.2, h1.1, h1.2]
theorem cpl_X0 (h : cpl R V U C r P m dn vn) (hs : sok vn R V U m) {j : Int} (hj : dn ≤ j ∧ j < 4) : zX r P m j = 0 := by
  have : zX r P m j = zs (fun _ => 0) m := zs_congr fun i hi => by
    have h1 := h.2.1 i hi
    have h2 := hs.2.1 i (by omega) (by omega)
    rw [← h1.1, h.2.2.2 (V i) j h2.1 h2.2.1 hj.1 hj.2]; simp
  rw [this, zs_zero]
theorem cpl_TX (h : cpl R V U C r P m dn vn) (hs : sok vn R V U m) (hP : ppk C dn vn rn) {k : Int} (hk : 0 ≤ k ∧ k < 4) : yT R (yX V U C m) k = zs (fun j => r (5 * k + j) * zX r P m j) dn := by
  have e : yT R (yX V U C m) k = zs (fun j => r (5 * k + j) * zX r P m j) 4 := zs_congr fun j hj => by
    rw [cpl_R h hk (by omega), cpl_X h hs (by omega)]
  rw [e]
  exact zs_cut hP.1.2 fun j h1 h2 => by rw [cpl_X0 h hs (by omega)]; simp
theorem cpl_Rs (h : cpl R V U C r P m dn vn) (hs : sok vn R V U m) (hP : ppk C dn vn rn) {k : Int} (hk : 0 ≤ k ∧ k < 4) : eR R V U C m k = zR r P m dn k := by
  show yT R (yX V U C m) k - 100 * R (k * 5 + 4) = _
  rw [cpl_TX h hs hP hk, cpl_R h hk (by omega)]
  unfold zR; omega
theorem cpl_S (h : cpl R V U C r P m dn vn) (hs : sok vn R V U m) (hP : ppk C dn vn rn) {j : Int} (hj : 0 ≤ j ∧ j < 4) : eS R V U C m rn j = zSl r P m dn rn j := by
  have hrn := hP.2.2.1
  show 2 * zs (fun k => eR R V U C m k * R (k * 5 + j)) rn = _
  rw [← zs_mul]
  exact zs_congr fun k hk => by
    rw [cpl_Rs h hs hP (by omega), cpl_R h (by omega) (by omega), Int.mul_assoc]
theorem cpl_D (h : cpl R V U C r P m dn vn) (hP : ppk C dn vn rn) {f : Int → Int} {v : Int} (hv : 0 ≤ v ∧ v < vn) : yD C f v = zs (fun j => P (4 * v + j) * f j) dn := by
  have e : yD C f v = zs (fun j => P (4 * v + j) * f j) 4 := zs_congr fun j hj => by
    rw [h.2.2.1 v j hv.1 hv.2 (by omega) (by omega)]
  rw [e]
  exact zs_cut hP.1.2 fun j h1 h2 => by rw [h.2.2.2 v j hv.1 hv.2 (by omega) (by omega)]; simp
theorem cpl_V (h : cpl R V U C r P m dn vn) (hs : sok vn R V U m) (hP : ppk C dn vn rn) {v : Int} (hv : 0 ≤ v ∧ v < vn) : eV R V U C m rn v = zSv r P m dn rn v := by
  have hd := hP.1
  unfold eV
  rw [cpl_D h hP hv]
  exact zs_congr fun j hj => by rw [cpl_S h hs hP (by omega)]
theorem cpl_Best (h : cpl R V U C r P m dn vn) (hs : sok vn R V U m) (hP : ppk C dn vn rn) : eBest R V U C m rn vn = zBest r P m dn rn vn := by
  have := hP.2.1
  exact zam_cong fun e he => cpl_V h hs hP (by omega)
theorem cpl_Worst (h : cpl R V U C r P m dn vn) (hs : sok vn R V U m) (hP : ppk C dn vn rn) : eWorst R V U C m rn = zWorst r P m dn rn := by
  have hm := hs.1
  exact zax_cong fun e he => by
    have h1 := hs.2.1 e (by omega) (by omega)
    show eV R V U C m rn (V e) = zSv r P m dn rn (r (20 + e))
    rw [cpl_V h hs hP ⟨h1.1, h1.2.1⟩, (h.2.1 e (by omega)).1]
theorem cpl_Val (h : cpl R V U C r P m dn vn) (hs : sok vn R V U m) (hP : ppk C dn vn rn) : eVal R V U C m rn = zV r P m dn rn := by
  have hrn := hP.2.2.1
  exact zs_congr fun k hk => by rw [cpl_Rs h hs hP (by omega)]
theorem cpl_Gap (h : cpl R V U C r P m dn vn) (hs : sok vn R V U m) (hP : ppk C dn vn rn) : eGap R V U C m rn vn = zGap r P m dn rn vn := by
  have hb := eBest_in (R := R) (V := V) (U := U) (m := m) hP
  unfold eGap zGap
  rw [cpl_V h hs hP hb, cpl_Best h hs hP]
  have e : zs (fun j => yX V U C m j * eS R V U C m rn j) 4 = zs (fun j => zX r P m j * zSl r P m dn rn j) 4 := zs_congr fun j hj => by
    rw [cpl_X h hs (by omega), cpl_S h hs hP (by omega)]
  rw [e, zs_cut hP.1.2 fun j h1 h2 => by rw [cpl_X0 h hs (by omega)]; simp]
  omega
theorem yT_lin (R f g : Int → Int) (a b : Int) (k : Int) : yT R (fun j => a * f j + b * g j) k = a * yT R f k + b * yT R g k := by
  unfold yT
  rw [← zs_mul, ← zs_mul, ← zs_add]
  exact zs_congr fun j _ => by grind
theorem cpl_TC (h : cpl R V U C r P m dn vn) (hP : ppk C dn vn rn) {k v : Int} (hk : 0 ≤ k ∧ k < 4) (hv : 0 ≤ v ∧ v < vn) : yT R (fun j => C (v * 4 + j)) k = zA r P dn k v + r (5 * k + 4) := by
  have e : yT R (fun j => C (v * 4 + j)) k = zs (fun j => r (5 * k + j) * P (4 * v + j)) 4 := zs_congr fun j hj => by
    show R (k * 5 + j) * C (v * 4 + j) = _
    rw [cpl_R h hk (by omega), h.2.2.1 v j hv.1 hv.2 (by omega) (by omega)]
  rw [e, zs_cut hP.1.2 fun j h1 h2 => by rw [h.2.2.2 v j hv.1 hv.2 (by omega) (by omega)]; simp]
  unfold zA; omega
theorem cpl_TX2 (h : cpl R V U C r P m dn vn) (hs : sok vn R V U m) (hP : ppk C dn vn rn) {k : Int} (hk : 0 ≤ k ∧ k < 4) : yT R (yX V U C m) k = zR r P m dn k + 100 * r (5 * k + 4) := by
  rw [cpl_TX h hs hP hk]; unfold zR; omega
theorem cpl_mT (h : cpl R V U C r P m dn vn) (hs : sok vn R V U m) (hP : ppk C dn vn rn) {k v : Int} (hk : 0 ≤ k ∧ k < 4) (hv : 0 ≤ v ∧ v < vn) : yT R (mvT C (yX V U C m) v) k = 100 * zA r P dn k v - zR r P m dn k := by
  have e : yT R (mvT C (yX V U C m) v) k = yT R (fun j => 100 * C (v * 4 + j) + (-1) * yX V U C m j) k := yT_congr (fun j _ => by unfold mvT; omega) k
  rw [e, yT_lin R (fun j => C (v * 4 + j)), cpl_TC h hP hk hv, cpl_TX2 h hs hP hk]; omega
theorem cpl_mA (h : cpl R V U C r P m dn vn) (hs : sok vn R V U m) (hP : ppk C dn vn rn) {k v : Int} (hk : 0 ≤ k ∧ k < 4) (hv : 0 ≤ v ∧ v < vn) : yT R (mvA C (yX V U C m) v) k = zR r P m dn k - 100 * zA r P dn k v := by
  have e : yT R (mvA C (yX V U C m) v) k = yT R (fun j => (-100) * C (v * 4 + j) + 1 * yX V U C m j) k := yT_congr (fun j _ => by unfold mvA; omega) k
  rw [e, yT_lin R (fun j => C (v * 4 + j)), cpl_TC h hP hk hv, cpl_TX2 h hs hP hk]; omega
theorem cpl_mP (h : cpl R V U C r P m dn vn) (hP : ppk C dn vn rn) {k a v sc : Int} (hk : 0 ≤ k ∧ k < 4) (ha : 0 ≤ a ∧ a < vn) (hv : 0 ≤ v ∧ v < vn) : yT R (mvP C sc a v) k = sc * (zA r P dn k v - zA r P dn k a) := by
  have e : yT R (mvP C sc a v) k = yT R (fun j => sc * C (v * 4 + j) + (-sc) * C (a * 4 + j)) k := yT_congr (fun j _ => by unfold mvP; grind) k
  rw [e, yT_lin R (fun j => C (v * 4 + j)) (fun j => C (a * 4 + j)), cpl_TC h hP hk hv, cpl_TC h hP hk ha]; grind
/-- both sides move the same number of units -/
theorem cpl_T (h : cpl R V U C r P m dn vn) (hs : sok vn R V U m) (hP : ppk C dn vn rn) {how : Int} (hh : how = 0 ∨ how = 1 ∨ how = 2) : eT how R V U C m rn vn = zT how r P m dn rn vn := by
  have hrn := hP.2.2.1
  have hb := eBest_in (R := R) (V := V) (U := U) (m := m) hP
  have hw := eWorst_in (C := C) (rn := rn) hs
  have hv := hs.2.1 _ hw.1 hw.2
  have hc := h.2.1 (eWorst R V U C m rn).toNat (by omega)
  rw [Int.toNat_of_nonneg hw.1] at hc
  unfold eT zT
  rw [← cpl_Best h hs hP, ← cpl_Worst h hs hP]
  generalize eBest R V U C m rn vn = b at *
  generalize eWorst R V U C m rn = wi at *
  have hR : ∀ k : Nat, k < rn → eR R V U C m k = zR r P m dn k := fun k hk => cpl_Rs h hs hP (by omega)
  rcases hh with rfl | rfl | rfl
  · rw [if_pos rfl, if_pos rfl]
    have e1 : yP R (mvT C (yX V U C m) b) (eR R V U C m) rn = zs (fun k => zW 0 r P m dn b wi k * zR r P m dn k) rn := zs_congr fun k hk => by
      rw [hR k hk, cpl_mT h hs hP (by omega) hb]; unfold zW; rw [if_pos rfl]
    have e2 : yB R (mvT C (yX V U C m) b) rn = zs (fun k => zW 0 r P m dn b wi k * zW 0 r P m dn b wi k) rn := zs_congr fun k hk => by
      rw [cpl_mT h hs hP (by omega) hb]; unfold zW; rw [if_pos rfl]
    have e3 : zB 0 r P m dn wi = fun k => 100 * zR r P m dn k := by funext k; unfold zB; rw [if_pos rfl]
    rw [e1, e2, e3, tmn_zam (by omega)]; rfl
  · rw [if_neg (by omega), if_pos rfl, if_neg (by omega)]
    have e1 : yP R (mvA C (yX V U C m) (V wi)) (eR R V U C m) rn = zs (fun k => zW 1 r P m dn b wi k * zR r P m dn k) rn := zs_congr fun k hk => by
      rw [hR k hk, cpl_mA h hs hP (by omega) ⟨hv.1, hv.2.1⟩, hc.1]; unfold zW; rw [if_neg (by omega), if_pos rfl]
    have e2 : yB R (mvA C (yX V U C m) (V wi)) rn = zs (fun k => zW 1 r P m dn b wi k * zW 1 r P m dn b wi k) rn := zs_congr fun k hk => by
      rw [cpl_mA h hs hP (by omega) ⟨hv.1, hv.2.1⟩, hc.1]; unfold zW; rw [if_neg (by omega), if_pos rfl]
    have e3 : zB 1 r P m dn wi = fun k => (100 - r (44 + wi)) * zR r P m dn k := by funext k; unfold zB; rw [if_neg (by omega), if_pos rfl]
    rw [e1, e2, e3, tmn_zam (by omega), hc.2, Int.toNat_of_nonneg (by omega)]
  · rw [if_neg (by omega), if_neg (by omega), if_neg (by omega)]
    have e1 : yP R (mvP C 1 (V wi) b) (eR R V U C m) rn = zs (fun k => zW 2 r P m dn b wi k * zR r P m dn k) rn := zs_congr fun k hk => by
      rw [hR k hk, cpl_mP h hP (by omega) ⟨hv.1, hv.2.1⟩ hb, hc.1]; unfold zW; rw [if_neg (by omega), if_neg (by omega), Int.one_mul]
    have e2 : yB R (mvP C 1 (V wi) b) rn = zs (fun k => zW 2 r P m dn b wi k * zW 2 r P m dn b wi k) rn := zs_congr fun k hk => by
      rw [cpl_mP h hP (by omega) ⟨hv.1, hv.2.1⟩ hb, hc.1]; unfold zW; rw [if_neg (by omega), if_neg (by omega), Int.one_mul]
    have e3 : zB 2 r P m dn wi = fun k => 1 * zR r P m dn k := by funext k; unfold zB; rw [if_neg (by omega), if_neg (by omega), Int.one_mul]
    rw [e1, e2, e3, tmn_zam (by omega), hc.2, Int.toNat_of_nonneg (by omega)]
end CPL

