/-! The reference's readings of a page. -/
def zb (p : Prop) [Decidable p] : Int := if p then 1 else 0
theorem zb_t {p : Prop} [Decidable p] (h : p) : zb p = 1 := by simp [zb, h]
theorem zb_f {p : Prop} [Decidable p] (h : ¬ p) : zb p = 0 := by simp [zb, h]
theorem zb_in (p : Prop) [Decidable p] : 0 ≤ zb p ∧ zb p ≤ 1 := by unfold zb; split <;> omega
theorem E_zret {mi pc np : Nat} {lv : List Value} {h : pd_H} {p : Prop} [Decidable p] (f : pd_fetch mi pc = some (.ireturn, np)) (hr : pd_r mi = some .boolean) : Rn mi pc lv [.int (ii (zb p))] h (.inl (some (.int (ii (zb p)))), h) := by
  refine E_iret f ?_
  unfold pd_nar
  rw [hr]
  by_cases q : p
  · rw [zb_t q]; decide
  · rw [zb_f q]; decide
abbrev oX6 (rf ts sp d k vs rw rd rk rv rr ac : Int) : pd_E := ob 6 [.int (ii rf), .ref 103, .int (ii ts), .int (ii sp), .int (ii d), .int (ii k), .int (ii vs), .int (ii rw), .ref 104, .int (ii rd), .int (ii rk), .int (ii rv), .int (ii rr), .ref 105, .ref 106, .ref 107, .ref 108, .ref 109, .int (ii ac), .ref 110, .ref 111, .ref 112, .ref 113, .ref 114, .ref 115]
/-- a page: m atoms with their units, rows -/
def pgk (vs : Int) (r : Int → Int) (m : Nat) : Prop := r 68 = m ∧ (1 ≤ m ∧ m ≤ 24) ∧ (∀ i : Int, 0 ≤ i → i < m → 0 ≤ r (20 + i) ∧ r (20 + i) < vs ∧ 0 ≤ r (44 + i) ∧ r (44 + i) ≤ 100) ∧ (∀ k j : Int, 0 ≤ k → k < 4 → 0 ≤ j → j < 4 → -9 ≤ r (5 * k + j) ∧ r (5 * k + j) ≤ 9) ∧ ∀ k : Int, 0 ≤ k → k < 4 → -99 ≤ r (5 * k + 4) ∧ r (5 * k + 4) ≤ 99
/-- a polytope: d coordinates, n vertices -/
def ppk (P : Int → Int) (d vs rw : Nat) : Prop := (1 ≤ d ∧ d ≤ 4) ∧ (1 ≤ vs ∧ vs ≤ 24) ∧ (1 ≤ rw ∧ rw ≤ 4) ∧ ∀ k : Int, -9 ≤ P k ∧ P k ≤ 9
def zX (r P : Int → Int) (m : Nat) (j : Int) : Int := zs (fun i => r (44 + i) * P (4 * r (20 + i) + j)) m
def zR (r P : Int → Int) (m d : Nat) (k : Int) : Int := -100 * r (5 * k + 4) + zs (fun j => r (5 * k + j) * zX r P m j) d
def zA (r P : Int → Int) (d : Nat) (k v : Int) : Int := - r (5 * k + 4) + zs (fun j => r (5 * k + j) * P (4 * v + j)) d
def zV (r P : Int → Int) (m d rw : Nat) : Int := zs (fun k => zR r P m d k * zR r P m d k) rw
def zSl (r P : Int → Int) (m d rw : Nat) (j : Int) : Int := zs (fun k => 2 * zR r P m d k * r (5 * k + j)) rw
def zSv (r P : Int → Int) (m d rw : Nat) (v : Int) : Int := zs (fun j => P (4 * v + j) * zSl r P m d rw j) d
/-- the first place of the smallest, of 0 .. n -/
def zam (f : Int → Int) : Nat → Int
  | 0 => 0
  | n + 1 => if f ((n + 1 : Nat) : Int) < f (zam f n) then ((n + 1 : Nat) : Int) else zam f n
/-- the first place of the greatest, of 0 .. n -/
def zax (f : Int → Int) : Nat → Int
  | 0 => 0
  | n + 1 => if f (zax f n) < f ((n + 1 : Nat) : Int) then ((n + 1 : Nat) : Int) else zax f n
theorem zam_in (f : Int → Int) (n : Nat) : 0 ≤ zam f n ∧ zam f n ≤ n := by
  induction n with
  | zero => simp [zam]
  | succ n ih => simp only [zam]; split <;> omega
theorem zax_in (f : Int → Int) (n : Nat) : 0 ≤ zax f n ∧ zax f n ≤ n := by
  induction n with
  | zero => simp [zax]
  | succ n ih => simp only [zax]; split <;> omega
def zBest (r P : Int → Int) (m d rw vs : Nat) : Int := zam (zSv r P m d rw) (vs - 1)
def zWorst (r P : Int → Int) (m d rw : Nat) : Int := zax (fun i => zSv r P m d rw (r (20 + i))) (m - 1)
def zGap (r P : Int → Int) (m d rw vs : Nat) : Int := -100 * zSv r P m d rw (zBest r P m d rw vs) + zs (fun j => zX r P m j * zSl r P m d rw j) d
-- bounds
theorem zs_le {f : Int → Int} {n : Nat} {B : Int} (h : ∀ k : Nat, k < n → -B ≤ f k ∧ f k ≤ B) : -(n * B) ≤ zs f n ∧ zs f n ≤ n * B := by
  induction n with
  | zero => simp [zs]
  | succ n ih =>
    have h1 := ih (fun k hk => h k (by omega))
    have h2 := h n (by omega)
    simp only [zs]
    have e : ((n + 1 : Nat) : Int) * B = n * B + B := by rw [Int.natCast_add, Int.add_mul]; simp
    rw [e]
    omega
theorem mul_le {a b A B : Int} (ha : -A ≤ a ∧ a ≤ A) (hb : -B ≤ b ∧ b ≤ B) : -(A * B) ≤ a * b ∧ a * b ≤ A * B := by
  have h1 : 0 ≤ A := by omega
  have h2 : 0 ≤ B := by omega
  have k : ∀ x y : Int, 0 ≤ x → x ≤ A → 0 ≤ y → y ≤ B → x * y ≤ A * B := fun x y hx hxA hy hyB => Int.mul_le_mul hxA hyB hy h1
  rcases Int.le_total 0 a with pa | pa <;> rcases Int.le_total 0 b with pb | pb
  · have := k a b pa ha.2 pb hb.2; have := Int.mul_nonneg pa pb; omega
  · have q := k a (-b) pa ha.2 (by omega) (by omega); rw [Int.mul_neg] at q; have q2 := Int.mul_nonneg pa (show 0 ≤ -b by omega); rw [Int.mul_neg] at q2; omega
  · have q := k (-a) b (by omega) (by omega) pb hb.2; rw [Int.neg_mul] at q; have q2 := Int.mul_nonneg (show 0 ≤ -a by omega) pb; rw [Int.neg_mul] at q2; omega
  · have q := k (-a) (-b) (by omega) (by omega) (by omega) (by omega); rw [Int.neg_mul_neg] at q; have q2 := Int.mul_nonneg (show 0 ≤ -a by omega) (show 0 ≤ -b by omega); rw [Int.neg_mul_neg] at q2; omega
section MOD1
variable {rf ts sp d k vs rw rd rk rv rr ac : Int} {r P : Int → Int} {m dn rn vn : Nat}
theorem zX_le (hp : pgk vs r m) (hP : ∀ k, -9 ≤ P k ∧ P k ≤ 9) (j : Int) : -21600 ≤ zX r P m j ∧ zX r P m j ≤ 21600 := by
  have h1 : -((m : Int) * (100 * 9)) ≤ zX r P m j ∧ zX r P m j ≤ m * (100 * 9) := zs_le fun i hi => by
    have h2 := hp.2.2.1 i (by omega) (by omega)
    exact mul_le (by omega) (hP _)
  have := hp.2.1
  omega
theorem zR_le (hp : pgk vs r m) (hP : ppk P dn vn rn) {k : Int} (hk : 0 ≤ k ∧ k < 4) : -787500 ≤ zR r P m dn k ∧ zR r P m dn k ≤ 787500 := by
  have h1 : -((dn : Int) * (9 * 21600)) ≤ zs (fun j => r (5 * k + j) * zX r P m j) dn ∧ zs (fun j => r (5 * k + j) * zX r P m j) dn ≤ dn * (9 * 21600) := zs_le fun j hj => by
    have hd := hP.1
    exact mul_le (hp.2.2.2.1 k j hk.1 hk.2 (by omega) (by omega)) (zX_le hp hP.2.2.2 _)
  have h2 := hp.2.2.2.2 k hk.1 hk.2
  have hd := hP.1
  unfold zR
  omega
theorem zSl_le (hp : pgk vs r m) (hP : ppk P dn vn rn) {j : Int} (hj : 0 ≤ j ∧ j < 4) : -56700000 ≤ zSl r P m dn rn j ∧ zSl r P m dn rn j ≤ 56700000 := by
  have h1 : -((rn : Int) * (1575000 * 9)) ≤ zSl r P m dn rn j ∧ zSl r P m dn rn j ≤ rn * (1575000 * 9) := zs_le fun k hk => by
    have hd := hP.2.2.1
    have h2 := zR_le hp hP (k := k) (by omega)
    exact mul_le (by omega) (hp.2.2.2.1 k j (by omega) (by omega) hj.1 hj.2)
  have hd := hP.2.2.1
  omega
theorem zSv_le (hp : pgk vs r m) (hP : ppk P dn vn rn) (v : Int) : -2041200000 ≤ zSv r P m dn rn v ∧ zSv r P m dn rn v ≤ 2041200000 := by
  have h1 : -((dn : Int) * (9 * 56700000)) ≤ zSv r P m dn rn v ∧ zSv r P m dn rn v ≤ dn * (9 * 56700000) := zs_le fun j hj => by
    have hd := hP.1
    exact mul_le (hP.2.2.2 _) (zSl_le hp hP (by omega))
  have hd := hP.1
  omega
theorem zA_le (hp : pgk vs r m) (hP : ppk P dn vn rn) {k : Int} (hk : 0 ≤ k ∧ k < 4) (v : Int) : -423 ≤ zA r P dn k v ∧ zA r P dn k v ≤ 423 := by
  have h1 : -((dn : Int) * (9 * 9)) ≤ zs (fun j => r (5 * k + j) * P (4 * v + j)) dn ∧ zs (fun j => r (5 * k + j) * P (4 * v + j)) dn ≤ dn * (9 * 9) := zs_le fun j hj => by
    have hd := hP.1
    exact mul_le (hp.2.2.2.1 k j hk.1 hk.2 (by omega) (by omega)) (hP.2.2.2 _)
  have h2 := hp.2.2.2.2 k hk.1 hk.2
  have hd := hP.1
  unfold zA
  omega
/-- thrown() -/
theorem c107 : ∀ h, Ca 107 [.ref 102] (wd [(102, oX6 rf ts sp d k vs rw rd rk rv rr ac)] h) (.inl (some (.int (ii rf))), wd [(102, oX6 rf ts sp d k vs rw rd rk rv rr ac)] h) := by
  intro h
  refine E_in (lv := [_]) rfl ?_
  refine E_aload pf_107_0 rfl ?_
  refine F_getf pf_107_1 rfl rfl rfl ?_
  exact E_iret pf_107_4 rfl
theorem c109 {v lo hi : Int} (e : (-9223372036854775808 ≤ v ∧ v ≤ 9223372036854775807) ∧ (-9223372036854775808 ≤ lo ∧ lo ≤ 9223372036854775807) ∧ (-9223372036854775808 ≤ hi ∧ hi ≤ 9223372036854775807)) : ∀ h, Ca 109 [.long (ll v), .long (ll lo), .long (ll hi)] (wd [] h) (.inl (some (.int (ii (zb (lo ≤ v ∧ v ≤ hi))))), wd [] h) := by
  intro h
  refine E_in (lv := [_, _, _, _, _, _]) rfl ?_
  by_cases h1 : lo ≤ v
  · by_cases h2 : v ≤ hi
    · rw [zb_t ⟨h1, h2⟩]
      refine E_lload pf_109_0 rfl ?_
      refine E_lload pf_109_1 rfl ?_
      refine E_lcmp_lt_f pf_109_2 pf_109_3 (by omega) ?_
      refine E_lload pf_109_6 rfl ?_
      refine E_lload pf_109_7 rfl ?_
      refine E_lcmp_gt_f pf_109_9 pf_109_10 (by omega) ?_
      refine E_iconst pf_109_13 ?_
      refine E_goto pf_109_14 ?_
      exact E_iret pf_109_18 rfl
    · rw [zb_f (fun q => h2 q.2)]
      refine E_lload pf_109_0 rfl ?_
      refine E_lload pf_109_1 rfl ?_
      refine E_lcmp_lt_f pf_109_2 pf_109_3 (by omega) ?_
      refine E_lload pf_109_6 rfl ?_
      refine E_lload pf_109_7 rfl ?_
      refine E_lcmp_gt_t pf_109_9 pf_109_10 (by omega) ?_
      refine E_iconst pf_109_17 ?_
      exact E_iret pf_109_18 rfl
  · rw [zb_f (fun q => h1 q.1)]
    refine E_lload pf_109_0 rfl ?_
    refine E_lload pf_109_1 rfl ?_
    refine E_lcmp_lt_t pf_109_2 pf_109_3 (by omega) ?_
    refine E_iconst pf_109_17 ?_
    exact E_iret pf_109_18 rfl
theorem c108 {q : Int} (hq : 0 ≤ q ∧ q ≤ 10) : ∀ h, Ca 108 [.ref 102, .int (ii q)] (wd [(102, oX6 rf ts sp d k vs rw rd rk rv rr ac)] h) (.inl (some (.int (ii (zb (0 < q))))), wd [(102, oX6 q ts sp d k vs rw rd rk rv rr ac)] h) := by
  intro h
  refine E_in (lv := [_, _]) rfl ?_
  by_cases h1 : 0 < q
  · rw [zb_t h1]
    refine E_aload pf_108_0 rfl ?_
    refine E_iload pf_108_1 rfl ?_
    refine F_putf (l' := [(_, _)]) (x := ob _ [_, _, _, _, _, _, _, _, _, _, _, _, _, _, _, _, _, _, _, _, _, _, _, _, _]) pf_108_2 rfl rfl rfl rfl rfl ?_
    refine E_iload pf_108_5 rfl ?_
    refine E_if_le_f pf_108_6 (by omega) ?_
    refine E_iconst pf_108_9 ?_
    refine E_goto pf_108_10 ?_
    exact E_iret pf_108_14 rfl
  · rw [zb_f h1]
    refine E_aload pf_108_0 rfl ?_
    refine E_iload pf_108_1 rfl ?_
    refine F_putf (l' := [(_, _)]) (x := ob _ [_, _, _, _, _, _, _, _, _, _, _, _, _, _, _, _, _, _, _, _, _, _, _, _, _]) pf_108_2 rfl rfl rfl rfl rfl ?_
    refine E_iload pf_108_5 rfl ?_
    refine E_if_le_t pf_108_6 (by omega) ?_
    refine E_iconst pf_108_13 ?_
    exact E_iret pf_108_14 rfl
theorem c111 {v : Int} (hv : -2147483648 ≤ v ∧ v ≤ 2147483647) (hvs : 0 ≤ vs ∧ vs ≤ 100) : ∀ h, Ca 111 [.ref 102, .int (ii v)] (wd [(102, oX6 rf ts sp d k vs rw rd rk rv rr ac)] h) (.inl (some (.int (ii (zb (0 ≤ v ∧ v ≤ vs - 1))))), wd [(102, oX6 rf ts sp d k vs rw rd rk rv rr ac)] h) := by
  intro h
  refine E_in (lv := [_, _]) rfl ?_
  refine E_iload pf_111_0 rfl ?_
  refine E_i2l pf_111_1 (by omega) ?_
  refine E_lconst pf_111_2 ?_
  refine E_aload pf_111_3 rfl ?_
  refine F_getf pf_111_4 rfl rfl rfl ?_
  refine E_iconst pf_111_7 ?_
  refine E_isub pf_111_8 ?_
  refine E_i2l pf_111_9 (by omega) ?_
  refine F_c3v0 pf_111_10 (c109 (by omega)) (trivial) rfl ?_
  exact E_zret pf_111_13 rfl
theorem c112n {j : Int} (hp : pgk vs r m) (hvs : vs ≤ 24) (hj : 0 ≤ j ∧ j < 4) : ∀ h, Ca 112 [.ref 102, .ref 107, .int (ii j)] (wd [(102, oX6 rf ts sp d k vs rw rd rk rv rr ac), (104, ar 128 P), (107, ar 72 r)] h) (.inl (some (.int (ii (zX r P m j)))), wd [(102, oX6 rf ts sp d k vs rw rd rk rv rr ac), (104, ar 128 P), (107, ar 72 r)] h) := by
  intro h
  refine E_in (lv := [_, _, _, _, _]) rfl ?_
  obtain ⟨h68, hm, hat, -, -⟩ := hp
  have loop : ∀ (n i : Nat), i + n = m → Rn 112 5 [.ref 102, .ref 107, .int (ii j), .int (ii (zX r P i j)), .int (ii (i : Int))] [] (wd [(102, oX6 rf ts sp d k vs rw rd rk rv rr ac), (104, ar 128 P), (107, ar 72 r)] h) (.inl (some (.int (ii (zX r P m j)))), wd [(102, oX6 rf ts sp d k vs rw rd rk rv rr ac), (104, ar 128 P), (107, ar 72 r)] h) := by
    intro n
    induction n with
    | zero =>
      intro i hi
      obtain rfl : i = m := by omega
      refine E_iload pf_112_5 rfl ?_
      refine E_aload pf_112_7 rfl ?_
      refine E_iconst pf_112_8 ?_
      refine F_iald pf_112_10 rfl (by omega) ?_
      refine E_icmp_ge_t pf_112_11 (by omega) ?_
      refine E_iload pf_112_47 rfl ?_
      exact E_iret pf_112_48 rfl
    | succ n ih =>
      intro i hi
      have hq := hat i (by omega) (by omega)
      refine E_iload pf_112_5 rfl ?_
      refine E_aload pf_112_7 rfl ?_
      refine E_iconst pf_112_8 ?_
      refine F_iald pf_112_10 rfl (by omega) ?_
      refine E_icmp_ge_f pf_112_11 (by omega) ?_
      refine E_iload pf_112_14 rfl ?_
      refine E_aload pf_112_15 rfl ?_
      refine E_iconst pf_112_16 ?_
      refine E_iload pf_112_18 rfl ?_
      refine E_iadd pf_112_20 ?_
      refine F_iald pf_112_21 rfl (by omega) ?_
      refine E_aload pf_112_22 rfl ?_
      refine F_getf pf_112_23 rfl rfl rfl ?_
      refine E_iconst pf_112_26 ?_
      refine E_aload pf_112_27 rfl ?_
      refine E_iconst pf_112_28 ?_
      refine E_iload pf_112_30 rfl ?_
      refine E_iadd pf_112_32 ?_
      refine F_iald pf_112_33 rfl (by omega) ?_
      refine E_imul pf_112_34 ?_
      refine E_iload pf_112_35 rfl ?_
      refine E_iadd pf_112_36 ?_
      refine F_iald pf_112_37 rfl (by omega) ?_
      refine E_imul pf_112_38 ?_
      refine E_iadd pf_112_39 ?_
      refine E_istore (lv' := [_, _, _, _, _]) pf_112_40 rfl rfl ?_
      refine E_iinc (lv' := [_, _, _, _, _]) pf_112_41 rfl rfl ?_
      refine E_goto pf_112_44 ?_
      exact ih (i + 1) (by omega)
  refine E_iconst pf_112_0 ?_
  refine E_istore (lv' := [_, _, _, _, _]) pf_112_1 rfl rfl ?_
  refine E_iconst pf_112_2 ?_
  refine E_istore (lv' := [_, _, _, _, _]) pf_112_3 rfl rfl ?_
  exact loop m 0 (by omega)
theorem c113n {q : Int} (hp : pgk vs r m) (hP : ppk P dn vn rn) (hd : d = dn) (hvs : vs ≤ 24) (hq : 0 ≤ q ∧ q < 4) : ∀ h, Ca 113 [.ref 102, .ref 107, .int (ii q)] (wd [(102, oX6 rf ts sp d k vs rw rd rk rv rr ac), (104, ar 128 P), (107, ar 72 r)] h) (.inl (some (.int (ii (zR r P m dn q)))), wd [(102, oX6 rf ts sp d k vs rw rd rk rv rr ac), (104, ar 128 P), (107, ar 72 r)] h) := by
  intro h
  subst hd
  refine E_in (lv := [_, _, _, _, _]) rfl ?_
  have hdn := hP.1
  have loop : ∀ (n i : Nat), i + n = dn → Rn 113 14 [.ref 102, .ref 107, .int (ii q), .int (ii (zR r P m i q)), .int (ii (i : Int))] [] (wd [(102, oX6 rf ts sp (dn : Int) k vs rw rd rk rv rr ac), (104, ar 128 P), (107, ar 72 r)] h) (.inl (some (.int (ii (zR r P m dn q)))), wd [(102, oX6 rf ts sp (dn : Int) k vs rw rd rk rv rr ac), (104, ar 128 P), (107, ar 72 r)] h) := by
    intro n
    induction n with
    | zero =>
      intro i hi
      obtain rfl : i = dn := by omega
      refine E_iload pf_113_14 rfl ?_
      refine E_aload pf_113_16 rfl ?_
      refine F_getf pf_113_17 rfl rfl rfl ?_
      refine E_icmp_ge_t pf_113_20 (by omega) ?_
      refine E_iload pf_113_48 rfl ?_
      exact E_iret pf_113_49 rfl
    | succ n ih =>
      intro i hi
      have ih := ih (i + 1) (by omega)
      have e1 : zR r P m (i + 1) q = zR r P m i q + r (5 * q + i) * zX r P m i := by unfold zR; simp only [zs]; omega
      rw [e1] at ih
      refine E_iload pf_113_14 rfl ?_
      refine E_aload pf_113_16 rfl ?_
      refine F_getf pf_113_17 rfl rfl rfl ?_
      refine E_icmp_ge_f pf_113_20 (by omega) ?_
      refine E_iload pf_113_23 rfl ?_
      refine E_aload pf_113_24 rfl ?_
      refine E_iconst pf_113_25 ?_
      refine E_iload pf_113_26 rfl ?_
      refine E_imul pf_113_27 ?_
      refine E_iload pf_113_28 rfl ?_
      refine E_iadd pf_113_30 ?_
      refine F_iald pf_113_31 rfl (by omega) ?_
      refine E_aload pf_113_32 rfl ?_
      refine E_aload pf_113_33 rfl ?_
      refine E_iload pf_113_34 rfl ?_
      refine F_v3v0 pf_113_36 (c112n hp hvs (by omega)) (And.intro rfl (And.intro rfl (And.intro rfl (trivial)))) rfl rfl ?_
      refine E_imul pf_113_39 ?_
      refine E_iadd pf_113_40 ?_
      refine E_istore (lv' := [_, _, _, _, _]) pf_113_41 rfl rfl ?_
      refine E_iinc (lv' := [_, _, _, _, _]) pf_113_42 rfl rfl ?_
      refine E_goto pf_113_45 ?_
      exact ih
  refine E_iconst pf_113_0 ?_
  refine E_aload pf_113_2 rfl ?_
  refine E_iconst pf_113_3 ?_
  refine E_iload pf_113_4 rfl ?_
  refine E_imul pf_113_5 ?_
  refine E_iconst pf_113_6 ?_
  refine E_iadd pf_113_7 ?_
  refine F_iald pf_113_8 rfl (by omega) ?_
  refine E_imul pf_113_9 ?_
  refine E_istore (lv' := [_, _, _, _, _]) pf_113_10 rfl rfl ?_
  refine E_iconst pf_113_11 ?_
  refine E_istore (lv' := [_, _, _, _, _]) pf_113_12 rfl rfl ?_
  have h0 := loop dn 0 (by omega)
  have e0 : zR r P m 0 q = -100 * r (5 * q + 4) := by unfold zR; simp only [zs]; omega
  rw [e0] at h0
  exact h0
theorem c114n {q v : Int} (hp : pgk (vn : Int) r m) (hP : ppk P dn vn rn) (hq : 0 ≤ q ∧ q < 4) (hv : 0 ≤ v ∧ v < 24) : ∀ h, Ca 114 [.ref 102, .ref 107, .int (ii q), .int (ii v)] (wd [(102, oX6 rf ts sp (dn : Int) k (vn : Int) (rn : Int) rd rk rv rr ac), (104, ar 128 P), (107, ar 72 r)] h) (.inl (some (.int (ii (zA r P dn q v)))), wd [(102, oX6 rf ts sp (dn : Int) k (vn : Int) (rn : Int) rd rk rv rr ac), (104, ar 128 P), (107, ar 72 r)] h) := by
  intro h
  refine E_in (lv := [_, _, _, _, _, _]) rfl ?_
  have hdn := hP.1
  have loop : ∀ (n i : Nat), i + n = dn → Rn 114 13 [.ref 102, .ref 107, .int (ii q), .int (ii v), .int (ii (zA r P i q v)), .int (ii (i : Int))] [] (wd [(102, oX6 rf ts sp (dn : Int) k (vn : Int) (rn : Int) rd rk rv rr ac), (104, ar 128 P), (107, ar 72 r)] h) (.inl (some (.int (ii (zA r P dn q v)))), wd [(102, oX6 rf ts sp (dn : Int) k (vn : Int) (rn : Int) rd rk rv rr ac), (104, ar 128 P), (107, ar 72 r)] h) := by
    intro n
    induction n with
    | zero =>
      intro i hi
      obtain rfl : i = dn := by omega
      refine E_iload pf_114_13 rfl ?_
      refine E_aload pf_114_15 rfl ?_
      refine F_getf pf_114_16 rfl rfl rfl ?_
      refine E_icmp_ge_t pf_114_19 (by omega) ?_
      refine E_iload pf_114_53 rfl ?_
      exact E_iret pf_114_55 rfl
    | succ n ih =>
      intro i hi
      have ih := ih (i + 1) (by omega)
      have e1 : zA r P (i + 1) q v = zA r P i q v + r (5 * q + i) * P (4 * v + i) := by unfold zA; simp only [zs]; omega
      rw [e1] at ih
      refine E_iload pf_114_13 rfl ?_
      refine E_aload pf_114_15 rfl ?_
      refine F_getf pf_114_16 rfl rfl rfl ?_
      refine E_icmp_ge_f pf_114_19 (by omega) ?_
      refine E_iload pf_114_22 rfl ?_
      refine E_aload pf_114_24 rfl ?_
      refine E_iconst pf_114_25 ?_
      refine E_iload pf_114_26 rfl ?_
      refine E_imul pf_114_27 ?_
      refine E_iload pf_114_28 rfl ?_
      refine E_iadd pf_114_30 ?_
      refine F_iald pf_114_31 rfl (by omega) ?_
      refine E_aload pf_114_32 rfl ?_
      refine F_getf pf_114_33 rfl rfl rfl ?_
      refine E_iconst pf_114_36 ?_
      refine E_iload pf_114_37 rfl ?_
      refine E_imul pf_114_38 ?_
      refine E_iload pf_114_39 rfl ?_
      refine E_iadd pf_114_41 ?_
      refine F_iald pf_114_42 rfl (by omega) ?_
      refine E_imul pf_114_43 ?_
      refine E_iadd pf_114_44 ?_
      refine E_istore (lv' := [_, _, _, _, _, _]) pf_114_45 rfl rfl ?_
      refine E_iinc (lv' := [_, _, _, _, _, _]) pf_114_47 rfl rfl ?_
      refine E_goto pf_114_50 ?_
      exact ih
  refine E_aload pf_114_0 rfl ?_
  refine E_iconst pf_114_1 ?_
  refine E_iload pf_114_2 rfl ?_
  refine E_imul pf_114_3 ?_
  refine E_iconst pf_114_4 ?_
  refine E_iadd pf_114_5 ?_
  refine F_iald pf_114_6 rfl (by omega) ?_
  refine E_ineg pf_114_7 ?_
  refine E_istore (lv' := [_, _, _, _, _, _]) pf_114_8 rfl rfl ?_
  refine E_iconst pf_114_10 ?_
  refine E_istore (lv' := [_, _, _, _, _, _]) pf_114_11 rfl rfl ?_
  have h0 := loop dn 0 (by omega)
  have e0 : zA r P 0 q v = - r (5 * q + 4) := by unfold zA; simp only [zs]; omega
  rw [e0] at h0
  exact h0
theorem c115n (hp : pgk (vn : Int) r m) (hP : ppk P dn vn rn) : ∀ h, Ca 115 [.ref 102, .ref 107] (wd [(102, oX6 rf ts sp (dn : Int) k (vn : Int) (rn : Int) rd rk rv rr ac), (104, ar 128 P), (107, ar 72 r)] h) (.inl (some (.long (ll (zV r P m dn rn)))), wd [(102, oX6 rf ts sp (dn : Int) k (vn : Int) (rn : Int) rd rk rv rr ac), (104, ar 128 P), (107, ar 72 r)] h) := by
  intro h
  refine E_in (lv := [_, _, _, _, _, _, _]) rfl ?_
  have hvn := hP.2.1
  have hrn := hP.2.2.1
  have loop : ∀ (n i : Nat) (w5 w6 : Value), i + n = rn → Rn 115 5 [.ref 102, .ref 107, .long (ll (zV r P m dn i)), pd_dum, .int (ii (i : Int)), w5, w6] [] (wd [(102, oX6 rf ts sp (dn : Int) k (vn : Int) (rn : Int) rd rk rv rr ac), (104, ar 128 P), (107, ar 72 r)] h) (.inl (some (.long (ll (zV r P m dn rn)))), wd [(102, oX6 rf ts sp (dn : Int) k (vn : Int) (rn : Int) rd rk rv rr ac), (104, ar 128 P), (107, ar 72 r)] h) := by
    intro n
    induction n with
    | zero =>
      intro i w5 w6 hi
      obtain rfl : i = rn := by omega
      refine E_iload pf_115_5 rfl ?_
      refine E_aload pf_115_7 rfl ?_
      refine F_getf pf_115_8 rfl rfl rfl ?_
      refine E_icmp_ge_t pf_115_11 (by omega) ?_
      refine E_lload pf_115_38 rfl ?_
      exact E_lret pf_115_39 rfl
    | succ n ih =>
      intro i w5 w6 hi
      have ih := ih (i + 1)
      have hb := zR_le hp hP (k := i) (by omega)
      refine E_iload pf_115_5 rfl ?_
      refine E_aload pf_115_7 rfl ?_
      refine F_getf pf_115_8 rfl rfl rfl ?_
      refine E_icmp_ge_f pf_115_11 (by omega) ?_
      refine E_aload pf_115_14 rfl ?_
      refine E_aload pf_115_15 rfl ?_
      refine E_iload pf_115_16 rfl ?_
      refine F_v3v0 pf_115_18 (c113n hp hP rfl (by omega) (by omega)) (And.intro rfl (And.intro rfl (And.intro rfl (trivial)))) rfl rfl ?_
      refine E_i2l pf_115_21 (by omega) ?_
      refine E_lstore (lv' := [_, _, _, _, _, _, _]) pf_115_22 rfl rfl ?_
      refine E_lload pf_115_24 rfl ?_
      refine E_lload pf_115_25 rfl ?_
      refine E_lload pf_115_27 rfl ?_
      refine E_lmul pf_115_29 ?_
      refine E_ladd pf_115_30 ?_
      refine E_lstore (lv' := [_, _, _, _, _, _, _]) pf_115_31 rfl rfl ?_
      refine E_iinc (lv' := [_, _, _, _, _, _, _]) pf_115_32 rfl rfl ?_
      refine E_goto pf_115_35 ?_
      exact ih _ _ (by omega)
  refine E_lconst pf_115_0 ?_
  refine E_lstore (lv' := [_, _, _, _, _, _, _]) pf_115_1 rfl rfl ?_
  refine E_iconst pf_115_2 ?_
  refine E_istore (lv' := [_, _, _, _, _, _, _]) pf_115_3 rfl rfl ?_
  exact loop rn 0 _ _ (by omega)
theorem c116n {j : Int} (hp : pgk (vn : Int) r m) (hP : ppk P dn vn rn) (hj : 0 ≤ j ∧ j < 4) : ∀ h, Ca 116 [.ref 102, .ref 107, .int (ii j)] (wd [(102, oX6 rf ts sp (dn : Int) k (vn : Int) (rn : Int) rd rk rv rr ac), (104, ar 128 P), (107, ar 72 r)] h) (.inl (some (.long (ll (zSl r P m dn rn j)))), wd [(102, oX6 rf ts sp (dn : Int) k (vn : Int) (rn : Int) rd rk rv rr ac), (104, ar 128 P), (107, ar 72 r)] h) := by
  intro h
  refine E_in (lv := [_, _, _, _, _, _]) rfl ?_
  have hvn := hP.2.1
  have hrn := hP.2.2.1
  have loop : ∀ (n i : Nat), i + n = rn → Rn 116 5 [.ref 102, .ref 107, .int (ii j), .long (ll (zSl r P m dn i j)), pd_dum, .int (ii (i : Int))] [] (wd [(102, oX6 rf ts sp (dn : Int) k (vn : Int) (rn : Int) rd rk rv rr ac), (104, ar 128 P), (107, ar 72 r)] h) (.inl (some (.long (ll (zSl r P m dn rn j)))), wd [(102, oX6 rf ts sp (dn : Int) k (vn : Int) (rn : Int) rd rk rv rr ac), (104, ar 128 P), (107, ar 72 r)] h) := by
    intro n
    induction n with
    | zero =>
      intro i hi
      obtain rfl : i = rn := by omega
      refine E_iload pf_116_5 rfl ?_
      refine E_aload pf_116_7 rfl ?_
      refine F_getf pf_116_8 rfl rfl rfl ?_
      refine E_icmp_ge_t pf_116_11 (by omega) ?_
      refine E_lload pf_116_45 rfl ?_
      exact E_lret pf_116_46 rfl
    | succ n ih =>
      intro i hi
      have ih := ih (i + 1) (by omega)
      have hb := zR_le hp hP (k := i) (by omega)
      have hb2 := hp.2.2.2.1 i j (by omega) (by omega) hj.1 hj.2
      refine E_iload pf_116_5 rfl ?_
      refine E_aload pf_116_7 rfl ?_
      refine F_getf pf_116_8 rfl rfl rfl ?_
      refine E_icmp_ge_f pf_116_11 (by omega) ?_
      refine E_lload pf_116_14 rfl ?_
      refine E_lconst pf_116_15 ?_
      refine E_aload pf_116_18 rfl ?_
      refine E_aload pf_116_19 rfl ?_
      refine E_iload pf_116_20 rfl ?_
      refine F_v3v0 pf_116_22 (c113n hp hP rfl (by omega) (by omega)) (And.intro rfl (And.intro rfl (And.intro rfl (trivial)))) rfl rfl ?_
      refine E_i2l pf_116_25 (by omega) ?_
      refine E_lmul pf_116_26 ?_
      refine E_aload pf_116_27 rfl ?_
      refine E_iconst pf_116_28 ?_
      refine E_iload pf_116_29 rfl ?_
      refine E_imul pf_116_31 ?_
      refine E_iload pf_116_32 rfl ?_
      refine E_iadd pf_116_33 ?_
      refine F_iald pf_116_34 rfl (by omega) ?_
      refine E_i2l pf_116_35 (by omega) ?_
      refine E_lmul pf_116_36 ?_
      refine E_ladd pf_116_37 ?_
      refine E_lstore (lv' := [_, _, _, _, _, _]) pf_116_38 rfl rfl ?_
      refine E_iinc (lv' := [_, _, _, _, _, _]) pf_116_39 rfl rfl ?_
      refine E_goto pf_116_42 ?_
      exact ih
  refine E_lconst pf_116_0 ?_
  refine E_lstore (lv' := [_, _, _, _, _, _]) pf_116_1 rfl rfl ?_
  refine E_iconst pf_116_2 ?_
  refine E_istore (lv' := [_, _, _, _, _, _]) pf_116_3 rfl rfl ?_
  exact loop rn 0 (by omega)
theorem c117n {v : Int} (hp : pgk (vn : Int) r m) (hP : ppk P dn vn rn) (hv : 0 ≤ v ∧ v < 24) : ∀ h, Ca 117 [.ref 102, .ref 107, .int (ii v)] (wd [(102, oX6 rf ts sp (dn : Int) k (vn : Int) (rn : Int) rd rk rv rr ac), (104, ar 128 P), (107, ar 72 r)] h) (.inl (some (.long (ll (zSv r P m dn rn v)))), wd [(102, oX6 rf ts sp (dn : Int) k (vn : Int) (rn : Int) rd rk rv rr ac), (104, ar 128 P), (107, ar 72 r)] h) := by
  intro h
  refine E_in (lv := [_, _, _, _, _, _]) rfl ?_
  have hdn := hP.1
  have loop : ∀ (n i : Nat), i + n = dn → Rn 117 5 [.ref 102, .ref 107, .int (ii v), .long (ll (zs (fun j => P (4 * v + j) * zSl r P m dn rn j) i)), pd_dum, .int (ii (i : Int))] [] (wd [(102, oX6 rf ts sp (dn : Int) k (vn : Int) (rn : Int) rd rk rv rr ac), (104, ar 128 P), (107, ar 72 r)] h) (.inl (some (.long (ll (zSv r P m dn rn v)))), wd [(102, oX6 rf ts sp (dn : Int) k (vn : Int) (rn : Int) rd rk rv rr ac), (104, ar 128 P), (107, ar 72 r)] h) := by
    intro n
    induction n with
    | zero =>
      intro i hi
      obtain rfl : i = dn := by omega
      refine E_iload pf_117_5 rfl ?_
      refine E_aload pf_117_7 rfl ?_
      refine F_getf pf_117_8 rfl rfl rfl ?_
      refine E_icmp_ge_t pf_117_11 (by omega) ?_
      refine E_lload pf_117_43 rfl ?_
      exact E_lret pf_117_44 rfl
    | succ n ih =>
      intro i hi
      have ih := ih (i + 1) (by omega)
      have hb := hP.2.2.2 (4 * v + i)
      refine E_iload pf_117_5 rfl ?_
      refine E_aload pf_117_7 rfl ?_
      refine F_getf pf_117_8 rfl rfl rfl ?_
      refine E_icmp_ge_f pf_117_11 (by omega) ?_
      refine E_lload pf_117_14 rfl ?_
      refine E_aload pf_117_15 rfl ?_
      refine F_getf pf_117_16 rfl rfl rfl ?_
      refine E_iconst pf_117_19 ?_
      refine E_iload pf_117_20 rfl ?_
      refine E_imul pf_117_21 ?_
      refine E_iload pf_117_22 rfl ?_
      refine E_iadd pf_117_24 ?_
      refine F_iald pf_117_25 rfl (by omega) ?_
      refine E_i2l pf_117_26 (by omega) ?_
      refine E_aload pf_117_27 rfl ?_
      refine E_aload pf_117_28 rfl ?_
      refine E_iload pf_117_29 rfl ?_
      refine F_v3v0 pf_117_31 (c116n hp hP (by omega)) (And.intro rfl (And.intro rfl (And.intro rfl (trivial)))) rfl rfl ?_
      refine E_lmul pf_117_34 ?_
      refine E_ladd pf_117_35 ?_
      refine E_lstore (lv' := [_, _, _, _, _, _]) pf_117_36 rfl rfl ?_
      refine E_iinc (lv' := [_, _, _, _, _, _]) pf_117_37 rfl rfl ?_
      refine E_goto pf_117_40 ?_
      exact ih
  refine E_lconst pf_117_0 ?_
  refine E_lstore (lv' := [_, _, _, _, _, _]) pf_117_1 rfl rfl ?_
  refine E_iconst pf_117_2 ?_
  refine E_istore (lv' := [_, _, _, _, _, _]) pf_117_3 rfl rfl ?_
  exact loop dn 0 (by omega)
theorem c118n (hp : pgk (vn : Int) r m) (hP : ppk P dn vn rn) : ∀ h, Ca 118 [.ref 102, .ref 107] (wd [(102, oX6 rf ts sp (dn : Int) k (vn : Int) (rn : Int) rd rk rv rr ac), (104, ar 128 P), (107, ar 72 r)] h) (.inl (some (.int (ii (zBest r P m dn rn vn)))), wd [(102, oX6 rf ts sp (dn : Int) k (vn : Int) (rn : Int) rd rk rv rr ac), (104, ar 128 P), (107, ar 72 r)] h) := by
  intro h
  refine E_in (lv := [_, _, _, _]) rfl ?_
  have hvn := hP.2.1
  have loop : ∀ (n i : Nat), i + n = vn - 1 → Rn 118 4 [.ref 102, .ref 107, .int (ii (zam (zSv r P m dn rn) i)), .int (ii ((i + 1 : Nat) : Int))] [] (wd [(102, oX6 rf ts sp (dn : Int) k (vn : Int) (rn : Int) rd rk rv rr ac), (104, ar 128 P), (107, ar 72 r)] h) (.inl (some (.int (ii (zBest r P m dn rn vn)))), wd [(102, oX6 rf ts sp (dn : Int) k (vn : Int) (rn : Int) rd rk rv rr ac), (104, ar 128 P), (107, ar 72 r)] h) := by
    intro n
    induction n with
    | zero =>
      intro i hi
      obtain rfl : i = vn - 1 := by omega
      refine E_iload pf_118_4 rfl ?_
      refine E_aload pf_118_5 rfl ?_
      refine F_getf pf_118_6 rfl rfl rfl ?_
      refine E_icmp_ge_t pf_118_9 (by omega) ?_
      refine E_iload pf_118_40 rfl ?_
      exact E_iret pf_118_41 rfl
    | succ n ih =>
      intro i hi
      have ih := ih (i + 1) (by omega)
      have hb1 := zSv_le hp hP ((i + 1 : Nat) : Int)
      have hb2 := zSv_le hp hP (zam (zSv r P m dn rn) i)
      have hz := zam_in (zSv r P m dn rn) i
      by_cases hc : zSv r P m dn rn ((i + 1 : Nat) : Int) < zSv r P m dn rn (zam (zSv r P m dn rn) i)
      · have e1 : zam (zSv r P m dn rn) (i + 1) = ((i + 1 : Nat) : Int) := by simp only [zam]; rw [if_pos hc]
        rw [e1] at ih
        refine E_iload pf_118_4 rfl ?_
        refine E_aload pf_118_5 rfl ?_
        refine F_getf pf_118_6 rfl rfl rfl ?_
        refine E_icmp_ge_f pf_118_9 (by omega) ?_
        refine E_aload pf_118_12 rfl ?_
        refine E_aload pf_118_13 rfl ?_
        refine E_iload pf_118_14 rfl ?_
        refine F_v3v0 pf_118_15 (c117n hp hP (by omega)) (And.intro rfl (And.intro rfl (And.intro rfl (trivial)))) rfl rfl ?_
        refine E_aload pf_118_18 rfl ?_
        refine E_aload pf_118_19 rfl ?_
        refine E_iload pf_118_20 rfl ?_
        refine F_v3v0 pf_118_21 (c117n hp hP (by omega)) (And.intro rfl (And.intro rfl (And.intro rfl (trivial)))) rfl rfl ?_
        refine E_lcmp_ge_f pf_118_24 pf_118_25 (by omega) ?_
        refine E_iload pf_118_28 rfl ?_
        refine E_goto pf_118_29 ?_
        refine E_istore (lv' := [_, _, _, _]) pf_118_33 rfl rfl ?_
        refine E_iinc (lv' := [_, _, _, _]) pf_118_34 rfl rfl ?_
        refine E_goto pf_118_37 ?_
        exact ih
      · have e1 : zam (zSv r P m dn rn) (i + 1) = zam (zSv r P m dn rn) i := by simp only [zam]; rw [if_neg hc]
        rw [e1] at ih
        refine E_iload pf_118_4 rfl ?_
        refine E_aload pf_118_5 rfl ?_
        refine F_getf pf_118_6 rfl rfl rfl ?_
        refine E_icmp_ge_f pf_118_9 (by omega) ?_
        refine E_aload pf_118_12 rfl ?_
        refine E_aload pf_118_13 rfl ?_
        refine E_iload pf_118_14 rfl ?_
        refine F_v3v0 pf_118_15 (c117n hp hP (by omega)) (And.intro rfl (And.intro rfl (And.intro rfl (trivial)))) rfl rfl ?_
        refine E_aload pf_118_18 rfl ?_
        refine E_aload pf_118_19 rfl ?_
        refine E_iload pf_118_20 rfl ?_
        refine F_v3v0 pf_118_21 (c117n hp hP (by omega)) (And.intro rfl (And.intro rfl (And.intro rfl (trivial)))) rfl rfl ?_
        refine E_lcmp_ge_t pf_118_24 pf_118_25 (by omega) ?_
        refine E_iload pf_118_32 rfl ?_
        refine E_istore (lv' := [_, _, _, _]) pf_118_33 rfl rfl ?_
        refine E_iinc (lv' := [_, _, _, _]) pf_118_34 rfl rfl ?_
        refine E_goto pf_118_37 ?_
        exact ih
  refine E_iconst pf_118_0 ?_
  refine E_istore (lv' := [_, _, _, _]) pf_118_1 rfl rfl ?_
  refine E_iconst pf_118_2 ?_
  refine E_istore (lv' := [_, _, _, _]) pf_118_3 rfl rfl ?_
  exact loop (vn - 1) 0 (by omega)
theorem c119n (hp : pgk (vn : Int) r m) (hP : ppk P dn vn rn) : ∀ h, Ca 119 [.ref 102, .ref 107] (wd [(102, oX6 rf ts sp (dn : Int) k (vn : Int) (rn : Int) rd rk rv rr ac), (104, ar 128 P), (107, ar 72 r)] h) (.inl (some (.int (ii (zWorst r P m dn rn)))), wd [(102, oX6 rf ts sp (dn : Int) k (vn : Int) (rn : Int) rd rk rv rr ac), (104, ar 128 P), (107, ar 72 r)] h) := by
  intro h
  refine E_in (lv := [_, _, _, _]) rfl ?_
  have hvn := hP.2.1
  obtain ⟨h68, hm, hat, -, -⟩ := id hp
  have loop : ∀ (n i : Nat), i + n = m - 1 → Rn 119 4 [.ref 102, .ref 107, .int (ii (zax (fun i => zSv r P m dn rn (r (20 + i))) i)), .int (ii ((i + 1 : Nat) : Int))] [] (wd [(102, oX6 rf ts sp (dn : Int) k (vn : Int) (rn : Int) rd rk rv rr ac), (104, ar 128 P), (107, ar 72 r)] h) (.inl (some (.int (ii (zWorst r P m dn rn)))), wd [(102, oX6 rf ts sp (dn : Int) k (vn : Int) (rn : Int) rd rk rv rr ac), (104, ar 128 P), (107, ar 72 r)] h) := by
    intro n
    induction n with
    | zero =>
      intro i hi
      obtain rfl : i = m - 1 := by omega
      refine E_iload pf_119_4 rfl ?_
      refine E_aload pf_119_5 rfl ?_
      refine E_iconst pf_119_6 ?_
      refine F_iald pf_119_8 rfl (by omega) ?_
      refine E_icmp_ge_t pf_119_9 (by omega) ?_
      refine E_iload pf_119_50 rfl ?_
      exact E_iret pf_119_51 rfl
    | succ n ih =>
      intro i hi
      have ih := ih (i + 1) (by omega)
      have hz := zax_in (fun i => zSv r P m dn rn (r (20 + i))) i
      have hq1 := hat ((i + 1 : Nat) : Int) (by omega) (by omega)
      have hq2 := hat (zax (fun i => zSv r P m dn rn (r (20 + i))) i) (by omega) (by omega)
      have hb1 := zSv_le hp hP (r (20 + ((i + 1 : Nat) : Int)))
      have hb2 := zSv_le hp hP (r (20 + zax (fun i => zSv r P m dn rn (r (20 + i))) i))
      by_cases hc : zSv r P m dn rn (r (20 + zax (fun i => zSv r P m dn rn (r (20 + i))) i)) < zSv r P m dn rn (r (20 + ((i + 1 : Nat) : Int)))
      · have e1 : zax (fun i => zSv r P m dn rn (r (20 + i))) (i + 1) = ((i + 1 : Nat) : Int) := by simp only [zax]; rw [if_pos hc]
        rw [e1] at ih
        refine E_iload pf_119_4 rfl ?_
        refine E_aload pf_119_5 rfl ?_
        refine E_iconst pf_119_6 ?_
        refine F_iald pf_119_8 rfl (by omega) ?_
        refine E_icmp_ge_f pf_119_9 (by omega) ?_
        refine E_aload pf_119_12 rfl ?_
        refine E_aload pf_119_13 rfl ?_
        refine E_aload pf_119_14 rfl ?_
        refine E_iconst pf_119_15 ?_
        refine E_iload pf_119_17 rfl ?_
        refine E_iadd pf_119_18 ?_
        refine F_iald pf_119_19 rfl (by omega) ?_
        refine F_v3v0 pf_119_20 (c117n hp hP (by omega)) (And.intro rfl (And.intro rfl (And.intro rfl (trivial)))) rfl rfl ?_
        refine E_aload pf_119_23 rfl ?_
        refine E_aload pf_119_24 rfl ?_
        refine E_aload pf_119_25 rfl ?_
        refine E_iconst pf_119_26 ?_
        refine E_iload pf_119_28 rfl ?_
        refine E_iadd pf_119_29 ?_
        refine F_iald pf_119_30 rfl (by omega) ?_
        refine F_v3v0 pf_119_31 (c117n hp hP (by omega)) (And.intro rfl (And.intro rfl (And.intro rfl (trivial)))) rfl rfl ?_
        refine E_lcmp_le_f pf_119_34 pf_119_35 (by omega) ?_
        refine E_iload pf_119_38 rfl ?_
        refine E_goto pf_119_39 ?_
        refine E_istore (lv' := [_, _, _, _]) pf_119_43 rfl rfl ?_
        refine E_iinc (lv' := [_, _, _, _]) pf_119_44 rfl rfl ?_
        refine E_goto pf_119_47 ?_
        exact ih
      · have e1 : zax (fun i => zSv r P m dn rn (r (20 + i))) (i + 1) = zax (fun i => zSv r P m dn rn (r (20 + i))) i := by simp only [zax]; rw [if_neg hc]
        rw [e1] at ih
        refine E_iload pf_119_4 rfl ?_
        refine E_aload pf_119_5 rfl ?_
        refine E_iconst pf_119_6 ?_
        refine F_iald pf_119_8 rfl (by omega) ?_
        refine E_icmp_ge_f pf_119_9 (by omega) ?_
        refine E_aload pf_119_12 rfl ?_
        refine E_aload pf_119_13 rfl ?_
        refine E_aload pf_119_14 rfl ?_
        refine E_iconst pf_119_15 ?_
        refine E_iload pf_119_17 rfl ?_
        refine E_iadd pf_119_18 ?_
        refine F_iald pf_119_19 rfl (by omega) ?_
        refine F_v3v0 pf_119_20 (c117n hp hP (by omega)) (And.intro rfl (And.intro rfl (And.intro rfl (trivial)))) rfl rfl ?_
        refine E_aload pf_119_23 rfl ?_
        refine E_aload pf_119_24 rfl ?_
        refine E_aload pf_119_25 rfl ?_
        refine E_iconst pf_119_26 ?_
        refine E_iload pf_119_28 rfl ?_
        refine E_iadd pf_119_29 ?_
        refine F_iald pf_119_30 rfl (by omega) ?_
        refine F_v3v0 pf_119_31 (c117n hp hP (by omega)) (And.intro rfl (And.intro rfl (And.intro rfl (trivial)))) rfl rfl ?_
        refine E_lcmp_le_t pf_119_34 pf_119_35 (by omega) ?_
        refine E_iload pf_119_42 rfl ?_
        refine E_istore (lv' := [_, _, _, _]) pf_119_43 rfl rfl ?_
        refine E_iinc (lv' := [_, _, _, _]) pf_119_44 rfl rfl ?_
        refine E_goto pf_119_47 ?_
        exact ih
  refine E_iconst pf_119_0 ?_
  refine E_istore (lv' := [_, _, _, _]) pf_119_1 rfl rfl ?_
  refine E_iconst pf_119_2 ?_
  refine E_istore (lv' := [_, _, _, _]) pf_119_3 rfl rfl ?_
  exact loop (m - 1) 0 (by omega)
theorem c120n (hp : pgk (vn : Int) r m) (hP : ppk P dn vn rn) : ∀ h, Ca 120 [.ref 102, .ref 107] (wd [(102, oX6 rf ts sp (dn : Int) k (vn : Int) (rn : Int) rd rk rv rr ac), (104, ar 128 P), (107, ar 72 r)] h) (.inl (some (.long (ll (zGap r P m dn rn vn)))), wd [(102, oX6 rf ts sp (dn : Int) k (vn : Int) (rn : Int) rd rk rv rr ac), (104, ar 128 P), (107, ar 72 r)] h) := by
  intro h
  refine E_in (lv := [_, _, _, _, _]) rfl ?_
  have hdn := hP.1
  have hvn := hP.2.1
  have hz := zam_in (zSv r P m dn rn) (vn - 1)
  have hbest : 0 ≤ zBest r P m dn rn vn ∧ zBest r P m dn rn vn < 24 := by unfold zBest; omega
  have loop : ∀ (n i : Nat), i + n = dn → Rn 120 18 [.ref 102, .ref 107, .long (ll (-100 * zSv r P m dn rn (zBest r P m dn rn vn) + zs (fun j => zX r P m j * zSl r P m dn rn j) i)), pd_dum, .int (ii (i : Int))] [] (wd [(102, oX6 rf ts sp (dn : Int) k (vn : Int) (rn : Int) rd rk rv rr ac), (104, ar 128 P), (107, ar 72 r)] h) (.inl (some (.long (ll (zGap r P m dn rn vn)))), wd [(102, oX6 rf ts sp (dn : Int) k (vn : Int) (rn : Int) rd rk rv rr ac), (104, ar 128 P), (107, ar 72 r)] h) := by
    intro n
    induction n with
    | zero =>
      intro i hi
      obtain rfl : i = dn := by omega
      refine E_iload pf_120_18 rfl ?_
      refine E_aload pf_120_20 rfl ?_
      refine F_getf pf_120_21 rfl rfl rfl ?_
      refine E_icmp_ge_t pf_120_24 (by omega) ?_
      refine E_lload pf_120_52 rfl ?_
      exact E_lret pf_120_53 rfl
    | succ n ih =>
      intro i hi
      have ih := ih (i + 1) (by omega)
      have hb := zX_le hp hP.2.2.2 (i : Int)
      simp only [zs, ← Int.add_assoc] at ih
      refine E_iload pf_120_18 rfl ?_
      refine E_aload pf_120_20 rfl ?_
      refine F_getf pf_120_21 rfl rfl rfl ?_
      refine E_icmp_ge_f pf_120_24 (by omega) ?_
      refine E_lload pf_120_27 rfl ?_
      refine E_aload pf_120_28 rfl ?_
      refine E_aload pf_120_29 rfl ?_
      refine E_iload pf_120_30 rfl ?_
      refine F_v3v0 pf_120_32 (c112n hp (by omega) (by omega)) (And.intro rfl (And.intro rfl (And.intro rfl (trivial)))) rfl rfl ?_
      refine E_i2l pf_120_35 (by omega) ?_
      refine E_aload pf_120_36 rfl ?_
      refine E_aload pf_120_37 rfl ?_
      refine E_iload pf_120_38 rfl ?_
      refine F_v3v0 pf_120_40 (c116n hp hP (by omega)) (And.intro rfl (And.intro rfl (And.intro rfl (trivial)))) rfl rfl ?_
      refine E_lmul pf_120_43 ?_
      refine E_ladd pf_120_44 ?_
      refine E_lstore (lv' := [_, _, _, _, _]) pf_120_45 rfl rfl ?_
      refine E_iinc (lv' := [_, _, _, _, _]) pf_120_46 rfl rfl ?_
      refine E_goto pf_120_49 ?_
      exact ih
  refine E_lconst pf_120_0 ?_
  refine E_aload pf_120_3 rfl ?_
  refine E_aload pf_120_4 rfl ?_
  refine E_aload pf_120_5 rfl ?_
  refine E_aload pf_120_6 rfl ?_
  refine F_v2v0 pf_120_7 (c118n hp hP) (And.intro rfl (And.intro rfl (And.intro rfl (trivial)))) rfl rfl ?_
  refine F_v3v0 pf_120_10 (c117n hp hP (by omega)) (And.intro rfl (And.intro rfl (And.intro rfl (trivial)))) rfl rfl ?_
  refine E_lmul pf_120_13 ?_
  refine E_lstore (lv' := [_, _, _, _, _]) pf_120_14 rfl rfl ?_
  refine E_iconst pf_120_15 ?_
  refine E_istore (lv' := [_, _, _, _, _]) pf_120_16 rfl rfl ?_
  have h0 := loop dn 0 (by omega)
  simp only [zs, Int.add_zero] at h0
  exact h0
theorem c112t {j : Int} (hp : pgk vs r m) (hvs : vs ≤ 24) (hj : 0 ≤ j ∧ j < 4) : ∀ h, Ca 112 [.ref 102, .ref 108, .int (ii j)] (wd [(102, oX6 rf ts sp d k vs rw rd rk rv rr ac), (104, ar 128 P), (108, ar 72 r)] h) (.inl (some (.int (ii (zX r P m j)))), wd [(102, oX6 rf ts sp d k vs rw rd rk rv rr ac), (104, ar 128 P), (108, ar 72 r)] h) := by
  intro h
  refine E_in (lv := [_, _, _, _, _]) rfl ?_
  obtain ⟨h68, hm, hat, -, -⟩ := hp
  have loop : ∀ (n i : Nat), i + n = m → Rn 112 5 [.ref 102, .ref 108, .int (ii j), .int (ii (zX r P i j)), .int (ii (i : Int))] [] (wd [(102, oX6 rf ts sp d k vs rw rd rk rv rr ac), (104, ar 128 P), (108, ar 72 r)] h) (.inl (some (.int (ii (zX r P m j)))), wd [(102, oX6 rf ts sp d k vs rw rd rk rv rr ac), (104, ar 128 P), (108, ar 72 r)] h) := by
    intro n
    induction n with
    | zero =>
      intro i hi
      obtain rfl : i = m := by omega
      refine E_iload pf_112_5 rfl ?_
      refine E_aload pf_112_7 rfl ?_
      refine E_iconst pf_112_8 ?_
      refine F_iald pf_112_10 rfl (by omega) ?_
      refine E_icmp_ge_t pf_112_11 (by omega) ?_
      refine E_iload pf_112_47 rfl ?_
      exact E_iret pf_112_48 rfl
    | succ n ih =>
      intro i hi
      have hq := hat i (by omega) (by omega)
      refine E_iload pf_112_5 rfl ?_
      refine E_aload pf_112_7 rfl ?_
      refine E_iconst pf_112_8 ?_
      refine F_iald pf_112_10 rfl (by omega) ?_
      refine E_icmp_ge_f pf_112_11 (by omega) ?_
      refine E_iload pf_112_14 rfl ?_
      refine E_aload pf_112_15 rfl ?_
      refine E_iconst pf_112_16 ?_
      refine E_iload pf_112_18 rfl ?_
      refine E_iadd pf_112_20 ?_
      refine F_iald pf_112_21 rfl (by omega) ?_
      refine E_aload pf_112_22 rfl ?_
      refine F_getf pf_112_23 rfl rfl rfl ?_
      refine E_iconst pf_112_26 ?_
      refine E_aload pf_112_27 rfl ?_
      refine E_iconst pf_112_28 ?_
      refine E_iload pf_112_30 rfl ?_
      refine E_iadd pf_112_32 ?_
      refine F_iald pf_112_33 rfl (by omega) ?_
      refine E_imul pf_112_34 ?_
      refine E_iload pf_112_35 rfl ?_
      refine E_iadd pf_112_36 ?_
      refine F_iald pf_112_37 rfl (by omega) ?_
      refine E_imul pf_112_38 ?_
      refine E_iadd pf_112_39 ?_
      refine E_istore (lv' := [_, _, _, _, _]) pf_112_40 rfl rfl ?_
      refine E_iinc (lv' := [_, _, _, _, _]) pf_112_41 rfl rfl ?_
      refine E_goto pf_112_44 ?_
      exact ih (i + 1) (by omega)
  refine E_iconst pf_112_0 ?_
  refine E_istore (lv' := [_, _, _, _, _]) pf_112_1 rfl rfl ?_
  refine E_iconst pf_112_2 ?_
  refine E_istore (lv' := [_, _, _, _, _]) pf_112_3 rfl rfl ?_
  exact loop m 0 (by omega)
theorem c113t {q : Int} (hp : pgk vs r m) (hP : ppk P dn vn rn) (hd : d = dn) (hvs : vs ≤ 24) (hq : 0 ≤ q ∧ q < 4) : ∀ h, Ca 113 [.ref 102, .ref 108, .int (ii q)] (wd [(102, oX6 rf ts sp d k vs rw rd rk rv rr ac), (104, ar 128 P), (108, ar 72 r)] h) (.inl (some (.int (ii (zR r P m dn q)))), wd [(102, oX6 rf ts sp d k vs rw rd rk rv rr ac), (104, ar 128 P), (108, ar 72 r)] h) := by
  intro h
  subst hd
  refine E_in (lv := [_, _, _, _, _]) rfl ?_
  have hdn := hP.1
  have loop : ∀ (n i : Nat), i + n = dn → Rn 113 14 [.ref 102, .ref 108, .int (ii q), .int (ii (zR r P m i q)), .int (ii (i : Int))] [] (wd [(102, oX6 rf ts sp (dn : Int) k vs rw rd rk rv rr ac), (104, ar 128 P), (108, ar 72 r)] h) (.inl (some (.int (ii (zR r P m dn q)))), wd [(102, oX6 rf ts sp (dn : Int) k vs rw rd rk rv rr ac), (104, ar 128 P), (108, ar 72 r)] h) := by
    intro n
    induction n with
    | zero =>
      intro i hi
      obtain rfl : i = dn := by omega
      refine E_iload pf_113_14 rfl ?_
      refine E_aload pf_113_16 rfl ?_
      refine F_getf pf_113_17 rfl rfl rfl ?_
      refine E_icmp_ge_t pf_113_20 (by omega) ?_
      refine E_iload pf_113_48 rfl ?_
      exact E_iret pf_113_49 rfl
    | succ n ih =>
      intro i hi
      have ih := ih (i + 1) (by omega)
      have e1 : zR r P m (i + 1) q = zR r P m i q + r (5 * q + i) * zX r P m i := by unfold zR; simp only [zs]; omega
      rw [e1] at ih
      refine E_iload pf_113_14 rfl ?_
      refine E_aload pf_113_16 rfl ?_
      refine F_getf pf_113_17 rfl rfl rfl ?_
      refine E_icmp_ge_f pf_113_20 (by omega) ?_
      refine E_iload pf_113_23 rfl ?_
      refine E_aload pf_113_24 rfl ?_
      refine E_iconst pf_113_25 ?_
      refine E_iload pf_113_26 rfl ?_
      refine E_imul pf_113_27 ?_
      refine E_iload pf_113_28 rfl ?_
      refine E_iadd pf_113_30 ?_
      refine F_iald pf_113_31 rfl (by omega) ?_
      refine E_aload pf_113_32 rfl ?_
      refine E_aload pf_113_33 rfl ?_
      refine E_iload pf_113_34 rfl ?_
      refine F_v3v0 pf_113_36 (c112t hp hvs (by omega)) (And.intro rfl (And.intro rfl (And.intro rfl (trivial)))) rfl rfl ?_
      refine E_imul pf_113_39 ?_
      refine E_iadd pf_113_40 ?_
      refine E_istore (lv' := [_, _, _, _, _]) pf_113_41 rfl rfl ?_
      refine E_iinc (lv' := [_, _, _, _, _]) pf_113_42 rfl rfl ?_
      refine E_goto pf_113_45 ?_
      exact ih
  refine E_iconst pf_113_0 ?_
  refine E_aload pf_113_2 rfl ?_
  refine E_iconst pf_113_3 ?_
  refine E_iload pf_113_4 rfl ?_
  refine E_imul pf_113_5 ?_
  refine E_iconst pf_113_6 ?_
  refine E_iadd pf_113_7 ?_
  refine F_iald pf_113_8 rfl (by omega) ?_
  refine E_imul pf_113_9 ?_
  refine E_istore (lv' := [_, _, _, _, _]) pf_113_10 rfl rfl ?_
  refine E_iconst pf_113_11 ?_
  refine E_istore (lv' := [_, _, _, _, _]) pf_113_12 rfl rfl ?_
  have h0 := loop dn 0 (by omega)
  have e0 : zR r P m 0 q = -100 * r (5 * q + 4) := by unfold zR; simp only [zs]; omega
  rw [e0] at h0
  exact h0
theorem c114t {q v : Int} (hp : pgk (vn : Int) r m) (hP : ppk P dn vn rn) (hq : 0 ≤ q ∧ q < 4) (hv : 0 ≤ v ∧ v < 24) : ∀ h, Ca 114 [.ref 102, .ref 108, .int (ii q), .int (ii v)] (wd [(102, oX6 rf ts sp (dn : Int) k (vn : Int) (rn : Int) rd rk rv rr ac), (104, ar 128 P), (108, ar 72 r)] h) (.inl (some (.int (ii (zA r P dn q v)))), wd [(102, oX6 rf ts sp (dn : Int) k (vn : Int) (rn : Int) rd rk rv rr ac), (104, ar 128 P), (108, ar 72 r)] h) := by
  intro h
  refine E_in (lv := [_, _, _, _, _, _]) rfl ?_
  have hdn := hP.1
  have loop : ∀ (n i : Nat), i + n = dn → Rn 114 13 [.ref 102, .ref 108, .int (ii q), .int (ii v), .int (ii (zA r P i q v)), .int (ii (i : Int))] [] (wd [(102, oX6 rf ts sp (dn : Int) k (vn : Int) (rn : Int) rd rk rv rr ac), (104, ar 128 P), (108, ar 72 r)] h) (.inl (some (.int (ii (zA r P dn q v)))), wd [(102, oX6 rf ts sp (dn : Int) k (vn : Int) (rn : Int) rd rk rv rr ac), (104, ar 128 P), (108, ar 72 r)] h) := by
    intro n
    induction n with
    | zero =>
      intro i hi
      obtain rfl : i = dn := by omega
      refine E_iload pf_114_13 rfl ?_
      refine E_aload pf_114_15 rfl ?_
      refine F_getf pf_114_16 rfl rfl rfl ?_
      refine E_icmp_ge_t pf_114_19 (by omega) ?_
      refine E_iload pf_114_53 rfl ?_
      exact E_iret pf_114_55 rfl
    | succ n ih =>
      intro i hi
      have ih := ih (i + 1) (by omega)
      have e1 : zA r P (i + 1) q v = zA r P i q v + r (5 * q + i) * P (4 * v + i) := by unfold zA; simp only [zs]; omega
      rw [e1] at ih
      refine E_iload pf_114_13 rfl ?_
      refine E_aload pf_114_15 rfl ?_
      refine F_getf pf_114_16 rfl rfl rfl ?_
      refine E_icmp_ge_f pf_114_19 (by omega) ?_
      refine E_iload pf_114_22 rfl ?_
      refine E_aload pf_114_24 rfl ?_
      refine E_iconst pf_114_25 ?_
      refine E_iload pf_114_26 rfl ?_
      refine E_imul pf_114_27 ?_
      refine E_iload pf_114_28 rfl ?_
      refine E_iadd pf_114_30 ?_
      refine F_iald pf_114_31 rfl (by omega) ?_
      refine E_aload pf_114_32 rfl ?_
      refine F_getf pf_114_33 rfl rfl rfl ?_
      refine E_iconst pf_114_36 ?_
      refine E_iload pf_114_37 rfl ?_
      refine E_imul pf_114_38 ?_
      refine E_iload pf_114_39 rfl ?_
      refine E_iadd pf_114_41 ?_
      refine F_iald pf_114_42 rfl (by omega) ?_
      refine E_imul pf_114_43 ?_
      refine E_iadd pf_114_44 ?_
      refine E_istore (lv' := [_, _, _, _, _, _]) pf_114_45 rfl rfl ?_
      refine E_iinc (lv' := [_, _, _, _, _, _]) pf_114_47 rfl rfl ?_
      refine E_goto pf_114_50 ?_
      exact ih
  refine E_aload pf_114_0 rfl ?_
  refine E_iconst pf_114_1 ?_
  refine E_iload pf_114_2 rfl ?_
  refine E_imul pf_114_3 ?_
  refine E_iconst pf_114_4 ?_
  refine E_iadd pf_114_5 ?_
  refine F_iald pf_114_6 rfl (by omega) ?_
  refine E_ineg pf_114_7 ?_
  refine E_istore (lv' := [_, _, _, _, _, _]) pf_114_8 rfl rfl ?_
  refine E_iconst pf_114_10 ?_
  refine E_istore (lv' := [_, _, _, _, _, _]) pf_114_11 rfl rfl ?_
  have h0 := loop dn 0 (by omega)
  have e0 : zA r P 0 q v = - r (5 * q + 4) := by unfold zA; simp only [zs]; omega
  rw [e0] at h0
  exact h0
theorem c115t (hp : pgk (vn : Int) r m) (hP : ppk P dn vn rn) : ∀ h, Ca 115 [.ref 102, .ref 108] (wd [(102, oX6 rf ts sp (dn : Int) k (vn : Int) (rn : Int) rd rk rv rr ac), (104, ar 128 P), (108, ar 72 r)] h) (.inl (some (.long (ll (zV r P m dn rn)))), wd [(102, oX6 rf ts sp (dn : Int) k (vn : Int) (rn : Int) rd rk rv rr ac), (104, ar 128 P), (108, ar 72 r)] h) := by
  intro h
  refine E_in (lv := [_, _, _, _, _, _, _]) rfl ?_
  have hvn := hP.2.1
  have hrn := hP.2.2.1
  have loop : ∀ (n i : Nat) (w5 w6 : Value), i + n = rn → Rn 115 5 [.ref 102, .ref 108, .long (ll (zV r P m dn i)), pd_dum, .int (ii (i : Int)), w5, w6] [] (wd [(102, oX6 rf ts sp (dn : Int) k (vn : Int) (rn : Int) rd rk rv rr ac), (104, ar 128 P), (108, ar 72 r)] h) (.inl (some (.long (ll (zV r P m dn rn)))), wd [(102, oX6 rf ts sp (dn : Int) k (vn : Int) (rn : Int) rd rk rv rr ac), (104, ar 128 P), (108, ar 72 r)] h) := by
    intro n
    induction n with
    | zero =>
      intro i w5 w6 hi
      obtain rfl : i = rn := by omega
      refine E_iload pf_115_5 rfl ?_
      refine E_aload pf_115_7 rfl ?_
      refine F_getf pf_115_8 rfl rfl rfl ?_
      refine E_icmp_ge_t pf_115_11 (by omega) ?_
      refine E_lload pf_115_38 rfl ?_
      exact E_lret pf_115_39 rfl
    | succ n ih =>
      intro i w5 w6 hi
      have ih := ih (i + 1)
      have hb := zR_le hp hP (k := i) (by omega)
      refine E_iload pf_115_5 rfl ?_
      refine E_aload pf_115_7 rfl ?_
      refine F_getf pf_115_8 rfl rfl rfl ?_
      refine E_icmp_ge_f pf_115_11 (by omega) ?_
      refine E_aload pf_115_14 rfl ?_
      refine E_aload pf_115_15 rfl ?_
      refine E_iload pf_115_16 rfl ?_
      refine F_v3v0 pf_115_18 (c113t hp hP rfl (by omega) (by omega)) (And.intro rfl (And.intro rfl (And.intro rfl (trivial)))) rfl rfl ?_
      refine E_i2l pf_115_21 (by omega) ?_
      refine E_lstore (lv' := [_, _, _, _, _, _, _]) pf_115_22 rfl rfl ?_
      refine E_lload pf_115_24 rfl ?_
      refine E_lload pf_115_25 rfl ?_
      refine E_lload pf_115_27 rfl ?_
      refine E_lmul pf_115_29 ?_
      refine E_ladd pf_115_30 ?_
      refine E_lstore (lv' := [_, _, _, _, _, _, _]) pf_115_31 rfl rfl ?_
      refine E_iinc (lv' := [_, _, _, _, _, _, _]) pf_115_32 rfl rfl ?_
      refine E_goto pf_115_35 ?_
      exact ih _ _ (by omega)
  refine E_lconst pf_115_0 ?_
  refine E_lstore (lv' := [_, _, _, _, _, _, _]) pf_115_1 rfl rfl ?_
  refine E_iconst pf_115_2 ?_
  refine E_istore (lv' := [_, _, _, _, _, _, _]) pf_115_3 rfl rfl ?_
  exact loop rn 0 _ _ (by omega)
theorem c116t {j : Int} (hp : pgk (vn : Int) r m) (hP : ppk P dn vn rn) (hj : 0 ≤ j ∧ j < 4) : ∀ h, Ca 116 [.ref 102, .ref 108, .int (ii j)] (wd [(102, oX6 rf ts sp (dn : Int) k (vn : Int) (rn : Int) rd rk rv rr ac), (104, ar 128 P), (108, ar 72 r)] h) (.inl (some (.long (ll (zSl r P m dn rn j)))), wd [(102, oX6 rf ts sp (dn : Int) k (vn : Int) (rn : Int) rd rk rv rr ac), (104, ar 128 P), (108, ar 72 r)] h) := by
  intro h
  refine E_in (lv := [_, _, _, _, _, _]) rfl ?_
  have hvn := hP.2.1
  have hrn := hP.2.2.1
  have loop : ∀ (n i : Nat), i + n = rn → Rn 116 5 [.ref 102, .ref 108, .int (ii j), .long (ll (zSl r P m dn i j)), pd_dum, .int (ii (i : Int))] [] (wd [(102, oX6 rf ts sp (dn : Int) k (vn : Int) (rn : Int) rd rk rv rr ac), (104, ar 128 P), (108, ar 72 r)] h) (.inl (some (.long (ll (zSl r P m dn rn j)))), wd [(102, oX6 rf ts sp (dn : Int) k (vn : Int) (rn : Int) rd rk rv rr ac), (104, ar 128 P), (108, ar 72 r)] h) := by
    intro n
    induction n with
    | zero =>
      intro i hi
      obtain rfl : i = rn := by omega
      refine E_iload pf_116_5 rfl ?_
      refine E_aload pf_116_7 rfl ?_
      refine F_getf pf_116_8 rfl rfl rfl ?_
      refine E_icmp_ge_t pf_116_11 (by omega) ?_
      refine E_lload pf_116_45 rfl ?_
      exact E_lret pf_116_46 rfl
    | succ n ih =>
      intro i hi
      have ih := ih (i + 1) (by omega)
      have hb := zR_le hp hP (k := i) (by omega)
      have hb2 := hp.2.2.2.1 i j (by omega) (by omega) hj.1 hj.2
      refine E_iload pf_116_5 rfl ?_
      refine E_aload pf_116_7 rfl ?_
      refine F_getf pf_116_8 rfl rfl rfl ?_
      refine E_icmp_ge_f pf_116_11 (by omega) ?_
      refine E_lload pf_116_14 rfl ?_
      refine E_lconst pf_116_15 ?_
      refine E_aload pf_116_18 rfl ?_
      refine E_aload pf_116_19 rfl ?_
      refine E_iload pf_116_20 rfl ?_
      refine F_v3v0 pf_116_22 (c113t hp hP rfl (by omega) (by omega)) (And.intro rfl (And.intro rfl (And.intro rfl (trivial)))) rfl rfl ?_
      refine E_i2l pf_116_25 (by omega) ?_
      refine E_lmul pf_116_26 ?_
      refine E_aload pf_116_27 rfl ?_
      refine E_iconst pf_116_28 ?_
      refine E_iload pf_116_29 rfl ?_
      refine E_imul pf_116_31 ?_
      refine E_iload pf_116_32 rfl ?_
      refine E_iadd pf_116_33 ?_
      refine F_iald pf_116_34 rfl (by omega) ?_
      refine E_i2l pf_116_35 (by omega) ?_
      refine E_lmul pf_116_36 ?_
      refine E_ladd pf_116_37 ?_
      refine E_lstore (lv' := [_, _, _, _, _, _]) pf_116_38 rfl rfl ?_
      refine E_iinc (lv' := [_, _, _, _, _, _]) pf_116_39 rfl rfl ?_
      refine E_goto pf_116_42 ?_
      exact ih
  refine E_lconst pf_116_0 ?_
  refine E_lstore (lv' := [_, _, _, _, _, _]) pf_116_1 rfl rfl ?_
  refine E_iconst pf_116_2 ?_
  refine E_istore (lv' := [_, _, _, _, _, _]) pf_116_3 rfl rfl ?_
  exact loop rn 0 (by omega)
theorem c117t {v : Int} (hp : pgk (vn : Int) r m) (hP : ppk P dn vn rn) (hv : 0 ≤ v ∧ v < 24) : ∀ h, Ca 117 [.ref 102, .ref 108, .int (ii v)] (wd [(102, oX6 rf ts sp (dn : Int) k (vn : Int) (rn : Int) rd rk rv rr ac), (104, ar 128 P), (108, ar 72 r)] h) (.inl (some (.long (ll (zSv r P m dn rn v)))), wd [(102, oX6 rf ts sp (dn : Int) k (vn : Int) (rn : Int) rd rk rv rr ac), (104, ar 128 P), (108, ar 72 r)] h) := by
  intro h
  refine E_in (lv := [_, _, _, _, _, _]) rfl ?_
  have hdn := hP.1
  have loop : ∀ (n i : Nat), i + n = dn → Rn 117 5 [.ref 102, .ref 108, .int (ii v), .long (ll (zs (fun j => P (4 * v + j) * zSl r P m dn rn j) i)), pd_dum, .int (ii (i : Int))] [] (wd [(102, oX6 rf ts sp (dn : Int) k (vn : Int) (rn : Int) rd rk rv rr ac), (104, ar 128 P), (108, ar 72 r)] h) (.inl (some (.long (ll (zSv r P m dn rn v)))), wd [(102, oX6 rf ts sp (dn : Int) k (vn : Int) (rn : Int) rd rk rv rr ac), (104, ar 128 P), (108, ar 72 r)] h) := by
    intro n
    induction n with
    | zero =>
      intro i hi
      obtain rfl : i = dn := by omega
      refine E_iload pf_117_5 rfl ?_
      refine E_aload pf_117_7 rfl ?_
      refine F_getf pf_117_8 rfl rfl rfl ?_
      refine E_icmp_ge_t pf_117_11 (by omega) ?_
      refine E_lload pf_117_43 rfl ?_
      exact E_lret pf_117_44 rfl
    | succ n ih =>
      intro i hi
      have ih := ih (i + 1) (by omega)
      have hb := hP.2.2.2 (4 * v + i)
      refine E_iload pf_117_5 rfl ?_
      refine E_aload pf_117_7 rfl ?_
      refine F_getf pf_117_8 rfl rfl rfl ?_
      refine E_icmp_ge_f pf_117_11 (by omega) ?_
      refine E_lload pf_117_14 rfl ?_
      refine E_aload pf_117_15 rfl ?_
      refine F_getf pf_117_16 rfl rfl rfl ?_
      refine E_iconst pf_117_19 ?_
      refine E_iload pf_117_20 rfl ?_
      refine E_imul pf_117_21 ?_
      refine E_iload pf_117_22 rfl ?_
      refine E_iadd pf_117_24 ?_
      refine F_iald pf_117_25 rfl (by omega) ?_
      refine E_i2l pf_117_26 (by omega) ?_
      refine E_aload pf_117_27 rfl ?_
      refine E_aload pf_117_28 rfl ?_
      refine E_iload pf_117_29 rfl ?_
      refine F_v3v0 pf_117_31 (c116t hp hP (by omega)) (And.intro rfl (And.intro rfl (And.intro rfl (trivial)))) rfl rfl ?_
      refine E_lmul pf_117_34 ?_
      refine E_ladd pf_117_35 ?_
      refine E_lstore (lv' := [_, _, _, _, _, _]) pf_117_36 rfl rfl ?_
      refine E_iinc (lv' := [_, _, _, _, _, _]) pf_117_37 rfl rfl ?_
      refine E_goto pf_117_40 ?_
      exact ih
  refine E_lconst pf_117_0 ?_
  refine E_lstore (lv' := [_, _, _, _, _, _]) pf_117_1 rfl rfl ?_
  refine E_iconst pf_117_2 ?_
  refine E_istore (lv' := [_, _, _, _, _, _]) pf_117_3 rfl rfl ?_
  exact loop dn 0 (by omega)
theorem c118t (hp : pgk (vn : Int) r m) (hP : ppk P dn vn rn) : ∀ h, Ca 118 [.ref 102, .ref 108] (wd [(102, oX6 rf ts sp (dn : Int) k (vn : Int) (rn : Int) rd rk rv rr ac), (104, ar 128 P), (108, ar 72 r)] h) (.inl (some (.int (ii (zBest r P m dn rn vn)))), wd [(102, oX6 rf ts sp (dn : Int) k (vn : Int) (rn : Int) rd rk rv rr ac), (104, ar 128 P), (108, ar 72 r)] h) := by
  intro h
  refine E_in (lv := [_, _, _, _]) rfl ?_
  have hvn := hP.2.1
  have loop : ∀ (n i : Nat), i + n = vn - 1 → Rn 118 4 [.ref 102, .ref 108, .int (ii (zam (zSv r P m dn rn) i)), .int (ii ((i + 1 : Nat) : Int))] [] (wd [(102, oX6 rf ts sp (dn : Int) k (vn : Int) (rn : Int) rd rk rv rr ac), (104, ar 128 P), (108, ar 72 r)] h) (.inl (some (.int (ii (zBest r P m dn rn vn)))), wd [(102, oX6 rf ts sp (dn : Int) k (vn : Int) (rn : Int) rd rk rv rr ac), (104, ar 128 P), (108, ar 72 r)] h) := by
    intro n
    induction n with
    | zero =>
      intro i hi
      obtain rfl : i = vn - 1 := by omega
      refine E_iload pf_118_4 rfl ?_
      refine E_aload pf_118_5 rfl ?_
      refine F_getf pf_118_6 rfl rfl rfl ?_
      refine E_icmp_ge_t pf_118_9 (by omega) ?_
      refine E_iload pf_118_40 rfl ?_
      exact E_iret pf_118_41 rfl
    | succ n ih =>
      intro i hi
      have ih := ih (i + 1) (by omega)
      have hb1 := zSv_le hp hP ((i + 1 : Nat) : Int)
      have hb2 := zSv_le hp hP (zam (zSv r P m dn rn) i)
      have hz := zam_in (zSv r P m dn rn) i
      by_cases hc : zSv r P m dn rn ((i + 1 : Nat) : Int) < zSv r P m dn rn (zam (zSv r P m dn rn) i)
      · have e1 : zam (zSv r P m dn rn) (i + 1) = ((i + 1 : Nat) : Int) := by simp only [zam]; rw [if_pos hc]
        rw [e1] at ih
        refine E_iload pf_118_4 rfl ?_
        refine E_aload pf_118_5 rfl ?_
        refine F_getf pf_118_6 rfl rfl rfl ?_
        refine E_icmp_ge_f pf_118_9 (by omega) ?_
        refine E_aload pf_118_12 rfl ?_
        refine E_aload pf_118_13 rfl ?_
        refine E_iload pf_118_14 rfl ?_
        refine F_v3v0 pf_118_15 (c117t hp hP (by omega)) (And.intro rfl (And.intro rfl (And.intro rfl (trivial)))) rfl rfl ?_
        refine E_aload pf_118_18 rfl ?_
        refine E_aload pf_118_19 rfl ?_
        refine E_iload pf_118_20 rfl ?_
        refine F_v3v0 pf_118_21 (c117t hp hP (by omega)) (And.intro rfl (And.intro rfl (And.intro rfl (trivial)))) rfl rfl ?_
        refine E_lcmp_ge_f pf_118_24 pf_118_25 (by omega) ?_
        refine E_iload pf_118_28 rfl ?_
        refine E_goto pf_118_29 ?_
        refine E_istore (lv' := [_, _, _, _]) pf_118_33 rfl rfl ?_
        refine E_iinc (lv' := [_, _, _, _]) pf_118_34 rfl rfl ?_
        refine E_goto pf_118_37 ?_
        exact ih
      · have e1 : zam (zSv r P m dn rn) (i + 1) = zam (zSv r P m dn rn) i := by simp only [zam]; rw [if_neg hc]
        rw [e1] at ih
        refine E_iload pf_118_4 rfl ?_
        refine E_aload pf_118_5 rfl ?_
        refine F_getf pf_118_6 rfl rfl rfl ?_
        refine E_icmp_ge_f pf_118_9 (by omega) ?_
        refine E_aload pf_118_12 rfl ?_
        refine E_aload pf_118_13 rfl ?_
        refine E_iload pf_118_14 rfl ?_
        refine F_v3v0 pf_118_15 (c117t hp hP (by omega)) (And.intro rfl (And.intro rfl (And.intro rfl (trivial)))) rfl rfl ?_
        refine E_aload pf_118_18 rfl ?_
        refine E_aload pf_118_19 rfl ?_
        refine E_iload pf_118_20 rfl ?_
        refine F_v3v0 pf_118_21 (c117t hp hP (by omega)) (And.intro rfl (And.intro rfl (And.intro rfl (trivial)))) rfl rfl ?_
        refine E_lcmp_ge_t pf_118_24 pf_118_25 (by omega) ?_
        refine E_iload pf_118_32 rfl ?_
        refine E_istore (lv' := [_, _, _, _]) pf_118_33 rfl rfl ?_
        refine E_iinc (lv' := [_, _, _, _]) pf_118_34 rfl rfl ?_
        refine E_goto pf_118_37 ?_
        exact ih
  refine E_iconst pf_118_0 ?_
  refine E_istore (lv' := [_, _, _, _]) pf_118_1 rfl rfl ?_
  refine E_iconst pf_118_2 ?_
  refine E_istore (lv' := [_, _, _, _]) pf_118_3 rfl rfl ?_
  exact loop (vn - 1) 0 (by omega)
theorem c119t (hp : pgk (vn : Int) r m) (hP : ppk P dn vn rn) : ∀ h, Ca 119 [.ref 102, .ref 108] (wd [(102, oX6 rf ts sp (dn : Int) k (vn : Int) (rn : Int) rd rk rv rr ac), (104, ar 128 P), (108, ar 72 r)] h) (.inl (some (.int (ii (zWorst r P m dn rn)))), wd [(102, oX6 rf ts sp (dn : Int) k (vn : Int) (rn : Int) rd rk rv rr ac), (104, ar 128 P), (108, ar 72 r)] h) := by
  intro h
  refine E_in (lv := [_, _, _, _]) rfl ?_
  have hvn := hP.2.1
  obtain ⟨h68, hm, hat, -, -⟩ := id hp
  have loop : ∀ (n i : Nat), i + n = m - 1 → Rn 119 4 [.ref 102, .ref 108, .int (ii (zax (fun i => zSv r P m dn rn (r (20 + i))) i)), .int (ii ((i + 1 : Nat) : Int))] [] (wd [(102, oX6 rf ts sp (dn : Int) k (vn : Int) (rn : Int) rd rk rv rr ac), (104, ar 128 P), (108, ar 72 r)] h) (.inl (some (.int (ii (zWorst r P m dn rn)))), wd [(102, oX6 rf ts sp (dn : Int) k (vn : Int) (rn : Int) rd rk rv rr ac), (104, ar 128 P), (108, ar 72 r)] h) := by
    intro n
    induction n with
    | zero =>
      intro i hi
      obtain rfl : i = m - 1 := by omega
      refine E_iload pf_119_4 rfl ?_
      refine E_aload pf_119_5 rfl ?_
      refine E_iconst pf_119_6 ?_
      refine F_iald pf_119_8 rfl (by omega) ?_
      refine E_icmp_ge_t pf_119_9 (by omega) ?_
      refine E_iload pf_119_50 rfl ?_
      exact E_iret pf_119_51 rfl
    | succ n ih =>
      intro i hi
      have ih := ih (i + 1) (by omega)
      have hz := zax_in (fun i => zSv r P m dn rn (r (20 + i))) i
      have hq1 := hat ((i + 1 : Nat) : Int) (by omega) (by omega)
      have hq2 := hat (zax (fun i => zSv r P m dn rn (r (20 + i))) i) (by omega) (by omega)
      have hb1 := zSv_le hp hP (r (20 + ((i + 1 : Nat) : Int)))
      have hb2 := zSv_le hp hP (r (20 + zax (fun i => zSv r P m dn rn (r (20 + i))) i))
      by_cases hc : zSv r P m dn rn (r (20 + zax (fun i => zSv r P m dn rn (r (20 + i))) i)) < zSv r P m dn rn (r (20 + ((i + 1 : Nat) : Int)))
      · have e1 : zax (fun i => zSv r P m dn rn (r (20 + i))) (i + 1) = ((i + 1 : Nat) : Int) := by simp only [zax]; rw [if_pos hc]
        rw [e1] at ih
        refine E_iload pf_119_4 rfl ?_
        refine E_aload pf_119_5 rfl ?_
        refine E_iconst pf_119_6 ?_
        refine F_iald pf_119_8 rfl (by omega) ?_
        refine E_icmp_ge_f pf_119_9 (by omega) ?_
        refine E_aload pf_119_12 rfl ?_
        refine E_aload pf_119_13 rfl ?_
        refine E_aload pf_119_14 rfl ?_
        refine E_iconst pf_119_15 ?_
        refine E_iload pf_119_17 rfl ?_
        refine E_iadd pf_119_18 ?_
        refine F_iald pf_119_19 rfl (by omega) ?_
        refine F_v3v0 pf_119_20 (c117t hp hP (by omega)) (And.intro rfl (And.intro rfl (And.intro rfl (trivial)))) rfl rfl ?_
        refine E_aload pf_119_23 rfl ?_
        refine E_aload pf_119_24 rfl ?_
        refine E_aload pf_119_25 rfl ?_
        refine E_iconst pf_119_26 ?_
        refine E_iload pf_119_28 rfl ?_
        refine E_iadd pf_119_29 ?_
        refine F_iald pf_119_30 rfl (by omega) ?_
        refine F_v3v0 pf_119_31 (c117t hp hP (by omega)) (And.intro rfl (And.intro rfl (And.intro rfl (trivial)))) rfl rfl ?_
        refine E_lcmp_le_f pf_119_34 pf_119_35 (by omega) ?_
        refine E_iload pf_119_38 rfl ?_
        refine E_goto pf_119_39 ?_
        refine E_istore (lv' := [_, _, _, _]) pf_119_43 rfl rfl ?_
        refine E_iinc (lv' := [_, _, _, _]) pf_119_44 rfl rfl ?_
        refine E_goto pf_119_47 ?_
        exact ih
      · have e1 : zax (fun i => zSv r P m dn rn (r (20 + i))) (i + 1) = zax (fun i => zSv r P m dn rn (r (20 + i))) i := by simp only [zax]; rw [if_neg hc]
        rw [e1] at ih
        refine E_iload pf_119_4 rfl ?_
        refine E_aload pf_119_5 rfl ?_
        refine E_iconst pf_119_6 ?_
        refine F_iald pf_119_8 rfl (by omega) ?_
        refine E_icmp_ge_f pf_119_9 (by omega) ?_
        refine E_aload pf_119_12 rfl ?_
        refine E_aload pf_119_13 rfl ?_
        refine E_aload pf_119_14 rfl ?_
        refine E_iconst pf_119_15 ?_
        refine E_iload pf_119_17 rfl ?_
        refine E_iadd pf_119_18 ?_
        refine F_iald pf_119_19 rfl (by omega) ?_
        refine F_v3v0 pf_119_20 (c117t hp hP (by omega)) (And.intro rfl (And.intro rfl (And.intro rfl (trivial)))) rfl rfl ?_
        refine E_aload pf_119_23 rfl ?_
        refine E_aload pf_119_24 rfl ?_
        refine E_aload pf_119_25 rfl ?_
        refine E_iconst pf_119_26 ?_
        refine E_iload pf_119_28 rfl ?_
        refine E_iadd pf_119_29 ?_
        refine F_iald pf_119_30 rfl (by omega) ?_
        refine F_v3v0 pf_119_31 (c117t hp hP (by omega)) (And.intro rfl (And.intro rfl (And.intro rfl (trivial)))) rfl rfl ?_
        refine E_lcmp_le_t pf_119_34 pf_119_35 (by omega) ?_
        refine E_iload pf_119_42 rfl ?_
        refine E_istore (lv' := [_, _, _, _]) pf_119_43 rfl rfl ?_
        refine E_iinc (lv' := [_, _, _, _]) pf_119_44 rfl rfl ?_
        refine E_goto pf_119_47 ?_
        exact ih
  refine E_iconst pf_119_0 ?_
  refine E_istore (lv' := [_, _, _, _]) pf_119_1 rfl rfl ?_
  refine E_iconst pf_119_2 ?_
  refine E_istore (lv' := [_, _, _, _]) pf_119_3 rfl rfl ?_
  exact loop (m - 1) 0 (by omega)
theorem c120t (hp : pgk (vn : Int) r m) (hP : ppk P dn vn rn) : ∀ h, Ca 120 [.ref 102, .ref 108] (wd [(102, oX6 rf ts sp (dn : Int) k (vn : Int) (rn : Int) rd rk rv rr ac), (104, ar 128 P), (108, ar 72 r)] h) (.inl (some (.long (ll (zGap r P m dn rn vn)))), wd [(102, oX6 rf ts sp (dn : Int) k (vn : Int) (rn : Int) rd rk rv rr ac), (104, ar 128 P), (108, ar 72 r)] h) := by
  intro h
  refine E_in (lv := [_, _, _, _, _]) rfl ?_
  have hdn := hP.1
  have hvn := hP.2.1
  have hz := zam_in (zSv r P m dn rn) (vn - 1)
  have hbest : 0 ≤ zBest r P m dn rn vn ∧ zBest r P m dn rn vn < 24 := by unfold zBest; omega
  have loop : ∀ (n i : Nat), i + n = dn → Rn 120 18 [.ref 102, .ref 108, .long (ll (-100 * zSv r P m dn rn (zBest r P m dn rn vn) + zs (fun j => zX r P m j * zSl r P m dn rn j) i)), pd_dum, .int (ii (i : Int))] [] (wd [(102, oX6 rf ts sp (dn : Int) k (vn : Int) (rn : Int) rd rk rv rr ac), (104, ar 128 P), (108, ar 72 r)] h) (.inl (some (.long (ll (zGap r P m dn rn vn)))), wd [(102, oX6 rf ts sp (dn : Int) k (vn : Int) (rn : Int) rd rk rv rr ac), (104, ar 128 P), (108, ar 72 r)] h) := by
    intro n
    induction n with
    | zero =>
      intro i hi
      obtain rfl : i = dn := by omega
      refine E_iload pf_120_18 rfl ?_
      refine E_aload pf_120_20 rfl ?_
      refine F_getf pf_120_21 rfl rfl rfl ?_
      refine E_icmp_ge_t pf_120_24 (by omega) ?_
      refine E_lload pf_120_52 rfl ?_
      exact E_lret pf_120_53 rfl
    | succ n ih =>
      intro i hi
      have ih := ih (i + 1) (by omega)
      have hb := zX_le hp hP.2.2.2 (i : Int)
      simp only [zs, ← Int.add_assoc] at ih
      refine E_iload pf_120_18 rfl ?_
      refine E_aload pf_120_20 rfl ?_
      refine F_getf pf_120_21 rfl rfl rfl ?_
      refine E_icmp_ge_f pf_120_24 (by omega) ?_
      refine E_lload pf_120_27 rfl ?_
      refine E_aload pf_120_28 rfl ?_
      refine E_aload pf_120_29 rfl ?_
      refine E_iload pf_120_30 rfl ?_
      refine F_v3v0 pf_120_32 (c112t hp (by omega) (by omega)) (And.intro rfl (And.intro rfl (And.intro rfl (trivial)))) rfl rfl ?_
      refine E_i2l pf_120_35 (by omega) ?_
      refine E_aload pf_120_36 rfl ?_
      refine E_aload pf_120_37 rfl ?_
      refine E_iload pf_120_38 rfl ?_
      refine F_v3v0 pf_120_40 (c116t hp hP (by omega)) (And.intro rfl (And.intro rfl (And.intro rfl (trivial)))) rfl rfl ?_
      refine E_lmul pf_120_43 ?_
      refine E_ladd pf_120_44 ?_
      refine E_lstore (lv' := [_, _, _, _, _]) pf_120_45 rfl rfl ?_
      refine E_iinc (lv' := [_, _, _, _, _]) pf_120_46 rfl rfl ?_
      refine E_goto pf_120_49 ?_
      exact ih
  refine E_lconst pf_120_0 ?_
  refine E_aload pf_120_3 rfl ?_
  refine E_aload pf_120_4 rfl ?_
  refine E_aload pf_120_5 rfl ?_
  refine E_aload pf_120_6 rfl ?_
  refine F_v2v0 pf_120_7 (c118t hp hP) (And.intro rfl (And.intro rfl (And.intro rfl (trivial)))) rfl rfl ?_
  refine F_v3v0 pf_120_10 (c117t hp hP (by omega)) (And.intro rfl (And.intro rfl (And.intro rfl (trivial)))) rfl rfl ?_
  refine E_lmul pf_120_13 ?_
  refine E_lstore (lv' := [_, _, _, _, _]) pf_120_14 rfl rfl ?_
  refine E_iconst pf_120_15 ?_
  refine E_istore (lv' := [_, _, _, _, _]) pf_120_16 rfl rfl ?_
  have h0 := loop dn 0 (by omega)
  simp only [zs, Int.add_zero] at h0
  exact h0
end MOD1
