/-! Scaling the units of all atoms but one, rounded by the greatest remainders, on both sides. -/
theorem zu_zu (q : Int → Int) (i x y : Int) : zu (zu q i x) i y = zu q i y := by
  funext k; unfold zu; split <;> rfl
theorem zu_id (q : Int → Int) {i x : Int} (h : q i = x) : zu q i x = q := by
  funext k; unfold zu; split
  · rename_i e; rw [e, h]
  · rfl
theorem zfill_out {q f : Int → Int} {n : Nat} {k : Int} (h : k < 0 ∨ n ≤ k) : zfill q f n k = q k := by unfold zfill; rw [if_neg (by omega)]
def sU (U : Int → Int) (up lo ex i : Int) : Int := if i = ex then U i else U i * up / lo
def sG (U : Int → Int) (up lo ex i : Int) : Int := if i = ex then 0 else U i * up / lo
def sA (U : Int → Int) (ex i : Int) : Int := if i = ex then 0 else U i
def sL (U : Int → Int) (up lo ex i : Int) : Int := if i = ex then 0 else U i * up % lo
def sQ (mk : Int) (U : Int → Int) (up lo ex i : Int) : Int := if i = ex then mk else U i * up % lo
def inU (mk : Int) (m : Nat) : Nat → (Int → Int) → (Int → Int) → Int → Int
  | 0, _, U => U
  | n + 1, Q, U => inU mk m n (zu Q (zax Q (m - 1)) mk) (zu U (zax Q (m - 1)) (U (zax Q (m - 1)) + 1))
def inQ (mk : Int) (m : Nat) : Nat → (Int → Int) → Int → Int
  | 0, Q => Q
  | n + 1, Q => inQ mk m n (zu Q (zax Q (m - 1)) mk)
def scl (A : List (Int × Int)) (up lo ex : Int) : List (Int × Int) :=
  zl (fun i => (A.getD i.toNat (0, 0)).1) (inU (-9) A.length (zs (sL (fun i => (A.getD i.toNat (0, 0)).2) up lo ex) A.length / lo).toNat (sQ (-9) (fun i => (A.getD i.toNat (0, 0)).2) up lo ex) (sU (fun i => (A.getD i.toNat (0, 0)).2) up lo ex)) A.length
theorem zs_add (f g : Int → Int) (n : Nat) : zs (fun i => f i + g i) n = zs f n + zs g n := by
  induction n with
  | zero => rfl
  | succ n ih => simp only [zs]; rw [ih]; omega
theorem s_key (U : Int → Int) (up lo ex : Int) (m : Nat) : lo * zs (sG U up lo ex) m + zs (sL U up lo ex) m = zs (sA U ex) m * up := by
  induction m with
  | zero => simp [zs]
  | succ m ih =>
    simp only [zs, Int.mul_add, Int.add_mul]
    have h : lo * sG U up lo ex m + sL U up lo ex m = sA U ex m * up := by
      unfold sG sL sA
      split
      · simp
      · exact Int.mul_ediv_add_emod _ _
    omega
theorem sL_nn {U : Int → Int} {up lo ex : Int} (hl : 0 < lo) (i : Int) : 0 ≤ sL U up lo ex i ∧ sL U up lo ex i ≤ lo - 1 := by
  unfold sL
  split
  · omega
  · have := Int.emod_nonneg (U i * up) (show lo ≠ 0 by omega)
    have := Int.emod_lt_of_pos (U i * up) hl
    omega
theorem zs_nn {f : Int → Int} {n : Nat} (h : ∀ i : Nat, i < n → 0 ≤ f i) : 0 ≤ zs f n := by
  induction n with
  | zero => exact Int.le_refl _
  | succ n ih =>
    have h1 := ih fun i hi => h i (by omega)
    have h2 := h n (by omega)
    simp only [zs]; omega
theorem zs_mono {f g : Int → Int} {n : Nat} (h : ∀ i : Nat, i < n → f i ≤ g i) : zs f n ≤ zs g n := by
  induction n with
  | zero => exact Int.le_refl _
  | succ n ih =>
    have h1 := ih fun i hi => h i (by omega)
    have h2 := h n (by omega)
    simp only [zs]; omega
theorem s_mis {U : Int → Int} {up lo ex : Int} {m : Nat} (hl : 0 < lo) : zs (sA U ex) m * up / lo - zs (sG U up lo ex) m = zs (sL U up lo ex) m / lo := by
  rw [← s_key, Int.add_comm, Int.add_mul_ediv_left _ _ (by omega)]; omega
theorem zax_max (Q : Int → Int) (n : Nat) : ∀ i : Nat, i ≤ n → Q i ≤ Q (zax Q n) := by
  induction n with
  | zero => intro i hi; obtain rfl : i = 0 := by omega
            exact Int.le_refl _
  | succ n ih =>
    intro i hi
    simp only [zax]
    by_cases e : i = n + 1
    · subst e; split
      · exact Int.le_refl _
      · omega
    · have := ih i (by omega)
      split
      · omega
      · exact this
/-- how many may still be chosen -/
def cn (Q : Int → Int) (m : Nat) : Int := zs (fun i => if 0 ≤ Q i then 1 else 0) m
theorem cn_pos {Q : Int → Int} {m : Nat} (h : 0 < cn Q m) : 0 ≤ Q (zax Q (m - 1)) := by
  rcases Int.lt_or_le (Q (zax Q (m - 1))) 0 with g | g
  · have : cn Q m ≤ 0 := by
      have : cn Q m ≤ zs (fun _ => 0) m := zs_mono fun i hi => by
        have := zax_max Q (m - 1) i (by omega)
        rw [if_neg (by omega)]; exact Int.le_refl _
      have e : zs (fun _ => 0) m = 0 := by
        clear this h g
        induction m with
        | zero => rfl
        | succ m ih => simp only [zs, ih]; rfl
      omega
    omega
  · exact g
theorem zs_zu (f : Int → Int) (i x : Int) (m : Nat) : 0 ≤ i → i < m → zs (zu f i x) m = zs f m - f i + x := by
  induction m with
  | zero => intro h1 h2; omega
  | succ m ih =>
    intro h1 h2
    simp only [zs]
    by_cases e : i = m
    · have : zs (zu f i x) m = zs f m := zs_congr fun k hk => zu_n _ _ (by omega)
      rw [this, e, zu_s]; omega
    · rw [ih h1 (by omega), zu_n _ _ (by omega)]; omega
theorem cn_zu {Q : Int → Int} {m : Nat} {i mk : Int} (hi : 0 ≤ i ∧ i < m) (h : 0 ≤ Q i) (hk : mk < 0) : cn (zu Q i mk) m = cn Q m - 1 := by
  have e : cn (zu Q i mk) m = zs (zu (fun i => if 0 ≤ Q i then (1 : Int) else 0) i 0) m := zs_congr fun k _ => by
    show (if 0 ≤ zu Q i mk k then (1 : Int) else 0) = zu _ i 0 k
    unfold zu
    by_cases g : (k : Int) = i
    · rw [if_pos g, if_pos g, if_neg (by omega)]
    · rw [if_neg g, if_neg g]
  rw [e, zs_zu _ _ _ _ hi.1 hi.2]
  show cn Q m - (if 0 ≤ Q i then 1 else 0) + 0 = _
  rw [if_pos h]; omega
/-- the marks do not matter -/
def qrel (m : Nat) (Q Q' : Int → Int) : Prop := ∀ i : Int, 0 ≤ i → i < m → Q i = Q' i ∨ (Q i < 0 ∧ Q' i < 0)
theorem qrel_zax {m : Nat} {Q Q' : Int → Int} (h : qrel m Q Q') : ∀ n : Nat, n < m → (Q (zax Q n) < 0 ∧ Q' (zax Q' n) < 0) ∨ (zax Q n = zax Q' n ∧ 0 ≤ Q (zax Q n) ∧ Q (zax Q n) = Q' (zax Q' n)) := by
  intro n
  induction n with
  | zero =>
    intro hn
    have := h 0 (by omega) (by omega)
    show (Q 0 < 0 ∧ Q' 0 < 0) ∨ ((0 : Int) = 0 ∧ 0 ≤ Q 0 ∧ Q 0 = Q' 0)
    rcases this with g | g
    · by_cases e : 0 ≤ Q 0
      · exact .inr ⟨rfl, e, g⟩
      · exact .inl (by omega)
    · exact .inl g
  | succ n ih =>
    intro hn
    have h1 := ih (by omega)
    have h2 := h ((n + 1 : Nat) : Int) (by omega) (by omega)
    simp only [zax]
    rcases h1 with ⟨a, b⟩ | ⟨a, b, c⟩
    · rcases h2 with g | ⟨g1, g2⟩
      · by_cases e : 0 ≤ Q ((n + 1 : Nat) : Int)
        · rw [if_pos (by omega), if_pos (by omega)]; exact .inr ⟨rfl, e, g⟩
        · refine .inl ⟨?_, ?_⟩
          · split <;> omega
          · split <;> omega
      · refine .inl ⟨?_, ?_⟩
        · split <;> omega
        · split <;> omega
    · rcases h2 with g | ⟨g1, g2⟩
      · by_cases e : Q (zax Q n) < Q ((n + 1 : Nat) : Int)
        · rw [if_pos e, if_pos (by omega)]; exact .inr ⟨rfl, by omega, g⟩
        · rw [if_neg e, if_neg (by omega)]; exact .inr ⟨a, b, c⟩
      · rw [if_neg (by omega), if_neg (by omega)]; exact .inr ⟨a, b, c⟩
theorem qrel_zu {m : Nat} {Q Q' : Int → Int} (h : qrel m Q Q') (i : Int) {mk mk' : Int} (h1 : mk < 0) (h2 : mk' < 0) : qrel m (zu Q i mk) (zu Q' i mk') := by
  intro k hk hk2
  unfold zu
  by_cases e : k = i
  · rw [if_pos e, if_pos e]; exact .inr ⟨h1, h2⟩
  · rw [if_neg e, if_neg e]; exact h k hk hk2
theorem inU_congr {m : Nat} {mk mk' : Int} (h1 : mk < 0) (h2 : mk' < 0) : ∀ (n : Nat) (Q Q' U U' : Int → Int), (n : Int) ≤ cn Q m → qrel m Q Q' → (∀ i : Nat, i < m → U i = U' i) → ∀ i : Nat, i < m → inU mk m n Q U i = inU mk' m n Q' U' i := by
  intro n
  induction n with
  | zero => intro Q Q' U U' _ _ hU i hi; exact hU i hi
  | succ n ih =>
    intro Q Q' U U' hc hq hU i hi
    have hp := cn_pos (Q := Q) (m := m) (by omega)
    have hz := zax_in Q (m - 1)
    have he : zax Q (m - 1) = zax Q' (m - 1) := by
      rcases qrel_zax hq (m - 1) (by omega) with ⟨a, _⟩ | ⟨a, _⟩
      · omega
      · exact a
    simp only [inU]
    refine ih _ _ _ _ ?_ (by rw [he]; exact qrel_zu hq _ h1 h2) ?_ i hi
    · rw [cn_zu (by omega) hp h1]; omega
    · intro k hk
      rw [← he]
      unfold zu
      split
      · rename_i e
        have := hU (zax Q (m - 1)).toNat (by omega)
        rw [Int.toNat_of_nonneg hz.1] at this
        rw [this]
      · exact hU k hk
theorem inU_sum {m : Nat} {mk : Int} (hm : 1 ≤ m) : ∀ (n : Nat) (Q U : Int → Int), zs (inU mk m n Q U) m = zs U m + n := by
  intro n
  induction n with
  | zero => intro Q U; simp [inU]
  | succ n ih =>
    intro Q U
    have hz := zax_in Q (m - 1)
    simp only [inU]
    rw [ih, zs_zu _ _ _ _ hz.1 (by omega)]; omega
theorem inU_ge {m : Nat} {mk : Int} : ∀ (n : Nat) (Q U : Int → Int) (i : Int), U i ≤ inU mk m n Q U i := by
  intro n
  induction n with
  | zero => intro Q U i; exact Int.le_refl _
  | succ n ih =>
    intro Q U i
    simp only [inU]
    refine Int.le_trans ?_ (ih _ _ i)
    unfold zu; split
    · rename_i e; rw [e]; omega
    · exact Int.le_refl _
theorem sQ_cn {U : Int → Int} {up lo ex mk : Int} {m : Nat} (hl : 0 < lo) (hk : mk < 0) : zs (sL U up lo ex) m / lo ≤ cn (sQ mk U up lo ex) m := by
  refine Int.ediv_le_of_le_mul hl ?_
  clear hk
  induction m with
  | zero => simp [zs, cn]
  | succ m ih =>
    have e : cn (sQ mk U up lo ex) (m + 1) = cn (sQ mk U up lo ex) m + (if 0 ≤ sQ mk U up lo ex m then 1 else 0) := rfl
    rw [e, Int.add_mul]
    have h1 := sL_nn (U := U) (up := up) (ex := ex) hl m
    have h2 : sL U up lo ex m ≤ (if 0 ≤ sQ mk U up lo ex m then 1 else 0) * lo := by
      by_cases g : (m : Int) = ex
      · have : sL U up lo ex m = 0 := by unfold sL; rw [if_pos g]
        split <;> omega
      · have : sQ mk U up lo ex m = sL U up lo ex m := by unfold sL sQ; rw [if_neg g, if_neg g]
        rw [this, if_pos h1.1]; omega
    simp only [zs]; omega
theorem cn_congr {Q Q' : Int → Int} {m : Nat} (h : ∀ i : Nat, i < m → Q i = Q' i) : cn Q m = cn Q' m := zs_congr fun k hk => by
  show (if 0 ≤ Q k then (1 : Int) else 0) = if 0 ≤ Q' k then 1 else 0
  rw [h k hk]
/-- the scaled mixture, from any arrays and marks -/
theorem scl_eq {V U Q2 U2 : Int → Int} {m : Nat} {up lo ex mk : Int} (hl : 0 < lo) (hk : mk < 0) (hQ : ∀ i : Nat, i < m → Q2 i = sQ mk U up lo ex i) (hU : ∀ i : Nat, i < m → U2 i = sU U up lo ex i) : zl V (inU mk m (zs (sL U up lo ex) m / lo).toNat Q2 U2) m = scl (zl V U m) up lo ex := by
  unfold scl
  rw [zl_len]
  have hD : ∀ i : Nat, i < m → (zl V U m).getD i (0, 0) = (V i, U i) := fun i hi => by rw [List.getD_eq_getElem?_getD, zl_get hi]; rfl
  have eL : zs (sL (fun i => ((zl V U m).getD i.toNat (0, 0)).2) up lo ex) m = zs (sL U up lo ex) m := zs_congr fun k hk => by
    unfold sL
    simp only [Int.toNat_natCast, hD k hk]
  rw [eL]
  refine zl_congr fun i hi => ⟨by simp only [Int.toNat_natCast, hD i hi], ?_⟩
  refine inU_congr hk (by omega) _ _ _ _ _ ?_ ?_ ?_ i hi
  · rw [cn_congr hQ]
    have h1 := sQ_cn (U := U) (up := up) (ex := ex) (mk := mk) (m := m) hl hk
    have h2 : 0 ≤ zs (sL U up lo ex) m / lo := Int.ediv_nonneg (zs_nn fun i _ => (sL_nn hl i).1) (by omega)
    omega
  · intro k h1 h2
    have := hQ k.toNat (by omega)
    have hd := hD k.toNat (by omega)
    rw [Int.toNat_of_nonneg h1] at this hd
    rw [this]
    unfold sQ
    split
    · exact .inr ⟨hk, by omega⟩
    · left
      show U k * up % lo = ((zl V U m).getD k.toNat (0, 0)).2 * up % lo
      rw [hd]
  · intro k hk
    rw [hU k hk]
    unfold sU
    simp only [Int.toNat_natCast, hD k hk]
section SCL
variable {R V U Q r : Int → Int} {m rn vn : Nat} {st dr pu be : Int}
theorem c20 (hm : 1 ≤ m ∧ m ≤ 24) (hQ : ∀ i : Int, 0 ≤ i → i < m → -9 ≤ Q i ∧ Q i ≤ 1000) : ∀ h, Ca 20 [.ref 18, .int (ii (m : Int))] (wd [(18, oD pu be), (23, ar 24 Q)] h) (.inl (some (.int (ii (zax Q (m - 1))))), wd [(18, oD pu be), (23, ar 24 Q)] h) := by
  have loop : ∀ (k n : Nat), n + 1 + k = m → ∀ h, Rn 20 4 [.ref 18, .int (ii (m : Int)), .int (ii (zax Q n)), .int (ii ((n + 1 : Nat) : Int))] [] (wd [(18, oD pu be), (23, ar 24 Q)] h) (.inl (some (.int (ii (zax Q (m - 1))))), wd [(18, oD pu be), (23, ar 24 Q)] h) := by
    intro k
    induction k with
    | zero =>
      intro n hn h
      obtain rfl : n = m - 1 := by omega
      refine E_iload pf_20_4 rfl ?_
      refine E_iload pf_20_5 rfl ?_
      refine E_icmp_ge_t pf_20_6 (by omega) ?_
      refine E_iload pf_20_32 rfl ?_
      exact E_iret pf_20_33 rfl
    | succ k ih =>
      intro n hn h
      have hz := zax_in Q n
      have b1 := hQ (zax Q n) hz.1 (by omega)
      have b2 := hQ ((n + 1 : Nat) : Int) (by omega) (by omega)
      have h2 := ih (n + 1) (by omega) h
      simp only [zax] at h2
      by_cases e : Q (zax Q n) < Q ((n + 1 : Nat) : Int)
      · rw [if_pos e] at h2
        refine E_iload pf_20_4 rfl ?_
        refine E_iload pf_20_5 rfl ?_
        refine E_icmp_ge_f pf_20_6 (by omega) ?_
        refine E_aload pf_20_9 rfl ?_
        refine F_getf pf_20_10 rfl rfl rfl ?_
        refine E_iload pf_20_13 rfl ?_
        refine F_iald pf_20_14 rfl (by omega) ?_
        refine E_aload pf_20_15 rfl ?_
        refine F_getf pf_20_16 rfl rfl rfl ?_
        refine E_iload pf_20_19 rfl ?_
        refine F_iald pf_20_20 rfl (by omega) ?_
        refine E_icmp_le_f pf_20_21 (by omega) ?_
        refine E_iload pf_20_24 rfl ?_
        refine E_istore (lv' := [_, _, _, _]) pf_20_25 rfl rfl ?_
        refine E_iinc (lv' := [_, _, _, _]) pf_20_26 rfl rfl ?_
        refine E_goto pf_20_29 ?_
        exact h2
      · rw [if_neg e] at h2
        refine E_iload pf_20_4 rfl ?_
        refine E_iload pf_20_5 rfl ?_
        refine E_icmp_ge_f pf_20_6 (by omega) ?_
        refine E_aload pf_20_9 rfl ?_
        refine F_getf pf_20_10 rfl rfl rfl ?_
        refine E_iload pf_20_13 rfl ?_
        refine F_iald pf_20_14 rfl (by omega) ?_
        refine E_aload pf_20_15 rfl ?_
        refine F_getf pf_20_16 rfl rfl rfl ?_
        refine E_iload pf_20_19 rfl ?_
        refine F_iald pf_20_20 rfl (by omega) ?_
        refine E_icmp_le_t pf_20_21 (by omega) ?_
        refine E_iinc (lv' := [_, _, _, _]) pf_20_26 rfl rfl ?_
        refine E_goto pf_20_29 ?_
        exact h2
  intro h
  refine E_in (lv := [_, _, _, _]) rfl ?_
  refine E_iconst pf_20_0 ?_
  refine E_istore (lv' := [_, _, _, _]) pf_20_1 rfl rfl ?_
  refine E_iconst pf_20_2 ?_
  refine E_istore (lv' := [_, _, _, _]) pf_20_3 rfl rfl ?_
  exact loop (m - 1) 0 (by omega) h
theorem c19s {up lo ex : Int} (hm : 1 ≤ m ∧ m ≤ 24) (hU : ∀ i : Nat, i < m → 0 ≤ U i ∧ U i ≤ 100) (hup : 0 ≤ up ∧ up ≤ 100) (hlo : 1 ≤ lo ∧ lo ≤ 100) (hex : -9 ≤ ex ∧ ex ≤ 24) : ∃ (U' Q' : Int → Int), zl V U' m = scl (zl V U m) up lo ex ∧ ∀ h, Ca 19 [.ref 18, .ref 24, .int (ii up), .int (ii lo), .int (ii ex)] (wd [(18, oD pu be), (23, ar 24 Q), (24, oS24 (rn : Int) (m : Int) st dr), (27, ar 24 U)] h) (.inl none, wd [(18, oD pu be), (23, ar 24 Q'), (24, oS24 (rn : Int) (m : Int) st dr), (27, ar 24 U')] h) := by
  have loop2 : ∀ (mis : Int), 0 ≤ mis → mis ≤ 2400 → ∀ (lost : Int) (k n : Nat) (Q1 U1 : Int → Int) (l8 : Value), (n : Int) + k = mis → (∀ i : Int, 0 ≤ i → i < m → -9 ≤ Q1 i ∧ Q1 i ≤ 1000) → ∀ h, Rn 19 97 [.ref 18, .ref 24, .int (ii up), .int (ii lo), .int (ii ex), .int (ii lost), .int (ii mis), .int (ii (n : Int)), l8] [] (wd [(18, oD pu be), (23, ar 24 Q1), (24, oS24 (rn : Int) (m : Int) st dr), (27, ar 24 U1)] h) (.inl none, wd [(18, oD pu be), (23, ar 24 (inQ (-9) m k Q1)), (24, oS24 (rn : Int) (m : Int) st dr), (27, ar 24 (inU (-9) m k Q1 U1))] h) := by
    intro mis hmi hmi2 lost k
    induction k with
    | zero =>
      intro n Q1 U1 l8 hn hQ1 h
      refine E_iload pf_19_97 rfl ?_
      refine E_iload pf_19_99 rfl ?_
      refine E_icmp_ge_t pf_19_101 (by omega) ?_
      exact E_vret pf_19_140 rfl
    | succ k ih =>
      intro n Q1 U1 l8 hn hQ1 h
      have hz := zax_in Q1 (m - 1)
      have h2 := ih (n + 1) (zu Q1 (zax Q1 (m - 1)) (-9)) (zu U1 (zax Q1 (m - 1)) (U1 (zax Q1 (m - 1)) + 1)) (.int (ii (zax Q1 (m - 1)))) (by omega) (fun i h1 h2 => by
        unfold zu; split
        · omega
        · exact hQ1 i h1 h2) h
      refine E_iload pf_19_97 rfl ?_
      refine E_iload pf_19_99 rfl ?_
      refine E_icmp_ge_f pf_19_101 (by omega) ?_
      refine E_aload pf_19_104 rfl ?_
      refine E_aload pf_19_105 rfl ?_
      refine F_getf pf_19_106 rfl rfl rfl ?_
      refine F_v2v0 pf_19_109 (c20 hm hQ1) (And.intro rfl (And.intro rfl (trivial))) rfl rfl ?_
      refine E_istore (lv' := [_, _, _, _, _, _, _, _, _]) pf_19_112 rfl rfl ?_
      refine E_aload pf_19_114 rfl ?_
      refine F_getf pf_19_115 rfl rfl rfl ?_
      refine E_iload pf_19_118 rfl ?_
      refine E_dup2 pf_19_120 rfl rfl ?_
      refine F_iald pf_19_121 rfl (by omega) ?_
      refine E_iconst pf_19_122 ?_
      refine E_iadd pf_19_123 ?_
      refine F_iast (l' := [(_, _), (_, _), (_, _), (_, _)]) pf_19_124 rfl (by omega) rfl ?_
      refine E_aload pf_19_125 rfl ?_
      refine F_getf pf_19_126 rfl rfl rfl ?_
      refine E_iload pf_19_129 rfl ?_
      refine E_iconst pf_19_131 ?_
      refine F_iast (l' := [(_, _), (_, _), (_, _), (_, _)]) pf_19_133 rfl (by omega) rfl ?_
      refine E_iinc (lv' := [_, _, _, _, _, _, _, _, _]) pf_19_134 rfl rfl ?_
      refine E_goto pf_19_137 ?_
      exact h2
  have hL : ∀ i : Nat, i ≤ m → 0 ≤ zs (sL U up lo ex) i ∧ zs (sL U up lo ex) i ≤ 2400 := fun i hi => by
    refine ⟨zs_nn fun j _ => (sL_nn (by omega) j).1, ?_⟩
    have := zs_le (f := sL U up lo ex) (n := i) (B := 100) (fun j _ => by have := sL_nn (U := U) (up := up) (lo := lo) (ex := ex) (by omega) j; omega)
    omega
  have loop : ∀ (k i : Nat) (Q1 U1 : Int → Int) (l7 l8 : Value), i + k = m → Q1 = zfill Q (sQ (-9) U up lo ex) i → U1 = zfill U (sU U up lo ex) i → ∀ h, Rn 19 12 [.ref 18, .ref 24, .int (ii up), .int (ii lo), .int (ii ex), .int (ii (zs (sL U up lo ex) i)), .int (ii (i : Int)), l7, l8] [] (wd [(18, oD pu be), (23, ar 24 Q1), (24, oS24 (rn : Int) (m : Int) st dr), (27, ar 24 U1)] h) (.inl none, wd [(18, oD pu be), (23, ar 24 (inQ (-9) m (zs (sL U up lo ex) m / lo).toNat (zfill Q (sQ (-9) U up lo ex) m))), (24, oS24 (rn : Int) (m : Int) st dr), (27, ar 24 (inU (-9) m (zs (sL U up lo ex) m / lo).toNat (zfill Q (sQ (-9) U up lo ex) m) (zfill U (sU U up lo ex) m)))] h) := by
    intro k
    induction k with
    | zero =>
      intro i Q1 U1 l7 l8 hi hQ1 hU1 h
      obtain rfl : i = m := by omega
      have hb := hL i (Nat.le_refl _)
      have hd0 : 0 ≤ zs (sL U up lo ex) i / lo := Int.ediv_nonneg hb.1 (by omega)
      have hd1 : zs (sL U up lo ex) i / lo ≤ 2400 := Int.le_trans (Int.ediv_le_self _ hb.1) hb.2
      refine E_iload pf_19_12 rfl ?_
      refine E_aload pf_19_14 rfl ?_
      refine F_getf pf_19_15 rfl rfl rfl ?_
      refine E_icmp_ge_t pf_19_18 (by omega) ?_
      refine E_iload pf_19_88 rfl ?_
      refine E_iload pf_19_90 rfl ?_
      refine E_idiv pf_19_91 (by omega) ?_
      refine E_istore (lv' := [_, _, _, _, _, _, _, _, _]) pf_19_92 rfl rfl ?_
      refine E_iconst pf_19_94 ?_
      refine E_istore (lv' := [_, _, _, _, _, _, _, _, _]) pf_19_95 rfl rfl ?_
      rw [hQ1, hU1]
      exact loop2 _ hd0 hd1 _ (zs (sL U up lo ex) i / lo).toNat 0 _ _ _ (by omega) (fun k h1 h2 => by
        rw [zfill_at (by omega)]
        unfold sQ; split
        · omega
        · have := Int.emod_nonneg (U k * up) (show lo ≠ 0 by omega)
          have := Int.emod_lt_of_pos (U k * up) (show 0 < lo by omega)
          omega) h
    | succ k ih =>
      intro i Q1 U1 l7 l8 hi hQ1 hU1 h
      have hb := hL i (by omega)
      have hu := hU i (by omega)
      have e1 : U1 i = U i := by rw [hU1, zfill_out (by omega)]
      by_cases e : (i : Int) = ex
      · have h2 := ih (i + 1) (zu Q1 i (-9)) U1 l7 l8 (by omega) (by rw [zfill_s, ← hQ1]; unfold sQ; rw [if_pos e]) (by rw [zfill_s, ← hU1]; unfold sU; rw [if_pos e, zu_id _ e1]) h
        have e2 : zs (sL U up lo ex) (i + 1) = zs (sL U up lo ex) i := by
          show zs _ i + sL U up lo ex i = _
          unfold sL; rw [if_pos e]; omega
        rw [e2] at h2
        refine E_iload pf_19_12 rfl ?_
        refine E_aload pf_19_14 rfl ?_
        refine F_getf pf_19_15 rfl rfl rfl ?_
        refine E_icmp_ge_f pf_19_18 (by omega) ?_
        refine E_aload pf_19_21 rfl ?_
        refine F_getf pf_19_22 rfl rfl rfl ?_
        refine E_iload pf_19_25 rfl ?_
        refine E_iconst pf_19_27 ?_
        refine F_iast (l' := [(_, _), (_, _), (_, _), (_, _)]) pf_19_29 rfl (by omega) rfl ?_
        refine E_iload pf_19_30 rfl ?_
        refine E_iload pf_19_32 rfl ?_
        refine E_icmp_eq_t pf_19_34 (by omega) ?_
        refine E_iinc (lv' := [_, _, _, _, _, _, _, _, _]) pf_19_82 rfl rfl ?_
        refine E_goto pf_19_85 ?_
        exact h2
      · have hp0 : 0 ≤ U i * up := Int.mul_nonneg hu.1 hup.1
        have hp1 : U i * up ≤ 10000 := by
          have := Int.mul_le_mul hu.2 hup.2 hup.1 (by omega : (0 : Int) ≤ 100)
          omega
        have h2 := ih (i + 1) (zu Q1 i (U i * up % lo)) (zu U1 i (U i * up / lo)) (.int (ii (U i * up))) l8 (by omega) (by rw [zfill_s, ← hQ1]; unfold sQ; rw [if_neg e]) (by rw [zfill_s, ← hU1]; unfold sU; rw [if_neg e]) h
        have e2 : zs (sL U up lo ex) (i + 1) = zs (sL U up lo ex) i + U i * up % lo := by
          show zs _ i + sL U up lo ex i = _
          unfold sL; rw [if_neg e]
        rw [e2] at h2
        refine E_iload pf_19_12 rfl ?_
        refine E_aload pf_19_14 rfl ?_
        refine F_getf pf_19_15 rfl rfl rfl ?_
        refine E_icmp_ge_f pf_19_18 (by omega) ?_
        refine E_aload pf_19_21 rfl ?_
        refine F_getf pf_19_22 rfl rfl rfl ?_
        refine E_iload pf_19_25 rfl ?_
        refine E_iconst pf_19_27 ?_
        refine F_iast (l' := [(_, _), (_, _), (_, _), (_, _)]) pf_19_29 rfl (by omega) rfl ?_
        refine E_iload pf_19_30 rfl ?_
        refine E_iload pf_19_32 rfl ?_
        refine E_icmp_eq_f pf_19_34 (by omega) ?_
        refine E_aload pf_19_37 rfl ?_
        refine F_getf pf_19_38 rfl rfl rfl ?_
        refine E_iload pf_19_41 rfl ?_
        refine F_iald pf_19_43 rfl (by omega) ?_
        rw [e1]
        refine E_iload pf_19_44 rfl ?_
        refine E_imul pf_19_45 ?_
        refine E_istore (lv' := [_, _, _, _, _, _, _, _, _]) pf_19_46 rfl rfl ?_
        refine E_aload pf_19_48 rfl ?_
        refine F_getf pf_19_49 rfl rfl rfl ?_
        refine E_iload pf_19_52 rfl ?_
        refine E_iload pf_19_54 rfl ?_
        refine E_iload pf_19_56 rfl ?_
        refine E_idiv pf_19_57 (by omega) ?_
        refine F_iast (l' := [(_, _), (_, _), (_, _), (_, _)]) pf_19_58 rfl (by omega) rfl ?_
        refine E_aload pf_19_59 rfl ?_
        refine F_getf pf_19_60 rfl rfl rfl ?_
        refine E_iload pf_19_63 rfl ?_
        refine E_iload pf_19_65 rfl ?_
        refine E_iload pf_19_67 rfl ?_
        refine E_irem pf_19_68 (by omega) ?_
        refine F_iast (l' := [(_, _), (_, _), (_, _), (_, _)]) pf_19_69 rfl (by omega) rfl ?_
        refine E_iload pf_19_70 rfl ?_
        refine E_aload pf_19_72 rfl ?_
        refine F_getf pf_19_73 rfl rfl rfl ?_
        refine E_iload pf_19_76 rfl ?_
        refine F_iald pf_19_78 rfl (by omega) ?_
        rw [zu_s, zu_zu]
        refine E_iadd pf_19_79 ?_
        refine E_istore (lv' := [_, _, _, _, _, _, _, _, _]) pf_19_80 rfl rfl ?_
        refine E_iinc (lv' := [_, _, _, _, _, _, _, _, _]) pf_19_82 rfl rfl ?_
        refine E_goto pf_19_85 ?_
        exact h2
  refine ⟨_, inQ (-9) m (zs (sL U up lo ex) m / lo).toNat (zfill Q (sQ (-9) U up lo ex) m), scl_eq (by omega) (by omega) (fun i hi => zfill_at (q := Q) (f := sQ (-9) U up lo ex) (n := m) (by omega)) (fun i hi => zfill_at (q := U) (f := sU U up lo ex) (n := m) (by omega)), fun h => ?_⟩
  refine E_in (lv := [_, _, _, _, _, _, _, _, _]) rfl ?_
  refine E_iload pf_19_0 rfl ?_
  refine E_iconst pf_19_1 ?_
  refine E_icmp_ge_t pf_19_2 (by omega) ?_
  refine E_iconst pf_19_6 ?_
  refine E_istore (lv' := [_, _, _, _, _, _, _, _, _]) pf_19_7 rfl rfl ?_
  refine E_iconst pf_19_9 ?_
  refine E_istore (lv' := [_, _, _, _, _, _, _, _, _]) pf_19_10 rfl rfl ?_
  exact loop m 0 Q U _ _ (by omega) (zfill_0 _ _).symm (zfill_0 _ _).symm h
theorem c19t {up lo ex : Int} (hm : 1 ≤ m ∧ m ≤ 24) (hU : ∀ i : Nat, i < m → 0 ≤ U i ∧ U i ≤ 100) (hup : 0 ≤ up ∧ up ≤ 100) (hlo : 1 ≤ lo ∧ lo ≤ 100) (hex : -9 ≤ ex ∧ ex ≤ 24) : ∃ (U' Q' : Int → Int), zl V U' m = scl (zl V U m) up lo ex ∧ ∀ h, Ca 19 [.ref 18, .ref 28, .int (ii up), .int (ii lo), .int (ii ex)] (wd [(18, oD pu be), (23, ar 24 Q), (28, oS28 (rn : Int) (m : Int) st dr), (31, ar 24 U)] h) (.inl none, wd [(18, oD pu be), (23, ar 24 Q'), (28, oS28 (rn : Int) (m : Int) st dr), (31, ar 24 U')] h) := by
  have loop2 : ∀ (mis : Int), 0 ≤ mis → mis ≤ 2400 → ∀ (lost : Int) (k n : Nat) (Q1 U1 : Int → Int) (l8 : Value), (n : Int) + k = mis → (∀ i : Int, 0 ≤ i → i < m → -9 ≤ Q1 i ∧ Q1 i ≤ 1000) → ∀ h, Rn 19 97 [.ref 18, .ref 28, .int (ii up), .int (ii lo), .int (ii ex), .int (ii lost), .int (ii mis), .int (ii (n : Int)), l8] [] (wd [(18, oD pu be), (23, ar 24 Q1), (28, oS28 (rn : Int) (m : Int) st dr), (31, ar 24 U1)] h) (.inl none, wd [(18, oD pu be), (23, ar 24 (inQ (-9) m k Q1)), (28, oS28 (rn : Int) (m : Int) st dr), (31, ar 24 (inU (-9) m k Q1 U1))] h) := by
    intro mis hmi hmi2 lost k
    induction k with
    | zero =>
      intro n Q1 U1 l8 hn hQ1 h
      refine E_iload pf_19_97 rfl ?_
      refine E_iload pf_19_99 rfl ?_
      refine E_icmp_ge_t pf_19_101 (by omega) ?_
      exact E_vret pf_19_140 rfl
    | succ k ih =>
      intro n Q1 U1 l8 hn hQ1 h
      have hz := zax_in Q1 (m - 1)
      have h2 := ih (n + 1) (zu Q1 (zax Q1 (m - 1)) (-9)) (zu U1 (zax Q1 (m - 1)) (U1 (zax Q1 (m - 1)) + 1)) (.int (ii (zax Q1 (m - 1)))) (by omega) (fun i h1 h2 => by
        unfold zu; split
        · omega
        · exact hQ1 i h1 h2) h
      refine E_iload pf_19_97 rfl ?_
      refine E_iload pf_19_99 rfl ?_
      refine E_icmp_ge_f pf_19_101 (by omega) ?_
      refine E_aload pf_19_104 rfl ?_
      refine E_aload pf_19_105 rfl ?_
      refine F_getf pf_19_106 rfl rfl rfl ?_
      refine F_v2v0 pf_19_109 (c20 hm hQ1) (And.intro rfl (And.intro rfl (trivial))) rfl rfl ?_
      refine E_istore (lv' := [_, _, _, _, _, _, _, _, _]) pf_19_112 rfl rfl ?_
      refine E_aload pf_19_114 rfl ?_
      refine F_getf pf_19_115 rfl rfl rfl ?_
      refine E_iload pf_19_118 rfl ?_
      refine E_dup2 pf_19_120 rfl rfl ?_
      refine F_iald pf_19_121 rfl (by omega) ?_
      refine E_iconst pf_19_122 ?_
      refine E_iadd pf_19_123 ?_
      refine F_iast (l' := [(_, _), (_, _), (_, _), (_, _)]) pf_19_124 rfl (by omega) rfl ?_
      refine E_aload pf_19_125 rfl ?_
      refine F_getf pf_19_126 rfl rfl rfl ?_
      refine E_iload pf_19_129 rfl ?_
      refine E_iconst pf_19_131 ?_
      refine F_iast (l' := [(_, _), (_, _), (_, _), (_, _)]) pf_19_133 rfl (by omega) rfl ?_
      refine E_iinc (lv' := [_, _, _, _, _, _, _, _, _]) pf_19_134 rfl rfl ?_
      refine E_goto pf_19_137 ?_
      exact h2
  have hL : ∀ i : Nat, i ≤ m → 0 ≤ zs (sL U up lo ex) i ∧ zs (sL U up lo ex) i ≤ 2400 := fun i hi => by
    refine ⟨zs_nn fun j _ => (sL_nn (by omega) j).1, ?_⟩
    have := zs_le (f := sL U up lo ex) (n := i) (B := 100) (fun j _ => by have := sL_nn (U := U) (up := up) (lo := lo) (ex := ex) (by omega) j; omega)
    omega
  have loop : ∀ (k i : Nat) (Q1 U1 : Int → Int) (l7 l8 : Value), i + k = m → Q1 = zfill Q (sQ (-9) U up lo ex) i → U1 = zfill U (sU U up lo ex) i → ∀ h, Rn 19 12 [.ref 18, .ref 28, .int (ii up), .int (ii lo), .int (ii ex), .int (ii (zs (sL U up lo ex) i)), .int (ii (i : Int)), l7, l8] [] (wd [(18, oD pu be), (23, ar 24 Q1), (28, oS28 (rn : Int) (m : Int) st dr), (31, ar 24 U1)] h) (.inl none, wd [(18, oD pu be), (23, ar 24 (inQ (-9) m (zs (sL U up lo ex) m / lo).toNat (zfill Q (sQ (-9) U up lo ex) m))), (28, oS28 (rn : Int) (m : Int) st dr), (31, ar 24 (inU (-9) m (zs (sL U up lo ex) m / lo).toNat (zfill Q (sQ (-9) U up lo ex) m) (zfill U (sU U up lo ex) m)))] h) := by
    intro k
    induction k with
    | zero =>
      intro i Q1 U1 l7 l8 hi hQ1 hU1 h
      obtain rfl : i = m := by omega
      have hb := hL i (Nat.le_refl _)
      have hd0 : 0 ≤ zs (sL U up lo ex) i / lo := Int.ediv_nonneg hb.1 (by omega)
      have hd1 : zs (sL U up lo ex) i / lo ≤ 2400 := Int.le_trans (Int.ediv_le_self _ hb.1) hb.2
      refine E_iload pf_19_12 rfl ?_
      refine E_aload pf_19_14 rfl ?_
      refine F_getf pf_19_15 rfl rfl rfl ?_
      refine E_icmp_ge_t pf_19_18 (by omega) ?_
      refine E_iload pf_19_88 rfl ?_
      refine E_iload pf_19_90 rfl ?_
      refine E_idiv pf_19_91 (by omega) ?_
      refine E_istore (lv' := [_, _, _, _, _, _, _, _, _]) pf_19_92 rfl rfl ?_
      refine E_iconst pf_19_94 ?_
      refine E_istore (lv' := [_, _, _, _, _, _, _, _, _]) pf_19_95 rfl rfl ?_
      rw [hQ1, hU1]
      exact loop2 _ hd0 hd1 _ (zs (sL U up lo ex) i / lo).toNat 0 _ _ _ (by omega) (fun k h1 h2 => by
        rw [zfill_at (by omega)]
        unfold sQ; split
        · omega
        · have := Int.emod_nonneg (U k * up) (show lo ≠ 0 by omega)
          have := Int.emod_lt_of_pos (U k * up) (show 0 < lo by omega)
          omega) h
    | succ k ih =>
      intro i Q1 U1 l7 l8 hi hQ1 hU1 h
      have hb := hL i (by omega)
      have hu := hU i (by omega)
      have e1 : U1 i = U i := by rw [hU1, zfill_out (by omega)]
      by_cases e : (i : Int) = ex
      · have h2 := ih (i + 1) (zu Q1 i (-9)) U1 l7 l8 (by omega) (by rw [zfill_s, ← hQ1]; unfold sQ; rw [if_pos e]) (by rw [zfill_s, ← hU1]; unfold sU; rw [if_pos e, zu_id _ e1]) h
        have e2 : zs (sL U up lo ex) (i + 1) = zs (sL U up lo ex) i := by
          show zs _ i + sL U up lo ex i = _
          unfold sL; rw [if_pos e]; omega
        rw [e2] at h2
        refine E_iload pf_19_12 rfl ?_
        refine E_aload pf_19_14 rfl ?_
        refine F_getf pf_19_15 rfl rfl rfl ?_
        refine E_icmp_ge_f pf_19_18 (by omega) ?_
        refine E_aload pf_19_21 rfl ?_
        refine F_getf pf_19_22 rfl rfl rfl ?_
        refine E_iload pf_19_25 rfl ?_
        refine E_iconst pf_19_27 ?_
        refine F_iast (l' := [(_, _), (_, _), (_, _), (_, _)]) pf_19_29 rfl (by omega) rfl ?_
        refine E_iload pf_19_30 rfl ?_
        refine E_iload pf_19_32 rfl ?_
        refine E_icmp_eq_t pf_19_34 (by omega) ?_
        refine E_iinc (lv' := [_, _, _, _, _, _, _, _, _]) pf_19_82 rfl rfl ?_
        refine E_goto pf_19_85 ?_
        exact h2
      · have hp0 : 0 ≤ U i * up := Int.mul_nonneg hu.1 hup.1
        have hp1 : U i * up ≤ 10000 := by
          have := Int.mul_le_mul hu.2 hup.2 hup.1 (by omega : (0 : Int) ≤ 100)
          omega
        have h2 := ih (i + 1) (zu Q1 i (U i * up % lo)) (zu U1 i (U i * up / lo)) (.int (ii (U i * up))) l8 (by omega) (by rw [zfill_s, ← hQ1]; unfold sQ; rw [if_neg e]) (by rw [zfill_s, ← hU1]; unfold sU; rw [if_neg e]) h
        have e2 : zs (sL U up lo ex) (i + 1) = zs (sL U up lo ex) i + U i * up % lo := by
          show zs _ i + sL U up lo ex i = _
          unfold sL; rw [if_neg e]
        rw [e2] at h2
        refine E_iload pf_19_12 rfl ?_
        refine E_aload pf_19_14 rfl ?_
        refine F_getf pf_19_15 rfl rfl rfl ?_
        refine E_icmp_ge_f pf_19_18 (by omega) ?_
        refine E_aload pf_19_21 rfl ?_
        refine F_getf pf_19_22 rfl rfl rfl ?_
        refine E_iload pf_19_25 rfl ?_
        refine E_iconst pf_19_27 ?_
        refine F_iast (l' := [(_, _), (_, _), (_, _), (_, _)]) pf_19_29 rfl (by omega) rfl ?_
        refine E_iload pf_19_30 rfl ?_
        refine E_iload pf_19_32 rfl ?_
        refine E_icmp_eq_f pf_19_34 (by omega) ?_
        refine E_aload pf_19_37 rfl ?_
        refine F_getf pf_19_38 rfl rfl rfl ?_
        refine E_iload pf_19_41 rfl ?_
        refine F_iald pf_19_43 rfl (by omega) ?_
        rw [e1]
        refine E_iload pf_19_44 rfl ?_
        refine E_imul pf_19_45 ?_
        refine E_istore (lv' := [_, _, _, _, _, _, _, _, _]) pf_19_46 rfl rfl ?_
        refine E_aload pf_19_48 rfl ?_
        refine F_getf pf_19_49 rfl rfl rfl ?_
        refine E_iload pf_19_52 rfl ?_
        refine E_iload pf_19_54 rfl ?_
        refine E_iload pf_19_56 rfl ?_
        refine E_idiv pf_19_57 (by omega) ?_
        refine F_iast (l' := [(_, _), (_, _), (_, _), (_, _)]) pf_19_58 rfl (by omega) rfl ?_
        refine E_aload pf_19_59 rfl ?_
        refine F_getf pf_19_60 rfl rfl rfl ?_
        refine E_iload pf_19_63 rfl ?_
        refine E_iload pf_19_65 rfl ?_
        refine E_iload pf_19_67 rfl ?_
        refine E_irem pf_19_68 (by omega) ?_
        refine F_iast (l' := [(_, _), (_, _), (_, _), (_, _)]) pf_19_69 rfl (by omega) rfl ?_
        refine E_iload pf_19_70 rfl ?_
        refine E_aload pf_19_72 rfl ?_
        refine F_getf pf_19_73 rfl rfl rfl ?_
        refine E_iload pf_19_76 rfl ?_
        refine F_iald pf_19_78 rfl (by omega) ?_
        rw [zu_s, zu_zu]
        refine E_iadd pf_19_79 ?_
        refine E_istore (lv' := [_, _, _, _, _, _, _, _, _]) pf_19_80 rfl rfl ?_
        refine E_iinc (lv' := [_, _, _, _, _, _, _, _, _]) pf_19_82 rfl rfl ?_
        refine E_goto pf_19_85 ?_
        exact h2
  refine ⟨_, inQ (-9) m (zs (sL U up lo ex) m / lo).toNat (zfill Q (sQ (-9) U up lo ex) m), scl_eq (by omega) (by omega) (fun i hi => zfill_at (q := Q) (f := sQ (-9) U up lo ex) (n := m) (by omega)) (fun i hi => zfill_at (q := U) (f := sU U up lo ex) (n := m) (by omega)), fun h => ?_⟩
  refine E_in (lv := [_, _, _, _, _, _, _, _, _]) rfl ?_
  refine E_iload pf_19_0 rfl ?_
  refine E_iconst pf_19_1 ?_
  refine E_icmp_ge_t pf_19_2 (by omega) ?_
  refine E_iconst pf_19_6 ?_
  refine E_istore (lv' := [_, _, _, _, _, _, _, _, _]) pf_19_7 rfl rfl ?_
  refine E_iconst pf_19_9 ?_
  refine E_istore (lv' := [_, _, _, _, _, _, _, _, _]) pf_19_10 rfl rfl ?_
  exact loop m 0 Q U _ _ (by omega) (zfill_0 _ _).symm (zfill_0 _ _).symm h
def ufr (r r' : Int → Int) : Prop := ∀ x : Int, (x < 44 ∨ 68 ≤ x) → r' x = r x
theorem ufr_rf (r : Int → Int) : ufr r r := fun _ _ => rfl
theorem ufr_tr {a b c : Int → Int} (h : ufr a b) (g : ufr b c) : ufr a c := fun k hk => (g k hk).trans (h k hk)
theorem ufr_u {r : Int → Int} {i : Int} (x : Int) (h : 44 ≤ i ∧ i < 68) : ufr r (zu r i x) := fun k hk => zu_n _ _ (by omega)
theorem ufr_p {r r' : Int → Int} (h : ufr r r') : pfr r r' := fun k hk => h k (by omega)
/-- what the search for the greatest remainder has found among the first k -/
def mo (Q : Int → Int) : Nat → Int
  | 0 => -9
  | n + 1 => if Q (zax Q n) < 0 then -9 else zax Q n
theorem mo_s (Q : Int → Int) (n : Nat) : mo Q (n + 1) = if 0 ≤ Q n ∧ (mo Q n = -9 ∨ Q (mo Q n) < Q n) then (n : Int) else mo Q n := by
  cases n with
  | zero =>
    show (if Q 0 < 0 then (-9 : Int) else 0) = if 0 ≤ Q ((0 : Nat) : Int) ∧ _ then _ else (-9 : Int)
    by_cases e : Q 0 < 0
    · rw [if_pos e, if_neg (by intro q; have : 0 ≤ Q 0 := q.1; omega)]
    · rw [if_neg e, if_pos ⟨by show 0 ≤ Q 0; omega, .inl rfl⟩]; rfl
  | succ n =>
    have hz := zax_in Q n
    have e1 : mo Q (n + 1 + 1) = if Q (zax Q (n + 1)) < 0 then -9 else zax Q (n + 1) := rfl
    have e2 : mo Q (n + 1) = if Q (zax Q n) < 0 then -9 else zax Q n := rfl
    rw [e1]
    by_cases a : Q (zax Q n) < 0
    · rw [if_pos a] at e2
      rw [e2]
      by_cases b : 0 ≤ Q ((n + 1 : Nat) : Int)
      · have ez : zax Q (n + 1) = ((n + 1 : Nat) : Int) := by simp only [zax]; exact if_pos (by omega)
        rw [ez, if_neg (by omega), if_pos ⟨b, .inl rfl⟩]
      · have ez : Q (zax Q (n + 1)) < 0 := by simp only [zax]; split <;> omega
        rw [if_pos ez, if_neg (fun q => b q.1)]
    · rw [if_neg a] at e2
      rw [e2]
      by_cases b : Q (zax Q n) < Q ((n + 1 : Nat) : Int)
      · have ez : zax Q (n + 1) = ((n + 1 : Nat) : Int) := by simp only [zax]; exact if_pos b
        rw [ez, if_neg (by omega), if_pos ⟨by omega, .inr b⟩]
      · have ez : zax Q (n + 1) = zax Q n := by simp only [zax]; exact if_neg b
        rw [ez, if_neg a, if_neg (fun q => q.2.elim (fun q => by omega) b)]
theorem mo_in (Q : Int → Int) (n : Nat) : mo Q n = -9 ∨ (0 ≤ mo Q n ∧ mo Q n < n) := by
  cases n with
  | zero => exact .inl rfl
  | succ n =>
    have hz := zax_in Q n
    simp only [mo]; split
    · exact .inl rfl
    · exact .inr (by omega)
theorem c123n {rf ts sp d kd vs rw rd rk rv rr ac up lo ex : Int} (h68 : r 68 = m) (hm : 1 ≤ m ∧ m ≤ 24) (hU : ∀ i : Nat, i < m → 0 ≤ pU r i ∧ pU r i ≤ 100) (hup : 0 ≤ up ∧ up ≤ 100) (hlo : 1 ≤ lo ∧ lo ≤ 100) (hex : -9 ≤ ex ∧ ex ≤ 24) : ∃ (r' Q' : Int → Int), zp r' m = scl (zp r m) up lo ex ∧ ufr r r' ∧ ∀ h, Ca 123 [.ref 102, .ref 107, .int (ii up), .int (ii lo), .int (ii ex)] (wd [(102, oX6 rf ts sp d kd vs rw rd rk rv rr ac), (107, ar 72 r), (112, ar 24 Q)] h) (.inl none, wd [(102, oX6 rf ts sp d kd vs rw rd rk rv rr ac), (107, ar 72 r'), (112, ar 24 Q')] h) := by
  have loop3 : ∀ (Q1 r1 : Int → Int) (a5 a6 a7 : Int), r1 68 = m → (∀ i : Int, 0 ≤ i → i < m → -9 ≤ Q1 i ∧ Q1 i ≤ 1000) → ∀ (h : pd_H) (o : pd_Out × pd_H), (∀ l9 : Value, Rn 123 180 [.ref 102, .ref 107, .int (ii up), .int (ii lo), .int (ii ex), .int (ii a5), .int (ii a6), .int (ii a7), .int (ii (mo Q1 m)), l9] [] (wd [(102, oX6 rf ts sp d kd vs rw rd rk rv rr ac), (107, ar 72 r1), (112, ar 24 Q1)] h) o) → ∀ (k n : Nat), n + k = m → Rn 123 122 [.ref 102, .ref 107, .int (ii up), .int (ii lo), .int (ii ex), .int (ii a5), .int (ii a6), .int (ii a7), .int (ii (mo Q1 n)), .int (ii (n : Int))] [] (wd [(102, oX6 rf ts sp d kd vs rw rd rk rv rr ac), (107, ar 72 r1), (112, ar 24 Q1)] h) o := by
    intro Q1 r1 a5 a6 a7 h68 hQ1 h o fin k
    induction k with
    | zero =>
      intro n hn
      obtain rfl : n = m := by omega
      refine E_iload pf_123_122 rfl ?_
      refine E_aload pf_123_124 rfl ?_
      refine E_iconst pf_123_125 ?_
      refine F_iald pf_123_127 rfl (by omega) ?_
      refine E_icmp_ge_t pf_123_128 (by omega) ?_
      exact fin _
    | succ k ih =>
      intro n hn
      have hq := hQ1 n (by omega) (by omega)
      have hmo := mo_in Q1 n
      have h2 := ih (n + 1) (by omega)
      rw [mo_s] at h2
      by_cases a : 0 ≤ Q1 n
      · by_cases b : mo Q1 n = -9
        · rw [if_pos ⟨a, .inl b⟩] at h2
          rw [b]
          refine E_iload pf_123_122 rfl ?_
          refine E_aload pf_123_124 rfl ?_
          refine E_iconst pf_123_125 ?_
          refine F_iald pf_123_127 rfl (by omega) ?_
          refine E_icmp_ge_f pf_123_128 (by omega) ?_
          refine E_aload pf_123_131 rfl ?_
          refine F_getf pf_123_132 rfl rfl rfl ?_
          refine E_iload pf_123_135 rfl ?_
          refine F_iald pf_123_137 rfl (by omega) ?_
          refine E_if_lt_f pf_123_138 (by omega) ?_
          refine E_iload pf_123_141 rfl ?_
          refine E_iconst pf_123_143 ?_
          refine E_icmp_eq_t pf_123_145 (by omega) ?_
          refine E_iload pf_123_165 rfl ?_
          refine E_goto pf_123_167 ?_
          refine E_istore (lv' := [_, _, _, _, _, _, _, _, _, _]) pf_123_172 rfl rfl ?_
          refine E_iinc (lv' := [_, _, _, _, _, _, _, _, _, _]) pf_123_174 rfl rfl ?_
          refine E_goto pf_123_177 ?_
          exact h2
        · have hq2 := hQ1 (mo Q1 n) (by omega) (by omega)
          by_cases c : Q1 (mo Q1 n) < Q1 n
          · rw [if_pos ⟨a, .inr c⟩] at h2
            refine E_iload pf_123_122 rfl ?_
            refine E_aload pf_123_124 rfl ?_
            refine E_iconst pf_123_125 ?_
            refine F_iald pf_123_127 rfl (by omega) ?_
            refine E_icmp_ge_f pf_123_128 (by omega) ?_
            refine E_aload pf_123_131 rfl ?_
            refine F_getf pf_123_132 rfl rfl rfl ?_
            refine E_iload pf_123_135 rfl ?_
            refine F_iald pf_123_137 rfl (by omega) ?_
            refine E_if_lt_f pf_123_138 (by omega) ?_
            refine E_iload pf_123_141 rfl ?_
            refine E_iconst pf_123_143 ?_
            refine E_icmp_eq_f pf_123_145 (by omega) ?_
            refine E_aload pf_123_148 rfl ?_
            refine F_getf pf_123_149 rfl rfl rfl ?_
            refine E_iload pf_123_152 rfl ?_
            refine F_iald pf_123_154 rfl (by omega) ?_
            refine E_aload pf_123_155 rfl ?_
            refine F_getf pf_123_156 rfl rfl rfl ?_
            refine E_iload pf_123_159 rfl ?_
            refine F_iald pf_123_161 rfl (by omega) ?_
            refine E_icmp_le_f pf_123_162 (by omega) ?_
            refine E_iload pf_123_165 rfl ?_
            refine E_goto pf_123_167 ?_
            refine E_istore (lv' := [_, _, _, _, _, _, _, _, _, _]) pf_123_172 rfl rfl ?_
            refine E_iinc (lv' := [_, _, _, _, _, _, _, _, _, _]) pf_123_174 rfl rfl ?_
            refine E_goto pf_123_177 ?_
            exact h2
          · rw [if_neg (fun q => q.2.elim b c)] at h2
            refine E_iload pf_123_122 rfl ?_
            refine E_aload pf_123_124 rfl ?_
            refine E_iconst pf_123_125 ?_
            refine F_iald pf_123_127 rfl (by omega) ?_
            refine E_icmp_ge_f pf_123_128 (by omega) ?_
            refine E_aload pf_123_131 rfl ?_
            refine F_getf pf_123_132 rfl rfl rfl ?_
            refine E_iload pf_123_135 rfl ?_
            refine F_iald pf_123_137 rfl (by omega) ?_
            refine E_if_lt_f pf_123_138 (by omega) ?_
            refine E_iload pf_123_141 rfl ?_
            refine E_iconst pf_123_143 ?_
            refine E_icmp_eq_f pf_123_145 (by omega) ?_
            refine E_aload pf_123_148 rfl ?_
            refine F_getf pf_123_149 rfl rfl rfl ?_
            refine E_iload pf_123_152 rfl ?_
            refine F_iald pf_123_154 rfl (by omega) ?_
            refine E_aload pf_123_155 rfl ?_
            refine F_getf pf_123_156 rfl rfl rfl ?_
            refine E_iload pf_123_159 rfl ?_
            refine F_iald pf_123_161 rfl (by omega) ?_
            refine E_icmp_le_t pf_123_162 (by omega) ?_
            refine E_iload pf_123_170 rfl ?_
            refine E_istore (lv' := [_, _, _, _, _, _, _, _, _, _]) pf_123_172 rfl rfl ?_
            refine E_iinc (lv' := [_, _, _, _, _, _, _, _, _, _]) pf_123_174 rfl rfl ?_
            refine E_goto pf_123_177 ?_
            exact h2
      · rw [if_neg (fun q => a q.1)] at h2
        refine E_iload pf_123_122 rfl ?_
        refine E_aload pf_123_124 rfl ?_
        refine E_iconst pf_123_125 ?_
        refine F_iald pf_123_127 rfl (by omega) ?_
        refine E_icmp_ge_f pf_123_128 (by omega) ?_
        refine E_aload pf_123_131 rfl ?_
        refine F_getf pf_123_132 rfl rfl rfl ?_
        refine E_iload pf_123_135 rfl ?_
        refine F_iald pf_123_137 rfl (by omega) ?_
        refine E_if_lt_t pf_123_138 (by omega) ?_
        refine E_iload pf_123_170 rfl ?_
        refine E_istore (lv' := [_, _, _, _, _, _, _, _, _, _]) pf_123_172 rfl rfl ?_
        refine E_iinc (lv' := [_, _, _, _, _, _, _, _, _, _]) pf_123_174 rfl rfl ?_
        refine E_goto pf_123_177 ?_
        exact h2
  have loop2 : ∀ (a5 a6 : Int) (k : Nat) (Q1 r1 : Int → Int), k ≤ 2400 → (k : Int) ≤ cn Q1 m → r1 68 = m → (∀ i : Int, 0 ≤ i → i < m → -9 ≤ Q1 i ∧ Q1 i ≤ 1000) → ∃ r2 : Int → Int, pU r2 = inU (-1) m k Q1 (pU r1) ∧ ufr r1 r2 ∧ ∀ (l8 l9 : Value) h, Rn 123 110 [.ref 102, .ref 107, .int (ii up), .int (ii lo), .int (ii ex), .int (ii a5), .int (ii a6), .int (ii (k : Int)), l8, l9] [] (wd [(102, oX6 rf ts sp d kd vs rw rd rk rv rr ac), (107, ar 72 r1), (112, ar 24 Q1)] h) (.inl none, wd [(102, oX6 rf ts sp d kd vs rw rd rk rv rr ac), (107, ar 72 r2), (112, ar 24 (inQ (-1) m k Q1))] h) := by
    intro a5 a6 k
    induction k with
    | zero =>
      intro Q1 r1 _ _ h68 hQ1
      refine ⟨r1, rfl, ufr_rf r1, fun l8 l9 h => ?_⟩
      refine E_iload pf_123_110 rfl ?_
      refine E_if_le_t pf_123_112 (by omega) ?_
      exact E_vret pf_123_205 rfl
    | succ k ih =>
      intro Q1 r1 hk hc h68 hQ1
      have hz := zax_in Q1 (m - 1)
      have hp := cn_pos (Q := Q1) (m := m) (by omega)
      have emo : mo Q1 m = zax Q1 (m - 1) := by
        obtain ⟨n, rfl⟩ : ∃ n, m = n + 1 := ⟨m - 1, by omega⟩
        simp only [mo]
        rw [if_neg (by simpa using hp)]; rfl
      obtain ⟨r2, g1, g2, g3⟩ := ih (zu Q1 (zax Q1 (m - 1)) (-1)) (zu r1 (44 + zax Q1 (m - 1)) (r1 (44 + zax Q1 (m - 1)) + 1)) (by omega) (by rw [cn_zu (by omega) hp (by omega)]; omega) (by rw [zu_n _ _ (by omega)]; exact h68) (fun i h1 h2 => by
        unfold zu; split
        · omega
        · exact hQ1 i h1 h2)
      refine ⟨r2, by rw [g1, pU_u]; rfl, ufr_tr (ufr_u _ (by omega)) g2, fun l8 l9 h => ?_⟩
      refine E_iload pf_123_110 rfl ?_
      refine E_if_le_f pf_123_112 (by omega) ?_
      refine E_iconst pf_123_115 ?_
      refine E_istore (lv' := [_, _, _, _, _, _, _, _, _, _]) pf_123_117 rfl rfl ?_
      refine E_iconst pf_123_119 ?_
      refine E_istore (lv' := [_, _, _, _, _, _, _, _, _, _]) pf_123_120 rfl rfl ?_
      refine loop3 Q1 r1 a5 a6 ((k + 1 : Nat) : Int) h68 hQ1 h _ (fun l9 => ?_) m 0 (by omega)
      rw [emo]
      refine E_aload pf_123_180 rfl ?_
      refine E_iconst pf_123_181 ?_
      refine E_iload pf_123_183 rfl ?_
      refine E_iadd pf_123_185 ?_
      refine E_dup2 pf_123_186 rfl rfl ?_
      refine F_iald pf_123_187 rfl (by omega) ?_
      refine E_iconst pf_123_188 ?_
      refine E_iadd pf_123_189 ?_
      refine F_iast (l' := [(_, _), (_, _), (_, _)]) pf_123_190 rfl (by omega) rfl ?_
      refine E_aload pf_123_191 rfl ?_
      refine F_getf pf_123_192 rfl rfl rfl ?_
      refine E_iload pf_123_195 rfl ?_
      refine E_iconst pf_123_197 ?_
      refine F_iast (l' := [(_, _), (_, _), (_, _)]) pf_123_198 rfl (by omega) rfl ?_
      refine E_iinc (lv' := [_, _, _, _, _, _, _, _, _, _]) pf_123_199 rfl rfl ?_
      refine E_goto pf_123_202 ?_
      rw [show ((k + 1 : Nat) : Int) + -1 = k by omega]
      exact g3 _ _ h
  have hA : ∀ i : Nat, i ≤ m → 0 ≤ zs (sA (pU r) ex) i ∧ zs (sA (pU r) ex) i ≤ 2400 := fun i hi => by
    have hh : ∀ j : Nat, j < i → 0 ≤ sA (pU r) ex j ∧ sA (pU r) ex j ≤ 100 := fun j hj => by
      have := hU j (by omega)
      unfold sA; split <;> omega
    refine ⟨zs_nn fun j hj => (hh j hj).1, ?_⟩
    have := zs_le (f := sA (pU r) ex) (n := i) (B := 100) (fun j hj => by have := hh j hj; omega)
    omega
  have hL : ∀ i : Nat, i ≤ m → 0 ≤ zs (sL (pU r) up lo ex) i ∧ zs (sL (pU r) up lo ex) i ≤ 2400 := fun i hi => by
    refine ⟨zs_nn fun j _ => (sL_nn (by omega) j).1, ?_⟩
    have := zs_le (f := sL (pU r) up lo ex) (n := i) (B := 100) (fun j _ => by have := sL_nn (U := pU r) (up := up) (lo := lo) (ex := ex) (by omega) j; omega)
    omega
  have loop : ∀ (k i : Nat) (Q1 r1 : Int → Int) (l8 l9 : Value), i + k = m → Q1 = zfill Q (sQ (-1) (pU r) up lo ex) i → pU r1 = zfill (pU r) (sU (pU r) up lo ex) i → ufr r r1 → ∃ (r' Q' : Int → Int), pU r' = inU (-1) m (zs (sL (pU r) up lo ex) m / lo).toNat (zfill Q (sQ (-1) (pU r) up lo ex) m) (zfill (pU r) (sU (pU r) up lo ex) m) ∧ ufr r r' ∧ ∀ h, Rn 123 9 [.ref 102, .ref 107, .int (ii up), .int (ii lo), .int (ii ex), .int (ii (zs (sA (pU r) ex) i)), .int (ii (zs (sG (pU r) up lo ex) i)), .int (ii (i : Int)), l8, l9] [] (wd [(102, oX6 rf ts sp d kd vs rw rd rk rv rr ac), (107, ar 72 r1), (112, ar 24 Q1)] h) (.inl none, wd [(102, oX6 rf ts sp d kd vs rw rd rk rv rr ac), (107, ar 72 r'), (112, ar 24 Q')] h) := by
    intro k
    induction k with
    | zero =>
      intro i Q1 r1 l8 l9 hi hQ1 hU1 hf
      obtain rfl : i = m := by omega
      have hb := hL i (Nat.le_refl _)
      have ha := hA i (Nat.le_refl _)
      have hd0 : 0 ≤ zs (sL (pU r) up lo ex) i / lo := Int.ediv_nonneg hb.1 (by omega)
      have hd1 : zs (sL (pU r) up lo ex) i / lo ≤ 2400 := Int.le_trans (Int.ediv_le_self _ hb.1) hb.2
      have hp0 : 0 ≤ zs (sA (pU r) ex) i * up := Int.mul_nonneg ha.1 hup.1
      have hp1 : zs (sA (pU r) ex) i * up ≤ 240000 := by
        have := Int.mul_le_mul ha.2 hup.2 hup.1 (by omega : (0 : Int) ≤ 2400)
        omega
      have h68b : r1 68 = i := (hf 68 (by omega)).trans h68
      have em := s_mis (U := pU r) (up := up) (lo := lo) (ex := ex) (m := i) (by omega)
      have et : zs (sL (pU r) up lo ex) i / lo = (((zs (sL (pU r) up lo ex) i / lo).toNat : Nat) : Int) := (Int.toNat_of_nonneg hd0).symm
      obtain ⟨r2, g1, g2, g3⟩ := loop2 (zs (sA (pU r) ex) i) (zs (sG (pU r) up lo ex) i) (zs (sL (pU r) up lo ex) i / lo).toNat Q1 r1 (by omega) (by
          rw [← et, cn_congr (Q' := sQ (-1) (pU r) up lo ex) (fun j hj => by rw [hQ1, zfill_at (by omega)])]
          exact sQ_cn (by omega) (by omega)) h68b (fun k h1 h2 => by
          rw [hQ1, zfill_at (by omega)]
          unfold sQ; split
          · omega
          · have := Int.emod_nonneg (pU r k * up) (show lo ≠ 0 by omega)
            have := Int.emod_lt_of_pos (pU r k * up) (show 0 < lo by omega)
            omega)
      refine ⟨r2, inQ (-1) i (zs (sL (pU r) up lo ex) i / lo).toNat Q1, by rw [g1, hU1, hQ1], ufr_tr hf g2, fun h => ?_⟩
      refine E_iload pf_123_9 rfl ?_
      refine E_aload pf_123_11 rfl ?_
      refine E_iconst pf_123_12 ?_
      refine F_iald pf_123_14 rfl (by omega) ?_
      refine E_icmp_ge_t pf_123_15 (by omega) ?_
      refine E_iload pf_123_99 rfl ?_
      refine E_iload pf_123_101 rfl ?_
      refine E_imul pf_123_102 ?_
      refine E_iload pf_123_103 rfl ?_
      refine E_idiv pf_123_104 (by omega) ?_
      refine E_iload pf_123_105 rfl ?_
      refine E_isub pf_123_107 ?_
      refine E_istore (lv' := [_, _, _, _, _, _, _, _, _, _]) pf_123_108 rfl rfl ?_
      rw [em, et]
      exact g3 _ _ h
    | succ k ih =>
      intro i Q1 r1 l8 l9 hi hQ1 hU1 hf
      have ha := hA i (by omega)
      have h68b : r1 68 = m := (hf 68 (by omega)).trans h68
      have e1 : r1 (44 + (i : Int)) = pU r i := by
        show pU r1 i = _
        rw [hU1, zfill_out (by omega)]
      have hu := hU i (by omega)
      by_cases e : (i : Int) = ex
      · obtain ⟨r2, Q2, g1, g2, g3⟩ := ih (i + 1) (zu Q1 i (-1)) r1 l8 l9 (by omega) (by rw [zfill_s, ← hQ1]; unfold sQ; rw [if_pos e]) (by rw [zfill_s, ← hU1]; unfold sU; rw [if_pos e]; exact (zu_id (pU r1) e1).symm) hf
        have e2 : zs (sA (pU r) ex) (i + 1) = zs (sA (pU r) ex) i := by
          show zs _ i + sA (pU r) ex i = _
          unfold sA; rw [if_pos e]; omega
        have e3 : zs (sG (pU r) up lo ex) (i + 1) = zs (sG (pU r) up lo ex) i := by
          show zs _ i + sG (pU r) up lo ex i = _
          unfold sG; rw [if_pos e]; omega
        refine ⟨r2, Q2, g1, g2, fun h => ?_⟩
        have g3 := g3 h
        rw [e2, e3] at g3
        refine E_iload pf_123_9 rfl ?_
        refine E_aload pf_123_11 rfl ?_
        refine E_iconst pf_123_12 ?_
        refine F_iald pf_123_14 rfl (by omega) ?_
        refine E_icmp_ge_f pf_123_15 (by omega) ?_
        refine E_aload pf_123_18 rfl ?_
        refine F_getf pf_123_19 rfl rfl rfl ?_
        refine E_iload pf_123_22 rfl ?_
        refine E_iconst pf_123_24 ?_
        refine F_iast (l' := [(_, _), (_, _), (_, _)]) pf_123_25 rfl (by omega) rfl ?_
        refine E_iload pf_123_26 rfl ?_
        refine E_iload pf_123_28 rfl ?_
        refine E_icmp_eq_t pf_123_30 (by omega) ?_
        refine E_iinc (lv' := [_, _, _, _, _, _, _, _, _, _]) pf_123_93 rfl rfl ?_
        refine E_goto pf_123_96 ?_
        exact g3
      · rw [← e1] at hu
        have hp0 : 0 ≤ r1 (44 + (i : Int)) * up := Int.mul_nonneg hu.1 hup.1
        have hp1 : r1 (44 + (i : Int)) * up ≤ 10000 := by
          have := Int.mul_le_mul hu.2 hup.2 hup.1 (by omega : (0 : Int) ≤ 100)
          omega
        obtain ⟨r2, Q2, g1, g2, g3⟩ := ih (i + 1) (zu Q1 i (r1 (44 + (i : Int)) * up % lo)) (zu r1 (44 + (i : Int)) (r1 (44 + (i : Int)) * up / lo)) l8 l9 (by omega) (by rw [zfill_s, ← hQ1]; unfold sQ; rw [if_neg e, e1]) (by rw [pU_u, zfill_s, ← hU1]; unfold sU; rw [if_neg e, e1]) (ufr_tr hf (ufr_u _ (by omega)))
        have e2 : zs (sA (pU r) ex) (i + 1) = zs (sA (pU r) ex) i + r1 (44 + (i : Int)) := by
          show zs _ i + sA (pU r) ex i = _
          unfold sA; rw [if_neg e, e1]
        have e3 : zs (sG (pU r) up lo ex) (i + 1) = zs (sG (pU r) up lo ex) i + r1 (44 + (i : Int)) * up / lo := by
          show zs _ i + sG (pU r) up lo ex i = _
          unfold sG; rw [if_neg e, e1]
        refine ⟨r2, Q2, g1, g2, fun h => ?_⟩
        have g3 := g3 h
        rw [e2, e3] at g3
        refine E_iload pf_123_9 rfl ?_
        refine E_aload pf_123_11 rfl ?_
        refine E_iconst pf_123_12 ?_
        refine F_iald pf_123_14 rfl (by omega) ?_
        refine E_icmp_ge_f pf_123_15 (by omega) ?_
        refine E_aload pf_123_18 rfl ?_
        refine F_getf pf_123_19 rfl rfl rfl ?_
        refine E_iload pf_123_22 rfl ?_
        refine E_iconst pf_123_24 ?_
        refine F_iast (l' := [(_, _), (_, _), (_, _)]) pf_123_25 rfl (by omega) rfl ?_
        refine E_iload pf_123_26 rfl ?_
        refine E_iload pf_123_28 rfl ?_
        refine E_icmp_eq_f pf_123_30 (by omega) ?_
        refine E_iload pf_123_33 rfl ?_
        refine E_aload pf_123_35 rfl ?_
        refine E_iconst pf_123_36 ?_
        refine E_iload pf_123_38 rfl ?_
        refine E_iadd pf_123_40 ?_
        refine F_iald pf_123_41 rfl (by omega) ?_
        refine E_iadd pf_123_42 ?_
        refine E_istore (lv' := [_, _, _, _, _, _, _, _, _, _]) pf_123_43 rfl rfl ?_
        refine E_aload pf_123_45 rfl ?_
        refine F_getf pf_123_46 rfl rfl rfl ?_
        refine E_iload pf_123_49 rfl ?_
        refine E_aload pf_123_51 rfl ?_
        refine E_iconst pf_123_52 ?_
        refine E_iload pf_123_54 rfl ?_
        refine E_iadd pf_123_56 ?_
        refine F_iald pf_123_57 rfl (by omega) ?_
        refine E_iload pf_123_58 rfl ?_
        refine E_imul pf_123_59 ?_
        refine E_iload pf_123_60 rfl ?_
        refine E_irem pf_123_61 (by omega) ?_
        refine F_iast (l' := [(_, _), (_, _), (_, _)]) pf_123_62 rfl (by omega) rfl ?_
        refine E_aload pf_123_63 rfl ?_
        refine E_iconst pf_123_64 ?_
        refine E_iload pf_123_66 rfl ?_
        refine E_iadd pf_123_68 ?_
        refine E_aload pf_123_69 rfl ?_
        refine E_iconst pf_123_70 ?_
        refine E_iload pf_123_72 rfl ?_
        refine E_iadd pf_123_74 ?_
        refine F_iald pf_123_75 rfl (by omega) ?_
        refine E_iload pf_123_76 rfl ?_
        refine E_imul pf_123_77 ?_
        refine E_iload pf_123_78 rfl ?_
        refine E_idiv pf_123_79 (by omega) ?_
        refine F_iast (l' := [(_, _), (_, _), (_, _)]) pf_123_80 rfl (by omega) rfl ?_
        refine E_iload pf_123_81 rfl ?_
        refine E_aload pf_123_83 rfl ?_
        refine E_iconst pf_123_84 ?_
        refine E_iload pf_123_86 rfl ?_
        refine E_iadd pf_123_88 ?_
        refine F_iald pf_123_89 rfl (by omega) ?_
        rw [zu_s, zu_zu]
        refine E_iadd pf_123_90 ?_
        refine E_istore (lv' := [_, _, _, _, _, _, _, _, _, _]) pf_123_91 rfl rfl ?_
        refine E_iinc (lv' := [_, _, _, _, _, _, _, _, _, _]) pf_123_93 rfl rfl ?_
        refine E_goto pf_123_96 ?_
        exact g3
  obtain ⟨r2, Q2, g1, g2, g3⟩ := loop m 0 Q r pd_dum pd_dum (by omega) (zfill_0 _ _).symm (zfill_0 _ _).symm (ufr_rf r)
  refine ⟨r2, Q2, ?_, g2, fun h => ?_⟩
  · have e1 : zp r2 m = zl (pV r) (pU r2) m := zl_congr fun j hj => ⟨g2 _ (by omega), rfl⟩
    rw [e1, g1]
    exact scl_eq (by omega) (by omega) (fun i hi => zfill_at (by omega)) (fun i hi => zfill_at (by omega))
  refine E_in (lv := [_, _, _, _, _, _, _, _, _, _]) rfl ?_
  refine E_iconst pf_123_0 ?_
  refine E_istore (lv' := [_, _, _, _, _, _, _, _, _, _]) pf_123_1 rfl rfl ?_
  refine E_iconst pf_123_3 ?_
  refine E_istore (lv' := [_, _, _, _, _, _, _, _, _, _]) pf_123_4 rfl rfl ?_
  refine E_iconst pf_123_6 ?_
  refine E_istore (lv' := [_, _, _, _, _, _, _, _, _, _]) pf_123_7 rfl rfl ?_
  exact g3 h
theorem c123t {rf ts sp d kd vs rw rd rk rv rr ac up lo ex : Int} (h68 : r 68 = m) (hm : 1 ≤ m ∧ m ≤ 24) (hU : ∀ i : Nat, i < m → 0 ≤ pU r i ∧ pU r i ≤ 100) (hup : 0 ≤ up ∧ up ≤ 100) (hlo : 1 ≤ lo ∧ lo ≤ 100) (hex : -9 ≤ ex ∧ ex ≤ 24) : ∃ (r' Q' : Int → Int), zp r' m = scl (zp r m) up lo ex ∧ ufr r r' ∧ ∀ h, Ca 123 [.ref 102, .ref 108, .int (ii up), .int (ii lo), .int (ii ex)] (wd [(102, oX6 rf ts sp d kd vs rw rd rk rv rr ac), (108, ar 72 r), (112, ar 24 Q)] h) (.inl none, wd [(102, oX6 rf ts sp d kd vs rw rd rk rv rr ac), (108, ar 72 r'), (112, ar 24 Q')] h) := by
  have loop3 : ∀ (Q1 r1 : Int → Int) (a5 a6 a7 : Int), r1 68 = m → (∀ i : Int, 0 ≤ i → i < m → -9 ≤ Q1 i ∧ Q1 i ≤ 1000) → ∀ (h : pd_H) (o : pd_Out × pd_H), (∀ l9 : Value, Rn 123 180 [.ref 102, .ref 108, .int (ii up), .int (ii lo), .int (ii ex), .int (ii a5), .int (ii a6), .int (ii a7), .int (ii (mo Q1 m)), l9] [] (wd [(102, oX6 rf ts sp d kd vs rw rd rk rv rr ac), (108, ar 72 r1), (112, ar 24 Q1)] h) o) → ∀ (k n : Nat), n + k = m → Rn 123 122 [.ref 102, .ref 108, .int (ii up), .int (ii lo), .int (ii ex), .int (ii a5), .int (ii a6), .int (ii a7), .int (ii (mo Q1 n)), .int (ii (n : Int))] [] (wd [(102, oX6 rf ts sp d kd vs rw rd rk rv rr ac), (108, ar 72 r1), (112, ar 24 Q1)] h) o := by
    intro Q1 r1 a5 a6 a7 h68 hQ1 h o fin k
    induction k with
    | zero =>
      intro n hn
      obtain rfl : n = m := by omega
      refine E_iload pf_123_122 rfl ?_
      refine E_aload pf_123_124 rfl ?_
      refine E_iconst pf_123_125 ?_
      refine F_iald pf_123_127 rfl (by omega) ?_
      refine E_icmp_ge_t pf_123_128 (by omega) ?_
      exact fin _
    | succ k ih =>
      intro n hn
      have hq := hQ1 n (by omega) (by omega)
      have hmo := mo_in Q1 n
      have h2 := ih (n + 1) (by omega)
      rw [mo_s] at h2
      by_cases a : 0 ≤ Q1 n
      · by_cases b : mo Q1 n = -9
        · rw [if_pos ⟨a, .inl b⟩] at h2
          rw [b]
          refine E_iload pf_123_122 rfl ?_
          refine E_aload pf_123_124 rfl ?_
          refine E_iconst pf_123_125 ?_
          refine F_iald pf_123_127 rfl (by omega) ?_
          refine E_icmp_ge_f pf_123_128 (by omega) ?_
          refine E_aload pf_123_131 rfl ?_
          refine F_getf pf_123_132 rfl rfl rfl ?_
          refine E_iload pf_123_135 rfl ?_
          refine F_iald pf_123_137 rfl (by omega) ?_
          refine E_if_lt_f pf_123_138 (by omega) ?_
          refine E_iload pf_123_141 rfl ?_
          refine E_iconst pf_123_143 ?_
          refine E_icmp_eq_t pf_123_145 (by omega) ?_
          refine E_iload pf_123_165 rfl ?_
          refine E_goto pf_123_167 ?_
          refine E_istore (lv' := [_, _, _, _, _, _, _, _, _, _]) pf_123_172 rfl rfl ?_
          refine E_iinc (lv' := [_, _, _, _, _, _, _, _, _, _]) pf_123_174 rfl rfl ?_
          refine E_goto pf_123_177 ?_
          exact h2
        · have hq2 := hQ1 (mo Q1 n) (by omega) (by omega)
          by_cases c : Q1 (mo Q1 n) < Q1 n
          · rw [if_pos ⟨a, .inr c⟩] at h2
            refine E_iload pf_123_122 rfl ?_
            refine E_aload pf_123_124 rfl ?_
            refine E_iconst pf_123_125 ?_
            refine F_iald pf_123_127 rfl (by omega) ?_
            refine E_icmp_ge_f pf_123_128 (by omega) ?_
            refine E_aload pf_123_131 rfl ?_
            refine F_getf pf_123_132 rfl rfl rfl ?_
            refine E_iload pf_123_135 rfl ?_
            refine F_iald pf_123_137 rfl (by omega) ?_
            refine E_if_lt_f pf_123_138 (by omega) ?_
            refine E_iload pf_123_141 rfl ?_
            refine E_iconst pf_123_143 ?_
            refine E_icmp_eq_f pf_123_145 (by omega) ?_
            refine E_aload pf_123_148 rfl ?_
            refine F_getf pf_123_149 rfl rfl rfl ?_
            refine E_iload pf_123_152 rfl ?_
            refine F_iald pf_123_154 rfl (by omega) ?_
            refine E_aload pf_123_155 rfl ?_
            refine F_getf pf_123_156 rfl rfl rfl ?_
            refine E_iload pf_123_159 rfl ?_
            refine F_iald pf_123_161 rfl (by omega) ?_
            refine E_icmp_le_f pf_123_162 (by omega) ?_
            refine E_iload pf_123_165 rfl ?_
            refine E_goto pf_123_167 ?_
            refine E_istore (lv' := [_, _, _, _, _, _, _, _, _, _]) pf_123_172 rfl rfl ?_
            refine E_iinc (lv' := [_, _, _, _, _, _, _, _, _, _]) pf_123_174 rfl rfl ?_
            refine E_goto pf_123_177 ?_
            exact h2
          · rw [if_neg (fun q => q.2.elim b c)] at h2
            refine E_iload pf_123_122 rfl ?_
            refine E_aload pf_123_124 rfl ?_
            refine E_iconst pf_123_125 ?_
            refine F_iald pf_123_127 rfl (by omega) ?_
            refine E_icmp_ge_f pf_123_128 (by omega) ?_
            refine E_aload pf_123_131 rfl ?_
            refine F_getf pf_123_132 rfl rfl rfl ?_
            refine E_iload pf_123_135 rfl ?_
            refine F_iald pf_123_137 rfl (by omega) ?_
            refine E_if_lt_f pf_123_138 (by omega) ?_
            refine E_iload pf_123_141 rfl ?_
            refine E_iconst pf_123_143 ?_
            refine E_icmp_eq_f pf_123_145 (by omega) ?_
            refine E_aload pf_123_148 rfl ?_
            refine F_getf pf_123_149 rfl rfl rfl ?_
            refine E_iload pf_123_152 rfl ?_
            refine F_iald pf_123_154 rfl (by omega) ?_
            refine E_aload pf_123_155 rfl ?_
            refine F_getf pf_123_156 rfl rfl rfl ?_
            refine E_iload pf_123_159 rfl ?_
            refine F_iald pf_123_161 rfl (by omega) ?_
            refine E_icmp_le_t pf_123_162 (by omega) ?_
            refine E_iload pf_123_170 rfl ?_
            refine E_istore (lv' := [_, _, _, _, _, _, _, _, _, _]) pf_123_172 rfl rfl ?_
            refine E_iinc (lv' := [_, _, _, _, _, _, _, _, _, _]) pf_123_174 rfl rfl ?_
            refine E_goto pf_123_177 ?_
            exact h2
      · rw [if_neg (fun q => a q.1)] at h2
        refine E_iload pf_123_122 rfl ?_
        refine E_aload pf_123_124 rfl ?_
        refine E_iconst pf_123_125 ?_
        refine F_iald pf_123_127 rfl (by omega) ?_
        refine E_icmp_ge_f pf_123_128 (by omega) ?_
        refine E_aload pf_123_131 rfl ?_
        refine F_getf pf_123_132 rfl rfl rfl ?_
        refine E_iload pf_123_135 rfl ?_
        refine F_iald pf_123_137 rfl (by omega) ?_
        refine E_if_lt_t pf_123_138 (by omega) ?_
        refine E_iload pf_123_170 rfl ?_
        refine E_istore (lv' := [_, _, _, _, _, _, _, _, _, _]) pf_123_172 rfl rfl ?_
        refine E_iinc (lv' := [_, _, _, _, _, _, _, _, _, _]) pf_123_174 rfl rfl ?_
        refine E_goto pf_123_177 ?_
        exact h2
  have loop2 : ∀ (a5 a6 : Int) (k : Nat) (Q1 r1 : Int → Int), k ≤ 2400 → (k : Int) ≤ cn Q1 m → r1 68 = m → (∀ i : Int, 0 ≤ i → i < m → -9 ≤ Q1 i ∧ Q1 i ≤ 1000) → ∃ r2 : Int → Int, pU r2 = inU (-1) m k Q1 (pU r1) ∧ ufr r1 r2 ∧ ∀ (l8 l9 : Value) h, Rn 123 110 [.ref 102, .ref 108, .int (ii up), .int (ii lo), .int (ii ex), .int (ii a5), .int (ii a6), .int (ii (k : Int)), l8, l9] [] (wd [(102, oX6 rf ts sp d kd vs rw rd rk rv rr ac), (108, ar 72 r1), (112, ar 24 Q1)] h) (.inl none, wd [(102, oX6 rf ts sp d kd vs rw rd rk rv rr ac), (108, ar 72 r2), (112, ar 24 (inQ (-1) m k Q1))] h) := by
    intro a5 a6 k
    induction k with
    | zero =>
      intro Q1 r1 _ _ h68 hQ1
      refine ⟨r1, rfl, ufr_rf r1, fun l8 l9 h => ?_⟩
      refine E_iload pf_123_110 rfl ?_
      refine E_if_le_t pf_123_112 (by omega) ?_
      exact E_vret pf_123_205 rfl
    | succ k ih =>
      intro Q1 r1 hk hc h68 hQ1
      have hz := zax_in Q1 (m - 1)
      have hp := cn_pos (Q := Q1) (m := m) (by omega)
      have emo : mo Q1 m = zax Q1 (m - 1) := by
        obtain ⟨n, rfl⟩ : ∃ n, m = n + 1 := ⟨m - 1, by omega⟩
        simp only [mo]
        rw [if_neg (by simpa using hp)]; rfl
      obtain ⟨r2, g1, g2, g3⟩ := ih (zu Q1 (zax Q1 (m - 1)) (-1)) (zu r1 (44 + zax Q1 (m - 1)) (r1 (44 + zax Q1 (m - 1)) + 1)) (by omega) (by rw [cn_zu (by omega) hp (by omega)]; omega) (by rw [zu_n _ _ (by omega)]; exact h68) (fun i h1 h2 => by
        unfold zu; split
        · omega
        · exact hQ1 i h1 h2)
      refine ⟨r2, by rw [g1, pU_u]; rfl, ufr_tr (ufr_u _ (by omega)) g2, fun l8 l9 h => ?_⟩
      refine E_iload pf_123_110 rfl ?_
      refine E_if_le_f pf_123_112 (by omega) ?_
      refine E_iconst pf_123_115 ?_
      refine E_istore (lv' := [_, _, _, _, _, _, _, _, _, _]) pf_123_117 rfl rfl ?_
      refine E_iconst pf_123_119 ?_
      refine E_istore (lv' := [_, _, _, _, _, _, _, _, _, _]) pf_123_120 rfl rfl ?_
      refine loop3 Q1 r1 a5 a6 ((k + 1 : Nat) : Int) h68 hQ1 h _ (fun l9 => ?_) m 0 (by omega)
      rw [emo]
      refine E_aload pf_123_180 rfl ?_
      refine E_iconst pf_123_181 ?_
      refine E_iload pf_123_183 rfl ?_
      refine E_iadd pf_123_185 ?_
      refine E_dup2 pf_123_186 rfl rfl ?_
      refine F_iald pf_123_187 rfl (by omega) ?_
      refine E_iconst pf_123_188 ?_
      refine E_iadd pf_123_189 ?_
      refine F_iast (l' := [(_, _), (_, _), (_, _)]) pf_123_190 rfl (by omega) rfl ?_
      refine E_aload pf_123_191 rfl ?_
      refine F_getf pf_123_192 rfl rfl rfl ?_
      refine E_iload pf_123_195 rfl ?_
      refine E_iconst pf_123_197 ?_
      refine F_iast (l' := [(_, _), (_, _), (_, _)]) pf_123_198 rfl (by omega) rfl ?_
      refine E_iinc (lv' := [_, _, _, _, _, _, _, _, _, _]) pf_123_199 rfl rfl ?_
      refine E_goto pf_123_202 ?_
      rw [show ((k + 1 : Nat) : Int) + -1 = k by omega]
      exact g3 _ _ h
  have hA : ∀ i : Nat, i ≤ m → 0 ≤ zs (sA (pU r) ex) i ∧ zs (sA (pU r) ex) i ≤ 2400 := fun i hi => by
    have hh : ∀ j : Nat, j < i → 0 ≤ sA (pU r) ex j ∧ sA (pU r) ex j ≤ 100 := fun j hj => by
      have := hU j (by omega)
      unfold sA; split <;> omega
    refine ⟨zs_nn fun j hj => (hh j hj).1, ?_⟩
    have := zs_le (f := sA (pU r) ex) (n := i) (B := 100) (fun j hj => by have := hh j hj; omega)
    omega
  have hL : ∀ i : Nat, i ≤ m → 0 ≤ zs (sL (pU r) up lo ex) i ∧ zs (sL (pU r) up lo ex) i ≤ 2400 := fun i hi => by
    refine ⟨zs_nn fun j _ => (sL_nn (by omega) j).1, ?_⟩
    have := zs_le (f := sL (pU r) up lo ex) (n := i) (B := 100) (fun j _ => by have := sL_nn (U := pU r) (up := up) (lo := lo) (ex := ex) (by omega) j; omega)
    omega
  have loop : ∀ (k i : Nat) (Q1 r1 : Int → Int) (l8 l9 : Value), i + k = m → Q1 = zfill Q (sQ (-1) (pU r) up lo ex) i → pU r1 = zfill (pU r) (sU (pU r) up lo ex) i → ufr r r1 → ∃ (r' Q' : Int → Int), pU r' = inU (-1) m (zs (sL (pU r) up lo ex) m / lo).toNat (zfill Q (sQ (-1) (pU r) up lo ex) m) (zfill (pU r) (sU (pU r) up lo ex) m) ∧ ufr r r' ∧ ∀ h, Rn 123 9 [.ref 102, .ref 108, .int (ii up), .int (ii lo), .int (ii ex), .int (ii (zs (sA (pU r) ex) i)), .int (ii (zs (sG (pU r) up lo ex) i)), .int (ii (i : Int)), l8, l9] [] (wd [(102, oX6 rf ts sp d kd vs rw rd rk rv rr ac), (108, ar 72 r1), (112, ar 24 Q1)] h) (.inl none, wd [(102, oX6 rf ts sp d kd vs rw rd rk rv rr ac), (108, ar 72 r'), (112, ar 24 Q')] h) := by
    intro k
    induction k with
    | zero =>
      intro i Q1 r1 l8 l9 hi hQ1 hU1 hf
      obtain rfl : i = m := by omega
      have hb := hL i (Nat.le_refl _)
      have ha := hA i (Nat.le_refl _)
      have hd0 : 0 ≤ zs (sL (pU r) up lo ex) i / lo := Int.ediv_nonneg hb.1 (by omega)
      have hd1 : zs (sL (pU r) up lo ex) i / lo ≤ 2400 := Int.le_trans (Int.ediv_le_self _ hb.1) hb.2
      have hp0 : 0 ≤ zs (sA (pU r) ex) i * up := Int.mul_nonneg ha.1 hup.1
      have hp1 : zs (sA (pU r) ex) i * up ≤ 240000 := by
        have := Int.mul_le_mul ha.2 hup.2 hup.1 (by omega : (0 : Int) ≤ 2400)
        omega
      have h68b : r1 68 = i := (hf 68 (by omega)).trans h68
      have em := s_mis (U := pU r) (up := up) (lo := lo) (ex := ex) (m := i) (by omega)
      have et : zs (sL (pU r) up lo ex) i / lo = (((zs (sL (pU r) up lo ex) i / lo).toNat : Nat) : Int) := (Int.toNat_of_nonneg hd0).symm
      obtain ⟨r2, g1, g2, g3⟩ := loop2 (zs (sA (pU r) ex) i) (zs (sG (pU r) up lo ex) i) (zs (sL (pU r) up lo ex) i / lo).toNat Q1 r1 (by omega) (by
          rw [← et, cn_congr (Q' := sQ (-1) (pU r) up lo ex) (fun j hj => by rw [hQ1, zfill_at (by omega)])]
          exact sQ_cn (by omega) (by omega)) h68b (fun k h1 h2 => by
          rw [hQ1, zfill_at (by omega)]
          unfold sQ; split
          · omega
          · have := Int.emod_nonneg (pU r k * up) (show lo ≠ 0 by omega)
            have := Int.emod_lt_of_pos (pU r k * up) (show 0 < lo by omega)
            omega)
      refine ⟨r2, inQ (-1) i (zs (sL (pU r) up lo ex) i / lo).toNat Q1, by rw [g1, hU1, hQ1], ufr_tr hf g2, fun h => ?_⟩
      refine E_iload pf_123_9 rfl ?_
      refine E_aload pf_123_11 rfl ?_
      refine E_iconst pf_123_12 ?_
      refine F_iald pf_123_14 rfl (by omega) ?_
      refine E_icmp_ge_t pf_123_15 (by omega) ?_
      refine E_iload pf_123_99 rfl ?_
      refine E_iload pf_123_101 rfl ?_
      refine E_imul pf_123_102 ?_
      refine E_iload pf_123_103 rfl ?_
      refine E_idiv pf_123_104 (by omega) ?_
      refine E_iload pf_123_105 rfl ?_
      refine E_isub pf_123_107 ?_
      refine E_istore (lv' := [_, _, _, _, _, _, _, _, _, _]) pf_123_108 rfl rfl ?_
      rw [em, et]
      exact g3 _ _ h
    | succ k ih =>
      intro i Q1 r1 l8 l9 hi hQ1 hU1 hf
      have ha := hA i (by omega)
      have h68b : r1 68 = m := (hf 68 (by omega)).trans h68
      have e1 : r1 (44 + (i : Int)) = pU r i := by
        show pU r1 i = _
        rw [hU1, zfill_out (by omega)]
      have hu := hU i (by omega)
      by_cases e : (i : Int) = ex
      · obtain ⟨r2, Q2, g1, g2, g3⟩ := ih (i + 1) (zu Q1 i (-1)) r1 l8 l9 (by omega) (by rw [zfill_s, ← hQ1]; unfold sQ; rw [if_pos e]) (by rw [zfill_s, ← hU1]; unfold sU; rw [if_pos e]; exact (zu_id (pU r1) e1).symm) hf
        have e2 : zs (sA (pU r) ex) (i + 1) = zs (sA (pU r) ex) i := by
          show zs _ i + sA (pU r) ex i = _
          unfold sA; rw [if_pos e]; omega
        have e3 : zs (sG (pU r) up lo ex) (i + 1) = zs (sG (pU r) up lo ex) i := by
          show zs _ i + sG (pU r) up lo ex i = _
          unfold sG; rw [if_pos e]; omega
        refine ⟨r2, Q2, g1, g2, fun h => ?_⟩
        have g3 := g3 h
        rw [e2, e3] at g3
        refine E_iload pf_123_9 rfl ?_
        refine E_aload pf_123_11 rfl ?_
        refine E_iconst pf_123_12 ?_
        refine F_iald pf_123_14 rfl (by omega) ?_
        refine E_icmp_ge_f pf_123_15 (by omega) ?_
        refine E_aload pf_123_18 rfl ?_
        refine F_getf pf_123_19 rfl rfl rfl ?_
        refine E_iload pf_123_22 rfl ?_
        refine E_iconst pf_123_24 ?_
        refine F_iast (l' := [(_, _), (_, _), (_, _)]) pf_123_25 rfl (by omega) rfl ?_
        refine E_iload pf_123_26 rfl ?_
        refine E_iload pf_123_28 rfl ?_
        refine E_icmp_eq_t pf_123_30 (by omega) ?_
        refine E_iinc (lv' := [_, _, _, _, _, _, _, _, _, _]) pf_123_93 rfl rfl ?_
        refine E_goto pf_123_96 ?_
        exact g3
      · rw [← e1] at hu
        have hp0 : 0 ≤ r1 (44 + (i : Int)) * up := Int.mul_nonneg hu.1 hup.1
        have hp1 : r1 (44 + (i : Int)) * up ≤ 10000 := by
          have := Int.mul_le_mul hu.2 hup.2 hup.1 (by omega : (0 : Int) ≤ 100)
          omega
        obtain ⟨r2, Q2, g1, g2, g3⟩ := ih (i + 1) (zu Q1 i (r1 (44 + (i : Int)) * up % lo)) (zu r1 (44 + (i : Int)) (r1 (44 + (i : Int)) * up / lo)) l8 l9 (by omega) (by rw [zfill_s, ← hQ1]; unfold sQ; rw [if_neg e, e1]) (by rw [pU_u, zfill_s, ← hU1]; unfold sU; rw [if_neg e, e1]) (ufr_tr hf (ufr_u _ (by omega)))
        have e2 : zs (sA (pU r) ex) (i + 1) = zs (sA (pU r) ex) i + r1 (44 + (i : Int)) := by
          show zs _ i + sA (pU r) ex i = _
          unfold sA; rw [if_neg e, e1]
        have e3 : zs (sG (pU r) up lo ex) (i + 1) = zs (sG (pU r) up lo ex) i + r1 (44 + (i : Int)) * up / lo := by
          show zs _ i + sG (pU r) up lo ex i = _
          unfold sG; rw [if_neg e, e1]
        refine ⟨r2, Q2, g1, g2, fun h => ?_⟩
        have g3 := g3 h
        rw [e2, e3] at g3
        refine E_iload pf_123_9 rfl ?_
        refine E_aload pf_123_11 rfl ?_
        refine E_iconst pf_123_12 ?_
        refine F_iald pf_123_14 rfl (by omega) ?_
        refine E_icmp_ge_f pf_123_15 (by omega) ?_
        refine E_aload pf_123_18 rfl ?_
        refine F_getf pf_123_19 rfl rfl rfl ?_
        refine E_iload pf_123_22 rfl ?_
        refine E_iconst pf_123_24 ?_
        refine F_iast (l' := [(_, _), (_, _), (_, _)]) pf_123_25 rfl (by omega) rfl ?_
        refine E_iload pf_123_26 rfl ?_
        refine E_iload pf_123_28 rfl ?_
        refine E_icmp_eq_f pf_123_30 (by omega) ?_
        refine E_iload pf_123_33 rfl ?_
        refine E_aload pf_123_35 rfl ?_
        refine E_iconst pf_123_36 ?_
        refine E_iload pf_123_38 rfl ?_
        refine E_iadd pf_123_40 ?_
        refine F_iald pf_123_41 rfl (by omega) ?_
        refine E_iadd pf_123_42 ?_
        refine E_istore (lv' := [_, _, _, _, _, _, _, _, _, _]) pf_123_43 rfl rfl ?_
        refine E_aload pf_123_45 rfl ?_
        refine F_getf pf_123_46 rfl rfl rfl ?_
        refine E_iload pf_123_49 rfl ?_
        refine E_aload pf_123_51 rfl ?_
        refine E_iconst pf_123_52 ?_
        refine E_iload pf_123_54 rfl ?_
        refine E_iadd pf_123_56 ?_
        refine F_iald pf_123_57 rfl (by omega) ?_
        refine E_iload pf_123_58 rfl ?_
        refine E_imul pf_123_59 ?_
        refine E_iload pf_123_60 rfl ?_
        refine E_irem pf_123_61 (by omega) ?_
        refine F_iast (l' := [(_, _), (_, _), (_, _)]) pf_123_62 rfl (by omega) rfl ?_
        refine E_aload pf_123_63 rfl ?_
        refine E_iconst pf_123_64 ?_
        refine E_iload pf_123_66 rfl ?_
        refine E_iadd pf_123_68 ?_
        refine E_aload pf_123_69 rfl ?_
        refine E_iconst pf_123_70 ?_
        refine E_iload pf_123_72 rfl ?_
        refine E_iadd pf_123_74 ?_
        refine F_iald pf_123_75 rfl (by omega) ?_
        refine E_iload pf_123_76 rfl ?_
        refine E_imul pf_123_77 ?_
        refine E_iload pf_123_78 rfl ?_
        refine E_idiv pf_123_79 (by omega) ?_
        refine F_iast (l' := [(_, _), (_, _), (_, _)]) pf_123_80 rfl (by omega) rfl ?_
        refine E_iload pf_123_81 rfl ?_
        refine E_aload pf_123_83 rfl ?_
        refine E_iconst pf_123_84 ?_
        refine E_iload pf_123_86 rfl ?_
        refine E_iadd pf_123_88 ?_
        refine F_iald pf_123_89 rfl (by omega) ?_
        rw [zu_s, zu_zu]
        refine E_iadd pf_123_90 ?_
        refine E_istore (lv' := [_, _, _, _, _, _, _, _, _, _]) pf_123_91 rfl rfl ?_
        refine E_iinc (lv' := [_, _, _, _, _, _, _, _, _, _]) pf_123_93 rfl rfl ?_
        refine E_goto pf_123_96 ?_
        exact g3
  obtain ⟨r2, Q2, g1, g2, g3⟩ := loop m 0 Q r pd_dum pd_dum (by omega) (zfill_0 _ _).symm (zfill_0 _ _).symm (ufr_rf r)
  refine ⟨r2, Q2, ?_, g2, fun h => ?_⟩
  · have e1 : zp r2 m = zl (pV r) (pU r2) m := zl_congr fun j hj => ⟨g2 _ (by omega), rfl⟩
    rw [e1, g1]
    exact scl_eq (by omega) (by omega) (fun i hi => zfill_at (by omega)) (fun i hi => zfill_at (by omega))
  refine E_in (lv := [_, _, _, _, _, _, _, _, _, _]) rfl ?_
  refine E_iconst pf_123_0 ?_
  refine E_istore (lv' := [_, _, _, _, _, _, _, _, _, _]) pf_123_1 rfl rfl ?_
  refine E_iconst pf_123_3 ?_
  refine E_istore (lv' := [_, _, _, _, _, _, _, _, _, _]) pf_123_4 rfl rfl ?_
  refine E_iconst pf_123_6 ?_
  refine E_istore (lv' := [_, _, _, _, _, _, _, _, _, _]) pf_123_7 rfl rfl ?_
  exact g3 h
end SCL
