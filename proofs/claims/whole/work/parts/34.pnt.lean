/-! Points: comparisons, keys, sorted lists of keys. -/
abbrev oP5 (d k n : Int) : pd_E := ob 2 [.int (ii d), .int (ii k), .int (ii n), .ref 6, .ref 7, .ref 8]
/-- lexicographic comparison of n numbers from place j on -/
def lxr (f g : Int → Int) : Nat → Int → Int
  | 0, _ => 0
  | n + 1, j => if f j = g j then lxr f g n (j + 1) else if f j < g j then -1 else 1
def ky (f : Int → Int) (a : Int) : Int := f a * 32768 + f (a + 1) * 1024 + f (a + 2) * 32 + f (a + 3)
def b9 (f : Int → Int) (a : Int) : Prop := (-9 ≤ f a ∧ f a ≤ 9) ∧ (-9 ≤ f (a + 1) ∧ f (a + 1) ≤ 9) ∧ (-9 ≤ f (a + 2) ∧ f (a + 2) ≤ 9) ∧ (-9 ≤ f (a + 3) ∧ f (a + 3) ≤ 9)
def cmk (x y : Int) : Int := if x = y then 0 else if x < y then -1 else 1
theorem lxr_ky {f g : Int → Int} {a b : Int} (hf : b9 f a) (hg : b9 g b) : lxr (fun j => f (a + j)) (fun j => g (b + j)) 4 0 = cmk (ky f a) (ky g b) := by
  unfold b9 at hf hg
  unfold cmk ky
  have ea : a + 0 = a := by omega
  have eb : b + 0 = b := by omega
  have e1 : (0 : Int) + 1 = 1 := rfl
  have e2 : (1 : Int) + 1 = 2 := rfl
  have e3 : (2 : Int) + 1 = 3 := rfl
  simp only [lxr, ea, eb, e1, e2, e3]
  generalize f a = f0 at *
  generalize f (a + 1) = f1 at *
  generalize f (a + 2) = f2 at *
  generalize f (a + 3) = f3 at *
  generalize g b = g0 at *
  generalize g (b + 1) = g1 at *
  generalize g (b + 2) = g2 at *
  generalize g (b + 3) = g3 at *
  by_cases c0 : f0 = g0
  · rw [if_pos c0]
    by_cases c1 : f1 = g1
    · rw [if_pos c1]
      by_cases c2 : f2 = g2
      · rw [if_pos c2]
        by_cases c3 : f3 = g3
        · rw [if_pos c3, if_pos (by omega)]
        · rw [if_neg c3]
          by_cases d : f3 < g3
          · rw [if_pos d, if_neg (by omega), if_pos (by omega)]
          · rw [if_neg d, if_neg (by omega), if_neg (by omega)]
      · rw [if_neg c2]
        by_cases d : f2 < g2
        · rw [if_pos d, if_neg (by omega), if_pos (by omega)]
        · rw [if_neg d, if_neg (by omega), if_neg (by omega)]
    · rw [if_neg c1]
      by_cases d : f1 < g1
      · rw [if_pos d, if_neg (by omega), if_pos (by omega)]
      · rw [if_neg d, if_neg (by omega), if_neg (by omega)]
  · rw [if_neg c0]
    by_cases d : f0 < g0
    · rw [if_pos d, if_neg (by omega), if_pos (by omega)]
    · rw [if_neg d, if_neg (by omega), if_neg (by omega)]
theorem ky_inj {f g : Int → Int} {a b : Int} (hf : b9 f a) (hg : b9 g b) (h : ky f a = ky g b) : f a = g b ∧ f (a + 1) = g (b + 1) ∧ f (a + 2) = g (b + 2) ∧ f (a + 3) = g (b + 3) := by
  unfold b9 at hf hg
  unfold ky at h
  omega
/-- sorted lists of keys -/
def kl (C : Int → Int) (n : Nat) : List Int := (List.range n).map (fun i : Nat => ky C (4 * i))
theorem kl_len (C : Int → Int) (n : Nat) : (kl C n).length = n := by simp [kl]
theorem kl_get {C : Int → Int} {n i : Nat} (h : i < n) : (kl C n)[i]? = some (ky C (4 * i)) := by simp [kl, h]
theorem kl_mem {C : Int → Int} {n : Nat} {x : Int} : x ∈ kl C n ↔ ∃ i : Nat, i < n ∧ x = ky C (4 * i) := by
  simp only [kl, List.mem_map, List.mem_range]
  constructor
  · rintro ⟨i, h1, h2⟩; exact ⟨i, h1, h2.symm⟩
  · rintro ⟨i, h1, h2⟩; exact ⟨i, h1, h2.symm⟩
def ins : List Int → Int → List Int
  | [], k => [k]
  | x :: r, k => if x < k then x :: ins r k else if x = k then x :: r else k :: x :: r
theorem ins_at : ∀ {L : List Int} {p : Nat} {k : Int}, (∀ (i : Nat) (x : Int), i < p → L[i]? = some x → x < k) → p ≤ L.length → (∀ x, L[p]? = some x → k < x) → ins L k = L.take p ++ k :: L.drop p
  | [], p, k, _, hp, _ => by
    obtain rfl : p = 0 := by simpa using hp
    rfl
  | y :: L, 0, k, _, _, hx => by
    have := hx y rfl
    simp only [ins, if_neg (show ¬ y < k by omega), if_neg (show ¬ y = k by omega)]; rfl
  | y :: L, p + 1, k, hl, hp, hx => by
    have h0 := hl 0 y (by omega) rfl
    simp only [ins, if_pos h0, List.take_succ_cons, List.drop_succ_cons, List.cons_append]
    rw [ins_at (L := L) (p := p) (fun i x hi hq => hl (i + 1) x (by omega) (by simpa using hq)) (by simpa using hp) (fun x hq => hx x (by simpa using hq))]
theorem ins_mem {L : List Int} {k x : Int} : x ∈ ins L k ↔ x = k ∨ x ∈ L := by
  induction L with
  | nil => simp [ins]
  | cons y L ih =>
    simp only [ins]
    by_cases e : y < k
    · rw [if_pos e, List.mem_cons, ih, List.mem_cons]
      constructor
      · rintro (h | h | h) <;> simp [h]
      · rintro (h | h | h) <;> simp [h]
    · rw [if_neg e]
      by_cases e2 : y = k
      · rw [if_pos e2, List.mem_cons]
        constructor
        · intro h; exact .inr h
        · rintro (h | h)
          · exact .inl (h.trans e2.symm)
          · exact h
      · rw [if_neg e2]; simp
theorem ins_sorted {L : List Int} {k : Int} (h : L.Pairwise (· < ·)) : (ins L k).Pairwise (· < ·) := by
  induction L with
  | nil => simp [ins]
  | cons y L ih =>
    have h1 := List.pairwise_cons.mp h
    simp only [ins]
    by_cases e : y < k
    · rw [if_pos e]
      refine List.pairwise_cons.mpr ⟨fun x hx => ?_, ih h1.2⟩
      rcases ins_mem.mp hx with rfl | hx
      · exact e
      · exact h1.1 x hx
    · rw [if_neg e]
      by_cases e2 : y = k
      · rw [if_pos e2]; exact h
      · rw [if_neg e2]
        refine List.pairwise_cons.mpr ⟨fun x hx => ?_, h⟩
        rcases List.mem_cons.mp hx with rfl | hx
        · omega
        · have := h1.1 x hx; omega
theorem ins_old {L : List Int} {k : Int} (h : L.Pairwise (· < ·)) (hm : k ∈ L) : ins L k = L := by
  induction L with
  | nil => cases hm
  | cons y L ih =>
    have h1 := List.pairwise_cons.mp h
    simp only [ins]
    rcases List.mem_cons.mp hm with rfl | hm
    · rw [if_neg (by omega), if_pos rfl]
    · rw [if_pos (h1.1 k hm), ih h1.2 hm]
theorem sorted_ext : ∀ {L M : List Int}, L.Pairwise (· < ·) → M.Pairwise (· < ·) → (∀ x, x ∈ L ↔ x ∈ M) → L = M
  | [], [], _, _, _ => rfl
  | [], y :: M, _, _, h => by have := (h y).mpr List.mem_cons_self; cases this
  | x :: L, [], _, _, h => by have := (h x).mp List.mem_cons_self; cases this
  | x :: L, y :: M, hl, hm, h => by
    have h1 := List.pairwise_cons.mp hl
    have h2 := List.pairwise_cons.mp hm
    have e : x = y := by
      rcases List.mem_cons.mp ((h x).mp List.mem_cons_self) with e | e
      · exact e
      · rcases List.mem_cons.mp ((h y).mpr List.mem_cons_self) with e2 | e2
        · exact e2.symm
        · have a := h2.1 x e
          have b := h1.1 y e2
          omega
    subst e
    congr 1
    refine sorted_ext h1.2 h2.2 fun z => ⟨fun hz => ?_, fun hz => ?_⟩
    · rcases List.mem_cons.mp ((h z).mp (List.mem_cons_of_mem _ hz)) with e | e
      · have := h1.1 z hz; omega
      · exact e
    · rcases List.mem_cons.mp ((h z).mpr (List.mem_cons_of_mem _ hz)) with e | e
      · have := h2.1 z hz; omega
      · exact e
/-- the array with a point put in at block p of n blocks -/
def shp (C pt : Int → Int) (p n : Int) : Int → Int := fun q => if q < 4 * p ∨ 4 * n + 4 ≤ q then C q else if q < 4 * p + 4 then pt (q - 4 * p) else C (q - 4)
theorem ky_congr {f g : Int → Int} {a b : Int} (h : ∀ j : Int, 0 ≤ j → j < 4 → f (a + j) = g (b + j)) : ky f a = ky g b := by
  have h0 := h 0 (by omega) (by omega)
  rw [Int.add_zero, Int.add_zero] at h0
  unfold ky
  rw [h0, h 1 (by omega) (by omega), h 2 (by omega) (by omega), h 3 (by omega) (by omega)]
theorem shp_kl {C pt : Int → Int} {p n : Nat} (hp : p ≤ n) : kl (shp C pt p n) (n + 1) = (kl C n).take p ++ ky pt 0 :: (kl C n).drop p := by
  apply List.ext_getElem?
  intro i
  by_cases hi : i < n + 1
  · rw [kl_get hi]
    rcases Nat.lt_trichotomy i p with e | e | e
    · rw [List.getElem?_append_left (by rw [List.length_take, kl_len]; omega), List.getElem?_take_of_lt e, kl_get (by omega)]
      congr 1
      exact ky_congr fun j h1 h2 => by unfold shp; rw [if_pos (by omega)]
    · subst e
      rw [List.getElem?_append_right (by rw [List.length_take, kl_len]; omega), List.length_take, kl_len, show i - min i n = 0 by omega, List.getElem?_cons_zero]
      congr 1
      exact ky_congr fun j h1 h2 => by unfold shp; rw [if_neg (by omega), if_pos (by omega)]; congr 1; omega
    · rw [List.getElem?_append_right (by rw [List.length_take, kl_len]; omega), List.length_take, kl_len, show i - min p n = (i - 1 - p) + 1 by omega, List.getElem?_cons_succ, List.getElem?_drop, show p + (i - 1 - p) = i - 1 by omega, kl_get (by omega)]
      congr 1
      exact ky_congr fun j h1 h2 => by unfold shp; rw [if_neg (by omega), if_neg (by omega)]; congr 1; omega
  · rw [List.getElem?_eq_none (by rw [kl_len]; omega), List.getElem?_eq_none (by rw [List.length_append, List.length_cons, List.length_take, List.length_drop, kl_len]; omega)]
theorem shp_b9 {C pt : Int → Int} {p n : Int} (hC : ∀ q, -9 ≤ C q ∧ C q ≤ 9) (hp : b9 pt 0) : ∀ q, -9 ≤ shp C pt p n q ∧ shp C pt p n q ≤ 9 := by
  intro q
  unfold shp
  by_cases e : q < 4 * p ∨ 4 * n + 4 ≤ q
  · rw [if_pos e]; exact hC q
  · rw [if_neg e]
    by_cases e2 : q < 4 * p + 4
    · rw [if_pos e2]
      unfold b9 at hp
      have : q - 4 * p = 0 ∨ q - 4 * p = 0 + 1 ∨ q - 4 * p = 0 + 2 ∨ q - 4 * p = 0 + 3 := by omega
      rcases this with g | g | g | g <;> rw [g] <;> omega
    · rw [if_neg e2]; exact hC _
section PNT
variable {C pt P : Int → Int} {d k : Int} {n : Nat}
theorem c28r {i j : Int} (hi : 0 ≤ i ∧ i < 24) (hj : 0 ≤ j ∧ j < 4) : ∀ h, Ca 28 [.ref 5, .int (ii i), .int (ii j)] (wd [(5, oP5 d k (n : Int)), (6, ar 96 C)] h) (.inl (some (.int (ii (C (i * 4 + j))))), wd [(5, oP5 d k (n : Int)), (6, ar 96 C)] h) := by
  intro h
  refine E_in (lv := [_, _, _]) rfl ?_
  refine E_iload pf_28_0 rfl ?_
  refine E_if_lt_f pf_28_1 (by omega) ?_
  refine E_iload pf_28_4 rfl ?_
  refine E_iconst pf_28_5 ?_
  refine E_icmp_ge_f pf_28_7 (by omega) ?_
  refine E_iload pf_28_10 rfl ?_
  refine E_if_lt_f pf_28_11 (by omega) ?_
  refine E_iload pf_28_14 rfl ?_
  refine E_iconst pf_28_15 ?_
  refine E_icmp_lt_t pf_28_16 (by omega) ?_
  refine E_aload pf_28_21 rfl ?_
  refine F_getf pf_28_22 rfl rfl rfl ?_
  refine E_iload pf_28_25 rfl ?_
  refine E_iconst pf_28_26 ?_
  refine E_imul pf_28_27 ?_
  refine E_iload pf_28_28 rfl ?_
  refine E_iadd pf_28_29 ?_
  refine F_iald pf_28_30 rfl (by omega) ?_
  exact E_iret pf_28_31 rfl
theorem c31p {i : Int} (hi : 0 ≤ i ∧ i < 24) (hC : ∀ q, -9 ≤ C q ∧ C q ≤ 9) (hp : ∀ j : Int, 0 ≤ j → j < 4 → -2147483648 ≤ pt j ∧ pt j ≤ 2147483647) : ∀ h, Ca 31 [.ref 5, .int (ii i), .ref 4] (wd [(5, oP5 d k (n : Int)), (6, ar 96 C), (4, ar 4 pt)] h) (.inl (some (.int (ii (lxr (fun j => C (i * 4 + j)) pt 4 0)))), wd [(5, oP5 d k (n : Int)), (6, ar 96 C), (4, ar 4 pt)] h) := by
  intro h
  refine E_in (lv := [_, _, _, _, _]) rfl ?_
  have loop : ∀ (m j : Nat) (w4 : Value) (z : Int), j + m = 4 → z = lxr (fun j => C (i * 4 + j)) pt m (j : Int) → Rn 31 2 [.ref 5, .int (ii i), .ref 4, .int (ii (j : Int)), w4] [] (wd [(5, oP5 d k (n : Int)), (6, ar 96 C), (4, ar 4 pt)] h) (.inl (some (.int (ii z))), wd [(5, oP5 d k (n : Int)), (6, ar 96 C), (4, ar 4 pt)] h) := by
    intro m
    induction m with
    | zero =>
      intro j w4 z hj hz
      obtain rfl : z = 0 := hz
      refine E_iload pf_31_2 rfl ?_
      refine E_iconst pf_31_3 ?_
      refine E_icmp_ge_t pf_31_4 (by omega) ?_
      refine E_iconst pf_31_43 ?_
      exact E_iret pf_31_44 rfl
    | succ m ih =>
      intro j w4 z hj hz
      have b1 := hC (i * 4 + j)
      have b2 := hp j (by omega) (by omega)
      simp only [lxr] at hz
      by_cases e : C (i * 4 + j) = pt j
      · rw [if_pos e] at hz
        have ih := fun w4 => ih (j + 1) w4 z (by omega) hz
        refine E_iload pf_31_2 rfl ?_
        refine E_iconst pf_31_3 ?_
        refine E_icmp_ge_f pf_31_4 (by omega) ?_
        refine E_aload pf_31_7 rfl ?_
        refine E_iload pf_31_8 rfl ?_
        refine E_iload pf_31_9 rfl ?_
        refine F_v3v0 pf_31_10 (c28r (by omega) (by omega)) (And.intro rfl (And.intro rfl (trivial))) rfl rfl ?_
        refine E_istore (lv' := [_, _, _, _, _]) pf_31_13 rfl rfl ?_
        refine E_iload pf_31_15 rfl ?_
        refine E_aload pf_31_17 rfl ?_
        refine E_iload pf_31_18 rfl ?_
        refine F_iald pf_31_19 rfl (by omega) ?_
        refine E_icmp_eq_t pf_31_20 (by omega) ?_
        refine E_iinc (lv' := [_, _, _, _, _]) pf_31_37 rfl rfl ?_
        refine E_goto pf_31_40 ?_
        exact ih _
      · rw [if_neg e] at hz
        by_cases e2 : C (i * 4 + j) < pt j
        · rw [if_pos e2] at hz
          subst hz
          refine E_iload pf_31_2 rfl ?_
          refine E_iconst pf_31_3 ?_
          refine E_icmp_ge_f pf_31_4 (by omega) ?_
          refine E_aload pf_31_7 rfl ?_
          refine E_iload pf_31_8 rfl ?_
          refine E_iload pf_31_9 rfl ?_
          refine F_v3v0 pf_31_10 (c28r (by omega) (by omega)) (And.intro rfl (And.intro rfl (trivial))) rfl rfl ?_
          refine E_istore (lv' := [_, _, _, _, _]) pf_31_13 rfl rfl ?_
          refine E_iload pf_31_15 rfl ?_
          refine E_aload pf_31_17 rfl ?_
          refine E_iload pf_31_18 rfl ?_
          refine F_iald pf_31_19 rfl (by omega) ?_
          refine E_icmp_eq_f pf_31_20 (by omega) ?_
          refine E_iload pf_31_23 rfl ?_
          refine E_aload pf_31_25 rfl ?_
          refine E_iload pf_31_26 rfl ?_
          refine F_iald pf_31_27 rfl (by omega) ?_
          refine E_icmp_ge_f pf_31_28 (by omega) ?_
          refine E_iconst pf_31_31 ?_
          refine E_goto pf_31_32 ?_
          exact E_iret pf_31_36 rfl
        · rw [if_neg e2] at hz
          subst hz
          refine E_iload pf_31_2 rfl ?_
          refine E_iconst pf_31_3 ?_
          refine E_icmp_ge_f pf_31_4 (by omega) ?_
          refine E_aload pf_31_7 rfl ?_
          refine E_iload pf_31_8 rfl ?_
          refine E_iload pf_31_9 rfl ?_
          refine F_v3v0 pf_31_10 (c28r (by omega) (by omega)) (And.intro rfl (And.intro rfl (trivial))) rfl rfl ?_
          refine E_istore (lv' := [_, _, _, _, _]) pf_31_13 rfl rfl ?_
          refine E_iload pf_31_15 rfl ?_
          refine E_aload pf_31_17 rfl ?_
          refine E_iload pf_31_18 rfl ?_
          refine F_iald pf_31_19 rfl (by omega) ?_
          refine E_icmp_eq_f pf_31_20 (by omega) ?_
          refine E_iload pf_31_23 rfl ?_
          refine E_aload pf_31_25 rfl ?_
          refine E_iload pf_31_26 rfl ?_
          refine F_iald pf_31_27 rfl (by omega) ?_
          refine E_icmp_ge_t pf_31_28 (by omega) ?_
          refine E_iconst pf_31_35 ?_
          exact E_iret pf_31_36 rfl
  refine E_iconst pf_31_0 ?_
  refine E_istore (lv' := [_, _, _, _, _]) pf_31_1 rfl rfl ?_
  exact loop 4 0 _ _ (by omega) rfl
theorem c31c {i : Int} (hi : 0 ≤ i ∧ i < 24) (hC : ∀ q, -9 ≤ C q ∧ C q ≤ 9) (hp : ∀ j : Int, 0 ≤ j → j < 4 → -2147483648 ≤ pt j ∧ pt j ≤ 2147483647) : ∀ h, Ca 31 [.ref 5, .int (ii i), .ref 7] (wd [(5, oP5 d k (n : Int)), (6, ar 96 C), (7, ar 4 pt)] h) (.inl (some (.int (ii (lxr (fun j => C (i * 4 + j)) pt 4 0)))), wd [(5, oP5 d k (n : Int)), (6, ar 96 C), (7, ar 4 pt)] h) := by
  intro h
  refine E_in (lv := [_, _, _, _, _]) rfl ?_
  have loop : ∀ (m j : Nat) (w4 : Value) (z : Int), j + m = 4 → z = lxr (fun j => C (i * 4 + j)) pt m (j : Int) → Rn 31 2 [.ref 5, .int (ii i), .ref 7, .int (ii (j : Int)), w4] [] (wd [(5, oP5 d k (n : Int)), (6, ar 96 C), (7, ar 4 pt)] h) (.inl (some (.int (ii z))), wd [(5, oP5 d k (n : Int)), (6, ar 96 C), (7, ar 4 pt)] h) := by
    intro m
    induction m with
    | zero =>
      intro j w4 z hj hz
      obtain rfl : z = 0 := hz
      refine E_iload pf_31_2 rfl ?_
      refine E_iconst pf_31_3 ?_
      refine E_icmp_ge_t pf_31_4 (by omega) ?_
      refine E_iconst pf_31_43 ?_
      exact E_iret pf_31_44 rfl
    | succ m ih =>
      intro j w4 z hj hz
      have b1 := hC (i * 4 + j)
      have b2 := hp j (by omega) (by omega)
      simp only [lxr] at hz
      by_cases e : C (i * 4 + j) = pt j
      · rw [if_pos e] at hz
        have ih := fun w4 => ih (j + 1) w4 z (by omega) hz
        refine E_iload pf_31_2 rfl ?_
        refine E_iconst pf_31_3 ?_
        refine E_icmp_ge_f pf_31_4 (by omega) ?_
        refine E_aload pf_31_7 rfl ?_
        refine E_iload pf_31_8 rfl ?_
        refine E_iload pf_31_9 rfl ?_
        refine F_v3v0 pf_31_10 (c28r (by omega) (by omega)) (And.intro rfl (And.intro rfl (trivial))) rfl rfl ?_
        refine E_istore (lv' := [_, _, _, _, _]) pf_31_13 rfl rfl ?_
        refine E_iload pf_31_15 rfl ?_
        refine E_aload pf_31_17 rfl ?_
        refine E_iload pf_31_18 rfl ?_
        refine F_iald pf_31_19 rfl (by omega) ?_
        refine E_icmp_eq_t pf_31_20 (by omega) ?_
        refine E_iinc (lv' := [_, _, _, _, _]) pf_31_37 rfl rfl ?_
        refine E_goto pf_31_40 ?_
        exact ih _
      · rw [if_neg e] at hz
        by_cases e2 : C (i * 4 + j) < pt j
        · rw [if_pos e2] at hz
          subst hz
          refine E_iload pf_31_2 rfl ?_
          refine E_iconst pf_31_3 ?_
          refine E_icmp_ge_f pf_31_4 (by omega) ?_
          refine E_aload pf_31_7 rfl ?_
          refine E_iload pf_31_8 rfl ?_
          refine E_iload pf_31_9 rfl ?_
          refine F_v3v0 pf_31_10 (c28r (by omega) (by omega)) (And.intro rfl (And.intro rfl (trivial))) rfl rfl ?_
          refine E_istore (lv' := [_, _, _, _, _]) pf_31_13 rfl rfl ?_
          refine E_iload pf_31_15 rfl ?_
          refine E_aload pf_31_17 rfl ?_
          refine E_iload pf_31_18 rfl ?_
          refine F_iald pf_31_19 rfl (by omega) ?_
          refine E_icmp_eq_f pf_31_20 (by omega) ?_
          refine E_iload pf_31_23 rfl ?_
          refine E_aload pf_31_25 rfl ?_
          refine E_iload pf_31_26 rfl ?_
          refine F_iald pf_31_27 rfl (by omega) ?_
          refine E_icmp_ge_f pf_31_28 (by omega) ?_
          refine E_iconst pf_31_31 ?_
          refine E_goto pf_31_32 ?_
          exact E_iret pf_31_36 rfl
        · rw [if_neg e2] at hz
          subst hz
          refine E_iload pf_31_2 rfl ?_
          refine E_iconst pf_31_3 ?_
          refine E_icmp_ge_f pf_31_4 (by omega) ?_
          refine E_aload pf_31_7 rfl ?_
          refine E_iload pf_31_8 rfl ?_
          refine E_iload pf_31_9 rfl ?_
          refine F_v3v0 pf_31_10 (c28r (by omega) (by omega)) (And.intro rfl (And.intro rfl (trivial))) rfl rfl ?_
          refine E_istore (lv' := [_, _, _, _, _]) pf_31_13 rfl rfl ?_
          refine E_iload pf_31_15 rfl ?_
          refine E_aload pf_31_17 rfl ?_
          refine E_iload pf_31_18 rfl ?_
          refine F_iald pf_31_19 rfl (by omega) ?_
          refine E_icmp_eq_f pf_31_20 (by omega) ?_
          refine E_iload pf_31_23 rfl ?_
          refine E_aload pf_31_25 rfl ?_
          refine E_iload pf_31_26 rfl ?_
          refine F_iald pf_31_27 rfl (by omega) ?_
          refine E_icmp_ge_t pf_31_28 (by omega) ?_
          refine E_iconst pf_31_35 ?_
          exact E_iret pf_31_36 rfl
  refine E_iconst pf_31_0 ?_
  refine E_istore (lv' := [_, _, _, _, _]) pf_31_1 rfl rfl ?_
  exact loop 4 0 _ _ (by omega) rfl
theorem c31q {i : Int} (hi : 0 ≤ i ∧ i < 24) (hC : ∀ q, -9 ≤ C q ∧ C q ≤ 9) (hp : ∀ j : Int, 0 ≤ j → j < 4 → -2147483648 ≤ pt j ∧ pt j ≤ 2147483647) : ∀ h, Ca 31 [.ref 13, .int (ii i), .ref 17] (wd [(13, oP d k (n : Int)), (14, ar 96 C), (17, ar 4 pt)] h) (.inl (some (.int (ii (lxr (fun j => C (i * 4 + j)) pt 4 0)))), wd [(13, oP d k (n : Int)), (14, ar 96 C), (17, ar 4 pt)] h) := by
  intro h
  refine E_in (lv := [_, _, _, _, _]) rfl ?_
  have loop : ∀ (m j : Nat) (w4 : Value) (z : Int), j + m = 4 → z = lxr (fun j => C (i * 4 + j)) pt m (j : Int) → Rn 31 2 [.ref 13, .int (ii i), .ref 17, .int (ii (j : Int)), w4] [] (wd [(13, oP d k (n : Int)), (14, ar 96 C), (17, ar 4 pt)] h) (.inl (some (.int (ii z))), wd [(13, oP d k (n : Int)), (14, ar 96 C), (17, ar 4 pt)] h) := by
    intro m
    induction m with
    | zero =>
      intro j w4 z hj hz
      obtain rfl : z = 0 := hz
      refine E_iload pf_31_2 rfl ?_
      refine E_iconst pf_31_3 ?_
      refine E_icmp_ge_t pf_31_4 (by omega) ?_
      refine E_iconst pf_31_43 ?_
      exact E_iret pf_31_44 rfl
    | succ m ih =>
      intro j w4 z hj hz
      have b1 := hC (i * 4 + j)
      have b2 := hp j (by omega) (by omega)
      simp only [lxr] at hz
      by_cases e : C (i * 4 + j) = pt j
      · rw [if_pos e] at hz
        have ih := fun w4 => ih (j + 1) w4 z (by omega) hz
        refine E_iload pf_31_2 rfl ?_
        refine E_iconst pf_31_3 ?_
        refine E_icmp_ge_f pf_31_4 (by omega) ?_
        refine E_aload pf_31_7 rfl ?_
        refine E_iload pf_31_8 rfl ?_
        refine E_iload pf_31_9 rfl ?_
        refine F_v3v0 pf_31_10 (c28 (by omega) (by omega)) (And.intro rfl (And.intro rfl (trivial))) rfl rfl ?_
        refine E_istore (lv' := [_, _, _, _, _]) pf_31_13 rfl rfl ?_
        refine E_iload pf_31_15 rfl ?_
        refine E_aload pf_31_17 rfl ?_
        refine E_iload pf_31_18 rfl ?_
        refine F_iald pf_31_19 rfl (by omega) ?_
        refine E_icmp_eq_t pf_31_20 (by omega) ?_
        refine E_iinc (lv' := [_, _, _, _, _]) pf_31_37 rfl rfl ?_
        refine E_goto pf_31_40 ?_
        exact ih _
      · rw [if_neg e] at hz
        by_cases e2 : C (i * 4 + j) < pt j
        · rw [if_pos e2] at hz
          subst hz
          refine E_iload pf_31_2 rfl ?_
          refine E_iconst pf_31_3 ?_
          refine E_icmp_ge_f pf_31_4 (by omega) ?_
          refine E_aload pf_31_7 rfl ?_
          refine E_iload pf_31_8 rfl ?_
          refine E_iload pf_31_9 rfl ?_
          refine F_v3v0 pf_31_10 (c28 (by omega) (by omega)) (And.intro rfl (And.intro rfl (trivial))) rfl rfl ?_
          refine E_istore (lv' := [_, _, _, _, _]) pf_31_13 rfl rfl ?_
          refine E_iload pf_31_15 rfl ?_
          refine E_aload pf_31_17 rfl ?_
          refine E_iload pf_31_18 rfl ?_
          refine F_iald pf_31_19 rfl (by omega) ?_
          refine E_icmp_eq_f pf_31_20 (by omega) ?_
          refine E_iload pf_31_23 rfl ?_
          refine E_aload pf_31_25 rfl ?_
          refine E_iload pf_31_26 rfl ?_
          refine F_iald pf_31_27 rfl (by omega) ?_
          refine E_icmp_ge_f pf_31_28 (by omega) ?_
          refine E_iconst pf_31_31 ?_
          refine E_goto pf_31_32 ?_
          exact E_iret pf_31_36 rfl
        · rw [if_neg e2] at hz
          subst hz
          refine E_iload pf_31_2 rfl ?_
          refine E_iconst pf_31_3 ?_
          refine E_icmp_ge_f pf_31_4 (by omega) ?_
          refine E_aload pf_31_7 rfl ?_
          refine E_iload pf_31_8 rfl ?_
          refine E_iload pf_31_9 rfl ?_
          refine F_v3v0 pf_31_10 (c28 (by omega) (by omega)) (And.intro rfl (And.intro rfl (trivial))) rfl rfl ?_
          refine E_istore (lv' := [_, _, _, _, _]) pf_31_13 rfl rfl ?_
          refine E_iload pf_31_15 rfl ?_
          refine E_aload pf_31_17 rfl ?_
          refine E_iload pf_31_18 rfl ?_
          refine F_iald pf_31_19 rfl (by omega) ?_
          refine E_icmp_eq_f pf_31_20 (by omega) ?_
          refine E_iload pf_31_23 rfl ?_
          refine E_aload pf_31_25 rfl ?_
          refine E_iload pf_31_26 rfl ?_
          refine F_iald pf_31_27 rfl (by omega) ?_
          refine E_icmp_ge_t pf_31_28 (by omega) ?_
          refine E_iconst pf_31_35 ?_
          exact E_iret pf_31_36 rfl
  refine E_iconst pf_31_0 ?_
  refine E_istore (lv' := [_, _, _, _, _]) pf_31_1 rfl rfl ?_
  exact loop 4 0 _ _ (by omega) rfl
theorem c131 {a b : Int} (ha : 0 ≤ a ∧ a < 32) (hb : 0 ≤ b ∧ b < 32) (hP : ∀ q, -9 ≤ P q ∧ P q ≤ 9) : ∀ h, Ca 131 [.ref 105, .int (ii a), .int (ii b)] (wd [(105, ar 128 P)] h) (.inl (some (.int (ii (lxr (fun j => P (4 * a + j)) (fun j => P (4 * b + j)) 4 0)))), wd [(105, ar 128 P)] h) := by
  intro h
  refine E_in (lv := [_, _, _, _]) rfl ?_
  have loop : ∀ (m j : Nat) (z : Int), j + m = 4 → z = lxr (fun j => P (4 * a + j)) (fun j => P (4 * b + j)) m (j : Int) → Rn 131 2 [.ref 105, .int (ii a), .int (ii b), .int (ii (j : Int))] [] (wd [(105, ar 128 P)] h) (.inl (some (.int (ii z))), wd [(105, ar 128 P)] h) := by
    intro m
    induction m with
    | zero =>
      intro j z hj hz
      obtain rfl : z = 0 := hz
      refine E_iload pf_131_2 rfl ?_
      refine E_iconst pf_131_3 ?_
      refine E_icmp_ge_t pf_131_4 (by omega) ?_
      refine E_iconst pf_131_53 ?_
      exact E_iret pf_131_54 rfl
    | succ m ih =>
      intro j z hj hz
      have b1 := hP (4 * a + j)
      have b2 := hP (4 * b + j)
      simp only [lxr] at hz
      by_cases e : P (4 * a + j) = P (4 * b + j)
      · rw [if_pos e] at hz
        have ih := ih (j + 1) z (by omega) hz
        refine E_iload pf_131_2 rfl ?_
        refine E_iconst pf_131_3 ?_
        refine E_icmp_ge_f pf_131_4 (by omega) ?_
        refine E_aload pf_131_7 rfl ?_
        refine E_iconst pf_131_8 ?_
        refine E_iload pf_131_9 rfl ?_
        refine E_imul pf_131_10 ?_
        refine E_iload pf_131_11 rfl ?_
        refine E_iadd pf_131_12 ?_
        refine F_iald pf_131_13 rfl (by omega) ?_
        refine E_aload pf_131_14 rfl ?_
        refine E_iconst pf_131_15 ?_
        refine E_iload pf_131_16 rfl ?_
        refine E_imul pf_131_17 ?_
        refine E_iload pf_131_18 rfl ?_
        refine E_iadd pf_131_19 ?_
        refine F_iald pf_131_20 rfl (by omega) ?_
        refine E_icmp_eq_t pf_131_21 (by omega) ?_
        refine E_iinc (lv' := [_, _, _, _]) pf_131_47 rfl rfl ?_
        refine E_goto pf_131_50 ?_
        exact ih
      · rw [if_neg e] at hz
        by_cases e2 : P (4 * a + j) < P (4 * b + j)
        · rw [if_pos e2] at hz
          subst hz
          refine E_iload pf_131_2 rfl ?_
          refine E_iconst pf_131_3 ?_
          refine E_icmp_ge_f pf_131_4 (by omega) ?_
          refine E_aload pf_131_7 rfl ?_
          refine E_iconst pf_131_8 ?_
          refine E_iload pf_131_9 rfl ?_
          refine E_imul pf_131_10 ?_
          refine E_iload pf_131_11 rfl ?_
          refine E_iadd pf_131_12 ?_
          refine F_iald pf_131_13 rfl (by omega) ?_
          refine E_aload pf_131_14 rfl ?_
          refine E_iconst pf_131_15 ?_
          refine E_iload pf_131_16 rfl ?_
          refine E_imul pf_131_17 ?_
          refine E_iload pf_131_18 rfl ?_
          refine E_iadd pf_131_19 ?_
          refine F_iald pf_131_20 rfl (by omega) ?_
          refine E_icmp_eq_f pf_131_21 (by omega) ?_
          refine E_aload pf_131_24 rfl ?_
          refine E_iconst pf_131_25 ?_
          refine E_iload pf_131_26 rfl ?_
          refine E_imul pf_131_27 ?_
          refine E_iload pf_131_28 rfl ?_
          refine E_iadd pf_131_29 ?_
          refine F_iald pf_131_30 rfl (by omega) ?_
          refine E_aload pf_131_31 rfl ?_
          refine E_iconst pf_131_32 ?_
          refine E_iload pf_131_33 rfl ?_
          refine E_imul pf_131_34 ?_
          refine E_iload pf_131_35 rfl ?_
          refine E_iadd pf_131_36 ?_
          refine F_iald pf_131_37 rfl (by omega) ?_
          refine E_icmp_ge_f pf_131_38 (by omega) ?_
          refine E_iconst pf_131_41 ?_
          refine E_goto pf_131_42 ?_
          exact E_iret pf_131_46 rfl
        · rw [if_neg e2] at hz
          subst hz
          refine E_iload pf_131_2 rfl ?_
          refine E_iconst pf_131_3 ?_
          refine E_icmp_ge_f pf_131_4 (by omega) ?_
          refine E_aload pf_131_7 rfl ?_
          refine E_iconst pf_131_8 ?_
          refine E_iload pf_131_9 rfl ?_
          refine E_imul pf_131_10 ?_
          refine E_iload pf_131_11 rfl ?_
          refine E_iadd pf_131_12 ?_
          refine F_iald pf_131_13 rfl (by omega) ?_
          refine E_aload pf_131_14 rfl ?_
          refine E_iconst pf_131_15 ?_
          refine E_iload pf_131_16 rfl ?_
          refine E_imul pf_131_17 ?_
          refine E_iload pf_131_18 rfl ?_
          refine E_iadd pf_131_19 ?_
          refine F_iald pf_131_20 rfl (by omega) ?_
          refine E_icmp_eq_f pf_131_21 (by omega) ?_
          refine E_aload pf_131_24 rfl ?_
          refine E_iconst pf_131_25 ?_
          refine E_iload pf_131_26 rfl ?_
          refine E_imul pf_131_27 ?_
          refine E_iload pf_131_28 rfl ?_
          refine E_iadd pf_131_29 ?_
          refine F_iald pf_131_30 rfl (by omega) ?_
          refine E_aload pf_131_31 rfl ?_
          refine E_iconst pf_131_32 ?_
          refine E_iload pf_131_33 rfl ?_
          refine E_imul pf_131_34 ?_
          refine E_iload pf_131_35 rfl ?_
          refine E_iadd pf_131_36 ?_
          refine F_iald pf_131_37 rfl (by omega) ?_
          refine E_icmp_ge_t pf_131_38 (by omega) ?_
          refine E_iconst pf_131_45 ?_
          exact E_iret pf_131_46 rfl
  refine E_iconst pf_131_0 ?_
  refine E_istore (lv' := [_, _, _, _]) pf_131_1 rfl rfl ?_
  exact loop 4 0 _ (by omega) rfl
end PNT
