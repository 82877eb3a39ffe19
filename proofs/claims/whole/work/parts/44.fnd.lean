/-! find, oracle, bestAlone, both sides. -/
def fnd (e : Nat → Bool) : Nat → Nat → Int
  | 0, _ => -9
  | n + 1, v => if e v = true then (v : Int) else fnd e n (v + 1)
theorem fnd_congr {e g : Nat → Bool} : ∀ (n v : Nat), (∀ i : Nat, v ≤ i → i < v + n → e i = g i) → fnd e n v = fnd g n v
  | 0, _, _ => rfl
  | n + 1, v, h => by
    simp only [fnd]
    rw [h v (Nat.le_refl _) (by omega), fnd_congr n (v + 1) fun i h1 h2 => h i (by omega) (by omega)]
theorem fnd_in (e : Nat → Bool) : ∀ (n v : Nat), fnd e n v = -9 ∨ ((v : Int) ≤ fnd e n v ∧ fnd e n v < v + n)
  | 0, _ => .inl rfl
  | n + 1, v => by
    simp only [fnd]
    split
    · exact .inr (by omega)
    · rcases fnd_in e n (v + 1) with h | h
      · exact .inl h
      · exact .inr (by omega)
def fq (C : Int → Int) (a b c e : Int) (v : Nat) : Bool := decide (C (4 * (v : Int)) = a ∧ C (4 * (v : Int) + 1) = b ∧ C (4 * (v : Int) + 2) = c ∧ C (4 * (v : Int) + 3) = e)
def or4 (a b c e j : Int) : Int := if j = 0 then a else if j = 1 then b else if j = 2 then c else e
def og (P : Int → Int) (a b c e : Int) (dn : Nat) (v : Int) : Int := zs (fun j => or4 a b c e j * P (4 * v + j)) dn
theorem or4_in {a b c e j : Int} (ha : -999 ≤ a ∧ a ≤ 999) (hb : -999 ≤ b ∧ b ≤ 999) (hc : -999 ≤ c ∧ c ≤ 999) (he : -999 ≤ e ∧ e ≤ 999) : -999 ≤ or4 a b c e j ∧ or4 a b c e j ≤ 999 := by
  unfold or4; split
  · exact ha
  split
  · exact hb
  split
  · exact hc
  · exact he
theorem og_in {P : Int → Int} {a b c e v : Int} {dn : Nat} (ha : -999 ≤ a ∧ a ≤ 999) (hb : -999 ≤ b ∧ b ≤ 999) (hc : -999 ≤ c ∧ c ≤ 999) (he : -999 ≤ e ∧ e ≤ 999) (hP : ∀ q, -9 ≤ P q ∧ P q ≤ 9) (hd : dn ≤ 4) : -40000 ≤ og P a b c e dn v ∧ og P a b c e dn v ≤ 40000 := by
  have := zs_le (f := fun j => or4 a b c e j * P (4 * v + j)) (n := dn) (B := 999 * 9) fun k _ => mul_le (or4_in ha hb hc he) (hP _)
  unfold og
  omega
def vA (R C : Int → Int) (rn : Nat) (v : Int) : Int := zs (fun q => yRs R (fun j => 100 * C (v * 4 + j)) q * yRs R (fun j => 100 * C (v * 4 + j)) q) rn
def vM (r P : Int → Int) (dn rn : Nat) (v : Int) : Int := zs (fun k => zA r P dn k v * zA r P dn k v) rn
section FND
variable {T C P R V U r q x rs sl wt fa : Int → Int} {rf ts tl sp d kd vs rw rd rk rv rr ac k st dr pu be : Int} {m dn rn vn n : Nat}
theorem vA_in (hs : sok vn R V U m) (hP : ppk C dn vn rn) (v : Int) : -4000000000000 ≤ vA R C rn v ∧ vA R C rn v ≤ 4000000000000 := by
  have h4 := hP.2.2.1
  have := zs_le (f := fun q => yRs R (fun j => 100 * C (v * 4 + j)) q * yRs R (fun j => 100 * C (v * 4 + j)) q) (n := rn) (B := 787500 * 787500) fun k hk => by
    have h1 := yRs_le (x := fun j => 100 * C (v * 4 + j)) (k := (k : Int)) hs (fun j _ _ => by have := hP.2.2.2 (v * 4 + j); show -21600 ≤ 100 * C (v * 4 + j) ∧ 100 * C (v * 4 + j) ≤ 21600; omega) (by omega)
    exact mul_le h1 h1
  unfold vA
  have h5 : (rn : Int) * (787500 * 787500) ≤ 4 * (787500 * 787500) := Int.mul_le_mul_of_nonneg_right (by omega) (by omega)
  omega
theorem vM_in (hp : pgk (vn : Int) r m) (hP : ppk P dn vn rn) (v : Int) (n : Nat) (hn : n ≤ rn) : -4000000 ≤ zs (fun k => zA r P dn k v * zA r P dn k v) n ∧ zs (fun k => zA r P dn k v * zA r P dn k v) n ≤ 4000000 := by
  have h4 := hP.2.2.1
  have := zs_le (f := fun k => zA r P dn k v * zA r P dn k v) (n := n) (B := 423 * 423) fun k hk => by
    have h1 := zA_le hp hP (k := (k : Int)) (by omega) v
    exact mul_le h1 h1
  have h5 : (n : Int) * (423 * 423) ≤ 4 * (423 * 423) := Int.mul_le_mul_of_nonneg_right (by omega) (by omega)
  omega
theorem lxq {a b c e : Int} {v : Nat} (ha : q 0 = a) (hb : q 1 = b) (hc : q 2 = c) (he : q 3 = e) : lxr (fun j => C ((v : Int) * 4 + j)) q 4 0 = 0 ↔ fq C a b c e v = true := by
  rw [lxr0]
  unfold fq
  rw [decide_eq_true_iff, Int.mul_comm 4, ha, hb, hc, he, Int.add_zero]
theorem c30 {a b c e : Int} (hC : ∀ q, -9 ≤ C q ∧ C q ≤ 9) (hv : vn ≤ 24) (hq : ∀ j : Int, 0 ≤ j → j < 4 → -2147483648 ≤ q j ∧ q j ≤ 2147483647) (ha : q 0 = a) (hb : q 1 = b) (hc : q 2 = c) (he : q 3 = e) : ∀ h, Ca 30 [.ref 13, .ref 17] (wd [(13, oP d k (vn : Int)), (14, ar 96 C), (17, ar 4 q)] h) (.inl (some (.int (ii (fnd (fq C a b c e) vn 0)))), wd [(13, oP d k (vn : Int)), (14, ar 96 C), (17, ar 4 q)] h) := by
  intro h
  have loop : ∀ (n v : Nat), v + n = vn → Rn 30 2 [.ref 13, .ref 17, .int (ii (v : Int))] [] (wd [(13, oP d k (vn : Int)), (14, ar 96 C), (17, ar 4 q)] h) (.inl (some (.int (ii (fnd (fq C a b c e) n v)))), wd [(13, oP d k (vn : Int)), (14, ar 96 C), (17, ar 4 q)] h) := by
    intro n
    induction n with
    | zero =>
      intro v hvn
      refine E_iload pf_30_2 rfl ?_
      refine E_aload pf_30_3 rfl ?_
      refine F_getf pf_30_4 rfl rfl rfl ?_
      refine E_icmp_ge_t pf_30_7 (by omega) ?_
      refine E_iconst pf_30_27 ?_
      exact E_iret pf_30_29 rfl
    | succ n ih =>
      intro v hvn
      have ih := ih (v + 1) (by omega)
      have hx := lxq (C := C) (v := v) ha hb hc he
      have hi := lxr_in (fun j => C ((v : Int) * 4 + j)) q 4 0
      by_cases g : fq C a b c e v = true
      · simp only [fnd, if_pos g]
        have hx := hx.mpr g
        refine E_iload pf_30_2 rfl ?_
        refine E_aload pf_30_3 rfl ?_
        refine F_getf pf_30_4 rfl rfl rfl ?_
        refine E_icmp_ge_f pf_30_7 (by omega) ?_
        refine E_aload pf_30_10 rfl ?_
        refine E_iload pf_30_11 rfl ?_
        refine E_aload pf_30_12 rfl ?_
        refine F_v3v0 pf_30_13 (c31q (by omega) hC hq) (And.intro rfl (And.intro rfl (And.intro rfl (trivial)))) rfl rfl ?_
        refine E_if_ne_f pf_30_16 (by omega) ?_
        refine E_iload pf_30_19 rfl ?_
        exact E_iret pf_30_20 rfl
      · simp only [fnd, if_neg g]
        have hx : ¬ lxr (fun j => C ((v : Int) * 4 + j)) q 4 0 = 0 := fun y => g (hx.mp y)
        refine E_iload pf_30_2 rfl ?_
        refine E_aload pf_30_3 rfl ?_
        refine F_getf pf_30_4 rfl rfl rfl ?_
        refine E_icmp_ge_f pf_30_7 (by omega) ?_
        refine E_aload pf_30_10 rfl ?_
        refine E_iload pf_30_11 rfl ?_
        refine E_aload pf_30_12 rfl ?_
        refine F_v3v0 pf_30_13 (c31q (by omega) hC hq) (And.intro rfl (And.intro rfl (And.intro rfl (trivial)))) rfl rfl ?_
        refine E_if_ne_t pf_30_16 (by omega) ?_
        refine E_iinc (lv' := [_, _, _]) pf_30_21 rfl rfl ?_
        refine E_goto pf_30_24 ?_
        exact ih
  refine E_in (lv := [_, _, _]) rfl ?_
  refine E_iconst pf_30_0 ?_
  refine E_istore (lv' := [_, _, _]) pf_30_1 rfl rfl ?_
  exact loop vn 0 (by omega)
theorem c71 {a b c e : Int} (ha : (-2147483648 ≤ a ∧ a ≤ 2147483647)) (hb : (-2147483648 ≤ b ∧ b ≤ 2147483647)) (hc : (-2147483648 ≤ c ∧ c ≤ 2147483647)) (he : (-2147483648 ≤ e ∧ e ≤ 2147483647)) (hC : ∀ q, -9 ≤ C q ∧ C q ≤ 9) (hv : vn ≤ 24) : ∀ h, Ca 71 [.ref 1, .int (ii a), .int (ii b), .int (ii c), .int (ii e)] (wd [(1, oPD tl), (13, oP d k (vn : Int)), (14, ar 96 C), (17, ar 4 q)] h) (.inl (some (.int (ii (fnd (fq C a b c e) vn 0)))), wd [(1, oPD tl), (13, oP d k (vn : Int)), (14, ar 96 C), (17, ar 4 (zu (zu (zu (zu q 0 a) 1 b) 2 c) 3 e))] h) := by
  intro h
  have hq : ∀ j : Int, 0 ≤ j → j < 4 → -2147483648 ≤ (zu (zu (zu (zu q 0 a) 1 b) 2 c) 3 e) j ∧ (zu (zu (zu (zu q 0 a) 1 b) 2 c) 3 e) j ≤ 2147483647 := fun j h1 h2 => by
    have h4 : j = 0 ∨ j = 1 ∨ j = 2 ∨ j = 3 := by omega
    rcases h4 with g | g | g | g <;> subst g
    · exact ha
    · exact hb
    · exact hc
    · exact he
  refine E_in (lv := [_, _, _, _, _]) rfl ?_
  refine E_aload pf_71_0 rfl ?_
  refine F_getf pf_71_1 rfl rfl rfl ?_
  refine E_iconst pf_71_4 ?_
  refine E_iload pf_71_5 rfl ?_
  refine F_iast (l' := [(_, _), (_, _), (_, _), (_, _)]) pf_71_6 rfl (by omega) rfl ?_
  refine E_aload pf_71_7 rfl ?_
  refine F_getf pf_71_8 rfl rfl rfl ?_
  refine E_iconst pf_71_11 ?_
  refine E_iload pf_71_12 rfl ?_
  refine F_iast (l' := [(_, _), (_, _), (_, _), (_, _)]) pf_71_13 rfl (by omega) rfl ?_
  refine E_aload pf_71_14 rfl ?_
  refine F_getf pf_71_15 rfl rfl rfl ?_
  refine E_iconst pf_71_18 ?_
  refine E_iload pf_71_19 rfl ?_
  refine F_iast (l' := [(_, _), (_, _), (_, _), (_, _)]) pf_71_20 rfl (by omega) rfl ?_
  refine E_aload pf_71_21 rfl ?_
  refine F_getf pf_71_22 rfl rfl rfl ?_
  refine E_iconst pf_71_25 ?_
  refine E_iload pf_71_26 rfl ?_
  refine F_iast (l' := [(_, _), (_, _), (_, _), (_, _)]) pf_71_28 rfl (by omega) rfl ?_
  refine E_aload pf_71_29 rfl ?_
  refine F_getf pf_71_30 rfl rfl rfl ?_
  refine E_aload pf_71_33 rfl ?_
  refine F_getf pf_71_34 rfl rfl rfl ?_
  refine F_v2v0 pf_71_37 (c30 hC hv hq rfl rfl rfl rfl) (And.intro rfl (And.intro rfl (And.intro rfl (trivial)))) rfl rfl ?_
  exact E_iret pf_71_40 rfl
theorem c149 {a b c e : Int} (ha : (-2147483648 ≤ a ∧ a ≤ 2147483647)) (hb : (-2147483648 ≤ b ∧ b ≤ 2147483647)) (hc : (-2147483648 ≤ c ∧ c ≤ 2147483647)) (he : (-2147483648 ≤ e ∧ e ≤ 2147483647)) (hP : ppk P dn vn rn) (hz : ∀ v j : Int, 0 ≤ v → v < vn → dn ≤ j → j < 4 → P (4 * v + j) = 0) : ∀ h, Ca 149 [.ref 102, .int (ii a), .int (ii b), .int (ii c), .int (ii e)] (wd [(102, oX6 rf ts sp (dn : Int) kd (vn : Int) (rn : Int) rd rk rv rr ac), (104, ar 128 P)] h) (.inl (some (.int (ii (fnd (fq P a b c e) vn 0)))), wd [(102, oX6 0 ts sp (dn : Int) kd (vn : Int) (rn : Int) rd rk rv rr ac), (104, ar 128 P)] h) := by
  intro h
  have hp1 := hP.1
  have hp2 := hP.2.1
  have hp3 := hP.2.2.1
  have loop : ∀ (n v : Nat) (w6 w7 : Value), v + n = vn → Rn 149 8 [.ref 102, .int (ii a), .int (ii b), .int (ii c), .int (ii e), .int (ii (v : Int)), w6, w7] [] (wd [(102, oX6 0 ts sp (dn : Int) kd (vn : Int) (rn : Int) rd rk rv rr ac), (104, ar 128 P)] h) (.inl (some (.int (ii (fnd (fq P a b c e) n v)))), wd [(102, oX6 0 ts sp (dn : Int) kd (vn : Int) (rn : Int) rd rk rv rr ac), (104, ar 128 P)] h) := by
    intro n
    induction n with
    | zero =>
      intro v w6 w7 hvn
      refine E_iload pf_149_8 rfl ?_
      refine E_aload pf_149_10 rfl ?_
      refine F_getf pf_149_11 rfl rfl rfl ?_
      refine E_icmp_ge_t pf_149_14 (by omega) ?_
      refine E_iconst pf_149_131 ?_
      exact E_iret pf_149_133 rfl
    | succ n ih =>
      intro v w6 w7 hvn
      have ih := fun w6 w7 => ih (v + 1) w6 w7 (by omega)
      have hb0 := hP.2.2.2 (4 * (v : Int))
      have hb1 := hP.2.2.2 (4 * (v : Int) + 1)
      have hb2 := hP.2.2.2 (4 * (v : Int) + 2)
      have hb3 := hP.2.2.2 (4 * (v : Int) + 3)
      by_cases g : fq P a b c e v = true
      · simp only [fnd, if_pos g]
        obtain ⟨e0, e1, e2, e3⟩ := of_decide_eq_true (show decide (P (4 * (v : Int)) = a ∧ P (4 * (v : Int) + 1) = b ∧ P (4 * (v : Int) + 2) = c ∧ P (4 * (v : Int) + 3) = e) = true from g)
        have k84 : Rn 149 84 [.ref 102, .int (ii a), .int (ii b), .int (ii c), .int (ii e), .int (ii (v : Int)), .int (ii (4 * (v : Int))), w7] [] (wd [(102, oX6 0 ts sp (dn : Int) kd (vn : Int) (rn : Int) rd rk rv rr ac), (104, ar 128 P)] h) (.inl (some (.int (ii (v : Int)))), wd [(102, oX6 0 ts sp (dn : Int) kd (vn : Int) (rn : Int) rd rk rv rr ac), (104, ar 128 P)] h) := by
          by_cases hd : (dn : Int) ≤ 3
          · have hz3 := hz (v : Int) 3 (by omega) (by omega) hd (by omega)
            refine E_aload pf_149_84 rfl ?_
            refine F_getf pf_149_85 rfl rfl rfl ?_
            refine E_iconst pf_149_88 ?_
            refine E_icmp_le_t pf_149_89 (by omega) ?_
            refine E_iconst pf_149_104 ?_
            refine E_iload pf_149_105 rfl ?_
            refine E_icmp_ne_f pf_149_107 (by omega) ?_
            refine E_iconst pf_149_110 ?_
            refine E_goto pf_149_111 ?_
            refine E_istore (lv' := [_, _, _, _, _, _, _, _]) pf_149_115 rfl rfl ?_
            refine E_iload pf_149_117 rfl ?_
            refine E_if_eq_f pf_149_119 (by omega) ?_
            refine E_iload pf_149_122 rfl ?_
            exact E_iret pf_149_124 rfl
          ·
            refine E_aload pf_149_84 rfl ?_
            refine F_getf pf_149_85 rfl rfl rfl ?_
            refine E_iconst pf_149_88 ?_
            refine E_icmp_le_f pf_149_89 (by omega) ?_
            refine E_aload pf_149_92 rfl ?_
            refine F_getf pf_149_93 rfl rfl rfl ?_
            refine E_iload pf_149_96 rfl ?_
            refine E_iconst pf_149_98 ?_
            refine E_iadd pf_149_99 ?_
            refine F_iald pf_149_100 rfl (by omega) ?_
            refine E_goto pf_149_101 ?_
            refine E_iload pf_149_105 rfl ?_
            refine E_icmp_ne_f pf_149_107 (by omega) ?_
            refine E_iconst pf_149_110 ?_
            refine E_goto pf_149_111 ?_
            refine E_istore (lv' := [_, _, _, _, _, _, _, _]) pf_149_115 rfl rfl ?_
            refine E_iload pf_149_117 rfl ?_
            refine E_if_eq_f pf_149_119 (by omega) ?_
            refine E_iload pf_149_122 rfl ?_
            exact E_iret pf_149_124 rfl
        have k59 : Rn 149 59 [.ref 102, .int (ii a), .int (ii b), .int (ii c), .int (ii e), .int (ii (v : Int)), .int (ii (4 * (v : Int))), w7] [] (wd [(102, oX6 0 ts sp (dn : Int) kd (vn : Int) (rn : Int) rd rk rv rr ac), (104, ar 128 P)] h) (.inl (some (.int (ii (v : Int)))), wd [(102, oX6 0 ts sp (dn : Int) kd (vn : Int) (rn : Int) rd rk rv rr ac), (104, ar 128 P)] h) := by
          by_cases hd : (dn : Int) ≤ 2
          · have hz2 := hz (v : Int) 2 (by omega) (by omega) hd (by omega)
            refine E_aload pf_149_59 rfl ?_
            refine F_getf pf_149_60 rfl rfl rfl ?_
            refine E_iconst pf_149_63 ?_
            refine E_icmp_le_t pf_149_64 (by omega) ?_
            refine E_iconst pf_149_79 ?_
            refine E_iload pf_149_80 rfl ?_
            refine E_icmp_ne_f pf_149_81 (by omega) ?_
            exact k84
          ·
            refine E_aload pf_149_59 rfl ?_
            refine F_getf pf_149_60 rfl rfl rfl ?_
            refine E_iconst pf_149_63 ?_
            refine E_icmp_le_f pf_149_64 (by omega) ?_
            refine E_aload pf_149_67 rfl ?_
            refine F_getf pf_149_68 rfl rfl rfl ?_
            refine E_iload pf_149_71 rfl ?_
            refine E_iconst pf_149_73 ?_
            refine E_iadd pf_149_74 ?_
            refine F_iald pf_149_75 rfl (by omega) ?_
            refine E_goto pf_149_76 ?_
            refine E_iload pf_149_80 rfl ?_
            refine E_icmp_ne_f pf_149_81 (by omega) ?_
            exact k84
        have k34 : Rn 149 34 [.ref 102, .int (ii a), .int (ii b), .int (ii c), .int (ii e), .int (ii (v : Int)), .int (ii (4 * (v : Int))), w7] [] (wd [(102, oX6 0 ts sp (dn : Int) kd (vn : Int) (rn : Int) rd rk rv rr ac), (104, ar 128 P)] h) (.inl (some (.int (ii (v : Int)))), wd [(102, oX6 0 ts sp (dn : Int) kd (vn : Int) (rn : Int) rd rk rv rr ac), (104, ar 128 P)] h) := by
          by_cases hd : (dn : Int) ≤ 1
          · have hz1 := hz (v : Int) 1 (by omega) (by omega) hd (by omega)
            refine E_aload pf_149_34 rfl ?_
            refine F_getf pf_149_35 rfl rfl rfl ?_
            refine E_iconst pf_149_38 ?_
            refine E_icmp_le_t pf_149_39 (by omega) ?_
            refine E_iconst pf_149_54 ?_
            refine E_iload pf_149_55 rfl ?_
            refine E_icmp_ne_f pf_149_56 (by omega) ?_
            exact k59
          ·
            refine E_aload pf_149_34 rfl ?_
            refine F_getf pf_149_35 rfl rfl rfl ?_
            refine E_iconst pf_149_38 ?_
            refine E_icmp_le_f pf_149_39 (by omega) ?_
            refine E_aload pf_149_42 rfl ?_
            refine F_getf pf_149_43 rfl rfl rfl ?_
            refine E_iload pf_149_46 rfl ?_
            refine E_iconst pf_149_48 ?_
            refine E_iadd pf_149_49 ?_
            refine F_iald pf_149_50 rfl (by omega) ?_
            refine E_goto pf_149_51 ?_
            refine E_iload pf_149_55 rfl ?_
            refine E_icmp_ne_f pf_149_56 (by omega) ?_
            exact k59
        refine E_iload pf_149_8 rfl ?_
        refine E_aload pf_149_10 rfl ?_
        refine F_getf pf_149_11 rfl rfl rfl ?_
        refine E_icmp_ge_f pf_149_14 (by omega) ?_
        refine E_iconst pf_149_17 ?_
        refine E_iload pf_149_18 rfl ?_
        refine E_imul pf_149_20 ?_
        refine E_istore (lv' := [_, _, _, _, _, _, _, _]) pf_149_21 rfl rfl ?_
        refine E_aload pf_149_23 rfl ?_
        refine F_getf pf_149_24 rfl rfl rfl ?_
        refine E_iload pf_149_27 rfl ?_
        refine F_iald pf_149_29 rfl (by omega) ?_
        refine E_iload pf_149_30 rfl ?_
        refine E_icmp_ne_f pf_149_31 (by omega) ?_
        exact k34
      · simp only [fnd, if_neg g]
        by_cases e0 : P (4 * (v : Int)) = a
        · have k34 : Rn 149 34 [.ref 102, .int (ii a), .int (ii b), .int (ii c), .int (ii e), .int (ii (v : Int)), .int (ii (4 * (v : Int))), w7] [] (wd [(102, oX6 0 ts sp (dn : Int) kd (vn : Int) (rn : Int) rd rk rv rr ac), (104, ar 128 P)] h) (.inl (some (.int (ii (fnd (fq P a b c e) n (v + 1))))), wd [(102, oX6 0 ts sp (dn : Int) kd (vn : Int) (rn : Int) rd rk rv rr ac), (104, ar 128 P)] h) := by
            by_cases e1 : P (4 * (v : Int) + 1) = b
            · have k59 : Rn 149 59 [.ref 102, .int (ii a), .int (ii b), .int (ii c), .int (ii e), .int (ii (v : Int)), .int (ii (4 * (v : Int))), w7] [] (wd [(102, oX6 0 ts sp (dn : Int) kd (vn : Int) (rn : Int) rd rk rv rr ac), (104, ar 128 P)] h) (.inl (some (.int (ii (fnd (fq P a b c e) n (v + 1))))), wd [(102, oX6 0 ts sp (dn : Int) kd (vn : Int) (rn : Int) rd rk rv rr ac), (104, ar 128 P)] h) := by
                by_cases e2 : P (4 * (v : Int) + 2) = c
                · have e3 : ¬ P (4 * (v : Int) + 3) = e := fun y => g (decide_eq_true ⟨e0, e1, e2, y⟩)
                  have k84 : Rn 149 84 [.ref 102, .int (ii a), .int (ii b), .int (ii c), .int (ii e), .int (ii (v : Int)), .int (ii (4 * (v : Int))), w7] [] (wd [(102, oX6 0 ts sp (dn : Int) kd (vn : Int) (rn : Int) rd rk rv rr ac), (104, ar 128 P)] h) (.inl (some (.int (ii (fnd (fq P a b c e) n (v + 1))))), wd [(102, oX6 0 ts sp (dn : Int) kd (vn : Int) (rn : Int) rd rk rv rr ac), (104, ar 128 P)] h) := by
                    by_cases hd : (dn : Int) ≤ 3
                    · have hz3 := hz (v : Int) 3 (by omega) (by omega) hd (by omega)
                      refine E_aload pf_149_84 rfl ?_
                      refine F_getf pf_149_85 rfl rfl rfl ?_
                      refine E_iconst pf_149_88 ?_
                      refine E_icmp_le_t pf_149_89 (by omega) ?_
                      refine E_iconst pf_149_104 ?_
                      refine E_iload pf_149_105 rfl ?_
                      refine E_icmp_ne_t pf_149_107 (by omega) ?_
                      refine E_iconst pf_149_114 ?_
                      refine E_istore (lv' := [_, _, _, _, _, _, _, _]) pf_149_115 rfl rfl ?_
                      refine E_iload pf_149_117 rfl ?_
                      refine E_if_eq_t pf_149_119 (by omega) ?_
                      refine E_iinc (lv' := [_, _, _, _, _, _, _, _]) pf_149_125 rfl rfl ?_
                      refine E_goto pf_149_128 ?_
                      exact ih _ _
                    ·
                      refine E_aload pf_149_84 rfl ?_
                      refine F_getf pf_149_85 rfl rfl rfl ?_
                      refine E_iconst pf_149_88 ?_
                      refine E_icmp_le_f pf_149_89 (by omega) ?_
                      refine E_aload pf_149_92 rfl ?_
                      refine F_getf pf_149_93 rfl rfl rfl ?_
                      refine E_iload pf_149_96 rfl ?_
                      refine E_iconst pf_149_98 ?_
                      refine E_iadd pf_149_99 ?_
                      refine F_iald pf_149_100 rfl (by omega) ?_
                      refine E_goto pf_149_101 ?_
                      refine E_iload pf_149_105 rfl ?_
                      refine E_icmp_ne_t pf_149_107 (by omega) ?_
                      refine E_iconst pf_149_114 ?_
                      refine E_istore (lv' := [_, _, _, _, _, _, _, _]) pf_149_115 rfl rfl ?_
                      refine E_iload pf_149_117 rfl ?_
                      refine E_if_eq_t pf_149_119 (by omega) ?_
                      refine E_iinc (lv' := [_, _, _, _, _, _, _, _]) pf_149_125 rfl rfl ?_
                      refine E_goto pf_149_128 ?_
                      exact ih _ _
                  by_cases hd : (dn : Int) ≤ 2
                  · have hz2 := hz (v : Int) 2 (by omega) (by omega) hd (by omega)
                    refine E_aload pf_149_59 rfl ?_
                    refine F_getf pf_149_60 rfl rfl rfl ?_
                    refine E_iconst pf_149_63 ?_
                    refine E_icmp_le_t pf_149_64 (by omega) ?_
                    refine E_iconst pf_149_79 ?_
                    refine E_iload pf_149_80 rfl ?_
                    refine E_icmp_ne_f pf_149_81 (by omega) ?_
                    exact k84
                  ·
                    refine E_aload pf_149_59 rfl ?_
                    refine F_getf pf_149_60 rfl rfl rfl ?_
                    refine E_iconst pf_149_63 ?_
                    refine E_icmp_le_f pf_149_64 (by omega) ?_
                    refine E_aload pf_149_67 rfl ?_
                    refine F_getf pf_149_68 rfl rfl rfl ?_
                    refine E_iload pf_149_71 rfl ?_
                    refine E_iconst pf_149_73 ?_
                    refine E_iadd pf_149_74 ?_
                    refine F_iald pf_149_75 rfl (by omega) ?_
                    refine E_goto pf_149_76 ?_
                    refine E_iload pf_149_80 rfl ?_
                    refine E_icmp_ne_f pf_149_81 (by omega) ?_
                    exact k84
                ·
                  by_cases hd : (dn : Int) ≤ 2
                  · have hz2 := hz (v : Int) 2 (by omega) (by omega) hd (by omega)
                    refine E_aload pf_149_59 rfl ?_
                    refine F_getf pf_149_60 rfl rfl rfl ?_
                    refine E_iconst pf_149_63 ?_
                    refine E_icmp_le_t pf_149_64 (by omega) ?_
                    refine E_iconst pf_149_79 ?_
                    refine E_iload pf_149_80 rfl ?_
                    refine E_icmp_ne_t pf_149_81 (by omega) ?_
                    refine E_iconst pf_149_114 ?_
                    refine E_istore (lv' := [_, _, _, _, _, _, _, _]) pf_149_115 rfl rfl ?_
                    refine E_iload pf_149_117 rfl ?_
                    refine E_if_eq_t pf_149_119 (by omega) ?_
                    refine E_iinc (lv' := [_, _, _, _, _, _, _, _]) pf_149_125 rfl rfl ?_
                    refine E_goto pf_149_128 ?_
                    exact ih _ _
                  ·
                    refine E_aload pf_149_59 rfl ?_
                    refine F_getf pf_149_60 rfl rfl rfl ?_
                    refine E_iconst pf_149_63 ?_
                    refine E_icmp_le_f pf_149_64 (by omega) ?_
                    refine E_aload pf_149_67 rfl ?_
                    refine F_getf pf_149_68 rfl rfl rfl ?_
                    refine E_iload pf_149_71 rfl ?_
                    refine E_iconst pf_149_73 ?_
                    refine E_iadd pf_149_74 ?_
                    refine F_iald pf_149_75 rfl (by omega) ?_
                    refine E_goto pf_149_76 ?_
                    refine E_iload pf_149_80 rfl ?_
                    refine E_icmp_ne_t pf_149_81 (by omega) ?_
                    refine E_iconst pf_149_114 ?_
                    refine E_istore (lv' := [_, _, _, _, _, _, _, _]) pf_149_115 rfl rfl ?_
                    refine E_iload pf_149_117 rfl ?_
                    refine E_if_eq_t pf_149_119 (by omega) ?_
                    refine E_iinc (lv' := [_, _, _, _, _, _, _, _]) pf_149_125 rfl rfl ?_
                    refine E_goto pf_149_128 ?_
                    exact ih _ _
              by_cases hd : (dn : Int) ≤ 1
              · have hz1 := hz (v : Int) 1 (by omega) (by omega) hd (by omega)
                refine E_aload pf_149_34 rfl ?_
                refine F_getf pf_149_35 rfl rfl rfl ?_
                refine E_iconst pf_149_38 ?_
                refine E_icmp_le_t pf_149_39 (by omega) ?_
                refine E_iconst pf_149_54 ?_
                refine E_iload pf_149_55 rfl ?_
                refine E_icmp_ne_f pf_149_56 (by omega) ?_
                exact k59
              ·
                refine E_aload pf_149_34 rfl ?_
                refine F_getf pf_149_35 rfl rfl rfl ?_
                refine E_iconst pf_149_38 ?_
                refine E_icmp_le_f pf_149_39 (by omega) ?_
                refine E_aload pf_149_42 rfl ?_
                refine F_getf pf_149_43 rfl rfl rfl ?_
                refine E_iload pf_149_46 rfl ?_
                refine E_iconst pf_149_48 ?_
                refine E_iadd pf_149_49 ?_
                refine F_iald pf_149_50 rfl (by omega) ?_
                refine E_goto pf_149_51 ?_
                refine E_iload pf_149_55 rfl ?_
                refine E_icmp_ne_f pf_149_56 (by omega) ?_
                exact k59
            ·
              by_cases hd : (dn : Int) ≤ 1
              · have hz1 := hz (v : Int) 1 (by omega) (by omega) hd (by omega)
                refine E_aload pf_149_34 rfl ?_
                refine F_getf pf_149_35 rfl rfl rfl ?_
                refine E_iconst pf_149_38 ?_
                refine E_icmp_le_t pf_149_39 (by omega) ?_
                refine E_iconst pf_149_54 ?_
                refine E_iload pf_149_55 rfl ?_
                refine E_icmp_ne_t pf_149_56 (by omega) ?_
                refine E_iconst pf_149_114 ?_
                refine E_istore (lv' := [_, _, _, _, _, _, _, _]) pf_149_115 rfl rfl ?_
                refine E_iload pf_149_117 rfl ?_
                refine E_if_eq_t pf_149_119 (by omega) ?_
                refine E_iinc (lv' := [_, _, _, _, _, _, _, _]) pf_149_125 rfl rfl ?_
                refine E_goto pf_149_128 ?_
                exact ih _ _
              ·
                refine E_aload pf_149_34 rfl ?_
                refine F_getf pf_149_35 rfl rfl rfl ?_
                refine E_iconst pf_149_38 ?_
                refine E_icmp_le_f pf_149_39 (by omega) ?_
                refine E_aload pf_149_42 rfl ?_
                refine F_getf pf_149_43 rfl rfl rfl ?_
                refine E_iload pf_149_46 rfl ?_
                refine E_iconst pf_149_48 ?_
                refine E_iadd pf_149_49 ?_
                refine F_iald pf_149_50 rfl (by omega) ?_
                refine E_goto pf_149_51 ?_
                refine E_iload pf_149_55 rfl ?_
                refine E_icmp_ne_t pf_149_56 (by omega) ?_
                refine E_iconst pf_149_114 ?_
                refine E_istore (lv' := [_, _, _, _, _, _, _, _]) pf_149_115 rfl rfl ?_
                refine E_iload pf_149_117 rfl ?_
                refine E_if_eq_t pf_149_119 (by omega) ?_
                refine E_iinc (lv' := [_, _, _, _, _, _, _, _]) pf_149_125 rfl rfl ?_
                refine E_goto pf_149_128 ?_
                exact ih _ _
          refine E_iload pf_149_8 rfl ?_
          refine E_aload pf_149_10 rfl ?_
          refine F_getf pf_149_11 rfl rfl rfl ?_
          refine E_icmp_ge_f pf_149_14 (by omega) ?_
          refine E_iconst pf_149_17 ?_
          refine E_iload pf_149_18 rfl ?_
          refine E_imul pf_149_20 ?_
          refine E_istore (lv' := [_, _, _, _, _, _, _, _]) pf_149_21 rfl rfl ?_
          refine E_aload pf_149_23 rfl ?_
          refine F_getf pf_149_24 rfl rfl rfl ?_
          refine E_iload pf_149_27 rfl ?_
          refine F_iald pf_149_29 rfl (by omega) ?_
          refine E_iload pf_149_30 rfl ?_
          refine E_icmp_ne_f pf_149_31 (by omega) ?_
          exact k34
        ·
          refine E_iload pf_149_8 rfl ?_
          refine E_aload pf_149_10 rfl ?_
          refine F_getf pf_149_11 rfl rfl rfl ?_
          refine E_icmp_ge_f pf_149_14 (by omega) ?_
          refine E_iconst pf_149_17 ?_
          refine E_iload pf_149_18 rfl ?_
          refine E_imul pf_149_20 ?_
          refine E_istore (lv' := [_, _, _, _, _, _, _, _]) pf_149_21 rfl rfl ?_
          refine E_aload pf_149_23 rfl ?_
          refine F_getf pf_149_24 rfl rfl rfl ?_
          refine E_iload pf_149_27 rfl ?_
          refine F_iald pf_149_29 rfl (by omega) ?_
          refine E_iload pf_149_30 rfl ?_
          refine E_icmp_ne_t pf_149_31 (by omega) ?_
          refine E_iconst pf_149_114 ?_
          refine E_istore (lv' := [_, _, _, _, _, _, _, _]) pf_149_115 rfl rfl ?_
          refine E_iload pf_149_117 rfl ?_
          refine E_if_eq_t pf_149_119 (by omega) ?_
          refine E_iinc (lv' := [_, _, _, _, _, _, _, _]) pf_149_125 rfl rfl ?_
          refine E_goto pf_149_128 ?_
          exact ih _ _
  refine E_in (lv := [_, _, _, _, _, _, _, _]) rfl ?_
  refine E_aload pf_149_0 rfl ?_
  refine E_iconst pf_149_1 ?_
  refine F_putf (l' := [(_, _), (_, _)]) (x := ob _ [_, _, _, _, _, _, _, _, _, _, _, _, _, _, _, _, _, _, _, _, _, _, _, _, _]) pf_149_2 rfl rfl rfl rfl rfl ?_
  refine E_iconst pf_149_5 ?_
  refine E_istore (lv' := [_, _, _, _, _, _, _, _]) pf_149_6 rfl rfl ?_
  exact loop vn 0 _ _ (by omega)
theorem c86 {a b c e : Int} (ha : -999 ≤ a ∧ a ≤ 999) (hb : -999 ≤ b ∧ b ≤ 999) (hc : -999 ≤ c ∧ c ≤ 999) (he : -999 ≤ e ∧ e ≤ 999) (hC : ∀ q, -9 ≤ C q ∧ C q ≤ 9) (hv : 1 ≤ vn ∧ vn ≤ 24) : ∀ h, Ca 86 [.ref 1, .int (ii a), .int (ii b), .int (ii c), .int (ii e)] (wd [(1, oPD tl), (13, oP (dn : Int) k (vn : Int)), (14, ar 96 C), (100, lr 4 fa)] h) (.inl (some (.int (ii (zam (yD C (or4 a b c e)) (vn - 1))))), wd [(1, oPD tl), (13, oP (dn : Int) k (vn : Int)), (14, ar 96 C), (100, lr 4 (zu (zu (zu (zu fa 0 a) 1 b) 2 c) 3 e))] h) := by
  intro h
  have hf : ∀ j : Int, 0 ≤ j → j < 4 → (zu (zu (zu (zu fa 0 a) 1 b) 2 c) 3 e) j = or4 a b c e j := fun j h1 h2 => by
    have h4 : j = 0 ∨ j = 1 ∨ j = 2 ∨ j = 3 := by omega
    rcases h4 with g | g | g | g <;> subst g <;> rfl
  have hq : ∀ j : Int, 0 ≤ j → j < 4 → -1000000000 ≤ (zu (zu (zu (zu fa 0 a) 1 b) 2 c) 3 e) j ∧ (zu (zu (zu (zu fa 0 a) 1 b) 2 c) 3 e) j ≤ 1000000000 := fun j h1 h2 => by
    rw [hf j h1 h2]
    have := or4_in (j := j) ha hb hc he
    omega
  have hy : yD C (zu (zu (zu (zu fa 0 a) 1 b) 2 c) 3 e) = yD C (or4 a b c e) := by
    funext i
    exact zs_congr fun j hj => by rw [hf j (by omega) (by omega)]
  refine E_in (lv := [_, _, _, _, _]) rfl ?_
  refine E_iload pf_86_0 rfl ?_
  refine F_c1v0 pf_86_1 (c98t (by omega)) (trivial) rfl ?_
  refine E_if_eq_f pf_86_4 (by omega) ?_
  refine E_iload pf_86_7 rfl ?_
  refine F_c1v0 pf_86_8 (c98t (by omega)) (trivial) rfl ?_
  refine E_if_eq_f pf_86_11 (by omega) ?_
  refine E_iload pf_86_14 rfl ?_
  refine F_c1v0 pf_86_15 (c98t (by omega)) (trivial) rfl ?_
  refine E_if_eq_f pf_86_18 (by omega) ?_
  refine E_iload pf_86_21 rfl ?_
  refine F_c1v0 pf_86_23 (c98t (by omega)) (trivial) rfl ?_
  refine E_if_eq_f pf_86_26 (by omega) ?_
  refine E_iconst pf_86_29 ?_
  refine E_goto pf_86_30 ?_
  refine F_c1u0 pf_86_34 (c96) (trivial) rfl ?_
  refine E_aload pf_86_37 rfl ?_
  refine F_getf pf_86_38 rfl rfl rfl ?_
  refine E_iconst pf_86_41 ?_
  refine E_iload pf_86_42 rfl ?_
  refine E_i2l pf_86_43 (by omega) ?_
  refine F_last (l' := [(_, _), (_, _), (_, _), (_, _)]) pf_86_44 rfl (by omega) rfl ?_
  refine E_aload pf_86_45 rfl ?_
  refine F_getf pf_86_46 rfl rfl rfl ?_
  refine E_iconst pf_86_49 ?_
  refine E_iload pf_86_50 rfl ?_
  refine E_i2l pf_86_51 (by omega) ?_
  refine F_last (l' := [(_, _), (_, _), (_, _), (_, _)]) pf_86_52 rfl (by omega) rfl ?_
  refine E_aload pf_86_53 rfl ?_
  refine F_getf pf_86_54 rfl rfl rfl ?_
  refine E_iconst pf_86_57 ?_
  refine E_iload pf_86_58 rfl ?_
  refine E_i2l pf_86_59 (by omega) ?_
  refine F_last (l' := [(_, _), (_, _), (_, _), (_, _)]) pf_86_60 rfl (by omega) rfl ?_
  refine E_aload pf_86_61 rfl ?_
  refine F_getf pf_86_62 rfl rfl rfl ?_
  refine E_iconst pf_86_65 ?_
  refine E_iload pf_86_66 rfl ?_
  refine E_i2l pf_86_68 (by omega) ?_
  refine F_last (l' := [(_, _), (_, _), (_, _), (_, _)]) pf_86_69 rfl (by omega) rfl ?_
  refine E_aload pf_86_70 rfl ?_
  refine F_getf pf_86_71 rfl rfl rfl ?_
  refine E_aload pf_86_74 rfl ?_
  refine F_getf pf_86_75 rfl rfl rfl ?_
  refine F_v2v0 pf_86_78 (c39f hC hq hv) (And.intro rfl (And.intro rfl (And.intro rfl (trivial)))) rfl rfl ?_
  rw [hy]
  exact E_iret pf_86_81 rfl
theorem c86x {a b c e : Int} (ha : (-2147483648 ≤ a ∧ a ≤ 2147483647)) (hb : (-2147483648 ≤ b ∧ b ≤ 2147483647)) (hc : (-2147483648 ≤ c ∧ c ≤ 2147483647)) (he : (-2147483648 ≤ e ∧ e ≤ 2147483647)) (h1 : ¬ ((-999 ≤ a ∧ a ≤ 999) ∧ (-999 ≤ b ∧ b ≤ 999) ∧ (-999 ≤ c ∧ c ≤ 999) ∧ (-999 ≤ e ∧ e ≤ 999))) : ∀ h, Ca 86 [.ref 1, .int (ii a), .int (ii b), .int (ii c), .int (ii e)] (wd [(1, oPD tl)] h) (.inr 0, pd_thr (wd [(1, oPD tl)] h)) := by
  intro h
  refine E_in (lv := [_, _, _, _, _]) rfl ?_
  by_cases g0 : -999 ≤ a ∧ a ≤ 999
  · by_cases g1 : -999 ≤ b ∧ b ≤ 999
    · by_cases g2 : -999 ≤ c ∧ c ≤ 999
      ·
        refine E_iload pf_86_0 rfl ?_
        refine F_c1v0 pf_86_1 (c98t (by omega)) (trivial) rfl ?_
        refine E_if_eq_f pf_86_4 (by omega) ?_
        refine E_iload pf_86_7 rfl ?_
        refine F_c1v0 pf_86_8 (c98t (by omega)) (trivial) rfl ?_
        refine E_if_eq_f pf_86_11 (by omega) ?_
        refine E_iload pf_86_14 rfl ?_
        refine F_c1v0 pf_86_15 (c98t (by omega)) (trivial) rfl ?_
        refine E_if_eq_f pf_86_18 (by omega) ?_
        refine E_iload pf_86_21 rfl ?_
        refine F_c1v0 pf_86_23 (c98f (by omega) (by omega)) (trivial) rfl ?_
        refine E_if_eq_t pf_86_26 (by omega) ?_
        refine E_iconst pf_86_33 ?_
        exact E_c1x pf_86_34 rfl (c96x _) rfl
      ·
        refine E_iload pf_86_0 rfl ?_
        refine F_c1v0 pf_86_1 (c98t (by omega)) (trivial) rfl ?_
        refine E_if_eq_f pf_86_4 (by omega) ?_
        refine E_iload pf_86_7 rfl ?_
        refine F_c1v0 pf_86_8 (c98t (by omega)) (trivial) rfl ?_
        refine E_if_eq_f pf_86_11 (by omega) ?_
        refine E_iload pf_86_14 rfl ?_
        refine F_c1v0 pf_86_15 (c98f (by omega) (by omega)) (trivial) rfl ?_
        refine E_if_eq_t pf_86_18 (by omega) ?_
        refine E_iconst pf_86_33 ?_
        exact E_c1x pf_86_34 rfl (c96x _) rfl
    ·
      refine E_iload pf_86_0 rfl ?_
      refine F_c1v0 pf_86_1 (c98t (by omega)) (trivial) rfl ?_
      refine E_if_eq_f pf_86_4 (by omega) ?_
      refine E_iload pf_86_7 rfl ?_
      refine F_c1v0 pf_86_8 (c98f (by omega) (by omega)) (trivial) rfl ?_
      refine E_if_eq_t pf_86_11 (by omega) ?_
      refine E_iconst pf_86_33 ?_
      exact E_c1x pf_86_34 rfl (c96x _) rfl
  ·
    refine E_iload pf_86_0 rfl ?_
    refine F_c1v0 pf_86_1 (c98f (by omega) (by omega)) (trivial) rfl ?_
    refine E_if_eq_t pf_86_4 (by omega) ?_
    refine E_iconst pf_86_33 ?_
    exact E_c1x pf_86_34 rfl (c96x _) rfl
theorem c165x {a b c e : Int} (ha : (-2147483648 ≤ a ∧ a ≤ 2147483647)) (hb : (-2147483648 ≤ b ∧ b ≤ 2147483647)) (hc : (-2147483648 ≤ c ∧ c ≤ 2147483647)) (he : (-2147483648 ≤ e ∧ e ≤ 2147483647)) (h1 : ¬ ((-999 ≤ a ∧ a ≤ 999) ∧ (-999 ≤ b ∧ b ≤ 999) ∧ (-999 ≤ c ∧ c ≤ 999) ∧ (-999 ≤ e ∧ e ≤ 999))) : ∀ h, Ca 165 [.ref 102, .int (ii a), .int (ii b), .int (ii c), .int (ii e)] (wd [(102, oX6 rf ts sp (dn : Int) kd (vn : Int) (rn : Int) rd rk rv rr ac)] h) (.inl (some (.int (ii 0))), wd [(102, oX6 1 ts sp (dn : Int) kd (vn : Int) (rn : Int) rd rk rv rr ac)] h) := by
  intro h
  refine E_in (lv := [_, _, _, _, _, _, _, _, _, _]) rfl ?_
  by_cases g0 : -999 ≤ a ∧ a ≤ 999
  · by_cases g1 : -999 ≤ b ∧ b ≤ 999
    · by_cases g2 : -999 ≤ c ∧ c ≤ 999
      ·
        refine E_aload pf_165_0 rfl ?_
        refine E_iload pf_165_1 rfl ?_
        refine E_i2l pf_165_2 (by omega) ?_
        refine E_lconst pf_165_3 ?_
        refine E_lconst pf_165_6 ?_
        refine F_c3v0 pf_165_9 (c109t (by omega) (by omega)) (trivial) rfl ?_
        refine E_if_eq_f pf_165_12 (by omega) ?_
        refine E_iload pf_165_15 rfl ?_
        refine E_i2l pf_165_16 (by omega) ?_
        refine E_lconst pf_165_17 ?_
        refine E_lconst pf_165_20 ?_
        refine F_c3v0 pf_165_23 (c109t (by omega) (by omega)) (trivial) rfl ?_
        refine E_if_eq_f pf_165_26 (by omega) ?_
        refine E_iload pf_165_29 rfl ?_
        refine E_i2l pf_165_30 (by omega) ?_
        refine E_lconst pf_165_31 ?_
        refine E_lconst pf_165_34 ?_
        refine F_c3v0 pf_165_37 (c109t (by omega) (by omega)) (trivial) rfl ?_
        refine E_if_eq_f pf_165_40 (by omega) ?_
        refine E_iload pf_165_43 rfl ?_
        refine E_i2l pf_165_45 (by omega) ?_
        refine E_lconst pf_165_46 ?_
        refine E_lconst pf_165_49 ?_
        refine F_c3v0 pf_165_52 (c109f (by omega) (by omega)) (trivial) rfl ?_
        refine E_if_eq_t pf_165_55 (by omega) ?_
        refine E_iconst pf_165_62 ?_
        refine F_v2v (l' := [(_, _)]) pf_165_63 (c108_1) (And.intro rfl (trivial)) rfl rfl rfl rfl ?_
        refine E_if_eq_f pf_165_66 (by omega) ?_
        refine E_iconst pf_165_69 ?_
        exact E_iret pf_165_70 rfl
      ·
        refine E_aload pf_165_0 rfl ?_
        refine E_iload pf_165_1 rfl ?_
        refine E_i2l pf_165_2 (by omega) ?_
        refine E_lconst pf_165_3 ?_
        refine E_lconst pf_165_6 ?_
        refine F_c3v0 pf_165_9 (c109t (by omega) (by omega)) (trivial) rfl ?_
        refine E_if_eq_f pf_165_12 (by omega) ?_
        refine E_iload pf_165_15 rfl ?_
        refine E_i2l pf_165_16 (by omega) ?_
        refine E_lconst pf_165_17 ?_
        refine E_lconst pf_165_20 ?_
        refine F_c3v0 pf_165_23 (c109t (by omega) (by omega)) (trivial) rfl ?_
        refine E_if_eq_f pf_165_26 (by omega) ?_
        refine E_iload pf_165_29 rfl ?_
        refine E_i2l pf_165_30 (by omega) ?_
        refine E_lconst pf_165_31 ?_
        refine E_lconst pf_165_34 ?_
        refine F_c3v0 pf_165_37 (c109f (by omega) (by omega)) (trivial) rfl ?_
        refine E_if_eq_t pf_165_40 (by omega) ?_
        refine E_iconst pf_165_62 ?_
        refine F_v2v (l' := [(_, _)]) pf_165_63 (c108_1) (And.intro rfl (trivial)) rfl rfl rfl rfl ?_
        refine E_if_eq_f pf_165_66 (by omega) ?_
        refine E_iconst pf_165_69 ?_
        exact E_iret pf_165_70 rfl
    ·
      refine E_aload pf_165_0 rfl ?_
      refine E_iload pf_165_1 rfl ?_
      refine E_i2l pf_165_2 (by omega) ?_
      refine E_lconst pf_165_3 ?_
      refine E_lconst pf_165_6 ?_
      refine F_c3v0 pf_165_9 (c109t (by omega) (by omega)) (trivial) rfl ?_
      refine E_if_eq_f pf_165_12 (by omega) ?_
      refine E_iload pf_165_15 rfl ?_
      refine E_i2l pf_165_16 (by omega) ?_
      refine E_lconst pf_165_17 ?_
      refine E_lconst pf_165_20 ?_
      refine F_c3v0 pf_165_23 (c109f (by omega) (by omega)) (trivial) rfl ?_
      refine E_if_eq_t pf_165_26 (by omega) ?_
      refine E_iconst pf_165_62 ?_
      refine F_v2v (l' := [(_, _)]) pf_165_63 (c108_1) (And.intro rfl (trivial)) rfl rfl rfl rfl ?_
      refine E_if_eq_f pf_165_66 (by omega) ?_
      refine E_iconst pf_165_69 ?_
      exact E_iret pf_165_70 rfl
  ·
    refine E_aload pf_165_0 rfl ?_
    refine E_iload pf_165_1 rfl ?_
    refine E_i2l pf_165_2 (by omega) ?_
    refine E_lconst pf_165_3 ?_
    refine E_lconst pf_165_6 ?_
    refine F_c3v0 pf_165_9 (c109f (by omega) (by omega)) (trivial) rfl ?_
    refine E_if_eq_t pf_165_12 (by omega) ?_
    refine E_iconst pf_165_62 ?_
    refine F_v2v (l' := [(_, _)]) pf_165_63 (c108_1) (And.intro rfl (trivial)) rfl rfl rfl rfl ?_
    refine E_if_eq_f pf_165_66 (by omega) ?_
    refine E_iconst pf_165_69 ?_
    exact E_iret pf_165_70 rfl
theorem c165 {a b c e : Int} (ha : -999 ≤ a ∧ a ≤ 999) (hb : -999 ≤ b ∧ b ≤ 999) (hc : -999 ≤ c ∧ c ≤ 999) (he : -999 ≤ e ∧ e ≤ 999) (hP : ppk P dn vn rn) : ∀ h, Ca 165 [.ref 102, .int (ii a), .int (ii b), .int (ii c), .int (ii e)] (wd [(102, oX6 rf ts sp (dn : Int) kd (vn : Int) (rn : Int) rd rk rv rr ac), (104, ar 128 P)] h) (.inl (some (.int (ii (zam (og P a b c e dn) (vn - 1))))), wd [(102, oX6 0 ts sp (dn : Int) kd (vn : Int) (rn : Int) rd rk rv rr ac), (104, ar 128 P)] h) := by
  intro h
  have hp1 := hP.1
  have hp2 := hP.2.1
  have hp3 := hP.2.2.1
  have inner : ∀ (v : Nat) (fo le : Int) (r : pd_Out × pd_H), v < 24 → Rn 165 159 [.ref 102, .int (ii a), .int (ii b), .int (ii c), .int (ii e), .int (ii fo), .int (ii le), .int (ii (v : Int)), .int (ii ((og P a b c e dn) (v : Int))), .int (ii (dn : Int))] [] (wd [(102, oX6 0 ts sp (dn : Int) kd (vn : Int) (rn : Int) rd rk rv rr ac), (104, ar 128 P)] h) r → ∀ (m j : Nat), j + m = dn → Rn 165 95 [.ref 102, .int (ii a), .int (ii b), .int (ii c), .int (ii e), .int (ii fo), .int (ii le), .int (ii (v : Int)), .int (ii (zs (fun j => or4 a b c e j * P (4 * (v : Int) + j)) j)), .int (ii (j : Int))] [] (wd [(102, oX6 0 ts sp (dn : Int) kd (vn : Int) (rn : Int) rd rk rv rr ac), (104, ar 128 P)] h) r := by
    intro v fo le r hv hr m
    induction m with
    | zero =>
      intro j hj
      obtain rfl : dn = j := by omega
      refine E_iload pf_165_95 rfl ?_
      refine E_aload pf_165_97 rfl ?_
      refine F_getf pf_165_98 rfl rfl rfl ?_
      refine E_icmp_ge_t pf_165_101 (by omega) ?_
      exact hr
    | succ m ih =>
      intro j hj
      have ih := ih (j + 1) (by omega)
      simp only [zs] at ih
      have h4 : j = 0 ∨ j = 1 ∨ j = 2 ∨ j = 3 := by omega
      rcases h4 with g | g | g | g <;> subst g
      ·
        refine E_iload pf_165_95 rfl ?_
        refine E_aload pf_165_97 rfl ?_
        refine F_getf pf_165_98 rfl rfl rfl ?_
        refine E_icmp_ge_f pf_165_101 (by omega) ?_
        refine E_iload pf_165_104 rfl ?_
        refine E_iload pf_165_106 rfl ?_
        refine E_if_ne_f pf_165_108 (by omega) ?_
        refine E_iload pf_165_111 rfl ?_
        refine E_goto pf_165_112 ?_
        refine E_aload pf_165_137 rfl ?_
        refine F_getf pf_165_138 rfl rfl rfl ?_
        refine E_iconst pf_165_141 ?_
        refine E_iload pf_165_142 rfl ?_
        refine E_imul pf_165_144 ?_
        refine E_iload pf_165_145 rfl ?_
        refine E_iadd pf_165_147 ?_
        refine F_iald pf_165_148 rfl (by omega) ?_
        refine E_imul pf_165_149 ?_
        refine E_iadd pf_165_150 ?_
        refine E_istore (lv' := [_, _, _, _, _, _, _, _, _, _]) pf_165_151 rfl rfl ?_
        refine E_iinc (lv' := [_, _, _, _, _, _, _, _, _, _]) pf_165_153 rfl rfl ?_
        refine E_goto pf_165_156 ?_
        exact ih
      ·
        refine E_iload pf_165_95 rfl ?_
        refine E_aload pf_165_97 rfl ?_
        refine F_getf pf_165_98 rfl rfl rfl ?_
        refine E_icmp_ge_f pf_165_101 (by omega) ?_
        refine E_iload pf_165_104 rfl ?_
        refine E_iload pf_165_106 rfl ?_
        refine E_if_ne_t pf_165_108 (by omega) ?_
        refine E_iload pf_165_115 rfl ?_
        refine E_iconst pf_165_117 ?_
        refine E_icmp_ne_f pf_165_118 (by omega) ?_
        refine E_iload pf_165_121 rfl ?_
        refine E_goto pf_165_122 ?_
        refine E_aload pf_165_137 rfl ?_
        refine F_getf pf_165_138 rfl rfl rfl ?_
        refine E_iconst pf_165_141 ?_
        refine E_iload pf_165_142 rfl ?_
        refine E_imul pf_165_144 ?_
        refine E_iload pf_165_145 rfl ?_
        refine E_iadd pf_165_147 ?_
        refine F_iald pf_165_148 rfl (by omega) ?_
        refine E_imul pf_165_149 ?_
        refine E_iadd pf_165_150 ?_
        refine E_istore (lv' := [_, _, _, _, _, _, _, _, _, _]) pf_165_151 rfl rfl ?_
        refine E_iinc (lv' := [_, _, _, _, _, _, _, _, _, _]) pf_165_153 rfl rfl ?_
        refine E_goto pf_165_156 ?_
        exact ih
      ·
        refine E_iload pf_165_95 rfl ?_
        refine E_aload pf_165_97 rfl ?_
        refine F_getf pf_165_98 rfl rfl rfl ?_
        refine E_icmp_ge_f pf_165_101 (by omega) ?_
        refine E_iload pf_165_104 rfl ?_
        refine E_iload pf_165_106 rfl ?_
        refine E_if_ne_t pf_165_108 (by omega) ?_
        refine E_iload pf_165_115 rfl ?_
        refine E_iconst pf_165_117 ?_
        refine E_icmp_ne_t pf_165_118 (by omega) ?_
        refine E_iload pf_165_125 rfl ?_
        refine E_iconst pf_165_127 ?_
        refine E_icmp_ne_f pf_165_128 (by omega) ?_
        refine E_iload pf_165_131 rfl ?_
        refine E_goto pf_165_132 ?_
        refine E_aload pf_165_137 rfl ?_
        refine F_getf pf_165_138 rfl rfl rfl ?_
        refine E_iconst pf_165_141 ?_
        refine E_iload pf_165_142 rfl ?_
        refine E_imul pf_165_144 ?_
        refine E_iload pf_165_145 rfl ?_
        refine E_iadd pf_165_147 ?_
        refine F_iald pf_165_148 rfl (by omega) ?_
        refine E_imul pf_165_149 ?_
        refine E_iadd pf_165_150 ?_
        refine E_istore (lv' := [_, _, _, _, _, _, _, _, _, _]) pf_165_151 rfl rfl ?_
        refine E_iinc (lv' := [_, _, _, _, _, _, _, _, _, _]) pf_165_153 rfl rfl ?_
        refine E_goto pf_165_156 ?_
        exact ih
      ·
        refine E_iload pf_165_95 rfl ?_
        refine E_aload pf_165_97 rfl ?_
        refine F_getf pf_165_98 rfl rfl rfl ?_
        refine E_icmp_ge_f pf_165_101 (by omega) ?_
        refine E_iload pf_165_104 rfl ?_
        refine E_iload pf_165_106 rfl ?_
        refine E_if_ne_t pf_165_108 (by omega) ?_
        refine E_iload pf_165_115 rfl ?_
        refine E_iconst pf_165_117 ?_
        refine E_icmp_ne_t pf_165_118 (by omega) ?_
        refine E_iload pf_165_125 rfl ?_
        refine E_iconst pf_165_127 ?_
        refine E_icmp_ne_t pf_165_128 (by omega) ?_
        refine E_iload pf_165_135 rfl ?_
        refine E_aload pf_165_137 rfl ?_
        refine F_getf pf_165_138 rfl rfl rfl ?_
        refine E_iconst pf_165_141 ?_
        refine E_iload pf_165_142 rfl ?_
        refine E_imul pf_165_144 ?_
        refine E_iload pf_165_145 rfl ?_
        refine E_iadd pf_165_147 ?_
        refine F_iald pf_165_148 rfl (by omega) ?_
        refine E_imul pf_165_149 ?_
        refine E_iadd pf_165_150 ?_
        refine E_istore (lv' := [_, _, _, _, _, _, _, _, _, _]) pf_165_151 rfl rfl ?_
        refine E_iinc (lv' := [_, _, _, _, _, _, _, _, _, _]) pf_165_153 rfl rfl ?_
        refine E_goto pf_165_156 ?_
        exact ih
  have loop : ∀ (n u : Nat) (w8 w9 : Value), u + 1 + n = vn → Rn 165 80 [.ref 102, .int (ii a), .int (ii b), .int (ii c), .int (ii e), .int (ii (zam (og P a b c e dn) u)), .int (ii ((og P a b c e dn) (zam (og P a b c e dn) u))), .int (ii ((u + 1 : Nat) : Int)), w8, w9] [] (wd [(102, oX6 0 ts sp (dn : Int) kd (vn : Int) (rn : Int) rd rk rv rr ac), (104, ar 128 P)] h) (.inl (some (.int (ii (zam (og P a b c e dn) (vn - 1))))), wd [(102, oX6 0 ts sp (dn : Int) kd (vn : Int) (rn : Int) rd rk rv rr ac), (104, ar 128 P)] h) := by
    intro n
    induction n with
    | zero =>
      intro u w8 w9 hu
      have e5 : vn - 1 = u := by omega
      rw [e5]
      have hz := zam_in (og P a b c e dn) u
      refine E_iload pf_165_80 rfl ?_
      refine E_aload pf_165_82 rfl ?_
      refine F_getf pf_165_83 rfl rfl rfl ?_
      refine E_icmp_ge_t pf_165_86 (by omega) ?_
      refine E_iload pf_165_207 rfl ?_
      exact E_iret pf_165_209 rfl
    | succ n ih =>
      intro u w8 w9 hu
      have ih := fun w8 w9 => ih (u + 1) w8 w9 (by omega)
      have hz := zam_in (og P a b c e dn) u
      have g1 := og_in (v := ((u + 1 : Nat) : Int)) (dn := dn) ha hb hc he hP.2.2.2 (by omega)
      have g2 := og_in (v := zam (og P a b c e dn) u) (dn := dn) ha hb hc he hP.2.2.2 (by omega)
      by_cases g : (og P a b c e dn) ((u + 1 : Nat) : Int) < (og P a b c e dn) (zam (og P a b c e dn) u)
      · simp only [zam, if_pos g] at ih
        refine E_iload pf_165_80 rfl ?_
        refine E_aload pf_165_82 rfl ?_
        refine F_getf pf_165_83 rfl rfl rfl ?_
        refine E_icmp_ge_f pf_165_86 (by omega) ?_
        refine E_iconst pf_165_89 ?_
        refine E_istore (lv' := [_, _, _, _, _, _, _, _, _, _]) pf_165_90 rfl rfl ?_
        refine E_iconst pf_165_92 ?_
        refine E_istore (lv' := [_, _, _, _, _, _, _, _, _, _]) pf_165_93 rfl rfl ?_
        refine inner (u + 1) _ _ _ (by omega) ?_ dn 0 (by omega)
        refine E_iload pf_165_159 rfl ?_
        refine E_if_eq_f pf_165_161 (by omega) ?_
        refine E_iload pf_165_164 rfl ?_
        refine E_iload pf_165_166 rfl ?_
        refine E_icmp_ge_f pf_165_168 (by omega) ?_
        refine E_iload pf_165_171 rfl ?_
        refine E_goto pf_165_173 ?_
        refine E_istore (lv' := [_, _, _, _, _, _, _, _, _, _]) pf_165_178 rfl rfl ?_
        refine E_iload pf_165_180 rfl ?_
        refine E_if_eq_f pf_165_182 (by omega) ?_
        refine E_iload pf_165_185 rfl ?_
        refine E_iload pf_165_187 rfl ?_
        refine E_icmp_ge_f pf_165_189 (by omega) ?_
        refine E_iload pf_165_192 rfl ?_
        refine E_goto pf_165_194 ?_
        refine E_istore (lv' := [_, _, _, _, _, _, _, _, _, _]) pf_165_199 rfl rfl ?_
        refine E_iinc (lv' := [_, _, _, _, _, _, _, _, _, _]) pf_165_201 rfl rfl ?_
        refine E_goto pf_165_204 ?_
        exact ih _ _
      · simp only [zam, if_neg g] at ih
        refine E_iload pf_165_80 rfl ?_
        refine E_aload pf_165_82 rfl ?_
        refine F_getf pf_165_83 rfl rfl rfl ?_
        refine E_icmp_ge_f pf_165_86 (by omega) ?_
        refine E_iconst pf_165_89 ?_
        refine E_istore (lv' := [_, _, _, _, _, _, _, _, _, _]) pf_165_90 rfl rfl ?_
        refine E_iconst pf_165_92 ?_
        refine E_istore (lv' := [_, _, _, _, _, _, _, _, _, _]) pf_165_93 rfl rfl ?_
        refine inner (u + 1) _ _ _ (by omega) ?_ dn 0 (by omega)
        refine E_iload pf_165_159 rfl ?_
        refine E_if_eq_f pf_165_161 (by omega) ?_
        refine E_iload pf_165_164 rfl ?_
        refine E_iload pf_165_166 rfl ?_
        refine E_icmp_ge_t pf_165_168 (by omega) ?_
        refine E_iload pf_165_176 rfl ?_
        refine E_istore (lv' := [_, _, _, _, _, _, _, _, _, _]) pf_165_178 rfl rfl ?_
        refine E_iload pf_165_180 rfl ?_
        refine E_if_eq_f pf_165_182 (by omega) ?_
        refine E_iload pf_165_185 rfl ?_
        refine E_iload pf_165_187 rfl ?_
        refine E_icmp_ge_t pf_165_189 (by omega) ?_
        refine E_iload pf_165_197 rfl ?_
        refine E_istore (lv' := [_, _, _, _, _, _, _, _, _, _]) pf_165_199 rfl rfl ?_
        refine E_iinc (lv' := [_, _, _, _, _, _, _, _, _, _]) pf_165_201 rfl rfl ?_
        refine E_goto pf_165_204 ?_
        exact ih _ _
  refine E_in (lv := [_, _, _, _, _, _, _, _, _, _]) rfl ?_
  refine E_aload pf_165_0 rfl ?_
  refine E_iload pf_165_1 rfl ?_
  refine E_i2l pf_165_2 (by omega) ?_
  refine E_lconst pf_165_3 ?_
  refine E_lconst pf_165_6 ?_
  refine F_c3v0 pf_165_9 (c109t (by omega) (by omega)) (trivial) rfl ?_
  refine E_if_eq_f pf_165_12 (by omega) ?_
  refine E_iload pf_165_15 rfl ?_
  refine E_i2l pf_165_16 (by omega) ?_
  refine E_lconst pf_165_17 ?_
  refine E_lconst pf_165_20 ?_
  refine F_c3v0 pf_165_23 (c109t (by omega) (by omega)) (trivial) rfl ?_
  refine E_if_eq_f pf_165_26 (by omega) ?_
  refine E_iload pf_165_29 rfl ?_
  refine E_i2l pf_165_30 (by omega) ?_
  refine E_lconst pf_165_31 ?_
  refine E_lconst pf_165_34 ?_
  refine F_c3v0 pf_165_37 (c109t (by omega) (by omega)) (trivial) rfl ?_
  refine E_if_eq_f pf_165_40 (by omega) ?_
  refine E_iload pf_165_43 rfl ?_
  refine E_i2l pf_165_45 (by omega) ?_
  refine E_lconst pf_165_46 ?_
  refine E_lconst pf_165_49 ?_
  refine F_c3v0 pf_165_52 (c109t (by omega) (by omega)) (trivial) rfl ?_
  refine E_if_eq_f pf_165_55 (by omega) ?_
  refine E_iconst pf_165_58 ?_
  refine E_goto pf_165_59 ?_
  refine F_v2v (l' := [(_, _), (_, _)]) pf_165_63 (c108_0) (And.intro rfl (trivial)) rfl rfl rfl rfl ?_
  refine E_if_eq_t pf_165_66 (by omega) ?_
  refine E_iconst pf_165_71 ?_
  refine E_istore (lv' := [_, _, _, _, _, _, _, _, _, _]) pf_165_72 rfl rfl ?_
  refine E_iconst pf_165_74 ?_
  refine E_istore (lv' := [_, _, _, _, _, _, _, _, _, _]) pf_165_75 rfl rfl ?_
  refine E_iconst pf_165_77 ?_
  refine E_istore (lv' := [_, _, _, _, _, _, _, _, _, _]) pf_165_78 rfl rfl ?_
  have l1 := loop (vn - 1) 0
  refine E_iload pf_165_80 rfl ?_
  refine E_aload pf_165_82 rfl ?_
  refine F_getf pf_165_83 rfl rfl rfl ?_
  refine E_icmp_ge_f pf_165_86 (by omega) ?_
  refine E_iconst pf_165_89 ?_
  refine E_istore (lv' := [_, _, _, _, _, _, _, _, _, _]) pf_165_90 rfl rfl ?_
  refine E_iconst pf_165_92 ?_
  refine E_istore (lv' := [_, _, _, _, _, _, _, _, _, _]) pf_165_93 rfl rfl ?_
  refine inner 0 0 0 _ (by omega) ?_ dn 0 (by omega)
  refine E_iload pf_165_159 rfl ?_
  refine E_if_eq_t pf_165_161 (by omega) ?_
  refine E_iload pf_165_171 rfl ?_
  refine E_goto pf_165_173 ?_
  refine E_istore (lv' := [_, _, _, _, _, _, _, _, _, _]) pf_165_178 rfl rfl ?_
  refine E_iload pf_165_180 rfl ?_
  refine E_if_eq_t pf_165_182 (by omega) ?_
  refine E_iload pf_165_192 rfl ?_
  refine E_goto pf_165_194 ?_
  refine E_istore (lv' := [_, _, _, _, _, _, _, _, _, _]) pf_165_199 rfl rfl ?_
  refine E_iinc (lv' := [_, _, _, _, _, _, _, _, _, _]) pf_165_201 rfl rfl ?_
  refine E_goto pf_165_204 ?_
  exact l1 _ _ (by omega)
end FND
