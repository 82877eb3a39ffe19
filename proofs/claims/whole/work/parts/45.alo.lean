/-! bestAlone and search, both sides. -/
section ALO
variable {T C P R V U r q x rs sl wt fa mv : Int → Int} {rf ts tl sp d kd vs rw rd rk rv rr ac k st dr pu be : Int} {m dn rn vn n : Nat}
theorem c5a {v : Int} (hs : sok vn R V U m) (hP : ppk C dn vn rn) (hv : 0 ≤ v ∧ v < 24) : ∀ h, Ca 5 [.ref 18, .ref 24, .int (ii v)] (wd [(13, oP (dn : Int) k (vn : Int)), (14, ar 96 C), (18, oD pu be), (19, ar 4 x), (20, ar 4 rs), (24, oS24 (rn : Int) (m : Int) st dr), (25, ar 20 R)] h) (.inl (some (.long (ll (vA R C rn v)))), wd [(13, oP (dn : Int) k (vn : Int)), (14, ar 96 C), (18, oD pu be), (19, ar 4 (zfill x (fun j => 100 * C (v * 4 + j)) 4)), (20, ar 4 (zfill rs (yRs R (zfill x (fun j => 100 * C (v * 4 + j)) 4)) rn)), (24, oS24 (rn : Int) (m : Int) st dr), (25, ar 20 R)] h) := c5 hs hP hv
theorem c87 (hs : sok vn R V U m) (hP : ppk C dn vn rn) : ∃ x' rs' : Int → Int, ∀ h, Ca 87 [.ref 1] (wd [(1, oPD tl), (13, oP (dn : Int) k (vn : Int)), (14, ar 96 C), (18, oD pu be), (19, ar 4 x), (20, ar 4 rs), (24, oS24 (rn : Int) (m : Int) st dr), (25, ar 20 R)] h) (.inl (some (.int (ii (zam (vA R C rn) (vn - 1))))), wd [(1, oPD tl), (13, oP (dn : Int) k (vn : Int)), (14, ar 96 C), (18, oD pu be), (19, ar 4 x'), (20, ar 4 rs'), (24, oS24 (rn : Int) (m : Int) st dr), (25, ar 20 R)] h) := by
  have hp1 := hP.1
  have hp2 := hP.2.1
  have hp3 := hP.2.2.1
  have loop : ∀ (n u : Nat) (x rs : Int → Int), u + 1 + n = vn → ∃ x' rs' : Int → Int, ∀ (h : pd_H) (w5 w6 : Value), Rn 87 18 [.ref 1, .int (ii (zam (vA R C rn) u)), .long (ll ((vA R C rn) (zam (vA R C rn) u))), pd_dum, .int (ii ((u + 1 : Nat) : Int)), w5, w6] [] (wd [(1, oPD tl), (13, oP (dn : Int) k (vn : Int)), (14, ar 96 C), (18, oD pu be), (19, ar 4 x), (20, ar 4 rs), (24, oS24 (rn : Int) (m : Int) st dr), (25, ar 20 R)] h) (.inl (some (.int (ii (zam (vA R C rn) (vn - 1))))), wd [(1, oPD tl), (13, oP (dn : Int) k (vn : Int)), (14, ar 96 C), (18, oD pu be), (19, ar 4 x'), (20, ar 4 rs'), (24, oS24 (rn : Int) (m : Int) st dr), (25, ar 20 R)] h) := by
    intro n
    induction n with
    | zero =>
      intro u x rs hu
      have e5 : vn - 1 = u := by omega
      rw [e5]
      refine ⟨x, rs, fun h w5 w6 => ?_⟩
      refine E_iload pf_87_18 rfl ?_
      refine E_aload pf_87_20 rfl ?_
      refine F_getf pf_87_21 rfl rfl rfl ?_
      refine F_getf pf_87_24 rfl rfl rfl ?_
      refine E_icmp_ge_t pf_87_27 (by omega) ?_
      refine E_iload pf_87_64 rfl ?_
      exact E_iret pf_87_65 rfl
    | succ n ih =>
      intro u x rs hu
      have g1 := vA_in hs hP ((u + 1 : Nat) : Int)
      have g2 := vA_in hs hP (zam (vA R C rn) u)
      obtain ⟨x', rs', ih⟩ := ih (u + 1) _ _ (by omega)
      refine ⟨x', rs', fun h w5 w6 => ?_⟩
      by_cases g : (vA R C rn) ((u + 1 : Nat) : Int) < (vA R C rn) (zam (vA R C rn) u)
      · simp only [zam, if_pos g] at ih
        refine E_iload pf_87_18 rfl ?_
        refine E_aload pf_87_20 rfl ?_
        refine F_getf pf_87_21 rfl rfl rfl ?_
        refine F_getf pf_87_24 rfl rfl rfl ?_
        refine E_icmp_ge_f pf_87_27 (by omega) ?_
        refine E_aload pf_87_30 rfl ?_
        refine F_getf pf_87_31 rfl rfl rfl ?_
        refine E_aload pf_87_34 rfl ?_
        refine F_getf pf_87_35 rfl rfl rfl ?_
        refine E_iload pf_87_38 rfl ?_
        refine F_v3v (l' := [(_, _), (_, _), (_, _), (_, _), (_, _), (_, _), (_, _), (_, _)]) pf_87_40 (c5a hs hP (by omega)) (And.intro rfl (And.intro rfl (And.intro rfl (And.intro rfl (And.intro rfl (And.intro rfl (And.intro rfl (trivial)))))))) rfl rfl rfl rfl ?_
        refine E_lstore (lv' := [_, _, _, _, _, _, _]) pf_87_43 rfl rfl ?_
        refine E_lload pf_87_45 rfl ?_
        refine E_lload pf_87_47 rfl ?_
        refine E_lcmp_ge_f pf_87_48 pf_87_49 (by omega) ?_
        refine E_lload pf_87_52 rfl ?_
        refine E_lstore (lv' := [_, _, _, _, _, _, _]) pf_87_54 rfl rfl ?_
        refine E_iload pf_87_55 rfl ?_
        refine E_istore (lv' := [_, _, _, _, _, _, _]) pf_87_57 rfl rfl ?_
        refine E_iinc (lv' := [_, _, _, _, _, _, _]) pf_87_58 rfl rfl ?_
        refine E_goto pf_87_61 ?_
        exact ih h _ _
      · simp only [zam, if_neg g] at ih
        refine E_iload pf_87_18 rfl ?_
        refine E_aload pf_87_20 rfl ?_
        refine F_getf pf_87_21 rfl rfl rfl ?_
        refine F_getf pf_87_24 rfl rfl rfl ?_
        refine E_icmp_ge_f pf_87_27 (by omega) ?_
        refine E_aload pf_87_30 rfl ?_
        refine F_getf pf_87_31 rfl rfl rfl ?_
        refine E_aload pf_87_34 rfl ?_
        refine F_getf pf_87_35 rfl rfl rfl ?_
        refine E_iload pf_87_38 rfl ?_
        refine F_v3v (l' := [(_, _), (_, _), (_, _), (_, _), (_, _), (_, _), (_, _), (_, _)]) pf_87_40 (c5a hs hP (by omega)) (And.intro rfl (And.intro rfl (And.intro rfl (And.intro rfl (And.intro rfl (And.intro rfl (And.intro rfl (trivial)))))))) rfl rfl rfl rfl ?_
        refine E_lstore (lv' := [_, _, _, _, _, _, _]) pf_87_43 rfl rfl ?_
        refine E_lload pf_87_45 rfl ?_
        refine E_lload pf_87_47 rfl ?_
        refine E_lcmp_ge_t pf_87_48 pf_87_49 (by omega) ?_
        refine E_iinc (lv' := [_, _, _, _, _, _, _]) pf_87_58 rfl rfl ?_
        refine E_goto pf_87_61 ?_
        exact ih h _ _
  obtain ⟨x', rs', l1⟩ := loop (vn - 1) 0 _ _ (by omega)
  refine ⟨x', rs', fun h => ?_⟩
  refine E_in (lv := [_, _, _, _, _, _, _]) rfl ?_
  refine E_iconst pf_87_0 ?_
  refine E_istore (lv' := [_, _, _, _, _, _, _]) pf_87_1 rfl rfl ?_
  refine E_aload pf_87_2 rfl ?_
  refine F_getf pf_87_3 rfl rfl rfl ?_
  refine E_aload pf_87_6 rfl ?_
  refine F_getf pf_87_7 rfl rfl rfl ?_
  refine E_iconst pf_87_10 ?_
  refine F_v3v (l' := [(_, _), (_, _), (_, _), (_, _), (_, _), (_, _), (_, _), (_, _)]) pf_87_11 (c5a hs hP (by omega)) (And.intro rfl (And.intro rfl (And.intro rfl (And.intro rfl (And.intro rfl (And.intro rfl (And.intro rfl (trivial)))))))) rfl rfl rfl rfl ?_
  refine E_lstore (lv' := [_, _, _, _, _, _, _]) pf_87_14 rfl rfl ?_
  refine E_iconst pf_87_15 ?_
  refine E_istore (lv' := [_, _, _, _, _, _, _]) pf_87_16 rfl rfl ?_
  exact l1 h _ _
theorem c166 (hp : pgk (vn : Int) r m) (hP : ppk P dn vn rn) : ∀ h, Ca 166 [.ref 102] (wd [(102, oX6 rf ts sp (dn : Int) kd (vn : Int) (rn : Int) rd rk rv rr ac), (104, ar 128 P), (107, ar 72 r)] h) (.inl (some (.int (ii (zam (vM r P dn rn) (vn - 1))))), wd [(102, oX6 0 ts sp (dn : Int) kd (vn : Int) (rn : Int) rd rk rv rr ac), (104, ar 128 P), (107, ar 72 r)] h) := by
  intro h
  have hp1 := hP.1
  have hp2 := hP.2.1
  have hp3 := hP.2.2.1
  have inner : ∀ (v : Nat) (fo le : Int) (o : pd_Out × pd_H), v < vn → (∀ w8 w9 : Value, Rn 166 67 [.ref 102, .int (ii fo), .long (ll le), pd_dum, .int (ii (v : Int)), .long (ll ((vM r P dn rn) (v : Int))), pd_dum, .int (ii (rn : Int)), w8, w9] [] (wd [(102, oX6 0 ts sp (dn : Int) kd (vn : Int) (rn : Int) rd rk rv rr ac), (104, ar 128 P), (107, ar 72 r)] h) o) → ∀ (n j : Nat) (w8 w9 : Value), j + n = rn → Rn 166 27 [.ref 102, .int (ii fo), .long (ll le), pd_dum, .int (ii (v : Int)), .long (ll (zs (fun k => zA r P dn k (v : Int) * zA r P dn k (v : Int)) j)), pd_dum, .int (ii (j : Int)), w8, w9] [] (wd [(102, oX6 0 ts sp (dn : Int) kd (vn : Int) (rn : Int) rd rk rv rr ac), (104, ar 128 P), (107, ar 72 r)] h) o := by
    intro v fo le o hv hr n
    induction n with
    | zero =>
      intro j w8 w9 hj
      obtain rfl : rn = j := by omega
      refine E_iload pf_166_27 rfl ?_
      refine E_aload pf_166_29 rfl ?_
      refine F_getf pf_166_30 rfl rfl rfl ?_
      refine E_icmp_ge_t pf_166_33 (by omega) ?_
      exact hr _ _
    | succ n ih =>
      intro j w8 w9 hj
      have ih := fun w8 w9 => ih (j + 1) w8 w9 (by omega)
      simp only [zs] at ih
      have hA := zA_le hp hP (k := (j : Int)) (by omega) (v : Int)
      refine E_iload pf_166_27 rfl ?_
      refine E_aload pf_166_29 rfl ?_
      refine F_getf pf_166_30 rfl rfl rfl ?_
      refine E_icmp_ge_f pf_166_33 (by omega) ?_
      refine E_aload pf_166_36 rfl ?_
      refine E_aload pf_166_37 rfl ?_
      refine F_getf pf_166_38 rfl rfl rfl ?_
      refine E_iload pf_166_41 rfl ?_
      refine E_iload pf_166_43 rfl ?_
      refine F_v4v0 pf_166_45 (c114n hp hP (by omega) (by omega)) (And.intro rfl (And.intro rfl (And.intro rfl (trivial)))) rfl rfl ?_
      refine E_i2l pf_166_48 (by omega) ?_
      refine E_lstore (lv' := [_, _, _, _, _, _, _, _, _, _]) pf_166_49 rfl rfl ?_
      refine E_lload pf_166_51 rfl ?_
      refine E_lload pf_166_53 rfl ?_
      refine E_lload pf_166_55 rfl ?_
      refine E_lmul pf_166_57 ?_
      refine E_ladd pf_166_58 ?_
      refine E_lstore (lv' := [_, _, _, _, _, _, _, _, _, _]) pf_166_59 rfl rfl ?_
      refine E_iinc (lv' := [_, _, _, _, _, _, _, _, _, _]) pf_166_61 rfl rfl ?_
      refine E_goto pf_166_64 ?_
      exact ih _ _
  have loop : ∀ (n u : Nat) (w5 w6 w7 w8 w9 : Value), u + 1 + n = vn → Rn 166 12 [.ref 102, .int (ii (zam (vM r P dn rn) u)), .long (ll ((vM r P dn rn) (zam (vM r P dn rn) u))), pd_dum, .int (ii ((u + 1 : Nat) : Int)), w5, w6, w7, w8, w9] [] (wd [(102, oX6 0 ts sp (dn : Int) kd (vn : Int) (rn : Int) rd rk rv rr ac), (104, ar 128 P), (107, ar 72 r)] h) (.inl (some (.int (ii (zam (vM r P dn rn) (vn - 1))))), wd [(102, oX6 0 ts sp (dn : Int) kd (vn : Int) (rn : Int) rd rk rv rr ac), (104, ar 128 P), (107, ar 72 r)] h) := by
    intro n
    induction n with
    | zero =>
      intro u w5 w6 w7 w8 w9 hu
      have e5 : vn - 1 = u := by omega
      rw [e5]
      refine E_iload pf_166_12 rfl ?_
      refine E_aload pf_166_14 rfl ?_
      refine F_getf pf_166_15 rfl rfl rfl ?_
      refine E_icmp_ge_t pf_166_18 (by omega) ?_
      refine E_iload pf_166_111 rfl ?_
      exact E_iret pf_166_112 rfl
    | succ n ih =>
      intro u w5 w6 w7 w8 w9 hu
      have ih := fun w5 w6 w7 w8 w9 => ih (u + 1) w5 w6 w7 w8 w9 (by omega)
      have g1 := vM_in hp hP ((u + 1 : Nat) : Int) rn (Nat.le_refl _)
      have g2 := vM_in hp hP (zam (vM r P dn rn) u) rn (Nat.le_refl _)
      change -4000000 ≤ (vM r P dn rn) ((u + 1 : Nat) : Int) ∧ (vM r P dn rn) ((u + 1 : Nat) : Int) ≤ 4000000 at g1
      change -4000000 ≤ (vM r P dn rn) (zam (vM r P dn rn) u) ∧ (vM r P dn rn) (zam (vM r P dn rn) u) ≤ 4000000 at g2
      by_cases g : (vM r P dn rn) ((u + 1 : Nat) : Int) < (vM r P dn rn) (zam (vM r P dn rn) u)
      · simp only [zam, if_pos g] at ih
        refine E_iload pf_166_12 rfl ?_
        refine E_aload pf_166_14 rfl ?_
        refine F_getf pf_166_15 rfl rfl rfl ?_
        refine E_icmp_ge_f pf_166_18 (by omega) ?_
        refine E_lconst pf_166_21 ?_
        refine E_lstore (lv' := [_, _, _, _, _, _, _, _, _, _]) pf_166_22 rfl rfl ?_
        refine E_iconst pf_166_24 ?_
        refine E_istore (lv' := [_, _, _, _, _, _, _, _, _, _]) pf_166_25 rfl rfl ?_
        refine inner (u + 1) _ _ _ (by omega) (fun w8 w9 => ?_) rn 0 _ _ (by omega)
        refine E_iload pf_166_67 rfl ?_
        refine E_if_eq_f pf_166_69 (by omega) ?_
        refine E_lload pf_166_72 rfl ?_
        refine E_lload pf_166_74 rfl ?_
        refine E_lcmp_ge_f pf_166_75 pf_166_76 (by omega) ?_
        refine E_iload pf_166_79 rfl ?_
        refine E_goto pf_166_81 ?_
        refine E_istore (lv' := [_, _, _, _, _, _, _, _, _, _]) pf_166_85 rfl rfl ?_
        refine E_iload pf_166_86 rfl ?_
        refine E_if_eq_f pf_166_88 (by omega) ?_
        refine E_lload pf_166_91 rfl ?_
        refine E_lload pf_166_93 rfl ?_
        refine E_lcmp_ge_f pf_166_94 pf_166_95 (by omega) ?_
        refine E_lload pf_166_98 rfl ?_
        refine E_goto pf_166_100 ?_
        refine E_lstore (lv' := [_, _, _, _, _, _, _, _, _, _]) pf_166_104 rfl rfl ?_
        refine E_iinc (lv' := [_, _, _, _, _, _, _, _, _, _]) pf_166_105 rfl rfl ?_
        refine E_goto pf_166_108 ?_
        exact ih _ _ _ _ _
      · simp only [zam, if_neg g] at ih
        refine E_iload pf_166_12 rfl ?_
        refine E_aload pf_166_14 rfl ?_
        refine F_getf pf_166_15 rfl rfl rfl ?_
        refine E_icmp_ge_f pf_166_18 (by omega) ?_
        refine E_lconst pf_166_21 ?_
        refine E_lstore (lv' := [_, _, _, _, _, _, _, _, _, _]) pf_166_22 rfl rfl ?_
        refine E_iconst pf_166_24 ?_
        refine E_istore (lv' := [_, _, _, _, _, _, _, _, _, _]) pf_166_25 rfl rfl ?_
        refine inner (u + 1) _ _ _ (by omega) (fun w8 w9 => ?_) rn 0 _ _ (by omega)
        refine E_iload pf_166_67 rfl ?_
        refine E_if_eq_f pf_166_69 (by omega) ?_
        refine E_lload pf_166_72 rfl ?_
        refine E_lload pf_166_74 rfl ?_
        refine E_lcmp_ge_t pf_166_75 pf_166_76 (by omega) ?_
        refine E_iload pf_166_84 rfl ?_
        refine E_istore (lv' := [_, _, _, _, _, _, _, _, _, _]) pf_166_85 rfl rfl ?_
        refine E_iload pf_166_86 rfl ?_
        refine E_if_eq_f pf_166_88 (by omega) ?_
        refine E_lload pf_166_91 rfl ?_
        refine E_lload pf_166_93 rfl ?_
        refine E_lcmp_ge_t pf_166_94 pf_166_95 (by omega) ?_
        refine E_lload pf_166_103 rfl ?_
        refine E_lstore (lv' := [_, _, _, _, _, _, _, _, _, _]) pf_166_104 rfl rfl ?_
        refine E_iinc (lv' := [_, _, _, _, _, _, _, _, _, _]) pf_166_105 rfl rfl ?_
        refine E_goto pf_166_108 ?_
        exact ih _ _ _ _ _
  refine E_in (lv := [_, _, _, _, _, _, _, _, _, _]) rfl ?_
  have l1 := loop (vn - 1) 0
  refine E_aload pf_166_0 rfl ?_
  refine E_iconst pf_166_1 ?_
  refine F_putf (l' := [(_, _), (_, _), (_, _)]) (x := ob _ [_, _, _, _, _, _, _, _, _, _, _, _, _, _, _, _, _, _, _, _, _, _, _, _, _]) pf_166_2 rfl rfl rfl rfl rfl ?_
  refine E_iconst pf_166_5 ?_
  refine E_istore (lv' := [_, _, _, _, _, _, _, _, _, _]) pf_166_6 rfl rfl ?_
  refine E_lconst pf_166_7 ?_
  refine E_lstore (lv' := [_, _, _, _, _, _, _, _, _, _]) pf_166_8 rfl rfl ?_
  refine E_iconst pf_166_9 ?_
  refine E_istore (lv' := [_, _, _, _, _, _, _, _, _, _]) pf_166_10 rfl rfl ?_
  refine E_iload pf_166_12 rfl ?_
  refine E_aload pf_166_14 rfl ?_
  refine F_getf pf_166_15 rfl rfl rfl ?_
  refine E_icmp_ge_f pf_166_18 (by omega) ?_
  refine E_lconst pf_166_21 ?_
  refine E_lstore (lv' := [_, _, _, _, _, _, _, _, _, _]) pf_166_22 rfl rfl ?_
  refine E_iconst pf_166_24 ?_
  refine E_istore (lv' := [_, _, _, _, _, _, _, _, _, _]) pf_166_25 rfl rfl ?_
  refine inner 0 0 0 _ (by omega) (fun w8 w9 => ?_) rn 0 _ _ (by omega)
  refine E_iload pf_166_67 rfl ?_
  refine E_if_eq_t pf_166_69 (by omega) ?_
  refine E_iload pf_166_79 rfl ?_
  refine E_goto pf_166_81 ?_
  refine E_istore (lv' := [_, _, _, _, _, _, _, _, _, _]) pf_166_85 rfl rfl ?_
  refine E_iload pf_166_86 rfl ?_
  refine E_if_eq_t pf_166_88 (by omega) ?_
  refine E_lload pf_166_98 rfl ?_
  refine E_goto pf_166_100 ?_
  refine E_lstore (lv' := [_, _, _, _, _, _, _, _, _, _]) pf_166_104 rfl rfl ?_
  refine E_iinc (lv' := [_, _, _, _, _, _, _, _, _, _]) pf_166_105 rfl rfl ?_
  refine E_goto pf_166_108 ?_
  exact l1 _ _ _ _ _ (by omega)
theorem gcd_half {p q : Nat} (hq : 0 < q) (hr : 0 < p % q) : 2 * (q % (p % q)) < q := by
  have h1 := Nat.mod_lt p hq
  have h2 := Nat.mod_lt q hr
  have h3 := Nat.div_add_mod q (p % q)
  have h4 : 1 ≤ q / (p % q) := (Nat.one_le_div_iff hr).mpr (Nat.le_of_lt h1)
  have h5 : (p % q) * 1 ≤ (p % q) * (q / (p % q)) := Nat.mul_le_mul_left _ h4
  omega
theorem gcd_st {p q : Nat} : Nat.gcd q (p % q) = Nat.gcd p q := by rw [Nat.gcd_comm p q, Nat.gcd_rec q p, Nat.gcd_comm]
theorem c99 {p0 q0 : Nat} (hp : p0 ≤ 4000000000000000000) (hq : q0 < 2 ^ 62) : ∀ h, Ca 99 [.long (ll (p0 : Int)), .long (ll (q0 : Int))] (wd [] h) (.inl (some (.long (ll ((Nat.gcd p0 q0 : Nat) : Int)))), wd [] h) := by
  intro h
  have loop : ∀ (k i p q : Nat) (w9 w10 : Value), q < 2 ^ k → p ≤ 4611686018427387904 → k ≤ 62 → i + 2 * k ≤ 200 → Rn 99 9 [.long (ll (p0 : Int)), pd_dum, .long (ll (q0 : Int)), pd_dum, .long (ll (p : Int)), pd_dum, .long (ll (q : Int)), pd_dum, .int (ii (i : Int)), w9, w10] [] (wd [] h) (.inl (some (.long (ll ((Nat.gcd p q : Nat) : Int)))), wd [] h) := by
    intro k
    induction k with
    | zero =>
      intro i p q w9 w10 h1 h2 h3 h4
      have e : q = 0 := by omega
      subst e
      rw [Nat.gcd_zero_right]
      refine E_iload pf_99_9 rfl ?_
      refine E_iconst pf_99_11 ?_
      refine E_icmp_ge_f pf_99_14 (by omega) ?_
      refine E_lload pf_99_17 rfl ?_
      refine E_lconst pf_99_19 ?_
      refine E_lcmp_eq_t pf_99_20 pf_99_21 (by omega) ?_
      refine E_lload pf_99_45 rfl ?_
      exact E_lret pf_99_47 rfl
    | succ k ih =>
      intro i p q w9 w10 h1 h2 h3 h4
      have h62 : 2 ^ (k + 1) ≤ 2 ^ 62 := Nat.pow_le_pow_right (by omega) h3
      by_cases e : q = 0
      · subst e
        rw [Nat.gcd_zero_right]
        refine E_iload pf_99_9 rfl ?_
        refine E_iconst pf_99_11 ?_
        refine E_icmp_ge_f pf_99_14 (by omega) ?_
        refine E_lload pf_99_17 rfl ?_
        refine E_lconst pf_99_19 ?_
        refine E_lcmp_eq_t pf_99_20 pf_99_21 (by omega) ?_
        refine E_lload pf_99_45 rfl ?_
        exact E_lret pf_99_47 rfl
      · have hm := Nat.mod_lt p (Nat.pos_of_ne_zero e)
        have em : (p : Int) % (q : Int) = ((p % q : Nat) : Int) := (Int.natCast_emod p q).symm
        by_cases e2 : p % q = 0
        · have eg : Nat.gcd p q = q := by rw [← gcd_st, e2, Nat.gcd_zero_right]
          rw [eg]
          rw [e2] at em
          refine E_iload pf_99_9 rfl ?_
          refine E_iconst pf_99_11 ?_
          refine E_icmp_ge_f pf_99_14 (by omega) ?_
          refine E_lload pf_99_17 rfl ?_
          refine E_lconst pf_99_19 ?_
          refine E_lcmp_eq_f pf_99_20 pf_99_21 (by omega) ?_
          refine E_lload pf_99_24 rfl ?_
          refine E_lload pf_99_26 rfl ?_
          refine E_lrem pf_99_28 (by omega) ?_
          rw [em]
          refine E_lstore (lv' := [_, _, _, _, _, _, _, _, _, _, _]) pf_99_29 rfl rfl ?_
          refine E_lload pf_99_31 rfl ?_
          refine E_lstore (lv' := [_, _, _, _, _, _, _, _, _, _, _]) pf_99_33 rfl rfl ?_
          refine E_lload pf_99_35 rfl ?_
          refine E_lstore (lv' := [_, _, _, _, _, _, _, _, _, _, _]) pf_99_37 rfl rfl ?_
          refine E_iinc (lv' := [_, _, _, _, _, _, _, _, _, _, _]) pf_99_39 rfl rfl ?_
          refine E_goto pf_99_42 ?_
          refine E_iload pf_99_9 rfl ?_
          refine E_iconst pf_99_11 ?_
          refine E_icmp_ge_f pf_99_14 (by omega) ?_
          refine E_lload pf_99_17 rfl ?_
          refine E_lconst pf_99_19 ?_
          refine E_lcmp_eq_t pf_99_20 pf_99_21 (by omega) ?_
          refine E_lload pf_99_45 rfl ?_
          exact E_lret pf_99_47 rfl
        · have hh := gcd_half (p := p) (q := q) (by omega) (by omega)
          have hm2 := Nat.mod_lt q (Nat.pos_of_ne_zero e2)
          have em2 : (q : Int) % ((p % q : Nat) : Int) = ((q % (p % q) : Nat) : Int) := (Int.natCast_emod q (p % q)).symm
          have eg : Nat.gcd (p % q) (q % (p % q)) = Nat.gcd p q := by rw [gcd_st, gcd_st]
          have ih := fun w9 w10 => ih (i + 2) (p % q) (q % (p % q)) w9 w10 (by rw [Nat.pow_succ] at h1; omega) (by omega) (by omega) (by omega)
          rw [eg] at ih
          refine E_iload pf_99_9 rfl ?_
          refine E_iconst pf_99_11 ?_
          refine E_icmp_ge_f pf_99_14 (by omega) ?_
          refine E_lload pf_99_17 rfl ?_
          refine E_lconst pf_99_19 ?_
          refine E_lcmp_eq_f pf_99_20 pf_99_21 (by omega) ?_
          refine E_lload pf_99_24 rfl ?_
          refine E_lload pf_99_26 rfl ?_
          refine E_lrem pf_99_28 (by omega) ?_
          rw [em]
          refine E_lstore (lv' := [_, _, _, _, _, _, _, _, _, _, _]) pf_99_29 rfl rfl ?_
          refine E_lload pf_99_31 rfl ?_
          refine E_lstore (lv' := [_, _, _, _, _, _, _, _, _, _, _]) pf_99_33 rfl rfl ?_
          refine E_lload pf_99_35 rfl ?_
          refine E_lstore (lv' := [_, _, _, _, _, _, _, _, _, _, _]) pf_99_37 rfl rfl ?_
          refine E_iinc (lv' := [_, _, _, _, _, _, _, _, _, _, _]) pf_99_39 rfl rfl ?_
          refine E_goto pf_99_42 ?_
          refine E_iload pf_99_9 rfl ?_
          refine E_iconst pf_99_11 ?_
          refine E_icmp_ge_f pf_99_14 (by omega) ?_
          refine E_lload pf_99_17 rfl ?_
          refine E_lconst pf_99_19 ?_
          refine E_lcmp_eq_f pf_99_20 pf_99_21 (by omega) ?_
          refine E_lload pf_99_24 rfl ?_
          refine E_lload pf_99_26 rfl ?_
          refine E_lrem pf_99_28 (by omega) ?_
          rw [em2]
          refine E_lstore (lv' := [_, _, _, _, _, _, _, _, _, _, _]) pf_99_29 rfl rfl ?_
          refine E_lload pf_99_31 rfl ?_
          refine E_lstore (lv' := [_, _, _, _, _, _, _, _, _, _, _]) pf_99_33 rfl rfl ?_
          refine E_lload pf_99_35 rfl ?_
          refine E_lstore (lv' := [_, _, _, _, _, _, _, _, _, _, _]) pf_99_37 rfl rfl ?_
          refine E_iinc (lv' := [_, _, _, _, _, _, _, _, _, _, _]) pf_99_39 rfl rfl ?_
          refine E_goto pf_99_42 ?_
          exact ih _ _
  refine E_in (lv := [_, _, _, _, _, _, _, _, _, _, _]) rfl ?_
  refine E_lload pf_99_0 rfl ?_
  refine E_lstore (lv' := [_, _, _, _, _, _, _, _, _, _, _]) pf_99_1 rfl rfl ?_
  refine E_lload pf_99_3 rfl ?_
  refine E_lstore (lv' := [_, _, _, _, _, _, _, _, _, _, _]) pf_99_4 rfl rfl ?_
  refine E_iconst pf_99_6 ?_
  refine E_istore (lv' := [_, _, _, _, _, _, _, _, _, _, _]) pf_99_7 rfl rfl ?_
  exact loop 62 0 p0 q0 _ _ hq (by omega) (by omega) (by omega)
theorem c167 {p0 q0 : Nat} (hp : p0 ≤ 4000000000000000000) (hq : q0 < 2 ^ 62) : ∀ h, Ca 167 [.long (ll (p0 : Int)), .long (ll (q0 : Int))] (wd [] h) (.inl (some (.long (ll ((Nat.gcd p0 q0 : Nat) : Int)))), wd [] h) := by
  intro h
  have loop : ∀ (k p q : Nat) (w9 w10 : Value), q ≤ k → q < 2 ^ 62 → p ≤ 4611686018427387904 → Rn 167 6 [.long (ll (p0 : Int)), pd_dum, .long (ll (q0 : Int)), pd_dum, .long (ll (p : Int)), pd_dum, .long (ll (q : Int)), pd_dum, w9, w10] [] (wd [] h) (.inl (some (.long (ll ((Nat.gcd p q : Nat) : Int)))), wd [] h) := by
    intro k
    induction k with
    | zero =>
      intro p q w9 w10 h1 h2 h3
      have e : q = 0 := by omega
      subst e
      rw [Nat.gcd_zero_right]
      refine E_lload pf_167_6 rfl ?_
      refine E_lconst pf_167_8 ?_
      refine E_lcmp_eq_t pf_167_9 pf_167_10 (by omega) ?_
      refine E_lload pf_167_31 rfl ?_
      exact E_lret pf_167_33 rfl
    | succ k ih =>
      intro p q w9 w10 h1 h2 h3
      by_cases e : q = 0
      · subst e
        rw [Nat.gcd_zero_right]
        refine E_lload pf_167_6 rfl ?_
        refine E_lconst pf_167_8 ?_
        refine E_lcmp_eq_t pf_167_9 pf_167_10 (by omega) ?_
        refine E_lload pf_167_31 rfl ?_
        exact E_lret pf_167_33 rfl
      · have hm := Nat.mod_lt p (Nat.pos_of_ne_zero e)
        have em : (p : Int) % (q : Int) = ((p % q : Nat) : Int) := (Int.natCast_emod p q).symm
        have ih := fun w9 w10 => ih q (p % q) w9 w10 (by omega) (by omega) (by omega)
        rw [gcd_st] at ih
        refine E_lload pf_167_6 rfl ?_
        refine E_lconst pf_167_8 ?_
        refine E_lcmp_eq_f pf_167_9 pf_167_10 (by omega) ?_
        refine E_lload pf_167_13 rfl ?_
        refine E_lload pf_167_15 rfl ?_
        refine E_lrem pf_167_17 (by omega) ?_
        rw [em]
        refine E_lstore (lv' := [_, _, _, _, _, _, _, _, _, _]) pf_167_18 rfl rfl ?_
        refine E_lload pf_167_20 rfl ?_
        refine E_lstore (lv' := [_, _, _, _, _, _, _, _, _, _]) pf_167_22 rfl rfl ?_
        refine E_lload pf_167_24 rfl ?_
        refine E_lstore (lv' := [_, _, _, _, _, _, _, _, _, _]) pf_167_26 rfl rfl ?_
        refine E_goto pf_167_28 ?_
        exact ih _ _
  refine E_in (lv := [_, _, _, _, _, _, _, _, _, _]) rfl ?_
  refine E_lload pf_167_0 rfl ?_
  refine E_lstore (lv' := [_, _, _, _, _, _, _, _, _, _]) pf_167_1 rfl rfl ?_
  refine E_lload pf_167_3 rfl ?_
  refine E_lstore (lv' := [_, _, _, _, _, _, _, _, _, _]) pf_167_4 rfl rfl ?_
  exact loop q0 p0 q0 _ _ (Nat.le_refl _) hq (by omega)
end ALO
