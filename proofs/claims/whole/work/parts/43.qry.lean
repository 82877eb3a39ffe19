/-! The readings, both sides. -/
def fcs (f : Int → Int) (b : Int) : Nat → Int32
  | 0 => ii 0
  | v + 1 => if f v = b then fcs f b v ||| (ii 1 <<< (ii (v : Int) &&& 31)) else fcs f b v
theorem fcs_congr {f g : Int → Int} {b c : Int} {n : Nat} (hb : b = c) (h : ∀ v : Nat, v < n → f v = g v) : fcs f b n = fcs g c n := by
  subst hb
  induction n with
  | zero => rfl
  | succ n ih => simp only [fcs]; rw [ih (fun v hv => h v (by omega)), h n (by omega)]
theorem ior0 (x : Int32) : x ||| ii 0 = x := Int32.or_zero
theorem zam_scale {f g : Int → Int} {n : Nat} {s : Int} (hs : 0 < s) : (∀ e : Nat, e ≤ n → f e = s * g e) → zam f n = zam g n := by
  intro h
  induction n with
  | zero => rfl
  | succ n ih =>
    have ih := ih fun e he => h e (by omega)
    have hi := zam_in g n
    have e1 := h (n + 1) (Nat.le_refl _)
    have e2 := h (zam g n).toNat (by omega)
    rw [show (((zam g n).toNat : Nat) : Int) = zam g n by omega] at e2
    simp only [zam]
    rw [ih, e2, e1]
    by_cases q : g ((n + 1 : Nat) : Int) < g (zam g n)
    · rw [if_pos q, if_pos (Int.mul_lt_mul_of_pos_left q hs)]
    · rw [if_neg q, if_neg (fun q2 => q (Int.lt_of_mul_lt_mul_left q2 (Int.le_of_lt hs)))]
theorem lxr0 {f g : Int → Int} : lxr f g 4 0 = 0 ↔ f 0 = g 0 ∧ f 1 = g 1 ∧ f 2 = g 2 ∧ f 3 = g 3 := by
  show (if f 0 = g 0 then (if f 1 = g 1 then (if f 2 = g 2 then (if f 3 = g 3 then 0 else if f 3 < g 3 then -1 else 1) else if f 2 < g 2 then -1 else 1) else if f 1 < g 1 then -1 else 1) else if f 0 < g 0 then -1 else 1) = 0 ↔ _
  by_cases e0 : f 0 = g 0
  · rw [if_pos e0]
    by_cases e1 : f 1 = g 1
    · rw [if_pos e1]
      by_cases e2 : f 2 = g 2
      · rw [if_pos e2]
        by_cases e3 : f 3 = g 3
        · rw [if_pos e3]; exact ⟨fun _ => ⟨e0, e1, e2, e3⟩, fun _ => rfl⟩
        · rw [if_neg e3]; exact ⟨fun q => by split at q <;> omega, fun q => absurd q.2.2.2 e3⟩
      · rw [if_neg e2]; exact ⟨fun q => by split at q <;> omega, fun q => absurd q.2.2.1 e2⟩
    · rw [if_neg e1]; exact ⟨fun q => by split at q <;> omega, fun q => absurd q.2.1 e1⟩
  · rw [if_neg e0]; exact ⟨fun q => by split at q <;> omega, fun q => absurd q.1 e0⟩
theorem lxr_in (f g : Int → Int) : ∀ (n : Nat) (j : Int), -1 ≤ lxr f g n j ∧ lxr f g n j ≤ 1
  | 0, _ => by show -1 ≤ 0 ∧ 0 ≤ 1; omega
  | n + 1, j => by
    have := lxr_in f g n (j + 1)
    simp only [lxr]
    split
    · exact this
    · split <;> omega
section QRY
variable {T C P R V U r q x rs sl wt : Int → Int} {rf ts tl sp d kd vs rw rd rk rv rr ac k st dr pu be : Int} {m dn rn vn n : Nat}
theorem c78 (hs : sok vn R V U m) (hP : ppk C dn vn rn) {j : Int} (hj : 0 ≤ j ∧ j < dn) : ∀ h, Ca 78 [.ref 1, .int (ii j)] (wd [(1, oPD tl), (13, oP (dn : Int) k (vn : Int)), (14, ar 96 C), (18, oD pu be), (19, ar 4 x), (20, ar 4 rs), (21, lr 4 sl), (24, oS24 (rn : Int) (m : Int) st dr), (25, ar 20 R), (26, ar 24 V), (27, ar 24 U)] h) (.inl (some (.int (ii (yX V U C m j)))), wd [(1, oPD tl), (13, oP (dn : Int) k (vn : Int)), (14, ar 96 C), (18, oD pu be), (19, ar 4 (zfill x (yX V U C m) 4)), (20, ar 4 (zfill rs (eR R V U C m) rn)), (21, lr 4 (zfill sl (eS R V U C m rn) 4)), (24, oS24 (rn : Int) (m : Int) st dr), (25, ar 20 R), (26, ar 24 V), (27, ar 24 U)] h) := by
  intro h
  have hp1 := hP.1
  have hp2 := hP.2.1
  have hp3 := hP.2.2.1
  refine E_in (lv := [_, _]) rfl ?_
  refine E_iload pf_78_0 rfl ?_
  refine E_aload pf_78_1 rfl ?_
  refine F_getf pf_78_2 rfl rfl rfl ?_
  refine F_getf pf_78_5 rfl rfl rfl ?_
  refine F_c2u0 pf_78_8 (c95 (by omega) (by omega)) (trivial) rfl ?_
  refine E_aload pf_78_11 rfl ?_
  refine F_getf pf_78_12 rfl rfl rfl ?_
  refine E_aload pf_78_15 rfl ?_
  refine F_getf pf_78_16 rfl rfl rfl ?_
  refine F_v2u (l' := [(_, _), (_, _), (_, _), (_, _), (_, _), (_, _), (_, _), (_, _), (_, _), (_, _), (_, _)]) pf_78_19 (c1sx hs hP) (And.intro rfl (And.intro rfl (And.intro rfl (And.intro rfl (And.intro rfl (And.intro rfl (And.intro rfl (And.intro rfl (And.intro rfl (And.intro rfl (trivial))))))))))) rfl rfl rfl rfl ?_
  refine E_aload pf_78_22 rfl ?_
  refine F_getf pf_78_23 rfl rfl rfl ?_
  refine F_getf pf_78_26 rfl rfl rfl ?_
  refine E_iload pf_78_29 rfl ?_
  refine F_iald pf_78_30 rfl (by omega) ?_
  rw [zfill_at (by omega)]
  exact E_iret pf_78_31 rfl
theorem c79 (hs : sok vn R V U m) (hP : ppk C dn vn rn) {j : Int} (hj : 0 ≤ j ∧ j < rn) : ∀ h, Ca 79 [.ref 1, .int (ii j)] (wd [(1, oPD tl), (13, oP (dn : Int) k (vn : Int)), (14, ar 96 C), (18, oD pu be), (19, ar 4 x), (20, ar 4 rs), (21, lr 4 sl), (24, oS24 (rn : Int) (m : Int) st dr), (25, ar 20 R), (26, ar 24 V), (27, ar 24 U)] h) (.inl (some (.int (ii (eR R V U C m j)))), wd [(1, oPD tl), (13, oP (dn : Int) k (vn : Int)), (14, ar 96 C), (18, oD pu be), (19, ar 4 (zfill x (yX V U C m) 4)), (20, ar 4 (zfill rs (eR R V U C m) rn)), (21, lr 4 (zfill sl (eS R V U C m rn) 4)), (24, oS24 (rn : Int) (m : Int) st dr), (25, ar 20 R), (26, ar 24 V), (27, ar 24 U)] h) := by
  intro h
  have hp1 := hP.1
  have hp2 := hP.2.1
  have hp3 := hP.2.2.1
  refine E_in (lv := [_, _]) rfl ?_
  refine E_iload pf_79_0 rfl ?_
  refine E_aload pf_79_1 rfl ?_
  refine F_getf pf_79_2 rfl rfl rfl ?_
  refine F_getf pf_79_5 rfl rfl rfl ?_
  refine F_c2u0 pf_79_8 (c95 (by omega) (by omega)) (trivial) rfl ?_
  refine E_aload pf_79_11 rfl ?_
  refine F_getf pf_79_12 rfl rfl rfl ?_
  refine E_aload pf_79_15 rfl ?_
  refine F_getf pf_79_16 rfl rfl rfl ?_
  refine F_v2u (l' := [(_, _), (_, _), (_, _), (_, _), (_, _), (_, _), (_, _), (_, _), (_, _), (_, _), (_, _)]) pf_79_19 (c1sx hs hP) (And.intro rfl (And.intro rfl (And.intro rfl (And.intro rfl (And.intro rfl (And.intro rfl (And.intro rfl (And.intro rfl (And.intro rfl (And.intro rfl (trivial))))))))))) rfl rfl rfl rfl ?_
  refine E_aload pf_79_22 rfl ?_
  refine F_getf pf_79_23 rfl rfl rfl ?_
  refine F_getf pf_79_26 rfl rfl rfl ?_
  refine E_iload pf_79_29 rfl ?_
  refine F_iald pf_79_30 rfl (by omega) ?_
  rw [zfill_at (by omega)]
  exact E_iret pf_79_31 rfl
theorem c78x {j : Int} (hi : (-2147483648 ≤ j ∧ j ≤ 2147483647)) (hd : dn ≤ 4) (hj : ¬ (0 ≤ j ∧ j < dn)) : ∀ h, Ca 78 [.ref 1, .int (ii j)] (wd [(1, oPD tl), (13, oP (dn : Int) k (vn : Int))] h) (.inr 2, pd_thr (wd [(1, oPD tl), (13, oP (dn : Int) k (vn : Int))] h)) := by
  intro h
  refine E_in (lv := [_, _]) rfl ?_
  refine E_iload pf_78_0 rfl ?_
  refine E_aload pf_78_1 rfl ?_
  refine F_getf pf_78_2 rfl rfl rfl ?_
  refine F_getf pf_78_5 rfl rfl rfl ?_
  exact E_c2x pf_78_8 rfl (c95x (by omega) (by omega) (by omega) _) rfl
theorem c79x {j : Int} (hi : (-2147483648 ≤ j ∧ j ≤ 2147483647)) (hd : rn ≤ 4) (hj : ¬ (0 ≤ j ∧ j < rn)) : ∀ h, Ca 79 [.ref 1, .int (ii j)] (wd [(1, oPD tl), (24, oS24 (rn : Int) (m : Int) st dr)] h) (.inr 2, pd_thr (wd [(1, oPD tl), (24, oS24 (rn : Int) (m : Int) st dr)] h)) := by
  intro h
  refine E_in (lv := [_, _]) rfl ?_
  refine E_iload pf_79_0 rfl ?_
  refine E_aload pf_79_1 rfl ?_
  refine F_getf pf_79_2 rfl rfl rfl ?_
  refine F_getf pf_79_5 rfl rfl rfl ?_
  exact E_c2x pf_79_8 rfl (c95x (by omega) (by omega) (by omega) _) rfl
theorem c80v (hs : sok vn R V U m) (hP : ppk C dn vn rn) {j : Int} (hj : 0 ≤ j ∧ j < vn) : ∀ h, Ca 80 [.ref 1, .int (ii j), .int (ii 1)] (wd [(1, oPD tl), (13, oP (dn : Int) k (vn : Int)), (14, ar 96 C), (18, oD pu be), (19, ar 4 x), (20, ar 4 rs), (21, lr 4 sl), (24, oS24 (rn : Int) (m : Int) st dr), (25, ar 20 R), (26, ar 24 V), (27, ar 24 U)] h) (.inl (some (.long (ll (eV R V U C m rn j)))), wd [(1, oPD tl), (13, oP (dn : Int) k (vn : Int)), (14, ar 96 C), (18, oD pu be), (19, ar 4 (zfill x (yX V U C m) 4)), (20, ar 4 (zfill rs (eR R V U C m) rn)), (21, lr 4 (zfill sl (eS R V U C m rn) 4)), (24, oS24 (rn : Int) (m : Int) st dr), (25, ar 20 R), (26, ar 24 V), (27, ar 24 U)] h) := by
  intro h
  have hp1 := hP.1
  have hp2 := hP.2.1
  have hp3 := hP.2.2.1
  refine E_in (lv := [_, _, _]) rfl ?_
  refine E_iload pf_80_0 rfl ?_
  refine E_iload pf_80_1 rfl ?_
  refine E_if_eq_f pf_80_2 (by omega) ?_
  refine E_aload pf_80_5 rfl ?_
  refine F_getf pf_80_6 rfl rfl rfl ?_
  refine F_getf pf_80_9 rfl rfl rfl ?_
  refine E_goto pf_80_12 ?_
  refine F_c2u0 pf_80_22 (c95 (by omega) (by omega)) (trivial) rfl ?_
  refine E_aload pf_80_25 rfl ?_
  refine F_getf pf_80_26 rfl rfl rfl ?_
  refine E_aload pf_80_29 rfl ?_
  refine F_getf pf_80_30 rfl rfl rfl ?_
  refine F_v2u (l' := [(_, _), (_, _), (_, _), (_, _), (_, _), (_, _), (_, _), (_, _), (_, _), (_, _), (_, _)]) pf_80_33 (c1sx hs hP) (And.intro rfl (And.intro rfl (And.intro rfl (And.intro rfl (And.intro rfl (And.intro rfl (And.intro rfl (And.intro rfl (And.intro rfl (And.intro rfl (trivial))))))))))) rfl rfl rfl rfl ?_
  refine E_iload pf_80_36 rfl ?_
  refine E_if_eq_f pf_80_37 (by omega) ?_
  refine E_aload pf_80_40 rfl ?_
  refine F_getf pf_80_41 rfl rfl rfl ?_
  refine E_iload pf_80_44 rfl ?_
  refine E_aload pf_80_45 rfl ?_
  refine F_getf pf_80_46 rfl rfl rfl ?_
  refine F_getf pf_80_49 rfl rfl rfl ?_
  refine F_v3v0 pf_80_52 (c38s hP.2.2.2 (by omega)) (And.intro rfl (And.intro rfl (And.intro rfl (trivial)))) rfl rfl ?_
  refine E_goto pf_80_55 ?_
  rw [yD_fill]
  exact E_lret pf_80_67 rfl
theorem c80c (hs : sok vn R V U m) (hP : ppk C dn vn rn) {j : Int} (hj : 0 ≤ j ∧ j < dn) : ∀ h, Ca 80 [.ref 1, .int (ii j), .int (ii 0)] (wd [(1, oPD tl), (13, oP (dn : Int) k (vn : Int)), (14, ar 96 C), (18, oD pu be), (19, ar 4 x), (20, ar 4 rs), (21, lr 4 sl), (24, oS24 (rn : Int) (m : Int) st dr), (25, ar 20 R), (26, ar 24 V), (27, ar 24 U)] h) (.inl (some (.long (ll (eS R V U C m rn j)))), wd [(1, oPD tl), (13, oP (dn : Int) k (vn : Int)), (14, ar 96 C), (18, oD pu be), (19, ar 4 (zfill x (yX V U C m) 4)), (20, ar 4 (zfill rs (eR R V U C m) rn)), (21, lr 4 (zfill sl (eS R V U C m rn) 4)), (24, oS24 (rn : Int) (m : Int) st dr), (25, ar 20 R), (26, ar 24 V), (27, ar 24 U)] h) := by
  intro h
  have hp1 := hP.1
  have hp2 := hP.2.1
  have hp3 := hP.2.2.1
  refine E_in (lv := [_, _, _]) rfl ?_
  refine E_iload pf_80_0 rfl ?_
  refine E_iload pf_80_1 rfl ?_
  refine E_if_eq_t pf_80_2 (by omega) ?_
  refine E_aload pf_80_15 rfl ?_
  refine F_getf pf_80_16 rfl rfl rfl ?_
  refine F_getf pf_80_19 rfl rfl rfl ?_
  refine F_c2u0 pf_80_22 (c95 (by omega) (by omega)) (trivial) rfl ?_
  refine E_aload pf_80_25 rfl ?_
  refine F_getf pf_80_26 rfl rfl rfl ?_
  refine E_aload pf_80_29 rfl ?_
  refine F_getf pf_80_30 rfl rfl rfl ?_
  refine F_v2u (l' := [(_, _), (_, _), (_, _), (_, _), (_, _), (_, _), (_, _), (_, _), (_, _), (_, _), (_, _)]) pf_80_33 (c1sx hs hP) (And.intro rfl (And.intro rfl (And.intro rfl (And.intro rfl (And.intro rfl (And.intro rfl (And.intro rfl (And.intro rfl (And.intro rfl (And.intro rfl (trivial))))))))))) rfl rfl rfl rfl ?_
  refine E_iload pf_80_36 rfl ?_
  refine E_if_eq_t pf_80_37 (by omega) ?_
  refine E_aload pf_80_58 rfl ?_
  refine F_getf pf_80_59 rfl rfl rfl ?_
  refine F_getf pf_80_62 rfl rfl rfl ?_
  refine E_iload pf_80_65 rfl ?_
  refine F_lald pf_80_66 rfl (by omega) ?_
  rw [zfill_at (by omega)]
  exact E_lret pf_80_67 rfl
theorem c80xv {j : Int} (hi : (-2147483648 ≤ j ∧ j ≤ 2147483647)) (hv : vn ≤ 24) (hj : ¬ (0 ≤ j ∧ j < vn)) : ∀ h, Ca 80 [.ref 1, .int (ii j), .int (ii 1)] (wd [(1, oPD tl), (13, oP (dn : Int) k (vn : Int))] h) (.inr 2, pd_thr (wd [(1, oPD tl), (13, oP (dn : Int) k (vn : Int))] h)) := by
  intro h
  refine E_in (lv := [_, _, _]) rfl ?_
  refine E_iload pf_80_0 rfl ?_
  refine E_iload pf_80_1 rfl ?_
  refine E_if_eq_f pf_80_2 (by omega) ?_
  refine E_aload pf_80_5 rfl ?_
  refine F_getf pf_80_6 rfl rfl rfl ?_
  refine F_getf pf_80_9 rfl rfl rfl ?_
  refine E_goto pf_80_12 ?_
  exact E_c2x pf_80_22 rfl (c95x (by omega) (by omega) (by omega) _) rfl
theorem c80xc {j : Int} (hi : (-2147483648 ≤ j ∧ j ≤ 2147483647)) (hv : dn ≤ 4) (hj : ¬ (0 ≤ j ∧ j < dn)) : ∀ h, Ca 80 [.ref 1, .int (ii j), .int (ii 0)] (wd [(1, oPD tl), (13, oP (dn : Int) k (vn : Int))] h) (.inr 2, pd_thr (wd [(1, oPD tl), (13, oP (dn : Int) k (vn : Int))] h)) := by
  intro h
  refine E_in (lv := [_, _, _]) rfl ?_
  refine E_iload pf_80_0 rfl ?_
  refine E_iload pf_80_1 rfl ?_
  refine E_if_eq_t pf_80_2 (by omega) ?_
  refine E_aload pf_80_15 rfl ?_
  refine F_getf pf_80_16 rfl rfl rfl ?_
  refine F_getf pf_80_19 rfl rfl rfl ?_
  exact E_c2x pf_80_22 rfl (c95x (by omega) (by omega) (by omega) _) rfl
theorem c81 (hs : sok vn R V U m) (hP : ppk C dn vn rn) : ∀ h, Ca 81 [.ref 1] (wd [(1, oPD tl), (13, oP (dn : Int) k (vn : Int)), (14, ar 96 C), (18, oD pu be), (19, ar 4 x), (20, ar 4 rs), (21, lr 4 sl), (24, oS24 (rn : Int) (m : Int) st dr), (25, ar 20 R), (26, ar 24 V), (27, ar 24 U)] h) (.inl (some (.long (ll (eVal R V U C m rn)))), wd [(1, oPD tl), (13, oP (dn : Int) k (vn : Int)), (14, ar 96 C), (18, oD pu be), (19, ar 4 (zfill x (yX V U C m) 4)), (20, ar 4 (zfill rs (eR R V U C m) rn)), (21, lr 4 (zfill sl (eS R V U C m rn) 4)), (24, oS24 (rn : Int) (m : Int) st dr), (25, ar 20 R), (26, ar 24 V), (27, ar 24 U)] h) := by
  intro h
  refine E_in (lv := [_]) rfl ?_
  refine E_aload pf_81_0 rfl ?_
  refine F_getf pf_81_1 rfl rfl rfl ?_
  refine E_aload pf_81_4 rfl ?_
  refine F_getf pf_81_5 rfl rfl rfl ?_
  refine F_v2v (l' := [(_, _), (_, _), (_, _), (_, _), (_, _), (_, _), (_, _), (_, _), (_, _), (_, _), (_, _)]) pf_81_8 (c4s hs hP) (And.intro rfl (And.intro rfl (And.intro rfl (And.intro rfl (And.intro rfl (And.intro rfl (And.intro rfl (And.intro rfl (And.intro rfl (And.intro rfl (trivial))))))))))) rfl rfl rfl rfl ?_
  exact E_lret pf_81_11 rfl
theorem c82 (hs : sok vn R V U m) (hP : ppk C dn vn rn) : ∀ h, Ca 82 [.ref 1] (wd [(1, oPD tl), (13, oP (dn : Int) k (vn : Int)), (14, ar 96 C), (18, oD pu be), (19, ar 4 x), (20, ar 4 rs), (21, lr 4 sl), (24, oS24 (rn : Int) (m : Int) st dr), (25, ar 20 R), (26, ar 24 V), (27, ar 24 U)] h) (.inl (some (.long (ll (eGap R V U C m rn vn)))), wd [(1, oPD tl), (13, oP (dn : Int) k (vn : Int)), (14, ar 96 C), (18, oD pu be), (19, ar 4 (zfill x (yX V U C m) 4)), (20, ar 4 (zfill rs (eR R V U C m) rn)), (21, lr 4 (zfill sl (eS R V U C m rn) 4)), (24, oS24 (rn : Int) (m : Int) st dr), (25, ar 20 R), (26, ar 24 V), (27, ar 24 U)] h) := by
  intro h
  refine E_in (lv := [_]) rfl ?_
  refine E_aload pf_82_0 rfl ?_
  refine F_getf pf_82_1 rfl rfl rfl ?_
  refine E_aload pf_82_4 rfl ?_
  refine F_getf pf_82_5 rfl rfl rfl ?_
  refine F_v2v (l' := [(_, _), (_, _), (_, _), (_, _), (_, _), (_, _), (_, _), (_, _), (_, _), (_, _), (_, _)]) pf_82_8 (c7s hs hP) (And.intro rfl (And.intro rfl (And.intro rfl (And.intro rfl (And.intro rfl (And.intro rfl (And.intro rfl (And.intro rfl (And.intro rfl (And.intro rfl (trivial))))))))))) rfl rfl rfl rfl ?_
  exact E_lret pf_82_11 rfl
theorem c83 (hs : sok vn R V U m) (hP : ppk C dn vn rn) : ∀ h, Ca 83 [.ref 1] (wd [(1, oPD tl), (13, oP (dn : Int) k (vn : Int)), (14, ar 96 C), (18, oD pu be), (19, ar 4 x), (20, ar 4 rs), (21, lr 4 sl), (24, oS24 (rn : Int) (m : Int) st dr), (25, ar 20 R), (26, ar 24 V), (27, ar 24 U)] h) (.inl (some (.int (ii (eBest R V U C m rn vn)))), wd [(1, oPD tl), (13, oP (dn : Int) k (vn : Int)), (14, ar 96 C), (18, oD pu be), (19, ar 4 (zfill x (yX V U C m) 4)), (20, ar 4 (zfill rs (eR R V U C m) rn)), (21, lr 4 (zfill sl (eS R V U C m rn) 4)), (24, oS24 (rn : Int) (m : Int) st dr), (25, ar 20 R), (26, ar 24 V), (27, ar 24 U)] h) := by
  intro h
  refine E_in (lv := [_]) rfl ?_
  refine E_aload pf_83_0 rfl ?_
  refine F_getf pf_83_1 rfl rfl rfl ?_
  refine E_aload pf_83_4 rfl ?_
  refine F_getf pf_83_5 rfl rfl rfl ?_
  refine F_v2v (l' := [(_, _), (_, _), (_, _), (_, _), (_, _), (_, _), (_, _), (_, _), (_, _), (_, _), (_, _)]) pf_83_8 (c8s hs hP) (And.intro rfl (And.intro rfl (And.intro rfl (And.intro rfl (And.intro rfl (And.intro rfl (And.intro rfl (And.intro rfl (And.intro rfl (And.intro rfl (trivial))))))))))) rfl rfl rfl rfl ?_
  exact E_iret pf_83_11 rfl
theorem sl_in (hs : sok vn R V U m) (hP : ppk C dn vn rn) : ∀ j : Int, 0 ≤ j → j < 4 → -1000000000 ≤ zfill sl (eS R V U C m rn) 4 j ∧ zfill sl (eS R V U C m rn) 4 j ≤ 1000000000 := fun j h1 h2 => by
  rw [zfill_at (by omega)]
  have := eS_le hs hP (j := j) ⟨h1, h2⟩
  omega
theorem c84 (hs : sok vn R V U m) (hP : ppk C dn vn rn) : ∀ h, Ca 84 [.ref 1] (wd [(1, oPD tl), (13, oP (dn : Int) k (vn : Int)), (14, ar 96 C), (18, oD pu be), (19, ar 4 x), (20, ar 4 rs), (21, lr 4 sl), (24, oS24 (rn : Int) (m : Int) st dr), (25, ar 20 R), (26, ar 24 V), (27, ar 24 U)] h) (.inl (some (.int (ii (eWorst R V U C m rn)))), wd [(1, oPD tl), (13, oP (dn : Int) k (vn : Int)), (14, ar 96 C), (18, oD pu be), (19, ar 4 (zfill x (yX V U C m) 4)), (20, ar 4 (zfill rs (eR R V U C m) rn)), (21, lr 4 (zfill sl (eS R V U C m rn) 4)), (24, oS24 (rn : Int) (m : Int) st dr), (25, ar 20 R), (26, ar 24 V), (27, ar 24 U)] h) := by
  intro h
  refine E_in (lv := [_]) rfl ?_
  refine E_aload pf_84_0 rfl ?_
  refine F_getf pf_84_1 rfl rfl rfl ?_
  refine E_aload pf_84_4 rfl ?_
  refine F_getf pf_84_5 rfl rfl rfl ?_
  refine F_v2u (l' := [(_, _), (_, _), (_, _), (_, _), (_, _), (_, _), (_, _), (_, _), (_, _), (_, _), (_, _)]) pf_84_8 (c1sx hs hP) (And.intro rfl (And.intro rfl (And.intro rfl (And.intro rfl (And.intro rfl (And.intro rfl (And.intro rfl (And.intro rfl (And.intro rfl (And.intro rfl (trivial))))))))))) rfl rfl rfl rfl ?_
  refine E_aload pf_84_11 rfl ?_
  refine F_getf pf_84_12 rfl rfl rfl ?_
  refine E_aload pf_84_15 rfl ?_
  refine F_getf pf_84_16 rfl rfl rfl ?_
  refine F_v2v0 pf_84_19 (c9s hs hP (sl_in hs hP)) (And.intro rfl (And.intro rfl (And.intro rfl (And.intro rfl (And.intro rfl (And.intro rfl (trivial))))))) rfl rfl ?_
  rw [yD_fill]
  exact E_iret pf_84_22 rfl
theorem c85 (hs : sok vn R V U m) (hP : ppk C dn vn rn) : ∀ h, Ca 85 [.ref 1] (wd [(1, oPD tl), (13, oP (dn : Int) k (vn : Int)), (14, ar 96 C), (18, oD pu be), (19, ar 4 x), (20, ar 4 rs), (21, lr 4 sl), (24, oS24 (rn : Int) (m : Int) st dr), (25, ar 20 R), (26, ar 24 V), (27, ar 24 U)] h) (.inl (some (.int (fcs (eV R V U C m rn) (eV R V U C m rn (eBest R V U C m rn vn)) vn))), wd [(1, oPD tl), (13, oP (dn : Int) k (vn : Int)), (14, ar 96 C), (18, oD pu be), (19, ar 4 (zfill x (yX V U C m) 4)), (20, ar 4 (zfill rs (eR R V U C m) rn)), (21, lr 4 (zfill sl (eS R V U C m rn) 4)), (24, oS24 (rn : Int) (m : Int) st dr), (25, ar 20 R), (26, ar 24 V), (27, ar 24 U)] h) := by
  intro h
  have hp1 := hP.1
  have hp2 := hP.2.1
  have hp3 := hP.2.2.1
  have hb := eBest_in (R := R) (V := V) (U := U) (m := m) hP
  have loop : ∀ (n v : Nat), v + n = vn → Rn 85 34 [.ref 1, .int (ii (eBest R V U C m rn vn)), .long (ll (eV R V U C m rn (eBest R V U C m rn vn))), pd_dum, .int (fcs (eV R V U C m rn) (eV R V U C m rn (eBest R V U C m rn vn)) v), .int (ii (v : Int))] [] (wd [(1, oPD tl), (13, oP (dn : Int) k (vn : Int)), (14, ar 96 C), (18, oD pu be), (19, ar 4 (zfill x (yX V U C m) 4)), (20, ar 4 (zfill rs (eR R V U C m) rn)), (21, lr 4 (zfill sl (eS R V U C m rn) 4)), (24, oS24 (rn : Int) (m : Int) st dr), (25, ar 20 R), (26, ar 24 V), (27, ar 24 U)] h) (.inl (some (.int (fcs (eV R V U C m rn) (eV R V U C m rn (eBest R V U C m rn vn)) vn))), wd [(1, oPD tl), (13, oP (dn : Int) k (vn : Int)), (14, ar 96 C), (18, oD pu be), (19, ar 4 (zfill x (yX V U C m) 4)), (20, ar 4 (zfill rs (eR R V U C m) rn)), (21, lr 4 (zfill sl (eS R V U C m rn) 4)), (24, oS24 (rn : Int) (m : Int) st dr), (25, ar 20 R), (26, ar 24 V), (27, ar 24 U)] h) := by
    intro n
    induction n with
    | zero =>
      intro v hv
      obtain rfl : vn = v := by omega
      refine E_iload pf_85_34 rfl ?_
      refine E_aload pf_85_36 rfl ?_
      refine F_getf pf_85_37 rfl rfl rfl ?_
      refine F_getf pf_85_40 rfl rfl rfl ?_
      refine E_icmp_ge_t pf_85_43 (by omega) ?_
      refine E_iload pf_85_82 rfl ?_
      exact E_iret pf_85_84 rfl
    | succ n ih =>
      intro v hv
      have ih := ih (v + 1) (by omega)
      have hv1 := eV_le hs hP (v : Int)
      have hv2 := eV_le hs hP (eBest R V U C m rn vn)
      by_cases e : eV R V U C m rn (v : Int) = (eV R V U C m rn (eBest R V U C m rn vn))
      · simp only [fcs, if_pos e] at ih
        refine E_iload pf_85_34 rfl ?_
        refine E_aload pf_85_36 rfl ?_
        refine F_getf pf_85_37 rfl rfl rfl ?_
        refine F_getf pf_85_40 rfl rfl rfl ?_
        refine E_icmp_ge_f pf_85_43 (by omega) ?_
        refine E_aload pf_85_46 rfl ?_
        refine F_getf pf_85_47 rfl rfl rfl ?_
        refine E_iload pf_85_50 rfl ?_
        refine E_aload pf_85_52 rfl ?_
        refine F_getf pf_85_53 rfl rfl rfl ?_
        refine F_getf pf_85_56 rfl rfl rfl ?_
        refine F_v3v0 pf_85_59 (c38s hP.2.2.2 (by omega)) (And.intro rfl (And.intro rfl (And.intro rfl (trivial)))) rfl rfl ?_
        rw [yD_fill]
        change Rn _ _ _ (.long (ll (eV R V U C m rn (v : Int))) :: _) _ _
        refine E_lload pf_85_62 rfl ?_
        refine E_lcmp_ne_f pf_85_63 pf_85_64 (by omega) ?_
        refine E_iload pf_85_67 rfl ?_
        refine E_iconst pf_85_69 ?_
        refine E_iload pf_85_70 rfl ?_
        refine E_ishl pf_85_72 ?_
        refine E_ior pf_85_73 ?_
        refine E_istore (lv' := [_, _, _, _, _, _]) pf_85_74 rfl rfl ?_
        refine E_iinc (lv' := [_, _, _, _, _, _]) pf_85_76 rfl rfl ?_
        refine E_goto pf_85_79 ?_
        exact ih
      · simp only [fcs, if_neg e] at ih
        refine E_iload pf_85_34 rfl ?_
        refine E_aload pf_85_36 rfl ?_
        refine F_getf pf_85_37 rfl rfl rfl ?_
        refine F_getf pf_85_40 rfl rfl rfl ?_
        refine E_icmp_ge_f pf_85_43 (by omega) ?_
        refine E_aload pf_85_46 rfl ?_
        refine F_getf pf_85_47 rfl rfl rfl ?_
        refine E_iload pf_85_50 rfl ?_
        refine E_aload pf_85_52 rfl ?_
        refine F_getf pf_85_53 rfl rfl rfl ?_
        refine F_getf pf_85_56 rfl rfl rfl ?_
        refine F_v3v0 pf_85_59 (c38s hP.2.2.2 (by omega)) (And.intro rfl (And.intro rfl (And.intro rfl (trivial)))) rfl rfl ?_
        rw [yD_fill]
        change Rn _ _ _ (.long (ll (eV R V U C m rn (v : Int))) :: _) _ _
        refine E_lload pf_85_62 rfl ?_
        refine E_lcmp_ne_t pf_85_63 pf_85_64 (by omega) ?_
        refine E_iinc (lv' := [_, _, _, _, _, _]) pf_85_76 rfl rfl ?_
        refine E_goto pf_85_79 ?_
        exact ih
  refine E_in (lv := [_, _, _, _, _, _]) rfl ?_
  refine E_aload pf_85_0 rfl ?_
  refine F_getf pf_85_1 rfl rfl rfl ?_
  refine E_aload pf_85_4 rfl ?_
  refine F_getf pf_85_5 rfl rfl rfl ?_
  refine F_v2v (l' := [(_, _), (_, _), (_, _), (_, _), (_, _), (_, _), (_, _), (_, _), (_, _), (_, _), (_, _)]) pf_85_8 (c8s hs hP) (And.intro rfl (And.intro rfl (And.intro rfl (And.intro rfl (And.intro rfl (And.intro rfl (And.intro rfl (And.intro rfl (And.intro rfl (And.intro rfl (trivial))))))))))) rfl rfl rfl rfl ?_
  refine E_istore (lv' := [_, _, _, _, _, _]) pf_85_11 rfl rfl ?_
  refine E_aload pf_85_12 rfl ?_
  refine F_getf pf_85_13 rfl rfl rfl ?_
  refine E_iload pf_85_16 rfl ?_
  refine E_aload pf_85_17 rfl ?_
  refine F_getf pf_85_18 rfl rfl rfl ?_
  refine F_getf pf_85_21 rfl rfl rfl ?_
  refine F_v3v0 pf_85_24 (c38s hP.2.2.2 (by omega)) (And.intro rfl (And.intro rfl (And.intro rfl (trivial)))) rfl rfl ?_
  rw [yD_fill]
  change Rn _ _ _ (.long (ll (eV R V U C m rn (eBest R V U C m rn vn))) :: _) _ _
  refine E_lstore (lv' := [_, _, _, _, _, _]) pf_85_27 rfl rfl ?_
  refine E_iconst pf_85_28 ?_
  refine E_istore (lv' := [_, _, _, _, _, _]) pf_85_29 rfl rfl ?_
  refine E_iconst pf_85_31 ?_
  refine E_istore (lv' := [_, _, _, _, _, _]) pf_85_32 rfl rfl ?_
  exact loop vn 0 (by omega)
theorem c157 (hp : pgk (vn : Int) r m) (hP : ppk P dn vn rn) {j : Int} (hj : 0 ≤ j ∧ j < dn) : ∀ h, Ca 157 [.ref 102, .int (ii j)] (wd [(102, oX6 rf ts sp (dn : Int) kd (vn : Int) (rn : Int) rd rk rv rr ac), (104, ar 128 P), (107, ar 72 r)] h) (.inl (some (.int (ii (zX r P m j)))), wd [(102, oX6 0 ts sp (dn : Int) kd (vn : Int) (rn : Int) rd rk rv rr ac), (104, ar 128 P), (107, ar 72 r)] h) := by
  intro h
  have hp1 := hP.1
  have hp2 := hP.2.1
  have hp3 := hP.2.2.1
  refine E_in (lv := [_, _]) rfl ?_
  refine E_aload pf_157_0 rfl ?_
  refine E_iload pf_157_1 rfl ?_
  refine E_i2l pf_157_2 (by omega) ?_
  refine E_lconst pf_157_3 ?_
  refine E_aload pf_157_4 rfl ?_
  refine F_getf pf_157_5 rfl rfl rfl ?_
  refine E_iconst pf_157_8 ?_
  refine E_isub pf_157_9 ?_
  refine E_i2l pf_157_10 (by omega) ?_
  refine F_c3v0 pf_157_11 (c109t (by omega) (by omega)) (trivial) rfl ?_
  refine E_if_eq_f pf_157_14 (by omega) ?_
  refine E_iconst pf_157_17 ?_
  refine E_goto pf_157_18 ?_
  refine F_v2v (l' := [(_, _), (_, _), (_, _)]) pf_157_22 (c108_0) (And.intro rfl (trivial)) rfl rfl rfl rfl ?_
  refine E_if_eq_t pf_157_25 (by omega) ?_
  refine E_aload pf_157_32 rfl ?_
  refine E_aload pf_157_33 rfl ?_
  refine F_getf pf_157_34 rfl rfl rfl ?_
  refine E_iload pf_157_37 rfl ?_
  refine F_v3v0 pf_157_38 (c112n hp (by omega) (by omega)) (And.intro rfl (And.intro rfl (And.intro rfl (trivial)))) rfl rfl ?_
  exact E_iret pf_157_41 rfl
theorem c157x {j : Int} (hi : (-2147483648 ≤ j ∧ j ≤ 2147483647)) (hd : dn ≤ 4) (hj : ¬ (0 ≤ j ∧ j < dn)) : ∀ h, Ca 157 [.ref 102, .int (ii j)] (wd [(102, oX6 rf ts sp (dn : Int) kd (vn : Int) (rn : Int) rd rk rv rr ac)] h) (.inl (some (.int (ii 0))), wd [(102, oX6 1 ts sp (dn : Int) kd (vn : Int) (rn : Int) rd rk rv rr ac)] h) := by
  intro h
  refine E_in (lv := [_, _]) rfl ?_
  refine E_aload pf_157_0 rfl ?_
  refine E_iload pf_157_1 rfl ?_
  refine E_i2l pf_157_2 (by omega) ?_
  refine E_lconst pf_157_3 ?_
  refine E_aload pf_157_4 rfl ?_
  refine F_getf pf_157_5 rfl rfl rfl ?_
  refine E_iconst pf_157_8 ?_
  refine E_isub pf_157_9 ?_
  refine E_i2l pf_157_10 (by omega) ?_
  refine F_c3v0 pf_157_11 (c109f (by omega) (by omega)) (trivial) rfl ?_
  refine E_if_eq_t pf_157_14 (by omega) ?_
  refine E_iconst pf_157_21 ?_
  refine F_v2v (l' := [(_, _)]) pf_157_22 (c108_1) (And.intro rfl (trivial)) rfl rfl rfl rfl ?_
  refine E_if_eq_f pf_157_25 (by omega) ?_
  refine E_iconst pf_157_28 ?_
  refine E_goto pf_157_29 ?_
  exact E_iret pf_157_41 rfl
theorem c158 (hp : pgk (vn : Int) r m) (hP : ppk P dn vn rn) {j : Int} (hj : 0 ≤ j ∧ j < rn) : ∀ h, Ca 158 [.ref 102, .int (ii j)] (wd [(102, oX6 rf ts sp (dn : Int) kd (vn : Int) (rn : Int) rd rk rv rr ac), (104, ar 128 P), (107, ar 72 r)] h) (.inl (some (.int (ii (zR r P m dn j)))), wd [(102, oX6 0 ts sp (dn : Int) kd (vn : Int) (rn : Int) rd rk rv rr ac), (104, ar 128 P), (107, ar 72 r)] h) := by
  intro h
  have hp1 := hP.1
  have hp2 := hP.2.1
  have hp3 := hP.2.2.1
  refine E_in (lv := [_, _]) rfl ?_
  refine E_aload pf_158_0 rfl ?_
  refine E_iload pf_158_1 rfl ?_
  refine E_i2l pf_158_2 (by omega) ?_
  refine E_lconst pf_158_3 ?_
  refine E_aload pf_158_4 rfl ?_
  refine F_getf pf_158_5 rfl rfl rfl ?_
  refine E_iconst pf_158_8 ?_
  refine E_isub pf_158_9 ?_
  refine E_i2l pf_158_10 (by omega) ?_
  refine F_c3v0 pf_158_11 (c109t (by omega) (by omega)) (trivial) rfl ?_
  refine E_if_eq_f pf_158_14 (by omega) ?_
  refine E_iconst pf_158_17 ?_
  refine E_goto pf_158_18 ?_
  refine F_v2v (l' := [(_, _), (_, _), (_, _)]) pf_158_22 (c108_0) (And.intro rfl (trivial)) rfl rfl rfl rfl ?_
  refine E_if_eq_t pf_158_25 (by omega) ?_
  refine E_aload pf_158_32 rfl ?_
  refine E_aload pf_158_33 rfl ?_
  refine F_getf pf_158_34 rfl rfl rfl ?_
  refine E_iload pf_158_37 rfl ?_
  refine F_v3v0 pf_158_38 (c113n hp hP rfl (by omega) (by omega)) (And.intro rfl (And.intro rfl (And.intro rfl (trivial)))) rfl rfl ?_
  exact E_iret pf_158_41 rfl
theorem c158x {j : Int} (hi : (-2147483648 ≤ j ∧ j ≤ 2147483647)) (hd : rn ≤ 4) (hj : ¬ (0 ≤ j ∧ j < rn)) : ∀ h, Ca 158 [.ref 102, .int (ii j)] (wd [(102, oX6 rf ts sp (dn : Int) kd (vn : Int) (rn : Int) rd rk rv rr ac)] h) (.inl (some (.int (ii 0))), wd [(102, oX6 1 ts sp (dn : Int) kd (vn : Int) (rn : Int) rd rk rv rr ac)] h) := by
  intro h
  refine E_in (lv := [_, _]) rfl ?_
  refine E_aload pf_158_0 rfl ?_
  refine E_iload pf_158_1 rfl ?_
  refine E_i2l pf_158_2 (by omega) ?_
  refine E_lconst pf_158_3 ?_
  refine E_aload pf_158_4 rfl ?_
  refine F_getf pf_158_5 rfl rfl rfl ?_
  refine E_iconst pf_158_8 ?_
  refine E_isub pf_158_9 ?_
  refine E_i2l pf_158_10 (by omega) ?_
  refine F_c3v0 pf_158_11 (c109f (by omega) (by omega)) (trivial) rfl ?_
  refine E_if_eq_t pf_158_14 (by omega) ?_
  refine E_iconst pf_158_21 ?_
  refine F_v2v (l' := [(_, _)]) pf_158_22 (c108_1) (And.intro rfl (trivial)) rfl rfl rfl rfl ?_
  refine E_if_eq_f pf_158_25 (by omega) ?_
  refine E_iconst pf_158_28 ?_
  refine E_goto pf_158_29 ?_
  exact E_iret pf_158_41 rfl
theorem c159v (hp : pgk (vn : Int) r m) (hP : ppk P dn vn rn) {j : Int} (hj : 0 ≤ j ∧ j < vn) : ∀ h, Ca 159 [.ref 102, .int (ii j), .int (ii 1)] (wd [(102, oX6 rf ts sp (dn : Int) kd (vn : Int) (rn : Int) rd rk rv rr ac), (104, ar 128 P), (107, ar 72 r)] h) (.inl (some (.long (ll (zSv r P m dn rn j)))), wd [(102, oX6 0 ts sp (dn : Int) kd (vn : Int) (rn : Int) rd rk rv rr ac), (104, ar 128 P), (107, ar 72 r)] h) := by
  intro h
  have hp1 := hP.1
  have hp2 := hP.2.1
  have hp3 := hP.2.2.1
  refine E_in (lv := [_, _, _]) rfl ?_
  refine E_aload pf_159_0 rfl ?_
  refine E_iload pf_159_1 rfl ?_
  refine E_if_eq_f pf_159_2 (by omega) ?_
  refine E_aload pf_159_5 rfl ?_
  refine E_iload pf_159_6 rfl ?_
  refine F_v2v0 pf_159_7 (c111t (by omega) (by omega)) (And.intro rfl (trivial)) rfl rfl ?_
  refine E_if_eq_f pf_159_10 (by omega) ?_
  refine E_iconst pf_159_13 ?_
  refine E_goto pf_159_14 ?_
  refine F_v2v (l' := [(_, _), (_, _), (_, _)]) pf_159_42 (c108_0) (And.intro rfl (trivial)) rfl rfl rfl rfl ?_
  refine E_if_eq_t pf_159_45 (by omega) ?_
  refine E_iload pf_159_50 rfl ?_
  refine E_if_eq_f pf_159_51 (by omega) ?_
  refine E_aload pf_159_54 rfl ?_
  refine E_aload pf_159_55 rfl ?_
  refine F_getf pf_159_56 rfl rfl rfl ?_
  refine E_iload pf_159_59 rfl ?_
  refine F_v3v0 pf_159_60 (c117n hp hP (by omega)) (And.intro rfl (And.intro rfl (And.intro rfl (trivial)))) rfl rfl ?_
  refine E_goto pf_159_63 ?_
  exact E_lret pf_159_75 rfl
theorem c159c (hp : pgk (vn : Int) r m) (hP : ppk P dn vn rn) {j : Int} (hj : 0 ≤ j ∧ j < dn) : ∀ h, Ca 159 [.ref 102, .int (ii j), .int (ii 0)] (wd [(102, oX6 rf ts sp (dn : Int) kd (vn : Int) (rn : Int) rd rk rv rr ac), (104, ar 128 P), (107, ar 72 r)] h) (.inl (some (.long (ll (zSl r P m dn rn j)))), wd [(102, oX6 0 ts sp (dn : Int) kd (vn : Int) (rn : Int) rd rk rv rr ac), (104, ar 128 P), (107, ar 72 r)] h) := by
  intro h
  have hp1 := hP.1
  have hp2 := hP.2.1
  have hp3 := hP.2.2.1
  refine E_in (lv := [_, _, _]) rfl ?_
  refine E_aload pf_159_0 rfl ?_
  refine E_iload pf_159_1 rfl ?_
  refine E_if_eq_t pf_159_2 (by omega) ?_
  refine E_iload pf_159_21 rfl ?_
  refine E_i2l pf_159_22 (by omega) ?_
  refine E_lconst pf_159_23 ?_
  refine E_aload pf_159_24 rfl ?_
  refine F_getf pf_159_25 rfl rfl rfl ?_
  refine E_iconst pf_159_28 ?_
  refine E_isub pf_159_29 ?_
  refine E_i2l pf_159_30 (by omega) ?_
  refine F_c3v0 pf_159_31 (c109t (by omega) (by omega)) (trivial) rfl ?_
  refine E_if_eq_f pf_159_34 (by omega) ?_
  refine E_iconst pf_159_37 ?_
  refine E_goto pf_159_38 ?_
  refine F_v2v (l' := [(_, _), (_, _), (_, _)]) pf_159_42 (c108_0) (And.intro rfl (trivial)) rfl rfl rfl rfl ?_
  refine E_if_eq_t pf_159_45 (by omega) ?_
  refine E_iload pf_159_50 rfl ?_
  refine E_if_eq_t pf_159_51 (by omega) ?_
  refine E_aload pf_159_66 rfl ?_
  refine E_aload pf_159_67 rfl ?_
  refine F_getf pf_159_68 rfl rfl rfl ?_
  refine E_iload pf_159_71 rfl ?_
  refine F_v3v0 pf_159_72 (c116n hp hP (by omega)) (And.intro rfl (And.intro rfl (And.intro rfl (trivial)))) rfl rfl ?_
  exact E_lret pf_159_75 rfl
theorem c159xv {j : Int} (hi : (-2147483648 ≤ j ∧ j ≤ 2147483647)) (hv : vn ≤ 24) (hj : ¬ (0 ≤ j ∧ j < vn)) : ∀ h, Ca 159 [.ref 102, .int (ii j), .int (ii 1)] (wd [(102, oX6 rf ts sp (dn : Int) kd (vn : Int) (rn : Int) rd rk rv rr ac)] h) (.inl (some (.long (ll 0))), wd [(102, oX6 1 ts sp (dn : Int) kd (vn : Int) (rn : Int) rd rk rv rr ac)] h) := by
  intro h
  refine E_in (lv := [_, _, _]) rfl ?_
  refine E_aload pf_159_0 rfl ?_
  refine E_iload pf_159_1 rfl ?_
  refine E_if_eq_f pf_159_2 (by omega) ?_
  refine E_aload pf_159_5 rfl ?_
  refine E_iload pf_159_6 rfl ?_
  refine F_v2v0 pf_159_7 (c111f (by omega) (by omega) (by omega)) (And.intro rfl (trivial)) rfl rfl ?_
  refine E_if_eq_t pf_159_10 (by omega) ?_
  refine E_iconst pf_159_17 ?_
  refine E_goto pf_159_18 ?_
  refine F_v2v (l' := [(_, _)]) pf_159_42 (c108_1) (And.intro rfl (trivial)) rfl rfl rfl rfl ?_
  refine E_if_eq_f pf_159_45 (by omega) ?_
  refine E_lconst pf_159_48 ?_
  exact E_lret pf_159_49 rfl
theorem c159xc {j : Int} (hi : (-2147483648 ≤ j ∧ j ≤ 2147483647)) (hv : dn ≤ 4) (hj : ¬ (0 ≤ j ∧ j < dn)) : ∀ h, Ca 159 [.ref 102, .int (ii j), .int (ii 0)] (wd [(102, oX6 rf ts sp (dn : Int) kd (vn : Int) (rn : Int) rd rk rv rr ac)] h) (.inl (some (.long (ll 0))), wd [(102, oX6 1 ts sp (dn : Int) kd (vn : Int) (rn : Int) rd rk rv rr ac)] h) := by
  intro h
  refine E_in (lv := [_, _, _]) rfl ?_
  refine E_aload pf_159_0 rfl ?_
  refine E_iload pf_159_1 rfl ?_
  refine E_if_eq_t pf_159_2 (by omega) ?_
  refine E_iload pf_159_21 rfl ?_
  refine E_i2l pf_159_22 (by omega) ?_
  refine E_lconst pf_159_23 ?_
  refine E_aload pf_159_24 rfl ?_
  refine F_getf pf_159_25 rfl rfl rfl ?_
  refine E_iconst pf_159_28 ?_
  refine E_isub pf_159_29 ?_
  refine E_i2l pf_159_30 (by omega) ?_
  refine F_c3v0 pf_159_31 (c109f (by omega) (by omega)) (trivial) rfl ?_
  refine E_if_eq_t pf_159_34 (by omega) ?_
  refine E_iconst pf_159_41 ?_
  refine F_v2v (l' := [(_, _)]) pf_159_42 (c108_1) (And.intro rfl (trivial)) rfl rfl rfl rfl ?_
  refine E_if_eq_f pf_159_45 (by omega) ?_
  refine E_lconst pf_159_48 ?_
  exact E_lret pf_159_49 rfl
theorem c160 (hp : pgk (vn : Int) r m) (hP : ppk P dn vn rn) : ∀ h, Ca 160 [.ref 102] (wd [(102, oX6 rf ts sp (dn : Int) kd (vn : Int) (rn : Int) rd rk rv rr ac), (104, ar 128 P), (107, ar 72 r)] h) (.inl (some (.long (ll (zV r P m dn rn)))), wd [(102, oX6 0 ts sp (dn : Int) kd (vn : Int) (rn : Int) rd rk rv rr ac), (104, ar 128 P), (107, ar 72 r)] h) := by
  intro h
  refine E_in (lv := [_]) rfl ?_
  refine E_aload pf_160_0 rfl ?_
  refine E_iconst pf_160_1 ?_
  refine F_putf (l' := [(_, _), (_, _), (_, _)]) (x := ob _ [_, _, _, _, _, _, _, _, _, _, _, _, _, _, _, _, _, _, _, _, _, _, _, _, _]) pf_160_2 rfl rfl rfl rfl rfl ?_
  refine E_aload pf_160_5 rfl ?_
  refine E_aload pf_160_6 rfl ?_
  refine F_getf pf_160_7 rfl rfl rfl ?_
  refine F_v2v0 pf_160_10 (c115n hp hP) (And.intro rfl (And.intro rfl (And.intro rfl (trivial)))) rfl rfl ?_
  exact E_lret pf_160_13 rfl
theorem c161 (hp : pgk (vn : Int) r m) (hP : ppk P dn vn rn) : ∀ h, Ca 161 [.ref 102] (wd [(102, oX6 rf ts sp (dn : Int) kd (vn : Int) (rn : Int) rd rk rv rr ac), (104, ar 128 P), (107, ar 72 r)] h) (.inl (some (.long (ll (zGap r P m dn rn vn)))), wd [(102, oX6 0 ts sp (dn : Int) kd (vn : Int) (rn : Int) rd rk rv rr ac), (104, ar 128 P), (107, ar 72 r)] h) := by
  intro h
  refine E_in (lv := [_]) rfl ?_
  refine E_aload pf_161_0 rfl ?_
  refine E_iconst pf_161_1 ?_
  refine F_putf (l' := [(_, _), (_, _), (_, _)]) (x := ob _ [_, _, _, _, _, _, _, _, _, _, _, _, _, _, _, _, _, _, _, _, _, _, _, _, _]) pf_161_2 rfl rfl rfl rfl rfl ?_
  refine E_aload pf_161_5 rfl ?_
  refine E_aload pf_161_6 rfl ?_
  refine F_getf pf_161_7 rfl rfl rfl ?_
  refine F_v2v0 pf_161_10 (c120n hp hP) (And.intro rfl (And.intro rfl (And.intro rfl (trivial)))) rfl rfl ?_
  exact E_lret pf_161_13 rfl
theorem c162 (hp : pgk (vn : Int) r m) (hP : ppk P dn vn rn) : ∀ h, Ca 162 [.ref 102] (wd [(102, oX6 rf ts sp (dn : Int) kd (vn : Int) (rn : Int) rd rk rv rr ac), (104, ar 128 P), (107, ar 72 r)] h) (.inl (some (.int (ii (zBest r P m dn rn vn)))), wd [(102, oX6 0 ts sp (dn : Int) kd (vn : Int) (rn : Int) rd rk rv rr ac), (104, ar 128 P), (107, ar 72 r)] h) := by
  intro h
  refine E_in (lv := [_]) rfl ?_
  refine E_aload pf_162_0 rfl ?_
  refine E_iconst pf_162_1 ?_
  refine F_putf (l' := [(_, _), (_, _), (_, _)]) (x := ob _ [_, _, _, _, _, _, _, _, _, _, _, _, _, _, _, _, _, _, _, _, _, _, _, _, _]) pf_162_2 rfl rfl rfl rfl rfl ?_
  refine E_aload pf_162_5 rfl ?_
  refine E_aload pf_162_6 rfl ?_
  refine F_getf pf_162_7 rfl rfl rfl ?_
  refine F_v2v0 pf_162_10 (c118n hp hP) (And.intro rfl (And.intro rfl (And.intro rfl (trivial)))) rfl rfl ?_
  exact E_iret pf_162_13 rfl
theorem c163 (hp : pgk (vn : Int) r m) (hP : ppk P dn vn rn) : ∀ h, Ca 163 [.ref 102] (wd [(102, oX6 rf ts sp (dn : Int) kd (vn : Int) (rn : Int) rd rk rv rr ac), (104, ar 128 P), (107, ar 72 r)] h) (.inl (some (.int (ii (zWorst r P m dn rn)))), wd [(102, oX6 0 ts sp (dn : Int) kd (vn : Int) (rn : Int) rd rk rv rr ac), (104, ar 128 P), (107, ar 72 r)] h) := by
  intro h
  refine E_in (lv := [_]) rfl ?_
  refine E_aload pf_163_0 rfl ?_
  refine E_iconst pf_163_1 ?_
  refine F_putf (l' := [(_, _), (_, _), (_, _)]) (x := ob _ [_, _, _, _, _, _, _, _, _, _, _, _, _, _, _, _, _, _, _, _, _, _, _, _, _]) pf_163_2 rfl rfl rfl rfl rfl ?_
  refine E_aload pf_163_5 rfl ?_
  refine E_aload pf_163_6 rfl ?_
  refine F_getf pf_163_7 rfl rfl rfl ?_
  refine F_v2v0 pf_163_10 (c119n hp hP) (And.intro rfl (And.intro rfl (And.intro rfl (trivial)))) rfl rfl ?_
  exact E_iret pf_163_13 rfl
theorem c164 (hp : pgk (vn : Int) r m) (hP : ppk P dn vn rn) : ∀ h, Ca 164 [.ref 102] (wd [(102, oX6 rf ts sp (dn : Int) kd (vn : Int) (rn : Int) rd rk rv rr ac), (104, ar 128 P), (107, ar 72 r)] h) (.inl (some (.int (fcs (zSv r P m dn rn) (zSv r P m dn rn (zBest r P m dn rn vn)) vn))), wd [(102, oX6 0 ts sp (dn : Int) kd (vn : Int) (rn : Int) rd rk rv rr ac), (104, ar 128 P), (107, ar 72 r)] h) := by
  intro h
  have hp1 := hP.1
  have hp2 := hP.2.1
  have hp3 := hP.2.2.1
  have hb := zBest_in (r := r) (m := m) hP
  have loop : ∀ (n v : Nat), v + n = vn → Rn 164 27 [.ref 102, .long (ll (zSv r P m dn rn (zBest r P m dn rn vn))), pd_dum, .int (fcs (zSv r P m dn rn) (zSv r P m dn rn (zBest r P m dn rn vn)) v), .int (ii (v : Int))] [] (wd [(102, oX6 0 ts sp (dn : Int) kd (vn : Int) (rn : Int) rd rk rv rr ac), (104, ar 128 P), (107, ar 72 r)] h) (.inl (some (.int (fcs (zSv r P m dn rn) (zSv r P m dn rn (zBest r P m dn rn vn)) vn))), wd [(102, oX6 0 ts sp (dn : Int) kd (vn : Int) (rn : Int) rd rk rv rr ac), (104, ar 128 P), (107, ar 72 r)] h) := by
    intro n
    induction n with
    | zero =>
      intro v hv
      obtain rfl : vn = v := by omega
      refine E_iload pf_164_27 rfl ?_
      refine E_aload pf_164_29 rfl ?_
      refine F_getf pf_164_30 rfl rfl rfl ?_
      refine E_icmp_ge_t pf_164_33 (by omega) ?_
      refine E_iload pf_164_68 rfl ?_
      exact E_iret pf_164_69 rfl
    | succ n ih =>
      intro v hv
      have ih := ih (v + 1) (by omega)
      have hv1 := zSv_le hp hP (v : Int)
      have hv2 := zSv_le hp hP (zBest r P m dn rn vn)
      by_cases e : zSv r P m dn rn (v : Int) = (zSv r P m dn rn (zBest r P m dn rn vn))
      · simp only [fcs, if_pos e] at ih
        refine E_iload pf_164_27 rfl ?_
        refine E_aload pf_164_29 rfl ?_
        refine F_getf pf_164_30 rfl rfl rfl ?_
        refine E_icmp_ge_f pf_164_33 (by omega) ?_
        refine E_iload pf_164_36 rfl ?_
        refine E_aload pf_164_37 rfl ?_
        refine E_aload pf_164_38 rfl ?_
        refine F_getf pf_164_39 rfl rfl rfl ?_
        refine E_iload pf_164_42 rfl ?_
        refine F_v3v0 pf_164_44 (c117n hp hP (by omega)) (And.intro rfl (And.intro rfl (And.intro rfl (trivial)))) rfl rfl ?_
        refine E_lload pf_164_47 rfl ?_
        refine E_lcmp_ne_f pf_164_48 pf_164_49 (by omega) ?_
        refine E_iconst pf_164_52 ?_
        refine E_iload pf_164_53 rfl ?_
        refine E_ishl pf_164_55 ?_
        refine E_goto pf_164_56 ?_
        refine E_ior pf_164_60 ?_
        refine E_istore (lv' := [_, _, _, _, _]) pf_164_61 rfl rfl ?_
        refine E_iinc (lv' := [_, _, _, _, _]) pf_164_62 rfl rfl ?_
        refine E_goto pf_164_65 ?_
        exact ih
      · simp only [fcs, if_neg e] at ih
        refine E_iload pf_164_27 rfl ?_
        refine E_aload pf_164_29 rfl ?_
        refine F_getf pf_164_30 rfl rfl rfl ?_
        refine E_icmp_ge_f pf_164_33 (by omega) ?_
        refine E_iload pf_164_36 rfl ?_
        refine E_aload pf_164_37 rfl ?_
        refine E_aload pf_164_38 rfl ?_
        refine F_getf pf_164_39 rfl rfl rfl ?_
        refine E_iload pf_164_42 rfl ?_
        refine F_v3v0 pf_164_44 (c117n hp hP (by omega)) (And.intro rfl (And.intro rfl (And.intro rfl (trivial)))) rfl rfl ?_
        refine E_lload pf_164_47 rfl ?_
        refine E_lcmp_ne_t pf_164_48 pf_164_49 (by omega) ?_
        refine E_iconst pf_164_59 ?_
        refine E_ior pf_164_60 ?_
        rw [ior0]
        refine E_istore (lv' := [_, _, _, _, _]) pf_164_61 rfl rfl ?_
        refine E_iinc (lv' := [_, _, _, _, _]) pf_164_62 rfl rfl ?_
        refine E_goto pf_164_65 ?_
        exact ih
  refine E_in (lv := [_, _, _, _, _]) rfl ?_
  refine E_aload pf_164_0 rfl ?_
  refine E_iconst pf_164_1 ?_
  refine F_putf (l' := [(_, _), (_, _), (_, _)]) (x := ob _ [_, _, _, _, _, _, _, _, _, _, _, _, _, _, _, _, _, _, _, _, _, _, _, _, _]) pf_164_2 rfl rfl rfl rfl rfl ?_
  refine E_aload pf_164_5 rfl ?_
  refine E_aload pf_164_6 rfl ?_
  refine F_getf pf_164_7 rfl rfl rfl ?_
  refine E_aload pf_164_10 rfl ?_
  refine E_aload pf_164_11 rfl ?_
  refine F_getf pf_164_12 rfl rfl rfl ?_
  refine F_v2v0 pf_164_15 (c118n hp hP) (And.intro rfl (And.intro rfl (And.intro rfl (trivial)))) rfl rfl ?_
  refine F_v3v0 pf_164_18 (c117n hp hP (by omega)) (And.intro rfl (And.intro rfl (And.intro rfl (trivial)))) rfl rfl ?_
  refine E_lstore (lv' := [_, _, _, _, _]) pf_164_21 rfl rfl ?_
  refine E_iconst pf_164_22 ?_
  refine E_istore (lv' := [_, _, _, _, _]) pf_164_23 rfl rfl ?_
  refine E_iconst pf_164_24 ?_
  refine E_istore (lv' := [_, _, _, _, _]) pf_164_25 rfl rfl ?_
  exact loop vn 0 (by omega)
end QRY
