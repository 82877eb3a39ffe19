/-! The constructors. -/
theorem wd_2 (l : pd_L) (k k' : Nat × Nat × Nat) (f : Nat → pd_E) : (wd l (k, f)).2 = (wd l (k', f)).2 := by
  induction l with
  | nil => rfl
  | cons q l ih =>
    show (fun j => if j = q.1 then q.2 else (wd l (k, f)).2 j) = (fun j => if j = q.1 then q.2 else (wd l (k', f)).2 j)
    rw [ih]
theorem wd_new (l : pd_L) (k : Nat × Nat × Nat) (f : Nat → pd_E) (n : Nat) (c : pd_E) : pd_new (wd l (k, f)) n c = wd ((k.2.2 + 1, c) :: l) ((k.1 + 1, k.2.1 + n, k.2.2 + 1), f) := by
  refine Prod.ext ?_ ?_
  · show ((wd l (k, f)).1.1 + 1, (wd l (k, f)).1.2.1 + n, (wd l (k, f)).1.2.2 + 1) = (wd l (_, f)).1
    rw [wd_1, wd_1]
  · show (fun j => if j = (wd l (k, f)).1.2.2 + 1 then c else (wd l (k, f)).2 j) = (fun j => if j = k.2.2 + 1 then c else (wd l (_, f)).2 j)
    rw [wd_1, wd_2 l k]
abbrev rz (n : Nat) (g : Nat → Option Nat) : pd_E := .inl (3, n, .inr (.inr (.inr (.inr g))))
section NEW
variable {mi pc np a s a' s' : Nat} {lv st : List Value} {h : pd_H} {f : Nat → pd_E} {l : pd_L} {r : pd_Out × pd_H}
theorem P_new {ci : Nat} {x : pd_E} (g : pd_fetch mi pc = some (.new ci, np)) (hop : pd_op (.new ci) = 0) (hci : Nat.blt ci 7 = true) (ha : a + 1 = a') (hs : s + pd_fn ci = s') (hx : ob ci ((List.range (pd_fn ci)).map (fun k => pd_def (pd_ty ci k))) = x) (k : Rn mi np lv (.ref a' :: st) (wd ((a', x) :: l) ((a', s', a'), f)) r) : Rn mi pc lv st (wd l ((a, s, a), f)) r := by
  subst ha; subst hs; subst hx
  refine E_s g hop ?_ k
  have h7 : ci < 7 := Nat.le_of_ble_eq_true hci
  simp only [pd_stp]
  rw [wd_new, wd_1, if_neg (by simp; omega)]
  rfl
theorem P_nI {n : Int} {nn : Nat} (g : pd_fetch mi pc = some (.newarray .int, np)) (hn : n = (nn : Int)) (h2 : Nat.ble nn 10000 = true) (ha : a + 1 = a') (hs : s + nn = s') (k : Rn mi np lv (.ref a' :: st) (wd ((a', ar nn (fun _ => 0)) :: l) ((a', s', a'), f)) r) : Rn mi pc lv (.int (ii n) :: st) (wd l ((a, s, a), f)) r := by
  subst ha; subst hs; subst hn
  have h3 : nn ≤ 10000 := Nat.le_of_ble_eq_true h2
  have hc : (ii (nn : Int)).toNatClampNeg = nn := by rw [ii_clamp (by omega)]; omega
  have hl : ¬ ii (nn : Int) < 0 := by
    intro q
    have := (ii_lt (a := (nn : Int)) (b := 0) (by omega) (by omega)).mp q
    omega
  refine E_s g rfl ?_ k
  simp only [pd_stp, hc, wd_1]
  rw [if_neg (by simp [hl]; omega)]
  show some (np, lv, Value.ref (a + 1) :: st, pd_new (wd l ((a, s, a), f)) nn (ar nn (fun _ => 0))) = _
  rw [wd_new]
theorem P_nL {n : Int} {nn : Nat} (g : pd_fetch mi pc = some (.newarray .long, np)) (hn : n = (nn : Int)) (h2 : Nat.ble nn 10000 = true) (ha : a + 1 = a') (hs : s + nn = s') (k : Rn mi np lv (.ref a' :: st) (wd ((a', lr nn (fun _ => 0)) :: l) ((a', s', a'), f)) r) : Rn mi pc lv (.int (ii n) :: st) (wd l ((a, s, a), f)) r := by
  subst ha; subst hs; subst hn
  have h3 : nn ≤ 10000 := Nat.le_of_ble_eq_true h2
  have hc : (ii (nn : Int)).toNatClampNeg = nn := by rw [ii_clamp (by omega)]; omega
  have hl : ¬ ii (nn : Int) < 0 := by
    intro q
    have := (ii_lt (a := (nn : Int)) (b := 0) (by omega) (by omega)).mp q
    omega
  refine E_s g rfl ?_ k
  simp only [pd_stp, hc, wd_1]
  rw [if_neg (by simp [hl]; omega)]
  show some (np, lv, Value.ref (a + 1) :: st, pd_new (wd l ((a, s, a), f)) nn (lr nn (fun _ => 0))) = _
  rw [wd_new]
theorem P_nB {n : Int} {nn : Nat} (g : pd_fetch mi pc = some (.newarray .boolean, np)) (hn : n = (nn : Int)) (h2 : Nat.ble nn 10000 = true) (ha : a + 1 = a') (hs : s + nn = s') (k : Rn mi np lv (.ref a' :: st) (wd ((a', br nn (fun _ => 0)) :: l) ((a', s', a'), f)) r) : Rn mi pc lv (.int (ii n) :: st) (wd l ((a, s, a), f)) r := by
  subst ha; subst hs; subst hn
  have h3 : nn ≤ 10000 := Nat.le_of_ble_eq_true h2
  have hc : (ii (nn : Int)).toNatClampNeg = nn := by rw [ii_clamp (by omega)]; omega
  have hl : ¬ ii (nn : Int) < 0 := by
    intro q
    have := (ii_lt (a := (nn : Int)) (b := 0) (by omega) (by omega)).mp q
    omega
  refine E_s g rfl ?_ k
  simp only [pd_stp, hc, wd_1]
  rw [if_neg (by simp [hl]; omega)]
  show some (np, lv, Value.ref (a + 1) :: st, pd_new (wd l ((a, s, a), f)) nn (br nn (fun _ => 0))) = _
  rw [wd_new]
theorem P_nR {n : Int} {nn c : Nat} (g : pd_fetch mi pc = some (.anewarray c, np)) (hn : n = (nn : Int)) (h2 : Nat.ble nn 10000 = true) (ha : a + 1 = a') (hs : s + nn = s') (k : Rn mi np lv (.ref a' :: st) (wd ((a', rz nn (fun _ => none)) :: l) ((a', s', a'), f)) r) : Rn mi pc lv (.int (ii n) :: st) (wd l ((a, s, a), f)) r := by
  subst ha; subst hs; subst hn
  have h3 : nn ≤ 10000 := Nat.le_of_ble_eq_true h2
  have hc : (ii (nn : Int)).toNatClampNeg = nn := by rw [ii_clamp (by omega)]; omega
  have hl : ¬ ii (nn : Int) < 0 := by
    intro q
    have := (ii_lt (a := (nn : Int)) (b := 0) (by omega) (by omega)).mp q
    omega
  refine E_s g rfl ?_ k
  simp only [pd_stp, hc, wd_1]
  rw [if_neg (by simp [hl]; omega), wd_new]
theorem P_aast {i : Int} {j ar0 n q : Nat} {g : Nat → Option Nat} {fs : List Value} (ft : pd_fetch mi pc = some (.aastore, np)) (hg : wl l ar0 = some (rz n g)) (hq : wl l q = some (ob 4 fs)) (hi : i = (j : Int)) (hj : Nat.blt j n = true) (hj2 : Nat.ble j 10000 = true) (k : Rn mi np lv st (wd ((ar0, rz n (va_up g j (some q))) :: l) h) r) : Rn mi pc lv (.ref q :: .int (ii i) :: .ref ar0 :: st) (wd l h) r := by
  subst hi
  have h1 : j < n := Nat.le_of_ble_eq_true hj
  have h2 : j ≤ 10000 := Nat.le_of_ble_eq_true hj2
  have hc : (ii (j : Int)).toNatClampNeg = j := by rw [ii_clamp (by omega)]; omega
  have hn := ii_nin (i := (j : Int)) (n := n) (by omega)
  rw [hc] at hn
  refine E_s ft rfl ?_ k
  simp only [pd_stp, wd_at hg, wd_at hq, rz, ob, pd_ast, hc]
  rw [if_neg hn]
  rfl
theorem P_oi {q : Nat} (g : pd_fetch mi pc = some (.invokespecial 1000, np)) (hx : Nat.ble (pd_cat st) 8 = true) (k : Rn mi np lv st h r) : Rn mi pc lv (.ref q :: st) h r := by
  refine E_s g rfl ?_ k
  simp only [pd_stp]
  rw [if_pos (Nat.le_of_ble_eq_true hx)]
theorem P_putf {b c ci : Nat} {fs : List Value} {x : pd_E} {v : Value} (g : pd_fetch mi pc = some (.putfield c, np)) (hg : wl l b = some (ob ci fs)) (hc : ci = c / 100) (hx : (Nat.blt (c % 100) fs.length && (Nat.blt (c % 100) (pd_fn ci) && pd_fit (pd_ty ci (c % 100)) v)) = true) (hv : ob ci (fs.set (c % 100) v) = x) (k : Rn mi np lv st (wd ((b, x) :: l) h) r) : Rn mi pc lv (v :: .ref b :: st) (wd l h) r := by
  subst hv
  exact E_putf g (wd_at hg) hc hx rfl k
theorem P_iast {i x : Int} {b n : Nat} {q : Int → Int} (g : pd_fetch mi pc = some (.iastore, np)) (hg : wl l b = some (ar n q)) (e : 0 ≤ i ∧ i < n ∧ i ≤ 2147483647) (k : Rn mi np lv st (wd ((b, ar n (zu q i x)) :: l) h) r) : Rn mi pc lv (.int (ii x) :: .int (ii i) :: .ref b :: st) (wd l h) r := E_iast g (wd_at hg) e k
theorem Ca_nw {c : Nat} {as : List Value} {lc lc' l : pd_L} {v : pd_Out} {k k' : Nat × Nat × Nat} (hc : ∀ f, Ca c as (wd lc (k, f)) (v, wd lc' (k', f))) (hs : wsub l lc) (f : Nat → pd_E) : Ca c as (wd l (k, f)) (v, wd (lc' ++ l) (k', f)) := by
  have q := hc (wd l (k, f)).2
  have e1 : (k, (wd l (k, f)).2) = wd l (k, f) := Prod.ext (wd_1 l (k, f)).symm rfl
  have e2 : (k', (wd l (k, f)).2) = wd l (k', f) := Prod.ext (wd_1 l (k', f)).symm (wd_2 l k k' f)
  rw [e1, e2, wd_same hs, ← wd_app] at q
  exact q
theorem Ca_ps {c : Nat} {as : List Value} {lc lc' l : pd_L} {v : pd_Out} (hc : ∀ h, Ca c as (wd lc h) (v, wd lc' h)) (hs : wsub l lc) (h : pd_H) : Ca c as (wd l h) (v, wd (lc' ++ l) h) := by
  have q := hc (wd l h)
  rw [wd_same hs, ← wd_app] at q
  exact q
end NEW
section NEW2
variable {s : Nat}
theorem wd_eq {l l' : pd_L} {k : Nat × Nat × Nat} {f : Nat → pd_E} (h1 : wsub l l') (h2 : wad l' l = true) : wd l (k, f) = wd l' (k, f) := by
  have e : wd l' (wd l (k, f)) = wd l (k, f) := wd_same h1
  rw [← e]
  refine pd_ext ?_ fun a => ?_
  · rw [wd_1, wd_1, wd_1]
  · rw [wd_get, wd_get, wd_get]
    cases hl : wl l' a with
    | none => rw [wad_at h2 hl]; rfl
    | some x => rfl
set_option maxRecDepth 100000 in
set_option maxHeartbeats 4000000 in
theorem n51_9 : ∀ f, Ca 51 [.ref 9] (wd [(9, ob 4 [.int (ii 0), .null, .int (ii 0), .null, .null, .int (ii 0), .int (ii 0)])] ((9, s, 9), f)) (.inl none, wd [(9, ob 4 [.int (ii 0), .ref 10, .int (ii 0), .ref 11, .ref 12, .int (ii 0), .int (ii 0)]), (10, ar 20 (fun _ => 0)), (11, ar 24 (fun _ => 0)), (12, ar 24 (fun _ => 0))] ((12, s + 20 + 24 + 24, 12), f)) := by
  intro f
  refine E_in (lv := [_]) rfl ?_
  refine E_aload pf_51_0 rfl ?_
  refine P_oi pf_51_1 rfl ?_
  refine E_aload pf_51_4 rfl ?_
  refine E_iconst pf_51_5 ?_
  refine P_nI (nn := 20) pf_51_7 rfl rfl rfl rfl ?_
  refine P_putf (x := ob _ [_, _, _, _, _, _, _]) pf_51_9 rfl rfl rfl rfl ?_
  refine E_aload pf_51_12 rfl ?_
  refine E_iconst pf_51_13 ?_
  refine P_nI (nn := 24) pf_51_15 rfl rfl rfl rfl ?_
  refine P_putf (x := ob _ [_, _, _, _, _, _, _]) pf_51_17 rfl rfl rfl rfl ?_
  refine E_aload pf_51_20 rfl ?_
  refine E_iconst pf_51_21 ?_
  refine P_nI (nn := 24) pf_51_23 rfl rfl rfl rfl ?_
  refine P_putf (x := ob _ [_, _, _, _, _, _, _]) pf_51_25 rfl rfl rfl rfl ?_
  exact Rn_eq (E_vret pf_51_28 rfl) (Prod.ext rfl (wd_eq (And.intro rfl (And.intro rfl (And.intro rfl (And.intro rfl (trivial))))) rfl))
set_option maxRecDepth 100000 in
set_option maxHeartbeats 4000000 in
theorem n51_24 : ∀ f, Ca 51 [.ref 24] (wd [(24, ob 4 [.int (ii 0), .null, .int (ii 0), .null, .null, .int (ii 0), .int (ii 0)])] ((24, s, 24), f)) (.inl none, wd [(24, ob 4 [.int (ii 0), .ref 25, .int (ii 0), .ref 26, .ref 27, .int (ii 0), .int (ii 0)]), (25, ar 20 (fun _ => 0)), (26, ar 24 (fun _ => 0)), (27, ar 24 (fun _ => 0))] ((27, s + 20 + 24 + 24, 27), f)) := by
  intro f
  refine E_in (lv := [_]) rfl ?_
  refine E_aload pf_51_0 rfl ?_
  refine P_oi pf_51_1 rfl ?_
  refine E_aload pf_51_4 rfl ?_
  refine E_iconst pf_51_5 ?_
  refine P_nI (nn := 20) pf_51_7 rfl rfl rfl rfl ?_
  refine P_putf (x := ob _ [_, _, _, _, _, _, _]) pf_51_9 rfl rfl rfl rfl ?_
  refine E_aload pf_51_12 rfl ?_
  refine E_iconst pf_51_13 ?_
  refine P_nI (nn := 24) pf_51_15 rfl rfl rfl rfl ?_
  refine P_putf (x := ob _ [_, _, _, _, _, _, _]) pf_51_17 rfl rfl rfl rfl ?_
  refine E_aload pf_51_20 rfl ?_
  refine E_iconst pf_51_21 ?_
  refine P_nI (nn := 24) pf_51_23 rfl rfl rfl rfl ?_
  refine P_putf (x := ob _ [_, _, _, _, _, _, _]) pf_51_25 rfl rfl rfl rfl ?_
  exact Rn_eq (E_vret pf_51_28 rfl) (Prod.ext rfl (wd_eq (And.intro rfl (And.intro rfl (And.intro rfl (And.intro rfl (trivial))))) rfl))
set_option maxRecDepth 100000 in
set_option maxHeartbeats 4000000 in
theorem n51_28 : ∀ f, Ca 51 [.ref 28] (wd [(28, ob 4 [.int (ii 0), .null, .int (ii 0), .null, .null, .int (ii 0), .int (ii 0)])] ((28, s, 28), f)) (.inl none, wd [(28, ob 4 [.int (ii 0), .ref 29, .int (ii 0), .ref 30, .ref 31, .int (ii 0), .int (ii 0)]), (29, ar 20 (fun _ => 0)), (30, ar 24 (fun _ => 0)), (31, ar 24 (fun _ => 0))] ((31, s + 20 + 24 + 24, 31), f)) := by
  intro f
  refine E_in (lv := [_]) rfl ?_
  refine E_aload pf_51_0 rfl ?_
  refine P_oi pf_51_1 rfl ?_
  refine E_aload pf_51_4 rfl ?_
  refine E_iconst pf_51_5 ?_
  refine P_nI (nn := 20) pf_51_7 rfl rfl rfl rfl ?_
  refine P_putf (x := ob _ [_, _, _, _, _, _, _]) pf_51_9 rfl rfl rfl rfl ?_
  refine E_aload pf_51_12 rfl ?_
  refine E_iconst pf_51_13 ?_
  refine P_nI (nn := 24) pf_51_15 rfl rfl rfl rfl ?_
  refine P_putf (x := ob _ [_, _, _, _, _, _, _]) pf_51_17 rfl rfl rfl rfl ?_
  refine E_aload pf_51_20 rfl ?_
  refine E_iconst pf_51_21 ?_
  refine P_nI (nn := 24) pf_51_23 rfl rfl rfl rfl ?_
  refine P_putf (x := ob _ [_, _, _, _, _, _, _]) pf_51_25 rfl rfl rfl rfl ?_
  exact Rn_eq (E_vret pf_51_28 rfl) (Prod.ext rfl (wd_eq (And.intro rfl (And.intro rfl (And.intro rfl (And.intro rfl (trivial))))) rfl))
set_option maxRecDepth 100000 in
set_option maxHeartbeats 4000000 in
theorem n51_34 : ∀ f, Ca 51 [.ref 34] (wd [(34, ob 4 [.int (ii 0), .null, .int (ii 0), .null, .null, .int (ii 0), .int (ii 0)])] ((34, s, 34), f)) (.inl none, wd [(34, ob 4 [.int (ii 0), .ref 35, .int (ii 0), .ref 36, .ref 37, .int (ii 0), .int (ii 0)]), (35, ar 20 (fun _ => 0)), (36, ar 24 (fun _ => 0)), (37, ar 24 (fun _ => 0))] ((37, s + 20 + 24 + 24, 37), f)) := by
  intro f
  refine E_in (lv := [_]) rfl ?_
  refine E_aload pf_51_0 rfl ?_
  refine P_oi pf_51_1 rfl ?_
  refine E_aload pf_51_4 rfl ?_
  refine E_iconst pf_51_5 ?_
  refine P_nI (nn := 20) pf_51_7 rfl rfl rfl rfl ?_
  refine P_putf (x := ob _ [_, _, _, _, _, _, _]) pf_51_9 rfl rfl rfl rfl ?_
  refine E_aload pf_51_12 rfl ?_
  refine E_iconst pf_51_13 ?_
  refine P_nI (nn := 24) pf_51_15 rfl rfl rfl rfl ?_
  refine P_putf (x := ob _ [_, _, _, _, _, _, _]) pf_51_17 rfl rfl rfl rfl ?_
  refine E_aload pf_51_20 rfl ?_
  refine E_iconst pf_51_21 ?_
  refine P_nI (nn := 24) pf_51_23 rfl rfl rfl rfl ?_
  refine P_putf (x := ob _ [_, _, _, _, _, _, _]) pf_51_25 rfl rfl rfl rfl ?_
  exact Rn_eq (E_vret pf_51_28 rfl) (Prod.ext rfl (wd_eq (And.intro rfl (And.intro rfl (And.intro rfl (And.intro rfl (trivial))))) rfl))
set_option maxRecDepth 100000 in
set_option maxHeartbeats 4000000 in
theorem n51_38 : ∀ f, Ca 51 [.ref 38] (wd [(38, ob 4 [.int (ii 0), .null, .int (ii 0), .null, .null, .int (ii 0), .int (ii 0)])] ((38, s, 38), f)) (.inl none, wd [(38, ob 4 [.int (ii 0), .ref 39, .int (ii 0), .ref 40, .ref 41, .int (ii 0), .int (ii 0)]), (39, ar 20 (fun _ => 0)), (40, ar 24 (fun _ => 0)), (41, ar 24 (fun _ => 0))] ((41, s + 20 + 24 + 24, 41), f)) := by
  intro f
  refine E_in (lv := [_]) rfl ?_
  refine E_aload pf_51_0 rfl ?_
  refine P_oi pf_51_1 rfl ?_
  refine E_aload pf_51_4 rfl ?_
  refine E_iconst pf_51_5 ?_
  refine P_nI (nn := 20) pf_51_7 rfl rfl rfl rfl ?_
  refine P_putf (x := ob _ [_, _, _, _, _, _, _]) pf_51_9 rfl rfl rfl rfl ?_
  refine E_aload pf_51_12 rfl ?_
  refine E_iconst pf_51_13 ?_
  refine P_nI (nn := 24) pf_51_15 rfl rfl rfl rfl ?_
  refine P_putf (x := ob _ [_, _, _, _, _, _, _]) pf_51_17 rfl rfl rfl rfl ?_
  refine E_aload pf_51_20 rfl ?_
  refine E_iconst pf_51_21 ?_
  refine P_nI (nn := 24) pf_51_23 rfl rfl rfl rfl ?_
  refine P_putf (x := ob _ [_, _, _, _, _, _, _]) pf_51_25 rfl rfl rfl rfl ?_
  exact Rn_eq (E_vret pf_51_28 rfl) (Prod.ext rfl (wd_eq (And.intro rfl (And.intro rfl (And.intro rfl (And.intro rfl (trivial))))) rfl))
set_option maxRecDepth 100000 in
set_option maxHeartbeats 4000000 in
theorem n51_42 : ∀ f, Ca 51 [.ref 42] (wd [(42, ob 4 [.int (ii 0), .null, .int (ii 0), .null, .null, .int (ii 0), .int (ii 0)])] ((42, s, 42), f)) (.inl none, wd [(42, ob 4 [.int (ii 0), .ref 43, .int (ii 0), .ref 44, .ref 45, .int (ii 0), .int (ii 0)]), (43, ar 20 (fun _ => 0)), (44, ar 24 (fun _ => 0)), (45, ar 24 (fun _ => 0))] ((45, s + 20 + 24 + 24, 45), f)) := by
  intro f
  refine E_in (lv := [_]) rfl ?_
  refine E_aload pf_51_0 rfl ?_
  refine P_oi pf_51_1 rfl ?_
  refine E_aload pf_51_4 rfl ?_
  refine E_iconst pf_51_5 ?_
  refine P_nI (nn := 20) pf_51_7 rfl rfl rfl rfl ?_
  refine P_putf (x := ob _ [_, _, _, _, _, _, _]) pf_51_9 rfl rfl rfl rfl ?_
  refine E_aload pf_51_12 rfl ?_
  refine E_iconst pf_51_13 ?_
  refine P_nI (nn := 24) pf_51_15 rfl rfl rfl rfl ?_
  refine P_putf (x := ob _ [_, _, _, _, _, _, _]) pf_51_17 rfl rfl rfl rfl ?_
  refine E_aload pf_51_20 rfl ?_
  refine E_iconst pf_51_21 ?_
  refine P_nI (nn := 24) pf_51_23 rfl rfl rfl rfl ?_
  refine P_putf (x := ob _ [_, _, _, _, _, _, _]) pf_51_25 rfl rfl rfl rfl ?_
  exact Rn_eq (E_vret pf_51_28 rfl) (Prod.ext rfl (wd_eq (And.intro rfl (And.intro rfl (And.intro rfl (And.intro rfl (trivial))))) rfl))
set_option maxRecDepth 100000 in
set_option maxHeartbeats 4000000 in
theorem n51_46 : ∀ f, Ca 51 [.ref 46] (wd [(46, ob 4 [.int (ii 0), .null, .int (ii 0), .null, .null, .int (ii 0), .int (ii 0)])] ((46, s, 46), f)) (.inl none, wd [(46, ob 4 [.int (ii 0), .ref 47, .int (ii 0), .ref 48, .ref 49, .int (ii 0), .int (ii 0)]), (47, ar 20 (fun _ => 0)), (48, ar 24 (fun _ => 0)), (49, ar 24 (fun _ => 0))] ((49, s + 20 + 24 + 24, 49), f)) := by
  intro f
  refine E_in (lv := [_]) rfl ?_
  refine E_aload pf_51_0 rfl ?_
  refine P_oi pf_51_1 rfl ?_
  refine E_aload pf_51_4 rfl ?_
  refine E_iconst pf_51_5 ?_
  refine P_nI (nn := 20) pf_51_7 rfl rfl rfl rfl ?_
  refine P_putf (x := ob _ [_, _, _, _, _, _, _]) pf_51_9 rfl rfl rfl rfl ?_
  refine E_aload pf_51_12 rfl ?_
  refine E_iconst pf_51_13 ?_
  refine P_nI (nn := 24) pf_51_15 rfl rfl rfl rfl ?_
  refine P_putf (x := ob _ [_, _, _, _, _, _, _]) pf_51_17 rfl rfl rfl rfl ?_
  refine E_aload pf_51_20 rfl ?_
  refine E_iconst pf_51_21 ?_
  refine P_nI (nn := 24) pf_51_23 rfl rfl rfl rfl ?_
  refine P_putf (x := ob _ [_, _, _, _, _, _, _]) pf_51_25 rfl rfl rfl rfl ?_
  exact Rn_eq (E_vret pf_51_28 rfl) (Prod.ext rfl (wd_eq (And.intro rfl (And.intro rfl (And.intro rfl (And.intro rfl (trivial))))) rfl))
set_option maxRecDepth 100000 in
set_option maxHeartbeats 4000000 in
theorem n51_50 : ∀ f, Ca 51 [.ref 50] (wd [(50, ob 4 [.int (ii 0), .null, .int (ii 0), .null, .null, .int (ii 0), .int (ii 0)])] ((50, s, 50), f)) (.inl none, wd [(50, ob 4 [.int (ii 0), .ref 51, .int (ii 0), .ref 52, .ref 53, .int (ii 0), .int (ii 0)]), (51, ar 20 (fun _ => 0)), (52, ar 24 (fun _ => 0)), (53, ar 24 (fun _ => 0))] ((53, s + 20 + 24 + 24, 53), f)) := by
  intro f
  refine E_in (lv := [_]) rfl ?_
  refine E_aload pf_51_0 rfl ?_
  refine P_oi pf_51_1 rfl ?_
  refine E_aload pf_51_4 rfl ?_
  refine E_iconst pf_51_5 ?_
  refine P_nI (nn := 20) pf_51_7 rfl rfl rfl rfl ?_
  refine P_putf (x := ob _ [_, _, _, _, _, _, _]) pf_51_9 rfl rfl rfl rfl ?_
  refine E_aload pf_51_12 rfl ?_
  refine E_iconst pf_51_13 ?_
  refine P_nI (nn := 24) pf_51_15 rfl rfl rfl rfl ?_
  refine P_putf (x := ob _ [_, _, _, _, _, _, _]) pf_51_17 rfl rfl rfl rfl ?_
  refine E_aload pf_51_20 rfl ?_
  refine E_iconst pf_51_21 ?_
  refine P_nI (nn := 24) pf_51_23 rfl rfl rfl rfl ?_
  refine P_putf (x := ob _ [_, _, _, _, _, _, _]) pf_51_25 rfl rfl rfl rfl ?_
  exact Rn_eq (E_vret pf_51_28 rfl) (Prod.ext rfl (wd_eq (And.intro rfl (And.intro rfl (And.intro rfl (And.intro rfl (trivial))))) rfl))
set_option maxRecDepth 100000 in
set_option maxHeartbeats 4000000 in
theorem n51_54 : ∀ f, Ca 51 [.ref 54] (wd [(54, ob 4 [.int (ii 0), .null, .int (ii 0), .null, .null, .int (ii 0), .int (ii 0)])] ((54, s, 54), f)) (.inl none, wd [(54, ob 4 [.int (ii 0), .ref 55, .int (ii 0), .ref 56, .ref 57, .int (ii 0), .int (ii 0)]), (55, ar 20 (fun _ => 0)), (56, ar 24 (fun _ => 0)), (57, ar 24 (fun _ => 0))] ((57, s + 20 + 24 + 24, 57), f)) := by
  intro f
  refine E_in (lv := [_]) rfl ?_
  refine E_aload pf_51_0 rfl ?_
  refine P_oi pf_51_1 rfl ?_
  refine E_aload pf_51_4 rfl ?_
  refine E_iconst pf_51_5 ?_
  refine P_nI (nn := 20) pf_51_7 rfl rfl rfl rfl ?_
  refine P_putf (x := ob _ [_, _, _, _, _, _, _]) pf_51_9 rfl rfl rfl rfl ?_
  refine E_aload pf_51_12 rfl ?_
  refine E_iconst pf_51_13 ?_
  refine P_nI (nn := 24) pf_51_15 rfl rfl rfl rfl ?_
  refine P_putf (x := ob _ [_, _, _, _, _, _, _]) pf_51_17 rfl rfl rfl rfl ?_
  refine E_aload pf_51_20 rfl ?_
  refine E_iconst pf_51_21 ?_
  refine P_nI (nn := 24) pf_51_23 rfl rfl rfl rfl ?_
  refine P_putf (x := ob _ [_, _, _, _, _, _, _]) pf_51_25 rfl rfl rfl rfl ?_
  exact Rn_eq (E_vret pf_51_28 rfl) (Prod.ext rfl (wd_eq (And.intro rfl (And.intro rfl (And.intro rfl (And.intro rfl (trivial))))) rfl))
set_option maxRecDepth 100000 in
set_option maxHeartbeats 4000000 in
theorem n51_58 : ∀ f, Ca 51 [.ref 58] (wd [(58, ob 4 [.int (ii 0), .null, .int (ii 0), .null, .null, .int (ii 0), .int (ii 0)])] ((58, s, 58), f)) (.inl none, wd [(58, ob 4 [.int (ii 0), .ref 59, .int (ii 0), .ref 60, .ref 61, .int (ii 0), .int (ii 0)]), (59, ar 20 (fun _ => 0)), (60, ar 24 (fun _ => 0)), (61, ar 24 (fun _ => 0))] ((61, s + 20 + 24 + 24, 61), f)) := by
  intro f
  refine E_in (lv := [_]) rfl ?_
  refine E_aload pf_51_0 rfl ?_
  refine P_oi pf_51_1 rfl ?_
  refine E_aload pf_51_4 rfl ?_
  refine E_iconst pf_51_5 ?_
  refine P_nI (nn := 20) pf_51_7 rfl rfl rfl rfl ?_
  refine P_putf (x := ob _ [_, _, _, _, _, _, _]) pf_51_9 rfl rfl rfl rfl ?_
  refine E_aload pf_51_12 rfl ?_
  refine E_iconst pf_51_13 ?_
  refine P_nI (nn := 24) pf_51_15 rfl rfl rfl rfl ?_
  refine P_putf (x := ob _ [_, _, _, _, _, _, _]) pf_51_17 rfl rfl rfl rfl ?_
  refine E_aload pf_51_20 rfl ?_
  refine E_iconst pf_51_21 ?_
  refine P_nI (nn := 24) pf_51_23 rfl rfl rfl rfl ?_
  refine P_putf (x := ob _ [_, _, _, _, _, _, _]) pf_51_25 rfl rfl rfl rfl ?_
  exact Rn_eq (E_vret pf_51_28 rfl) (Prod.ext rfl (wd_eq (And.intro rfl (And.intro rfl (And.intro rfl (And.intro rfl (trivial))))) rfl))
set_option maxRecDepth 100000 in
set_option maxHeartbeats 4000000 in
theorem n51_62 : ∀ f, Ca 51 [.ref 62] (wd [(62, ob 4 [.int (ii 0), .null, .int (ii 0), .null, .null, .int (ii 0), .int (ii 0)])] ((62, s, 62), f)) (.inl none, wd [(62, ob 4 [.int (ii 0), .ref 63, .int (ii 0), .ref 64, .ref 65, .int (ii 0), .int (ii 0)]), (63, ar 20 (fun _ => 0)), (64, ar 24 (fun _ => 0)), (65, ar 24 (fun _ => 0))] ((65, s + 20 + 24 + 24, 65), f)) := by
  intro f
  refine E_in (lv := [_]) rfl ?_
  refine E_aload pf_51_0 rfl ?_
  refine P_oi pf_51_1 rfl ?_
  refine E_aload pf_51_4 rfl ?_
  refine E_iconst pf_51_5 ?_
  refine P_nI (nn := 20) pf_51_7 rfl rfl rfl rfl ?_
  refine P_putf (x := ob _ [_, _, _, _, _, _, _]) pf_51_9 rfl rfl rfl rfl ?_
  refine E_aload pf_51_12 rfl ?_
  refine E_iconst pf_51_13 ?_
  refine P_nI (nn := 24) pf_51_15 rfl rfl rfl rfl ?_
  refine P_putf (x := ob _ [_, _, _, _, _, _, _]) pf_51_17 rfl rfl rfl rfl ?_
  refine E_aload pf_51_20 rfl ?_
  refine E_iconst pf_51_21 ?_
  refine P_nI (nn := 24) pf_51_23 rfl rfl rfl rfl ?_
  refine P_putf (x := ob _ [_, _, _, _, _, _, _]) pf_51_25 rfl rfl rfl rfl ?_
  exact Rn_eq (E_vret pf_51_28 rfl) (Prod.ext rfl (wd_eq (And.intro rfl (And.intro rfl (And.intro rfl (And.intro rfl (trivial))))) rfl))
set_option maxRecDepth 100000 in
set_option maxHeartbeats 4000000 in
theorem n51_66 : ∀ f, Ca 51 [.ref 66] (wd [(66, ob 4 [.int (ii 0), .null, .int (ii 0), .null, .null, .int (ii 0), .int (ii 0)])] ((66, s, 66), f)) (.inl none, wd [(66, ob 4 [.int (ii 0), .ref 67, .int (ii 0), .ref 68, .ref 69, .int (ii 0), .int (ii 0)]), (67, ar 20 (fun _ => 0)), (68, ar 24 (fun _ => 0)), (69, ar 24 (fun _ => 0))] ((69, s + 20 + 24 + 24, 69), f)) := by
  intro f
  refine E_in (lv := [_]) rfl ?_
  refine E_aload pf_51_0 rfl ?_
  refine P_oi pf_51_1 rfl ?_
  refine E_aload pf_51_4 rfl ?_
  refine E_iconst pf_51_5 ?_
  refine P_nI (nn := 20) pf_51_7 rfl rfl rfl rfl ?_
  refine P_putf (x := ob _ [_, _, _, _, _, _, _]) pf_51_9 rfl rfl rfl rfl ?_
  refine E_aload pf_51_12 rfl ?_
  refine E_iconst pf_51_13 ?_
  refine P_nI (nn := 24) pf_51_15 rfl rfl rfl rfl ?_
  refine P_putf (x := ob _ [_, _, _, _, _, _, _]) pf_51_17 rfl rfl rfl rfl ?_
  refine E_aload pf_51_20 rfl ?_
  refine E_iconst pf_51_21 ?_
  refine P_nI (nn := 24) pf_51_23 rfl rfl rfl rfl ?_
  refine P_putf (x := ob _ [_, _, _, _, _, _, _]) pf_51_25 rfl rfl rfl rfl ?_
  exact Rn_eq (E_vret pf_51_28 rfl) (Prod.ext rfl (wd_eq (And.intro rfl (And.intro rfl (And.intro rfl (And.intro rfl (trivial))))) rfl))
set_option maxRecDepth 100000 in
set_option maxHeartbeats 4000000 in
theorem n51_70 : ∀ f, Ca 51 [.ref 70] (wd [(70, ob 4 [.int (ii 0), .null, .int (ii 0), .null, .null, .int (ii 0), .int (ii 0)])] ((70, s, 70), f)) (.inl none, wd [(70, ob 4 [.int (ii 0), .ref 71, .int (ii 0), .ref 72, .ref 73, .int (ii 0), .int (ii 0)]), (71, ar 20 (fun _ => 0)), (72, ar 24 (fun _ => 0)), (73, ar 24 (fun _ => 0))] ((73, s + 20 + 24 + 24, 73), f)) := by
  intro f
  refine E_in (lv := [_]) rfl ?_
  refine E_aload pf_51_0 rfl ?_
  refine P_oi pf_51_1 rfl ?_
  refine E_aload pf_51_4 rfl ?_
  refine E_iconst pf_51_5 ?_
  refine P_nI (nn := 20) pf_51_7 rfl rfl rfl rfl ?_
  refine P_putf (x := ob _ [_, _, _, _, _, _, _]) pf_51_9 rfl rfl rfl rfl ?_
  refine E_aload pf_51_12 rfl ?_
  refine E_iconst pf_51_13 ?_
  refine P_nI (nn := 24) pf_51_15 rfl rfl rfl rfl ?_
  refine P_putf (x := ob _ [_, _, _, _, _, _, _]) pf_51_17 rfl rfl rfl rfl ?_
  refine E_aload pf_51_20 rfl ?_
  refine E_iconst pf_51_21 ?_
  refine P_nI (nn := 24) pf_51_23 rfl rfl rfl rfl ?_
  refine P_putf (x := ob _ [_, _, _, _, _, _, _]) pf_51_25 rfl rfl rfl rfl ?_
  exact Rn_eq (E_vret pf_51_28 rfl) (Prod.ext rfl (wd_eq (And.intro rfl (And.intro rfl (And.intro rfl (And.intro rfl (trivial))))) rfl))
set_option maxRecDepth 100000 in
set_option maxHeartbeats 4000000 in
theorem n51_74 : ∀ f, Ca 51 [.ref 74] (wd [(74, ob 4 [.int (ii 0), .null, .int (ii 0), .null, .null, .int (ii 0), .int (ii 0)])] ((74, s, 74), f)) (.inl none, wd [(74, ob 4 [.int (ii 0), .ref 75, .int (ii 0), .ref 76, .ref 77, .int (ii 0), .int (ii 0)]), (75, ar 20 (fun _ => 0)), (76, ar 24 (fun _ => 0)), (77, ar 24 (fun _ => 0))] ((77, s + 20 + 24 + 24, 77), f)) := by
  intro f
  refine E_in (lv := [_]) rfl ?_
  refine E_aload pf_51_0 rfl ?_
  refine P_oi pf_51_1 rfl ?_
  refine E_aload pf_51_4 rfl ?_
  refine E_iconst pf_51_5 ?_
  refine P_nI (nn := 20) pf_51_7 rfl rfl rfl rfl ?_
  refine P_putf (x := ob _ [_, _, _, _, _, _, _]) pf_51_9 rfl rfl rfl rfl ?_
  refine E_aload pf_51_12 rfl ?_
  refine E_iconst pf_51_13 ?_
  refine P_nI (nn := 24) pf_51_15 rfl rfl rfl rfl ?_
  refine P_putf (x := ob _ [_, _, _, _, _, _, _]) pf_51_17 rfl rfl rfl rfl ?_
  refine E_aload pf_51_20 rfl ?_
  refine E_iconst pf_51_21 ?_
  refine P_nI (nn := 24) pf_51_23 rfl rfl rfl rfl ?_
  refine P_putf (x := ob _ [_, _, _, _, _, _, _]) pf_51_25 rfl rfl rfl rfl ?_
  exact Rn_eq (E_vret pf_51_28 rfl) (Prod.ext rfl (wd_eq (And.intro rfl (And.intro rfl (And.intro rfl (And.intro rfl (trivial))))) rfl))
set_option maxRecDepth 100000 in
set_option maxHeartbeats 4000000 in
theorem n51_78 : ∀ f, Ca 51 [.ref 78] (wd [(78, ob 4 [.int (ii 0), .null, .int (ii 0), .null, .null, .int (ii 0), .int (ii 0)])] ((78, s, 78), f)) (.inl none, wd [(78, ob 4 [.int (ii 0), .ref 79, .int (ii 0), .ref 80, .ref 81, .int (ii 0), .int (ii 0)]), (79, ar 20 (fun _ => 0)), (80, ar 24 (fun _ => 0)), (81, ar 24 (fun _ => 0))] ((81, s + 20 + 24 + 24, 81), f)) := by
  intro f
  refine E_in (lv := [_]) rfl ?_
  refine E_aload pf_51_0 rfl ?_
  refine P_oi pf_51_1 rfl ?_
  refine E_aload pf_51_4 rfl ?_
  refine E_iconst pf_51_5 ?_
  refine P_nI (nn := 20) pf_51_7 rfl rfl rfl rfl ?_
  refine P_putf (x := ob _ [_, _, _, _, _, _, _]) pf_51_9 rfl rfl rfl rfl ?_
  refine E_aload pf_51_12 rfl ?_
  refine E_iconst pf_51_13 ?_
  refine P_nI (nn := 24) pf_51_15 rfl rfl rfl rfl ?_
  refine P_putf (x := ob _ [_, _, _, _, _, _, _]) pf_51_17 rfl rfl rfl rfl ?_
  refine E_aload pf_51_20 rfl ?_
  refine E_iconst pf_51_21 ?_
  refine P_nI (nn := 24) pf_51_23 rfl rfl rfl rfl ?_
  refine P_putf (x := ob _ [_, _, _, _, _, _, _]) pf_51_25 rfl rfl rfl rfl ?_
  exact Rn_eq (E_vret pf_51_28 rfl) (Prod.ext rfl (wd_eq (And.intro rfl (And.intro rfl (And.intro rfl (And.intro rfl (trivial))))) rfl))
set_option maxRecDepth 100000 in
set_option maxHeartbeats 4000000 in
theorem n51_82 : ∀ f, Ca 51 [.ref 82] (wd [(82, ob 4 [.int (ii 0), .null, .int (ii 0), .null, .null, .int (ii 0), .int (ii 0)])] ((82, s, 82), f)) (.inl none, wd [(82, ob 4 [.int (ii 0), .ref 83, .int (ii 0), .ref 84, .ref 85, .int (ii 0), .int (ii 0)]), (83, ar 20 (fun _ => 0)), (84, ar 24 (fun _ => 0)), (85, ar 24 (fun _ => 0))] ((85, s + 20 + 24 + 24, 85), f)) := by
  intro f
  refine E_in (lv := [_]) rfl ?_
  refine E_aload pf_51_0 rfl ?_
  refine P_oi pf_51_1 rfl ?_
  refine E_aload pf_51_4 rfl ?_
  refine E_iconst pf_51_5 ?_
  refine P_nI (nn := 20) pf_51_7 rfl rfl rfl rfl ?_
  refine P_putf (x := ob _ [_, _, _, _, _, _, _]) pf_51_9 rfl rfl rfl rfl ?_
  refine E_aload pf_51_12 rfl ?_
  refine E_iconst pf_51_13 ?_
  refine P_nI (nn := 24) pf_51_15 rfl rfl rfl rfl ?_
  refine P_putf (x := ob _ [_, _, _, _, _, _, _]) pf_51_17 rfl rfl rfl rfl ?_
  refine E_aload pf_51_20 rfl ?_
  refine E_iconst pf_51_21 ?_
  refine P_nI (nn := 24) pf_51_23 rfl rfl rfl rfl ?_
  refine P_putf (x := ob _ [_, _, _, _, _, _, _]) pf_51_25 rfl rfl rfl rfl ?_
  exact Rn_eq (E_vret pf_51_28 rfl) (Prod.ext rfl (wd_eq (And.intro rfl (And.intro rfl (And.intro rfl (And.intro rfl (trivial))))) rfl))
set_option maxRecDepth 100000 in
set_option maxHeartbeats 4000000 in
theorem n51_86 : ∀ f, Ca 51 [.ref 86] (wd [(86, ob 4 [.int (ii 0), .null, .int (ii 0), .null, .null, .int (ii 0), .int (ii 0)])] ((86, s, 86), f)) (.inl none, wd [(86, ob 4 [.int (ii 0), .ref 87, .int (ii 0), .ref 88, .ref 89, .int (ii 0), .int (ii 0)]), (87, ar 20 (fun _ => 0)), (88, ar 24 (fun _ => 0)), (89, ar 24 (fun _ => 0))] ((89, s + 20 + 24 + 24, 89), f)) := by
  intro f
  refine E_in (lv := [_]) rfl ?_
  refine E_aload pf_51_0 rfl ?_
  refine P_oi pf_51_1 rfl ?_
  refine E_aload pf_51_4 rfl ?_
  refine E_iconst pf_51_5 ?_
  refine P_nI (nn := 20) pf_51_7 rfl rfl rfl rfl ?_
  refine P_putf (x := ob _ [_, _, _, _, _, _, _]) pf_51_9 rfl rfl rfl rfl ?_
  refine E_aload pf_51_12 rfl ?_
  refine E_iconst pf_51_13 ?_
  refine P_nI (nn := 24) pf_51_15 rfl rfl rfl rfl ?_
  refine P_putf (x := ob _ [_, _, _, _, _, _, _]) pf_51_17 rfl rfl rfl rfl ?_
  refine E_aload pf_51_20 rfl ?_
  refine E_iconst pf_51_21 ?_
  refine P_nI (nn := 24) pf_51_23 rfl rfl rfl rfl ?_
  refine P_putf (x := ob _ [_, _, _, _, _, _, _]) pf_51_25 rfl rfl rfl rfl ?_
  exact Rn_eq (E_vret pf_51_28 rfl) (Prod.ext rfl (wd_eq (And.intro rfl (And.intro rfl (And.intro rfl (And.intro rfl (trivial))))) rfl))
set_option maxRecDepth 100000 in
set_option maxHeartbeats 4000000 in
theorem n51_91 : ∀ f, Ca 51 [.ref 91] (wd [(91, ob 4 [.int (ii 0), .null, .int (ii 0), .null, .null, .int (ii 0), .int (ii 0)])] ((91, s, 91), f)) (.inl none, wd [(91, ob 4 [.int (ii 0), .ref 92, .int (ii 0), .ref 93, .ref 94, .int (ii 0), .int (ii 0)]), (92, ar 20 (fun _ => 0)), (93, ar 24 (fun _ => 0)), (94, ar 24 (fun _ => 0))] ((94, s + 20 + 24 + 24, 94), f)) := by
  intro f
  refine E_in (lv := [_]) rfl ?_
  refine E_aload pf_51_0 rfl ?_
  refine P_oi pf_51_1 rfl ?_
  refine E_aload pf_51_4 rfl ?_
  refine E_iconst pf_51_5 ?_
  refine P_nI (nn := 20) pf_51_7 rfl rfl rfl rfl ?_
  refine P_putf (x := ob _ [_, _, _, _, _, _, _]) pf_51_9 rfl rfl rfl rfl ?_
  refine E_aload pf_51_12 rfl ?_
  refine E_iconst pf_51_13 ?_
  refine P_nI (nn := 24) pf_51_15 rfl rfl rfl rfl ?_
  refine P_putf (x := ob _ [_, _, _, _, _, _, _]) pf_51_17 rfl rfl rfl rfl ?_
  refine E_aload pf_51_20 rfl ?_
  refine E_iconst pf_51_21 ?_
  refine P_nI (nn := 24) pf_51_23 rfl rfl rfl rfl ?_
  refine P_putf (x := ob _ [_, _, _, _, _, _, _]) pf_51_25 rfl rfl rfl rfl ?_
  exact Rn_eq (E_vret pf_51_28 rfl) (Prod.ext rfl (wd_eq (And.intro rfl (And.intro rfl (And.intro rfl (And.intro rfl (trivial))))) rfl))
set_option maxRecDepth 100000 in
set_option maxHeartbeats 4000000 in
theorem n51_95 : ∀ f, Ca 51 [.ref 95] (wd [(95, ob 4 [.int (ii 0), .null, .int (ii 0), .null, .null, .int (ii 0), .int (ii 0)])] ((95, s, 95), f)) (.inl none, wd [(95, ob 4 [.int (ii 0), .ref 96, .int (ii 0), .ref 97, .ref 98, .int (ii 0), .int (ii 0)]), (96, ar 20 (fun _ => 0)), (97, ar 24 (fun _ => 0)), (98, ar 24 (fun _ => 0))] ((98, s + 20 + 24 + 24, 98), f)) := by
  intro f
  refine E_in (lv := [_]) rfl ?_
  refine E_aload pf_51_0 rfl ?_
  refine P_oi pf_51_1 rfl ?_
  refine E_aload pf_51_4 rfl ?_
  refine E_iconst pf_51_5 ?_
  refine P_nI (nn := 20) pf_51_7 rfl rfl rfl rfl ?_
  refine P_putf (x := ob _ [_, _, _, _, _, _, _]) pf_51_9 rfl rfl rfl rfl ?_
  refine E_aload pf_51_12 rfl ?_
  refine E_iconst pf_51_13 ?_
  refine P_nI (nn := 24) pf_51_15 rfl rfl rfl rfl ?_
  refine P_putf (x := ob _ [_, _, _, _, _, _, _]) pf_51_17 rfl rfl rfl rfl ?_
  refine E_aload pf_51_20 rfl ?_
  refine E_iconst pf_51_21 ?_
  refine P_nI (nn := 24) pf_51_23 rfl rfl rfl rfl ?_
  refine P_putf (x := ob _ [_, _, _, _, _, _, _]) pf_51_25 rfl rfl rfl rfl ?_
  exact Rn_eq (E_vret pf_51_28 rfl) (Prod.ext rfl (wd_eq (And.intro rfl (And.intro rfl (And.intro rfl (And.intro rfl (trivial))))) rfl))
set_option maxRecDepth 100000 in
set_option maxHeartbeats 4000000 in
theorem n25_5 : ∀ f, Ca 25 [.ref 5] (wd [(5, ob 2 [.int (ii 0), .int (ii 0), .int (ii 0), .null, .null, .null])] ((5, s, 5), f)) (.inl none, wd [(5, ob 2 [.int (ii 0), .int (ii 0), .int (ii 0), .ref 6, .ref 7, .ref 8]), (6, ar 96 (fun _ => 0)), (7, ar 4 (fun _ => 0)), (8, ar 4 (fun _ => 0))] ((8, s + 96 + 4 + 4, 8), f)) := by
  intro f
  refine E_in (lv := [_]) rfl ?_
  refine E_aload pf_25_0 rfl ?_
  refine P_oi pf_25_1 rfl ?_
  refine E_aload pf_25_4 rfl ?_
  refine E_iconst pf_25_5 ?_
  refine P_nI (nn := 96) pf_25_7 rfl rfl rfl rfl ?_
  refine P_putf (x := ob _ [_, _, _, _, _, _]) pf_25_9 rfl rfl rfl rfl ?_
  refine E_aload pf_25_12 rfl ?_
  refine E_iconst pf_25_13 ?_
  refine P_nI (nn := 4) pf_25_14 rfl rfl rfl rfl ?_
  refine P_putf (x := ob _ [_, _, _, _, _, _]) pf_25_16 rfl rfl rfl rfl ?_
  refine E_aload pf_25_19 rfl ?_
  refine E_iconst pf_25_20 ?_
  refine P_nI (nn := 4) pf_25_21 rfl rfl rfl rfl ?_
  refine P_putf (x := ob _ [_, _, _, _, _, _]) pf_25_23 rfl rfl rfl rfl ?_
  exact Rn_eq (E_vret pf_25_26 rfl) (Prod.ext rfl (wd_eq (And.intro rfl (And.intro rfl (And.intro rfl (And.intro rfl (trivial))))) rfl))
set_option maxRecDepth 100000 in
set_option maxHeartbeats 4000000 in
theorem n25_13 : ∀ f, Ca 25 [.ref 13] (wd [(13, ob 2 [.int (ii 0), .int (ii 0), .int (ii 0), .null, .null, .null])] ((13, s, 13), f)) (.inl none, wd [(13, ob 2 [.int (ii 0), .int (ii 0), .int (ii 0), .ref 14, .ref 15, .ref 16]), (14, ar 96 (fun _ => 0)), (15, ar 4 (fun _ => 0)), (16, ar 4 (fun _ => 0))] ((16, s + 96 + 4 + 4, 16), f)) := by
  intro f
  refine E_in (lv := [_]) rfl ?_
  refine E_aload pf_25_0 rfl ?_
  refine P_oi pf_25_1 rfl ?_
  refine E_aload pf_25_4 rfl ?_
  refine E_iconst pf_25_5 ?_
  refine P_nI (nn := 96) pf_25_7 rfl rfl rfl rfl ?_
  refine P_putf (x := ob _ [_, _, _, _, _, _]) pf_25_9 rfl rfl rfl rfl ?_
  refine E_aload pf_25_12 rfl ?_
  refine E_iconst pf_25_13 ?_
  refine P_nI (nn := 4) pf_25_14 rfl rfl rfl rfl ?_
  refine P_putf (x := ob _ [_, _, _, _, _, _]) pf_25_16 rfl rfl rfl rfl ?_
  refine E_aload pf_25_19 rfl ?_
  refine E_iconst pf_25_20 ?_
  refine P_nI (nn := 4) pf_25_21 rfl rfl rfl rfl ?_
  refine P_putf (x := ob _ [_, _, _, _, _, _]) pf_25_23 rfl rfl rfl rfl ?_
  exact Rn_eq (E_vret pf_25_26 rfl) (Prod.ext rfl (wd_eq (And.intro rfl (And.intro rfl (And.intro rfl (And.intro rfl (trivial))))) rfl))
set_option maxRecDepth 100000 in
set_option maxHeartbeats 4000000 in
theorem n40 : ∀ f, Ca 40 [.ref 3, .ref 2] (wd [(3, ob 3 [.null, .int (ii 0), .int (ii 0), .null, .null, .null])] ((3, s, 3), f)) (.inl none, wd [(3, ob 3 [.ref 2, .int (ii 0), .int (ii 0), .ref 4, .ref 5, .ref 9]), (4, ar 4 (fun _ => 0)), (5, ob 2 [.int (ii 0), .int (ii 0), .int (ii 0), .ref 6, .ref 7, .ref 8]), (6, ar 96 (fun _ => 0)), (7, ar 4 (fun _ => 0)), (8, ar 4 (fun _ => 0)), (9, ob 4 [.int (ii 0), .ref 10, .int (ii 0), .ref 11, .ref 12, .int (ii 0), .int (ii 0)]), (10, ar 20 (fun _ => 0)), (11, ar 24 (fun _ => 0)), (12, ar 24 (fun _ => 0))] ((12, s + 4 + 6 + 96 + 4 + 4 + 7 + 20 + 24 + 24, 12), f)) := by
  intro f
  refine E_in (lv := [_, _]) rfl ?_
  refine E_aload pf_40_0 rfl ?_
  refine P_oi pf_40_1 rfl ?_
  refine E_aload pf_40_4 rfl ?_
  refine E_iconst pf_40_5 ?_
  refine P_nI (nn := 4) pf_40_6 rfl rfl rfl rfl ?_
  refine P_putf (x := ob _ [_, _, _, _, _, _]) pf_40_8 rfl rfl rfl rfl ?_
  refine E_aload pf_40_11 rfl ?_
  refine P_new (x := ob 2 [.int (ii 0), .int (ii 0), .int (ii 0), .null, .null, .null]) pf_40_12 rfl rfl rfl rfl rfl ?_
  refine E_dup pf_40_15 rfl ?_
  refine E_s1u pf_40_16 (wd_at rfl) rfl (Ca_nw (n25_5) (And.intro rfl (trivial)) _) ?_
  refine P_putf (x := ob _ [_, _, _, _, _, _]) pf_40_19 rfl rfl rfl rfl ?_
  refine E_aload pf_40_22 rfl ?_
  refine P_new (x := ob 4 [.int (ii 0), .null, .int (ii 0), .null, .null, .int (ii 0), .int (ii 0)]) pf_40_23 rfl rfl rfl rfl rfl ?_
  refine E_dup pf_40_26 rfl ?_
  refine E_s1u pf_40_27 (wd_at rfl) rfl (Ca_nw (n51_9) (And.intro rfl (trivial)) _) ?_
  refine P_putf (x := ob _ [_, _, _, _, _, _]) pf_40_30 rfl rfl rfl rfl ?_
  refine E_aload pf_40_33 rfl ?_
  refine E_aload pf_40_34 rfl ?_
  refine P_putf (x := ob _ [_, _, _, _, _, _]) pf_40_35 rfl rfl rfl rfl ?_
  exact Rn_eq (E_vret pf_40_38 rfl) (Prod.ext rfl (wd_eq (And.intro rfl (And.intro rfl (And.intro rfl (And.intro rfl (And.intro rfl (And.intro rfl (And.intro rfl (And.intro rfl (And.intro rfl (And.intro rfl (trivial))))))))))) rfl))
set_option maxRecDepth 100000 in
set_option maxHeartbeats 4000000 in
theorem n0 : ∀ f, Ca 0 [.ref 18, .ref 13] (wd [(18, ob 0 [.null, .null, .null, .null, .null, .null, .long (ll 0), .long (ll 0)])] ((18, s, 18), f)) (.inl none, wd [(18, ob 0 [.ref 13, .ref 19, .ref 20, .ref 21, .ref 22, .ref 23, .long (ll 0), .long (ll 0)]), (19, ar 4 (fun _ => 0)), (20, ar 4 (fun _ => 0)), (21, lr 4 (fun _ => 0)), (22, ar 4 (fun _ => 0)), (23, ar 24 (fun _ => 0))] ((23, s + 4 + 4 + 4 + 4 + 24, 23), f)) := by
  intro f
  refine E_in (lv := [_, _]) rfl ?_
  refine E_aload pf_0_0 rfl ?_
  refine P_oi pf_0_1 rfl ?_
  refine E_aload pf_0_4 rfl ?_
  refine E_iconst pf_0_5 ?_
  refine P_nI (nn := 4) pf_0_6 rfl rfl rfl rfl ?_
  refine P_putf (x := ob _ [_, _, _, _, _, _, _, _]) pf_0_8 rfl rfl rfl rfl ?_
  refine E_aload pf_0_11 rfl ?_
  refine E_iconst pf_0_12 ?_
  refine P_nI (nn := 4) pf_0_13 rfl rfl rfl rfl ?_
  refine P_putf (x := ob _ [_, _, _, _, _, _, _, _]) pf_0_15 rfl rfl rfl rfl ?_
  refine E_aload pf_0_18 rfl ?_
  refine E_iconst pf_0_19 ?_
  refine P_nL (nn := 4) pf_0_20 rfl rfl rfl rfl ?_
  refine P_putf (x := ob _ [_, _, _, _, _, _, _, _]) pf_0_22 rfl rfl rfl rfl ?_
  refine E_aload pf_0_25 rfl ?_
  refine E_iconst pf_0_26 ?_
  refine P_nI (nn := 4) pf_0_27 rfl rfl rfl rfl ?_
  refine P_putf (x := ob _ [_, _, _, _, _, _, _, _]) pf_0_29 rfl rfl rfl rfl ?_
  refine E_aload pf_0_32 rfl ?_
  refine E_iconst pf_0_33 ?_
  refine P_nI (nn := 24) pf_0_35 rfl rfl rfl rfl ?_
  refine P_putf (x := ob _ [_, _, _, _, _, _, _, _]) pf_0_37 rfl rfl rfl rfl ?_
  refine E_aload pf_0_40 rfl ?_
  refine E_aload pf_0_41 rfl ?_
  refine P_putf (x := ob _ [_, _, _, _, _, _, _, _]) pf_0_42 rfl rfl rfl rfl ?_
  exact Rn_eq (E_vret pf_0_45 rfl) (Prod.ext rfl (wd_eq (And.intro rfl (And.intro rfl (And.intro rfl (And.intro rfl (And.intro rfl (And.intro rfl (trivial))))))) rfl))
theorem rz14 : rz 14 (va_up (va_up (va_up (va_up (va_up (va_up (va_up (va_up (va_up (va_up (va_up (va_up (va_up (va_up (fun _ => none) 0 (some 34)) 1 (some 38)) 2 (some 42)) 3 (some 46)) 4 (some 50)) 5 (some 54)) 6 (some 58)) 7 (some 62)) 8 (some 66)) 9 (some 70)) 10 (some 74)) 11 (some 78)) 12 (some 82)) 13 (some 86)) = rr 14 rq34 := by
  unfold rr rz
  refine congrArg (fun g => (Sum.inl (3, 14, Sum.inr (Sum.inr (Sum.inr (Sum.inr g)))) : pd_E)) ?_
  funext k
  have h : k = 0 ∨ k = 1 ∨ k = 2 ∨ k = 3 ∨ k = 4 ∨ k = 5 ∨ k = 6 ∨ k = 7 ∨ k = 8 ∨ k = 9 ∨ k = 10 ∨ k = 11 ∨ k = 12 ∨ k = 13 ∨ 14 ≤ k := by omega
  rcases h with h | h | h | h | h | h | h | h | h | h | h | h | h | h | h
  · subst h; rfl
  · subst h; rfl
  · subst h; rfl
  · subst h; rfl
  · subst h; rfl
  · subst h; rfl
  · subst h; rfl
  · subst h; rfl
  · subst h; rfl
  · subst h; rfl
  · subst h; rfl
  · subst h; rfl
  · subst h; rfl
  · subst h; rfl
  · unfold va_up
    rw [if_neg (by omega), if_neg (by omega), if_neg (by omega), if_neg (by omega), if_neg (by omega), if_neg (by omega), if_neg (by omega), if_neg (by omega), if_neg (by omega), if_neg (by omega), if_neg (by omega), if_neg (by omega), if_neg (by omega), if_neg (by omega), if_neg (show ¬ k < 14 by omega)]
theorem rz2 : rz 2 (va_up (va_up (fun _ => none) 0 (some 91)) 1 (some 95)) = rr 2 rq91 := by
  unfold rr rz
  refine congrArg (fun g => (Sum.inl (3, 2, Sum.inr (Sum.inr (Sum.inr (Sum.inr g)))) : pd_E)) ?_
  funext k
  have h : k = 0 ∨ k = 1 ∨ 2 ≤ k := by omega
  rcases h with h | h | h
  · subst h; rfl
  · subst h; rfl
  · unfold va_up
    rw [if_neg (by omega), if_neg (by omega), if_neg (show ¬ k < 2 by omega)]
set_option maxRecDepth 100000 in
set_option maxHeartbeats 4000000 in
theorem n21 : ∀ f, Ca 21 [.ref 32] (wd [(32, ob 1 [.int (ii 0), .int (ii 0), .null])] ((32, s, 32), f)) (.inl none, wd [(32, ob 1 [.int (ii 0), .int (ii 0), .ref 33]), (33, rr 14 rq34), (34, ob 4 [.int (ii 0), .ref 35, .int (ii 0), .ref 36, .ref 37, .int (ii 0), .int (ii 0)]), (35, ar 20 (fun _ => 0)), (36, ar 24 (fun _ => 0)), (37, ar 24 (fun _ => 0)), (38, ob 4 [.int (ii 0), .ref 39, .int (ii 0), .ref 40, .ref 41, .int (ii 0), .int (ii 0)]), (39, ar 20 (fun _ => 0)), (40, ar 24 (fun _ => 0)), (41, ar 24 (fun _ => 0)), (42, ob 4 [.int (ii 0), .ref 43, .int (ii 0), .ref 44, .ref 45, .int (ii 0), .int (ii 0)]), (43, ar 20 (fun _ => 0)), (44, ar 24 (fun _ => 0)), (45, ar 24 (fun _ => 0)), (46, ob 4 [.int (ii 0), .ref 47, .int (ii 0), .ref 48, .ref 49, .int (ii 0), .int (ii 0)]), (47, ar 20 (fun _ => 0)), (48, ar 24 (fun _ => 0)), (49, ar 24 (fun _ => 0)), (50, ob 4 [.int (ii 0), .ref 51, .int (ii 0), .ref 52, .ref 53, .int (ii 0), .int (ii 0)]), (51, ar 20 (fun _ => 0)), (52, ar 24 (fun _ => 0)), (53, ar 24 (fun _ => 0)), (54, ob 4 [.int (ii 0), .ref 55, .int (ii 0), .ref 56, .ref 57, .int (ii 0), .int (ii 0)]), (55, ar 20 (fun _ => 0)), (56, ar 24 (fun _ => 0)), (57, ar 24 (fun _ => 0)), (58, ob 4 [.int (ii 0), .ref 59, .int (ii 0), .ref 60, .ref 61, .int (ii 0), .int (ii 0)]), (59, ar 20 (fun _ => 0)), (60, ar 24 (fun _ => 0)), (61, ar 24 (fun _ => 0)), (62, ob 4 [.int (ii 0), .ref 63, .int (ii 0), .ref 64, .ref 65, .int (ii 0), .int (ii 0)]), (63, ar 20 (fun _ => 0)), (64, ar 24 (fun _ => 0)), (65, ar 24 (fun _ => 0)), (66, ob 4 [.int (ii 0), .ref 67, .int (ii 0), .ref 68, .ref 69, .int (ii 0), .int (ii 0)]), (67, ar 20 (fun _ => 0)), (68, ar 24 (fun _ => 0)), (69, ar 24 (fun _ => 0)), (70, ob 4 [.int (ii 0), .ref 71, .int (ii 0), .ref 72, .ref 73, .int (ii 0), .int (ii 0)]), (71, ar 20 (fun _ => 0)), (72, ar 24 (fun _ => 0)), (73, ar 24 (fun _ => 0)), (74, ob 4 [.int (ii 0), .ref 75, .int (ii 0), .ref 76, .ref 77, .int (ii 0), .int (ii 0)]), (75, ar 20 (fun _ => 0)), (76, ar 24 (fun _ => 0)), (77, ar 24 (fun _ => 0)), (78, ob 4 [.int (ii 0), .ref 79, .int (ii 0), .ref 80, .ref 81, .int (ii 0), .int (ii 0)]), (79, ar 20 (fun _ => 0)), (80, ar 24 (fun _ => 0)), (81, ar 24 (fun _ => 0)), (82, ob 4 [.int (ii 0), .ref 83, .int (ii 0), .ref 84, .ref 85, .int (ii 0), .int (ii 0)]), (83, ar 20 (fun _ => 0)), (84, ar 24 (fun _ => 0)), (85, ar 24 (fun _ => 0)), (86, ob 4 [.int (ii 0), .ref 87, .int (ii 0), .ref 88, .ref 89, .int (ii 0), .int (ii 0)]), (87, ar 20 (fun _ => 0)), (88, ar 24 (fun _ => 0)), (89, ar 24 (fun _ => 0))] ((89, s + 14 + 7 + 20 + 24 + 24 + 7 + 20 + 24 + 24 + 7 + 20 + 24 + 24 + 7 + 20 + 24 + 24 + 7 + 20 + 24 + 24 + 7 + 20 + 24 + 24 + 7 + 20 + 24 + 24 + 7 + 20 + 24 + 24 + 7 + 20 + 24 + 24 + 7 + 20 + 24 + 24 + 7 + 20 + 24 + 24 + 7 + 20 + 24 + 24 + 7 + 20 + 24 + 24 + 7 + 20 + 24 + 24, 89), f)) := by
  intro f
  refine E_in (lv := [_, _]) rfl ?_
  refine E_aload pf_21_0 rfl ?_
  refine P_oi pf_21_1 rfl ?_
  refine E_aload pf_21_4 rfl ?_
  refine E_iconst pf_21_5 ?_
  refine P_nR (nn := 14) pf_21_7 rfl rfl rfl rfl ?_
  refine P_putf (x := ob _ [_, _, _]) pf_21_10 rfl rfl rfl rfl ?_
  refine E_iconst pf_21_13 ?_
  refine E_istore (lv' := [_, _]) pf_21_14 rfl rfl ?_
  refine E_iload pf_21_15 rfl ?_
  refine E_iconst pf_21_16 ?_
  refine E_icmp_ge_f pf_21_18 (by omega) ?_
  refine E_aload pf_21_21 rfl ?_
  refine F_getf pf_21_22 rfl rfl rfl ?_
  refine E_iload pf_21_25 rfl ?_
  refine P_new (x := ob 4 [.int (ii 0), .null, .int (ii 0), .null, .null, .int (ii 0), .int (ii 0)]) pf_21_26 rfl rfl rfl rfl rfl ?_
  refine E_dup pf_21_29 rfl ?_
  refine E_s1u pf_21_30 (wd_at rfl) rfl (Ca_nw (n51_34) (And.intro rfl (trivial)) _) ?_
  refine P_aast pf_21_33 rfl rfl (j := 0) rfl rfl rfl ?_
  refine E_iinc (lv' := [_, _]) pf_21_34 rfl rfl ?_
  refine E_goto pf_21_37 ?_
  refine E_iload pf_21_15 rfl ?_
  refine E_iconst pf_21_16 ?_
  refine E_icmp_ge_f pf_21_18 (by omega) ?_
  refine E_aload pf_21_21 rfl ?_
  refine F_getf pf_21_22 rfl rfl rfl ?_
  refine E_iload pf_21_25 rfl ?_
  refine P_new (x := ob 4 [.int (ii 0), .null, .int (ii 0), .null, .null, .int (ii 0), .int (ii 0)]) pf_21_26 rfl rfl rfl rfl rfl ?_
  refine E_dup pf_21_29 rfl ?_
  refine E_s1u pf_21_30 (wd_at rfl) rfl (Ca_nw (n51_38) (And.intro rfl (trivial)) _) ?_
  refine P_aast pf_21_33 rfl rfl (j := 1) rfl rfl rfl ?_
  refine E_iinc (lv' := [_, _]) pf_21_34 rfl rfl ?_
  refine E_goto pf_21_37 ?_
  refine E_iload pf_21_15 rfl ?_
  refine E_iconst pf_21_16 ?_
  refine E_icmp_ge_f pf_21_18 (by omega) ?_
  refine E_aload pf_21_21 rfl ?_
  refine F_getf pf_21_22 rfl rfl rfl ?_
  refine E_iload pf_21_25 rfl ?_
  refine P_new (x := ob 4 [.int (ii 0), .null, .int (ii 0), .null, .null, .int (ii 0), .int (ii 0)]) pf_21_26 rfl rfl rfl rfl rfl ?_
  refine E_dup pf_21_29 rfl ?_
  refine E_s1u pf_21_30 (wd_at rfl) rfl (Ca_nw (n51_42) (And.intro rfl (trivial)) _) ?_
  refine P_aast pf_21_33 rfl rfl (j := 2) rfl rfl rfl ?_
  refine E_iinc (lv' := [_, _]) pf_21_34 rfl rfl ?_
  refine E_goto pf_21_37 ?_
  refine E_iload pf_21_15 rfl ?_
  refine E_iconst pf_21_16 ?_
  refine E_icmp_ge_f pf_21_18 (by omega) ?_
  refine E_aload pf_21_21 rfl ?_
  refine F_getf pf_21_22 rfl rfl rfl ?_
  refine E_iload pf_21_25 rfl ?_
  refine P_new (x := ob 4 [.int (ii 0), .null, .int (ii 0), .null, .null, .int (ii 0), .int (ii 0)]) pf_21_26 rfl rfl rfl rfl rfl ?_
  refine E_dup pf_21_29 rfl ?_
  refine E_s1u pf_21_30 (wd_at rfl) rfl (Ca_nw (n51_46) (And.intro rfl (trivial)) _) ?_
  refine P_aast pf_21_33 rfl rfl (j := 3) rfl rfl rfl ?_
  refine E_iinc (lv' := [_, _]) pf_21_34 rfl rfl ?_
  refine E_goto pf_21_37 ?_
  refine E_iload pf_21_15 rfl ?_
  refine E_iconst pf_21_16 ?_
  refine E_icmp_ge_f pf_21_18 (by omega) ?_
  refine E_aload pf_21_21 rfl ?_
  refine F_getf pf_21_22 rfl rfl rfl ?_
  refine E_iload pf_21_25 rfl ?_
  refine P_new (x := ob 4 [.int (ii 0), .null, .int (ii 0), .null, .null, .int (ii 0), .int (ii 0)]) pf_21_26 rfl rfl rfl rfl rfl ?_
  refine E_dup pf_21_29 rfl ?_
  refine E_s1u pf_21_30 (wd_at rfl) rfl (Ca_nw (n51_50) (And.intro rfl (trivial)) _) ?_
  refine P_aast pf_21_33 rfl rfl (j := 4) rfl rfl rfl ?_
  refine E_iinc (lv' := [_, _]) pf_21_34 rfl rfl ?_
  refine E_goto pf_21_37 ?_
  refine E_iload pf_21_15 rfl ?_
  refine E_iconst pf_21_16 ?_
  refine E_icmp_ge_f pf_21_18 (by omega) ?_
  refine E_aload pf_21_21 rfl ?_
  refine F_getf pf_21_22 rfl rfl rfl ?_
  refine E_iload pf_21_25 rfl ?_
  refine P_new (x := ob 4 [.int (ii 0), .null, .int (ii 0), .null, .null, .int (ii 0), .int (ii 0)]) pf_21_26 rfl rfl rfl rfl rfl ?_
  refine E_dup pf_21_29 rfl ?_
  refine E_s1u pf_21_30 (wd_at rfl) rfl (Ca_nw (n51_54) (And.intro rfl (trivial)) _) ?_
  refine P_aast pf_21_33 rfl rfl (j := 5) rfl rfl rfl ?_
  refine E_iinc (lv' := [_, _]) pf_21_34 rfl rfl ?_
  refine E_goto pf_21_37 ?_
  refine E_iload pf_21_15 rfl ?_
  refine E_iconst pf_21_16 ?_
  refine E_icmp_ge_f pf_21_18 (by omega) ?_
  refine E_aload pf_21_21 rfl ?_
  refine F_getf pf_21_22 rfl rfl rfl ?_
  refine E_iload pf_21_25 rfl ?_
  refine P_new (x := ob 4 [.int (ii 0), .null, .int (ii 0), .null, .null, .int (ii 0), .int (ii 0)]) pf_21_26 rfl rfl rfl rfl rfl ?_
  refine E_dup pf_21_29 rfl ?_
  refine E_s1u pf_21_30 (wd_at rfl) rfl (Ca_nw (n51_58) (And.intro rfl (trivial)) _) ?_
  refine P_aast pf_21_33 rfl rfl (j := 6) rfl rfl rfl ?_
  refine E_iinc (lv' := [_, _]) pf_21_34 rfl rfl ?_
  refine E_goto pf_21_37 ?_
  refine E_iload pf_21_15 rfl ?_
  refine E_iconst pf_21_16 ?_
  refine E_icmp_ge_f pf_21_18 (by omega) ?_
  refine E_aload pf_21_21 rfl ?_
  refine F_getf pf_21_22 rfl rfl rfl ?_
  refine E_iload pf_21_25 rfl ?_
  refine P_new (x := ob 4 [.int (ii 0), .null, .int (ii 0), .null, .null, .int (ii 0), .int (ii 0)]) pf_21_26 rfl rfl rfl rfl rfl ?_
  refine E_dup pf_21_29 rfl ?_
  refine E_s1u pf_21_30 (wd_at rfl) rfl (Ca_nw (n51_62) (And.intro rfl (trivial)) _) ?_
  refine P_aast pf_21_33 rfl rfl (j := 7) rfl rfl rfl ?_
  refine E_iinc (lv' := [_, _]) pf_21_34 rfl rfl ?_
  refine E_goto pf_21_37 ?_
  refine E_iload pf_21_15 rfl ?_
  refine E_iconst pf_21_16 ?_
  refine E_icmp_ge_f pf_21_18 (by omega) ?_
  refine E_aload pf_21_21 rfl ?_
  refine F_getf pf_21_22 rfl rfl rfl ?_
  refine E_iload pf_21_25 rfl ?_
  refine P_new (x := ob 4 [.int (ii 0), .null, .int (ii 0), .null, .null, .int (ii 0), .int (ii 0)]) pf_21_26 rfl rfl rfl rfl rfl ?_
  refine E_dup pf_21_29 rfl ?_
  refine E_s1u pf_21_30 (wd_at rfl) rfl (Ca_nw (n51_66) (And.intro rfl (trivial)) _) ?_
  refine P_aast pf_21_33 rfl rfl (j := 8) rfl rfl rfl ?_
  refine E_iinc (lv' := [_, _]) pf_21_34 rfl rfl ?_
  refine E_goto pf_21_37 ?_
  refine E_iload pf_21_15 rfl ?_
  refine E_iconst pf_21_16 ?_
  refine E_icmp_ge_f pf_21_18 (by omega) ?_
  refine E_aload pf_21_21 rfl ?_
  refine F_getf pf_21_22 rfl rfl rfl ?_
  refine E_iload pf_21_25 rfl ?_
  refine P_new (x := ob 4 [.int (ii 0), .null, .int (ii 0), .null, .null, .int (ii 0), .int (ii 0)]) pf_21_26 rfl rfl rfl rfl rfl ?_
  refine E_dup pf_21_29 rfl ?_
  refine E_s1u pf_21_30 (wd_at rfl) rfl (Ca_nw (n51_70) (And.intro rfl (trivial)) _) ?_
  refine P_aast pf_21_33 rfl rfl (j := 9) rfl rfl rfl ?_
  refine E_iinc (lv' := [_, _]) pf_21_34 rfl rfl ?_
  refine E_goto pf_21_37 ?_
  refine E_iload pf_21_15 rfl ?_
  refine E_iconst pf_21_16 ?_
  refine E_icmp_ge_f pf_21_18 (by omega) ?_
  refine E_aload pf_21_21 rfl ?_
  refine F_getf pf_21_22 rfl rfl rfl ?_
  refine E_iload pf_21_25 rfl ?_
  refine P_new (x := ob 4 [.int (ii 0), .null, .int (ii 0), .null, .null, .int (ii 0), .int (ii 0)]) pf_21_26 rfl rfl rfl rfl rfl ?_
  refine E_dup pf_21_29 rfl ?_
  refine E_s1u pf_21_30 (wd_at rfl) rfl (Ca_nw (n51_74) (And.intro rfl (trivial)) _) ?_
  refine P_aast pf_21_33 rfl rfl (j := 10) rfl rfl rfl ?_
  refine E_iinc (lv' := [_, _]) pf_21_34 rfl rfl ?_
  refine E_goto pf_21_37 ?_
  refine E_iload pf_21_15 rfl ?_
  refine E_iconst pf_21_16 ?_
  refine E_icmp_ge_f pf_21_18 (by omega) ?_
  refine E_aload pf_21_21 rfl ?_
  refine F_getf pf_21_22 rfl rfl rfl ?_
  refine E_iload pf_21_25 rfl ?_
  refine P_new (x := ob 4 [.int (ii 0), .null, .int (ii 0), .null, .null, .int (ii 0), .int (ii 0)]) pf_21_26 rfl rfl rfl rfl rfl ?_
  refine E_dup pf_21_29 rfl ?_
  refine E_s1u pf_21_30 (wd_at rfl) rfl (Ca_nw (n51_78) (And.intro rfl (trivial)) _) ?_
  refine P_aast pf_21_33 rfl rfl (j := 11) rfl rfl rfl ?_
  refine E_iinc (lv' := [_, _]) pf_21_34 rfl rfl ?_
  refine E_goto pf_21_37 ?_
  refine E_iload pf_21_15 rfl ?_
  refine E_iconst pf_21_16 ?_
  refine E_icmp_ge_f pf_21_18 (by omega) ?_
  refine E_aload pf_21_21 rfl ?_
  refine F_getf pf_21_22 rfl rfl rfl ?_
  refine E_iload pf_21_25 rfl ?_
  refine P_new (x := ob 4 [.int (ii 0), .null, .int (ii 0), .null, .null, .int (ii 0), .int (ii 0)]) pf_21_26 rfl rfl rfl rfl rfl ?_
  refine E_dup pf_21_29 rfl ?_
  refine E_s1u pf_21_30 (wd_at rfl) rfl (Ca_nw (n51_82) (And.intro rfl (trivial)) _) ?_
  refine P_aast pf_21_33 rfl rfl (j := 12) rfl rfl rfl ?_
  refine E_iinc (lv' := [_, _]) pf_21_34 rfl rfl ?_
  refine E_goto pf_21_37 ?_
  refine E_iload pf_21_15 rfl ?_
  refine E_iconst pf_21_16 ?_
  refine E_icmp_ge_f pf_21_18 (by omega) ?_
  refine E_aload pf_21_21 rfl ?_
  refine F_getf pf_21_22 rfl rfl rfl ?_
  refine E_iload pf_21_25 rfl ?_
  refine P_new (x := ob 4 [.int (ii 0), .null, .int (ii 0), .null, .null, .int (ii 0), .int (ii 0)]) pf_21_26 rfl rfl rfl rfl rfl ?_
  refine E_dup pf_21_29 rfl ?_
  refine E_s1u pf_21_30 (wd_at rfl) rfl (Ca_nw (n51_86) (And.intro rfl (trivial)) _) ?_
  refine P_aast pf_21_33 rfl rfl (j := 13) rfl rfl rfl ?_
  refine E_iinc (lv' := [_, _]) pf_21_34 rfl rfl ?_
  refine E_goto pf_21_37 ?_
  refine E_iload pf_21_15 rfl ?_
  refine E_iconst pf_21_16 ?_
  refine E_icmp_ge_t pf_21_18 (by omega) ?_
  rw [rz14]
  exact Rn_eq (E_vret pf_21_40 rfl) (Prod.ext rfl (wd_eq (And.intro rfl (And.intro rfl (And.intro rfl (And.intro rfl (And.intro rfl (And.intro rfl (And.intro rfl (And.intro rfl (And.intro rfl (And.intro rfl (And.intro rfl (And.intro rfl (And.intro rfl (And.intro rfl (And.intro rfl (And.intro rfl (And.intro rfl (And.intro rfl (And.intro rfl (And.intro rfl (And.intro rfl (And.intro rfl (And.intro rfl (And.intro rfl (And.intro rfl (And.intro rfl (And.intro rfl (And.intro rfl (And.intro rfl (And.intro rfl (And.intro rfl (And.intro rfl (And.intro rfl (And.intro rfl (And.intro rfl (And.intro rfl (And.intro rfl (And.intro rfl (And.intro rfl (And.intro rfl (And.intro rfl (And.intro rfl (And.intro rfl (And.intro rfl (And.intro rfl (And.intro rfl (And.intro rfl (And.intro rfl (And.intro rfl (And.intro rfl (And.intro rfl (And.intro rfl (And.intro rfl (And.intro rfl (And.intro rfl (And.intro rfl (And.intro rfl (And.intro rfl (trivial))))))))))))))))))))))))))))))))))))))))))))))))))))))))))) rfl))
end NEW2
