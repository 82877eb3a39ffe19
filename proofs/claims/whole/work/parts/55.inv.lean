/-! All cells, and what holds between calls. -/
abbrev FR (L : Nat) (xs : Int → Int) (tl : Int) (T sv : Int → Int) (dn vn rn : Nat) (kd : Int) (c : Nat) (F : Nat → Int) (X : Nat → Int → Int) (S Tr : pg) (W : Nat → pg) : pd_L := [(0, sr L xs), (1, oPD tl), (102, oX6 (F 20) tl (F 22) (dn : Int) kd (vn : Int) (rn : Int) (F 27) (F 28) (F 29) (F 30) (c : Int)), (116, lr 1 (X 116)), (13, oP (dn : Int) kd (vn : Int)), (14, ar 96 (X 14)), (24, pst 24 S), (25, ar 20 S.2.1), (26, ar 24 S.2.2.2.1), (27, ar 24 S.2.2.2.2.1), (18, oD (F 13) (F 14)), (19, ar 4 (X 19)), (20, ar 4 (X 20)), (21, lr 4 (X 21)), (22, ar 4 (X 22)), (23, ar 24 (X 23)), (104, ar 128 (X 104)), (107, ar 72 (X 107)), (112, ar 24 (X 112)), (113, lr 4 (X 113)), (114, lr 4 (X 114)), (108, ar 72 (X 108)), (28, pst 28 Tr), (29, ar 20 Tr.2.1), (30, ar 24 Tr.2.2.2.1), (31, ar 24 Tr.2.2.2.2.1), (109, ar 1008 (X 109)), (2, ar 90 T), (103, ar 90 T), (99, br 2 sv), (111, br 2 sv), (110, ar 144 (X 110)), (17, ar 4 (X 17)), (100, lr 4 (X 100)), (101, ar 4 (X 101)), (3, oR (F 1) (F 2)), (4, ar 4 (X 4)), (5, oP5 (F 3) (F 4) (F 5)), (6, ar 96 (X 6)), (7, ar 4 (X 7)), (8, ar 4 (X 8)), (9, oS9 (F 6) (F 7) (F 8) (F 9)), (10, ar 20 (X 10)), (11, ar 24 (X 11)), (12, ar 24 (X 12)), (105, ar 128 (X 105)), (106, ar 72 (X 106)), (115, ar 4 (X 115)), (90, sl90), (91, pst 91 (W 0)), (92, ar 20 (W 0).2.1), (93, ar 24 (W 0).2.2.2.1), (94, ar 24 (W 0).2.2.2.2.1), (95, pst 95 (W 1)), (96, ar 20 (W 1).2.1), (97, ar 24 (W 1).2.2.2.1), (98, ar 24 (W 1).2.2.2.2.1), (15, ar 4 (X 15)), (16, ar 4 (X 16))]
def fu (F : Nat → Int) (a : Nat) (x : Int) : Nat → Int := fun b => if b = a then x else F b
def xu (X : Nat → Int → Int) (a : Nat) (q : Int → Int) : Nat → Int → Int := fun b => if b = a then q else X b
def Rl (tl : Int) (T sv : Int → Int) (dn vn rn c nx : Nat) (X : Nat → Int → Int) (S : pg) (M W : Nat → pg) : Prop := (0 ≤ tl ∧ tl ≤ 90) ∧ (∀ i, 0 ≤ T i ∧ T i ≤ 255) ∧ (∀ q, -9 ≤ (X 6) q ∧ X 6 q ≤ 9) ∧ (∀ q, -9 ≤ (X 105) q ∧ X 105 q ≤ 9) ∧ (∀ q, -9 ≤ (X 115) q ∧ X 115 q ≤ 9) ∧ plk dn vn rn (X 14) (X 104) ∧ okp vn rn S (X 107) ∧ memk vn rn c nx M (X 109) ∧ (sv 0 = 0 ∨ (sv 0 = 1 ∧ okp vn rn (W 0) (fun k => X 110 (72 * 0 + k)))) ∧ (sv 1 = 0 ∨ (sv 1 = 1 ∧ okp vn rn (W 1) (fun k => X 110 (72 * 1 + k))))
def Inv (L : Nat) (xs : Int → Int) (n : Nat) (H : pd_H) : Prop := ∃ (tl : Int) (T sv : Int → Int) (dn vn rn : Nat) (kd : Int) (c nx : Nat) (F : Nat → Int) (X : Nat → Int → Int) (S Tr : pg) (M W : Nat → pg) (h : pd_H), H = wd (FR L xs tl T sv dn vn rn kd c F X S Tr W) (wd (LMm (c : Int) (nx : Int) M) h) ∧ Rl tl T sv dn vn rn c nx X S M W ∧ h.1.1 ≤ 200 + n ∧ h.1.2.1 ≤ 10000 + 6 * n
/-- the cells of l with what lc says of them -/
def wmg : pd_L → pd_L → pd_L
  | [], _ => []
  | q :: l, lc => (q.1, (wl lc q.1).getD q.2) :: wmg l lc
theorem wl_mg (l lc : pd_L) (a : Nat) : wl (wmg l lc) a = (wl l a).map (fun x => (wl lc a).getD x) := by
  induction l with
  | nil => rfl
  | cons q l ih =>
    simp only [wmg, wl]
    by_cases e : a = q.1
    · rw [if_pos e, if_pos e, e]; rfl
    · rw [if_neg e, if_neg e, ih]
theorem wad_at {l lc : pd_L} (h : wad l lc = true) {a : Nat} (e : wl l a = none) : wl lc a = none := by
  induction lc with
  | nil => rfl
  | cons q r ih =>
    simp only [wad, Bool.and_eq_true] at h
    simp only [wl]
    by_cases g : a = q.1
    · rw [← g, e] at h; exact absurd h.1 (by simp)
    · rw [if_neg g]; exact ih h.2
theorem wd_mg {l lc : pd_L} {h : pd_H} (e : wad l lc = true) : wd lc (wd l h) = wd (wmg l lc) h := by
  refine pd_ext ?_ fun a => ?_
  · rw [wd_1, wd_1, wd_1]
  · rw [wd_get, wd_get, wd_get, wl_mg]
    cases hl : wl l a with
    | none => rw [wad_at e hl]; rfl
    | some x => cases wl lc a <;> rfl
theorem Ca_fg {c : Nat} {as : List Value} {lc lc' l l' : pd_L} {v : pd_Out} (hc : ∀ h, Ca c as (wd lc h) (v, wd lc' h)) (hs : wsub l lc) (ha : wad l lc' = true) (hm : wmg l lc' = l') : ∀ h, Ca c as (wd l h) (v, wd l' h) := by
  intro h
  have := hc (wd l h)
  rw [wd_same hs, wd_mg ha, hm] at this
  exact this
theorem Ca_fgx {c : Nat} {as : List Value} {lc lc' l l' : pd_L} {v : pd_Out} (hc : ∀ h, Ca c as (wd lc h) (v, pd_thr (wd lc' h))) (hs : wsub l lc) (ha : wad l lc' = true) (hm : wmg l lc' = l') : ∀ h, Ca c as (wd l h) (v, pd_thr (wd l' h)) := by
  intro h
  have := hc (wd l h)
  rw [wd_same hs, wd_mg ha, hm] at this
  exact this
theorem Ca_fg2 {c : Nat} {as : List Value} {ls ls' l l' lm lm' : pd_L} {v : pd_Out} {h : pd_H} (hc : ∀ h, Ca c as (wd ls (wd lm h)) (v, wd ls' (wd lm' h))) (hs : wsub l ls) (ha : wad l ls' = true) (hm : wmg l ls' = l') (hd : wrg l = true) (h1 : wrm lm = true) (h2 : wrm lm' = true) : Ca c as (wd l (wd lm h)) (v, wd l' (wd lm' h)) := by
  have := hc (wd l h)
  rw [wd_comm hd h1, wd_comm hd h2, wd_same hs, wd_mg ha, hm] at this
  exact this
theorem Ca_fgx2 {c : Nat} {as : List Value} {ls ls' l l' lm : pd_L} {v : pd_Out} {h : pd_H} (hc : ∀ h, Ca c as (wd ls (wd lm h)) (v, pd_thr (wd ls' (wd lm h)))) (hs : wsub l ls) (ha : wad l ls' = true) (hm : wmg l ls' = l') (hd : wrg l = true) (h1 : wrm lm = true) : Ca c as (wd l (wd lm h)) (v, pd_thr (wd l' (wd lm h))) := by
  have := hc (wd l h)
  rw [wd_comm hd h1, wd_same hs, wd_mg ha, hm] at this
  exact this
theorem put_wd {c a : Nat} {as : List Value} {h0 h' : pd_H} {v : pd_Out} {l : pd_L} {e : pd_E} (hA : Ca c as h0 (v, pd_put (wd l h') a e)) (q : (wl l a).isSome = true) : Ca c as h0 (v, wd (ws l a e) h') := by rw [wd_put q] at hA; exact hA
theorem thr_c {c : Nat} {as : List Value} {h0 h : pd_H} {v : pd_Out} {l lm : pd_L} (hA : Ca c as h0 (v, pd_thr (wd l (wd lm h)))) : Ca c as h0 (v, wd l (wd lm (pd_thr h))) := by rw [thr_wd, thr_wd] at hA; exact hA
theorem wd_pt {l : pd_L} {h : pd_H} {a : Nat} {c : pd_E} (e : (wl l a).isSome = true) : pd_put (wd l h) a c = wd (ws l a c) h := wd_put e
theorem thr2 (l lm : pd_L) (h : pd_H) : pd_thr (wd l (wd lm h)) = wd l (wd lm (pd_thr h)) := by rw [thr_wd, thr_wd]
