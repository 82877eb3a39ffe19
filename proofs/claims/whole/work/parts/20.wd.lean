/-! Heaps written out: a list of places over any heap; reads and writes by computing, calls by their own places. -/
abbrev pd_L : Type := List (Nat × pd_E)
def wd : pd_L → pd_H → pd_H
  | [], h => h
  | q :: l, h => pd_put (wd l h) q.1 q.2
def wl : pd_L → Nat → Option pd_E
  | [], _ => none
  | q :: l, a => if a = q.1 then some q.2 else wl l a
def ws : pd_L → Nat → pd_E → pd_L
  | [], _, _ => []
  | q :: l, a, c => if a = q.1 then (q.1, c) :: l else q :: ws l a c
def wsm : pd_L → pd_L → pd_L
  | l, [] => l
  | l, q :: r => ws (wsm l r) q.1 q.2
/-- the places of lc stand in l -/
def wsub (l : pd_L) : pd_L → Prop
  | [] => True
  | q :: r => wl l q.1 = some q.2 ∧ wsub l r
/-- the addresses of lc stand in l -/
def wad (l : pd_L) : pd_L → Bool
  | [] => true
  | q :: r => (wl l q.1).isSome && wad l r
theorem pd_ext {h h' : pd_H} (e : h.1 = h'.1) (g : ∀ a, pd_get h a = pd_get h' a) : h = h' := Prod.ext e (funext g)
theorem wd_1 (l : pd_L) (h : pd_H) : (wd l h).1 = h.1 := by
  induction l with
  | nil => rfl
  | cons q l ih => exact ih
theorem wd_get (l : pd_L) (h : pd_H) (a : Nat) : pd_get (wd l h) a = (wl l a).getD (pd_get h a) := by
  induction l with
  | nil => rfl
  | cons q l ih =>
    simp only [wd, wl]
    by_cases e : a = q.1
    · rw [if_pos e, e, g_s]; rfl
    · rw [if_neg e, g_n _ _ e, ih]
theorem wd_at {l : pd_L} {h : pd_H} {a : Nat} {c : pd_E} (e : wl l a = some c) : pd_get (wd l h) a = c := by rw [wd_get, e]; rfl
theorem wd_out {l : pd_L} {h : pd_H} {a : Nat} (e : wl l a = none) : pd_get (wd l h) a = pd_get h a := by rw [wd_get, e]; rfl
theorem wl_ws {l : pd_L} {a b : Nat} {c : pd_E} (h : (wl l a).isSome = true) : wl (ws l a c) b = if b = a then some c else wl l b := by
  induction l with
  | nil => simp [wl] at h
  | cons q l ih =>
    simp only [ws]
    by_cases e : a = q.1
    · rw [if_pos e]
      simp only [wl]
      by_cases e2 : b = q.1
      · rw [if_pos e2, if_pos (by omega)]
      · rw [if_neg e2, if_neg (by omega), if_neg e2]
    · rw [if_neg e]
      simp only [wl, if_neg e] at h ⊢
      by_cases e2 : b = q.1
      · rw [if_pos e2, if_neg (by omega), if_pos e2]
      · rw [if_neg e2, ih h, if_neg e2]
theorem wd_put {l : pd_L} {h : pd_H} {a : Nat} {c : pd_E} (e : (wl l a).isSome = true) : pd_put (wd l h) a c = wd (ws l a c) h := by
  refine pd_ext ?_ fun b => ?_
  · rw [wd_1]; show (wd l h).1 = h.1; exact wd_1 l h
  · rw [wd_get, wl_ws e]
    by_cases q : b = a
    · rw [q, g_s, if_pos rfl]; rfl
    · rw [g_n _ _ q, if_neg q, wd_get]
theorem wd_same {l lc : pd_L} {h : pd_H} (e : wsub l lc) : wd lc (wd l h) = wd l h := by
  induction lc with
  | nil => rfl
  | cons q r ih =>
    obtain ⟨e1, e2⟩ := e
    show pd_put (wd r (wd l h)) q.1 q.2 = wd l h
    rw [ih e2]
    refine pd_ext rfl fun b => ?_
    by_cases k : b = q.1
    · rw [k, g_s, wd_at e1]
    · rw [g_n _ _ k]
theorem wad_wsm {l lc : pd_L} (e : wad l lc = true) : ∀ a, (wl l a).isSome = true → (wl (wsm l lc) a).isSome = true := by
  induction lc with
  | nil => intro a h; exact h
  | cons q r ih =>
    simp only [wad, Bool.and_eq_true] at e
    intro a h
    simp only [wsm]
    rw [wl_ws (ih e.2 _ e.1)]
    split
    · rfl
    · exact ih e.2 a h
theorem wd_merge {l lc : pd_L} {h : pd_H} (e : wad l lc = true) : wd lc (wd l h) = wd (wsm l lc) h := by
  induction lc with
  | nil => rfl
  | cons q r ih =>
    simp only [wad, Bool.and_eq_true] at e
    show pd_put (wd r (wd l h)) q.1 q.2 = wd (ws (wsm l r) q.1 q.2) h
    rw [ih e.2]
    exact wd_put (wad_wsm e.2 _ e.1)
/-- a heap whose cells are known, written out -/
def wok (h : pd_H) : pd_L → Prop
  | [] => True
  | q :: r => pd_get h q.1 = q.2 ∧ wok h r
theorem wd_self {h : pd_H} {l : pd_L} (e : wok h l) : wd l h = h := by
  induction l with
  | nil => rfl
  | cons q r ih =>
    obtain ⟨e1, e2⟩ := e
    show pd_put (wd r h) q.1 q.2 = h
    rw [ih e2]
    refine pd_ext rfl fun b => ?_
    by_cases k : b = q.1
    · rw [k, g_s, e1]
    · rw [g_n _ _ k]
section PDWR
variable {mi pc np : Nat} {lv lv' st : List Value} {h : pd_H} {r : pd_Out × pd_H} {l l' lc lc' : pd_L}
theorem F_iald {i : Int} {a n : Nat} {q : Int → Int} (f : pd_fetch mi pc = some (.iaload, np)) (hg : wl l a = some (ar n q)) (e : 0 ≤ i ∧ i < n ∧ i ≤ 2147483647) (k : Rn mi np lv (.int (ii (q i)) :: st) (wd l h) r) : Rn mi pc lv (.int (ii i) :: .ref a :: st) (wd l h) r := E_iald f (wd_at hg) e k
theorem F_sald {i : Int} {a n : Nat} {q : Int → Int} (f : pd_fetch mi pc = some (.iaload, np)) (hg : wl l a = some (sr n q)) (e : 0 ≤ i ∧ i < n ∧ i ≤ 2147483647) (k : Rn mi np lv (.int (ii (q i)) :: st) (wd l h) r) : Rn mi pc lv (.int (ii i) :: .ref a :: st) (wd l h) r := E_sald f (wd_at hg) e k
theorem F_lald {i : Int} {a n : Nat} {q : Int → Int} (f : pd_fetch mi pc = some (.laload, np)) (hg : wl l a = some (lr n q)) (e : 0 ≤ i ∧ i < n ∧ i ≤ 2147483647) (k : Rn mi np lv (.long (ll (q i)) :: st) (wd l h) r) : Rn mi pc lv (.int (ii i) :: .ref a :: st) (wd l h) r := E_lald f (wd_at hg) e k
theorem F_bald {i : Int} {a n : Nat} {q : Int → Int} (f : pd_fetch mi pc = some (.baload, np)) (hg : wl l a = some (br n q)) (e : 0 ≤ i ∧ i < n ∧ i ≤ 2147483647) (k : Rn mi np lv (.int (ii (q i)) :: st) (wd l h) r) : Rn mi pc lv (.int (ii i) :: .ref a :: st) (wd l h) r := E_bald f (wd_at hg) e k
theorem F_aald {i : Int} {a n : Nat} {q : Int → Nat} (f : pd_fetch mi pc = some (.aaload, np)) (hg : wl l a = some (rr n q)) (e : 0 ≤ i ∧ i < n ∧ i ≤ 2147483647) (k : Rn mi np lv (.ref (q i) :: st) (wd l h) r) : Rn mi pc lv (.int (ii i) :: .ref a :: st) (wd l h) r := E_aald f (wd_at hg) e k
theorem F_iast {i x : Int} {a n : Nat} {q : Int → Int} (f : pd_fetch mi pc = some (.iastore, np)) (hg : wl l a = some (ar n q)) (e : 0 ≤ i ∧ i < n ∧ i ≤ 2147483647) (hl : ws l a (ar n (zu q i x)) = l') (k : Rn mi np lv st (wd l' h) r) : Rn mi pc lv (.int (ii x) :: .int (ii i) :: .ref a :: st) (wd l h) r := E_iast f (wd_at hg) e (by rw [wd_put (by rw [hg]; rfl), hl]; exact k)
theorem F_last {i x : Int} {a n : Nat} {q : Int → Int} (f : pd_fetch mi pc = some (.lastore, np)) (hg : wl l a = some (lr n q)) (e : 0 ≤ i ∧ i < n ∧ i ≤ 2147483647) (hl : ws l a (lr n (zu q i x)) = l') (k : Rn mi np lv st (wd l' h) r) : Rn mi pc lv (.long (ll x) :: .int (ii i) :: .ref a :: st) (wd l h) r := E_last f (wd_at hg) e (by rw [wd_put (by rw [hg]; rfl), hl]; exact k)
theorem F_bast {i x : Int} {a n : Nat} {q : Int → Int} (f : pd_fetch mi pc = some (.bastore, np)) (hg : wl l a = some (br n q)) (e : 0 ≤ i ∧ i < n ∧ i ≤ 2147483647) (hx : x = 0 ∨ x = 1) (hl : ws l a (br n (zu q i x)) = l') (k : Rn mi np lv st (wd l' h) r) : Rn mi pc lv (.int (ii x) :: .int (ii i) :: .ref a :: st) (wd l h) r := E_bast f (wd_at hg) e hx (by rw [wd_put (by rw [hg]; rfl), hl]; exact k)
theorem F_alenI {a n : Nat} {q : Int → Int} (f : pd_fetch mi pc = some (.arraylength, np)) (hg : wl l a = some (ar n q)) (k : Rn mi np lv (.int (ii (n : Int)) :: st) (wd l h) r) : Rn mi pc lv (.ref a :: st) (wd l h) r := E_alenI f (wd_at hg) k
theorem F_alenS {a n : Nat} {q : Int → Int} (f : pd_fetch mi pc = some (.arraylength, np)) (hg : wl l a = some (sr n q)) (k : Rn mi np lv (.int (ii (n : Int)) :: st) (wd l h) r) : Rn mi pc lv (.ref a :: st) (wd l h) r := E_alenS f (wd_at hg) k
theorem F_getf {a c ci : Nat} {fs : List Value} {v : Value} (f : pd_fetch mi pc = some (.getfield c, np)) (hg : wl l a = some (ob ci fs)) (hc : ci = c / 100) (hv : fs[c % 100]? = some v) (k : Rn mi np lv (v :: st) (wd l h) r) : Rn mi pc lv (.ref a :: st) (wd l h) r := E_getf f (wd_at hg) hc hv k
theorem F_putf {a c ci : Nat} {fs : List Value} {x : pd_E} {v : Value} (f : pd_fetch mi pc = some (.putfield c, np)) (hg : wl l a = some (ob ci fs)) (hc : ci = c / 100) (hx : (Nat.blt (c % 100) fs.length && (Nat.blt (c % 100) (pd_fn ci) && pd_fit (pd_ty ci (c % 100)) v)) = true) (hv : ob ci (fs.set (c % 100) v) = x) (hl : ws l a x = l') (k : Rn mi np lv st (wd l' h) r) : Rn mi pc lv (v :: .ref a :: st) (wd l h) r := E_putf f (wd_at hg) hc hx rfl (by rw [wd_put (by rw [hg]; rfl), hv, hl]; exact k)
theorem F_acopy {sp dp n : Int} {a d n0 n1 : Nat} {q g : Int → Int} (f : pd_fetch mi pc = some (.invokestatic 1004, np)) (hg : wl l a = some (ar n0 q)) (hd : wl l d = some (ar n1 g)) (e : (0 ≤ sp ∧ 0 ≤ dp ∧ 0 ≤ n) ∧ sp + n ≤ n0 ∧ dp + n ≤ n1 ∧ sp + n ≤ 2147483647 ∧ dp + n ≤ 2147483647) (hx : Nat.ble (pd_cat st) 8 = true) (hl : ws l d (ar n1 (zcpy q g sp dp n)) = l') (k : Rn mi np lv st (wd l' h) r) : Rn mi pc lv (.int (ii n) :: .int (ii dp) :: .ref d :: .int (ii sp) :: .ref a :: st) (wd l h) r := E_acopy f (wd_at hg) (wd_at hd) e hx (by rw [wd_put (by rw [hd]; rfl), hl]; exact k)
theorem F_c0v {c : Nat} {v : Value} (f : pd_fetch mi pc = some (.invokestatic c, np)) (hc : ∀ h, Ca c [] (wd lc h) (.inl (some v), wd lc' h)) (hs : wsub l lc) (ha : wad l lc' = true) (hm : wsm l lc' = l') (hx : pd_chk (.invokestatic c) c [] st = true) (k : Rn mi np lv (v :: st) (wd l' h) r) : Rn mi pc lv (st) (wd l h) r := by
  have hc' : Ca c [] (wd l h) (.inl (some v), wd l' h) := by have := hc (wd l h); rw [wd_same hs, wd_merge ha, hm] at this; exact this
  exact E_c0v f hx hc' k
theorem F_c0v0 {c : Nat} {v : Value} (f : pd_fetch mi pc = some (.invokestatic c, np)) (hc : ∀ h, Ca c [] (wd lc h) (.inl (some v), wd lc h)) (hs : wsub l lc) (hx : pd_chk (.invokestatic c) c [] st = true) (k : Rn mi np lv (v :: st) (wd l h) r) : Rn mi pc lv (st) (wd l h) r := by
  have hc' : Ca c [] (wd l h) (.inl (some v), wd l h) := by have := hc (wd l h); rw [wd_same hs] at this; exact this
  exact E_c0v f hx hc' k
theorem F_c0u {c : Nat} (f : pd_fetch mi pc = some (.invokestatic c, np)) (hc : ∀ h, Ca c [] (wd lc h) (.inl none, wd lc' h)) (hs : wsub l lc) (ha : wad l lc' = true) (hm : wsm l lc' = l') (hx : pd_chk (.invokestatic c) c [] st = true) (k : Rn mi np lv st (wd l' h) r) : Rn mi pc lv (st) (wd l h) r := by
  have hc' : Ca c [] (wd l h) (.inl none, wd l' h) := by have := hc (wd l h); rw [wd_same hs, wd_merge ha, hm] at this; exact this
  exact E_c0u f hx hc' k
theorem F_c0u0 {c : Nat} (f : pd_fetch mi pc = some (.invokestatic c, np)) (hc : ∀ h, Ca c [] (wd lc h) (.inl none, wd lc h)) (hs : wsub l lc) (hx : pd_chk (.invokestatic c) c [] st = true) (k : Rn mi np lv st (wd l h) r) : Rn mi pc lv (st) (wd l h) r := by
  have hc' : Ca c [] (wd l h) (.inl none, wd l h) := by have := hc (wd l h); rw [wd_same hs] at this; exact this
  exact E_c0u f hx hc' k
theorem F_c1v {c : Nat} {a1 : Value} {v : Value} (f : pd_fetch mi pc = some (.invokestatic c, np)) (hc : ∀ h, Ca c [a1] (wd lc h) (.inl (some v), wd lc' h)) (hs : wsub l lc) (ha : wad l lc' = true) (hm : wsm l lc' = l') (hx : pd_chk (.invokestatic c) c [a1] st = true) (k : Rn mi np lv (v :: st) (wd l' h) r) : Rn mi pc lv (a1 :: st) (wd l h) r := by
  have hc' : Ca c [a1] (wd l h) (.inl (some v), wd l' h) := by have := hc (wd l h); rw [wd_same hs, wd_merge ha, hm] at this; exact this
  exact E_c1v f hx hc' k
theorem F_c1v0 {c : Nat} {a1 : Value} {v : Value} (f : pd_fetch mi pc = some (.invokestatic c, np)) (hc : ∀ h, Ca c [a1] (wd lc h) (.inl (some v), wd lc h)) (hs : wsub l lc) (hx : pd_chk (.invokestatic c) c [a1] st = true) (k : Rn mi np lv (v :: st) (wd l h) r) : Rn mi pc lv (a1 :: st) (wd l h) r := by
  have hc' : Ca c [a1] (wd l h) (.inl (some v), wd l h) := by have := hc (wd l h); rw [wd_same hs] at this; exact this
  exact E_c1v f hx hc' k
theorem F_c1u {c : Nat} {a1 : Value} (f : pd_fetch mi pc = some (.invokestatic c, np)) (hc : ∀ h, Ca c [a1] (wd lc h) (.inl none, wd lc' h)) (hs : wsub l lc) (ha : wad l lc' = true) (hm : wsm l lc' = l') (hx : pd_chk (.invokestatic c) c [a1] st = true) (k : Rn mi np lv st (wd l' h) r) : Rn mi pc lv (a1 :: st) (wd l h) r := by
  have hc' : Ca c [a1] (wd l h) (.inl none, wd l' h) := by have := hc (wd l h); rw [wd_same hs, wd_merge ha, hm] at this; exact this
  exact E_c1u f hx hc' k
theorem F_c1u0 {c : Nat} {a1 : Value} (f : pd_fetch mi pc = some (.invokestatic c, np)) (hc : ∀ h, Ca c [a1] (wd lc h) (.inl none, wd lc h)) (hs : wsub l lc) (hx : pd_chk (.invokestatic c) c [a1] st = true) (k : Rn mi np lv st (wd l h) r) : Rn mi pc lv (a1 :: st) (wd l h) r := by
  have hc' : Ca c [a1] (wd l h) (.inl none, wd l h) := by have := hc (wd l h); rw [wd_same hs] at this; exact this
  exact E_c1u f hx hc' k
theorem F_v1v {c a ci : Nat} {fs : List Value} {v : Value} (f : pd_fetch mi pc = some (.invokevirtual c, np)) (hc : ∀ h, Ca c [.ref a] (wd lc h) (.inl (some v), wd lc' h)) (hs : wsub l lc) (ha : wad l lc' = true) (hm : wsm l lc' = l') (hg : wl l a = some (ob ci fs)) (hx : (pd_chk (.invokevirtual c) c [.ref a] st && ci == pd_o c) = true) (k : Rn mi np lv (v :: st) (wd l' h) r) : Rn mi pc lv (.ref a :: st) (wd l h) r := by
  have hc' : Ca c [.ref a] (wd l h) (.inl (some v), wd l' h) := by have := hc (wd l h); rw [wd_same hs, wd_merge ha, hm] at this; exact this
  exact E_v1v f (wd_at hg) hx hc' k
theorem F_v1v0 {c a ci : Nat} {fs : List Value} {v : Value} (f : pd_fetch mi pc = some (.invokevirtual c, np)) (hc : ∀ h, Ca c [.ref a] (wd lc h) (.inl (some v), wd lc h)) (hs : wsub l lc) (hg : wl l a = some (ob ci fs)) (hx : (pd_chk (.invokevirtual c) c [.ref a] st && ci == pd_o c) = true) (k : Rn mi np lv (v :: st) (wd l h) r) : Rn mi pc lv (.ref a :: st) (wd l h) r := by
  have hc' : Ca c [.ref a] (wd l h) (.inl (some v), wd l h) := by have := hc (wd l h); rw [wd_same hs] at this; exact this
  exact E_v1v f (wd_at hg) hx hc' k
theorem F_v1u {c a ci : Nat} {fs : List Value} (f : pd_fetch mi pc = some (.invokevirtual c, np)) (hc : ∀ h, Ca c [.ref a] (wd lc h) (.inl none, wd lc' h)) (hs : wsub l lc) (ha : wad l lc' = true) (hm : wsm l lc' = l') (hg : wl l a = some (ob ci fs)) (hx : (pd_chk (.invokevirtual c) c [.ref a] st && ci == pd_o c) = true) (k : Rn mi np lv st (wd l' h) r) : Rn mi pc lv (.ref a :: st) (wd l h) r := by
  have hc' : Ca c [.ref a] (wd l h) (.inl none, wd l' h) := by have := hc (wd l h); rw [wd_same hs, wd_merge ha, hm] at this; exact this
  exact E_v1u f (wd_at hg) hx hc' k
theorem F_v1u0 {c a ci : Nat} {fs : List Value} (f : pd_fetch mi pc = some (.invokevirtual c, np)) (hc : ∀ h, Ca c [.ref a] (wd lc h) (.inl none, wd lc h)) (hs : wsub l lc) (hg : wl l a = some (ob ci fs)) (hx : (pd_chk (.invokevirtual c) c [.ref a] st && ci == pd_o c) = true) (k : Rn mi np lv st (wd l h) r) : Rn mi pc lv (.ref a :: st) (wd l h) r := by
  have hc' : Ca c [.ref a] (wd l h) (.inl none, wd l h) := by have := hc (wd l h); rw [wd_same hs] at this; exact this
  exact E_v1u f (wd_at hg) hx hc' k
theorem F_c2v {c : Nat} {a1 a2 : Value} {v : Value} (f : pd_fetch mi pc = some (.invokestatic c, np)) (hc : ∀ h, Ca c [a1, a2] (wd lc h) (.inl (some v), wd lc' h)) (hs : wsub l lc) (ha : wad l lc' = true) (hm : wsm l lc' = l') (hx : pd_chk (.invokestatic c) c [a1, a2] st = true) (k : Rn mi np lv (v :: st) (wd l' h) r) : Rn mi pc lv (a2 :: a1 :: st) (wd l h) r := by
  have hc' : Ca c [a1, a2] (wd l h) (.inl (some v), wd l' h) := by have := hc (wd l h); rw [wd_same hs, wd_merge ha, hm] at this; exact this
  exact E_c2v f hx hc' k
theorem F_c2v0 {c : Nat} {a1 a2 : Value} {v : Value} (f : pd_fetch mi pc = some (.invokestatic c, np)) (hc : ∀ h, Ca c [a1, a2] (wd lc h) (.inl (some v), wd lc h)) (hs : wsub l lc) (hx : pd_chk (.invokestatic c) c [a1, a2] st = true) (k : Rn mi np lv (v :: st) (wd l h) r) : Rn mi pc lv (a2 :: a1 :: st) (wd l h) r := by
  have hc' : Ca c [a1, a2] (wd l h) (.inl (some v), wd l h) := by have := hc (wd l h); rw [wd_same hs] at this; exact this
  exact E_c2v f hx hc' k
theorem F_c2u {c : Nat} {a1 a2 : Value} (f : pd_fetch mi pc = some (.invokestatic c, np)) (hc : ∀ h, Ca c [a1, a2] (wd lc h) (.inl none, wd lc' h)) (hs : wsub l lc) (ha : wad l lc' = true) (hm : wsm l lc' = l') (hx : pd_chk (.invokestatic c) c [a1, a2] st = true) (k : Rn mi np lv st (wd l' h) r) : Rn mi pc lv (a2 :: a1 :: st) (wd l h) r := by
  have hc' : Ca c [a1, a2] (wd l h) (.inl none, wd l' h) := by have := hc (wd l h); rw [wd_same hs, wd_merge ha, hm] at this; exact this
  exact E_c2u f hx hc' k
theorem F_c2u0 {c : Nat} {a1 a2 : Value} (f : pd_fetch mi pc = some (.invokestatic c, np)) (hc : ∀ h, Ca c [a1, a2] (wd lc h) (.inl none, wd lc h)) (hs : wsub l lc) (hx : pd_chk (.invokestatic c) c [a1, a2] st = true) (k : Rn mi np lv st (wd l h) r) : Rn mi pc lv (a2 :: a1 :: st) (wd l h) r := by
  have hc' : Ca c [a1, a2] (wd l h) (.inl none, wd l h) := by have := hc (wd l h); rw [wd_same hs] at this; exact this
  exact E_c2u f hx hc' k
theorem F_v2v {c a ci : Nat} {fs : List Value} {a2 : Value} {v : Value} (f : pd_fetch mi pc = some (.invokevirtual c, np)) (hc : ∀ h, Ca c [.ref a, a2] (wd lc h) (.inl (some v), wd lc' h)) (hs : wsub l lc) (ha : wad l lc' = true) (hm : wsm l lc' = l') (hg : wl l a = some (ob ci fs)) (hx : (pd_chk (.invokevirtual c) c [.ref a, a2] st && ci == pd_o c) = true) (k : Rn mi np lv (v :: st) (wd l' h) r) : Rn mi pc lv (a2 :: .ref a :: st) (wd l h) r := by
  have hc' : Ca c [.ref a, a2] (wd l h) (.inl (some v), wd l' h) := by have := hc (wd l h); rw [wd_same hs, wd_merge ha, hm] at this; exact this
  exact E_v2v f (wd_at hg) hx hc' k
theorem F_v2v0 {c a ci : Nat} {fs : List Value} {a2 : Value} {v : Value} (f : pd_fetch mi pc = some (.invokevirtual c, np)) (hc : ∀ h, Ca c [.ref a, a2] (wd lc h) (.inl (some v), wd lc h)) (hs : wsub l lc) (hg : wl l a = some (ob ci fs)) (hx : (pd_chk (.invokevirtual c) c [.ref a, a2] st && ci == pd_o c) = true) (k : Rn mi np lv (v :: st) (wd l h) r) : Rn mi pc lv (a2 :: .ref a :: st) (wd l h) r := by
  have hc' : Ca c [.ref a, a2] (wd l h) (.inl (some v), wd l h) := by have := hc (wd l h); rw [wd_same hs] at this; exact this
  exact E_v2v f (wd_at hg) hx hc' k
theorem F_v2u {c a ci : Nat} {fs : List Value} {a2 : Value} (f : pd_fetch mi pc = some (.invokevirtual c, np)) (hc : ∀ h, Ca c [.ref a, a2] (wd lc h) (.inl none, wd lc' h)) (hs : wsub l lc) (ha : wad l lc' = true) (hm : wsm l lc' = l') (hg : wl l a = some (ob ci fs)) (hx : (pd_chk (.invokevirtual c) c [.ref a, a2] st && ci == pd_o c) = true) (k : Rn mi np lv st (wd l' h) r) : Rn mi pc lv (a2 :: .ref a :: st) (wd l h) r := by
  have hc' : Ca c [.ref a, a2] (wd l h) (.inl none, wd l' h) := by have := hc (wd l h); rw [wd_same hs, wd_merge ha, hm] at this; exact this
  exact E_v2u f (wd_at hg) hx hc' k
theorem F_v2u0 {c a ci : Nat} {fs : List Value} {a2 : Value} (f : pd_fetch mi pc = some (.invokevirtual c, np)) (hc : ∀ h, Ca c [.ref a, a2] (wd lc h) (.inl none, wd lc h)) (hs : wsub l lc) (hg : wl l a = some (ob ci fs)) (hx : (pd_chk (.invokevirtual c) c [.ref a, a2] st && ci == pd_o c) = true) (k : Rn mi np lv st (wd l h) r) : Rn mi pc lv (a2 :: .ref a :: st) (wd l h) r := by
  have hc' : Ca c [.ref a, a2] (wd l h) (.inl none, wd l h) := by have := hc (wd l h); rw [wd_same hs] at this; exact this
  exact E_v2u f (wd_at hg) hx hc' k
theorem F_c3v {c : Nat} {a1 a2 a3 : Value} {v : Value} (f : pd_fetch mi pc = some (.invokestatic c, np)) (hc : ∀ h, Ca c [a1, a2, a3] (wd lc h) (.inl (some v), wd lc' h)) (hs : wsub l lc) (ha : wad l lc' = true) (hm : wsm l lc' = l') (hx : pd_chk (.invokestatic c) c [a1, a2, a3] st = true) (k : Rn mi np lv (v :: st) (wd l' h) r) : Rn mi pc lv (a3 :: a2 :: a1 :: st) (wd l h) r := by
  have hc' : Ca c [a1, a2, a3] (wd l h) (.inl (some v), wd l' h) := by have := hc (wd l h); rw [wd_same hs, wd_merge ha, hm] at this; exact this
  exact E_c3v f hx hc' k
theorem F_c3v0 {c : Nat} {a1 a2 a3 : Value} {v : Value} (f : pd_fetch mi pc = some (.invokestatic c, np)) (hc : ∀ h, Ca c [a1, a2, a3] (wd lc h) (.inl (some v), wd lc h)) (hs : wsub l lc) (hx : pd_chk (.invokestatic c) c [a1, a2, a3] st = true) (k : Rn mi np lv (v :: st) (wd l h) r) : Rn mi pc lv (a3 :: a2 :: a1 :: st) (wd l h) r := by
  have hc' : Ca c [a1, a2, a3] (wd l h) (.inl (some v), wd l h) := by have := hc (wd l h); rw [wd_same hs] at this; exact this
  exact E_c3v f hx hc' k
theorem F_c3u {c : Nat} {a1 a2 a3 : Value} (f : pd_fetch mi pc = some (.invokestatic c, np)) (hc : ∀ h, Ca c [a1, a2, a3] (wd lc h) (.inl none, wd lc' h)) (hs : wsub l lc) (ha : wad l lc' = true) (hm : wsm l lc' = l') (hx : pd_chk (.invokestatic c) c [a1, a2, a3] st = true) (k : Rn mi np lv st (wd l' h) r) : Rn mi pc lv (a3 :: a2 :: a1 :: st) (wd l h) r := by
  have hc' : Ca c [a1, a2, a3] (wd l h) (.inl none, wd l' h) := by have := hc (wd l h); rw [wd_same hs, wd_merge ha, hm] at this; exact this
  exact E_c3u f hx hc' k
theorem F_c3u0 {c : Nat} {a1 a2 a3 : Value} (f : pd_fetch mi pc = some (.invokestatic c, np)) (hc : ∀ h, Ca c [a1, a2, a3] (wd lc h) (.inl none, wd lc h)) (hs : wsub l lc) (hx : pd_chk (.invokestatic c) c [a1, a2, a3] st = true) (k : Rn mi np lv st (wd l h) r) : Rn mi pc lv (a3 :: a2 :: a1 :: st) (wd l h) r := by
  have hc' : Ca c [a1, a2, a3] (wd l h) (.inl none, wd l h) := by have := hc (wd l h); rw [wd_same hs] at this; exact this
  exact E_c3u f hx hc' k
theorem F_v3v {c a ci : Nat} {fs : List Value} {a2 a3 : Value} {v : Value} (f : pd_fetch mi pc = some (.invokevirtual c, np)) (hc : ∀ h, Ca c [.ref a, a2, a3] (wd lc h) (.inl (some v), wd lc' h)) (hs : wsub l lc) (ha : wad l lc' = true) (hm : wsm l lc' = l') (hg : wl l a = some (ob ci fs)) (hx : (pd_chk (.invokevirtual c) c [.ref a, a2, a3] st && ci == pd_o c) = true) (k : Rn mi np lv (v :: st) (wd l' h) r) : Rn mi pc lv (a3 :: a2 :: .ref a :: st) (wd l h) r := by
  have hc' : Ca c [.ref a, a2, a3] (wd l h) (.inl (some v), wd l' h) := by have := hc (wd l h); rw [wd_same hs, wd_merge ha, hm] at this; exact this
  exact E_v3v f (wd_at hg) hx hc' k
theorem F_v3v0 {c a ci : Nat} {fs : List Value} {a2 a3 : Value} {v : Value} (f : pd_fetch mi pc = some (.invokevirtual c, np)) (hc : ∀ h, Ca c [.ref a, a2, a3] (wd lc h) (.inl (some v), wd lc h)) (hs : wsub l lc) (hg : wl l a = some (ob ci fs)) (hx : (pd_chk (.invokevirtual c) c [.ref a, a2, a3] st && ci == pd_o c) = true) (k : Rn mi np lv (v :: st) (wd l h) r) : Rn mi pc lv (a3 :: a2 :: .ref a :: st) (wd l h) r := by
  have hc' : Ca c [.ref a, a2, a3] (wd l h) (.inl (some v), wd l h) := by have := hc (wd l h); rw [wd_same hs] at this; exact this
  exact E_v3v f (wd_at hg) hx hc' k
theorem F_v3u {c a ci : Nat} {fs : List Value} {a2 a3 : Value} (f : pd_fetch mi pc = some (.invokevirtual c, np)) (hc : ∀ h, Ca c [.ref a, a2, a3] (wd lc h) (.inl none, wd lc' h)) (hs : wsub l lc) (ha : wad l lc' = true) (hm : wsm l lc' = l') (hg : wl l a = some (ob ci fs)) (hx : (pd_chk (.invokevirtual c) c [.ref a, a2, a3] st && ci == pd_o c) = true) (k : Rn mi np lv st (wd l' h) r) : Rn mi pc lv (a3 :: a2 :: .ref a :: st) (wd l h) r := by
  have hc' : Ca c [.ref a, a2, a3] (wd l h) (.inl none, wd l' h) := by have := hc (wd l h); rw [wd_same hs, wd_merge ha, hm] at this; exact this
  exact E_v3u f (wd_at hg) hx hc' k
theorem F_v3u0 {c a ci : Nat} {fs : List Value} {a2 a3 : Value} (f : pd_fetch mi pc = some (.invokevirtual c, np)) (hc : ∀ h, Ca c [.ref a, a2, a3] (wd lc h) (.inl none, wd lc h)) (hs : wsub l lc) (hg : wl l a = some (ob ci fs)) (hx : (pd_chk (.invokevirtual c) c [.ref a, a2, a3] st && ci == pd_o c) = true) (k : Rn mi np lv st (wd l h) r) : Rn mi pc lv (a3 :: a2 :: .ref a :: st) (wd l h) r := by
  have hc' : Ca c [.ref a, a2, a3] (wd l h) (.inl none, wd l h) := by have := hc (wd l h); rw [wd_same hs] at this; exact this
  exact E_v3u f (wd_at hg) hx hc' k
theorem F_c4v {c : Nat} {a1 a2 a3 a4 : Value} {v : Value} (f : pd_fetch mi pc = some (.invokestatic c, np)) (hc : ∀ h, Ca c [a1, a2, a3, a4] (wd lc h) (.inl (some v), wd lc' h)) (hs : wsub l lc) (ha : wad l lc' = true) (hm : wsm l lc' = l') (hx : pd_chk (.invokestatic c) c [a1, a2, a3, a4] st = true) (k : Rn mi np lv (v :: st) (wd l' h) r) : Rn mi pc lv (a4 :: a3 :: a2 :: a1 :: st) (wd l h) r := by
  have hc' : Ca c [a1, a2, a3, a4] (wd l h) (.inl (some v), wd l' h) := by have := hc (wd l h); rw [wd_same hs, wd_merge ha, hm] at this; exact this
  exact E_c4v f hx hc' k
theorem F_c4v0 {c : Nat} {a1 a2 a3 a4 : Value} {v : Value} (f : pd_fetch mi pc = some (.invokestatic c, np)) (hc : ∀ h, Ca c [a1, a2, a3, a4] (wd lc h) (.inl (some v), wd lc h)) (hs : wsub l lc) (hx : pd_chk (.invokestatic c) c [a1, a2, a3, a4] st = true) (k : Rn mi np lv (v :: st) (wd l h) r) : Rn mi pc lv (a4 :: a3 :: a2 :: a1 :: st) (wd l h) r := by
  have hc' : Ca c [a1, a2, a3, a4] (wd l h) (.inl (some v), wd l h) := by have := hc (wd l h); rw [wd_same hs] at this; exact this
  exact E_c4v f hx hc' k
theorem F_c4u {c : Nat} {a1 a2 a3 a4 : Value} (f : pd_fetch mi pc = some (.invokestatic c, np)) (hc : ∀ h, Ca c [a1, a2, a3, a4] (wd lc h) (.inl none, wd lc' h)) (hs : wsub l lc) (ha : wad l lc' = true) (hm : wsm l lc' = l') (hx : pd_chk (.invokestatic c) c [a1, a2, a3, a4] st = true) (k : Rn mi np lv st (wd l' h) r) : Rn mi pc lv (a4 :: a3 :: a2 :: a1 :: st) (wd l h) r := by
  have hc' : Ca c [a1, a2, a3, a4] (wd l h) (.inl none, wd l' h) := by have := hc (wd l h); rw [wd_same hs, wd_merge ha, hm] at this; exact this
  exact E_c4u f hx hc' k
theorem F_c4u0 {c : Nat} {a1 a2 a3 a4 : Value} (f : pd_fetch mi pc = some (.invokestatic c, np)) (hc : ∀ h, Ca c [a1, a2, a3, a4] (wd lc h) (.inl none, wd lc h)) (hs : wsub l lc) (hx : pd_chk (.invokestatic c) c [a1, a2, a3, a4] st = true) (k : Rn mi np lv st (wd l h) r) : Rn mi pc lv (a4 :: a3 :: a2 :: a1 :: st) (wd l h) r := by
  have hc' : Ca c [a1, a2, a3, a4] (wd l h) (.inl none, wd l h) := by have := hc (wd l h); rw [wd_same hs] at this; exact this
  exact E_c4u f hx hc' k
theorem F_v4v {c a ci : Nat} {fs : List Value} {a2 a3 a4 : Value} {v : Value} (f : pd_fetch mi pc = some (.invokevirtual c, np)) (hc : ∀ h, Ca c [.ref a, a2, a3, a4] (wd lc h) (.inl (some v), wd lc' h)) (hs : wsub l lc) (ha : wad l lc' = true) (hm : wsm l lc' = l') (hg : wl l a = some (ob ci fs)) (hx : (pd_chk (.invokevirtual c) c [.ref a, a2, a3, a4] st && ci == pd_o c) = true) (k : Rn mi np lv (v :: st) (wd l' h) r) : Rn mi pc lv (a4 :: a3 :: a2 :: .ref a :: st) (wd l h) r := by
  have hc' : Ca c [.ref a, a2, a3, a4] (wd l h) (.inl (some v), wd l' h) := by have := hc (wd l h); rw [wd_same hs, wd_merge ha, hm] at this; exact this
  exact E_v4v f (wd_at hg) hx hc' k
theorem F_v4v0 {c a ci : Nat} {fs : List Value} {a2 a3 a4 : Value} {v : Value} (f : pd_fetch mi pc = some (.invokevirtual c, np)) (hc : ∀ h, Ca c [.ref a, a2, a3, a4] (wd lc h) (.inl (some v), wd lc h)) (hs : wsub l lc) (hg : wl l a = some (ob ci fs)) (hx : (pd_chk (.invokevirtual c) c [.ref a, a2, a3, a4] st && ci == pd_o c) = true) (k : Rn mi np lv (v :: st) (wd l h) r) : Rn mi pc lv (a4 :: a3 :: a2 :: .ref a :: st) (wd l h) r := by
  have hc' : Ca c [.ref a, a2, a3, a4] (wd l h) (.inl (some v), wd l h) := by have := hc (wd l h); rw [wd_same hs] at this; exact this
  exact E_v4v f (wd_at hg) hx hc' k
theorem F_v4u {c a ci : Nat} {fs : List Value} {a2 a3 a4 : Value} (f : pd_fetch mi pc = some (.invokevirtual c, np)) (hc : ∀ h, Ca c [.ref a, a2, a3, a4] (wd lc h) (.inl none, wd lc' h)) (hs : wsub l lc) (ha : wad l lc' = true) (hm : wsm l lc' = l') (hg : wl l a = some (ob ci fs)) (hx : (pd_chk (.invokevirtual c) c [.ref a, a2, a3, a4] st && ci == pd_o c) = true) (k : Rn mi np lv st (wd l' h) r) : Rn mi pc lv (a4 :: a3 :: a2 :: .ref a :: st) (wd l h) r := by
  have hc' : Ca c [.ref a, a2, a3, a4] (wd l h) (.inl none, wd l' h) := by have := hc (wd l h); rw [wd_same hs, wd_merge ha, hm] at this; exact this
  exact E_v4u f (wd_at hg) hx hc' k
theorem F_v4u0 {c a ci : Nat} {fs : List Value} {a2 a3 a4 : Value} (f : pd_fetch mi pc = some (.invokevirtual c, np)) (hc : ∀ h, Ca c [.ref a, a2, a3, a4] (wd lc h) (.inl none, wd lc h)) (hs : wsub l lc) (hg : wl l a = some (ob ci fs)) (hx : (pd_chk (.invokevirtual c) c [.ref a, a2, a3, a4] st && ci == pd_o c) = true) (k : Rn mi np lv st (wd l h) r) : Rn mi pc lv (a4 :: a3 :: a2 :: .ref a :: st) (wd l h) r := by
  have hc' : Ca c [.ref a, a2, a3, a4] (wd l h) (.inl none, wd l h) := by have := hc (wd l h); rw [wd_same hs] at this; exact this
  exact E_v4u f (wd_at hg) hx hc' k
theorem F_c5v {c : Nat} {a1 a2 a3 a4 a5 : Value} {v : Value} (f : pd_fetch mi pc = some (.invokestatic c, np)) (hc : ∀ h, Ca c [a1, a2, a3, a4, a5] (wd lc h) (.inl (some v), wd lc' h)) (hs : wsub l lc) (ha : wad l lc' = true) (hm : wsm l lc' = l') (hx : pd_chk (.invokestatic c) c [a1, a2, a3, a4, a5] st = true) (k : Rn mi np lv (v :: st) (wd l' h) r) : Rn mi pc lv (a5 :: a4 :: a3 :: a2 :: a1 :: st) (wd l h) r := by
  have hc' : Ca c [a1, a2, a3, a4, a5] (wd l h) (.inl (some v), wd l' h) := by have := hc (wd l h); rw [wd_same hs, wd_merge ha, hm] at this; exact this
  exact E_c5v f hx hc' k
theorem F_c5v0 {c : Nat} {a1 a2 a3 a4 a5 : Value} {v : Value} (f : pd_fetch mi pc = some (.invokestatic c, np)) (hc : ∀ h, Ca c [a1, a2, a3, a4, a5] (wd lc h) (.inl (some v), wd lc h)) (hs : wsub l lc) (hx : pd_chk (.invokestatic c) c [a1, a2, a3, a4, a5] st = true) (k : Rn mi np lv (v :: st) (wd l h) r) : Rn mi pc lv (a5 :: a4 :: a3 :: a2 :: a1 :: st) (wd l h) r := by
  have hc' : Ca c [a1, a2, a3, a4, a5] (wd l h) (.inl (some v), wd l h) := by have := hc (wd l h); rw [wd_same hs] at this; exact this
  exact E_c5v f hx hc' k
theorem F_c5u {c : Nat} {a1 a2 a3 a4 a5 : Value} (f : pd_fetch mi pc = some (.invokestatic c, np)) (hc : ∀ h, Ca c [a1, a2, a3, a4, a5] (wd lc h) (.inl none, wd lc' h)) (hs : wsub l lc) (ha : wad l lc' = true) (hm : wsm l lc' = l') (hx : pd_chk (.invokestatic c) c [a1, a2, a3, a4, a5] st = true) (k : Rn mi np lv st (wd l' h) r) : Rn mi pc lv (a5 :: a4 :: a3 :: a2 :: a1 :: st) (wd l h) r := by
  have hc' : Ca c [a1, a2, a3, a4, a5] (wd l h) (.inl none, wd l' h) := by have := hc (wd l h); rw [wd_same hs, wd_merge ha, hm] at this; exact this
  exact E_c5u f hx hc' k
theorem F_c5u0 {c : Nat} {a1 a2 a3 a4 a5 : Value} (f : pd_fetch mi pc = some (.invokestatic c, np)) (hc : ∀ h, Ca c [a1, a2, a3, a4, a5] (wd lc h) (.inl none, wd lc h)) (hs : wsub l lc) (hx : pd_chk (.invokestatic c) c [a1, a2, a3, a4, a5] st = true) (k : Rn mi np lv st (wd l h) r) : Rn mi pc lv (a5 :: a4 :: a3 :: a2 :: a1 :: st) (wd l h) r := by
  have hc' : Ca c [a1, a2, a3, a4, a5] (wd l h) (.inl none, wd l h) := by have := hc (wd l h); rw [wd_same hs] at this; exact this
  exact E_c5u f hx hc' k
theorem F_v5v {c a ci : Nat} {fs : List Value} {a2 a3 a4 a5 : Value} {v : Value} (f : pd_fetch mi pc = some (.invokevirtual c, np)) (hc : ∀ h, Ca c [.ref a, a2, a3, a4, a5] (wd lc h) (.inl (some v), wd lc' h)) (hs : wsub l lc) (ha : wad l lc' = true) (hm : wsm l lc' = l') (hg : wl l a = some (ob ci fs)) (hx : (pd_chk (.invokevirtual c) c [.ref a, a2, a3, a4, a5] st && ci == pd_o c) = true) (k : Rn mi np lv (v :: st) (wd l' h) r) : Rn mi pc lv (a5 :: a4 :: a3 :: a2 :: .ref a :: st) (wd l h) r := by
  have hc' : Ca c [.ref a, a2, a3, a4, a5] (wd l h) (.inl (some v), wd l' h) := by have := hc (wd l h); rw [wd_same hs, wd_merge ha, hm] at this; exact this
  exact E_v5v f (wd_at hg) hx hc' k
theorem F_v5v0 {c a ci : Nat} {fs : List Value} {a2 a3 a4 a5 : Value} {v : Value} (f : pd_fetch mi pc = some (.invokevirtual c, np)) (hc : ∀ h, Ca c [.ref a, a2, a3, a4, a5] (wd lc h) (.inl (some v), wd lc h)) (hs : wsub l lc) (hg : wl l a = some (ob ci fs)) (hx : (pd_chk (.invokevirtual c) c [.ref a, a2, a3, a4, a5] st && ci == pd_o c) = true) (k : Rn mi np lv (v :: st) (wd l h) r) : Rn mi pc lv (a5 :: a4 :: a3 :: a2 :: .ref a :: st) (wd l h) r := by
  have hc' : Ca c [.ref a, a2, a3, a4, a5] (wd l h) (.inl (some v), wd l h) := by have := hc (wd l h); rw [wd_same hs] at this; exact this
  exact E_v5v f (wd_at hg) hx hc' k
theorem F_v5u {c a ci : Nat} {fs : List Value} {a2 a3 a4 a5 : Value} (f : pd_fetch mi pc = some (.invokevirtual c, np)) (hc : ∀ h, Ca c [.ref a, a2, a3, a4, a5] (wd lc h) (.inl none, wd lc' h)) (hs : wsub l lc) (ha : wad l lc' = true) (hm : wsm l lc' = l') (hg : wl l a = some (ob ci fs)) (hx : (pd_chk (.invokevirtual c) c [.ref a, a2, a3, a4, a5] st && ci == pd_o c) = true) (k : Rn mi np lv st (wd l' h) r) : Rn mi pc lv (a5 :: a4 :: a3 :: a2 :: .ref a :: st) (wd l h) r := by
  have hc' : Ca c [.ref a, a2, a3, a4, a5] (wd l h) (.inl none, wd l' h) := by have := hc (wd l h); rw [wd_same hs, wd_merge ha, hm] at this; exact this
  exact E_v5u f (wd_at hg) hx hc' k
theorem F_v5u0 {c a ci : Nat} {fs : List Value} {a2 a3 a4 a5 : Value} (f : pd_fetch mi pc = some (.invokevirtual c, np)) (hc : ∀ h, Ca c [.ref a, a2, a3, a4, a5] (wd lc h) (.inl none, wd lc h)) (hs : wsub l lc) (hg : wl l a = some (ob ci fs)) (hx : (pd_chk (.invokevirtual c) c [.ref a, a2, a3, a4, a5] st && ci == pd_o c) = true) (k : Rn mi np lv st (wd l h) r) : Rn mi pc lv (a5 :: a4 :: a3 :: a2 :: .ref a :: st) (wd l h) r := by
  have hc' : Ca c [.ref a, a2, a3, a4, a5] (wd l h) (.inl none, wd l h) := by have := hc (wd l h); rw [wd_same hs] at this; exact this
  exact E_v5u f (wd_at hg) hx hc' k
theorem F_c6v {c : Nat} {a1 a2 a3 a4 a5 a6 : Value} {v : Value} (f : pd_fetch mi pc = some (.invokestatic c, np)) (hc : ∀ h, Ca c [a1, a2, a3, a4, a5, a6] (wd lc h) (.inl (some v), wd lc' h)) (hs : wsub l lc) (ha : wad l lc' = true) (hm : wsm l lc' = l') (hx : pd_chk (.invokestatic c) c [a1, a2, a3, a4, a5, a6] st = true) (k : Rn mi np lv (v :: st) (wd l' h) r) : Rn mi pc lv (a6 :: a5 :: a4 :: a3 :: a2 :: a1 :: st) (wd l h) r := by
  have hc' : Ca c [a1, a2, a3, a4, a5, a6] (wd l h) (.inl (some v), wd l' h) := by have := hc (wd l h); rw [wd_same hs, wd_merge ha, hm] at this; exact this
  exact E_c6v f hx hc' k
theorem F_c6v0 {c : Nat} {a1 a2 a3 a4 a5 a6 : Value} {v : Value} (f : pd_fetch mi pc = some (.invokestatic c, np)) (hc : ∀ h, Ca c [a1, a2, a3, a4, a5, a6] (wd lc h) (.inl (some v), wd lc h)) (hs : wsub l lc) (hx : pd_chk (.invokestatic c) c [a1, a2, a3, a4, a5, a6] st = true) (k : Rn mi np lv (v :: st) (wd l h) r) : Rn mi pc lv (a6 :: a5 :: a4 :: a3 :: a2 :: a1 :: st) (wd l h) r := by
  have hc' : Ca c [a1, a2, a3, a4, a5, a6] (wd l h) (.inl (some v), wd l h) := by have := hc (wd l h); rw [wd_same hs] at this; exact this
  exact E_c6v f hx hc' k
theorem F_c6u {c : Nat} {a1 a2 a3 a4 a5 a6 : Value} (f : pd_fetch mi pc = some (.invokestatic c, np)) (hc : ∀ h, Ca c [a1, a2, a3, a4, a5, a6] (wd lc h) (.inl none, wd lc' h)) (hs : wsub l lc) (ha : wad l lc' = true) (hm : wsm l lc' = l') (hx : pd_chk (.invokestatic c) c [a1, a2, a3, a4, a5, a6] st = true) (k : Rn mi np lv st (wd l' h) r) : Rn mi pc lv (a6 :: a5 :: a4 :: a3 :: a2 :: a1 :: st) (wd l h) r := by
  have hc' : Ca c [a1, a2, a3, a4, a5, a6] (wd l h) (.inl none, wd l' h) := by have := hc (wd l h); rw [wd_same hs, wd_merge ha, hm] at this; exact this
  exact E_c6u f hx hc' k
theorem F_c6u0 {c : Nat} {a1 a2 a3 a4 a5 a6 : Value} (f : pd_fetch mi pc = some (.invokestatic c, np)) (hc : ∀ h, Ca c [a1, a2, a3, a4, a5, a6] (wd lc h) (.inl none, wd lc h)) (hs : wsub l lc) (hx : pd_chk (.invokestatic c) c [a1, a2, a3, a4, a5, a6] st = true) (k : Rn mi np lv st (wd l h) r) : Rn mi pc lv (a6 :: a5 :: a4 :: a3 :: a2 :: a1 :: st) (wd l h) r := by
  have hc' : Ca c [a1, a2, a3, a4, a5, a6] (wd l h) (.inl none, wd l h) := by have := hc (wd l h); rw [wd_same hs] at this; exact this
  exact E_c6u f hx hc' k
theorem F_v6v {c a ci : Nat} {fs : List Value} {a2 a3 a4 a5 a6 : Value} {v : Value} (f : pd_fetch mi pc = some (.invokevirtual c, np)) (hc : ∀ h, Ca c [.ref a, a2, a3, a4, a5, a6] (wd lc h) (.inl (some v), wd lc' h)) (hs : wsub l lc) (ha : wad l lc' = true) (hm : wsm l lc' = l') (hg : wl l a = some (ob ci fs)) (hx : (pd_chk (.invokevirtual c) c [.ref a, a2, a3, a4, a5, a6] st && ci == pd_o c) = true) (k : Rn mi np lv (v :: st) (wd l' h) r) : Rn mi pc lv (a6 :: a5 :: a4 :: a3 :: a2 :: .ref a :: st) (wd l h) r := by
  have hc' : Ca c [.ref a, a2, a3, a4, a5, a6] (wd l h) (.inl (some v), wd l' h) := by have := hc (wd l h); rw [wd_same hs, wd_merge ha, hm] at this; exact this
  exact E_v6v f (wd_at hg) hx hc' k
theorem F_v6v0 {c a ci : Nat} {fs : List Value} {a2 a3 a4 a5 a6 : Value} {v : Value} (f : pd_fetch mi pc = some (.invokevirtual c, np)) (hc : ∀ h, Ca c [.ref a, a2, a3, a4, a5, a6] (wd lc h) (.inl (some v), wd lc h)) (hs : wsub l lc) (hg : wl l a = some (ob ci fs)) (hx : (pd_chk (.invokevirtual c) c [.ref a, a2, a3, a4, a5, a6] st && ci == pd_o c) = true) (k : Rn mi np lv (v :: st) (wd l h) r) : Rn mi pc lv (a6 :: a5 :: a4 :: a3 :: a2 :: .ref a :: st) (wd l h) r := by
  have hc' : Ca c [.ref a, a2, a3, a4, a5, a6] (wd l h) (.inl (some v), wd l h) := by have := hc (wd l h); rw [wd_same hs] at this; exact this
  exact E_v6v f (wd_at hg) hx hc' k
theorem F_v6u {c a ci : Nat} {fs : List Value} {a2 a3 a4 a5 a6 : Value} (f : pd_fetch mi pc = some (.invokevirtual c, np)) (hc : ∀ h, Ca c [.ref a, a2, a3, a4, a5, a6] (wd lc h) (.inl none, wd lc' h)) (hs : wsub l lc) (ha : wad l lc' = true) (hm : wsm l lc' = l') (hg : wl l a = some (ob ci fs)) (hx : (pd_chk (.invokevirtual c) c [.ref a, a2, a3, a4, a5, a6] st && ci == pd_o c) = true) (k : Rn mi np lv st (wd l' h) r) : Rn mi pc lv (a6 :: a5 :: a4 :: a3 :: a2 :: .ref a :: st) (wd l h) r := by
  have hc' : Ca c [.ref a, a2, a3, a4, a5, a6] (wd l h) (.inl none, wd l' h) := by have := hc (wd l h); rw [wd_same hs, wd_merge ha, hm] at this; exact this
  exact E_v6u f (wd_at hg) hx hc' k
theorem F_v6u0 {c a ci : Nat} {fs : List Value} {a2 a3 a4 a5 a6 : Value} (f : pd_fetch mi pc = some (.invokevirtual c, np)) (hc : ∀ h, Ca c [.ref a, a2, a3, a4, a5, a6] (wd lc h) (.inl none, wd lc h)) (hs : wsub l lc) (hg : wl l a = some (ob ci fs)) (hx : (pd_chk (.invokevirtual c) c [.ref a, a2, a3, a4, a5, a6] st && ci == pd_o c) = true) (k : Rn mi np lv st (wd l h) r) : Rn mi pc lv (a6 :: a5 :: a4 :: a3 :: a2 :: .ref a :: st) (wd l h) r := by
  have hc' : Ca c [.ref a, a2, a3, a4, a5, a6] (wd l h) (.inl none, wd l h) := by have := hc (wd l h); rw [wd_same hs] at this; exact this
  exact E_v6u f (wd_at hg) hx hc' k
end PDWR
/-- sums -/
def zs (f : Int → Int) : Nat → Int
  | 0 => 0
  | n + 1 => zs f n + f n
theorem zs_congr {f g : Int → Int} {n : Nat} (h : ∀ k : Nat, k < n → f k = g k) : zs f n = zs g n := by
  induction n with
  | zero => rfl
  | succ n ih => simp only [zs]; rw [ih (fun k hk => h k (by omega)), h n (by omega)]
