/-! Mixtures as lists of a vertex and its units. -/
def zl (V U : Int → Int) (m : Nat) : List (Int × Int) := (List.range m).map (fun i : Nat => (V i, U i))
theorem zl_len (V U : Int → Int) (m : Nat) : (zl V U m).length = m := by simp [zl]
theorem zl_0 (V U : Int → Int) : zl V U 0 = [] := rfl
theorem zl_s (V U : Int → Int) (m : Nat) : zl V U (m + 1) = zl V U m ++ [(V m, U m)] := by simp [zl, List.range_succ]
theorem zl_get {V U : Int → Int} {m i : Nat} (h : i < m) : (zl V U m)[i]? = some (V i, U i) := by simp [zl, h]
theorem zl_none {V U : Int → Int} {m i : Nat} (h : m ≤ i) : (zl V U m)[i]? = none := List.getElem?_eq_none (by rw [zl_len]; exact h)
theorem zl_congr {V U V' U' : Int → Int} {m : Nat} (h : ∀ i : Nat, i < m → V i = V' i ∧ U i = U' i) : zl V U m = zl V' U' m := by
  unfold zl
  refine List.map_congr_left fun i hi => ?_
  obtain ⟨a, b⟩ := h i (List.mem_range.mp hi)
  rw [a, b]
theorem zl_inj {V U V' U' : Int → Int} {m : Nat} (h : zl V U m = zl V' U' m) {i : Nat} (hi : i < m) : V i = V' i ∧ U i = U' i := by
  have h1 := zl_get (V := V) (U := U) hi
  rw [h, zl_get hi] at h1
  simp only [Option.some.injEq, Prod.mk.injEq] at h1
  exact ⟨h1.1.symm, h1.2.symm⟩
theorem zl_mem {V U : Int → Int} {m : Nat} {q : Int × Int} : q ∈ zl V U m ↔ ∃ i : Nat, i < m ∧ q = (V i, U i) := by
  simp only [zl, List.mem_map, List.mem_range]
  constructor
  · rintro ⟨i, h1, h2⟩; exact ⟨i, h1, h2.symm⟩
  · rintro ⟨i, h1, h2⟩; exact ⟨i, h1, h2.symm⟩
theorem zl_set {V U : Int → Int} {m i : Nat} (x : Int) : zl V (zu U i x) m = (zl V U m).set i (V i, x) := by
  apply List.ext_getElem?
  intro j
  by_cases hj : j < m
  · rw [zl_get hj]
    by_cases e : i = j
    · subst e
      rw [List.getElem?_set_self (by rw [zl_len]; exact hj), zu_s]
    · rw [List.getElem?_set_ne e, zl_get hj, zu_n _ _ (by omega)]
  · rw [zl_none (Nat.le_of_not_lt hj), List.getElem?_eq_none (by rw [List.length_set, zl_len]; omega)]
/-- units to a vertex: to its atom, or to a new one behind the others -/
def gvl : List (Int × Int) → Int → Int → List (Int × Int)
  | [], v, n => [(v, n)]
  | q :: r, v, n => if q.1 = v then (q.1, q.2 + n) :: r else q :: gvl r v n
def gv (A : List (Int × Int)) (v n : Int) : List (Int × Int) := if n ≤ 0 then A else gvl A v n
theorem gvl_set {v n : Int} : ∀ {A : List (Int × Int)} {i : Nat} {u : Int}, (∀ (j : Nat) (q : Int × Int), j < i → A[j]? = some q → q.1 ≠ v) → A[i]? = some (v, u) → gvl A v n = A.set i (v, u + n)
  | [], i, u, _, h => by simp at h
  | q :: A, 0, u, _, h => by
    simp at h
    subst h
    simp [gvl]
  | q :: A, i + 1, u, hn, h => by
    have h1 := hn 0 q (by omega) rfl
    simp only [gvl, if_neg h1, List.set_cons_succ]
    rw [gvl_set (i := i) (fun j q' hj hq => hn (j + 1) q' (by omega) (by simpa using hq)) (by simpa using h)]
theorem gvl_new {v n : Int} : ∀ {A : List (Int × Int)}, (∀ q ∈ A, q.1 ≠ v) → gvl A v n = A ++ [(v, n)]
  | [], _ => rfl
  | q :: A, hn => by
    simp only [gvl, if_neg (hn q List.mem_cons_self), List.cons_append]
    rw [gvl_new fun q' hq => hn q' (List.mem_cons_of_mem _ hq)]
def pos (A : List (Int × Int)) : List (Int × Int) := A.filter (fun q => decide (0 < q.2))
theorem pos_len (A : List (Int × Int)) : (pos A).length ≤ A.length := List.length_filter_le _ _
theorem pos_s {V U : Int → Int} {i : Nat} (h : 0 < U i) : pos (zl V U (i + 1)) = pos (zl V U i) ++ [(V i, U i)] := by
  rw [zl_s]; unfold pos; rw [List.filter_append]; simp [h]
theorem pos_n {V U : Int → Int} {i : Nat} (h : ¬ 0 < U i) : pos (zl V U (i + 1)) = pos (zl V U i) := by
  rw [zl_s]; unfold pos; rw [List.filter_append]; simp [h]
theorem zl_push {V U : Int → Int} {m : Nat} {v n : Int} : zl (zu V m v) (zu U m n) (m + 1) = zl V U m ++ [(v, n)] := by
  rw [zl_s, zu_s, zu_s]
  congr 1
  exact zl_congr fun i hi => ⟨zu_n _ _ (by omega), zu_n _ _ (by omega)⟩
-- a page's mixture
def pV (r : Int → Int) : Int → Int := fun i => r (20 + i)
def pU (r : Int → Int) : Int → Int := fun i => r (44 + i)
def zp (r : Int → Int) (m : Nat) : List (Int × Int) := zl (pV r) (pU r) m
theorem pV_u (r : Int → Int) (i x : Int) : pV (zu r (20 + i) x) = zu (pV r) i x := by
  funext k; unfold pV zu
  by_cases e : k = i
  · rw [if_pos e, if_pos (by omega)]
  · rw [if_neg e, if_neg (by omega)]
theorem pU_u (r : Int → Int) (i x : Int) : pU (zu r (44 + i) x) = zu (pU r) i x := by
  funext k; unfold pU zu
  by_cases e : k = i
  · rw [if_pos e, if_pos (by omega)]
  · rw [if_neg e, if_neg (by omega)]
/-- what a change of the mixture leaves: rows and counts -/
def pfr (r r' : Int → Int) : Prop := ∀ k : Int, (k < 20 ∨ 69 ≤ k) → r' k = r k
theorem pfr_rf (r : Int → Int) : pfr r r := fun _ _ => rfl
theorem pfr_tr {a b c : Int → Int} (h : pfr a b) (g : pfr b c) : pfr a c := fun k hk => (g k hk).trans (h k hk)
theorem pfr_u {r : Int → Int} {i : Int} (x : Int) (h : 20 ≤ i ∧ i < 69) : pfr r (zu r i x) := fun k hk => zu_n _ _ (by omega)
