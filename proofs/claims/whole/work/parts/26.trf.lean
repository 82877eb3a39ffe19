/-! Sound mixtures; moving units from one atom to a vertex, on both sides. -/
def mxs : List (Int × Int) → Int
  | [] => 0
  | q :: r => q.2 + mxs r
def Mb (vn : Int) (A : List (Int × Int)) : Prop := (∀ q ∈ A, 0 ≤ q.1 ∧ q.1 < vn ∧ 0 ≤ q.2) ∧ (A.map Prod.fst).Nodup
def Mx (vn : Int) (A : List (Int × Int)) : Prop := Mb vn A ∧ (∀ q ∈ A, 0 < q.2) ∧ mxs A = 100
theorem nd_len : ∀ (n : Nat) (l : List Int), l.Nodup → (∀ x ∈ l, 0 ≤ x ∧ x < n) → l.length ≤ n
  | 0, [], _, _ => Nat.le_refl _
  | 0, x :: l, _, h => by have := h x List.mem_cons_self; omega
  | n + 1, l, hd, h => by
    by_cases e : (n : Int) ∈ l
    · have h1 := nd_len n (l.erase n) (hd.erase _) (fun x hx => by
        have hx1 := (List.Nodup.mem_erase_iff hd).mp hx
        have := h x hx1.2
        have := hx1.1
        omega)
      rw [List.length_erase_of_mem e] at h1
      omega
    · have := nd_len n l hd (fun x hx => by
        have h1 := h x hx
        have h2 : x ≠ n := fun q => e (q ▸ hx)
        omega)
      omega
theorem Mb_len {vn : Nat} {A : List (Int × Int)} (h : Mb vn A) : A.length ≤ vn := by
  have := nd_len vn (A.map Prod.fst) h.2 (fun x hx => by
    obtain ⟨q, h1, rfl⟩ := List.mem_map.mp hx
    exact ⟨(h.1 q h1).1, (h.1 q h1).2.1⟩)
  rwa [List.length_map] at this
theorem Mb_lt {vn : Nat} {A : List (Int × Int)} {v : Int} (h : Mb vn A) (hv : 0 ≤ v ∧ v < vn) (hn : ∀ q ∈ A, q.1 ≠ v) : A.length < vn := by
  have := nd_len vn (v :: A.map Prod.fst) (List.nodup_cons.mpr ⟨fun hx => by
    obtain ⟨q, h1, h2⟩ := List.mem_map.mp hx
    exact hn q h1 h2, h.2⟩) (fun x hx => by
    rcases List.mem_cons.mp hx with rfl | hx
    · exact hv
    · obtain ⟨q, h1, rfl⟩ := List.mem_map.mp hx
      exact ⟨(h.1 q h1).1, (h.1 q h1).2.1⟩)
  simp only [List.length_cons, List.length_map] at this
  omega
theorem mxs_nn {A : List (Int × Int)} : (∀ q ∈ A, 0 ≤ q.2) → 0 ≤ mxs A := by
  induction A with
  | nil => intro _; exact Int.le_refl _
  | cons q A ih =>
    intro h
    have h1 := h q List.mem_cons_self
    have h2 := ih fun x hx => h x (List.mem_cons_of_mem _ hx)
    unfold mxs; omega
theorem mxs_ge {A : List (Int × Int)} : (∀ q ∈ A, 0 ≤ q.2) → ∀ q ∈ A, q.2 ≤ mxs A := by
  induction A with
  | nil => intro _ q hq; cases hq
  | cons x A ih =>
    intro h q hq
    have h1 := h x List.mem_cons_self
    have h2 := mxs_nn fun y hy => h y (List.mem_cons_of_mem _ hy)
    rcases List.mem_cons.mp hq with rfl | hq
    · unfold mxs; omega
    · have := ih (fun y hy => h y (List.mem_cons_of_mem _ hy)) q hq
      unfold mxs; omega
theorem mxs_set : ∀ {A : List (Int × Int)} {i : Nat} {p q : Int × Int}, A[i]? = some p → mxs (A.set i q) = mxs A - p.2 + q.2
  | [], i, p, q, h => by simp at h
  | x :: A, 0, p, q, h => by
    simp at h; subst h
    simp only [List.set_cons_zero, mxs]; omega
  | x :: A, i + 1, p, q, h => by
    have := mxs_set (A := A) (i := i) (p := p) (q := q) (by simpa using h)
    simp only [List.set_cons_succ, mxs]; omega
theorem fst_set : ∀ {A : List (Int × Int)} {i : Nat} {p q : Int × Int}, A[i]? = some p → q.1 = p.1 → (A.set i q).map Prod.fst = A.map Prod.fst
  | [], i, p, q, h, _ => by simp at h
  | x :: A, 0, p, q, h, e => by
    simp at h; subst h
    simp [e]
  | x :: A, i + 1, p, q, h, e => by
    have := fst_set (A := A) (i := i) (p := p) (q := q) (by simpa using h) e
    simp only [List.set_cons_succ, List.map_cons, this]
theorem Mb_set {vn : Int} {A : List (Int × Int)} {i : Nat} {p q : Int × Int} (h : Mb vn A) (hi : A[i]? = some p) (e : q.1 = p.1) (hq : 0 ≤ q.2) : Mb vn (A.set i q) := by
  refine ⟨fun x hx => ?_, by rw [fst_set hi e]; exact h.2⟩
  rcases List.mem_or_eq_of_mem_set hx with h1 | h1
  · exact h.1 x h1
  · have := h.1 p (List.mem_of_getElem? hi)
    rw [h1, e]; exact ⟨this.1, this.2.1, hq⟩
theorem gvl_mxs (v n : Int) : ∀ A : List (Int × Int), mxs (gvl A v n) = mxs A + n
  | [] => by simp [gvl, mxs]
  | q :: A => by
    unfold gvl
    split
    · simp only [mxs]; omega
    · simp only [mxs, gvl_mxs v n A]; omega
theorem gvl_fst (v n : Int) : ∀ A : List (Int × Int), (gvl A v n).map Prod.fst = if v ∈ A.map Prod.fst then A.map Prod.fst else A.map Prod.fst ++ [v]
  | [] => by simp [gvl]
  | q :: A => by
    unfold gvl
    by_cases e : q.1 = v
    · rw [if_pos e, if_pos (by simp [e])]; simp
    · rw [if_neg e, List.map_cons, gvl_fst v n A]
      by_cases g : v ∈ A.map Prod.fst
      · rw [if_pos g, if_pos (by simp only [List.map_cons, List.mem_cons]; exact .inr g)]; rfl
      · rw [if_neg g, if_neg (by simp only [List.map_cons, List.mem_cons]; exact fun q => q.elim (fun q1 => e q1.symm) g)]; rfl
theorem gvl_mem {v n : Int} : ∀ {A : List (Int × Int)} {q : Int × Int}, q ∈ gvl A v n → q ∈ A ∨ (q.1 = v ∧ (q.2 = n ∨ ∃ p ∈ A, q.2 = p.2 + n))
  | [], q, h => by simp [gvl] at h; subst h; exact .inr ⟨rfl, .inl rfl⟩
  | x :: A, q, h => by
    unfold gvl at h
    by_cases e : x.1 = v
    · rw [if_pos e] at h
      rcases List.mem_cons.mp h with h1 | h1
      · exact .inr ⟨by rw [h1]; exact e, .inr ⟨x, List.mem_cons_self, by rw [h1]⟩⟩
      · exact .inl (List.mem_cons_of_mem _ h1)
    · rw [if_neg e] at h
      rcases List.mem_cons.mp h with h1 | h1
      · exact .inl (by rw [h1]; exact List.mem_cons_self)
      · rcases gvl_mem h1 with g | ⟨g1, g | ⟨p, g2, g3⟩⟩
        · exact .inl (List.mem_cons_of_mem _ g)
        · exact .inr ⟨g1, .inl g⟩
        · exact .inr ⟨g1, .inr ⟨p, List.mem_cons_of_mem _ g2, g3⟩⟩
theorem gvl_Mb {vn v n : Int} {A : List (Int × Int)} (h : Mb vn A) (hv : 0 ≤ v ∧ v < vn) (hn : 0 ≤ n) : Mb vn (gvl A v n) := by
  refine ⟨fun q hq => ?_, ?_⟩
  · rcases gvl_mem hq with g | ⟨g1, g | ⟨p, g2, g3⟩⟩
    · exact h.1 q g
    · rw [g1, g]; exact ⟨hv.1, hv.2, hn⟩
    · have := h.1 p g2
      rw [g1, g3]; exact ⟨hv.1, hv.2, by omega⟩
  · rw [gvl_fst]
    split
    · exact h.2
    · rename_i g
      refine List.nodup_append.mpr ⟨h.2, by simp, fun a ha b hb => ?_⟩
      simp at hb; subst hb
      exact fun q => g (q ▸ ha)
theorem gv_Mb {vn v n : Int} {A : List (Int × Int)} (h : Mb vn A) (hv : 0 ≤ v ∧ v < vn) : Mb vn (gv A v n) := by
  unfold gv; split
  · exact h
  · exact gvl_Mb h hv (by omega)
theorem gv_mxs {v n : Int} {A : List (Int × Int)} (hn : 0 ≤ n) : mxs (gv A v n) = mxs A + n := by
  unfold gv; split
  · omega
  · exact gvl_mxs v n A
theorem gv_set {v n x a u : Int} {A : List (Int × Int)} {i : Nat} : A[i]? = some (a, u) → a ≠ v → gv (A.set i (a, x)) v n = (gv A v n).set i (a, x) := by
  unfold gv
  by_cases e : n ≤ 0
  · intro _ _; simp only [if_pos e]
  · simp only [if_neg e]
    induction A generalizing i with
    | nil => intro h; simp at h
    | cons q A ih =>
      intro h hv
      cases i with
      | zero =>
        simp at h; subst h
        simp [gvl, hv]
      | succ i =>
        have := ih (i := i) (by simpa using h) hv
        simp only [List.set_cons_succ, gvl]
        split
        · rfl
        · rw [this]; rfl
theorem pos_mxs {A : List (Int × Int)} : (∀ q ∈ A, 0 ≤ q.2) → mxs (pos A) = mxs A := by
  induction A with
  | nil => intro _; rfl
  | cons q A ih =>
    intro h
    have h1 := h q List.mem_cons_self
    have h2 := ih fun x hx => h x (List.mem_cons_of_mem _ hx)
    unfold pos at h2 ⊢
    by_cases e : 0 < q.2
    · rw [List.filter_cons_of_pos (by simp [e])]; unfold mxs; omega
    · rw [List.filter_cons_of_neg (by simp [e])]; simp only [mxs]; omega
theorem pos_Mx {vn : Int} {A : List (Int × Int)} (h : Mb vn A) (hs : mxs A = 100) : Mx vn (pos A) := by
  refine ⟨⟨fun q hq => h.1 q (List.mem_filter.mp hq).1, (List.filter_sublist.map _).nodup h.2⟩, fun q hq => ?_, by rw [pos_mxs fun q hq => (h.1 q hq).2.2]; exact hs⟩
  have := (List.mem_filter.mp hq).2
  simpa using this
theorem Mx_ne {vn : Int} {A : List (Int × Int)} (h : Mx vn A) : 1 ≤ A.length := by
  cases A with
  | nil => exact absurd h.2.2 (by simp [mxs])
  | cons q A => simp
theorem Mb_le {vn : Int} {A : List (Int × Int)} (h : Mb vn A) : ∀ q ∈ A, q.2 ≤ mxs A := mxs_ge fun q hq => (h.1 q hq).2.2
/-- moving n units from atom i to the vertex v -/
def trl (A : List (Int × Int)) (i : Nat) (v n : Int) : List (Int × Int) :=
  match A[i]? with
  | none => A
  | some q => if q.1 = v then A else pos (gv (A.set i (q.1, q.2 - n)) v n)
theorem trl_at {A : List (Int × Int)} {i : Nat} {v n a u : Int} (h : A[i]? = some (a, u)) (e : a ≠ v) : trl A i v n = pos (gv (A.set i (a, u - n)) v n) := by
  unfold trl; rw [h]; exact if_neg e
theorem trl_eq {A : List (Int × Int)} {i : Nat} {v n u : Int} (h : A[i]? = some (v, u)) : trl A i v n = A := by
  unfold trl; rw [h]; exact if_pos rfl
theorem trl_Mx {vn : Int} {A : List (Int × Int)} {i : Nat} {v n a u : Int} (h : Mx vn A) (hi : A[i]? = some (a, u)) (hv : 0 ≤ v ∧ v < vn) (hn : 0 ≤ n ∧ n ≤ u) : Mx vn (trl A i v n) := by
  by_cases e : a = v
  · subst e; rw [trl_eq hi]; exact h
  · rw [trl_at hi e]
    refine pos_Mx (gv_Mb (Mb_set h.1 hi rfl (by show 0 ≤ u - n; omega)) hv) ?_
    rw [gv_mxs hn.1, mxs_set hi, h.2.2]
    show 100 - u + (u - n) + n = 100
    omega
-- what a sound mixture gives for the places
theorem Mb_at {vn : Int} {V U : Int → Int} {m : Nat} (h : Mb vn (zl V U m)) {i : Nat} (hi : i < m) : 0 ≤ V i ∧ V i < vn ∧ 0 ≤ U i ∧ U i ≤ mxs (zl V U m) := by
  have hm : (V i, U i) ∈ zl V U m := zl_mem.mpr ⟨i, hi, rfl⟩
  have h1 := h.1 _ hm
  exact ⟨h1.1, h1.2.1, h1.2.2, Mb_le h _ hm⟩
theorem Mx_at {vn : Int} {V U : Int → Int} {m : Nat} (h : Mx vn (zl V U m)) {i : Nat} (hi : i < m) : 0 ≤ V i ∧ V i < vn ∧ 0 < U i ∧ U i ≤ 100 := by
  have h1 := Mb_at h.1 hi
  have h2 := h.2.1 _ (zl_mem.mpr ⟨i, hi, rfl⟩)
  rw [h.2.2] at h1
  exact ⟨h1.1, h1.2.1, h2, h1.2.2.2⟩
theorem Mb_room {vn m : Nat} {V U : Int → Int} {v : Int} (h : Mb vn (zl V U m)) (hv : 0 ≤ v ∧ v < vn) (h24 : vn ≤ 24) : m < 24 ∨ ∃ i : Nat, i < m ∧ V i = v := by
  by_cases e : ∃ i : Nat, i < m ∧ V i = v
  · exact .inr e
  · refine .inl ?_
    have := Mb_lt h hv (fun q hq => by
      obtain ⟨i, h1, rfl⟩ := zl_mem.mp hq
      exact fun q => e ⟨i, h1, q⟩)
    rw [zl_len] at this
    omega
section TRF
variable {R V U r : Int → Int} {m rn vn : Nat} {st dr : Int}
theorem c60s {v n : Int} {i : Nat} (h : Mx vn (zl V U m)) (h24 : vn ≤ 24) (hi : i < m) (hv : 0 ≤ v ∧ v < vn) (hn : 0 ≤ n ∧ n ≤ U i) : ∃ (m' : Nat) (V' U' : Int → Int), zl V' U' m' = trl (zl V U m) i v n ∧ ∀ h, Ca 60 [.ref 24, .int (ii i), .int (ii v), .int (ii n)] (wd [(24, oS24 (rn : Int) (m : Int) st dr), (26, ar 24 V), (27, ar 24 U)] h) (.inl none, wd [(24, oS24 (rn : Int) (m' : Int) st dr), (26, ar 24 V'), (27, ar 24 U')] h) := by
  have hb := Mx_at h hi
  have hm : m ≤ 24 := by have := Mb_len h.1; rw [zl_len] at this; omega
  have hg : (zl V U m)[i]? = some (V i, U i) := zl_get hi
  by_cases e : V i = v
  · refine ⟨m, V, U, by rw [e] at hg; rw [trl_eq hg], fun h => ?_⟩
    refine E_in (lv := [_, _, _, _]) rfl ?_
    refine E_aload pf_60_0 rfl ?_
    refine F_getf pf_60_1 rfl rfl rfl ?_
    refine E_iload pf_60_4 rfl ?_
    refine F_iald pf_60_5 rfl (by omega) ?_
    refine E_iload pf_60_6 rfl ?_
    refine E_icmp_ne_f pf_60_7 (by omega) ?_
    exact E_vret pf_60_10 rfl
  · have hM : Mb vn (zl V (zu U i (U i - n)) m) := by
      rw [zl_set]; exact Mb_set h.1 hg rfl (by show 0 ≤ U i - n; omega)
    have hsum : mxs (zl V (zu U i (U i - n)) m) = 100 - n := by
      rw [zl_set, mxs_set hg, h.2.2]; show 100 - U i + (U i - n) = _; omega
    obtain ⟨m1, V1, U1, h1, h2⟩ := c59s (rn := rn) (st := st) (dr := dr) (V := V) (U := zu U i (U i - n)) (m := m) (v := v) (n := n) hm (fun j hj => by have := Mb_at hM hj; omega) (by omega) (by omega) (Mb_room hM hv h24)
    have hM1 : Mb vn (zl V1 U1 m1) := by rw [h1]; exact gv_Mb hM hv
    have hs1 : mxs (zl V1 U1 m1) = 100 := by rw [h1, gv_mxs hn.1, hsum]; omega
    obtain ⟨m2, V2, U2, h3, _, h4⟩ := c61s (rn := rn) (st := st) (dr := dr) (V := V1) (U := U1) (m := m1) (by have := Mb_len hM1; rw [zl_len] at this; omega) (fun j hj => by have := Mb_at hM1 hj; omega)
    refine ⟨m2, V2, U2, by rw [h3, h1, trl_at hg e, zl_set], fun h => ?_⟩
    refine E_in (lv := [_, _, _, _]) rfl ?_
    refine E_aload pf_60_0 rfl ?_
    refine F_getf pf_60_1 rfl rfl rfl ?_
    refine E_iload pf_60_4 rfl ?_
    refine F_iald pf_60_5 rfl (by omega) ?_
    refine E_iload pf_60_6 rfl ?_
    refine E_icmp_ne_t pf_60_7 (by omega) ?_
    refine E_aload pf_60_11 rfl ?_
    refine F_getf pf_60_12 rfl rfl rfl ?_
    refine E_iload pf_60_15 rfl ?_
    refine E_dup2 pf_60_16 rfl rfl ?_
    refine F_iald pf_60_17 rfl (by omega) ?_
    refine E_iload pf_60_18 rfl ?_
    refine E_isub pf_60_19 ?_
    refine F_iast (l' := [(_, _), (_, _), (_, _)]) pf_60_20 rfl (by omega) rfl ?_
    refine E_aload pf_60_21 rfl ?_
    refine E_iload pf_60_22 rfl ?_
    refine E_iload pf_60_23 rfl ?_
    refine F_v3u (l' := [(_, _), (_, _), (_, _)]) pf_60_24 (h2) (And.intro rfl (And.intro rfl (And.intro rfl (trivial)))) rfl rfl rfl rfl ?_
    refine E_aload pf_60_27 rfl ?_
    refine F_v1v (l' := [(_, _), (_, _), (_, _)]) pf_60_28 (h4) (And.intro rfl (And.intro rfl (And.intro rfl (trivial)))) rfl rfl rfl rfl ?_
    refine E_pop pf_60_31 rfl ?_
    exact E_vret pf_60_32 rfl
theorem c60t {v n : Int} {i : Nat} (h : Mx vn (zl V U m)) (h24 : vn ≤ 24) (hi : i < m) (hv : 0 ≤ v ∧ v < vn) (hn : 0 ≤ n ∧ n ≤ U i) : ∃ (m' : Nat) (V' U' : Int → Int), zl V' U' m' = trl (zl V U m) i v n ∧ ∀ h, Ca 60 [.ref 28, .int (ii i), .int (ii v), .int (ii n)] (wd [(28, oS28 (rn : Int) (m : Int) st dr), (30, ar 24 V), (31, ar 24 U)] h) (.inl none, wd [(28, oS28 (rn : Int) (m' : Int) st dr), (30, ar 24 V'), (31, ar 24 U')] h) := by
  have hb := Mx_at h hi
  have hm : m ≤ 24 := by have := Mb_len h.1; rw [zl_len] at this; omega
  have hg : (zl V U m)[i]? = some (V i, U i) := zl_get hi
  by_cases e : V i = v
  · refine ⟨m, V, U, by rw [e] at hg; rw [trl_eq hg], fun h => ?_⟩
    refine E_in (lv := [_, _, _, _]) rfl ?_
    refine E_aload pf_60_0 rfl ?_
    refine F_getf pf_60_1 rfl rfl rfl ?_
    refine E_iload pf_60_4 rfl ?_
    refine F_iald pf_60_5 rfl (by omega) ?_
    refine E_iload pf_60_6 rfl ?_
    refine E_icmp_ne_f pf_60_7 (by omega) ?_
    exact E_vret pf_60_10 rfl
  · have hM : Mb vn (zl V (zu U i (U i - n)) m) := by
      rw [zl_set]; exact Mb_set h.1 hg rfl (by show 0 ≤ U i - n; omega)
    have hsum : mxs (zl V (zu U i (U i - n)) m) = 100 - n := by
      rw [zl_set, mxs_set hg, h.2.2]; show 100 - U i + (U i - n) = _; omega
    obtain ⟨m1, V1, U1, h1, h2⟩ := c59t (rn := rn) (st := st) (dr := dr) (V := V) (U := zu U i (U i - n)) (m := m) (v := v) (n := n) hm (fun j hj => by have := Mb_at hM hj; omega) (by omega) (by omega) (Mb_room hM hv h24)
    have hM1 : Mb vn (zl V1 U1 m1) := by rw [h1]; exact gv_Mb hM hv
    have hs1 : mxs (zl V1 U1 m1) = 100 := by rw [h1, gv_mxs hn.1, hsum]; omega
    obtain ⟨m2, V2, U2, h3, _, h4⟩ := c61t (rn := rn) (st := st) (dr := dr) (V := V1) (U := U1) (m := m1) (by have := Mb_len hM1; rw [zl_len] at this; omega) (fun j hj => by have := Mb_at hM1 hj; omega)
    refine ⟨m2, V2, U2, by rw [h3, h1, trl_at hg e, zl_set], fun h => ?_⟩
    refine E_in (lv := [_, _, _, _]) rfl ?_
    refine E_aload pf_60_0 rfl ?_
    refine F_getf pf_60_1 rfl rfl rfl ?_
    refine E_iload pf_60_4 rfl ?_
    refine F_iald pf_60_5 rfl (by omega) ?_
    refine E_iload pf_60_6 rfl ?_
    refine E_icmp_ne_t pf_60_7 (by omega) ?_
    refine E_aload pf_60_11 rfl ?_
    refine F_getf pf_60_12 rfl rfl rfl ?_
    refine E_iload pf_60_15 rfl ?_
    refine E_dup2 pf_60_16 rfl rfl ?_
    refine F_iald pf_60_17 rfl (by omega) ?_
    refine E_iload pf_60_18 rfl ?_
    refine E_isub pf_60_19 ?_
    refine F_iast (l' := [(_, _), (_, _), (_, _)]) pf_60_20 rfl (by omega) rfl ?_
    refine E_aload pf_60_21 rfl ?_
    refine E_iload pf_60_22 rfl ?_
    refine E_iload pf_60_23 rfl ?_
    refine F_v3u (l' := [(_, _), (_, _), (_, _)]) pf_60_24 (h2) (And.intro rfl (And.intro rfl (And.intro rfl (trivial)))) rfl rfl rfl rfl ?_
    refine E_aload pf_60_27 rfl ?_
    refine F_v1v (l' := [(_, _), (_, _), (_, _)]) pf_60_28 (h4) (And.intro rfl (And.intro rfl (And.intro rfl (trivial)))) rfl rfl rfl rfl ?_
    refine E_pop pf_60_31 rfl ?_
    exact E_vret pf_60_32 rfl
theorem c125n {v n : Int} {i : Nat} (h68 : r 68 = m) (h : Mx vn (zp r m)) (h24 : vn ≤ 24) (hi : i < m) (hv : 0 ≤ v ∧ v < vn) (hn : 0 ≤ n ∧ n ≤ pU r i) : ∃ (m' : Nat) (r' : Int → Int), zp r' m' = trl (zp r m) i v n ∧ r' 68 = m' ∧ pfr r r' ∧ ∀ h, Ca 125 [.ref 107, .int (ii i), .int (ii v), .int (ii n)] (wd [(107, ar 72 r)] h) (.inl none, wd [(107, ar 72 r')] h) := by
  have hb := Mx_at h hi
  have hm : m ≤ 24 := by have := Mb_len h.1; unfold zp at this; rw [zl_len] at this; omega
  have hg : (zp r m)[i]? = some (pV r i, pU r i) := zl_get hi
  have eV : r (20 + (i : Int)) = pV r i := rfl
  by_cases e : pV r i = v
  · refine ⟨m, r, by rw [e] at hg; rw [trl_eq hg], h68, pfr_rf r, fun h => ?_⟩
    refine E_in (lv := [_, _, _, _]) rfl ?_
    refine E_aload pf_125_0 rfl ?_
    refine E_iconst pf_125_1 ?_
    refine E_iload pf_125_3 rfl ?_
    refine E_iadd pf_125_4 ?_
    refine F_iald pf_125_5 rfl (by omega) ?_
    refine E_iload pf_125_6 rfl ?_
    refine E_icmp_eq_t pf_125_7 (by omega) ?_
    exact E_vret pf_125_31 rfl
  · obtain ⟨m1, r1, h1, h68b, hf1, h2⟩ := c121n (r := r) (m := m) (v := v) (n := n) h68 hm (fun j hj => by have := Mx_at h hj; omega) (by omega) (by omega) (Mb_room h.1 hv h24)
    have hM1 : Mb vn (zp r1 m1) := by rw [h1]; exact gv_Mb h.1 hv
    have hg1 : (zp r1 m1)[i]? = some (pV r i, pU r1 i) := by
      have hl : i < m1 := by
        have e1 : (zp r1 m1).length = m1 := zl_len _ _ _
        have e2 : m ≤ (gv (zp r m) v n).length := by
          have e3 : (zp r m).length = m := zl_len _ _ _
          unfold gv; split
          · omega
          · have := congrArg List.length (gvl_fst v n (zp r m))
            simp only [List.length_map] at this
            rw [this]; split <;> simp [e3]
        rw [← h1, e1] at e2; omega
      have e4 : (zp r1 m1)[i]? = some (pV r1 i, pU r1 i) := zl_get hl
      have e5 : ((zp r1 m1).map Prod.fst)[i]? = some (pV r i) := by
        rw [h1]
        have e6 : ((zp r m).map Prod.fst)[i]? = some (pV r i) := by rw [List.getElem?_map, hg]; rfl
        unfold gv; split
        · exact e6
        · rw [gvl_fst]; split
          · exact e6
          · rw [List.getElem?_append_left (by rw [List.length_map]; have : (zp r m).length = m := zl_len _ _ _; omega)]; exact e6
      rw [List.getElem?_map, e4] at e5
      simp at e5
      rw [e4, e5]
    have hu : pU r1 i = pU r i := by
      have e7 := gv_set (n := n) (x := pU r i) hg e
      have e8 : (zp r m).set i (pV r i, pU r i) = zp r m := by
        apply List.ext_getElem?
        intro j
        by_cases q : i = j
        · subst q; rw [List.getElem?_set_self (by have : (zp r m).length = m := zl_len _ _ _; omega), hg]
        · rw [List.getElem?_set_ne q]
      rw [e8, ← h1] at e7
      have e9 := hg1
      rw [e7, List.getElem?_set_self (by rcases Nat.lt_or_ge i (zp r1 m1).length with g | g; exact g; rw [List.getElem?_eq_none g] at hg1; cases hg1)] at e9
      simp at e9
      exact e9.symm
    have hl1 : i < m1 := by
      have e1 : (zp r1 m1).length = m1 := zl_len _ _ _
      rcases Nat.lt_or_ge i m1 with g | g
      · exact g
      · rw [List.getElem?_eq_none (by omega)] at hg1; cases hg1
    have hm1 : m1 ≤ 24 := by have := Mb_len hM1; unfold zp at this; rw [zl_len] at this; omega
    have e10 : zp (zu r1 (44 + (i : Int)) (r1 (44 + (i : Int)) - n)) m1 = (zp r1 m1).set i (pV r i, pU r i - n) := by
      have e11 : zp (zu r1 (44 + (i : Int)) (r1 (44 + (i : Int)) - n)) m1 = zl (pV r1) (zu (pU r1) i (pU r1 i - n)) m1 := by
        refine zl_congr fun j hj => ⟨?_, by rw [pU_u]; rfl⟩
        show zu _ _ _ (20 + (j : Int)) = _
        rw [zu_n _ _ (by omega)]; rfl
      have e12 : pV r1 i = pV r i := by
        have : (zp r1 m1)[i]? = some (pV r1 i, pU r1 i) := zl_get hl1
        rw [hg1] at this; simp at this; exact this.symm
      rw [e11, zl_set, e12, hu]; rfl
    have hM2 : Mb vn (zp (zu r1 (44 + (i : Int)) (r1 (44 + (i : Int)) - n)) m1) := by
      rw [e10]; exact Mb_set hM1 hg1 rfl (by show 0 ≤ pU r i - n; omega)
    have hs2 : mxs (zp (zu r1 (44 + (i : Int)) (r1 (44 + (i : Int)) - n)) m1) = 100 := by
      rw [e10, mxs_set hg1, h1, gv_mxs hn.1, h.2.2, hu]; show 100 + n - pU r i + (pU r i - n) = 100; omega
    obtain ⟨m2, r2, h3, _, h68c, hf2, h4⟩ := c122n (r := zu r1 (44 + (i : Int)) (r1 (44 + (i : Int)) - n)) (m := m1) (by rw [zu_n _ _ (by omega)]; exact h68b) hm1 (fun j hj => by have := Mb_at hM2 hj; unfold zp at hs2; omega)
    refine ⟨m2, r2, by rw [h3, e10, h1, trl_at hg e, gv_set hg e], h68c, pfr_tr hf1 (pfr_tr (pfr_u _ (by omega)) hf2), fun h => ?_⟩
    refine E_in (lv := [_, _, _, _]) rfl ?_
    refine E_aload pf_125_0 rfl ?_
    refine E_iconst pf_125_1 ?_
    refine E_iload pf_125_3 rfl ?_
    refine E_iadd pf_125_4 ?_
    refine F_iald pf_125_5 rfl (by omega) ?_
    refine E_iload pf_125_6 rfl ?_
    refine E_icmp_eq_f pf_125_7 (by omega) ?_
    refine E_aload pf_125_10 rfl ?_
    refine E_iload pf_125_11 rfl ?_
    refine E_iload pf_125_12 rfl ?_
    refine F_c3u (l' := [(_, _)]) pf_125_13 (h2) (And.intro rfl (trivial)) rfl rfl rfl ?_
    refine E_aload pf_125_16 rfl ?_
    refine E_iconst pf_125_17 ?_
    refine E_iload pf_125_19 rfl ?_
    refine E_iadd pf_125_20 ?_
    refine E_dup2 pf_125_21 rfl rfl ?_
    refine F_iald pf_125_22 rfl (by omega) ?_
    refine E_iload pf_125_23 rfl ?_
    refine E_isub pf_125_24 ?_
    refine F_iast (l' := [(_, _)]) pf_125_25 rfl (by omega) rfl ?_
    refine E_aload pf_125_26 rfl ?_
    refine F_c1v (l' := [(_, _)]) pf_125_27 (h4) (And.intro rfl (trivial)) rfl rfl rfl ?_
    refine E_pop pf_125_30 rfl ?_
    exact E_vret pf_125_31 rfl
theorem c125t {v n : Int} {i : Nat} (h68 : r 68 = m) (h : Mx vn (zp r m)) (h24 : vn ≤ 24) (hi : i < m) (hv : 0 ≤ v ∧ v < vn) (hn : 0 ≤ n ∧ n ≤ pU r i) : ∃ (m' : Nat) (r' : Int → Int), zp r' m' = trl (zp r m) i v n ∧ r' 68 = m' ∧ pfr r r' ∧ ∀ h, Ca 125 [.ref 108, .int (ii i), .int (ii v), .int (ii n)] (wd [(108, ar 72 r)] h) (.inl none, wd [(108, ar 72 r')] h) := by
  have hb := Mx_at h hi
  have hm : m ≤ 24 := by have := Mb_len h.1; unfold zp at this; rw [zl_len] at this; omega
  have hg : (zp r m)[i]? = some (pV r i, pU r i) := zl_get hi
  have eV : r (20 + (i : Int)) = pV r i := rfl
  by_cases e : pV r i = v
  · refine ⟨m, r, by rw [e] at hg; rw [trl_eq hg], h68, pfr_rf r, fun h => ?_⟩
    refine E_in (lv := [_, _, _, _]) rfl ?_
    refine E_aload pf_125_0 rfl ?_
    refine E_iconst pf_125_1 ?_
    refine E_iload pf_125_3 rfl ?_
    refine E_iadd pf_125_4 ?_
    refine F_iald pf_125_5 rfl (by omega) ?_
    refine E_iload pf_125_6 rfl ?_
    refine E_icmp_eq_t pf_125_7 (by omega) ?_
    exact E_vret pf_125_31 rfl
  · obtain ⟨m1, r1, h1, h68b, hf1, h2⟩ := c121t (r := r) (m := m) (v := v) (n := n) h68 hm (fun j hj => by have := Mx_at h hj; omega) (by omega) (by omega) (Mb_room h.1 hv h24)
    have hM1 : Mb vn (zp r1 m1) := by rw [h1]; exact gv_Mb h.1 hv
    have hg1 : (zp r1 m1)[i]? = some (pV r i, pU r1 i) := by
      have hl : i < m1 := by
        have e1 : (zp r1 m1).length = m1 := zl_len _ _ _
        have e2 : m ≤ (gv (zp r m) v n).length := by
          have e3 : (zp r m).length = m := zl_len _ _ _
          unfold gv; split
          · omega
          · have := congrArg List.length (gvl_fst v n (zp r m))
            simp only [List.length_map] at this
            rw [this]; split <;> simp [e3]
        rw [← h1, e1] at e2; omega
      have e4 : (zp r1 m1)[i]? = some (pV r1 i, pU r1 i) := zl_get hl
      have e5 : ((zp r1 m1).map Prod.fst)[i]? = some (pV r i) := by
        rw [h1]
        have e6 : ((zp r m).map Prod.fst)[i]? = some (pV r i) := by rw [List.getElem?_map, hg]; rfl
        unfold gv; split
        · exact e6
        · rw [gvl_fst]; split
          · exact e6
          · rw [List.getElem?_append_left (by rw [List.length_map]; have : (zp r m).length = m := zl_len _ _ _; omega)]; exact e6
      rw [List.getElem?_map, e4] at e5
      simp at e5
      rw [e4, e5]
    have hu : pU r1 i = pU r i := by
      have e7 := gv_set (n := n) (x := pU r i) hg e
      have e8 : (zp r m).set i (pV r i, pU r i) = zp r m := by
        apply List.ext_getElem?
        intro j
        by_cases q : i = j
        · subst q; rw [List.getElem?_set_self (by have : (zp r m).length = m := zl_len _ _ _; omega), hg]
        · rw [List.getElem?_set_ne q]
      rw [e8, ← h1] at e7
      have e9 := hg1
      rw [e7, List.getElem?_set_self (by rcases Nat.lt_or_ge i (zp r1 m1).length with g | g; exact g; rw [List.getElem?_eq_none g] at hg1; cases hg1)] at e9
      simp at e9
      exact e9.symm
    have hl1 : i < m1 := by
      have e1 : (zp r1 m1).length = m1 := zl_len _ _ _
      rcases Nat.lt_or_ge i m1 with g | g
      · exact g
      · rw [List.getElem?_eq_none (by omega)] at hg1; cases hg1
    have hm1 : m1 ≤ 24 := by have := Mb_len hM1; unfold zp at this; rw [zl_len] at this; omega
    have e10 : zp (zu r1 (44 + (i : Int)) (r1 (44 + (i : Int)) - n)) m1 = (zp r1 m1).set i (pV r i, pU r i - n) := by
      have e11 : zp (zu r1 (44 + (i : Int)) (r1 (44 + (i : Int)) - n)) m1 = zl (pV r1) (zu (pU r1) i (pU r1 i - n)) m1 := by
        refine zl_congr fun j hj => ⟨?_, by rw [pU_u]; rfl⟩
        show zu _ _ _ (20 + (j : Int)) = _
        rw [zu_n _ _ (by omega)]; rfl
      have e12 : pV r1 i = pV r i := by
        have : (zp r1 m1)[i]? = some (pV r1 i, pU r1 i) := zl_get hl1
        rw [hg1] at this; simp at this; exact this.symm
      rw [e11, zl_set, e12, hu]; rfl
    have hM2 : Mb vn (zp (zu r1 (44 + (i : Int)) (r1 (44 + (i : Int)) - n)) m1) := by
      rw [e10]; exact Mb_set hM1 hg1 rfl (by show 0 ≤ pU r i - n; omega)
    have hs2 : mxs (zp (zu r1 (44 + (i : Int)) (r1 (44 + (i : Int)) - n)) m1) = 100 := by
      rw [e10, mxs_set hg1, h1, gv_mxs hn.1, h.2.2, hu]; show 100 + n - pU r i + (pU r i - n) = 100; omega
    obtain ⟨m2, r2, h3, _, h68c, hf2, h4⟩ := c122t (r := zu r1 (44 + (i : Int)) (r1 (44 + (i : Int)) - n)) (m := m1) (by rw [zu_n _ _ (by omega)]; exact h68b) hm1 (fun j hj => by have := Mb_at hM2 hj; unfold zp at hs2; omega)
    refine ⟨m2, r2, by rw [h3, e10, h1, trl_at hg e, gv_set hg e], h68c, pfr_tr hf1 (pfr_tr (pfr_u _ (by omega)) hf2), fun h => ?_⟩
    refine E_in (lv := [_, _, _, _]) rfl ?_
    refine E_aload pf_125_0 rfl ?_
    refine E_iconst pf_125_1 ?_
    refine E_iload pf_125_3 rfl ?_
    refine E_iadd pf_125_4 ?_
    refine F_iald pf_125_5 rfl (by omega) ?_
    refine E_iload pf_125_6 rfl ?_
    refine E_icmp_eq_f pf_125_7 (by omega) ?_
    refine E_aload pf_125_10 rfl ?_
    refine E_iload pf_125_11 rfl ?_
    refine E_iload pf_125_12 rfl ?_
    refine F_c3u (l' := [(_, _)]) pf_125_13 (h2) (And.intro rfl (trivial)) rfl rfl rfl ?_
    refine E_aload pf_125_16 rfl ?_
    refine E_iconst pf_125_17 ?_
    refine E_iload pf_125_19 rfl ?_
    refine E_iadd pf_125_20 ?_
    refine E_dup2 pf_125_21 rfl rfl ?_
    refine F_iald pf_125_22 rfl (by omega) ?_
    refine E_iload pf_125_23 rfl ?_
    refine E_isub pf_125_24 ?_
    refine F_iast (l' := [(_, _)]) pf_125_25 rfl (by omega) rfl ?_
    refine E_aload pf_125_26 rfl ?_
    refine F_c1v (l' := [(_, _)]) pf_125_27 (h4) (And.intro rfl (trivial)) rfl rfl rfl ?_
    refine E_pop pf_125_30 rfl ?_
    exact E_vret pf_125_31 rfl
end TRF
