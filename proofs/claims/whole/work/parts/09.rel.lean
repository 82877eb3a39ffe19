/-! The pure heap beside the real one. -/
def pd_ad (b base k : Nat) : Nat := match k with
  | 0 => b
  | k + 1 => base + k
def pd_tr (b base : Nat) (v : Value) : Value := match v with
  | .ref a => .ref (pd_ad b base a)
  | v => v
abbrev pd_D5 : Type := (Nat → Int32) ⊕ (Nat → Int64) ⊕ (Nat → UInt32) ⊕ (Nat → UInt64) ⊕ (Nat → Option Nat)
def pd_trD (b base : Nat) (d : pd_D5) : pd_D5 := match d with
  | .inr (.inr (.inr (.inr f))) => .inr (.inr (.inr (.inr (fun k => (f k).map (pd_ad b base)))))
  | d => d
def pd_trE (b base : Nat) (cy : Nat → ClassId) (c : pd_E) : va_E := match c with
  | .inl (t, n, d) => .inl (cy t, n, pd_trD b base d)
  | .inr (ci, fs) => .inr (ci, fs.map (pd_tr b base))
def pd_W (b base : Nat) (cy : Nat → ClassId) (h : pd_H) : va_W := (List.range h.1.2.2).map (fun k => (base + k, pd_trE b base cy (h.2 (k + 1))))
def pd_A (base : Nat) : Nat → Prop := fun q => base ≤ q
def pd_cl : List vw_C := [(pd_cn 0, pd_ft 0, pd_fn 0), (pd_cn 1, pd_ft 1, pd_fn 1), (pd_cn 2, pd_ft 2, pd_fn 2), (pd_cn 3, pd_ft 3, pd_fn 3), (pd_cn 4, pd_ft 4, pd_fn 4), (pd_cn 5, pd_ft 5, pd_fn 5), (pd_cn 6, pd_ft 6, pd_fn 6)]
def pd_tys (cy : Nat → ClassId) : List (ClassId × FieldType) := [(cy 0, .int), (cy 1, .long), (cy 2, .boolean), (cy 3, .object (pd_cn 4))]
theorem pd_cl_at {ci : Nat} (h : ci < 7) : pd_cl[ci]? = some (pd_cn ci, pd_ft ci, pd_fn ci) := by
  match ci, h with
  | 0, _ => rfl
  | 1, _ => rfl
  | 2, _ => rfl
  | 3, _ => rfl
  | 4, _ => rfl
  | 5, _ => rfl
  | 6, _ => rfl
  | k + 7, h => exact absurd h (by omega)
section PDW
variable {b base : Nat} {cy : Nat → ClassId} {h : pd_H}
theorem pd_W_at {k : Nat} (hk : k < h.1.2.2) : (pd_W b base cy h)[k]? = some (base + k, pd_trE b base cy (h.2 (k + 1))) := by
  simp [pd_W, hk]
theorem pd_W_len : (pd_W b base cy h).length = h.1.2.2 := by simp [pd_W]
theorem pd_W_inv {k : Nat} {q : Nat × va_E} (e : (pd_W b base cy h)[k]? = some q) : k < h.1.2.2 ∧ q = (base + k, pd_trE b base cy (h.2 (k + 1))) := by
  have hk : k < h.1.2.2 := by
    have := (List.getElem?_eq_some_iff.mp e).1
    rwa [pd_W_len] at this
  rw [pd_W_at hk] at e
  exact ⟨hk, (Option.some.inj e).symm⟩
theorem pd_W_D : va_D (pd_A base) (pd_W b base cy h) := by
  refine ⟨fun i j p q hp hq e => ?_, fun k q hq => ?_⟩
  · obtain ⟨-, rfl⟩ := pd_W_inv hp
    obtain ⟨-, rfl⟩ := pd_W_inv hq
    have e : base + i = base + j := e
    omega
  · obtain ⟨-, rfl⟩ := pd_W_inv hq
    exact Nat.le_add_right base k
theorem pd_W_put {k : Nat} (hk : k < h.1.2.2) (c : pd_E) : pd_W b base cy (pd_put h (k + 1) c) = (pd_W b base cy h).set k (base + k, pd_trE b base cy c) := by
  apply List.ext_getElem?
  intro j
  by_cases hj : j < h.1.2.2
  · rw [pd_W_at (h := pd_put h (k + 1) c) hj]
    by_cases e : j = k
    · subst e
      rw [List.getElem?_set_self (by rw [pd_W_len]; exact hj)]
      simp [pd_put]
    · rw [List.getElem?_set_ne (fun q => e q.symm), pd_W_at hj]
      simp [pd_put, e]
  · rw [List.getElem?_eq_none (by rw [pd_W_len]; exact Nat.le_of_not_lt hj), List.getElem?_eq_none (by rw [List.length_set, pd_W_len]; exact Nat.le_of_not_lt hj)]
theorem pd_W_new (n : Nat) (c : pd_E) : pd_W b base cy (pd_new h n c) = pd_W b base cy h ++ [(base + h.1.2.2, pd_trE b base cy c)] := by
  apply List.ext_getElem?
  intro j
  have hl : (pd_new h n c).1.2.2 = h.1.2.2 + 1 := rfl
  by_cases hj : j < h.1.2.2
  · rw [pd_W_at (h := pd_new h n c) (by rw [hl]; omega), List.getElem?_append_left (by rw [pd_W_len]; exact hj), pd_W_at hj]
    simp only [pd_new]
    rw [if_neg (by omega)]
  · by_cases e : j = h.1.2.2
    · subst e
      rw [pd_W_at (h := pd_new h n c) (by rw [hl]; omega), List.getElem?_append_right (by rw [pd_W_len]; exact Nat.le_refl _), pd_W_len]
      simp [pd_new]
    · rw [List.getElem?_eq_none (by rw [pd_W_len, hl]; omega), List.getElem?_eq_none (by rw [List.length_append, pd_W_len]; simp; omega)]
theorem pd_W_thr : pd_W b base cy (pd_thr h) = pd_W b base cy h := rfl
end PDW
-- locals
def pd_lvA (b base : Nat) (lv : List Value) : List (Nat × Value) := (lv.zipIdx.filter (fun q => !(q.1 == pd_dum))).map (fun q => (q.2, pd_tr b base q.1))
theorem pd_lvA_in {b base : Nat} {lv : List Value} {q : Nat × Value} : q ∈ pd_lvA b base lv ↔ ∃ v, lv[q.1]? = some v ∧ v ≠ pd_dum ∧ q.2 = pd_tr b base v := by
  obtain ⟨k, w⟩ := q
  simp only [pd_lvA, List.mem_map, List.mem_filter]
  constructor
  · rintro ⟨⟨v, i⟩, ⟨h1, h2⟩, h3⟩
    cases h3
    exact ⟨v, List.mem_zipIdx_iff_getElem?.mp h1, by simpa using h2, rfl⟩
  · rintro ⟨v, h1, h2, h3⟩
    exact ⟨(v, k), ⟨List.mem_zipIdx_iff_getElem?.mpr h1, by simpa using h2⟩, by simp [h3]⟩
theorem pd_has_sub {ls : Array Slot} {n : Nat} {l l' : List (Nat × Value)} (h : lv_has ls n l) (hs : ∀ q ∈ l', q ∈ l) : lv_has ls n l' := ⟨h.1, h.2.1, fun q hq => h.2.2 q (hs q hq)⟩
theorem pd_lv_at {b base : Nat} {ls : Array Slot} {n k : Nat} {lv : List Value} {v : Value} (h : lv_has ls n (pd_lvA b base lv)) (e : lv[k]? = some v) (hv : v ≠ pd_dum) : ls[k]? = some (.val (pd_tr b base v)) :=
  h.2.2 (k, pd_tr b base v) (pd_lvA_in.mpr ⟨v, e, hv, rfl⟩)
theorem pd_tr_cat (b base : Nat) (v : Value) : (pd_tr b base v).category = v.category := by cases v <;> rfl
theorem pd_wide_cat (v : Value) : pd_wide v = (v.category == 2) := by cases v <;> rfl
theorem pd_cln_at {lv : List Value} {k j : Nat} {v : Value} (e : (pd_cln lv k)[j]? = some v) (hv : v ≠ pd_dum) : lv[j]? = some v ∧ ¬ (j + 1 = k ∧ pd_wide v = true) := by
  cases k with
  | zero => exact ⟨e, fun q => by omega⟩
  | succ i =>
    simp only [pd_cln] at e
    split at e
    · rename_i hw
      by_cases hj : i = j
      · subst hj
        rw [List.getElem?_set] at e
        split at e
        · split at e
          · exact absurd (Option.some.inj e).symm hv
          · exact absurd e (by simp)
        · exact absurd rfl ‹_›
      · rw [List.getElem?_set_ne hj] at e
        exact ⟨e, fun q => by omega⟩
    · rename_i hw
      refine ⟨e, fun q => ?_⟩
      have hji : j = i := by omega
      subst hji
      rw [List.getD_eq_getElem?_getD, e] at hw
      exact hw q.2
theorem pd_cln_len (lv : List Value) (k : Nat) : (pd_cln lv k).length = lv.length := by
  cases k with
  | zero => rfl
  | succ i => simp only [pd_cln]; split <;> simp
theorem pd_s1_len (lv : List Value) (k : Nat) (v : Value) : (pd_s1 lv k v).length = lv.length := by simp [pd_s1, pd_cln_len]
theorem pd_s2_len (lv : List Value) (k : Nat) (v : Value) : (pd_s2 lv k v).length = lv.length := by simp [pd_s2, pd_cln_len]
theorem pd_s1_sub {b base : Nat} {lv : List Value} {k : Nat} {v : Value} (hk : k < lv.length) : ∀ q ∈ pd_lvA b base (pd_s1 lv k v), q ∈ (k, pd_tr b base v) :: (pd_lvA b base lv).filter (fun q => !(q.1 == k) && !(q.1 + 1 == k && q.2.category == 2)) := by
  rintro ⟨j, w⟩ hq
  obtain ⟨u, h1, h2, h3⟩ := pd_lvA_in.mp hq
  simp only at h1 h3
  subst h3
  unfold pd_s1 at h1
  by_cases e : k = j
  · subst e
    rw [List.getElem?_set_self (by rw [pd_cln_len]; exact hk)] at h1
    cases h1
    exact List.mem_cons_self
  · rw [List.getElem?_set_ne e] at h1
    obtain ⟨h4, h5⟩ := pd_cln_at h1 h2
    refine List.mem_cons_of_mem _ (List.mem_filter.mpr ⟨pd_lvA_in.mpr ⟨u, h4, h2, rfl⟩, ?_⟩)
    simp only [pd_tr_cat]
    rw [pd_wide_cat] at h5
    simp only [beq_iff_eq] at h5
    simp
    exact ⟨fun q => e q.symm, if q1 : j + 1 = k then Or.inr (fun q2 => h5 ⟨q1, q2⟩) else Or.inl q1⟩
theorem pd_s2_sub {b base : Nat} {lv : List Value} {k : Nat} {v : Value} (hk : k + 1 < lv.length) : ∀ q ∈ pd_lvA b base (pd_s2 lv k v), q ∈ (k, pd_tr b base v) :: (pd_lvA b base lv).filter (fun q => !(q.1 == k) && (!(q.1 == k + 1) && !(q.1 + 1 == k && q.2.category == 2))) := by
  rintro ⟨j, w⟩ hq
  obtain ⟨u, h1, h2, h3⟩ := pd_lvA_in.mp hq
  simp only at h1 h3
  subst h3
  unfold pd_s2 at h1
  by_cases e2 : k + 1 = j
  · subst e2
    rw [List.getElem?_set_self (by rw [List.length_set, pd_cln_len]; exact hk)] at h1
    exact absurd (Option.some.inj h1).symm h2
  rw [List.getElem?_set_ne e2] at h1
  by_cases e : k = j
  · subst e
    rw [List.getElem?_set_self (by rw [pd_cln_len]; omega)] at h1
    cases h1
    exact List.mem_cons_self
  · rw [List.getElem?_set_ne e] at h1
    obtain ⟨h4, h5⟩ := pd_cln_at h1 h2
    refine List.mem_cons_of_mem _ (List.mem_filter.mpr ⟨pd_lvA_in.mpr ⟨u, h4, h2, rfl⟩, ?_⟩)
    simp only [pd_tr_cat]
    rw [pd_wide_cat] at h5
    simp only [beq_iff_eq] at h5
    simp
    exact ⟨fun q => e q.symm, fun q => e2 q.symm, if q1 : j + 1 = k then Or.inr (fun q2 => h5 ⟨q1, q2⟩) else Or.inl q1⟩
theorem pd_sl_map (b base : Nat) (vs : List Value) : (lg_sl (vs.map (pd_tr b base))).length = (pd_sl vs).length := by
  induction vs with
  | nil => rfl
  | cons v vs ih =>
    simp only [List.map_cons, pd_sl]
    cases v <;> simp [lg_sl, pd_tr, pd_wide, Value.category] at ih ⊢ <;> omega
theorem pd_sl_at (b base : Nat) : ∀ (vs : List Value) (i : Nat) (pre : List Value), pre.length = i → ∀ q ∈ pd_lvA b base (pre ++ pd_sl vs), i ≤ q.1 → q ∈ lv_args i (vs.map (pd_tr b base)) := by
  intro vs
  induction vs with
  | nil =>
    intro i pre hp q hq hi
    obtain ⟨v, h1, -, -⟩ := pd_lvA_in.mp hq
    have := (List.getElem?_eq_some_iff.mp h1).1
    simp [pd_sl] at this
    omega
  | cons v vs ih =>
    intro i pre hp q hq hi
    obtain ⟨j, w⟩ := q
    have hcat : (pd_tr b base v).category = 2 ↔ pd_wide v = true := by rw [pd_tr_cat, pd_wide_cat]; simp
    simp only [List.map_cons, lv_args]
    obtain ⟨u, h1, h2, h3⟩ := pd_lvA_in.mp hq
    simp only at h1 h3 hi
    simp only [pd_sl] at hq h1
    by_cases hw : pd_wide v = true
    · rw [if_pos hw] at hq h1
      rw [if_pos (hcat.mpr hw)]
      rcases Nat.lt_or_ge j (i + 2) with hj | hj
      · rcases (show j = i ∨ j = i + 1 by omega) with rfl | rfl
        · rw [List.getElem?_append_right (by omega)] at h1
          simp [hp] at h1
          rw [h3, ← h1]
          exact List.mem_cons_self
        · rw [List.getElem?_append_right (by omega)] at h1
          rw [show i + 1 - pre.length = 1 by omega] at h1
          simp at h1
          exact absurd h1.symm h2
      · refine List.mem_cons_of_mem _ (ih (i + 2) (pre ++ [v, pd_dum]) (by simp [hp]) (j, w) ?_ hj)
        rw [List.append_assoc]
        exact hq
    · rw [if_neg hw] at hq h1
      rw [if_neg (fun q => hw (hcat.mp q))]
      rcases Nat.lt_or_ge j (i + 1) with hj | hj
      · have : j = i := by omega
        subst this
        rw [List.getElem?_append_right (by omega)] at h1
        simp [hp] at h1
        rw [h3, ← h1]
        exact List.mem_cons_self
      · refine List.mem_cons_of_mem _ (ih (i + 1) (pre ++ [v]) (by simp [hp]) (j, w) ?_ hj)
        rw [List.append_assoc]
        exact hq
theorem pd_ent_sub {b base n : Nat} {vs : List Value} : ∀ q ∈ pd_lvA b base (pd_ent n vs), q ∈ lv_args 0 (vs.map (pd_tr b base)) := by
  rintro ⟨j, w⟩ hq
  refine pd_sl_at b base vs 0 [] rfl (j, w) ?_ (Nat.zero_le _)
  obtain ⟨u, h1, h2, h3⟩ := pd_lvA_in.mp hq
  simp only at h1 h3
  refine pd_lvA_in.mpr ⟨u, ?_, h2, h3⟩
  unfold pd_ent at h1
  rw [List.nil_append]
  by_cases hj : j < (pd_sl vs).length
  · rwa [List.getElem?_append_left hj] at h1
  · rw [List.getElem?_append_right (Nat.le_of_not_lt hj)] at h1
    rw [List.getElem?_replicate] at h1
    split at h1
    · exact absurd (Option.some.inj h1).symm h2
    · exact absurd h1 (by simp)
theorem pd_ent_len {n : Nat} {vs : List Value} (h : (pd_sl vs).length ≤ n) : (pd_ent n vs).length = n := by simp [pd_ent]; omega
-- heaps grow
def pd_le (h h' : pd_H) : Prop := h.1.1 ≤ h'.1.1 ∧ h.1.2.1 ≤ h'.1.2.1 ∧ h.1.2.2 ≤ h'.1.2.2 ∧ h'.1.2.2 + h.1.1 ≤ h'.1.1 + h.1.2.2
theorem pd_le_rf (h : pd_H) : pd_le h h := ⟨Nat.le_refl _, Nat.le_refl _, Nat.le_refl _, by omega⟩
theorem pd_le_tr {h h1 h2 : pd_H} (a : pd_le h h1) (b : pd_le h1 h2) : pd_le h h2 := by
  obtain ⟨a1, a2, a3, a4⟩ := a
  obtain ⟨b1, b2, b3, b4⟩ := b
  exact ⟨by omega, by omega, by omega, by omega⟩
theorem pd_le_put (h : pd_H) (a : Nat) (c : pd_E) : pd_le h (pd_put h a c) := pd_le_rf h
theorem pd_le_new (h : pd_H) (n : Nat) (c : pd_E) : pd_le h (pd_new h n c) := ⟨by simp [pd_new], by simp [pd_new], by simp [pd_new], by simp [pd_new]; omega⟩
theorem pd_le_thr (h : pd_H) : pd_le h (pd_thr h) := ⟨by simp [pd_thr], by simp [pd_thr], by simp [pd_thr], by simp [pd_thr]; omega⟩
theorem W.sz {p : Program} {l : Launch} {e : Env} {R : Room} {s : State} {m : MethodId} {args : Array Value} {below : List Frame} {meth : Method} {c : Code} {H : Heap} {locs : List Loc} {cells slots : Nat} {Q : State → Prop} {g : JFrame} (k : H.size ≤ s.heap.size + cells → W p l e R s m args below meth c H locs cells slots Q g) : W p l e R s m args below meth c H locs cells slots Q g := by
  intro T hT X
  refine k ?_ T hT X
  have := X.same.2.2.1
  rw [← hT]
  exact this
