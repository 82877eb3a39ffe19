/-! Steps of the pure machine that touch the heap. -/
theorem pd_uw {ci : Nat} (h : ci < 7) : ∀ w ∈ u_ws (pd_cn ci) (pd_ft ci) (pd_fn ci), w ∈ pd_tb := by
  intro w hw
  obtain ⟨k, hk, rfl⟩ := List.mem_map.mp hw
  have h1 := List.all_eq_true.mp tbu_n ci (List.mem_range.mpr h)
  have h2 := of_decide_eq_true (List.all_eq_true.mp h1 k hk)
  obtain ⟨p9, hp⟩ := pd_zp_in tbu_b _ h2
  exact pd_at_in hp
theorem pd_ff {o k f : Nat} (h : pd_lk pd_FL o k = some f) : Cond.fieldLink (pd_cn o) k (pd_cn (f / 100)) (pd_ft (f / 100) (f % 100)).2.1 (pd_ft (f / 100) (f % 100)).2.2.1 ∈ pd_tb ∧ f / 100 < 7 ∧ f % 100 < pd_fn (f / 100) ∧ (pd_ft (f / 100) (f % 100)).1 = pd_cn (f / 100) := by
  obtain ⟨p9, hp⟩ := pd_zp_in tbf_b _ (pd_lk_in h)
  simp only [Bool.and_eq_true, decide_eq_true_eq] at hp
  exact ⟨pd_at_in hp.1, hp.2.1, hp.2.2.1, hp.2.2.2⟩
theorem pd_tyok {ci : Nat} (h : ci < 7) : (∀ k, k < pd_fn ci → parseFieldDescriptor (pd_ft ci k).2.2.1 = some (pd_ty ci k)) ∧ ∀ a, a < pd_fn ci → ∀ b, b < pd_fn ci → a ≠ b → (pd_ft ci a).2.1 ≠ (pd_ft ci b).2.1 := by
  have h1 := List.all_eq_true.mp tbt_b ci (List.mem_range.mpr h)
  have h2 := fun k (hk : k < pd_fn ci) => List.all_eq_true.mp h1 k (List.mem_range.mpr hk)
  refine ⟨fun k hk => ?_, fun a ha b hb hab => ?_⟩
  · have h3 := h2 k hk
    simp only [Bool.and_eq_true, decide_eq_true_eq] at h3
    exact h3.1
  · have h3 := h2 b hb
    simp only [Bool.and_eq_true] at h3
    have h4 := List.all_eq_true.mp h3.2 a (List.mem_range.mpr ha)
    simp only [Bool.or_eq_true, decide_eq_true_eq] at h4
    exact h4.resolve_left hab
theorem pd_mw {o k c : Nat} (h : pd_lk pd_ML o k = some c) : Cond.methodLink (pd_cn o) k (pd_yy c) ∈ pd_tb := by
  have h1 := pd_lk_in h
  obtain ⟨i, hi⟩ := List.getElem?_of_mem h1
  have hlt : i < 240 := Nat.lt_of_lt_of_le (List.getElem?_eq_some_iff.mp hi).1 tbm_l
  have cut : ∀ j, 60 * j ≤ i → i < 60 * j + 60 → (o, k, c) ∈ (pd_ML.drop (60 * j)).take 60 := by
    intro j h2 h3
    refine List.mem_of_getElem? (i := i - 60 * j) ?_
    rw [List.getElem?_take_of_lt (by omega), List.getElem?_drop, show 60 * j + (i - 60 * j) = i by omega]
    exact hi
  rcases (show i < 60 ∨ (60 ≤ i ∧ i < 120) ∨ (120 ≤ i ∧ i < 180) ∨ (180 ≤ i ∧ i < 240) by omega) with q | q | q | q
  · obtain ⟨p9, hp⟩ := pd_zp_in tbm_b0 _ (cut 0 (by omega) (by omega)); exact pd_at_in hp
  · obtain ⟨p9, hp⟩ := pd_zp_in tbm_b1 _ (cut 1 (by omega) (by omega)); exact pd_at_in hp
  · obtain ⟨p9, hp⟩ := pd_zp_in tbm_b2 _ (cut 2 (by omega) (by omega)); exact pd_at_in hp
  · obtain ⟨p9, hp⟩ := pd_zp_in tbm_b3 _ (cut 3 (by omega) (by omega)); exact pd_at_in hp
theorem pd_fit_ok {b base : Nat} {ty : FieldType} {v : Value} (h : pd_fit ty v = true) : narrow ty (pd_tr b base v) = pd_tr b base v ∧ fits ty (pd_tr b base v) = true := by
  cases ty <;> cases v <;> simp [pd_fit] at h <;> exact ⟨rfl, rfl⟩
section PDT
variable {b base L : Nat} {xs : Nat → Int32} {dC : Nat → ClassId} {dI : Nat → Nat → Nat} {cy : Nat → ClassId}
variable {p : Program} {l : Launch} {e : Env} {R : Room} {s : State} {m : MethodId} {args : Array Value} {below : List Frame} {meth : Method} {c : Code} {H : Heap} {locs : List Loc} {Q : State → Prop} {ls : Array Slot}
variable {mi pc pc' : Nat} {lv lv' st st' : List Value} {h h0 h1 : pd_H}
theorem pd_Co_put {H1 : Heap} {locs1 : List Loc} {k : Nat} {x : pd_E} (hbb : b < base) (hsz : base ≤ s.heap.size) (C : pd_Co b base L xs dC dI cy h s H) (hS : va_S (pd_A base) s.heap H locs) (hk : k < h.1.2.2) (hx : ∀ t n d, x = .inl (t, n, d) → t < 4) (hP1 : va_P (dC, dI) pd_cl ((pd_W b base cy h).set k (base + k, pd_trE b base cy x)) H1) (hS1 : va_S (pd_A base) s.heap H1 locs1) : pd_Co b base L xs dC dI cy (pd_put h (k + 1) x) s H1 := by
  refine pd_Co_kept hbb C (by rw [pd_W_put hk]; exact hP1) (g_n h x (by omega)) (fun a ha => ?_) (fun a t n d h0 hg => ?_) (fun q _ hq => ?_)
  · have ha : h.1.2.2 < a := ha
    rw [g_n h x (by omega)]
    exact C.2.2.2.1.2.1 a ha
  · by_cases e : a = k + 1
    · rw [e, g_s] at hg
      exact hx t n d hg
    · rw [g_n h x e] at hg
      exact C.2.2.2.1.2.2 a t n d h0 hg
  · have hq' : q < base := Nat.not_le.mp hq
    exact (hS1.2.1 q (by omega) hq).trans (hS.2.1 q (by omega) hq).symm
theorem pd_Co_new {H1 : Heap} {locs1 : List Loc} {n : Nat} {x : pd_E} (hbb : b < base) (hsz : base ≤ s.heap.size) (C : pd_Co b base L xs dC dI cy h s H) (hS : va_S (pd_A base) s.heap H locs) (hx : ∀ t n d, x = .inl (t, n, d) → t < 4) (hP1 : va_P (dC, dI) pd_cl (pd_W b base cy h ++ [(base + h.1.2.2, pd_trE b base cy x)]) H1) (hS1 : va_S (pd_A base) s.heap H1 locs1) : pd_Co b base L xs dC dI cy (pd_new h n x) s H1 := by
  have g0 : ∀ a, a ≠ h.1.2.2 + 1 → pd_get (pd_new h n x) a = pd_get h a := fun a ha => by simp [pd_get, pd_new, ha]
  refine pd_Co_kept hbb C (by rw [pd_W_new]; exact hP1) (g0 0 (by omega)) (fun a ha => ?_) (fun a t n' d h0 hg => ?_) (fun q _ hq => ?_)
  · have ha : h.1.2.2 + 1 < a := ha
    rw [g0 a (by omega)]
    exact C.2.2.2.1.2.1 a (by omega)
  · by_cases e : a = h.1.2.2 + 1
    · rw [e] at hg
      have : pd_get (pd_new h n x) (h.1.2.2 + 1) = x := by simp [pd_get, pd_new]
      rw [this] at hg
      exact hx t n' d hg
    · rw [g0 a e] at hg
      exact C.2.2.2.1.2.2 a t n' d h0 hg
  · have hq' : q < base := Nat.not_le.mp hq
    exact (hS1.2.1 q (by omega) hq).trans (hS.2.1 q (by omega) hq).symm
/-- where the next cell comes, as long as every cell that was made is held -/
theorem pd_fresh {H1 : Heap} {q : Nat} {x : va_E} (hD : va_D (pd_A base) (pd_W b base cy h ++ [(q, x)])) (hP : va_P (dC, dI) pd_cl (pd_W b base cy h ++ [(q, x)]) H1) (hle : pd_le h0 h) (h02 : h0.1.2.2 ≤ h0.1.1) (hex : h0.1.1 = h0.1.2.2 → s.heap.size = base + h0.1.2.2) (he : h.1.1 = h.1.2.2) (hz : H1.size ≤ s.heap.size + ((h.1.1 - h0.1.1) + 1)) : q = base + h.1.2.2 := by
  have hl : (pd_W b base cy h ++ [(q, x)])[h.1.2.2]? = some (q, x) := by rw [List.getElem?_append_right (by rw [pd_W_len]; exact Nat.le_refl _), pd_W_len]; simp
  have h1 : base ≤ q := hD.2 _ _ hl
  have h2 : q < H1.size := (hP _ _ hl).lt
  obtain ⟨a1, a2, a3, a4⟩ := hle
  have h3 := hex (by omega)
  rcases Nat.lt_or_ge q (base + h.1.2.2) with g | g
  · have hj : (pd_W b base cy h ++ [(q, x)])[q - base]? = some (base + (q - base), pd_trE b base cy (h.2 (q - base + 1))) := by rw [List.getElem?_append_left (by rw [pd_W_len]; omega)]; exact pd_W_at (by omega)
    have := hD.1 _ _ _ _ hj hl (show base + (q - base) = q by omega)
    omega
  · omega
theorem so_tsw (X : pd_Cx l p s m args meth c R mi) (hbb : b < base) (hsz : base ≤ s.heap.size) (C : pd_Co b base L xs dC dI cy h s H) (hS : va_S (pd_A base) s.heap H locs) (hl : lv_has ls (pd_n mi) (pd_lvA b base lv)) (hn : lv.length = pd_n mi) {d0 lo hi : Int} {os : Array Int} {n0 : Nat} (ht : (d0 :: os.toList).all (fun o => decide (0 ≤ (pc : Int) + o)) = true) (d : decode (pd_c mi) pc = .ok (.tableswitch d0 lo hi os, n0)) (hs : pd_stp (pc + n0) (.tableswitch (pc + d0) lo hi (os.toList.map (fun o => (pc : Int) + o)).toArray) lv st h = some (pc', lv', st', h1)) (kk : ∀ (H1 : Heap) (locs1 : List Loc) (ls1 : Array Slot), pd_Co b base L xs dC dI cy h1 s H1 → va_S (pd_A base) s.heap H1 locs1 → lv_has ls1 (pd_n mi) (pd_lvA b base lv') → lv'.length = pd_n mi → W p l e R s m args below meth c H1 locs1 (h1.1.1 - h0.1.1) (h1.1.2.1 - h0.1.2.1) Q (F0 m pc' ls1 (st'.map (pd_tr b base)))) : W p l e R s m args below meth c H locs (h.1.1 - h0.1.1) (h.1.2.1 - h0.1.2.1) Q (F0 m pc ls (st.map (pd_tr b base))) := by
  obtain ⟨hx, hb, hr, hml, hown, hts, hSx, hlocks, hname, htab, hfr, hlo, hnt⟩ := X
  simp only [pd_stp] at hs
  simp only [List.all_cons, Bool.and_eq_true, decide_eq_true_eq] at ht
  split at hs
  · rename_i x r
    split at hs
    · rename_i hc
      simp only [Option.some.injEq, Prod.mk.injEq] at hs
      obtain ⟨rfl, rfl, rfl, rfl⟩ := hs
      exact lv_tableOut hx hb d hc (by omega) (kk _ _ _ C hS hl hn)
    · rename_i hc
      split at hs
      · rename_i o ho
        simp only [Option.some.injEq, Prod.mk.injEq] at hs
        obtain ⟨rfl, rfl, rfl, rfl⟩ := hs
        rw [List.getElem?_toArray, List.getElem?_map] at ho
        obtain ⟨o1, h5, rfl⟩ := Option.map_eq_some_iff.mp ho
        have h6 := List.all_eq_true.mp ht.2 o1 (List.mem_of_getElem? h5)
        simp only [decide_eq_true_eq] at h6
        rw [Array.getElem?_toList] at h5
        exact lv_tableIn hx hb d (by omega) (by omega) h5 (by omega) (kk _ _ _ C hS hl hn)
      · exact absurd hs (by simp)
  · exact absurd hs (by simp)
theorem so_getfield (X : pd_Cx l p s m args meth c R mi) (hbb : b < base) (hsz : base ≤ s.heap.size) (C : pd_Co b base L xs dC dI cy h s H) (hS : va_S (pd_A base) s.heap H locs) (hl : lv_has ls (pd_n mi) (pd_lvA b base lv)) (hn : lv.length = pd_n mi) {k f9 : Nat} (hk : pd_lk pd_FL (pd_o mi) k = some f9) (d : decode (pd_c mi) pc = .ok (.getfield k, 3)) (hs : pd_stp (pc + 3) (.getfield f9) lv st h = some (pc', lv', st', h1)) (kk : ∀ (H1 : Heap) (locs1 : List Loc) (ls1 : Array Slot), pd_Co b base L xs dC dI cy h1 s H1 → va_S (pd_A base) s.heap H1 locs1 → lv_has ls1 (pd_n mi) (pd_lvA b base lv') → lv'.length = pd_n mi → W p l e R s m args below meth c H1 locs1 (h1.1.1 - h0.1.1) (h1.1.2.1 - h0.1.2.1) Q (F0 m pc' ls1 (st'.map (pd_tr b base)))) : W p l e R s m args below meth c H locs (h.1.1 - h0.1.1) (h.1.2.1 - h0.1.2.1) Q (F0 m pc ls (st.map (pd_tr b base))) := by
  obtain ⟨hx, hb, hr, hml, hown, hts, hSx, hlocks, hname, htab, hfr, hlo, hnt⟩ := X
  obtain ⟨hlk, hc7, hkn, hown9⟩ := pd_ff hk
  simp only [pd_stp] at hs
  split at hs
  · rename_i a r
    split at hs
    · rename_i ci fs hg
      split at hs
      · rename_i hci
        split at hs
        · rename_i v hv
          simp only [Option.some.injEq, Prod.mk.injEq] at hs
          obtain ⟨rfl, rfl, rfl, rfl⟩ := hs
          subst hci
          obtain ⟨j, rfl, hj, hat, had⟩ := pd_Co_at (a := a) C (fun q => by rw [q, C.2.2.2.1.1] at hg; cases hg) (fun q => by rw [q] at hg; unfold pd_dead at hg; have := congrArg (fun z => match z with | .inr (a, _) => a | .inl _ => 0) hg; simp at this; omega)
          rw [hg] at hat
          refine va_get (C := pd_cn (f9 / 100)) (T := pd_ft (f9 / 100)) (N := pd_fn (f9 / 100)) (ref := pd_cn (f9 / 100)) hx hb hts (pd_uw hc7) hown C.2.1 C.1 j hat (pd_cl_at hc7) (f9 % 100) hkn (hts _ hlk) (fun x h9 => by rw [hown9] at h9; exact h9) (v := pd_tr b base v) (by rw [List.getElem?_map, hv]; rfl) d (kk _ _ _ C hS hl hn)
        · exact absurd hs (by simp)
      · exact absurd hs (by simp)
    · exact absurd hs (by simp)
  · exact absurd hs (by simp)
theorem so_putfield (X : pd_Cx l p s m args meth c R mi) (hbb : b < base) (hsz : base ≤ s.heap.size) (C : pd_Co b base L xs dC dI cy h s H) (hS : va_S (pd_A base) s.heap H locs) (hl : lv_has ls (pd_n mi) (pd_lvA b base lv)) (hn : lv.length = pd_n mi) {k f9 : Nat} (hk : pd_lk pd_FL (pd_o mi) k = some f9) (hpf : pd_pf mi f9 = true) (d : decode (pd_c mi) pc = .ok (.putfield k, 3)) (hs : pd_stp (pc + 3) (.putfield f9) lv st h = some (pc', lv', st', h1)) (kk : ∀ (H1 : Heap) (locs1 : List Loc) (ls1 : Array Slot), pd_Co b base L xs dC dI cy h1 s H1 → va_S (pd_A base) s.heap H1 locs1 → lv_has ls1 (pd_n mi) (pd_lvA b base lv') → lv'.length = pd_n mi → W p l e R s m args below meth c H1 locs1 (h1.1.1 - h0.1.1) (h1.1.2.1 - h0.1.2.1) Q (F0 m pc' ls1 (st'.map (pd_tr b base)))) : W p l e R s m args below meth c H locs (h.1.1 - h0.1.1) (h.1.2.1 - h0.1.2.1) Q (F0 m pc ls (st.map (pd_tr b base))) := by
  obtain ⟨hx, hb, hr, hml, hown, hts, hSx, hlocks, hname, htab, hfr, hlo, hnt⟩ := X
  obtain ⟨hlk, hc7, hkn, hown9⟩ := pd_ff hk
  obtain ⟨hty, hnm⟩ := pd_tyok hc7
  simp only [pd_stp] at hs
  split at hs
  · rename_i v a r
    split at hs
    · rename_i ci fs hg
      split at hs
      · rename_i hci
        obtain ⟨hci, hlen, -, hfit⟩ := hci
        simp only [Option.some.injEq, Prod.mk.injEq] at hs
        obtain ⟨rfl, rfl, rfl, rfl⟩ := hs
        subst hci
        obtain ⟨j, rfl, hj, hat, had⟩ := pd_Co_at (a := a) C (fun q => by rw [q, C.2.2.2.1.1] at hg; cases hg) (fun q => by rw [q] at hg; unfold pd_dead at hg; have := congrArg (fun z => match z with | .inr (a, _) => a | .inl _ => 0) hg; simp at this; omega)
        rw [hg] at hat
        obtain ⟨f1, f2⟩ := pd_fit_ok (b := b) (base := base) hfit
        have key : ∀ (H1 : Heap) (locs1 : List Loc), va_P (dC, dI) pd_cl ((pd_W b base cy h).set j (base + j, .inr (f9 / 100, (fs.map (pd_tr b base)).set (f9 % 100) (pd_tr b base v)))) H1 → va_D (pd_A base) ((pd_W b base cy h).set j (base + j, .inr (f9 / 100, (fs.map (pd_tr b base)).set (f9 % 100) (pd_tr b base v)))) → va_S (pd_A base) s.heap H1 locs1 → W p l e R s m args below meth c H1 locs1 (h.1.1 - h0.1.1) (h.1.2.1 - h0.1.2.1) Q (F0 m (pc + 3) ls (r.map (pd_tr b base))) := by
          intro H1 locs1 hP1 _ hS1
          refine kk H1 locs1 ls (pd_Co_put hbb hsz C hS hj (fun t n d q => by cases q) ?_ hS1) hS1 hl hn
          show va_P (dC, dI) pd_cl ((pd_W b base cy h).set j (base + j, .inr (f9 / 100, (fs.set (f9 % 100) v).map (pd_tr b base)))) H1
          rw [List.map_set]
          exact hP1
        by_cases hfin : (pd_ft (f9 / 100) (f9 % 100)).2.2.2 = true
        · unfold pd_pf at hpf
          rw [hfin] at hpf
          simp only [Bool.not_true, Bool.false_or, Bool.and_eq_true, beq_iff_eq] at hpf
          exact va_putF (C := pd_cn (f9 / 100)) (T := pd_ft (f9 / 100)) (N := pd_fn (f9 / 100)) (ref := pd_cn (f9 / 100)) hx hb hts (pd_uw hc7) (pd_ty (f9 / 100)) hty hnm hown C.2.1 C.1 pd_W_D hS j hat (pd_cl_at hc7) (f9 % 100) hkn (hts _ hlk) (fun x h9 => by rw [hown9] at h9; exact h9) hfin (hname hpf.1) (by rw [hown9, hpf.2]) (hty _ hkn) f1 f2 (by rw [List.length_map]; exact hlen) d key
        · exact va_put (C := pd_cn (f9 / 100)) (T := pd_ft (f9 / 100)) (N := pd_fn (f9 / 100)) (ref := pd_cn (f9 / 100)) hx hb hts (pd_uw hc7) (pd_ty (f9 / 100)) hty hnm hown C.2.1 C.1 pd_W_D hS j hat (pd_cl_at hc7) (f9 % 100) hkn (hts _ hlk) (fun x h9 => by rw [hown9] at h9; exact h9) (by simpa using hfin) (hty _ hkn) f1 f2 (by rw [List.length_map]; exact hlen) d key
      · exact absurd hs (by simp)
    · exact absurd hs (by simp)
  · exact absurd hs (by simp)
theorem pd_ald0 {c : pd_E} {i : Int32} {v : Value} (h : pd_ald 0 c i = some v) : ∃ t n f, c = .inl (t, n, .inl f) ∧ (t = 0 ∨ t = 4) ∧ vp_in i n ∧ v = .int (f i.toNatClampNeg) := by
  unfold pd_ald at h
  split at h
  · rename_i t n dd
    split at h
    · exact absurd h (by simp)
    · rename_i hin
      split at h
      all_goals first | omega | (rename_i f9 _; cases h; first | exact ⟨0, n, f9, rfl, Or.inl rfl, hin, rfl⟩ | exact ⟨4, n, f9, rfl, Or.inr rfl, hin, rfl⟩) | (simp at h)
  · exact absurd h (by simp)
theorem pd_ald1 {c : pd_E} {i : Int32} {v : Value} (h : pd_ald 1 c i = some v) : ∃ n f, c = .inl (1, n, .inr (.inl f)) ∧ vp_in i n ∧ v = .long (f i.toNatClampNeg) := by
  unfold pd_ald at h
  split at h
  · rename_i t n dd
    split at h
    · exact absurd h (by simp)
    · rename_i hin
      split at h
      all_goals first | omega | (rename_i f9 _; cases h; exact ⟨n, f9, rfl, hin, rfl⟩) | (simp at h)
  · exact absurd h (by simp)
theorem pd_ald2 {c : pd_E} {i : Int32} {v : Value} (h : pd_ald 2 c i = some v) : ∃ n f, c = .inl (2, n, .inl f) ∧ vp_in i n ∧ v = .int (f i.toNatClampNeg) := by
  unfold pd_ald at h
  split at h
  · rename_i t n dd
    split at h
    · exact absurd h (by simp)
    · rename_i hin
      split at h
      all_goals first | omega | (rename_i f9 _; cases h; exact ⟨n, f9, rfl, hin, rfl⟩) | (simp at h)
  · exact absurd h (by simp)
theorem pd_ald3 {c : pd_E} {i : Int32} {v : Value} (h : pd_ald 3 c i = some v) : ∃ n f q, c = .inl (3, n, .inr (.inr (.inr (.inr f)))) ∧ vp_in i n ∧ f i.toNatClampNeg = some q ∧ v = .ref q := by
  unfold pd_ald at h
  split at h
  · rename_i t n dd
    split at h
    · exact absurd h (by simp)
    · rename_i hin
      split at h
      all_goals first | omega | (rename_i f9 _; obtain ⟨q, h1, h2⟩ := Option.map_eq_some_iff.mp h; exact ⟨n, f9, q, rfl, hin, h1, h2.symm⟩) | (simp at h)
  · exact absurd h (by simp)
theorem pd_ast0 {g : pd_H} {c x : pd_E} {i : Int32} {v : Value} (h : pd_ast g 0 c i v = some x) : ∃ n f y, c = .inl (0, n, .inl f) ∧ vp_in i n ∧ v = .int y ∧ x = .inl (0, n, .inl (upd f i.toNatClampNeg y)) := by
  unfold pd_ast at h
  split at h
  · rename_i t n dd
    split at h
    · exact absurd h (by simp)
    · rename_i hin
      split at h
      all_goals first | omega | (rename_i f9 y9 _; cases h; exact ⟨n, f9, y9, rfl, hin, rfl, rfl⟩) | (simp at h)
  · exact absurd h (by simp)
theorem pd_ast1 {g : pd_H} {c x : pd_E} {i : Int32} {v : Value} (h : pd_ast g 1 c i v = some x) : ∃ n f y, c = .inl (1, n, .inr (.inl f)) ∧ vp_in i n ∧ v = .long y ∧ x = .inl (1, n, .inr (.inl (vp_updL f i.toNatClampNeg y))) := by
  unfold pd_ast at h
  split at h
  · rename_i t n dd
    split at h
    · exact absurd h (by simp)
    · rename_i hin
      split at h
      all_goals first | omega | (rename_i f9 y9 _; cases h; exact ⟨n, f9, y9, rfl, hin, rfl, rfl⟩) | (simp at h)
  · exact absurd h (by simp)
theorem pd_ast2 {g : pd_H} {c x : pd_E} {i : Int32} {v : Value} (h : pd_ast g 2 c i v = some x) : ∃ n f y, c = .inl (2, n, .inl f) ∧ vp_in i n ∧ v = .int y ∧ x = .inl (2, n, .inl (upd f i.toNatClampNeg (vp_nar .boolean y))) := by
  unfold pd_ast at h
  split at h
  · rename_i t n dd
    split at h
    · exact absurd h (by simp)
    · rename_i hin
      split at h
      all_goals first | omega | (rename_i f9 y9 _; cases h; exact ⟨n, f9, y9, rfl, hin, rfl, rfl⟩) | (simp at h)
  · exact absurd h (by simp)
theorem pd_ast3 {g : pd_H} {c x : pd_E} {i : Int32} {v : Value} (h : pd_ast g 3 c i v = some x) : ∃ n f q fs, c = .inl (3, n, .inr (.inr (.inr (.inr f)))) ∧ vp_in i n ∧ v = .ref q ∧ pd_get g q = .inr (4, fs) ∧ x = .inl (3, n, .inr (.inr (.inr (.inr (va_up f i.toNatClampNeg (some q)))))) := by
  unfold pd_ast at h
  split at h
  · rename_i t n dd
    split at h
    · exact absurd h (by simp)
    · rename_i hin
      split at h
      all_goals first | omega | (simp at h; done) | skip
      rename_i f9 q9 _
      split at h
      · rename_i fs hq
        cases h
        exact ⟨n, f9, q9, fs, rfl, hin, rfl, hq, rfl⟩
      · exact absurd h (by simp)
  · exact absurd h (by simp)
theorem so_iaload (X : pd_Cx l p s m args meth c R mi) (hbb : b < base) (hsz : base ≤ s.heap.size) (C : pd_Co b base L xs dC dI cy h s H) (hS : va_S (pd_A base) s.heap H locs) (hl : lv_has ls (pd_n mi) (pd_lvA b base lv)) (hn : lv.length = pd_n mi) (d : decode (pd_c mi) pc = .ok (.iaload, 1)) (hs : pd_stp (pc + 1) .iaload lv st h = some (pc', lv', st', h1)) (kk : ∀ (H1 : Heap) (locs1 : List Loc) (ls1 : Array Slot), pd_Co b base L xs dC dI cy h1 s H1 → va_S (pd_A base) s.heap H1 locs1 → lv_has ls1 (pd_n mi) (pd_lvA b base lv') → lv'.length = pd_n mi → W p l e R s m args below meth c H1 locs1 (h1.1.1 - h0.1.1) (h1.1.2.1 - h0.1.2.1) Q (F0 m pc' ls1 (st'.map (pd_tr b base)))) : W p l e R s m args below meth c H locs (h.1.1 - h0.1.1) (h.1.2.1 - h0.1.2.1) Q (F0 m pc ls (st.map (pd_tr b base))) := by
  obtain ⟨hx, hb, hr, hml, hown, hts, hSx, hlocks, hname, htab, hfr, hlo, hnt⟩ := X
  simp only [pd_stp] at hs
  split at hs
  · rename_i i a r
    obtain ⟨v, hv, he⟩ := Option.map_eq_some_iff.mp hs
    simp only [Prod.mk.injEq] at he
    obtain ⟨rfl, rfl, rfl, rfl⟩ := he
    obtain ⟨t, n, f9, hg, ht, hin, rfl⟩ := pd_ald0 hv
    by_cases h00 : a = 0
    · subst h00
      have hg' := C.2.2.2.1.1.symm.trans hg
      simp only [Sum.inl.injEq, Prod.mk.injEq] at hg'
      obtain ⟨-, rfl, rfl⟩ := hg'
      have hb9 : b < H.size := by
        obtain ⟨scr, g1, -⟩ := C.2.2.1
        exact (Array.getElem?_eq_some_iff.mp g1).1
      exact va_sld hx hb C.2.2.1 hb9 (A := pd_A base) (Nat.not_le.mpr hbb) ⟨Nat.le_refl _, fun _ _ _ => rfl, hS.2.2⟩ hin d (kk _ _ _ C hS hl hn)
    · have ht4 := C.2.2.2.1.2.2 a _ _ _ h00 hg
      obtain rfl : t = 0 := by omega
      obtain ⟨j, rfl, hj, hat, had⟩ := pd_Co_at (a := a) C h00 (fun q => by rw [q] at hg; cases hg)
      rw [hg] at hat
      exact va_iald hx hb C.2.1 C.1 j 0 hat rfl hin d (kk _ _ _ C hS hl hn)
  · exact absurd hs (by simp)
theorem so_laload (X : pd_Cx l p s m args meth c R mi) (hbb : b < base) (hsz : base ≤ s.heap.size) (C : pd_Co b base L xs dC dI cy h s H) (hS : va_S (pd_A base) s.heap H locs) (hl : lv_has ls (pd_n mi) (pd_lvA b base lv)) (hn : lv.length = pd_n mi) (d : decode (pd_c mi) pc = .ok (.laload, 1)) (hs : pd_stp (pc + 1) .laload lv st h = some (pc', lv', st', h1)) (kk : ∀ (H1 : Heap) (locs1 : List Loc) (ls1 : Array Slot), pd_Co b base L xs dC dI cy h1 s H1 → va_S (pd_A base) s.heap H1 locs1 → lv_has ls1 (pd_n mi) (pd_lvA b base lv') → lv'.length = pd_n mi → W p l e R s m args below meth c H1 locs1 (h1.1.1 - h0.1.1) (h1.1.2.1 - h0.1.2.1) Q (F0 m pc' ls1 (st'.map (pd_tr b base)))) : W p l e R s m args below meth c H locs (h.1.1 - h0.1.1) (h.1.2.1 - h0.1.2.1) Q (F0 m pc ls (st.map (pd_tr b base))) := by
  obtain ⟨hx, hb, hr, hml, hown, hts, hSx, hlocks, hname, htab, hfr, hlo, hnt⟩ := X
  simp only [pd_stp] at hs
  split at hs
  · rename_i i a r
    obtain ⟨v, hv, he⟩ := Option.map_eq_some_iff.mp hs
    simp only [Prod.mk.injEq] at he
    obtain ⟨rfl, rfl, rfl, rfl⟩ := he
    obtain ⟨n, f9, hg, hin, rfl⟩ := pd_ald1 hv
    obtain ⟨j, rfl, hj, hat, had⟩ := pd_Co_at (a := a) C (fun q => by rw [q, C.2.2.2.1.1] at hg; cases hg) (fun q => by rw [q] at hg; cases hg)
    rw [hg] at hat
    exact va_lald hx hb C.2.1 C.1 j 1 hat rfl hin d (kk _ _ _ C hS hl hn)
  · exact absurd hs (by simp)
theorem so_baload (X : pd_Cx l p s m args meth c R mi) (hbb : b < base) (hsz : base ≤ s.heap.size) (C : pd_Co b base L xs dC dI cy h s H) (hS : va_S (pd_A base) s.heap H locs) (hl : lv_has ls (pd_n mi) (pd_lvA b base lv)) (hn : lv.length = pd_n mi) (d : decode (pd_c mi) pc = .ok (.baload, 1)) (hs : pd_stp (pc + 1) .baload lv st h = some (pc', lv', st', h1)) (kk : ∀ (H1 : Heap) (locs1 : List Loc) (ls1 : Array Slot), pd_Co b base L xs dC dI cy h1 s H1 → va_S (pd_A base) s.heap H1 locs1 → lv_has ls1 (pd_n mi) (pd_lvA b base lv') → lv'.length = pd_n mi → W p l e R s m args below meth c H1 locs1 (h1.1.1 - h0.1.1) (h1.1.2.1 - h0.1.2.1) Q (F0 m pc' ls1 (st'.map (pd_tr b base)))) : W p l e R s m args below meth c H locs (h.1.1 - h0.1.1) (h.1.2.1 - h0.1.2.1) Q (F0 m pc ls (st.map (pd_tr b base))) := by
  obtain ⟨hx, hb, hr, hml, hown, hts, hSx, hlocks, hname, htab, hfr, hlo, hnt⟩ := X
  simp only [pd_stp] at hs
  split at hs
  · rename_i i a r
    obtain ⟨v, hv, he⟩ := Option.map_eq_some_iff.mp hs
    simp only [Prod.mk.injEq] at he
    obtain ⟨rfl, rfl, rfl, rfl⟩ := he
    obtain ⟨n, f9, hg, hin, rfl⟩ := pd_ald2 hv
    obtain ⟨j, rfl, hj, hat, had⟩ := pd_Co_at (a := a) C (fun q => by rw [q, C.2.2.2.1.1] at hg; cases hg) (fun q => by rw [q] at hg; cases hg)
    rw [hg] at hat
    exact va_zald hx hb C.2.1 C.1 j 2 hat rfl hin d (kk _ _ _ C hS hl hn)
  · exact absurd hs (by simp)
theorem so_aaload (X : pd_Cx l p s m args meth c R mi) (hbb : b < base) (hsz : base ≤ s.heap.size) (C : pd_Co b base L xs dC dI cy h s H) (hS : va_S (pd_A base) s.heap H locs) (hl : lv_has ls (pd_n mi) (pd_lvA b base lv)) (hn : lv.length = pd_n mi) (d : decode (pd_c mi) pc = .ok (.aaload, 1)) (hs : pd_stp (pc + 1) .aaload lv st h = some (pc', lv', st', h1)) (kk : ∀ (H1 : Heap) (locs1 : List Loc) (ls1 : Array Slot), pd_Co b base L xs dC dI cy h1 s H1 → va_S (pd_A base) s.heap H1 locs1 → lv_has ls1 (pd_n mi) (pd_lvA b base lv') → lv'.length = pd_n mi → W p l e R s m args below meth c H1 locs1 (h1.1.1 - h0.1.1) (h1.1.2.1 - h0.1.2.1) Q (F0 m pc' ls1 (st'.map (pd_tr b base)))) : W p l e R s m args below meth c H locs (h.1.1 - h0.1.1) (h.1.2.1 - h0.1.2.1) Q (F0 m pc ls (st.map (pd_tr b base))) := by
  obtain ⟨hx, hb, hr, hml, hown, hts, hSx, hlocks, hname, htab, hfr, hlo, hnt⟩ := X
  simp only [pd_stp] at hs
  split at hs
  · rename_i i a r
    obtain ⟨v, hv, he⟩ := Option.map_eq_some_iff.mp hs
    simp only [Prod.mk.injEq] at he
    obtain ⟨rfl, rfl, rfl, rfl⟩ := he
    obtain ⟨n, f9, q9, hg, hin, hq, rfl⟩ := pd_ald3 hv
    obtain ⟨j, rfl, hj, hat, had⟩ := pd_Co_at (a := a) C (fun q => by rw [q, C.2.2.2.1.1] at hg; cases hg) (fun q => by rw [q] at hg; cases hg)
    rw [hg] at hat
    refine va_aldq hx hb C.2.1 C.1 j 3 hat rfl hin d ?_
    rw [hq]
    exact kk _ _ _ C hS hl hn
  · exact absurd hs (by simp)
theorem so_iastore (X : pd_Cx l p s m args meth c R mi) (hbb : b < base) (hsz : base ≤ s.heap.size) (C : pd_Co b base L xs dC dI cy h s H) (hS : va_S (pd_A base) s.heap H locs) (hl : lv_has ls (pd_n mi) (pd_lvA b base lv)) (hn : lv.length = pd_n mi) (d : decode (pd_c mi) pc = .ok (.iastore, 1)) (hs : pd_stp (pc + 1) .iastore lv st h = some (pc', lv', st', h1)) (kk : ∀ (H1 : Heap) (locs1 : List Loc) (ls1 : Array Slot), pd_Co b base L xs dC dI cy h1 s H1 → va_S (pd_A base) s.heap H1 locs1 → lv_has ls1 (pd_n mi) (pd_lvA b base lv') → lv'.length = pd_n mi → W p l e R s m args below meth c H1 locs1 (h1.1.1 - h0.1.1) (h1.1.2.1 - h0.1.2.1) Q (F0 m pc' ls1 (st'.map (pd_tr b base)))) : W p l e R s m args below meth c H locs (h.1.1 - h0.1.1) (h.1.2.1 - h0.1.2.1) Q (F0 m pc ls (st.map (pd_tr b base))) := by
  obtain ⟨hx, hb, hr, hml, hown, hts, hSx, hlocks, hname, htab, hfr, hlo, hnt⟩ := X
  simp only [pd_stp] at hs
  split at hs
  · rename_i v i a r
    obtain ⟨x, hv, he⟩ := Option.map_eq_some_iff.mp hs
    simp only [Prod.mk.injEq] at he
    obtain ⟨rfl, rfl, rfl, rfl⟩ := he
    obtain ⟨n, f9, y, hg, hin, rfl, rfl⟩ := pd_ast0 hv
    obtain ⟨j, rfl, hj, hat, had⟩ := pd_Co_at (a := a) C (fun q => by rw [q, C.2.2.2.1.1] at hg; cases hg) (fun q => by rw [q] at hg; cases hg)
    rw [hg] at hat
    exact va_iast hx hb C.2.1 C.1 pd_W_D hS j 0 hat rfl hin d (fun H1 locs1 hP1 _ hS1 => kk H1 locs1 ls (pd_Co_put hbb hsz C hS hj (fun t n d q => by cases q; omega) hP1 hS1) hS1 hl hn)
  · exact absurd hs (by simp)
theorem so_lastore (X : pd_Cx l p s m args meth c R mi) (hbb : b < base) (hsz : base ≤ s.heap.size) (C : pd_Co b base L xs dC dI cy h s H) (hS : va_S (pd_A base) s.heap H locs) (hl : lv_has ls (pd_n mi) (pd_lvA b base lv)) (hn : lv.length = pd_n mi) (d : decode (pd_c mi) pc = .ok (.lastore, 1)) (hs : pd_stp (pc + 1) .lastore lv st h = some (pc', lv', st', h1)) (kk : ∀ (H1 : Heap) (locs1 : List Loc) (ls1 : Array Slot), pd_Co b base L xs dC dI cy h1 s H1 → va_S (pd_A base) s.heap H1 locs1 → lv_has ls1 (pd_n mi) (pd_lvA b base lv') → lv'.length = pd_n mi → W p l e R s m args below meth c H1 locs1 (h1.1.1 - h0.1.1) (h1.1.2.1 - h0.1.2.1) Q (F0 m pc' ls1 (st'.map (pd_tr b base)))) : W p l e R s m args below meth c H locs (h.1.1 - h0.1.1) (h.1.2.1 - h0.1.2.1) Q (F0 m pc ls (st.map (pd_tr b base))) := by
  obtain ⟨hx, hb, hr, hml, hown, hts, hSx, hlocks, hname, htab, hfr, hlo, hnt⟩ := X
  simp only [pd_stp] at hs
  split at hs
  · rename_i v i a r
    obtain ⟨x, hv, he⟩ := Option.map_eq_some_iff.mp hs
    simp only [Prod.mk.injEq] at he
    obtain ⟨rfl, rfl, rfl, rfl⟩ := he
    obtain ⟨n, f9, y, hg, hin, rfl, rfl⟩ := pd_ast1 hv
    obtain ⟨j, rfl, hj, hat, had⟩ := pd_Co_at (a := a) C (fun q => by rw [q, C.2.2.2.1.1] at hg; cases hg) (fun q => by rw [q] at hg; cases hg)
    rw [hg] at hat
    exact va_last hx hb C.2.1 C.1 pd_W_D hS j 1 hat rfl hin d (fun H1 locs1 hP1 _ hS1 => kk H1 locs1 ls (pd_Co_put hbb hsz C hS hj (fun t n d q => by cases q; omega) hP1 hS1) hS1 hl hn)
  · exact absurd hs (by simp)
theorem so_bastore (X : pd_Cx l p s m args meth c R mi) (hbb : b < base) (hsz : base ≤ s.heap.size) (C : pd_Co b base L xs dC dI cy h s H) (hS : va_S (pd_A base) s.heap H locs) (hl : lv_has ls (pd_n mi) (pd_lvA b base lv)) (hn : lv.length = pd_n mi) (d : decode (pd_c mi) pc = .ok (.bastore, 1)) (hs : pd_stp (pc + 1) .bastore lv st h = some (pc', lv', st', h1)) (kk : ∀ (H1 : Heap) (locs1 : List Loc) (ls1 : Array Slot), pd_Co b base L xs dC dI cy h1 s H1 → va_S (pd_A base) s.heap H1 locs1 → lv_has ls1 (pd_n mi) (pd_lvA b base lv') → lv'.length = pd_n mi → W p l e R s m args below meth c H1 locs1 (h1.1.1 - h0.1.1) (h1.1.2.1 - h0.1.2.1) Q (F0 m pc' ls1 (st'.map (pd_tr b base)))) : W p l e R s m args below meth c H locs (h.1.1 - h0.1.1) (h.1.2.1 - h0.1.2.1) Q (F0 m pc ls (st.map (pd_tr b base))) := by
  obtain ⟨hx, hb, hr, hml, hown, hts, hSx, hlocks, hname, htab, hfr, hlo, hnt⟩ := X
  simp only [pd_stp] at hs
  split at hs
  · rename_i v i a r
    obtain ⟨x, hv, he⟩ := Option.map_eq_some_iff.mp hs
    simp only [Prod.mk.injEq] at he
    obtain ⟨rfl, rfl, rfl, rfl⟩ := he
    obtain ⟨n, f9, y, hg, hin, rfl, rfl⟩ := pd_ast2 hv
    obtain ⟨j, rfl, hj, hat, had⟩ := pd_Co_at (a := a) C (fun q => by rw [q, C.2.2.2.1.1] at hg; cases hg) (fun q => by rw [q] at hg; cases hg)
    rw [hg] at hat
    exact va_zast hx hb C.2.1 C.1 pd_W_D hS j 2 hat rfl hin d (fun H1 locs1 hP1 _ hS1 => kk H1 locs1 ls (pd_Co_put hbb hsz C hS hj (fun t n d q => by cases q; omega) hP1 hS1) hS1 hl hn)
  · exact absurd hs (by simp)
theorem so_aastore (X : pd_Cx l p s m args meth c R mi) (hbb : b < base) (hsz : base ≤ s.heap.size) (C : pd_Co b base L xs dC dI cy h s H) (hS : va_S (pd_A base) s.heap H locs) (hl : lv_has ls (pd_n mi) (pd_lvA b base lv)) (hn : lv.length = pd_n mi) (d : decode (pd_c mi) pc = .ok (.aastore, 1)) (hs : pd_stp (pc + 1) .aastore lv st h = some (pc', lv', st', h1)) (kk : ∀ (H1 : Heap) (locs1 : List Loc) (ls1 : Array Slot), pd_Co b base L xs dC dI cy h1 s H1 → va_S (pd_A base) s.heap H1 locs1 → lv_has ls1 (pd_n mi) (pd_lvA b base lv') → lv'.length = pd_n mi → W p l e R s m args below meth c H1 locs1 (h1.1.1 - h0.1.1) (h1.1.2.1 - h0.1.2.1) Q (F0 m pc' ls1 (st'.map (pd_tr b base)))) : W p l e R s m args below meth c H locs (h.1.1 - h0.1.1) (h.1.2.1 - h0.1.2.1) Q (F0 m pc ls (st.map (pd_tr b base))) := by
  obtain ⟨hx, hb, hr, hml, hown, hts, hSx, hlocks, hname, htab, hfr, hlo, hnt⟩ := X
  simp only [pd_stp] at hs
  split at hs
  · rename_i v i a r
    obtain ⟨x, hv, he⟩ := Option.map_eq_some_iff.mp hs
    simp only [Prod.mk.injEq] at he
    obtain ⟨rfl, rfl, rfl, rfl⟩ := he
    obtain ⟨n, f9, q9, fs, hg, hin, rfl, hq, rfl⟩ := pd_ast3 hv
    obtain ⟨j, rfl, hj, hat, had⟩ := pd_Co_at (a := a) C (fun q => by rw [q, C.2.2.2.1.1] at hg; cases hg) (fun q => by rw [q] at hg; cases hg)
    rw [hg] at hat
    obtain ⟨j2, rfl, hj2, hat2, had2⟩ := pd_Co_at (a := q9) C (fun q => by rw [q, C.2.2.2.1.1] at hq; cases hq) (fun q => by rw [q] at hq; cases hq)
    rw [hq] at hat2
    refine va_astq hx hb C.2.1 C.1 pd_W_D hS j 3 j2 4 (r := (pd_cn 4, pd_ft 4, pd_fn 4)) hat rfl hat2 (pd_cl_at (by omega)) hin d (fun H1 locs1 hP1 _ hS1 => kk H1 locs1 ls (pd_Co_put hbb hsz C hS hj (fun t n d q => by cases q; omega) ?_ hS1) hS1 hl hn)
    have hfe : (fun k => (va_up f9 i.toNatClampNeg (some (j2 + 1)) k).map (pd_ad b base)) = va_up (fun k => (f9 k).map (pd_ad b base)) i.toNatClampNeg (some (base + j2)) := by
      funext k
      unfold va_up
      split <;> rfl
    show va_P (dC, dI) pd_cl ((pd_W b base cy h).set j (base + j, .inl (cy 3, n, .inr (.inr (.inr (.inr (fun k => (va_up f9 i.toNatClampNeg (some (j2 + 1)) k).map (pd_ad b base)))))))) H1
    rw [hfe]
    exact hP1
  · exact absurd hs (by simp)
theorem so_alen (X : pd_Cx l p s m args meth c R mi) (hbb : b < base) (hsz : base ≤ s.heap.size) (C : pd_Co b base L xs dC dI cy h s H) (hS : va_S (pd_A base) s.heap H locs) (hl : lv_has ls (pd_n mi) (pd_lvA b base lv)) (hn : lv.length = pd_n mi) (d : decode (pd_c mi) pc = .ok (.arraylength, 1)) (hs : pd_stp (pc + 1) .arraylength lv st h = some (pc', lv', st', h1)) (kk : ∀ (H1 : Heap) (locs1 : List Loc) (ls1 : Array Slot), pd_Co b base L xs dC dI cy h1 s H1 → va_S (pd_A base) s.heap H1 locs1 → lv_has ls1 (pd_n mi) (pd_lvA b base lv') → lv'.length = pd_n mi → W p l e R s m args below meth c H1 locs1 (h1.1.1 - h0.1.1) (h1.1.2.1 - h0.1.2.1) Q (F0 m pc' ls1 (st'.map (pd_tr b base)))) : W p l e R s m args below meth c H locs (h.1.1 - h0.1.1) (h.1.2.1 - h0.1.2.1) Q (F0 m pc ls (st.map (pd_tr b base))) := by
  obtain ⟨hx, hb, hr, hml, hown, hts, hSx, hlocks, hname, htab, hfr, hlo, hnt⟩ := X
  simp only [pd_stp] at hs
  split at hs
  · rename_i a r
    split at hs
    · rename_i t n dd hg
      simp only [Option.some.injEq, Prod.mk.injEq] at hs
      obtain ⟨rfl, rfl, rfl, rfl⟩ := hs
      by_cases h00 : a = 0
      · subst h00
        have hg' := C.2.2.2.1.1.symm.trans hg
        simp only [Sum.inl.injEq, Prod.mk.injEq] at hg'
        obtain ⟨-, rfl, -⟩ := hg'
        have hb9 : b < H.size := by
          obtain ⟨scr, g1, -⟩ := C.2.2.1
          exact (Array.getElem?_eq_some_iff.mp g1).1
        exact va_slen hx hb C.2.2.1 hb9 (A := pd_A base) (Nat.not_le.mpr hbb) ⟨Nat.le_refl _, fun _ _ _ => rfl, hS.2.2⟩ d (kk _ _ _ C hS hl hn)
      · have ht4 := C.2.2.2.1.2.2 a _ _ _ h00 hg
        obtain ⟨j, rfl, hj, hat, had⟩ := pd_Co_at (a := a) C h00 (fun q => by rw [q] at hg; cases hg)
        rw [hg] at hat
        have ht : ∃ ty, (pd_tys cy)[t]? = some (cy t, ty) := by
          rcases (show t = 0 ∨ t = 1 ∨ t = 2 ∨ t = 3 by omega) with rfl | rfl | rfl | rfl <;> exact ⟨_, rfl⟩
        obtain ⟨ty, ht⟩ := ht
        exact va_alen hx hb C.2.1 C.1 j t hat ht rfl d (kk _ _ _ C hS hl hn)
    · exact absurd hs (by simp)
  · exact absurd hs (by simp)
theorem so_new (X : pd_Cx l p s m args meth c R mi) (hbb : b < base) (hsz : base ≤ s.heap.size) (C : pd_Co b base L xs dC dI cy h s H) (hS : va_S (pd_A base) s.heap H locs) (hl : lv_has ls (pd_n mi) (pd_lvA b base lv)) (hn : lv.length = pd_n mi) {k ci : Nat} (hk : pd_lk pd_CL (pd_o mi) k = some ci) (hroom : h1.1.1 - h0.1.1 ≤ R.cells ∧ h1.1.2.1 - h0.1.2.1 ≤ R.slots) (hle : pd_le h0 h) (h02 : h0.1.2.2 ≤ h0.1.1) (hex : h0.1.1 = h0.1.2.2 → s.heap.size = base + h0.1.2.2) (d : decode (pd_c mi) pc = .ok (.new k, 3)) (hs : pd_stp (pc + 3) (.new ci) lv st h = some (pc', lv', st', h1)) (kk : ∀ (H1 : Heap) (locs1 : List Loc) (ls1 : Array Slot), pd_Co b base L xs dC dI cy h1 s H1 → va_S (pd_A base) s.heap H1 locs1 → lv_has ls1 (pd_n mi) (pd_lvA b base lv') → lv'.length = pd_n mi → W p l e R s m args below meth c H1 locs1 (h1.1.1 - h0.1.1) (h1.1.2.1 - h0.1.2.1) Q (F0 m pc' ls1 (st'.map (pd_tr b base)))) : W p l e R s m args below meth c H locs (h.1.1 - h0.1.1) (h.1.2.1 - h0.1.2.1) Q (F0 m pc ls (st.map (pd_tr b base))) := by
  obtain ⟨hx, hb, hr, hml, hown, hts, hSx, hlocks, hname, htab, hfr, hlo, hnt⟩ := X
  simp only [pd_stp] at hs
  split at hs
  · exact absurd hs (by simp)
  · rename_i hc
    have he : h.1.1 = h.1.2.2 := Decidable.not_not.mp fun q => hc (Or.inl q)
    have hci : ci < 7 := Nat.not_le.mp fun q => hc (Or.inr q)
    simp only [Option.some.injEq, Prod.mk.injEq] at hs
    obtain ⟨rfl, rfl, rfl, rfl⟩ := hs
    obtain ⟨q1, hq1⟩ := pd_zp_in tbl_b _ (pd_lk_in hk)
    simp only [Bool.and_eq_true, decide_eq_true_eq] at hq1
    obtain ⟨q2, hq2⟩ := pd_zp_in tbg_b ci (List.mem_range.mpr hci)
    obtain ⟨q3, hq3⟩ := pd_zp_in tbh_b ci (List.mem_range.mpr (by omega))
    have hr1 : h.1.1 + 1 - h0.1.1 ≤ R.cells := hroom.1
    have hr2 : h.1.2.1 + pd_fn ci - h0.1.2.1 ≤ R.slots := hroom.2
    obtain ⟨a1, a2, a3, a4⟩ := id hle
    refine va_new (C := pd_cn ci) (T := pd_ft ci) (N := pd_fn ci) (ci := ci) (fs := ((List.range (pd_fn ci)).map (fun k => pd_def (pd_ty ci k))).map (pd_tr b base)) hx hb hts (pd_uw hci) (pd_ty ci) (pd_tyok hci).1 hown (hts _ (pd_at_in hq1.1)) (hts _ (pd_at_in hq2)) (hts _ (pd_at_in hq3)) C.2.1 C.1 pd_W_D hS (fun q hq => Nat.le_trans hsz hq) (pd_cl_at hci) (fun j hj => ?_) (by omega) (by omega) d (fun q H1 hP1 hD1 hS1 => ?_)
    · simp only [vp_V, List.map_map, List.getD_eq_getElem?_getD, List.getElem?_map, List.getElem?_range hj, Option.map_some, Option.getD_some, Function.comp]
      have : pd_tr b base (pd_def (pd_ty ci j)) = pd_def (pd_ty ci j) := by unfold pd_def; split <;> rfl
      rw [this]
      obtain ⟨q9, hq9⟩ := pd_zp_in (f := fun (e : Nat × Nat) _ => decide (defaultValue (pd_ty e.1 e.2) = pd_def (pd_ty e.1 e.2))) (l := pd_UL) (q := List.range 100) (by decide +kernel) (ci, j) (by
        have h1 := List.all_eq_true.mp tbu_n ci (List.mem_range.mpr hci)
        exact of_decide_eq_true (List.all_eq_true.mp h1 j (List.mem_range.mpr hj)))
      exact of_decide_eq_true hq9
    · refine W.sz (fun hz => ?_)
      obtain rfl := pd_fresh hD1 hP1 hle h02 hex he hz
      rw [show h.1.1 - h0.1.1 + 1 = (pd_new h (pd_fn ci) (.inr (ci, (List.range (pd_fn ci)).map (fun k => pd_def (pd_ty ci k))))).1.1 - h0.1.1 by simp only [pd_new]; omega, show h.1.2.1 - h0.1.2.1 + pd_fn ci = (pd_new h (pd_fn ci) (.inr (ci, (List.range (pd_fn ci)).map (fun k => pd_def (pd_ty ci k))))).1.2.1 - h0.1.2.1 by simp only [pd_new]; omega]
      exact kk H1 _ ls (pd_Co_new hbb hsz C hS (fun t n d q => by cases q) hP1 hS1) hS1 hl hn
theorem so_newarray_int (X : pd_Cx l p s m args meth c R mi) (hbb : b < base) (hsz : base ≤ s.heap.size) (C : pd_Co b base L xs dC dI cy h s H) (hS : va_S (pd_A base) s.heap H locs) (hl : lv_has ls (pd_n mi) (pd_lvA b base lv)) (hn : lv.length = pd_n mi) (hroom : h1.1.1 - h0.1.1 ≤ R.cells ∧ h1.1.2.1 - h0.1.2.1 ≤ R.slots) (hle : pd_le h0 h) (h02 : h0.1.2.2 ≤ h0.1.1) (hex : h0.1.1 = h0.1.2.2 → s.heap.size = base + h0.1.2.2) (d : decode (pd_c mi) pc = .ok (.newarray .int, 2)) (hs : pd_stp (pc + 2) (.newarray .int) lv st h = some (pc', lv', st', h1)) (kk : ∀ (H1 : Heap) (locs1 : List Loc) (ls1 : Array Slot), pd_Co b base L xs dC dI cy h1 s H1 → va_S (pd_A base) s.heap H1 locs1 → lv_has ls1 (pd_n mi) (pd_lvA b base lv') → lv'.length = pd_n mi → W p l e R s m args below meth c H1 locs1 (h1.1.1 - h0.1.1) (h1.1.2.1 - h0.1.2.1) Q (F0 m pc' ls1 (st'.map (pd_tr b base)))) : W p l e R s m args below meth c H locs (h.1.1 - h0.1.1) (h.1.2.1 - h0.1.2.1) Q (F0 m pc ls (st.map (pd_tr b base))) := by
  obtain ⟨hx, hb, hr, hml, hown, hts, hSx, hlocks, hname, htab, hfr, hlo, hnt⟩ := X
  simp only [pd_stp, pd_arr, Option.map_some] at hs
  split at hs
  · rename_i n r
    split at hs
    · exact absurd hs (by simp)
    · rename_i hc
      have hc1 : ¬ n < 0 := fun q => hc (Or.inl q)
      have hc2 : n.toNatClampNeg ≤ 10000 := Nat.not_lt.mp fun q => hc (Or.inr (Or.inl q))
      have he : h.1.1 = h.1.2.2 := Decidable.not_not.mp fun q => hc (Or.inr (Or.inr q))
      simp only [Option.some.injEq, Prod.mk.injEq] at hs
      obtain ⟨rfl, rfl, rfl, rfl⟩ := hs
      have hr1 : h.1.1 + 1 - h0.1.1 ≤ R.cells := hroom.1
      have hr2 : h.1.2.1 + n.toNatClampNeg - h0.1.2.1 ≤ R.slots := hroom.2
      obtain ⟨a1, a2, a3, a4⟩ := id hle
      refine va_newa (atype := .int) (ty := .int) (a0 := (n.toNatClampNeg, .inl (fun _ => 0))) hx hb (hts _ tb_arr_int) rfl C.2.1 C.1 pd_W_D hS (fun q hq => Nat.le_trans hsz hq) (fun cA => rfl) hc1 rfl (by simp only [componentBytes]; omega) (by omega) (by omega) d (fun q cA H1 hK1 hP1 hD1 hS1 => ?_)
      refine W.sz (fun hz => ?_)
      obtain rfl := pd_fresh hD1 hP1 hle h02 hex he hz
      obtain rfl : cA = cy 0 := Option.some.inj ((hK1.2 4 (cA, .int) rfl).2.symm.trans (C.2.1.2 0 (cy 0, .int) rfl).2)
      have e1 : h.1.1 - h0.1.1 + 1 = h.1.1 + 1 - h0.1.1 := by omega
      have e2 : h.1.2.1 - h0.1.2.1 + n.toNatClampNeg = h.1.2.1 + n.toNatClampNeg - h0.1.2.1 := by omega
      rw [e1, e2]
      exact kk H1 _ ls (pd_Co_new hbb hsz C hS (fun t n d q => by cases q; omega) hP1 hS1) hS1 hl hn
  · exact absurd hs (by simp)
theorem so_newarray_long (X : pd_Cx l p s m args meth c R mi) (hbb : b < base) (hsz : base ≤ s.heap.size) (C : pd_Co b base L xs dC dI cy h s H) (hS : va_S (pd_A base) s.heap H locs) (hl : lv_has ls (pd_n mi) (pd_lvA b base lv)) (hn : lv.length = pd_n mi) (hroom : h1.1.1 - h0.1.1 ≤ R.cells ∧ h1.1.2.1 - h0.1.2.1 ≤ R.slots) (hle : pd_le h0 h) (h02 : h0.1.2.2 ≤ h0.1.1) (hex : h0.1.1 = h0.1.2.2 → s.heap.size = base + h0.1.2.2) (d : decode (pd_c mi) pc = .ok (.newarray .long, 2)) (hs : pd_stp (pc + 2) (.newarray .long) lv st h = some (pc', lv', st', h1)) (kk : ∀ (H1 : Heap) (locs1 : List Loc) (ls1 : Array Slot), pd_Co b base L xs dC dI cy h1 s H1 → va_S (pd_A base) s.heap H1 locs1 → lv_has ls1 (pd_n mi) (pd_lvA b base lv') → lv'.length = pd_n mi → W p l e R s m args below meth c H1 locs1 (h1.1.1 - h0.1.1) (h1.1.2.1 - h0.1.2.1) Q (F0 m pc' ls1 (st'.map (pd_tr b base)))) : W p l e R s m args below meth c H locs (h.1.1 - h0.1.1) (h.1.2.1 - h0.1.2.1) Q (F0 m pc ls (st.map (pd_tr b base))) := by
  obtain ⟨hx, hb, hr, hml, hown, hts, hSx, hlocks, hname, htab, hfr, hlo, hnt⟩ := X
  simp only [pd_stp, pd_arr, Option.map_some] at hs
  split at hs
  · rename_i n r
    split at hs
    · exact absurd hs (by simp)
    · rename_i hc
      have hc1 : ¬ n < 0 := fun q => hc (Or.inl q)
      have hc2 : n.toNatClampNeg ≤ 10000 := Nat.not_lt.mp fun q => hc (Or.inr (Or.inl q))
      have he : h.1.1 = h.1.2.2 := Decidable.not_not.mp fun q => hc (Or.inr (Or.inr q))
      simp only [Option.some.injEq, Prod.mk.injEq] at hs
      obtain ⟨rfl, rfl, rfl, rfl⟩ := hs
      have hr1 : h.1.1 + 1 - h0.1.1 ≤ R.cells := hroom.1
      have hr2 : h.1.2.1 + n.toNatClampNeg - h0.1.2.1 ≤ R.slots := hroom.2
      obtain ⟨a1, a2, a3, a4⟩ := id hle
      refine va_newa (atype := .long) (ty := .long) (a0 := (n.toNatClampNeg, .inr (.inl (fun _ => 0)))) hx hb (hts _ tb_arr_long) rfl C.2.1 C.1 pd_W_D hS (fun q hq => Nat.le_trans hsz hq) (fun cA => rfl) hc1 rfl (by simp only [componentBytes]; omega) (by omega) (by omega) d (fun q cA H1 hK1 hP1 hD1 hS1 => ?_)
      refine W.sz (fun hz => ?_)
      obtain rfl := pd_fresh hD1 hP1 hle h02 hex he hz
      obtain rfl : cA = cy 1 := Option.some.inj ((hK1.2 4 (cA, .long) rfl).2.symm.trans (C.2.1.2 1 (cy 1, .long) rfl).2)
      have e1 : h.1.1 - h0.1.1 + 1 = h.1.1 + 1 - h0.1.1 := by omega
      have e2 : h.1.2.1 - h0.1.2.1 + n.toNatClampNeg = h.1.2.1 + n.toNatClampNeg - h0.1.2.1 := by omega
      rw [e1, e2]
      exact kk H1 _ ls (pd_Co_new hbb hsz C hS (fun t n d q => by cases q; omega) hP1 hS1) hS1 hl hn
  · exact absurd hs (by simp)
theorem so_newarray_boolean (X : pd_Cx l p s m args meth c R mi) (hbb : b < base) (hsz : base ≤ s.heap.size) (C : pd_Co b base L xs dC dI cy h s H) (hS : va_S (pd_A base) s.heap H locs) (hl : lv_has ls (pd_n mi) (pd_lvA b base lv)) (hn : lv.length = pd_n mi) (hroom : h1.1.1 - h0.1.1 ≤ R.cells ∧ h1.1.2.1 - h0.1.2.1 ≤ R.slots) (hle : pd_le h0 h) (h02 : h0.1.2.2 ≤ h0.1.1) (hex : h0.1.1 = h0.1.2.2 → s.heap.size = base + h0.1.2.2) (d : decode (pd_c mi) pc = .ok (.newarray .boolean, 2)) (hs : pd_stp (pc + 2) (.newarray .boolean) lv st h = some (pc', lv', st', h1)) (kk : ∀ (H1 : Heap) (locs1 : List Loc) (ls1 : Array Slot), pd_Co b base L xs dC dI cy h1 s H1 → va_S (pd_A base) s.heap H1 locs1 → lv_has ls1 (pd_n mi) (pd_lvA b base lv') → lv'.length = pd_n mi → W p l e R s m args below meth c H1 locs1 (h1.1.1 - h0.1.1) (h1.1.2.1 - h0.1.2.1) Q (F0 m pc' ls1 (st'.map (pd_tr b base)))) : W p l e R s m args below meth c H locs (h.1.1 - h0.1.1) (h.1.2.1 - h0.1.2.1) Q (F0 m pc ls (st.map (pd_tr b base))) := by
  obtain ⟨hx, hb, hr, hml, hown, hts, hSx, hlocks, hname, htab, hfr, hlo, hnt⟩ := X
  simp only [pd_stp, pd_arr, Option.map_some] at hs
  split at hs
  · rename_i n r
    split at hs
    · exact absurd hs (by simp)
    · rename_i hc
      have hc1 : ¬ n < 0 := fun q => hc (Or.inl q)
      have hc2 : n.toNatClampNeg ≤ 10000 := Nat.not_lt.mp fun q => hc (Or.inr (Or.inl q))
      have he : h.1.1 = h.1.2.2 := Decidable.not_not.mp fun q => hc (Or.inr (Or.inr q))
      simp only [Option.some.injEq, Prod.mk.injEq] at hs
      obtain ⟨rfl, rfl, rfl, rfl⟩ := hs
      have hr1 : h.1.1 + 1 - h0.1.1 ≤ R.cells := hroom.1
      have hr2 : h.1.2.1 + n.toNatClampNeg - h0.1.2.1 ≤ R.slots := hroom.2
      obtain ⟨a1, a2, a3, a4⟩ := id hle
      refine va_newa (atype := .boolean) (ty := .boolean) (a0 := (n.toNatClampNeg, .inl (fun _ => 0))) hx hb (hts _ tb_arr_boolean) rfl C.2.1 C.1 pd_W_D hS (fun q hq => Nat.le_trans hsz hq) (fun cA => rfl) hc1 rfl (by simp only [componentBytes]; omega) (by omega) (by omega) d (fun q cA H1 hK1 hP1 hD1 hS1 => ?_)
      refine W.sz (fun hz => ?_)
      obtain rfl := pd_fresh hD1 hP1 hle h02 hex he hz
      obtain rfl : cA = cy 2 := Option.some.inj ((hK1.2 4 (cA, .boolean) rfl).2.symm.trans (C.2.1.2 2 (cy 2, .boolean) rfl).2)
      have e1 : h.1.1 - h0.1.1 + 1 = h.1.1 + 1 - h0.1.1 := by omega
      have e2 : h.1.2.1 - h0.1.2.1 + n.toNatClampNeg = h.1.2.1 + n.toNatClampNeg - h0.1.2.1 := by omega
      rw [e1, e2]
      exact kk H1 _ ls (pd_Co_new hbb hsz C hS (fun t n d q => by cases q; omega) hP1 hS1) hS1 hl hn
  · exact absurd hs (by simp)
theorem so_anewarray (X : pd_Cx l p s m args meth c R mi) (hbb : b < base) (hsz : base ≤ s.heap.size) (C : pd_Co b base L xs dC dI cy h s H) (hS : va_S (pd_A base) s.heap H locs) (hl : lv_has ls (pd_n mi) (pd_lvA b base lv)) (hn : lv.length = pd_n mi) {k : Nat} (hk : pd_lk pd_CL (pd_o mi) k = some 4) (hroom : h1.1.1 - h0.1.1 ≤ R.cells ∧ h1.1.2.1 - h0.1.2.1 ≤ R.slots) (hle : pd_le h0 h) (h02 : h0.1.2.2 ≤ h0.1.1) (hex : h0.1.1 = h0.1.2.2 → s.heap.size = base + h0.1.2.2) (d : decode (pd_c mi) pc = .ok (.anewarray k, 3)) (hs : pd_stp (pc + 3) (.anewarray 4) lv st h = some (pc', lv', st', h1)) (kk : ∀ (H1 : Heap) (locs1 : List Loc) (ls1 : Array Slot), pd_Co b base L xs dC dI cy h1 s H1 → va_S (pd_A base) s.heap H1 locs1 → lv_has ls1 (pd_n mi) (pd_lvA b base lv') → lv'.length = pd_n mi → W p l e R s m args below meth c H1 locs1 (h1.1.1 - h0.1.1) (h1.1.2.1 - h0.1.2.1) Q (F0 m pc' ls1 (st'.map (pd_tr b base)))) : W p l e R s m args below meth c H locs (h.1.1 - h0.1.1) (h.1.2.1 - h0.1.2.1) Q (F0 m pc ls (st.map (pd_tr b base))) := by
  obtain ⟨hx, hb, hr, hml, hown, hts, hSx, hlocks, hname, htab, hfr, hlo, hnt⟩ := X
  simp only [pd_stp] at hs
  split at hs
  · rename_i n r
    split at hs
    · exact absurd hs (by simp)
    · rename_i hc
      have hc1 : ¬ n < 0 := fun q => hc (Or.inl q)
      have hc2 : n.toNatClampNeg ≤ 10000 := Nat.not_lt.mp fun q => hc (Or.inr (Or.inl q))
      have he : h.1.1 = h.1.2.2 := Decidable.not_not.mp fun q => hc (Or.inr (Or.inr q))
      simp only [Option.some.injEq, Prod.mk.injEq] at hs
      obtain ⟨rfl, rfl, rfl, rfl⟩ := hs
      have hr1 : h.1.1 + 1 - h0.1.1 ≤ R.cells := hroom.1
      have hr2 : h.1.2.1 + n.toNatClampNeg - h0.1.2.1 ≤ R.slots := hroom.2
      obtain ⟨a1, a2, a3, a4⟩ := id hle
      obtain ⟨q1, hq1⟩ := pd_zp_in tbl_b _ (pd_lk_in hk)
      simp only [Bool.and_eq_true, decide_eq_true_eq] at hq1
      refine va_newq (C := pd_cn 4) hx hb hown (hts _ (pd_at_in hq1.1)) hSx.2.1 C.2.1 C.1 pd_W_D hS (fun q hq => Nat.le_trans hsz hq) hc1 rfl (by omega) (by omega) (by omega) d (fun q cA H1 hK1 hP1 hD1 hS1 => ?_)
      refine W.sz (fun hz => ?_)
      obtain rfl := pd_fresh hD1 hP1 hle h02 hex he hz
      obtain rfl : cA = cy 3 := by
        obtain ⟨k1, c1, -, -, -, g1⟩ := (hK1.2 4 (cA, .object (pd_cn 4)) rfl).2
        obtain ⟨k2, c2, -, -, -, g2⟩ := (C.2.1.2 3 (cy 3, .object (pd_cn 4)) rfl).2
        exact Option.some.inj (g1.symm.trans g2)
      have e1 : h.1.1 - h0.1.1 + 1 = h.1.1 + 1 - h0.1.1 := by omega
      have e2 : h.1.2.1 - h0.1.2.1 + n.toNatClampNeg = h.1.2.1 + n.toNatClampNeg - h0.1.2.1 := by omega
      rw [e1, e2]
      exact kk H1 _ ls (pd_Co_new hbb hsz C hS (fun t n d q => by cases q; omega) hP1 hS1) hS1 hl hn
  · exact absurd hs (by simp)
theorem pd_cat_tr {r : List Value} : ((r.map (pd_tr b base)).map fun v => v.category).sum = pd_cat r := by
  unfold pd_cat
  rw [List.map_map]
  congr 1
  exact List.map_congr_left fun v _ => pd_tr_cat b base v
theorem so_objinit (X : pd_Cx l p s m args meth c R mi) (hbb : b < base) (hsz : base ≤ s.heap.size) (C : pd_Co b base L xs dC dI cy h s H) (hS : va_S (pd_A base) s.heap H locs) (hl : lv_has ls (pd_n mi) (pd_lvA b base lv)) (hn : lv.length = pd_n mi) {k : Nat} (hk : pd_lk pd_ML (pd_o mi) k = some 1000) (hro : ¬ (pd_fr mi = 0 ∨ pd_lo mi < 20)) (d : decode (pd_c mi) pc = .ok (.invokespecial k, 3)) (hs : pd_stp (pc + 3) (.invokespecial 1000) lv st h = some (pc', lv', st', h1)) (kk : ∀ (H1 : Heap) (locs1 : List Loc) (ls1 : Array Slot), pd_Co b base L xs dC dI cy h1 s H1 → va_S (pd_A base) s.heap H1 locs1 → lv_has ls1 (pd_n mi) (pd_lvA b base lv') → lv'.length = pd_n mi → W p l e R s m args below meth c H1 locs1 (h1.1.1 - h0.1.1) (h1.1.2.1 - h0.1.2.1) Q (F0 m pc' ls1 (st'.map (pd_tr b base)))) : W p l e R s m args below meth c H locs (h.1.1 - h0.1.1) (h.1.2.1 - h0.1.2.1) Q (F0 m pc ls (st.map (pd_tr b base))) := by
  obtain ⟨hx, hb, hr, hml, hown, hts, hSx, hlocks, hname, htab, hfr, hlo, hnt⟩ := X
  simp only [pd_stp] at hs
  split at hs
  · rename_i a r
    split at hs
    · rename_i hc
      simp only [Option.some.injEq, Prod.mk.injEq] at hs
      obtain ⟨rfl, rfl, rfl, rfl⟩ := hs
      refine W.objInit hx hb hown (hts _ (pd_mw hk)) (hts _ tb_objInst) (hts _ tb_objC) rfl (by rw [hml]; exact hl.1) rfl d (by omega) ?_ ?_
      · show 2 * 0 + ((r.map (pd_tr b base)).map fun v => v.category).sum + 12 ≤ R.locals
        rw [pd_cat_tr]; omega
      · exact kk _ _ _ C hS hl hn
    · exact absurd hs (by simp)
  · exact absurd hs (by simp)
theorem pd_max (x y : Int64) : (if x < y then y else x) = if y < x then x else y := by
  by_cases h1 : x < y <;> by_cases h2 : y < x
  · rw [Int64.lt_iff_toInt_lt] at h1 h2; omega
  · rw [if_pos h1, if_neg h2]
  · rw [if_neg h1, if_pos h2]
  · rw [if_neg h1, if_neg h2]
    rw [Int64.lt_iff_toInt_lt] at h1 h2
    exact Int64.toInt_inj.mp (by omega)
theorem so_minI (X : pd_Cx l p s m args meth c R mi) (hbb : b < base) (hsz : base ≤ s.heap.size) (C : pd_Co b base L xs dC dI cy h s H) (hS : va_S (pd_A base) s.heap H locs) (hl : lv_has ls (pd_n mi) (pd_lvA b base lv)) (hn : lv.length = pd_n mi) {k : Nat} (hk : pd_lk pd_ML (pd_o mi) k = some 1001) (hro : 1 ≤ pd_fr mi ∧ 40 ≤ pd_lo mi) (hroom : h1.1.1 - h0.1.1 ≤ R.cells ∧ h1.1.2.1 - h0.1.2.1 ≤ R.slots) (hle : pd_le h0 h) (h02 : h0.1.2.2 ≤ h0.1.1) (hex : h0.1.1 = h0.1.2.2 → s.heap.size = base + h0.1.2.2) (d : decode (pd_c mi) pc = .ok (.invokestatic k, 3)) (hs : pd_stp (pc + 3) (.invokestatic 1001) lv st h = some (pc', lv', st', h1)) (kk : ∀ (H1 : Heap) (locs1 : List Loc) (ls1 : Array Slot), pd_Co b base L xs dC dI cy h1 s H1 → va_S (pd_A base) s.heap H1 locs1 → lv_has ls1 (pd_n mi) (pd_lvA b base lv') → lv'.length = pd_n mi → W p l e R s m args below meth c H1 locs1 (h1.1.1 - h0.1.1) (h1.1.2.1 - h0.1.2.1) Q (F0 m pc' ls1 (st'.map (pd_tr b base)))) : W p l e R s m args below meth c H locs (h.1.1 - h0.1.1) (h.1.2.1 - h0.1.2.1) Q (F0 m pc ls (st.map (pd_tr b base))) := by
  obtain ⟨hx, hb, hr, hml, hown, hts, hSx, hlocks, hname, htab, hfr, hlo, hnt⟩ := X
  simp only [pd_stp] at hs
  split at hs
  all_goals first | omega | (simp at hs; done) | skip
  rename_i y x r _
  split at hs
  · rename_i hc
    simp only [Option.some.injEq, Prod.mk.injEq] at hs
    obtain ⟨rfl, rfl, rfl, rfl⟩ := hs
    refine va_mmin hx hb (by rw [hml]; exact hl.1.symm) hown (hts _ (pd_mw hk)) (hts _ tb_minS) (hts _ tb_mathI) (hts _ tb_minC) (by omega) ?_ hroom.1 hroom.2 d ?_
    · rw [pd_cat_tr]; omega
    · exact kk _ _ _ C hS hl hn
  · exact absurd hs (by simp)
theorem so_minL (X : pd_Cx l p s m args meth c R mi) (hbb : b < base) (hsz : base ≤ s.heap.size) (C : pd_Co b base L xs dC dI cy h s H) (hS : va_S (pd_A base) s.heap H locs) (hl : lv_has ls (pd_n mi) (pd_lvA b base lv)) (hn : lv.length = pd_n mi) {k : Nat} (hk : pd_lk pd_ML (pd_o mi) k = some 1002) (hro : 1 ≤ pd_fr mi ∧ 40 ≤ pd_lo mi) (hroom : h1.1.1 - h0.1.1 ≤ R.cells ∧ h1.1.2.1 - h0.1.2.1 ≤ R.slots) (hle : pd_le h0 h) (h02 : h0.1.2.2 ≤ h0.1.1) (hex : h0.1.1 = h0.1.2.2 → s.heap.size = base + h0.1.2.2) (d : decode (pd_c mi) pc = .ok (.invokestatic k, 3)) (hs : pd_stp (pc + 3) (.invokestatic 1002) lv st h = some (pc', lv', st', h1)) (kk : ∀ (H1 : Heap) (locs1 : List Loc) (ls1 : Array Slot), pd_Co b base L xs dC dI cy h1 s H1 → va_S (pd_A base) s.heap H1 locs1 → lv_has ls1 (pd_n mi) (pd_lvA b base lv') → lv'.length = pd_n mi → W p l e R s m args below meth c H1 locs1 (h1.1.1 - h0.1.1) (h1.1.2.1 - h0.1.2.1) Q (F0 m pc' ls1 (st'.map (pd_tr b base)))) : W p l e R s m args below meth c H locs (h.1.1 - h0.1.1) (h.1.2.1 - h0.1.2.1) Q (F0 m pc ls (st.map (pd_tr b base))) := by
  obtain ⟨hx, hb, hr, hml, hown, hts, hSx, hlocks, hname, htab, hfr, hlo, hnt⟩ := X
  simp only [pd_stp] at hs
  split at hs
  all_goals first | omega | (simp at hs; done) | skip
  rename_i y x r _
  split at hs
  · rename_i hc
    simp only [Option.some.injEq, Prod.mk.injEq] at hs
    obtain ⟨rfl, rfl, rfl, rfl⟩ := hs
    refine va_mmin_long hx hb (by rw [hml]; exact hl.1.symm) hown (hts _ (pd_mw hk)) (hts _ tb_minLS) (hts _ tb_mathI) (hts _ tb_minLC) (by omega) ?_ hroom.1 hroom.2 d ?_
    · rw [pd_cat_tr]; omega
    · exact kk _ _ _ C hS hl hn
  · exact absurd hs (by simp)
theorem so_maxL (X : pd_Cx l p s m args meth c R mi) (hbb : b < base) (hsz : base ≤ s.heap.size) (C : pd_Co b base L xs dC dI cy h s H) (hS : va_S (pd_A base) s.heap H locs) (hl : lv_has ls (pd_n mi) (pd_lvA b base lv)) (hn : lv.length = pd_n mi) {k : Nat} (hk : pd_lk pd_ML (pd_o mi) k = some 1003) (hro : 1 ≤ pd_fr mi ∧ 40 ≤ pd_lo mi) (hroom : h1.1.1 - h0.1.1 ≤ R.cells ∧ h1.1.2.1 - h0.1.2.1 ≤ R.slots) (hle : pd_le h0 h) (h02 : h0.1.2.2 ≤ h0.1.1) (hex : h0.1.1 = h0.1.2.2 → s.heap.size = base + h0.1.2.2) (d : decode (pd_c mi) pc = .ok (.invokestatic k, 3)) (hs : pd_stp (pc + 3) (.invokestatic 1003) lv st h = some (pc', lv', st', h1)) (kk : ∀ (H1 : Heap) (locs1 : List Loc) (ls1 : Array Slot), pd_Co b base L xs dC dI cy h1 s H1 → va_S (pd_A base) s.heap H1 locs1 → lv_has ls1 (pd_n mi) (pd_lvA b base lv') → lv'.length = pd_n mi → W p l e R s m args below meth c H1 locs1 (h1.1.1 - h0.1.1) (h1.1.2.1 - h0.1.2.1) Q (F0 m pc' ls1 (st'.map (pd_tr b base)))) : W p l e R s m args below meth c H locs (h.1.1 - h0.1.1) (h.1.2.1 - h0.1.2.1) Q (F0 m pc ls (st.map (pd_tr b base))) := by
  obtain ⟨hx, hb, hr, hml, hown, hts, hSx, hlocks, hname, htab, hfr, hlo, hnt⟩ := X
  simp only [pd_stp] at hs
  split at hs
  all_goals first | omega | (simp at hs; done) | skip
  rename_i y x r _
  split at hs
  · rename_i hc
    simp only [Option.some.injEq, Prod.mk.injEq] at hs
    obtain ⟨rfl, rfl, rfl, rfl⟩ := hs
    refine va_mmax_long hx hb (by rw [hml]; exact hl.1.symm) hown (hts _ (pd_mw hk)) (hts _ tb_maxLS) (hts _ tb_mathI) (hts _ tb_maxLC) (by omega) ?_ hroom.1 hroom.2 d ?_
    · rw [pd_cat_tr]; omega
    · rw [← pd_max]; exact kk _ _ _ C hS hl hn
  · exact absurd hs (by simp)
theorem so_acopy (X : pd_Cx l p s m args meth c R mi) (hbb : b < base) (hsz : base ≤ s.heap.size) (C : pd_Co b base L xs dC dI cy h s H) (hS : va_S (pd_A base) s.heap H locs) (hl : lv_has ls (pd_n mi) (pd_lvA b base lv)) (hn : lv.length = pd_n mi) {k : Nat} (hk : pd_lk pd_ML (pd_o mi) k = some 1004) (hro : 1 ≤ pd_fr mi ∧ 60 ≤ pd_lo mi) (hroom : h1.1.1 - h0.1.1 ≤ R.cells ∧ h1.1.2.1 - h0.1.2.1 ≤ R.slots) (hle : pd_le h0 h) (h02 : h0.1.2.2 ≤ h0.1.1) (hex : h0.1.1 = h0.1.2.2 → s.heap.size = base + h0.1.2.2) (d : decode (pd_c mi) pc = .ok (.invokestatic k, 3)) (hs : pd_stp (pc + 3) (.invokestatic 1004) lv st h = some (pc', lv', st', h1)) (kk : ∀ (H1 : Heap) (locs1 : List Loc) (ls1 : Array Slot), pd_Co b base L xs dC dI cy h1 s H1 → va_S (pd_A base) s.heap H1 locs1 → lv_has ls1 (pd_n mi) (pd_lvA b base lv') → lv'.length = pd_n mi → W p l e R s m args below meth c H1 locs1 (h1.1.1 - h0.1.1) (h1.1.2.1 - h0.1.2.1) Q (F0 m pc' ls1 (st'.map (pd_tr b base)))) : W p l e R s m args below meth c H locs (h.1.1 - h0.1.1) (h.1.2.1 - h0.1.2.1) Q (F0 m pc ls (st.map (pd_tr b base))) := by
  obtain ⟨hx, hb, hr, hml, hown, hts, hSx, hlocks, hname, htab, hfr, hlo, hnt⟩ := X
  simp only [pd_stp] at hs
  split at hs
  all_goals first | omega | (simp at hs; done) | skip
  rename_i n dp dd sp a r _
  split at hs
  · rename_i n0 f9 n1 g9 hg hg2
    split at hs
    · exact absurd hs (by simp)
    · rename_i hc
      simp only [Option.some.injEq, Prod.mk.injEq] at hs
      obtain ⟨rfl, rfl, rfl, rfl⟩ := hs
      have nf : pd_get h a ≠ pd_dead := fun q => by rw [q] at hg; cases hg
      obtain ⟨j, rfl, hj, hat, had⟩ := pd_Co_at (a := a) C (fun q => by rw [q, C.2.2.2.1.1] at hg; cases hg) nf
      rw [hg] at hat
      obtain ⟨j2, rfl, hj2, hat2, had2⟩ := pd_Co_at (a := dd) C (fun q => by rw [q, C.2.2.2.1.1] at hg2; cases hg2) (fun q => by rw [q] at hg2; cases hg2)
      rw [hg2] at hat2
      refine va_copyi hx hb (by rw [hml]; exact hl.1.symm) hown (hts _ (pd_mw hk)) (hts _ tb_cpyN) (hts _ tb_cpyS) (hts _ tb_sysI) C.2.1 C.1 pd_W_D hS j j2 0 0 hat hat2 rfl rfl rfl (fun q => hc (by simp [q])) (fun q => hc (by simp [q])) (fun q => hc (by simp [q])) (Nat.not_lt.mp fun q => hc (by simp [q])) (Nat.not_lt.mp fun q => hc (by simp [q])) (fun _ _ => rfl) (by omega) ?_ d (fun H1 locs1 hP1 _ hS1 => kk H1 locs1 ls (pd_Co_put hbb hsz C hS hj2 (fun t n d q => by cases q; omega) hP1 hS1) hS1 hl hn)
      have h8 : pd_cat r ≤ 8 := Nat.not_lt.mp fun q => hc (by simp [q])
      have h9 : nativeFrameWords "java/lang/System" "arraycopy" 5 = 7 := by decide +kernel
      rw [pd_cat_tr, h9]; omega
  · exact absurd hs (by simp)
end PDT
