/-! One step of the pure machine beside the machine's. -/
def pd_tN : String := Bundle.tN
def pd_Co (b base L : Nat) (xs : Nat → Int32) (dC : Nat → ClassId) (dI : Nat → Nat → Nat) (cy : Nat → ClassId) (h : pd_H) (s : State) (H : Heap) : Prop :=
  va_P (dC, dI) pd_cl (pd_W b base cy h) H ∧ va_K (dC, dI) pd_cl (pd_tys cy) s ∧ va_X b L xs s H ∧ (pd_get h 0 = .inl (4, L, .inl xs) ∧ (∀ a, h.1.2.2 < a → pd_get h a = pd_dead) ∧ ∀ a t n d, a ≠ 0 → pd_get h a = .inl (t, n, d) → t < 4) ∧ vx_Zq Bundle.tN "UNASSIGNED_STACK" Bundle.steD (pd_A base) s H ∧ vx_Zq Bundle.tN "SUPPRESSED_SENTINEL" Bundle.listD (pd_A base) s H
/-- the strings that exceptions bear -/
def pd_SR : List (Nat × String) := [(281, "an argument is out of range"), (100, "the text is full"), (109, "the text has an error"), (144, "there is no such number"), (278, "there is no such thing"), (175, "there is only one atom"), (193, "no state is remembered"), (274, "nothing has been saved in the slot")]
/-- what of the tables doesn't ride as words: nests, casts, strings -/
def pd_Sx (U : State) : Prop := (∀ w ∈ pd_sb, va_Nw w U) ∧ va_AO (pd_cn 4) U ∧ (∀ q ∈ pd_SR, ∃ sa, vk_R (pd_cn 5) q.1 q.2 sa U) ∧ ∀ i j : Nat, i < 3 → j < 3 → i ≠ j → va_Nc (pd_en i) (pd_en j) U
def pd_Cx (l : Launch) (p : Program) (s : State) (m : MethodId) (args : Array Value) (meth : Method) (c : Code) (R : Room) (mi : Nat) : Prop :=
  p.tables.exec = Jvm.exec ∧ c.code = pd_c mi ∧ meth.sig.returnType = pd_r mi ∧ c.maxLocals = pd_n mi ∧ s.vm.findClass (pd_cn (pd_o mi)) = some m.cls ∧ (∀ w ∈ pd_tb, w.before args s = true) ∧ pd_Sx s ∧ meth.locks = false ∧ ((pd_y mi).name = "<init>" → meth.name = "<init>") ∧ c.exceptionTable.toList = tableOf (pd_h mi) ∧ pd_fr mi ≤ R.frames ∧ pd_lo mi ≤ R.locals ∧ l.stackTraces = false
theorem pd_ok_inv {mi pc n0 np : Nat} {i0 i : Instr} (f : pd_ok mi pc i0 n0 = some (i, np)) : pd_res mi pc i0 = some i ∧ np = pc + n0 ∧ (n0 = pd_len i0 ∨ ∃ d lo hi os, i0 = .tableswitch d lo hi os) := by
  unfold pd_ok at f
  split at f
  · rename_i d lo hi os
    obtain ⟨j, h1, h2⟩ := Option.map_eq_some_iff.mp f
    cases h2
    exact ⟨h1, rfl, Or.inr ⟨d, lo, hi, os, rfl⟩⟩
  · split at f
    · rename_i hl
      obtain ⟨j, h1, h2⟩ := Option.map_eq_some_iff.mp f
      cases h2
      exact ⟨h1, rfl, Or.inl hl⟩
    · exact absurd f (by simp)
theorem pd_fetch_inv {mi pc np : Nat} {i : Instr} (f : pd_fetch mi pc = some (i, np)) : ∃ i0 n0, decode (pd_c mi) pc = .ok (i0, n0) ∧ pd_res mi pc i0 = some i ∧ np = pc + n0 ∧ (n0 = pd_len i0 ∨ ∃ d lo hi os, i0 = .tableswitch d lo hi os) := by
  unfold pd_fetch at f
  split at f
  · rename_i i0 n0 hd
    exact ⟨i0, n0, hd, pd_ok_inv f⟩
  · exact absurd f (by simp)
theorem pd_tgt_inv {pc : Nat} {o t : Int} (h : pd_tgt pc o = some t) : (pc : Int) + o = (t.toNat : Int) := by
  unfold pd_tgt at h
  split at h
  · cases h; omega
  · exact absurd h (by simp)
theorem pd_lk_in {l : List (Nat × Nat × Nat)} {o i c : Nat} (h : pd_lk l o i = some c) : (o, i, c) ∈ l := by
  unfold pd_lk at h
  obtain ⟨e, h1, h2⟩ := Option.map_eq_some_iff.mp h
  have h3 := List.find?_some h1
  simp only [Bool.and_eq_true, beq_iff_eq] at h3
  obtain ⟨x, y, z⟩ := e
  simp only at h2 h3
  rw [← h3.1, ← h3.2, ← h2]
  exact List.mem_of_find?_eq_some h1
theorem pd_lkZ_in {l : List (Nat × Nat × Int)} {o i : Nat} {c : Int} (h : pd_lkZ l o i = some c) : (o, i, c) ∈ l := by
  unfold pd_lkZ at h
  obtain ⟨e, h1, h2⟩ := Option.map_eq_some_iff.mp h
  have h3 := List.find?_some h1
  simp only [Bool.and_eq_true, beq_iff_eq] at h3
  obtain ⟨x, y, z⟩ := e
  simp only at h2 h3
  rw [← h3.1, ← h3.2, ← h2]
  exact List.mem_of_find?_eq_some h1
section PDS
variable {b base L : Nat} {xs : Nat → Int32} {dC : Nat → ClassId} {dI : Nat → Nat → Nat} {cy : Nat → ClassId}
variable {p : Program} {l : Launch} {e : Env} {R : Room} {s : State} {m : MethodId} {args : Array Value} {below : List Frame} {meth : Method} {c : Code} {H : Heap} {locs : List Loc} {Q : State → Prop} {ls : Array Slot}
variable {mi pc pc' : Nat} {lv lv' st st' : List Value} {h h0 h1 : pd_H}
theorem pd_Co_kept {H1 : Heap} (hb : b < base) (C : pd_Co b base L xs dC dI cy h s H) (hW : va_P (dC, dI) pd_cl (pd_W b base cy h1) H1) (h00 : pd_get h1 0 = pd_get h 0) (hd : ∀ a, h1.1.2.2 < a → pd_get h1 a = pd_dead) (h4 : ∀ a t n d, a ≠ 0 → pd_get h1 a = .inl (t, n, d) → t < 4) (hk : ∀ q : Nat, q < H.size → ¬ pd_A base q → H1[q]? = H[q]?) : pd_Co b base L xs dC dI cy h1 s H1 := by
  obtain ⟨-, hK, hX, ⟨hz, -, -⟩, hU, hN⟩ := C
  have hbl : b < H.size := by
    obtain ⟨scr, g1, -⟩ := hX
    exact (Array.getElem?_eq_some_iff.mp g1).1
  exact ⟨hW, hK, hX.kept (hk b hbl (Nat.not_le.mpr hb)), ⟨by rw [h00]; exact hz, hd, h4⟩, hU.kept hk, hN.kept hk⟩
/-- a cell that is not dead has its place -/
theorem pd_Co_at {a : Nat} (C : pd_Co b base L xs dC dI cy h s H) (h0 : a ≠ 0) (hd : pd_get h a ≠ pd_dead) : ∃ k, a = k + 1 ∧ k < h.1.2.2 ∧ (pd_W b base cy h)[k]? = some (base + k, pd_trE b base cy (pd_get h a)) ∧ pd_ad b base a = base + k := by
  obtain ⟨k, rfl⟩ : ∃ k, a = k + 1 := ⟨a - 1, by omega⟩
  have hk : k < h.1.2.2 := by
    rcases Nat.lt_or_ge k h.1.2.2 with q | q
    · exact q
    · exact absurd (C.2.2.2.1.2.1 (k + 1) (by omega)) hd
  exact ⟨k, rfl, hk, pd_W_at hk, rfl⟩
theorem pd_S_tr {H1 : Heap} {locs1 : List Loc} (h1 : va_S (pd_A base) H H1 locs1) : ∀ q : Nat, q < H.size → ¬ pd_A base q → H1[q]? = H[q]? := h1.2.1
theorem so_iconst (X : pd_Cx l p s m args meth c R mi) (hbb : b < base) (hsz : base ≤ s.heap.size) (C : pd_Co b base L xs dC dI cy h s H) (hS : va_S (pd_A base) s.heap H locs) (hl : lv_has ls (pd_n mi) (pd_lvA b base lv)) (hn : lv.length = pd_n mi) {n : Int} (d : decode (pd_c mi) pc = .ok (.iconst n, 1)) (hs : pd_stp (pc + 1) (.iconst n) lv st h = some (pc', lv', st', h1)) (kk : ∀ (H1 : Heap) (locs1 : List Loc) (ls1 : Array Slot), pd_Co b base L xs dC dI cy h1 s H1 → va_S (pd_A base) s.heap H1 locs1 → lv_has ls1 (pd_n mi) (pd_lvA b base lv') → lv'.length = pd_n mi → W p l e R s m args below meth c H1 locs1 (h1.1.1 - h0.1.1) (h1.1.2.1 - h0.1.2.1) Q (F0 m pc' ls1 (st'.map (pd_tr b base)))) : W p l e R s m args below meth c H locs (h.1.1 - h0.1.1) (h.1.2.1 - h0.1.2.1) Q (F0 m pc ls (st.map (pd_tr b base))) := by
  obtain ⟨hx, hb, hr, hml, hown, hts, hSx, hlocks, hname, htab, hfr, hlo, hnt⟩ := X
  simp only [pd_stp, Option.some.injEq, Prod.mk.injEq] at hs
  obtain ⟨rfl, rfl, rfl, rfl⟩ := hs
  exact lv_iconst hx hb d rfl (kk _ _ _ C hS hl hn)
theorem so_bipush (X : pd_Cx l p s m args meth c R mi) (hbb : b < base) (hsz : base ≤ s.heap.size) (C : pd_Co b base L xs dC dI cy h s H) (hS : va_S (pd_A base) s.heap H locs) (hl : lv_has ls (pd_n mi) (pd_lvA b base lv)) (hn : lv.length = pd_n mi) {n : Int} (hv : (Int8.ofInt n).toInt32 = Int32.ofInt n) (d : decode (pd_c mi) pc = .ok (.bipush n, 2)) (hs : pd_stp (pc + 2) (.iconst n) lv st h = some (pc', lv', st', h1)) (kk : ∀ (H1 : Heap) (locs1 : List Loc) (ls1 : Array Slot), pd_Co b base L xs dC dI cy h1 s H1 → va_S (pd_A base) s.heap H1 locs1 → lv_has ls1 (pd_n mi) (pd_lvA b base lv') → lv'.length = pd_n mi → W p l e R s m args below meth c H1 locs1 (h1.1.1 - h0.1.1) (h1.1.2.1 - h0.1.2.1) Q (F0 m pc' ls1 (st'.map (pd_tr b base)))) : W p l e R s m args below meth c H locs (h.1.1 - h0.1.1) (h.1.2.1 - h0.1.2.1) Q (F0 m pc ls (st.map (pd_tr b base))) := by
  obtain ⟨hx, hb, hr, hml, hown, hts, hSx, hlocks, hname, htab, hfr, hlo, hnt⟩ := X
  simp only [pd_stp, Option.some.injEq, Prod.mk.injEq] at hs
  obtain ⟨rfl, rfl, rfl, rfl⟩ := hs
  exact lv_bipush hx hb d hv (kk _ _ _ C hS hl hn)
theorem so_sipush (X : pd_Cx l p s m args meth c R mi) (hbb : b < base) (hsz : base ≤ s.heap.size) (C : pd_Co b base L xs dC dI cy h s H) (hS : va_S (pd_A base) s.heap H locs) (hl : lv_has ls (pd_n mi) (pd_lvA b base lv)) (hn : lv.length = pd_n mi) {n : Int} (hv : (Int16.ofInt n).toInt32 = Int32.ofInt n) (d : decode (pd_c mi) pc = .ok (.sipush n, 3)) (hs : pd_stp (pc + 3) (.iconst n) lv st h = some (pc', lv', st', h1)) (kk : ∀ (H1 : Heap) (locs1 : List Loc) (ls1 : Array Slot), pd_Co b base L xs dC dI cy h1 s H1 → va_S (pd_A base) s.heap H1 locs1 → lv_has ls1 (pd_n mi) (pd_lvA b base lv') → lv'.length = pd_n mi → W p l e R s m args below meth c H1 locs1 (h1.1.1 - h0.1.1) (h1.1.2.1 - h0.1.2.1) Q (F0 m pc' ls1 (st'.map (pd_tr b base)))) : W p l e R s m args below meth c H locs (h.1.1 - h0.1.1) (h.1.2.1 - h0.1.2.1) Q (F0 m pc ls (st.map (pd_tr b base))) := by
  obtain ⟨hx, hb, hr, hml, hown, hts, hSx, hlocks, hname, htab, hfr, hlo, hnt⟩ := X
  simp only [pd_stp, Option.some.injEq, Prod.mk.injEq] at hs
  obtain ⟨rfl, rfl, rfl, rfl⟩ := hs
  exact lv_sipush hx hb d hv (kk _ _ _ C hS hl hn)
theorem so_lconst (X : pd_Cx l p s m args meth c R mi) (hbb : b < base) (hsz : base ≤ s.heap.size) (C : pd_Co b base L xs dC dI cy h s H) (hS : va_S (pd_A base) s.heap H locs) (hl : lv_has ls (pd_n mi) (pd_lvA b base lv)) (hn : lv.length = pd_n mi) {n : Fin 2} (d : decode (pd_c mi) pc = .ok (.lconst n, 1)) (hs : pd_stp (pc + 1) (.jsr (n : Nat)) lv st h = some (pc', lv', st', h1)) (kk : ∀ (H1 : Heap) (locs1 : List Loc) (ls1 : Array Slot), pd_Co b base L xs dC dI cy h1 s H1 → va_S (pd_A base) s.heap H1 locs1 → lv_has ls1 (pd_n mi) (pd_lvA b base lv') → lv'.length = pd_n mi → W p l e R s m args below meth c H1 locs1 (h1.1.1 - h0.1.1) (h1.1.2.1 - h0.1.2.1) Q (F0 m pc' ls1 (st'.map (pd_tr b base)))) : W p l e R s m args below meth c H locs (h.1.1 - h0.1.1) (h.1.2.1 - h0.1.2.1) Q (F0 m pc ls (st.map (pd_tr b base))) := by
  obtain ⟨hx, hb, hr, hml, hown, hts, hSx, hlocks, hname, htab, hfr, hlo, hnt⟩ := X
  simp only [pd_stp, Option.some.injEq, Prod.mk.injEq] at hs
  obtain ⟨rfl, rfl, rfl, rfl⟩ := hs
  exact lv_lconst hx hb d (by match n with | 0 => rfl | 1 => rfl) (kk _ _ _ C hS hl hn)
theorem so_ldc2 (X : pd_Cx l p s m args meth c R mi) (hbb : b < base) (hsz : base ≤ s.heap.size) (C : pd_Co b base L xs dC dI cy h s H) (hS : va_S (pd_A base) s.heap H locs) (hl : lv_has ls (pd_n mi) (pd_lvA b base lv)) (hn : lv.length = pd_n mi) {k : Nat} {v : Int} (hk : pd_lkZ pd_KL (pd_o mi) k = some v) (d : decode (pd_c mi) pc = .ok (.ldc2_w k, 3)) (hs : pd_stp (pc + 3) (.jsr v) lv st h = some (pc', lv', st', h1)) (kk : ∀ (H1 : Heap) (locs1 : List Loc) (ls1 : Array Slot), pd_Co b base L xs dC dI cy h1 s H1 → va_S (pd_A base) s.heap H1 locs1 → lv_has ls1 (pd_n mi) (pd_lvA b base lv') → lv'.length = pd_n mi → W p l e R s m args below meth c H1 locs1 (h1.1.1 - h0.1.1) (h1.1.2.1 - h0.1.2.1) Q (F0 m pc' ls1 (st'.map (pd_tr b base)))) : W p l e R s m args below meth c H locs (h.1.1 - h0.1.1) (h.1.2.1 - h0.1.2.1) Q (F0 m pc ls (st.map (pd_tr b base))) := by
  obtain ⟨hx, hb, hr, hml, hown, hts, hSx, hlocks, hname, htab, hfr, hlo, hnt⟩ := X
  simp only [pd_stp, Option.some.injEq, Prod.mk.injEq] at hs
  obtain ⟨rfl, rfl, rfl, rfl⟩ := hs
  obtain ⟨q9, hq⟩ := pd_zp_in tbk_b _ (pd_lkZ_in hk)
  exact lv_ldc2 hx hb hown (hts _ (pd_at_in hq)) d (kk _ _ _ C hS hl hn)
theorem so_iload (X : pd_Cx l p s m args meth c R mi) (hbb : b < base) (hsz : base ≤ s.heap.size) (C : pd_Co b base L xs dC dI cy h s H) (hS : va_S (pd_A base) s.heap H locs) (hl : lv_has ls (pd_n mi) (pd_lvA b base lv)) (hn : lv.length = pd_n mi) {k : Nat} (d : decode (pd_c mi) pc = .ok (.iload k, 2)) (hs : pd_stp (pc + 2) (.iload k) lv st h = some (pc', lv', st', h1)) (kk : ∀ (H1 : Heap) (locs1 : List Loc) (ls1 : Array Slot), pd_Co b base L xs dC dI cy h1 s H1 → va_S (pd_A base) s.heap H1 locs1 → lv_has ls1 (pd_n mi) (pd_lvA b base lv') → lv'.length = pd_n mi → W p l e R s m args below meth c H1 locs1 (h1.1.1 - h0.1.1) (h1.1.2.1 - h0.1.2.1) Q (F0 m pc' ls1 (st'.map (pd_tr b base)))) : W p l e R s m args below meth c H locs (h.1.1 - h0.1.1) (h.1.2.1 - h0.1.2.1) Q (F0 m pc ls (st.map (pd_tr b base))) := by
  obtain ⟨hx, hb, hr, hml, hown, hts, hSx, hlocks, hname, htab, hfr, hlo, hnt⟩ := X
  simp only [pd_stp] at hs
  split at hs
  · rename_i x hg
    simp only [Option.some.injEq, Prod.mk.injEq] at hs
    obtain ⟨rfl, rfl, rfl, rfl⟩ := hs
    have hq := pd_lv_at hl hg (by simp [pd_dum])
    exact lv_iload hx hb d hq (kk _ _ _ C hS hl hn)
  · exact absurd hs (by simp)
theorem so_iload_n (X : pd_Cx l p s m args meth c R mi) (hbb : b < base) (hsz : base ≤ s.heap.size) (C : pd_Co b base L xs dC dI cy h s H) (hS : va_S (pd_A base) s.heap H locs) (hl : lv_has ls (pd_n mi) (pd_lvA b base lv)) (hn : lv.length = pd_n mi) {k : Fin 4} (d : decode (pd_c mi) pc = .ok (.iload_n k, 1)) (hs : pd_stp (pc + 1) (.iload k) lv st h = some (pc', lv', st', h1)) (kk : ∀ (H1 : Heap) (locs1 : List Loc) (ls1 : Array Slot), pd_Co b base L xs dC dI cy h1 s H1 → va_S (pd_A base) s.heap H1 locs1 → lv_has ls1 (pd_n mi) (pd_lvA b base lv') → lv'.length = pd_n mi → W p l e R s m args below meth c H1 locs1 (h1.1.1 - h0.1.1) (h1.1.2.1 - h0.1.2.1) Q (F0 m pc' ls1 (st'.map (pd_tr b base)))) : W p l e R s m args below meth c H locs (h.1.1 - h0.1.1) (h.1.2.1 - h0.1.2.1) Q (F0 m pc ls (st.map (pd_tr b base))) := by
  obtain ⟨hx, hb, hr, hml, hown, hts, hSx, hlocks, hname, htab, hfr, hlo, hnt⟩ := X
  simp only [pd_stp] at hs
  split at hs
  · rename_i x hg
    simp only [Option.some.injEq, Prod.mk.injEq] at hs
    obtain ⟨rfl, rfl, rfl, rfl⟩ := hs
    have hq := pd_lv_at hl hg (by simp [pd_dum])
    exact lv_iload_n hx hb d rfl hq (kk _ _ _ C hS hl hn)
  · exact absurd hs (by simp)
theorem so_istore (X : pd_Cx l p s m args meth c R mi) (hbb : b < base) (hsz : base ≤ s.heap.size) (C : pd_Co b base L xs dC dI cy h s H) (hS : va_S (pd_A base) s.heap H locs) (hl : lv_has ls (pd_n mi) (pd_lvA b base lv)) (hn : lv.length = pd_n mi) {k : Nat} (d : decode (pd_c mi) pc = .ok (.istore k, 2)) (hs : pd_stp (pc + 2) (.istore k) lv st h = some (pc', lv', st', h1)) (kk : ∀ (H1 : Heap) (locs1 : List Loc) (ls1 : Array Slot), pd_Co b base L xs dC dI cy h1 s H1 → va_S (pd_A base) s.heap H1 locs1 → lv_has ls1 (pd_n mi) (pd_lvA b base lv') → lv'.length = pd_n mi → W p l e R s m args below meth c H1 locs1 (h1.1.1 - h0.1.1) (h1.1.2.1 - h0.1.2.1) Q (F0 m pc' ls1 (st'.map (pd_tr b base)))) : W p l e R s m args below meth c H locs (h.1.1 - h0.1.1) (h.1.2.1 - h0.1.2.1) Q (F0 m pc ls (st.map (pd_tr b base))) := by
  obtain ⟨hx, hb, hr, hml, hown, hts, hSx, hlocks, hname, htab, hfr, hlo, hnt⟩ := X
  simp only [pd_stp] at hs
  split at hs
  · rename_i x r
    split at hs
    · rename_i hlt
      simp only [Option.some.injEq, Prod.mk.injEq] at hs
      obtain ⟨rfl, rfl, rfl, rfl⟩ := hs
      exact lv_istore hx hb d hl (by rw [← hn]; exact hlt) rfl (fun ls1 hl1 => kk _ _ ls1 C hS (pd_has_sub hl1 (pd_s1_sub hlt)) (by rw [pd_s1_len]; exact hn))
    · exact absurd hs (by simp)
  · exact absurd hs (by simp)
theorem so_istore_n (X : pd_Cx l p s m args meth c R mi) (hbb : b < base) (hsz : base ≤ s.heap.size) (C : pd_Co b base L xs dC dI cy h s H) (hS : va_S (pd_A base) s.heap H locs) (hl : lv_has ls (pd_n mi) (pd_lvA b base lv)) (hn : lv.length = pd_n mi) {k : Fin 4} (d : decode (pd_c mi) pc = .ok (.istore_n k, 1)) (hs : pd_stp (pc + 1) (.istore k) lv st h = some (pc', lv', st', h1)) (kk : ∀ (H1 : Heap) (locs1 : List Loc) (ls1 : Array Slot), pd_Co b base L xs dC dI cy h1 s H1 → va_S (pd_A base) s.heap H1 locs1 → lv_has ls1 (pd_n mi) (pd_lvA b base lv') → lv'.length = pd_n mi → W p l e R s m args below meth c H1 locs1 (h1.1.1 - h0.1.1) (h1.1.2.1 - h0.1.2.1) Q (F0 m pc' ls1 (st'.map (pd_tr b base)))) : W p l e R s m args below meth c H locs (h.1.1 - h0.1.1) (h.1.2.1 - h0.1.2.1) Q (F0 m pc ls (st.map (pd_tr b base))) := by
  obtain ⟨hx, hb, hr, hml, hown, hts, hSx, hlocks, hname, htab, hfr, hlo, hnt⟩ := X
  simp only [pd_stp] at hs
  split at hs
  · rename_i x r
    split at hs
    · rename_i hlt
      simp only [Option.some.injEq, Prod.mk.injEq] at hs
      obtain ⟨rfl, rfl, rfl, rfl⟩ := hs
      exact lv_istore_n hx hb d rfl hl (by rw [← hn]; exact hlt) rfl (fun ls1 hl1 => kk _ _ ls1 C hS (pd_has_sub hl1 (pd_s1_sub hlt)) (by rw [pd_s1_len]; exact hn))
    · exact absurd hs (by simp)
  · exact absurd hs (by simp)
theorem so_lload (X : pd_Cx l p s m args meth c R mi) (hbb : b < base) (hsz : base ≤ s.heap.size) (C : pd_Co b base L xs dC dI cy h s H) (hS : va_S (pd_A base) s.heap H locs) (hl : lv_has ls (pd_n mi) (pd_lvA b base lv)) (hn : lv.length = pd_n mi) {k : Nat} (d : decode (pd_c mi) pc = .ok (.lload k, 2)) (hs : pd_stp (pc + 2) (.lload k) lv st h = some (pc', lv', st', h1)) (kk : ∀ (H1 : Heap) (locs1 : List Loc) (ls1 : Array Slot), pd_Co b base L xs dC dI cy h1 s H1 → va_S (pd_A base) s.heap H1 locs1 → lv_has ls1 (pd_n mi) (pd_lvA b base lv') → lv'.length = pd_n mi → W p l e R s m args below meth c H1 locs1 (h1.1.1 - h0.1.1) (h1.1.2.1 - h0.1.2.1) Q (F0 m pc' ls1 (st'.map (pd_tr b base)))) : W p l e R s m args below meth c H locs (h.1.1 - h0.1.1) (h.1.2.1 - h0.1.2.1) Q (F0 m pc ls (st.map (pd_tr b base))) := by
  obtain ⟨hx, hb, hr, hml, hown, hts, hSx, hlocks, hname, htab, hfr, hlo, hnt⟩ := X
  simp only [pd_stp] at hs
  split at hs
  · rename_i x hg
    simp only [Option.some.injEq, Prod.mk.injEq] at hs
    obtain ⟨rfl, rfl, rfl, rfl⟩ := hs
    have hq := pd_lv_at hl hg (by simp [pd_dum])
    exact lv_lload hx hb d hq (kk _ _ _ C hS hl hn)
  · exact absurd hs (by simp)
theorem so_lload_n (X : pd_Cx l p s m args meth c R mi) (hbb : b < base) (hsz : base ≤ s.heap.size) (C : pd_Co b base L xs dC dI cy h s H) (hS : va_S (pd_A base) s.heap H locs) (hl : lv_has ls (pd_n mi) (pd_lvA b base lv)) (hn : lv.length = pd_n mi) {k : Fin 4} (d : decode (pd_c mi) pc = .ok (.lload_n k, 1)) (hs : pd_stp (pc + 1) (.lload k) lv st h = some (pc', lv', st', h1)) (kk : ∀ (H1 : Heap) (locs1 : List Loc) (ls1 : Array Slot), pd_Co b base L xs dC dI cy h1 s H1 → va_S (pd_A base) s.heap H1 locs1 → lv_has ls1 (pd_n mi) (pd_lvA b base lv') → lv'.length = pd_n mi → W p l e R s m args below meth c H1 locs1 (h1.1.1 - h0.1.1) (h1.1.2.1 - h0.1.2.1) Q (F0 m pc' ls1 (st'.map (pd_tr b base)))) : W p l e R s m args below meth c H locs (h.1.1 - h0.1.1) (h.1.2.1 - h0.1.2.1) Q (F0 m pc ls (st.map (pd_tr b base))) := by
  obtain ⟨hx, hb, hr, hml, hown, hts, hSx, hlocks, hname, htab, hfr, hlo, hnt⟩ := X
  simp only [pd_stp] at hs
  split at hs
  · rename_i x hg
    simp only [Option.some.injEq, Prod.mk.injEq] at hs
    obtain ⟨rfl, rfl, rfl, rfl⟩ := hs
    have hq := pd_lv_at hl hg (by simp [pd_dum])
    exact lv_lload_n hx hb d rfl hq (kk _ _ _ C hS hl hn)
  · exact absurd hs (by simp)
theorem so_lstore (X : pd_Cx l p s m args meth c R mi) (hbb : b < base) (hsz : base ≤ s.heap.size) (C : pd_Co b base L xs dC dI cy h s H) (hS : va_S (pd_A base) s.heap H locs) (hl : lv_has ls (pd_n mi) (pd_lvA b base lv)) (hn : lv.length = pd_n mi) {k : Nat} (d : decode (pd_c mi) pc = .ok (.lstore k, 2)) (hs : pd_stp (pc + 2) (.lstore k) lv st h = some (pc', lv', st', h1)) (kk : ∀ (H1 : Heap) (locs1 : List Loc) (ls1 : Array Slot), pd_Co b base L xs dC dI cy h1 s H1 → va_S (pd_A base) s.heap H1 locs1 → lv_has ls1 (pd_n mi) (pd_lvA b base lv') → lv'.length = pd_n mi → W p l e R s m args below meth c H1 locs1 (h1.1.1 - h0.1.1) (h1.1.2.1 - h0.1.2.1) Q (F0 m pc' ls1 (st'.map (pd_tr b base)))) : W p l e R s m args below meth c H locs (h.1.1 - h0.1.1) (h.1.2.1 - h0.1.2.1) Q (F0 m pc ls (st.map (pd_tr b base))) := by
  obtain ⟨hx, hb, hr, hml, hown, hts, hSx, hlocks, hname, htab, hfr, hlo, hnt⟩ := X
  simp only [pd_stp] at hs
  split at hs
  · rename_i x r
    split at hs
    · rename_i hlt
      simp only [Option.some.injEq, Prod.mk.injEq] at hs
      obtain ⟨rfl, rfl, rfl, rfl⟩ := hs
      exact lv_lstore hx hb d hl (by rw [← hn]; exact hlt) rfl (fun ls1 hl1 => kk _ _ ls1 C hS (pd_has_sub hl1 (pd_s2_sub hlt)) (by rw [pd_s2_len]; exact hn))
    · exact absurd hs (by simp)
  · exact absurd hs (by simp)
theorem so_lstore_n (X : pd_Cx l p s m args meth c R mi) (hbb : b < base) (hsz : base ≤ s.heap.size) (C : pd_Co b base L xs dC dI cy h s H) (hS : va_S (pd_A base) s.heap H locs) (hl : lv_has ls (pd_n mi) (pd_lvA b base lv)) (hn : lv.length = pd_n mi) {k : Fin 4} (d : decode (pd_c mi) pc = .ok (.lstore_n k, 1)) (hs : pd_stp (pc + 1) (.lstore k) lv st h = some (pc', lv', st', h1)) (kk : ∀ (H1 : Heap) (locs1 : List Loc) (ls1 : Array Slot), pd_Co b base L xs dC dI cy h1 s H1 → va_S (pd_A base) s.heap H1 locs1 → lv_has ls1 (pd_n mi) (pd_lvA b base lv') → lv'.length = pd_n mi → W p l e R s m args below meth c H1 locs1 (h1.1.1 - h0.1.1) (h1.1.2.1 - h0.1.2.1) Q (F0 m pc' ls1 (st'.map (pd_tr b base)))) : W p l e R s m args below meth c H locs (h.1.1 - h0.1.1) (h.1.2.1 - h0.1.2.1) Q (F0 m pc ls (st.map (pd_tr b base))) := by
  obtain ⟨hx, hb, hr, hml, hown, hts, hSx, hlocks, hname, htab, hfr, hlo, hnt⟩ := X
  simp only [pd_stp] at hs
  split at hs
  · rename_i x r
    split at hs
    · rename_i hlt
      simp only [Option.some.injEq, Prod.mk.injEq] at hs
      obtain ⟨rfl, rfl, rfl, rfl⟩ := hs
      exact lv_lstore_n hx hb d rfl hl (by rw [← hn]; exact hlt) rfl (fun ls1 hl1 => kk _ _ ls1 C hS (pd_has_sub hl1 (pd_s2_sub hlt)) (by rw [pd_s2_len]; exact hn))
    · exact absurd hs (by simp)
  · exact absurd hs (by simp)
theorem so_aload (X : pd_Cx l p s m args meth c R mi) (hbb : b < base) (hsz : base ≤ s.heap.size) (C : pd_Co b base L xs dC dI cy h s H) (hS : va_S (pd_A base) s.heap H locs) (hl : lv_has ls (pd_n mi) (pd_lvA b base lv)) (hn : lv.length = pd_n mi) {k : Nat} (d : decode (pd_c mi) pc = .ok (.aload k, 2)) (hs : pd_stp (pc + 2) (.aload k) lv st h = some (pc', lv', st', h1)) (kk : ∀ (H1 : Heap) (locs1 : List Loc) (ls1 : Array Slot), pd_Co b base L xs dC dI cy h1 s H1 → va_S (pd_A base) s.heap H1 locs1 → lv_has ls1 (pd_n mi) (pd_lvA b base lv') → lv'.length = pd_n mi → W p l e R s m args below meth c H1 locs1 (h1.1.1 - h0.1.1) (h1.1.2.1 - h0.1.2.1) Q (F0 m pc' ls1 (st'.map (pd_tr b base)))) : W p l e R s m args below meth c H locs (h.1.1 - h0.1.1) (h.1.2.1 - h0.1.2.1) Q (F0 m pc ls (st.map (pd_tr b base))) := by
  obtain ⟨hx, hb, hr, hml, hown, hts, hSx, hlocks, hname, htab, hfr, hlo, hnt⟩ := X
  simp only [pd_stp] at hs
  split at hs
  · rename_i x hg
    simp only [Option.some.injEq, Prod.mk.injEq] at hs
    obtain ⟨rfl, rfl, rfl, rfl⟩ := hs
    have hq := pd_lv_at hl hg (by simp [pd_dum])
    exact lv_aload hx hb d hq (kk _ _ _ C hS hl hn)
  · exact absurd hs (by simp)
theorem so_aload_n (X : pd_Cx l p s m args meth c R mi) (hbb : b < base) (hsz : base ≤ s.heap.size) (C : pd_Co b base L xs dC dI cy h s H) (hS : va_S (pd_A base) s.heap H locs) (hl : lv_has ls (pd_n mi) (pd_lvA b base lv)) (hn : lv.length = pd_n mi) {k : Fin 4} (d : decode (pd_c mi) pc = .ok (.aload_n k, 1)) (hs : pd_stp (pc + 1) (.aload k) lv st h = some (pc', lv', st', h1)) (kk : ∀ (H1 : Heap) (locs1 : List Loc) (ls1 : Array Slot), pd_Co b base L xs dC dI cy h1 s H1 → va_S (pd_A base) s.heap H1 locs1 → lv_has ls1 (pd_n mi) (pd_lvA b base lv') → lv'.length = pd_n mi → W p l e R s m args below meth c H1 locs1 (h1.1.1 - h0.1.1) (h1.1.2.1 - h0.1.2.1) Q (F0 m pc' ls1 (st'.map (pd_tr b base)))) : W p l e R s m args below meth c H locs (h.1.1 - h0.1.1) (h.1.2.1 - h0.1.2.1) Q (F0 m pc ls (st.map (pd_tr b base))) := by
  obtain ⟨hx, hb, hr, hml, hown, hts, hSx, hlocks, hname, htab, hfr, hlo, hnt⟩ := X
  simp only [pd_stp] at hs
  split at hs
  · rename_i x hg
    simp only [Option.some.injEq, Prod.mk.injEq] at hs
    obtain ⟨rfl, rfl, rfl, rfl⟩ := hs
    have hq := pd_lv_at hl hg (by simp [pd_dum])
    exact lv_aload_n hx hb d rfl hq (kk _ _ _ C hS hl hn)
  · exact absurd hs (by simp)
theorem so_astore (X : pd_Cx l p s m args meth c R mi) (hbb : b < base) (hsz : base ≤ s.heap.size) (C : pd_Co b base L xs dC dI cy h s H) (hS : va_S (pd_A base) s.heap H locs) (hl : lv_has ls (pd_n mi) (pd_lvA b base lv)) (hn : lv.length = pd_n mi) {k : Nat} (d : decode (pd_c mi) pc = .ok (.astore k, 2)) (hs : pd_stp (pc + 2) (.astore k) lv st h = some (pc', lv', st', h1)) (kk : ∀ (H1 : Heap) (locs1 : List Loc) (ls1 : Array Slot), pd_Co b base L xs dC dI cy h1 s H1 → va_S (pd_A base) s.heap H1 locs1 → lv_has ls1 (pd_n mi) (pd_lvA b base lv') → lv'.length = pd_n mi → W p l e R s m args below meth c H1 locs1 (h1.1.1 - h0.1.1) (h1.1.2.1 - h0.1.2.1) Q (F0 m pc' ls1 (st'.map (pd_tr b base)))) : W p l e R s m args below meth c H locs (h.1.1 - h0.1.1) (h.1.2.1 - h0.1.2.1) Q (F0 m pc ls (st.map (pd_tr b base))) := by
  obtain ⟨hx, hb, hr, hml, hown, hts, hSx, hlocks, hname, htab, hfr, hlo, hnt⟩ := X
  simp only [pd_stp] at hs
  split at hs
  · rename_i x r
    split at hs
    · rename_i hlt
      simp only [Option.some.injEq, Prod.mk.injEq] at hs
      obtain ⟨rfl, rfl, rfl, rfl⟩ := hs
      exact lv_astore hx hb d hl (by rw [← hn]; exact hlt) rfl (fun ls1 hl1 => kk _ _ ls1 C hS (pd_has_sub hl1 (pd_s1_sub hlt)) (by rw [pd_s1_len]; exact hn))
    · exact absurd hs (by simp)
  · exact absurd hs (by simp)
theorem so_astore_n (X : pd_Cx l p s m args meth c R mi) (hbb : b < base) (hsz : base ≤ s.heap.size) (C : pd_Co b base L xs dC dI cy h s H) (hS : va_S (pd_A base) s.heap H locs) (hl : lv_has ls (pd_n mi) (pd_lvA b base lv)) (hn : lv.length = pd_n mi) {k : Fin 4} (d : decode (pd_c mi) pc = .ok (.astore_n k, 1)) (hs : pd_stp (pc + 1) (.astore k) lv st h = some (pc', lv', st', h1)) (kk : ∀ (H1 : Heap) (locs1 : List Loc) (ls1 : Array Slot), pd_Co b base L xs dC dI cy h1 s H1 → va_S (pd_A base) s.heap H1 locs1 → lv_has ls1 (pd_n mi) (pd_lvA b base lv') → lv'.length = pd_n mi → W p l e R s m args below meth c H1 locs1 (h1.1.1 - h0.1.1) (h1.1.2.1 - h0.1.2.1) Q (F0 m pc' ls1 (st'.map (pd_tr b base)))) : W p l e R s m args below meth c H locs (h.1.1 - h0.1.1) (h.1.2.1 - h0.1.2.1) Q (F0 m pc ls (st.map (pd_tr b base))) := by
  obtain ⟨hx, hb, hr, hml, hown, hts, hSx, hlocks, hname, htab, hfr, hlo, hnt⟩ := X
  simp only [pd_stp] at hs
  split at hs
  · rename_i x r
    split at hs
    · rename_i hlt
      simp only [Option.some.injEq, Prod.mk.injEq] at hs
      obtain ⟨rfl, rfl, rfl, rfl⟩ := hs
      exact lv_astore_n hx hb d rfl hl (by rw [← hn]; exact hlt) rfl (fun ls1 hl1 => kk _ _ ls1 C hS (pd_has_sub hl1 (pd_s1_sub hlt)) (by rw [pd_s1_len]; exact hn))
    · exact absurd hs (by simp)
  · exact absurd hs (by simp)
theorem so_iinc (X : pd_Cx l p s m args meth c R mi) (hbb : b < base) (hsz : base ≤ s.heap.size) (C : pd_Co b base L xs dC dI cy h s H) (hS : va_S (pd_A base) s.heap H locs) (hl : lv_has ls (pd_n mi) (pd_lvA b base lv)) (hn : lv.length = pd_n mi) {k : Nat} {n : Int} (d : decode (pd_c mi) pc = .ok (.iinc k n, 3)) (hs : pd_stp (pc + 3) (.iinc k n) lv st h = some (pc', lv', st', h1)) (kk : ∀ (H1 : Heap) (locs1 : List Loc) (ls1 : Array Slot), pd_Co b base L xs dC dI cy h1 s H1 → va_S (pd_A base) s.heap H1 locs1 → lv_has ls1 (pd_n mi) (pd_lvA b base lv') → lv'.length = pd_n mi → W p l e R s m args below meth c H1 locs1 (h1.1.1 - h0.1.1) (h1.1.2.1 - h0.1.2.1) Q (F0 m pc' ls1 (st'.map (pd_tr b base)))) : W p l e R s m args below meth c H locs (h.1.1 - h0.1.1) (h.1.2.1 - h0.1.2.1) Q (F0 m pc ls (st.map (pd_tr b base))) := by
  obtain ⟨hx, hb, hr, hml, hown, hts, hSx, hlocks, hname, htab, hfr, hlo, hnt⟩ := X
  simp only [pd_stp] at hs
  split at hs
  · rename_i x hg
    simp only [Option.some.injEq, Prod.mk.injEq] at hs
    obtain ⟨rfl, rfl, rfl, rfl⟩ := hs
    have hlt : k < lv.length := (List.getElem?_eq_some_iff.mp hg).1
    obtain ⟨j, hj⟩ := List.getElem?_of_mem (pd_lvA_in.mpr ⟨_, hg, (by simp [pd_dum]), rfl⟩ : (k, pd_tr b base (.int x)) ∈ pd_lvA b base lv)
    exact lv_iinc hx hb d hl hj rfl (by rw [← hn]; exact hlt) rfl (fun ls1 hl1 => kk _ _ ls1 C hS (pd_has_sub hl1 (pd_s1_sub hlt)) (by rw [pd_s1_len]; exact hn))
  · exact absurd hs (by simp)
theorem so_iadd (X : pd_Cx l p s m args meth c R mi) (hbb : b < base) (hsz : base ≤ s.heap.size) (C : pd_Co b base L xs dC dI cy h s H) (hS : va_S (pd_A base) s.heap H locs) (hl : lv_has ls (pd_n mi) (pd_lvA b base lv)) (hn : lv.length = pd_n mi) (d : decode (pd_c mi) pc = .ok (.iadd, 1)) (hs : pd_stp (pc + 1) .iadd lv st h = some (pc', lv', st', h1)) (kk : ∀ (H1 : Heap) (locs1 : List Loc) (ls1 : Array Slot), pd_Co b base L xs dC dI cy h1 s H1 → va_S (pd_A base) s.heap H1 locs1 → lv_has ls1 (pd_n mi) (pd_lvA b base lv') → lv'.length = pd_n mi → W p l e R s m args below meth c H1 locs1 (h1.1.1 - h0.1.1) (h1.1.2.1 - h0.1.2.1) Q (F0 m pc' ls1 (st'.map (pd_tr b base)))) : W p l e R s m args below meth c H locs (h.1.1 - h0.1.1) (h.1.2.1 - h0.1.2.1) Q (F0 m pc ls (st.map (pd_tr b base))) := by
  obtain ⟨hx, hb, hr, hml, hown, hts, hSx, hlocks, hname, htab, hfr, hlo, hnt⟩ := X
  simp only [pd_stp] at hs
  split at hs
  · rename_i y x r
    simp only [pd_bin, Option.map_some, Option.some.injEq, Prod.mk.injEq] at hs
    skip
    obtain ⟨rfl, rfl, rfl, rfl⟩ := hs
    exact lv_iadd hx hb d (kk _ _ _ C hS hl hn)
  · simp only [pd_binL, Option.map_none] at hs
    exact absurd hs (by simp)
  · exact absurd hs (by simp)
theorem so_isub (X : pd_Cx l p s m args meth c R mi) (hbb : b < base) (hsz : base ≤ s.heap.size) (C : pd_Co b base L xs dC dI cy h s H) (hS : va_S (pd_A base) s.heap H locs) (hl : lv_has ls (pd_n mi) (pd_lvA b base lv)) (hn : lv.length = pd_n mi) (d : decode (pd_c mi) pc = .ok (.isub, 1)) (hs : pd_stp (pc + 1) .isub lv st h = some (pc', lv', st', h1)) (kk : ∀ (H1 : Heap) (locs1 : List Loc) (ls1 : Array Slot), pd_Co b base L xs dC dI cy h1 s H1 → va_S (pd_A base) s.heap H1 locs1 → lv_has ls1 (pd_n mi) (pd_lvA b base lv') → lv'.length = pd_n mi → W p l e R s m args below meth c H1 locs1 (h1.1.1 - h0.1.1) (h1.1.2.1 - h0.1.2.1) Q (F0 m pc' ls1 (st'.map (pd_tr b base)))) : W p l e R s m args below meth c H locs (h.1.1 - h0.1.1) (h.1.2.1 - h0.1.2.1) Q (F0 m pc ls (st.map (pd_tr b base))) := by
  obtain ⟨hx, hb, hr, hml, hown, hts, hSx, hlocks, hname, htab, hfr, hlo, hnt⟩ := X
  simp only [pd_stp] at hs
  split at hs
  · rename_i y x r
    simp only [pd_bin, Option.map_some, Option.some.injEq, Prod.mk.injEq] at hs
    skip
    obtain ⟨rfl, rfl, rfl, rfl⟩ := hs
    exact lv_isub hx hb d (kk _ _ _ C hS hl hn)
  · simp only [pd_binL, Option.map_none] at hs
    exact absurd hs (by simp)
  · exact absurd hs (by simp)
theorem so_imul (X : pd_Cx l p s m args meth c R mi) (hbb : b < base) (hsz : base ≤ s.heap.size) (C : pd_Co b base L xs dC dI cy h s H) (hS : va_S (pd_A base) s.heap H locs) (hl : lv_has ls (pd_n mi) (pd_lvA b base lv)) (hn : lv.length = pd_n mi) (d : decode (pd_c mi) pc = .ok (.imul, 1)) (hs : pd_stp (pc + 1) .imul lv st h = some (pc', lv', st', h1)) (kk : ∀ (H1 : Heap) (locs1 : List Loc) (ls1 : Array Slot), pd_Co b base L xs dC dI cy h1 s H1 → va_S (pd_A base) s.heap H1 locs1 → lv_has ls1 (pd_n mi) (pd_lvA b base lv') → lv'.length = pd_n mi → W p l e R s m args below meth c H1 locs1 (h1.1.1 - h0.1.1) (h1.1.2.1 - h0.1.2.1) Q (F0 m pc' ls1 (st'.map (pd_tr b base)))) : W p l e R s m args below meth c H locs (h.1.1 - h0.1.1) (h.1.2.1 - h0.1.2.1) Q (F0 m pc ls (st.map (pd_tr b base))) := by
  obtain ⟨hx, hb, hr, hml, hown, hts, hSx, hlocks, hname, htab, hfr, hlo, hnt⟩ := X
  simp only [pd_stp] at hs
  split at hs
  · rename_i y x r
    simp only [pd_bin, Option.map_some, Option.some.injEq, Prod.mk.injEq] at hs
    skip
    obtain ⟨rfl, rfl, rfl, rfl⟩ := hs
    exact lv_imul hx hb d (kk _ _ _ C hS hl hn)
  · simp only [pd_binL, Option.map_none] at hs
    exact absurd hs (by simp)
  · exact absurd hs (by simp)
theorem so_iand (X : pd_Cx l p s m args meth c R mi) (hbb : b < base) (hsz : base ≤ s.heap.size) (C : pd_Co b base L xs dC dI cy h s H) (hS : va_S (pd_A base) s.heap H locs) (hl : lv_has ls (pd_n mi) (pd_lvA b base lv)) (hn : lv.length = pd_n mi) (d : decode (pd_c mi) pc = .ok (.iand, 1)) (hs : pd_stp (pc + 1) .iand lv st h = some (pc', lv', st', h1)) (kk : ∀ (H1 : Heap) (locs1 : List Loc) (ls1 : Array Slot), pd_Co b base L xs dC dI cy h1 s H1 → va_S (pd_A base) s.heap H1 locs1 → lv_has ls1 (pd_n mi) (pd_lvA b base lv') → lv'.length = pd_n mi → W p l e R s m args below meth c H1 locs1 (h1.1.1 - h0.1.1) (h1.1.2.1 - h0.1.2.1) Q (F0 m pc' ls1 (st'.map (pd_tr b base)))) : W p l e R s m args below meth c H locs (h.1.1 - h0.1.1) (h.1.2.1 - h0.1.2.1) Q (F0 m pc ls (st.map (pd_tr b base))) := by
  obtain ⟨hx, hb, hr, hml, hown, hts, hSx, hlocks, hname, htab, hfr, hlo, hnt⟩ := X
  simp only [pd_stp] at hs
  split at hs
  · rename_i y x r
    simp only [pd_bin, Option.map_some, Option.some.injEq, Prod.mk.injEq] at hs
    skip
    obtain ⟨rfl, rfl, rfl, rfl⟩ := hs
    exact lv_iand hx hb d (kk _ _ _ C hS hl hn)
  · simp only [pd_binL, Option.map_none] at hs
    exact absurd hs (by simp)
  · exact absurd hs (by simp)
theorem so_ior (X : pd_Cx l p s m args meth c R mi) (hbb : b < base) (hsz : base ≤ s.heap.size) (C : pd_Co b base L xs dC dI cy h s H) (hS : va_S (pd_A base) s.heap H locs) (hl : lv_has ls (pd_n mi) (pd_lvA b base lv)) (hn : lv.length = pd_n mi) (d : decode (pd_c mi) pc = .ok (.ior, 1)) (hs : pd_stp (pc + 1) .ior lv st h = some (pc', lv', st', h1)) (kk : ∀ (H1 : Heap) (locs1 : List Loc) (ls1 : Array Slot), pd_Co b base L xs dC dI cy h1 s H1 → va_S (pd_A base) s.heap H1 locs1 → lv_has ls1 (pd_n mi) (pd_lvA b base lv') → lv'.length = pd_n mi → W p l e R s m args below meth c H1 locs1 (h1.1.1 - h0.1.1) (h1.1.2.1 - h0.1.2.1) Q (F0 m pc' ls1 (st'.map (pd_tr b base)))) : W p l e R s m args below meth c H locs (h.1.1 - h0.1.1) (h.1.2.1 - h0.1.2.1) Q (F0 m pc ls (st.map (pd_tr b base))) := by
  obtain ⟨hx, hb, hr, hml, hown, hts, hSx, hlocks, hname, htab, hfr, hlo, hnt⟩ := X
  simp only [pd_stp] at hs
  split at hs
  · rename_i y x r
    simp only [pd_bin, Option.map_some, Option.some.injEq, Prod.mk.injEq] at hs
    skip
    obtain ⟨rfl, rfl, rfl, rfl⟩ := hs
    exact lv_ior hx hb d (kk _ _ _ C hS hl hn)
  · simp only [pd_binL, Option.map_none] at hs
    exact absurd hs (by simp)
  · exact absurd hs (by simp)
theorem so_ishl (X : pd_Cx l p s m args meth c R mi) (hbb : b < base) (hsz : base ≤ s.heap.size) (C : pd_Co b base L xs dC dI cy h s H) (hS : va_S (pd_A base) s.heap H locs) (hl : lv_has ls (pd_n mi) (pd_lvA b base lv)) (hn : lv.length = pd_n mi) (d : decode (pd_c mi) pc = .ok (.ishl, 1)) (hs : pd_stp (pc + 1) .ishl lv st h = some (pc', lv', st', h1)) (kk : ∀ (H1 : Heap) (locs1 : List Loc) (ls1 : Array Slot), pd_Co b base L xs dC dI cy h1 s H1 → va_S (pd_A base) s.heap H1 locs1 → lv_has ls1 (pd_n mi) (pd_lvA b base lv') → lv'.length = pd_n mi → W p l e R s m args below meth c H1 locs1 (h1.1.1 - h0.1.1) (h1.1.2.1 - h0.1.2.1) Q (F0 m pc' ls1 (st'.map (pd_tr b base)))) : W p l e R s m args below meth c H locs (h.1.1 - h0.1.1) (h.1.2.1 - h0.1.2.1) Q (F0 m pc ls (st.map (pd_tr b base))) := by
  obtain ⟨hx, hb, hr, hml, hown, hts, hSx, hlocks, hname, htab, hfr, hlo, hnt⟩ := X
  simp only [pd_stp] at hs
  split at hs
  · rename_i y x r
    simp only [pd_bin, Option.map_some, Option.some.injEq, Prod.mk.injEq] at hs
    skip
    obtain ⟨rfl, rfl, rfl, rfl⟩ := hs
    exact lv_ishl hx hb d (kk _ _ _ C hS hl hn)
  · simp only [pd_binL, Option.map_none] at hs
    exact absurd hs (by simp)
  · exact absurd hs (by simp)
theorem so_ishr (X : pd_Cx l p s m args meth c R mi) (hbb : b < base) (hsz : base ≤ s.heap.size) (C : pd_Co b base L xs dC dI cy h s H) (hS : va_S (pd_A base) s.heap H locs) (hl : lv_has ls (pd_n mi) (pd_lvA b base lv)) (hn : lv.length = pd_n mi) (d : decode (pd_c mi) pc = .ok (.ishr, 1)) (hs : pd_stp (pc + 1) .ishr lv st h = some (pc', lv', st', h1)) (kk : ∀ (H1 : Heap) (locs1 : List Loc) (ls1 : Array Slot), pd_Co b base L xs dC dI cy h1 s H1 → va_S (pd_A base) s.heap H1 locs1 → lv_has ls1 (pd_n mi) (pd_lvA b base lv') → lv'.length = pd_n mi → W p l e R s m args below meth c H1 locs1 (h1.1.1 - h0.1.1) (h1.1.2.1 - h0.1.2.1) Q (F0 m pc' ls1 (st'.map (pd_tr b base)))) : W p l e R s m args below meth c H locs (h.1.1 - h0.1.1) (h.1.2.1 - h0.1.2.1) Q (F0 m pc ls (st.map (pd_tr b base))) := by
  obtain ⟨hx, hb, hr, hml, hown, hts, hSx, hlocks, hname, htab, hfr, hlo, hnt⟩ := X
  simp only [pd_stp] at hs
  split at hs
  · rename_i y x r
    simp only [pd_bin, Option.map_some, Option.some.injEq, Prod.mk.injEq] at hs
    skip
    obtain ⟨rfl, rfl, rfl, rfl⟩ := hs
    exact lv_ishr hx hb d (kk _ _ _ C hS hl hn)
  · simp only [pd_binL, Option.map_none] at hs
    exact absurd hs (by simp)
  · exact absurd hs (by simp)
theorem so_idiv (X : pd_Cx l p s m args meth c R mi) (hbb : b < base) (hsz : base ≤ s.heap.size) (C : pd_Co b base L xs dC dI cy h s H) (hS : va_S (pd_A base) s.heap H locs) (hl : lv_has ls (pd_n mi) (pd_lvA b base lv)) (hn : lv.length = pd_n mi) (d : decode (pd_c mi) pc = .ok (.idiv, 1)) (hs : pd_stp (pc + 1) .idiv lv st h = some (pc', lv', st', h1)) (kk : ∀ (H1 : Heap) (locs1 : List Loc) (ls1 : Array Slot), pd_Co b base L xs dC dI cy h1 s H1 → va_S (pd_A base) s.heap H1 locs1 → lv_has ls1 (pd_n mi) (pd_lvA b base lv') → lv'.length = pd_n mi → W p l e R s m args below meth c H1 locs1 (h1.1.1 - h0.1.1) (h1.1.2.1 - h0.1.2.1) Q (F0 m pc' ls1 (st'.map (pd_tr b base)))) : W p l e R s m args below meth c H locs (h.1.1 - h0.1.1) (h.1.2.1 - h0.1.2.1) Q (F0 m pc ls (st.map (pd_tr b base))) := by
  obtain ⟨hx, hb, hr, hml, hown, hts, hSx, hlocks, hname, htab, hfr, hlo, hnt⟩ := X
  simp only [pd_stp] at hs
  split at hs
  · rename_i y x r
    simp only [pd_bin] at hs
    split at hs
    · exact absurd hs (by simp)
    · rename_i hy
      simp only [Option.map_some, Option.some.injEq, Prod.mk.injEq] at hs
      obtain ⟨rfl, rfl, rfl, rfl⟩ := hs
      exact lv_idiv hx hb d hy (kk _ _ _ C hS hl hn)
  · simp only [pd_binL, Option.map_none] at hs
    exact absurd hs (by simp)
  · exact absurd hs (by simp)
theorem so_irem (X : pd_Cx l p s m args meth c R mi) (hbb : b < base) (hsz : base ≤ s.heap.size) (C : pd_Co b base L xs dC dI cy h s H) (hS : va_S (pd_A base) s.heap H locs) (hl : lv_has ls (pd_n mi) (pd_lvA b base lv)) (hn : lv.length = pd_n mi) (d : decode (pd_c mi) pc = .ok (.irem, 1)) (hs : pd_stp (pc + 1) .irem lv st h = some (pc', lv', st', h1)) (kk : ∀ (H1 : Heap) (locs1 : List Loc) (ls1 : Array Slot), pd_Co b base L xs dC dI cy h1 s H1 → va_S (pd_A base) s.heap H1 locs1 → lv_has ls1 (pd_n mi) (pd_lvA b base lv') → lv'.length = pd_n mi → W p l e R s m args below meth c H1 locs1 (h1.1.1 - h0.1.1) (h1.1.2.1 - h0.1.2.1) Q (F0 m pc' ls1 (st'.map (pd_tr b base)))) : W p l e R s m args below meth c H locs (h.1.1 - h0.1.1) (h.1.2.1 - h0.1.2.1) Q (F0 m pc ls (st.map (pd_tr b base))) := by
  obtain ⟨hx, hb, hr, hml, hown, hts, hSx, hlocks, hname, htab, hfr, hlo, hnt⟩ := X
  simp only [pd_stp] at hs
  split at hs
  · rename_i y x r
    simp only [pd_bin] at hs
    split at hs
    · exact absurd hs (by simp)
    · rename_i hy
      simp only [Option.map_some, Option.some.injEq, Prod.mk.injEq] at hs
      obtain ⟨rfl, rfl, rfl, rfl⟩ := hs
      exact lv_irem hx hb d hy (kk _ _ _ C hS hl hn)
  · simp only [pd_binL, Option.map_none] at hs
    exact absurd hs (by simp)
  · exact absurd hs (by simp)
theorem so_ladd (X : pd_Cx l p s m args meth c R mi) (hbb : b < base) (hsz : base ≤ s.heap.size) (C : pd_Co b base L xs dC dI cy h s H) (hS : va_S (pd_A base) s.heap H locs) (hl : lv_has ls (pd_n mi) (pd_lvA b base lv)) (hn : lv.length = pd_n mi) (d : decode (pd_c mi) pc = .ok (.ladd, 1)) (hs : pd_stp (pc + 1) .ladd lv st h = some (pc', lv', st', h1)) (kk : ∀ (H1 : Heap) (locs1 : List Loc) (ls1 : Array Slot), pd_Co b base L xs dC dI cy h1 s H1 → va_S (pd_A base) s.heap H1 locs1 → lv_has ls1 (pd_n mi) (pd_lvA b base lv') → lv'.length = pd_n mi → W p l e R s m args below meth c H1 locs1 (h1.1.1 - h0.1.1) (h1.1.2.1 - h0.1.2.1) Q (F0 m pc' ls1 (st'.map (pd_tr b base)))) : W p l e R s m args below meth c H locs (h.1.1 - h0.1.1) (h.1.2.1 - h0.1.2.1) Q (F0 m pc ls (st.map (pd_tr b base))) := by
  obtain ⟨hx, hb, hr, hml, hown, hts, hSx, hlocks, hname, htab, hfr, hlo, hnt⟩ := X
  simp only [pd_stp] at hs
  split at hs
  · simp only [pd_bin, Option.map_none] at hs
    exact absurd hs (by simp)
  · rename_i y x r
    simp only [pd_binL, Option.map_some, Option.some.injEq, Prod.mk.injEq] at hs
    skip
    obtain ⟨rfl, rfl, rfl, rfl⟩ := hs
    exact lv_ladd hx hb d (kk _ _ _ C hS hl hn)
  · exact absurd hs (by simp)
theorem so_lsub (X : pd_Cx l p s m args meth c R mi) (hbb : b < base) (hsz : base ≤ s.heap.size) (C : pd_Co b base L xs dC dI cy h s H) (hS : va_S (pd_A base) s.heap H locs) (hl : lv_has ls (pd_n mi) (pd_lvA b base lv)) (hn : lv.length = pd_n mi) (d : decode (pd_c mi) pc = .ok (.lsub, 1)) (hs : pd_stp (pc + 1) .lsub lv st h = some (pc', lv', st', h1)) (kk : ∀ (H1 : Heap) (locs1 : List Loc) (ls1 : Array Slot), pd_Co b base L xs dC dI cy h1 s H1 → va_S (pd_A base) s.heap H1 locs1 → lv_has ls1 (pd_n mi) (pd_lvA b base lv') → lv'.length = pd_n mi → W p l e R s m args below meth c H1 locs1 (h1.1.1 - h0.1.1) (h1.1.2.1 - h0.1.2.1) Q (F0 m pc' ls1 (st'.map (pd_tr b base)))) : W p l e R s m args below meth c H locs (h.1.1 - h0.1.1) (h.1.2.1 - h0.1.2.1) Q (F0 m pc ls (st.map (pd_tr b base))) := by
  obtain ⟨hx, hb, hr, hml, hown, hts, hSx, hlocks, hname, htab, hfr, hlo, hnt⟩ := X
  simp only [pd_stp] at hs
  split at hs
  · simp only [pd_bin, Option.map_none] at hs
    exact absurd hs (by simp)
  · rename_i y x r
    simp only [pd_binL, Option.map_some, Option.some.injEq, Prod.mk.injEq] at hs
    skip
    obtain ⟨rfl, rfl, rfl, rfl⟩ := hs
    exact lv_lsub hx hb d (kk _ _ _ C hS hl hn)
  · exact absurd hs (by simp)
theorem so_lmul (X : pd_Cx l p s m args meth c R mi) (hbb : b < base) (hsz : base ≤ s.heap.size) (C : pd_Co b base L xs dC dI cy h s H) (hS : va_S (pd_A base) s.heap H locs) (hl : lv_has ls (pd_n mi) (pd_lvA b base lv)) (hn : lv.length = pd_n mi) (d : decode (pd_c mi) pc = .ok (.lmul, 1)) (hs : pd_stp (pc + 1) .lmul lv st h = some (pc', lv', st', h1)) (kk : ∀ (H1 : Heap) (locs1 : List Loc) (ls1 : Array Slot), pd_Co b base L xs dC dI cy h1 s H1 → va_S (pd_A base) s.heap H1 locs1 → lv_has ls1 (pd_n mi) (pd_lvA b base lv') → lv'.length = pd_n mi → W p l e R s m args below meth c H1 locs1 (h1.1.1 - h0.1.1) (h1.1.2.1 - h0.1.2.1) Q (F0 m pc' ls1 (st'.map (pd_tr b base)))) : W p l e R s m args below meth c H locs (h.1.1 - h0.1.1) (h.1.2.1 - h0.1.2.1) Q (F0 m pc ls (st.map (pd_tr b base))) := by
  obtain ⟨hx, hb, hr, hml, hown, hts, hSx, hlocks, hname, htab, hfr, hlo, hnt⟩ := X
  simp only [pd_stp] at hs
  split at hs
  · simp only [pd_bin, Option.map_none] at hs
    exact absurd hs (by simp)
  · rename_i y x r
    simp only [pd_binL, Option.map_some, Option.some.injEq, Prod.mk.injEq] at hs
    skip
    obtain ⟨rfl, rfl, rfl, rfl⟩ := hs
    exact lv_lmul hx hb d (kk _ _ _ C hS hl hn)
  · exact absurd hs (by simp)
theorem so_land (X : pd_Cx l p s m args meth c R mi) (hbb : b < base) (hsz : base ≤ s.heap.size) (C : pd_Co b base L xs dC dI cy h s H) (hS : va_S (pd_A base) s.heap H locs) (hl : lv_has ls (pd_n mi) (pd_lvA b base lv)) (hn : lv.length = pd_n mi) (d : decode (pd_c mi) pc = .ok (.land, 1)) (hs : pd_stp (pc + 1) .land lv st h = some (pc', lv', st', h1)) (kk : ∀ (H1 : Heap) (locs1 : List Loc) (ls1 : Array Slot), pd_Co b base L xs dC dI cy h1 s H1 → va_S (pd_A base) s.heap H1 locs1 → lv_has ls1 (pd_n mi) (pd_lvA b base lv') → lv'.length = pd_n mi → W p l e R s m args below meth c H1 locs1 (h1.1.1 - h0.1.1) (h1.1.2.1 - h0.1.2.1) Q (F0 m pc' ls1 (st'.map (pd_tr b base)))) : W p l e R s m args below meth c H locs (h.1.1 - h0.1.1) (h.1.2.1 - h0.1.2.1) Q (F0 m pc ls (st.map (pd_tr b base))) := by
  obtain ⟨hx, hb, hr, hml, hown, hts, hSx, hlocks, hname, htab, hfr, hlo, hnt⟩ := X
  simp only [pd_stp] at hs
  split at hs
  · simp only [pd_bin, Option.map_none] at hs
    exact absurd hs (by simp)
  · rename_i y x r
    simp only [pd_binL, Option.map_some, Option.some.injEq, Prod.mk.injEq] at hs
    skip
    obtain ⟨rfl, rfl, rfl, rfl⟩ := hs
    exact lv_land hx hb d (kk _ _ _ C hS hl hn)
  · exact absurd hs (by simp)
theorem so_lor (X : pd_Cx l p s m args meth c R mi) (hbb : b < base) (hsz : base ≤ s.heap.size) (C : pd_Co b base L xs dC dI cy h s H) (hS : va_S (pd_A base) s.heap H locs) (hl : lv_has ls (pd_n mi) (pd_lvA b base lv)) (hn : lv.length = pd_n mi) (d : decode (pd_c mi) pc = .ok (.lor, 1)) (hs : pd_stp (pc + 1) .lor lv st h = some (pc', lv', st', h1)) (kk : ∀ (H1 : Heap) (locs1 : List Loc) (ls1 : Array Slot), pd_Co b base L xs dC dI cy h1 s H1 → va_S (pd_A base) s.heap H1 locs1 → lv_has ls1 (pd_n mi) (pd_lvA b base lv') → lv'.length = pd_n mi → W p l e R s m args below meth c H1 locs1 (h1.1.1 - h0.1.1) (h1.1.2.1 - h0.1.2.1) Q (F0 m pc' ls1 (st'.map (pd_tr b base)))) : W p l e R s m args below meth c H locs (h.1.1 - h0.1.1) (h.1.2.1 - h0.1.2.1) Q (F0 m pc ls (st.map (pd_tr b base))) := by
  obtain ⟨hx, hb, hr, hml, hown, hts, hSx, hlocks, hname, htab, hfr, hlo, hnt⟩ := X
  simp only [pd_stp] at hs
  split at hs
  · simp only [pd_bin, Option.map_none] at hs
    exact absurd hs (by simp)
  · rename_i y x r
    simp only [pd_binL, Option.map_some, Option.some.injEq, Prod.mk.injEq] at hs
    skip
    obtain ⟨rfl, rfl, rfl, rfl⟩ := hs
    exact lv_lor hx hb d (kk _ _ _ C hS hl hn)
  · exact absurd hs (by simp)
theorem so_ldiv (X : pd_Cx l p s m args meth c R mi) (hbb : b < base) (hsz : base ≤ s.heap.size) (C : pd_Co b base L xs dC dI cy h s H) (hS : va_S (pd_A base) s.heap H locs) (hl : lv_has ls (pd_n mi) (pd_lvA b base lv)) (hn : lv.length = pd_n mi) (d : decode (pd_c mi) pc = .ok (.ldiv, 1)) (hs : pd_stp (pc + 1) .ldiv lv st h = some (pc', lv', st', h1)) (kk : ∀ (H1 : Heap) (locs1 : List Loc) (ls1 : Array Slot), pd_Co b base L xs dC dI cy h1 s H1 → va_S (pd_A base) s.heap H1 locs1 → lv_has ls1 (pd_n mi) (pd_lvA b base lv') → lv'.length = pd_n mi → W p l e R s m args below meth c H1 locs1 (h1.1.1 - h0.1.1) (h1.1.2.1 - h0.1.2.1) Q (F0 m pc' ls1 (st'.map (pd_tr b base)))) : W p l e R s m args below meth c H locs (h.1.1 - h0.1.1) (h.1.2.1 - h0.1.2.1) Q (F0 m pc ls (st.map (pd_tr b base))) := by
  obtain ⟨hx, hb, hr, hml, hown, hts, hSx, hlocks, hname, htab, hfr, hlo, hnt⟩ := X
  simp only [pd_stp] at hs
  split at hs
  · simp only [pd_bin, Option.map_none] at hs
    exact absurd hs (by simp)
  · rename_i y x r
    simp only [pd_binL] at hs
    split at hs
    · exact absurd hs (by simp)
    · rename_i hy
      simp only [Option.map_some, Option.some.injEq, Prod.mk.injEq] at hs
      obtain ⟨rfl, rfl, rfl, rfl⟩ := hs
      exact lv_ldiv hx hb d hy (kk _ _ _ C hS hl hn)
  · exact absurd hs (by simp)
theorem so_lrem (X : pd_Cx l p s m args meth c R mi) (hbb : b < base) (hsz : base ≤ s.heap.size) (C : pd_Co b base L xs dC dI cy h s H) (hS : va_S (pd_A base) s.heap H locs) (hl : lv_has ls (pd_n mi) (pd_lvA b base lv)) (hn : lv.length = pd_n mi) (d : decode (pd_c mi) pc = .ok (.lrem, 1)) (hs : pd_stp (pc + 1) .lrem lv st h = some (pc', lv', st', h1)) (kk : ∀ (H1 : Heap) (locs1 : List Loc) (ls1 : Array Slot), pd_Co b base L xs dC dI cy h1 s H1 → va_S (pd_A base) s.heap H1 locs1 → lv_has ls1 (pd_n mi) (pd_lvA b base lv') → lv'.length = pd_n mi → W p l e R s m args below meth c H1 locs1 (h1.1.1 - h0.1.1) (h1.1.2.1 - h0.1.2.1) Q (F0 m pc' ls1 (st'.map (pd_tr b base)))) : W p l e R s m args below meth c H locs (h.1.1 - h0.1.1) (h.1.2.1 - h0.1.2.1) Q (F0 m pc ls (st.map (pd_tr b base))) := by
  obtain ⟨hx, hb, hr, hml, hown, hts, hSx, hlocks, hname, htab, hfr, hlo, hnt⟩ := X
  simp only [pd_stp] at hs
  split at hs
  · simp only [pd_bin, Option.map_none] at hs
    exact absurd hs (by simp)
  · rename_i y x r
    simp only [pd_binL] at hs
    split at hs
    · exact absurd hs (by simp)
    · rename_i hy
      simp only [Option.map_some, Option.some.injEq, Prod.mk.injEq] at hs
      obtain ⟨rfl, rfl, rfl, rfl⟩ := hs
      exact lv_lrem hx hb d hy (kk _ _ _ C hS hl hn)
  · exact absurd hs (by simp)
theorem so_ineg (X : pd_Cx l p s m args meth c R mi) (hbb : b < base) (hsz : base ≤ s.heap.size) (C : pd_Co b base L xs dC dI cy h s H) (hS : va_S (pd_A base) s.heap H locs) (hl : lv_has ls (pd_n mi) (pd_lvA b base lv)) (hn : lv.length = pd_n mi) (d : decode (pd_c mi) pc = .ok (.ineg, 1)) (hs : pd_stp (pc + 1) .ineg lv st h = some (pc', lv', st', h1)) (kk : ∀ (H1 : Heap) (locs1 : List Loc) (ls1 : Array Slot), pd_Co b base L xs dC dI cy h1 s H1 → va_S (pd_A base) s.heap H1 locs1 → lv_has ls1 (pd_n mi) (pd_lvA b base lv') → lv'.length = pd_n mi → W p l e R s m args below meth c H1 locs1 (h1.1.1 - h0.1.1) (h1.1.2.1 - h0.1.2.1) Q (F0 m pc' ls1 (st'.map (pd_tr b base)))) : W p l e R s m args below meth c H locs (h.1.1 - h0.1.1) (h.1.2.1 - h0.1.2.1) Q (F0 m pc ls (st.map (pd_tr b base))) := by
  obtain ⟨hx, hb, hr, hml, hown, hts, hSx, hlocks, hname, htab, hfr, hlo, hnt⟩ := X
  simp only [pd_stp] at hs
  split at hs
  · rename_i x r
    simp only [Option.some.injEq, Prod.mk.injEq] at hs
    obtain ⟨rfl, rfl, rfl, rfl⟩ := hs
    exact lv_ineg hx hb d (kk _ _ _ C hS hl hn)
  · exact absurd hs (by simp)
theorem so_lneg (X : pd_Cx l p s m args meth c R mi) (hbb : b < base) (hsz : base ≤ s.heap.size) (C : pd_Co b base L xs dC dI cy h s H) (hS : va_S (pd_A base) s.heap H locs) (hl : lv_has ls (pd_n mi) (pd_lvA b base lv)) (hn : lv.length = pd_n mi) (d : decode (pd_c mi) pc = .ok (.lneg, 1)) (hs : pd_stp (pc + 1) .lneg lv st h = some (pc', lv', st', h1)) (kk : ∀ (H1 : Heap) (locs1 : List Loc) (ls1 : Array Slot), pd_Co b base L xs dC dI cy h1 s H1 → va_S (pd_A base) s.heap H1 locs1 → lv_has ls1 (pd_n mi) (pd_lvA b base lv') → lv'.length = pd_n mi → W p l e R s m args below meth c H1 locs1 (h1.1.1 - h0.1.1) (h1.1.2.1 - h0.1.2.1) Q (F0 m pc' ls1 (st'.map (pd_tr b base)))) : W p l e R s m args below meth c H locs (h.1.1 - h0.1.1) (h.1.2.1 - h0.1.2.1) Q (F0 m pc ls (st.map (pd_tr b base))) := by
  obtain ⟨hx, hb, hr, hml, hown, hts, hSx, hlocks, hname, htab, hfr, hlo, hnt⟩ := X
  simp only [pd_stp] at hs
  split at hs
  · rename_i x r
    simp only [Option.some.injEq, Prod.mk.injEq] at hs
    obtain ⟨rfl, rfl, rfl, rfl⟩ := hs
    exact lv_lneg hx hb d (kk _ _ _ C hS hl hn)
  · exact absurd hs (by simp)
theorem so_i2l (X : pd_Cx l p s m args meth c R mi) (hbb : b < base) (hsz : base ≤ s.heap.size) (C : pd_Co b base L xs dC dI cy h s H) (hS : va_S (pd_A base) s.heap H locs) (hl : lv_has ls (pd_n mi) (pd_lvA b base lv)) (hn : lv.length = pd_n mi) (d : decode (pd_c mi) pc = .ok (.i2l, 1)) (hs : pd_stp (pc + 1) .i2l lv st h = some (pc', lv', st', h1)) (kk : ∀ (H1 : Heap) (locs1 : List Loc) (ls1 : Array Slot), pd_Co b base L xs dC dI cy h1 s H1 → va_S (pd_A base) s.heap H1 locs1 → lv_has ls1 (pd_n mi) (pd_lvA b base lv') → lv'.length = pd_n mi → W p l e R s m args below meth c H1 locs1 (h1.1.1 - h0.1.1) (h1.1.2.1 - h0.1.2.1) Q (F0 m pc' ls1 (st'.map (pd_tr b base)))) : W p l e R s m args below meth c H locs (h.1.1 - h0.1.1) (h.1.2.1 - h0.1.2.1) Q (F0 m pc ls (st.map (pd_tr b base))) := by
  obtain ⟨hx, hb, hr, hml, hown, hts, hSx, hlocks, hname, htab, hfr, hlo, hnt⟩ := X
  simp only [pd_stp] at hs
  split at hs
  · rename_i x r
    simp only [Option.some.injEq, Prod.mk.injEq] at hs
    obtain ⟨rfl, rfl, rfl, rfl⟩ := hs
    exact lv_i2l hx hb d rfl (kk _ _ _ C hS hl hn)
  · exact absurd hs (by simp)
theorem so_l2i (X : pd_Cx l p s m args meth c R mi) (hbb : b < base) (hsz : base ≤ s.heap.size) (C : pd_Co b base L xs dC dI cy h s H) (hS : va_S (pd_A base) s.heap H locs) (hl : lv_has ls (pd_n mi) (pd_lvA b base lv)) (hn : lv.length = pd_n mi) (d : decode (pd_c mi) pc = .ok (.l2i, 1)) (hs : pd_stp (pc + 1) .l2i lv st h = some (pc', lv', st', h1)) (kk : ∀ (H1 : Heap) (locs1 : List Loc) (ls1 : Array Slot), pd_Co b base L xs dC dI cy h1 s H1 → va_S (pd_A base) s.heap H1 locs1 → lv_has ls1 (pd_n mi) (pd_lvA b base lv') → lv'.length = pd_n mi → W p l e R s m args below meth c H1 locs1 (h1.1.1 - h0.1.1) (h1.1.2.1 - h0.1.2.1) Q (F0 m pc' ls1 (st'.map (pd_tr b base)))) : W p l e R s m args below meth c H locs (h.1.1 - h0.1.1) (h.1.2.1 - h0.1.2.1) Q (F0 m pc ls (st.map (pd_tr b base))) := by
  obtain ⟨hx, hb, hr, hml, hown, hts, hSx, hlocks, hname, htab, hfr, hlo, hnt⟩ := X
  simp only [pd_stp] at hs
  split at hs
  · rename_i x r
    simp only [Option.some.injEq, Prod.mk.injEq] at hs
    obtain ⟨rfl, rfl, rfl, rfl⟩ := hs
    exact lv_l2i hx hb d rfl (kk _ _ _ C hS hl hn)
  · exact absurd hs (by simp)
theorem so_lcmp (X : pd_Cx l p s m args meth c R mi) (hbb : b < base) (hsz : base ≤ s.heap.size) (C : pd_Co b base L xs dC dI cy h s H) (hS : va_S (pd_A base) s.heap H locs) (hl : lv_has ls (pd_n mi) (pd_lvA b base lv)) (hn : lv.length = pd_n mi) (d : decode (pd_c mi) pc = .ok (.lcmp, 1)) (hs : pd_stp (pc + 1) .lcmp lv st h = some (pc', lv', st', h1)) (kk : ∀ (H1 : Heap) (locs1 : List Loc) (ls1 : Array Slot), pd_Co b base L xs dC dI cy h1 s H1 → va_S (pd_A base) s.heap H1 locs1 → lv_has ls1 (pd_n mi) (pd_lvA b base lv') → lv'.length = pd_n mi → W p l e R s m args below meth c H1 locs1 (h1.1.1 - h0.1.1) (h1.1.2.1 - h0.1.2.1) Q (F0 m pc' ls1 (st'.map (pd_tr b base)))) : W p l e R s m args below meth c H locs (h.1.1 - h0.1.1) (h.1.2.1 - h0.1.2.1) Q (F0 m pc ls (st.map (pd_tr b base))) := by
  obtain ⟨hx, hb, hr, hml, hown, hts, hSx, hlocks, hname, htab, hfr, hlo, hnt⟩ := X
  simp only [pd_stp] at hs
  split at hs
  · rename_i y x r
    simp only [Option.some.injEq, Prod.mk.injEq] at hs
    obtain ⟨rfl, rfl, rfl, rfl⟩ := hs
    exact W.lcmp hx hb d (kk _ _ _ C hS hl hn)
  · exact absurd hs (by simp)
theorem so_lshl (X : pd_Cx l p s m args meth c R mi) (hbb : b < base) (hsz : base ≤ s.heap.size) (C : pd_Co b base L xs dC dI cy h s H) (hS : va_S (pd_A base) s.heap H locs) (hl : lv_has ls (pd_n mi) (pd_lvA b base lv)) (hn : lv.length = pd_n mi) (d : decode (pd_c mi) pc = .ok (.lshl, 1)) (hs : pd_stp (pc + 1) .lshl lv st h = some (pc', lv', st', h1)) (kk : ∀ (H1 : Heap) (locs1 : List Loc) (ls1 : Array Slot), pd_Co b base L xs dC dI cy h1 s H1 → va_S (pd_A base) s.heap H1 locs1 → lv_has ls1 (pd_n mi) (pd_lvA b base lv') → lv'.length = pd_n mi → W p l e R s m args below meth c H1 locs1 (h1.1.1 - h0.1.1) (h1.1.2.1 - h0.1.2.1) Q (F0 m pc' ls1 (st'.map (pd_tr b base)))) : W p l e R s m args below meth c H locs (h.1.1 - h0.1.1) (h.1.2.1 - h0.1.2.1) Q (F0 m pc ls (st.map (pd_tr b base))) := by
  obtain ⟨hx, hb, hr, hml, hown, hts, hSx, hlocks, hname, htab, hfr, hlo, hnt⟩ := X
  simp only [pd_stp, pd_shL, Option.map_some] at hs
  split at hs
  · rename_i y x r
    simp only [Option.some.injEq, Prod.mk.injEq] at hs
    obtain ⟨rfl, rfl, rfl, rfl⟩ := hs
    exact lv_lshl hx hb d rfl (kk _ _ _ C hS hl hn)
  · exact absurd hs (by simp)
theorem so_lushr (X : pd_Cx l p s m args meth c R mi) (hbb : b < base) (hsz : base ≤ s.heap.size) (C : pd_Co b base L xs dC dI cy h s H) (hS : va_S (pd_A base) s.heap H locs) (hl : lv_has ls (pd_n mi) (pd_lvA b base lv)) (hn : lv.length = pd_n mi) (d : decode (pd_c mi) pc = .ok (.lushr, 1)) (hs : pd_stp (pc + 1) .lushr lv st h = some (pc', lv', st', h1)) (kk : ∀ (H1 : Heap) (locs1 : List Loc) (ls1 : Array Slot), pd_Co b base L xs dC dI cy h1 s H1 → va_S (pd_A base) s.heap H1 locs1 → lv_has ls1 (pd_n mi) (pd_lvA b base lv') → lv'.length = pd_n mi → W p l e R s m args below meth c H1 locs1 (h1.1.1 - h0.1.1) (h1.1.2.1 - h0.1.2.1) Q (F0 m pc' ls1 (st'.map (pd_tr b base)))) : W p l e R s m args below meth c H locs (h.1.1 - h0.1.1) (h.1.2.1 - h0.1.2.1) Q (F0 m pc ls (st.map (pd_tr b base))) := by
  obtain ⟨hx, hb, hr, hml, hown, hts, hSx, hlocks, hname, htab, hfr, hlo, hnt⟩ := X
  simp only [pd_stp, pd_shL, Option.map_some] at hs
  split at hs
  · rename_i y x r
    simp only [Option.some.injEq, Prod.mk.injEq] at hs
    obtain ⟨rfl, rfl, rfl, rfl⟩ := hs
    exact lv_lushr hx hb d rfl (kk _ _ _ C hS hl hn)
  · exact absurd hs (by simp)
theorem so_dup (X : pd_Cx l p s m args meth c R mi) (hbb : b < base) (hsz : base ≤ s.heap.size) (C : pd_Co b base L xs dC dI cy h s H) (hS : va_S (pd_A base) s.heap H locs) (hl : lv_has ls (pd_n mi) (pd_lvA b base lv)) (hn : lv.length = pd_n mi) (d : decode (pd_c mi) pc = .ok (.dup, 1)) (hs : pd_stp (pc + 1) .dup lv st h = some (pc', lv', st', h1)) (kk : ∀ (H1 : Heap) (locs1 : List Loc) (ls1 : Array Slot), pd_Co b base L xs dC dI cy h1 s H1 → va_S (pd_A base) s.heap H1 locs1 → lv_has ls1 (pd_n mi) (pd_lvA b base lv') → lv'.length = pd_n mi → W p l e R s m args below meth c H1 locs1 (h1.1.1 - h0.1.1) (h1.1.2.1 - h0.1.2.1) Q (F0 m pc' ls1 (st'.map (pd_tr b base)))) : W p l e R s m args below meth c H locs (h.1.1 - h0.1.1) (h.1.2.1 - h0.1.2.1) Q (F0 m pc ls (st.map (pd_tr b base))) := by
  obtain ⟨hx, hb, hr, hml, hown, hts, hSx, hlocks, hname, htab, hfr, hlo, hnt⟩ := X
  simp only [pd_stp] at hs
  split at hs
  · rename_i v r
    split at hs
    · rename_i hc
      simp only [Option.some.injEq, Prod.mk.injEq] at hs
      obtain ⟨rfl, rfl, rfl, rfl⟩ := hs
      exact lv_dup hx hb d (by rw [pd_tr_cat]; exact hc) (kk _ _ _ C hS hl hn)
    · exact absurd hs (by simp)
  · exact absurd hs (by simp)
theorem so_pop (X : pd_Cx l p s m args meth c R mi) (hbb : b < base) (hsz : base ≤ s.heap.size) (C : pd_Co b base L xs dC dI cy h s H) (hS : va_S (pd_A base) s.heap H locs) (hl : lv_has ls (pd_n mi) (pd_lvA b base lv)) (hn : lv.length = pd_n mi) (d : decode (pd_c mi) pc = .ok (.pop, 1)) (hs : pd_stp (pc + 1) .pop lv st h = some (pc', lv', st', h1)) (kk : ∀ (H1 : Heap) (locs1 : List Loc) (ls1 : Array Slot), pd_Co b base L xs dC dI cy h1 s H1 → va_S (pd_A base) s.heap H1 locs1 → lv_has ls1 (pd_n mi) (pd_lvA b base lv') → lv'.length = pd_n mi → W p l e R s m args below meth c H1 locs1 (h1.1.1 - h0.1.1) (h1.1.2.1 - h0.1.2.1) Q (F0 m pc' ls1 (st'.map (pd_tr b base)))) : W p l e R s m args below meth c H locs (h.1.1 - h0.1.1) (h.1.2.1 - h0.1.2.1) Q (F0 m pc ls (st.map (pd_tr b base))) := by
  obtain ⟨hx, hb, hr, hml, hown, hts, hSx, hlocks, hname, htab, hfr, hlo, hnt⟩ := X
  simp only [pd_stp] at hs
  split at hs
  · rename_i v r
    split at hs
    · rename_i hc
      simp only [Option.some.injEq, Prod.mk.injEq] at hs
      obtain ⟨rfl, rfl, rfl, rfl⟩ := hs
      exact lv_pop hx hb d (by rw [pd_tr_cat]; exact hc) (kk _ _ _ C hS hl hn)
    · exact absurd hs (by simp)
  · exact absurd hs (by simp)
theorem so_dup2 (X : pd_Cx l p s m args meth c R mi) (hbb : b < base) (hsz : base ≤ s.heap.size) (C : pd_Co b base L xs dC dI cy h s H) (hS : va_S (pd_A base) s.heap H locs) (hl : lv_has ls (pd_n mi) (pd_lvA b base lv)) (hn : lv.length = pd_n mi) (d : decode (pd_c mi) pc = .ok (.dup2, 1)) (hs : pd_stp (pc + 1) .dup2 lv st h = some (pc', lv', st', h1)) (kk : ∀ (H1 : Heap) (locs1 : List Loc) (ls1 : Array Slot), pd_Co b base L xs dC dI cy h1 s H1 → va_S (pd_A base) s.heap H1 locs1 → lv_has ls1 (pd_n mi) (pd_lvA b base lv') → lv'.length = pd_n mi → W p l e R s m args below meth c H1 locs1 (h1.1.1 - h0.1.1) (h1.1.2.1 - h0.1.2.1) Q (F0 m pc' ls1 (st'.map (pd_tr b base)))) : W p l e R s m args below meth c H locs (h.1.1 - h0.1.1) (h.1.2.1 - h0.1.2.1) Q (F0 m pc ls (st.map (pd_tr b base))) := by
  obtain ⟨hx, hb, hr, hml, hown, hts, hSx, hlocks, hname, htab, hfr, hlo, hnt⟩ := X
  simp only [pd_stp] at hs
  split at hs
  · rename_i v u r
    split at hs
    · rename_i hc
      simp only [Option.some.injEq, Prod.mk.injEq] at hs
      obtain ⟨rfl, rfl, rfl, rfl⟩ := hs
      exact lv_dup2_11 hx hb d (by rw [pd_tr_cat]; exact hc.1) (by rw [pd_tr_cat]; exact hc.2) (kk _ _ _ C hS hl hn)
    · exact absurd hs (by simp)
  · exact absurd hs (by simp)
theorem so_goto (X : pd_Cx l p s m args meth c R mi) (hbb : b < base) (hsz : base ≤ s.heap.size) (C : pd_Co b base L xs dC dI cy h s H) (hS : va_S (pd_A base) s.heap H locs) (hl : lv_has ls (pd_n mi) (pd_lvA b base lv)) (hn : lv.length = pd_n mi) {o t : Int} (ht : pd_tgt pc o = some t) (d : decode (pd_c mi) pc = .ok (.goto o, 3)) (hs : pd_stp (pc + 3) (.goto t) lv st h = some (pc', lv', st', h1)) (kk : ∀ (H1 : Heap) (locs1 : List Loc) (ls1 : Array Slot), pd_Co b base L xs dC dI cy h1 s H1 → va_S (pd_A base) s.heap H1 locs1 → lv_has ls1 (pd_n mi) (pd_lvA b base lv') → lv'.length = pd_n mi → W p l e R s m args below meth c H1 locs1 (h1.1.1 - h0.1.1) (h1.1.2.1 - h0.1.2.1) Q (F0 m pc' ls1 (st'.map (pd_tr b base)))) : W p l e R s m args below meth c H locs (h.1.1 - h0.1.1) (h.1.2.1 - h0.1.2.1) Q (F0 m pc ls (st.map (pd_tr b base))) := by
  obtain ⟨hx, hb, hr, hml, hown, hts, hSx, hlocks, hname, htab, hfr, hlo, hnt⟩ := X
  simp only [pd_stp, Option.some.injEq, Prod.mk.injEq] at hs
  obtain ⟨rfl, rfl, rfl, rfl⟩ := hs
  exact lv_goto hx hb d (pd_tgt_inv ht) (kk _ _ _ C hS hl hn)
theorem so_if_eq (X : pd_Cx l p s m args meth c R mi) (hbb : b < base) (hsz : base ≤ s.heap.size) (C : pd_Co b base L xs dC dI cy h s H) (hS : va_S (pd_A base) s.heap H locs) (hl : lv_has ls (pd_n mi) (pd_lvA b base lv)) (hn : lv.length = pd_n mi) {o t : Int} (ht : pd_tgt pc o = some t) (d : decode (pd_c mi) pc = .ok (.ifCond .eq o, 3)) (hs : pd_stp (pc + 3) (.ifCond .eq t) lv st h = some (pc', lv', st', h1)) (kk : ∀ (H1 : Heap) (locs1 : List Loc) (ls1 : Array Slot), pd_Co b base L xs dC dI cy h1 s H1 → va_S (pd_A base) s.heap H1 locs1 → lv_has ls1 (pd_n mi) (pd_lvA b base lv') → lv'.length = pd_n mi → W p l e R s m args below meth c H1 locs1 (h1.1.1 - h0.1.1) (h1.1.2.1 - h0.1.2.1) Q (F0 m pc' ls1 (st'.map (pd_tr b base)))) : W p l e R s m args below meth c H locs (h.1.1 - h0.1.1) (h.1.2.1 - h0.1.2.1) Q (F0 m pc ls (st.map (pd_tr b base))) := by
  obtain ⟨hx, hb, hr, hml, hown, hts, hSx, hlocks, hname, htab, hfr, hlo, hnt⟩ := X
  simp only [pd_stp] at hs
  split at hs
  · rename_i x r
    simp only [Option.some.injEq, Prod.mk.injEq] at hs
    obtain ⟨rfl, rfl, rfl, rfl⟩ := hs
    refine lv_if_eq hx hb d (pd_tgt_inv ht) (fun hc => ?_) (fun hc => ?_)
    · have kk := kk _ _ _ C hS hl hn
      rw [show pd_cnd .eq x 0 = true from decide_eq_true hc] at kk
      exact kk
    · have kk := kk _ _ _ C hS hl hn
      rw [show pd_cnd .eq x 0 = false from decide_eq_false hc] at kk
      exact kk
  · exact absurd hs (by simp)
theorem so_icmp_eq (X : pd_Cx l p s m args meth c R mi) (hbb : b < base) (hsz : base ≤ s.heap.size) (C : pd_Co b base L xs dC dI cy h s H) (hS : va_S (pd_A base) s.heap H locs) (hl : lv_has ls (pd_n mi) (pd_lvA b base lv)) (hn : lv.length = pd_n mi) {o t : Int} (ht : pd_tgt pc o = some t) (d : decode (pd_c mi) pc = .ok (.if_icmp .eq o, 3)) (hs : pd_stp (pc + 3) (.if_icmp .eq t) lv st h = some (pc', lv', st', h1)) (kk : ∀ (H1 : Heap) (locs1 : List Loc) (ls1 : Array Slot), pd_Co b base L xs dC dI cy h1 s H1 → va_S (pd_A base) s.heap H1 locs1 → lv_has ls1 (pd_n mi) (pd_lvA b base lv') → lv'.length = pd_n mi → W p l e R s m args below meth c H1 locs1 (h1.1.1 - h0.1.1) (h1.1.2.1 - h0.1.2.1) Q (F0 m pc' ls1 (st'.map (pd_tr b base)))) : W p l e R s m args below meth c H locs (h.1.1 - h0.1.1) (h.1.2.1 - h0.1.2.1) Q (F0 m pc ls (st.map (pd_tr b base))) := by
  obtain ⟨hx, hb, hr, hml, hown, hts, hSx, hlocks, hname, htab, hfr, hlo, hnt⟩ := X
  simp only [pd_stp] at hs
  split at hs
  · rename_i y x r
    simp only [Option.some.injEq, Prod.mk.injEq] at hs
    obtain ⟨rfl, rfl, rfl, rfl⟩ := hs
    refine lv_icmp_eq hx hb d (pd_tgt_inv ht) (fun hc => ?_) (fun hc => ?_)
    · have kk := kk _ _ _ C hS hl hn
      rw [show pd_cnd .eq x y = true from decide_eq_true hc] at kk
      exact kk
    · have kk := kk _ _ _ C hS hl hn
      rw [show pd_cnd .eq x y = false from decide_eq_false hc] at kk
      exact kk
  · exact absurd hs (by simp)
theorem so_if_ne (X : pd_Cx l p s m args meth c R mi) (hbb : b < base) (hsz : base ≤ s.heap.size) (C : pd_Co b base L xs dC dI cy h s H) (hS : va_S (pd_A base) s.heap H locs) (hl : lv_has ls (pd_n mi) (pd_lvA b base lv)) (hn : lv.length = pd_n mi) {o t : Int} (ht : pd_tgt pc o = some t) (d : decode (pd_c mi) pc = .ok (.ifCond .ne o, 3)) (hs : pd_stp (pc + 3) (.ifCond .ne t) lv st h = some (pc', lv', st', h1)) (kk : ∀ (H1 : Heap) (locs1 : List Loc) (ls1 : Array Slot), pd_Co b base L xs dC dI cy h1 s H1 → va_S (pd_A base) s.heap H1 locs1 → lv_has ls1 (pd_n mi) (pd_lvA b base lv') → lv'.length = pd_n mi → W p l e R s m args below meth c H1 locs1 (h1.1.1 - h0.1.1) (h1.1.2.1 - h0.1.2.1) Q (F0 m pc' ls1 (st'.map (pd_tr b base)))) : W p l e R s m args below meth c H locs (h.1.1 - h0.1.1) (h.1.2.1 - h0.1.2.1) Q (F0 m pc ls (st.map (pd_tr b base))) := by
  obtain ⟨hx, hb, hr, hml, hown, hts, hSx, hlocks, hname, htab, hfr, hlo, hnt⟩ := X
  simp only [pd_stp] at hs
  split at hs
  · rename_i x r
    simp only [Option.some.injEq, Prod.mk.injEq] at hs
    obtain ⟨rfl, rfl, rfl, rfl⟩ := hs
    refine lv_if_ne hx hb d (pd_tgt_inv ht) (fun hc => ?_) (fun hc => ?_)
    · have kk := kk _ _ _ C hS hl hn
      rw [show pd_cnd .ne x 0 = true from decide_eq_true hc] at kk
      exact kk
    · have kk := kk _ _ _ C hS hl hn
      rw [show pd_cnd .ne x 0 = false from decide_eq_false (fun q => q hc)] at kk
      exact kk
  · exact absurd hs (by simp)
theorem so_icmp_ne (X : pd_Cx l p s m args meth c R mi) (hbb : b < base) (hsz : base ≤ s.heap.size) (C : pd_Co b base L xs dC dI cy h s H) (hS : va_S (pd_A base) s.heap H locs) (hl : lv_has ls (pd_n mi) (pd_lvA b base lv)) (hn : lv.length = pd_n mi) {o t : Int} (ht : pd_tgt pc o = some t) (d : decode (pd_c mi) pc = .ok (.if_icmp .ne o, 3)) (hs : pd_stp (pc + 3) (.if_icmp .ne t) lv st h = some (pc', lv', st', h1)) (kk : ∀ (H1 : Heap) (locs1 : List Loc) (ls1 : Array Slot), pd_Co b base L xs dC dI cy h1 s H1 → va_S (pd_A base) s.heap H1 locs1 → lv_has ls1 (pd_n mi) (pd_lvA b base lv') → lv'.length = pd_n mi → W p l e R s m args below meth c H1 locs1 (h1.1.1 - h0.1.1) (h1.1.2.1 - h0.1.2.1) Q (F0 m pc' ls1 (st'.map (pd_tr b base)))) : W p l e R s m args below meth c H locs (h.1.1 - h0.1.1) (h.1.2.1 - h0.1.2.1) Q (F0 m pc ls (st.map (pd_tr b base))) := by
  obtain ⟨hx, hb, hr, hml, hown, hts, hSx, hlocks, hname, htab, hfr, hlo, hnt⟩ := X
  simp only [pd_stp] at hs
  split at hs
  · rename_i y x r
    simp only [Option.some.injEq, Prod.mk.injEq] at hs
    obtain ⟨rfl, rfl, rfl, rfl⟩ := hs
    refine lv_icmp_ne hx hb d (pd_tgt_inv ht) (fun hc => ?_) (fun hc => ?_)
    · have kk := kk _ _ _ C hS hl hn
      rw [show pd_cnd .ne x y = true from decide_eq_true hc] at kk
      exact kk
    · have kk := kk _ _ _ C hS hl hn
      rw [show pd_cnd .ne x y = false from decide_eq_false (fun q => q hc)] at kk
      exact kk
  · exact absurd hs (by simp)
theorem so_if_lt (X : pd_Cx l p s m args meth c R mi) (hbb : b < base) (hsz : base ≤ s.heap.size) (C : pd_Co b base L xs dC dI cy h s H) (hS : va_S (pd_A base) s.heap H locs) (hl : lv_has ls (pd_n mi) (pd_lvA b base lv)) (hn : lv.length = pd_n mi) {o t : Int} (ht : pd_tgt pc o = some t) (d : decode (pd_c mi) pc = .ok (.ifCond .lt o, 3)) (hs : pd_stp (pc + 3) (.ifCond .lt t) lv st h = some (pc', lv', st', h1)) (kk : ∀ (H1 : Heap) (locs1 : List Loc) (ls1 : Array Slot), pd_Co b base L xs dC dI cy h1 s H1 → va_S (pd_A base) s.heap H1 locs1 → lv_has ls1 (pd_n mi) (pd_lvA b base lv') → lv'.length = pd_n mi → W p l e R s m args below meth c H1 locs1 (h1.1.1 - h0.1.1) (h1.1.2.1 - h0.1.2.1) Q (F0 m pc' ls1 (st'.map (pd_tr b base)))) : W p l e R s m args below meth c H locs (h.1.1 - h0.1.1) (h.1.2.1 - h0.1.2.1) Q (F0 m pc ls (st.map (pd_tr b base))) := by
  obtain ⟨hx, hb, hr, hml, hown, hts, hSx, hlocks, hname, htab, hfr, hlo, hnt⟩ := X
  simp only [pd_stp] at hs
  split at hs
  · rename_i x r
    simp only [Option.some.injEq, Prod.mk.injEq] at hs
    obtain ⟨rfl, rfl, rfl, rfl⟩ := hs
    refine lv_if_lt hx hb d (pd_tgt_inv ht) (fun hc => ?_) (fun hc => ?_)
    · have kk := kk _ _ _ C hS hl hn
      rw [show pd_cnd .lt x 0 = true from decide_eq_true hc] at kk
      exact kk
    · have kk := kk _ _ _ C hS hl hn
      rw [show pd_cnd .lt x 0 = false from decide_eq_false hc] at kk
      exact kk
  · exact absurd hs (by simp)
theorem so_icmp_lt (X : pd_Cx l p s m args meth c R mi) (hbb : b < base) (hsz : base ≤ s.heap.size) (C : pd_Co b base L xs dC dI cy h s H) (hS : va_S (pd_A base) s.heap H locs) (hl : lv_has ls (pd_n mi) (pd_lvA b base lv)) (hn : lv.length = pd_n mi) {o t : Int} (ht : pd_tgt pc o = some t) (d : decode (pd_c mi) pc = .ok (.if_icmp .lt o, 3)) (hs : pd_stp (pc + 3) (.if_icmp .lt t) lv st h = some (pc', lv', st', h1)) (kk : ∀ (H1 : Heap) (locs1 : List Loc) (ls1 : Array Slot), pd_Co b base L xs dC dI cy h1 s H1 → va_S (pd_A base) s.heap H1 locs1 → lv_has ls1 (pd_n mi) (pd_lvA b base lv') → lv'.length = pd_n mi → W p l e R s m args below meth c H1 locs1 (h1.1.1 - h0.1.1) (h1.1.2.1 - h0.1.2.1) Q (F0 m pc' ls1 (st'.map (pd_tr b base)))) : W p l e R s m args below meth c H locs (h.1.1 - h0.1.1) (h.1.2.1 - h0.1.2.1) Q (F0 m pc ls (st.map (pd_tr b base))) := by
  obtain ⟨hx, hb, hr, hml, hown, hts, hSx, hlocks, hname, htab, hfr, hlo, hnt⟩ := X
  simp only [pd_stp] at hs
  split at hs
  · rename_i y x r
    simp only [Option.some.injEq, Prod.mk.injEq] at hs
    obtain ⟨rfl, rfl, rfl, rfl⟩ := hs
    refine lv_icmp_lt hx hb d (pd_tgt_inv ht) (fun hc => ?_) (fun hc => ?_)
    · have kk := kk _ _ _ C hS hl hn
      rw [show pd_cnd .lt x y = true from decide_eq_true hc] at kk
      exact kk
    · have kk := kk _ _ _ C hS hl hn
      rw [show pd_cnd .lt x y = false from decide_eq_false hc] at kk
      exact kk
  · exact absurd hs (by simp)
theorem so_if_ge (X : pd_Cx l p s m args meth c R mi) (hbb : b < base) (hsz : base ≤ s.heap.size) (C : pd_Co b base L xs dC dI cy h s H) (hS : va_S (pd_A base) s.heap H locs) (hl : lv_has ls (pd_n mi) (pd_lvA b base lv)) (hn : lv.length = pd_n mi) {o t : Int} (ht : pd_tgt pc o = some t) (d : decode (pd_c mi) pc = .ok (.ifCond .ge o, 3)) (hs : pd_stp (pc + 3) (.ifCond .ge t) lv st h = some (pc', lv', st', h1)) (kk : ∀ (H1 : Heap) (locs1 : List Loc) (ls1 : Array Slot), pd_Co b base L xs dC dI cy h1 s H1 → va_S (pd_A base) s.heap H1 locs1 → lv_has ls1 (pd_n mi) (pd_lvA b base lv') → lv'.length = pd_n mi → W p l e R s m args below meth c H1 locs1 (h1.1.1 - h0.1.1) (h1.1.2.1 - h0.1.2.1) Q (F0 m pc' ls1 (st'.map (pd_tr b base)))) : W p l e R s m args below meth c H locs (h.1.1 - h0.1.1) (h.1.2.1 - h0.1.2.1) Q (F0 m pc ls (st.map (pd_tr b base))) := by
  obtain ⟨hx, hb, hr, hml, hown, hts, hSx, hlocks, hname, htab, hfr, hlo, hnt⟩ := X
  simp only [pd_stp] at hs
  split at hs
  · rename_i x r
    simp only [Option.some.injEq, Prod.mk.injEq] at hs
    obtain ⟨rfl, rfl, rfl, rfl⟩ := hs
    refine lv_if_ge hx hb d (pd_tgt_inv ht) (fun hc => ?_) (fun hc => ?_)
    · have kk := kk _ _ _ C hS hl hn
      rw [show pd_cnd .ge x 0 = true from decide_eq_true hc] at kk
      exact kk
    · have kk := kk _ _ _ C hS hl hn
      rw [show pd_cnd .ge x 0 = false from decide_eq_false hc] at kk
      exact kk
  · exact absurd hs (by simp)
theorem so_icmp_ge (X : pd_Cx l p s m args meth c R mi) (hbb : b < base) (hsz : base ≤ s.heap.size) (C : pd_Co b base L xs dC dI cy h s H) (hS : va_S (pd_A base) s.heap H locs) (hl : lv_has ls (pd_n mi) (pd_lvA b base lv)) (hn : lv.length = pd_n mi) {o t : Int} (ht : pd_tgt pc o = some t) (d : decode (pd_c mi) pc = .ok (.if_icmp .ge o, 3)) (hs : pd_stp (pc + 3) (.if_icmp .ge t) lv st h = some (pc', lv', st', h1)) (kk : ∀ (H1 : Heap) (locs1 : List Loc) (ls1 : Array Slot), pd_Co b base L xs dC dI cy h1 s H1 → va_S (pd_A base) s.heap H1 locs1 → lv_has ls1 (pd_n mi) (pd_lvA b base lv') → lv'.length = pd_n mi → W p l e R s m args below meth c H1 locs1 (h1.1.1 - h0.1.1) (h1.1.2.1 - h0.1.2.1) Q (F0 m pc' ls1 (st'.map (pd_tr b base)))) : W p l e R s m args below meth c H locs (h.1.1 - h0.1.1) (h.1.2.1 - h0.1.2.1) Q (F0 m pc ls (st.map (pd_tr b base))) := by
  obtain ⟨hx, hb, hr, hml, hown, hts, hSx, hlocks, hname, htab, hfr, hlo, hnt⟩ := X
  simp only [pd_stp] at hs
  split at hs
  · rename_i y x r
    simp only [Option.some.injEq, Prod.mk.injEq] at hs
    obtain ⟨rfl, rfl, rfl, rfl⟩ := hs
    refine lv_icmp_ge hx hb d (pd_tgt_inv ht) (fun hc => ?_) (fun hc => ?_)
    · have kk := kk _ _ _ C hS hl hn
      rw [show pd_cnd .ge x y = true from decide_eq_true hc] at kk
      exact kk
    · have kk := kk _ _ _ C hS hl hn
      rw [show pd_cnd .ge x y = false from decide_eq_false hc] at kk
      exact kk
  · exact absurd hs (by simp)
theorem so_if_gt (X : pd_Cx l p s m args meth c R mi) (hbb : b < base) (hsz : base ≤ s.heap.size) (C : pd_Co b base L xs dC dI cy h s H) (hS : va_S (pd_A base) s.heap H locs) (hl : lv_has ls (pd_n mi) (pd_lvA b base lv)) (hn : lv.length = pd_n mi) {o t : Int} (ht : pd_tgt pc o = some t) (d : decode (pd_c mi) pc = .ok (.ifCond .gt o, 3)) (hs : pd_stp (pc + 3) (.ifCond .gt t) lv st h = some (pc', lv', st', h1)) (kk : ∀ (H1 : Heap) (locs1 : List Loc) (ls1 : Array Slot), pd_Co b base L xs dC dI cy h1 s H1 → va_S (pd_A base) s.heap H1 locs1 → lv_has ls1 (pd_n mi) (pd_lvA b base lv') → lv'.length = pd_n mi → W p l e R s m args below meth c H1 locs1 (h1.1.1 - h0.1.1) (h1.1.2.1 - h0.1.2.1) Q (F0 m pc' ls1 (st'.map (pd_tr b base)))) : W p l e R s m args below meth c H locs (h.1.1 - h0.1.1) (h.1.2.1 - h0.1.2.1) Q (F0 m pc ls (st.map (pd_tr b base))) := by
  obtain ⟨hx, hb, hr, hml, hown, hts, hSx, hlocks, hname, htab, hfr, hlo, hnt⟩ := X
  simp only [pd_stp] at hs
  split at hs
  · rename_i x r
    simp only [Option.some.injEq, Prod.mk.injEq] at hs
    obtain ⟨rfl, rfl, rfl, rfl⟩ := hs
    refine lv_if_gt hx hb d (pd_tgt_inv ht) (fun hc => ?_) (fun hc => ?_)
    · have kk := kk _ _ _ C hS hl hn
      rw [show pd_cnd .gt x 0 = true from decide_eq_true hc] at kk
      exact kk
    · have kk := kk _ _ _ C hS hl hn
      rw [show pd_cnd .gt x 0 = false from decide_eq_false hc] at kk
      exact kk
  · exact absurd hs (by simp)
theorem so_icmp_gt (X : pd_Cx l p s m args meth c R mi) (hbb : b < base) (hsz : base ≤ s.heap.size) (C : pd_Co b base L xs dC dI cy h s H) (hS : va_S (pd_A base) s.heap H locs) (hl : lv_has ls (pd_n mi) (pd_lvA b base lv)) (hn : lv.length = pd_n mi) {o t : Int} (ht : pd_tgt pc o = some t) (d : decode (pd_c mi) pc = .ok (.if_icmp .gt o, 3)) (hs : pd_stp (pc + 3) (.if_icmp .gt t) lv st h = some (pc', lv', st', h1)) (kk : ∀ (H1 : Heap) (locs1 : List Loc) (ls1 : Array Slot), pd_Co b base L xs dC dI cy h1 s H1 → va_S (pd_A base) s.heap H1 locs1 → lv_has ls1 (pd_n mi) (pd_lvA b base lv') → lv'.length = pd_n mi → W p l e R s m args below meth c H1 locs1 (h1.1.1 - h0.1.1) (h1.1.2.1 - h0.1.2.1) Q (F0 m pc' ls1 (st'.map (pd_tr b base)))) : W p l e R s m args below meth c H locs (h.1.1 - h0.1.1) (h.1.2.1 - h0.1.2.1) Q (F0 m pc ls (st.map (pd_tr b base))) := by
  obtain ⟨hx, hb, hr, hml, hown, hts, hSx, hlocks, hname, htab, hfr, hlo, hnt⟩ := X
  simp only [pd_stp] at hs
  split at hs
  · rename_i y x r
    simp only [Option.some.injEq, Prod.mk.injEq] at hs
    obtain ⟨rfl, rfl, rfl, rfl⟩ := hs
    refine lv_icmp_gt hx hb d (pd_tgt_inv ht) (fun hc => ?_) (fun hc => ?_)
    · have kk := kk _ _ _ C hS hl hn
      rw [show pd_cnd .gt x y = true from decide_eq_true hc] at kk
      exact kk
    · have kk := kk _ _ _ C hS hl hn
      rw [show pd_cnd .gt x y = false from decide_eq_false hc] at kk
      exact kk
  · exact absurd hs (by simp)
theorem so_if_le (X : pd_Cx l p s m args meth c R mi) (hbb : b < base) (hsz : base ≤ s.heap.size) (C : pd_Co b base L xs dC dI cy h s H) (hS : va_S (pd_A base) s.heap H locs) (hl : lv_has ls (pd_n mi) (pd_lvA b base lv)) (hn : lv.length = pd_n mi) {o t : Int} (ht : pd_tgt pc o = some t) (d : decode (pd_c mi) pc = .ok (.ifCond .le o, 3)) (hs : pd_stp (pc + 3) (.ifCond .le t) lv st h = some (pc', lv', st', h1)) (kk : ∀ (H1 : Heap) (locs1 : List Loc) (ls1 : Array Slot), pd_Co b base L xs dC dI cy h1 s H1 → va_S (pd_A base) s.heap H1 locs1 → lv_has ls1 (pd_n mi) (pd_lvA b base lv') → lv'.length = pd_n mi → W p l e R s m args below meth c H1 locs1 (h1.1.1 - h0.1.1) (h1.1.2.1 - h0.1.2.1) Q (F0 m pc' ls1 (st'.map (pd_tr b base)))) : W p l e R s m args below meth c H locs (h.1.1 - h0.1.1) (h.1.2.1 - h0.1.2.1) Q (F0 m pc ls (st.map (pd_tr b base))) := by
  obtain ⟨hx, hb, hr, hml, hown, hts, hSx, hlocks, hname, htab, hfr, hlo, hnt⟩ := X
  simp only [pd_stp] at hs
  split at hs
  · rename_i x r
    simp only [Option.some.injEq, Prod.mk.injEq] at hs
    obtain ⟨rfl, rfl, rfl, rfl⟩ := hs
    refine lv_if_le hx hb d (pd_tgt_inv ht) (fun hc => ?_) (fun hc => ?_)
    · have kk := kk _ _ _ C hS hl hn
      rw [show pd_cnd .le x 0 = true from decide_eq_true hc] at kk
      exact kk
    · have kk := kk _ _ _ C hS hl hn
      rw [show pd_cnd .le x 0 = false from decide_eq_false hc] at kk
      exact kk
  · exact absurd hs (by simp)
theorem so_icmp_le (X : pd_Cx l p s m args meth c R mi) (hbb : b < base) (hsz : base ≤ s.heap.size) (C : pd_Co b base L xs dC dI cy h s H) (hS : va_S (pd_A base) s.heap H locs) (hl : lv_has ls (pd_n mi) (pd_lvA b base lv)) (hn : lv.length = pd_n mi) {o t : Int} (ht : pd_tgt pc o = some t) (d : decode (pd_c mi) pc = .ok (.if_icmp .le o, 3)) (hs : pd_stp (pc + 3) (.if_icmp .le t) lv st h = some (pc', lv', st', h1)) (kk : ∀ (H1 : Heap) (locs1 : List Loc) (ls1 : Array Slot), pd_Co b base L xs dC dI cy h1 s H1 → va_S (pd_A base) s.heap H1 locs1 → lv_has ls1 (pd_n mi) (pd_lvA b base lv') → lv'.length = pd_n mi → W p l e R s m args below meth c H1 locs1 (h1.1.1 - h0.1.1) (h1.1.2.1 - h0.1.2.1) Q (F0 m pc' ls1 (st'.map (pd_tr b base)))) : W p l e R s m args below meth c H locs (h.1.1 - h0.1.1) (h.1.2.1 - h0.1.2.1) Q (F0 m pc ls (st.map (pd_tr b base))) := by
  obtain ⟨hx, hb, hr, hml, hown, hts, hSx, hlocks, hname, htab, hfr, hlo, hnt⟩ := X
  simp only [pd_stp] at hs
  split at hs
  · rename_i y x r
    simp only [Option.some.injEq, Prod.mk.injEq] at hs
    obtain ⟨rfl, rfl, rfl, rfl⟩ := hs
    refine lv_icmp_le hx hb d (pd_tgt_inv ht) (fun hc => ?_) (fun hc => ?_)
    · have kk := kk _ _ _ C hS hl hn
      rw [show pd_cnd .le x y = true from decide_eq_true hc] at kk
      exact kk
    · have kk := kk _ _ _ C hS hl hn
      rw [show pd_cnd .le x y = false from decide_eq_false hc] at kk
      exact kk
  · exact absurd hs (by simp)
end PDS
