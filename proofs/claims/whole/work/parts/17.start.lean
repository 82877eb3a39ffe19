def R_law : String := "PolytopeDescentLaw"
def lw_P (b : Addr) (xs : List Int32) (args : Array Value) (s : State) : Prop := args = #[.ref b] ∧ s.IntsAt b xs ∧ xs.length ≤ 2560 ∧ (Jvm.Cond.and given_1 narrow_1).before args s = true
def lw_Q (_ : Array Value) (s : State) (o : Outcome) (t : State) : Prop := o = .returned (some (.int 1)) ∧ Framed s o t [] 601024 7293034
def lw_Z (below : List Frame) (a : Array Value) (s : State) : State → Prop := fun t => ∃ o, t.status = .running ∧ Ended t below o ∧ lw_Q a s o t
/-- what holds at the law's entry: the machine, the code, the tables' words (any of lw_tbl by 'hts w (by decide +kernel)'), the script of L ints xs at the cell b, what the Statement gives of the start (any of its parts by flat_of_before) -/
def lw_At (p : Program) (s : State) (m : MethodId) (meth : Method) (c : Code) (b L : Nat) (xs : Nat → Int32) : Prop :=
  p.tables.exec = Jvm.exec ∧ c.code = code ∧ meth.sig.returnType = ret ∧ c.maxLocals = 8 ∧ s.vm.findClass R_law = some m.cls ∧ (∀ w ∈ lw_tbl, w.before #[Value.ref b] s = true) ∧ va_X b L xs s s.heap ∧ b < s.heap.size ∧ meth.locks = false ∧ c.exceptionTable.toList = [] ∧ (Jvm.Cond.and given_1 narrow_1).before #[Value.ref b] s = true

/-- the pure heap at the law's start: the script alone -/
def pd_h0 (L : Nat) (xs : Nat → Int32) : pd_H := ((0, 0, 0), fun k => if k = 0 then .inl (4, L, .inl xs) else pd_dead)
theorem pd_arrk {args : Array Value} {s : State} {ty : FieldType} (hty : ∀ C, ty ≠ .object C) (h : (Cond.arrayClass ty).before args s = true) : ∃ cA : ClassId, ArrOfT s cA ty ∧ va_RA s cA ty := by
  obtain ⟨cA, kA, comp, h1, h2, h3⟩ := Cond.arrayClass_spec h
  refine ⟨cA, fun n z => ⟨fun k h => (by cases h), kA, h2, comp, h3⟩, ?_⟩
  cases ty with
  | object C => exact absurd rfl (hty C)
  | _ => exact h1
set_option maxHeartbeats 4000000 in
set_option maxRecDepth 100000 in
theorem pd_begin {p : Program} {e : Env} {s : State} {m : MethodId} {below : List Frame} {meth : Method} {c : Code} (l : Launch) (hflags : l.flags = flags0) {b L : Nat} {xs : Nat → Int32} (C0 : lw_At p s m meth c b L xs) {h' : pd_H} (hgo : Ca 201 [.ref 0] (pd_h0 L xs) (.inl (some (.int 1)), h')) (hc : h'.1.1 ≤ 601024) (hs : h'.1.2.1 ≤ 7293034) : W p l e room_1 s m #[Value.ref b] below meth c s.heap [] 0 0 (lw_Z below #[Value.ref b] s) (entryFrame m ([Value.ref b] : List Value).toArray 8) := by
  obtain ⟨hx, hb, hr, hml, hown, hts, hX, hbl, hlocks, hnil, hgv⟩ := C0
  obtain ⟨n, hgo⟩ := hgo
  have hl : l.stackTraces = false := by
    unfold Launch.stackTraces
    rw [hflags]
    decide +kernel
  have htb : ∀ w ∈ pd_tb, w.before #[Value.ref b] s = true := fun w hw => hts w (List.mem_filter.mp hw).1
  have hfl := flat_of_before _ hgv
  -- the classes
  have hkn : ∀ ci, ∃ (cC : ClassId) (iS : Nat → Nat), ci < 7 → u_Kn s (pd_cn ci) (pd_ft ci) (pd_fn ci) cC iS := by
    intro ci
    by_cases hci : ci < 7
    · obtain ⟨q2, hq2⟩ := pd_zp_in tbg_b ci (List.mem_range.mpr hci)
      obtain ⟨cC, iS, hk⟩ := u_known (C := pd_cn ci) (T := pd_ft ci) (N := pd_fn ci) (n := pd_fn ci) htb (pd_uw hci) (htb _ (pd_at_in hq2))
      exact ⟨cC, iS, fun _ => hk⟩
    · exact ⟨0, fun _ => 0, fun h => absurd h hci⟩
  obtain ⟨dC, hkn⟩ := Classical.axiomOfChoice hkn
  obtain ⟨dI, hkn⟩ := Classical.axiomOfChoice hkn
  obtain ⟨c0, k0⟩ := pd_arrk (fun C q => by cases q) (htb _ tb_arr_int)
  obtain ⟨c1, k1⟩ := pd_arrk (fun C q => by cases q) (htb _ tb_arr_long)
  obtain ⟨c2, k2⟩ := pd_arrk (fun C q => by cases q) (htb _ tb_arr_boolean)
  have hAO : va_AO (pd_cn 4) s := va_AO.of (hts _ tb_over)
  obtain ⟨comp, c3, k3, g1, -, g3, g4, g5⟩ := Cond.arrayOver_spec hAO
  let cy : Nat → ClassId := fun t => if t = 0 then c0 else if t = 1 then c1 else if t = 2 then c2 else c3
  have hK : va_K (dC, dI) pd_cl (pd_tys cy) s := by
    refine ⟨fun ci q hq => ?_, fun t q hq => ?_⟩
    · have hci : ci < 7 := by
        have := (List.getElem?_eq_some_iff.mp hq).1
        exact this
      rw [pd_cl_at hci] at hq
      cases hq
      exact hkn ci hci
    · match t, hq with
      | 0, hq => cases hq; exact k0
      | 1, hq => cases hq; exact k1
      | 2, hq => cases hq; exact k2
      | 3, hq => cases hq; exact ⟨fun n z => ⟨fun k h => (by cases h), k3, g3, comp, g4⟩, k3, comp, g3, g4, g1, g5⟩
      | t + 4, hq => simp [pd_tys] at hq
  have hSx : pd_Sx s := by
    refine ⟨fun w hw => ?_, hAO, fun q hq => ?_, fun i j hi hj hij => ?_⟩
    · have hw0 := List.mem_filter.mp hw
      have hn := hw0.2
      refine va_Nw.of ?_ (hts w hw0.1)
      unfold pd_nw at hn
      split at hn
      · rfl
      · rfl
      · rfl
      · exact absurd hn (by simp)
    · have hcur : ∃ cur, s.vm.findClass (pd_cn 5) = some cur := ⟨_, (hkn 5 (by omega)).2.1⟩
      obtain ⟨cur, hcur⟩ := hcur
      have h9 : pd_SR.all (fun q => decide (Cond.stringRef (pd_cn 5) q.1 q.2 ∈ lw_tbl)) = true := by decide +kernel
      have hstr := hts _ (of_decide_eq_true (List.all_eq_true.mp h9 q hq))
      obtain ⟨k, cf, i, a, -, -, -, -, -, hev⟩ := Cond.stringRef_spec hcur hstr
      exact ⟨a, vk_R.of hstr hev⟩
    · have h9 : ((List.range 3).all fun i => (List.range 3).all fun j => decide (i = j) || decide (Cond.not (.castable (pd_en i) (pd_en j)) ∈ flatC (Jvm.Cond.and given_1 narrow_1))) = true := by decide +kernel
      have h8 := List.all_eq_true.mp (List.all_eq_true.mp h9 i (List.mem_range.mpr hi)) j (List.mem_range.mpr hj)
      simp only [Bool.or_eq_true, decide_eq_true_eq] at h8
      exact va_Nc.of (hfl _ (h8.resolve_left hij))
  have hA : ∀ a : Nat, a < s.heap.size → ¬ pd_A s.heap.size a := fun a h1 h2 => absurd h2 (Nat.not_le.mpr h1)
  have hin : (Cond.initialized Bundle.tN).before #[Value.ref b] s = true := hts _ (by decide +kernel)
  have hU : vx_Zq Bundle.tN "UNASSIGNED_STACK" Bundle.steD (pd_A s.heap.size) s s.heap := vx_Zqof (hts _ (by decide +kernel)) hin (hfl _ (by decide +kernel)) hA
  have hN : vx_Zq Bundle.tN "SUPPRESSED_SENTINEL" Bundle.listD (pd_A s.heap.size) s s.heap := vx_Zqof (hts _ (by decide +kernel)) hin (hfl _ (by decide +kernel)) hA
  have hC : pd_Co b s.heap.size L xs dC dI cy (pd_h0 L xs) s s.heap := by
    refine ⟨fun k q hq => ?_, hK, hX, ⟨by simp [pd_get, pd_h0], fun a ha => ?_, fun a t n d h0 hg => ?_⟩, hU, hN⟩
    · exact absurd (pd_W_inv hq).1 (by show ¬ k < 0; omega)
    · have ha : 0 < a := ha
      simp only [pd_get, pd_h0]
      rw [if_neg (by omega)]
    · simp only [pd_get, pd_h0] at hg
      rw [if_neg h0] at hg
      cases hg
  have hsl : (pd_sl [Value.ref 0]).length ≤ pd_n 201 := by decide +kernel
  have hn8 : pd_n 201 = 8 := by decide +kernel
  rw [lg_entry_eq]
  have hll := lv_entry (([Value.ref 0] : List Value).map (pd_tr b s.heap.size)) (n := pd_n 201) (by rw [pd_sl_map]; exact hsl)
  have hW := pd_sound (dC := dC) (dI := dI) (cy := cy) hl hbl n 201 0 _ [] _ _ _ hgo p e room_1 s m #[Value.ref b] below meth c s.heap [] _ (pd_h0 L xs)
    ⟨hx, hb, hr, hml.trans hn8.symm, hown, htb, hSx, hlocks, fun q => absurd q (by decide +kernel), by rw [hnil, show pd_h 201 = [] by decide +kernel]; rfl, by show pd_fr 201 ≤ 11; decide +kernel, by show pd_lo 201 ≤ 456; decide +kernel, hl⟩ hbl (Nat.le_refl _) hC va_S.rf (pd_has_sub hll pd_ent_sub) (pd_ent_len hsl) (pd_le_rf _) (Nat.le_refl _) (fun _ => rfl) ⟨hc, hs⟩
  rw [hn8] at hW
  intro T hT XX
  obtain ⟨t, st, oo, g1, g2, g3⟩ := hW T hT XX
  refine ⟨t, st, oo, g1, g2, ?_⟩
  rcases g3 with ⟨⟨⟨v, q1, rfl⟩, -, -⟩, L9, ⟨hret, hWm, hsame⟩, hfree⟩ | ⟨q, -, E, ce, L9, ⟨⟨k, hk9, -⟩, -⟩, -⟩
  · cases q1
    refine ⟨rfl, hret, hWm, ?_⟩
    exact hsame.weaken (fun y hy hlt => absurd (hfree y hy) (Nat.not_le.mpr hlt)) hc hs
  · cases hk9
