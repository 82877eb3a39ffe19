/-! Heaps grow along a run; contracts of methods. -/
theorem pd_stp_le {np : Nat} {i : Instr} {lv st : List Value} {h : pd_H} {pc' : Nat} {lv' st' : List Value} {h1 : pd_H} (hs : pd_stp np i lv st h = some (pc', lv', st', h1)) : pd_le h h1 := by
  unfold pd_stp at hs
  repeat' split at hs
  all_goals first
    | (simp at hs; done)
    | (simp only [Option.some.injEq, Prod.mk.injEq] at hs; obtain ⟨-, -, -, rfl⟩ := hs; first | exact pd_le_rf _ | exact pd_le_put _ _ _ | exact pd_le_new _ _ _)
    | (obtain ⟨v9, -, he⟩ := Option.map_eq_some_iff.mp hs; simp only [Prod.mk.injEq] at he; obtain ⟨-, -, -, rfl⟩ := he; first | exact pd_le_rf _ | exact pd_le_put _ _ _ | exact pd_le_new _ _ _)
theorem pd_ret_eq {mi : Nat} {i : Instr} {st : List Value} {h h' : pd_H} {o : pd_Out} (e : pd_ret mi i st h = some (o, h')) : h' = h ∧ ∃ v, o = .inl v := by
  unfold pd_ret at e
  repeat' split at e
  all_goals first
    | (simp at e; done)
    | (simp only [Option.some.injEq, Prod.mk.injEq] at e; obtain ⟨rfl, rfl⟩ := e; exact ⟨rfl, _, rfl⟩)
theorem pd_catch_eq {mi E : Nat} {h h' : pd_H} {o : pd_Out} (e : pd_catch mi E h = some (o, h')) : h' = h ∧ ((∃ q r, pd_ct mi E = some (q, r) ∧ o = .inl (some (.int (Int32.ofInt r)))) ∨ (pd_ct mi E = none ∧ pd_h mi = [] ∧ o = .inr E)) := by
  unfold pd_catch at e
  split at e
  · rename_i q r hq
    cases e
    exact ⟨rfl, Or.inl ⟨q, r, hq, rfl⟩⟩
  · rename_i hq
    split at e
    · rename_i hh
      cases e
      exact ⟨rfl, Or.inr ⟨hq, hh, rfl⟩⟩
    · exact absurd e (by simp)
theorem pd_go_le (n : Nat) : ∀ (mi pc : Nat) (lv st : List Value) (h : pd_H) (o : pd_Out) (h' : pd_H), pd_go n mi pc lv st h = some (o, h') → pd_le h h' := by
  induction n with
  | zero => intro mi pc lv st h o h' e; exact absurd e (by simp [pd_go])
  | succ n ih =>
    intro mi pc lv st h o h' e
    rw [pd_run_succ] at e
    unfold pd_body at e
    split at e
    · exact absurd e (by simp)
    · split at e
      · split at e
        · rename_i hs
          exact pd_le_tr (pd_stp_le hs) (ih _ _ _ _ _ _ _ e)
        · exact absurd e (by simp)
      · obtain ⟨rfl, -⟩ := pd_ret_eq e
        exact pd_le_rf _
      · split at e
        · cases e
          exact pd_le_thr h
        · exact absurd e (by simp)
      · split at e
        · split at e
          · rename_i hv
            exact pd_le_tr (ih _ _ _ _ _ _ _ hv) (ih _ _ _ _ _ _ _ e)
          · rename_i hv
            obtain ⟨rfl, -⟩ := pd_catch_eq e
            exact ih _ _ _ _ _ _ _ hv
          · exact absurd e (by simp)
        · exact absurd e (by simp)
theorem pd_res_thr {mi pc : Nat} {i0 i : Instr} (hr : pd_res mi pc i0 = some i) (ho : pd_op i = 2) : ∃ k e, i0 = .new k ∧ pd_lk pd_XL (pd_o mi) k = some e ∧ i = .new (1000 + e) ∧ (6 ≤ pd_fr mi ∧ 90 ≤ pd_lo mi ∧ pd_h mi = []) := by
  have hno : ∀ c, pd_op (.invokespecial c) ≠ 2 := fun c => by simp only [pd_op]; split <;> decide
  have hno2 : ∀ c, pd_op (.invokestatic c) ≠ 2 := fun c => by simp only [pd_op]; split <;> decide
  cases i0
  case new k =>
    simp only [pd_res] at hr
    split at hr
    · rename_i e hk
      split at hr
      · rename_i hc
        simp only [Option.some.injEq] at hr
        exact ⟨k, e, rfl, hk, hr.symm, hc⟩
      · exact absurd hr (by simp)
    · obtain ⟨v, hv, rfl⟩ := Option.map_eq_some_iff.mp hr
      obtain ⟨q9, hq⟩ := pd_zp_in tbl_b _ (pd_lk_in hv)
      simp only [Bool.and_eq_true, decide_eq_true_eq] at hq
      have h7 := hq.2
      simp only [pd_op] at ho
      split at ho
      · omega
      · exact absurd ho (by decide)
  case jsr o => simp only [pd_res] at hr; cases hr
  case bipush n => simp only [pd_res] at hr; split at hr <;> cases hr; cases ho
  case sipush n => simp only [pd_res] at hr; split at hr <;> cases hr; cases ho
  case ldc2_w k => simp only [pd_res] at hr; obtain ⟨v, hv, rfl⟩ := Option.map_eq_some_iff.mp hr; cases ho
  case goto k => simp only [pd_res] at hr; obtain ⟨v, hv, rfl⟩ := Option.map_eq_some_iff.mp hr; cases ho
  case ifCond c k => simp only [pd_res] at hr; obtain ⟨v, hv, rfl⟩ := Option.map_eq_some_iff.mp hr; cases ho
  case if_icmp c k => simp only [pd_res] at hr; obtain ⟨v, hv, rfl⟩ := Option.map_eq_some_iff.mp hr; cases ho
  case getfield k => simp only [pd_res] at hr; obtain ⟨v, hv, rfl⟩ := Option.map_eq_some_iff.mp hr; cases ho
  case tableswitch a b c d => simp only [pd_res] at hr; split at hr <;> cases hr; cases ho
  case newarray t => simp only [pd_res] at hr; split at hr <;> cases hr; cases ho
  case anewarray t => simp only [pd_res] at hr; split at hr <;> cases hr; cases ho
  case putfield k => simp only [pd_res] at hr; obtain ⟨v, hv, hq⟩ := Option.bind_eq_some_iff.mp hr; split at hq <;> cases hq; cases ho
  case invokevirtual k =>
    simp only [pd_res] at hr
    obtain ⟨v, hv, hq⟩ := Option.bind_eq_some_iff.mp hr
    split at hq
    · cases hq
    · obtain ⟨v2, hv2, rfl⟩ := Option.map_eq_some_iff.mp hq
      cases ho
  case invokespecial k =>
    simp only [pd_res] at hr
    split at hr
    · split at hr
      · cases hr
      · cases hr
        exact absurd ho (hno _)
    · split at hr
      · cases hr
      · obtain ⟨v2, hv2, rfl⟩ := Option.map_eq_some_iff.mp hr
        exact absurd ho (hno _)
    · obtain ⟨v, hv, hq⟩ := Option.bind_eq_some_iff.mp hr
      split at hq
      · cases hq
      · obtain ⟨v2, hv2, rfl⟩ := Option.map_eq_some_iff.mp hq
        exact absurd ho (hno _)
  case invokestatic k =>
    simp only [pd_res] at hr
    obtain ⟨v, hv, hq⟩ := Option.bind_eq_some_iff.mp hr
    split at hq
    · split at hq
      · cases hq
        exact absurd ho (hno2 _)
      · cases hq
    · split at hq
      · obtain ⟨v2, hv2, rfl⟩ := Option.map_eq_some_iff.mp hq
        exact absurd ho (hno2 _)
      · cases hq
  all_goals
    simp only [pd_res, Option.some.injEq] at hr
    subst hr
    cases ho
/-- a method with a table of handlers doesn't throw -/
theorem pd_go_calm (n : Nat) : ∀ (mi pc : Nat) (lv st : List Value) (h : pd_H) (o : pd_Out) (h' : pd_H), pd_h mi ≠ [] → pd_go n mi pc lv st h = some (o, h') → ∃ v, o = .inl v := by
  induction n with
  | zero => intro mi pc lv st h o h' _ e; exact absurd e (by simp [pd_go])
  | succ n ih =>
    intro mi pc lv st h o h' hh e
    rw [pd_run_succ] at e
    unfold pd_body at e
    split at e
    · exact absurd e (by simp)
    · rename_i i np hf
      split at e
      · split at e
        · exact ih _ _ _ _ _ _ _ hh e
        · exact absurd e (by simp)
      · exact (pd_ret_eq e).2
      · rename_i h2
        obtain ⟨i0, n0, hd, hr, -, -⟩ := pd_fetch_inv hf
        obtain ⟨k, e9, -, -, -, -, -, hh2⟩ := pd_res_thr hr h2
        exact absurd hh2 hh
      · split at e
        · split at e
          · exact ih _ _ _ _ _ _ _ hh e
          · rcases (pd_catch_eq e).2 with ⟨q, r, -, rfl⟩ | ⟨-, h9, -⟩
            · exact ⟨_, rfl⟩
            · exact absurd h9 hh
          · exact absurd e (by simp)
        · exact absurd e (by simp)
section PDV
variable {b base L : Nat} {xs : Nat → Int32} {dC : Nat → ClassId} {dI : Nat → Nat → Nat} {cy : Nat → ClassId}
/-- the world at a state: the pure heap, and where the next cell comes -/
def pd_Dy (b base L : Nat) (xs : Nat → Int32) (dC : Nat → ClassId) (dI : Nat → Nat → Nat) (cy : Nat → ClassId) (h : pd_H) (U : State) : Prop :=
  pd_Co b base L xs dC dI cy h U U.heap ∧ base ≤ U.heap.size ∧ (h.1.1 = h.1.2.2 → U.heap.size = base + h.1.2.2) ∧ h.1.2.2 ≤ h.1.1
def pd_Pc (b base L : Nat) (xs : Nat → Int32) (dC : Nat → ClassId) (dI : Nat → Nat → Nat) (cy : Nat → ClassId) (as : List Value) (h : pd_H) : Array Value → State → Prop :=
  va_Pc (as.map (pd_tr b base)) (fun U => pd_Sx U ∧ pd_Dy b base L xs dC dI cy h U)
def pd_Qc (b base L : Nat) (xs : Nat → Int32) (dC : Nat → ClassId) (dI : Nat → Nat → Nat) (cy : Nat → ClassId) (o : pd_Out) (h' : pd_H) : Array Value → State → Outcome → State → Prop := fun _ st oc t =>
  (∃ v, o = .inl v ∧ oc = .returned (v.map (pd_tr b base))) ∧ pd_Dy b base L xs dC dI cy h' t ∧ va_F (pd_A base) st t
def pd_XC (b base L : Nat) (xs : Nat → Int32) (dC : Nat → ClassId) (dI : Nat → Nat → Nat) (cy : Nat → ClassId) (o : pd_Out) (h' : pd_H) : String → State → State → Prop := fun E st t =>
  (∃ k, o = .inr k ∧ k < 3 ∧ E = pd_en k) ∧ pd_Dy b base L xs dC dI cy h' t ∧ va_F (pd_A base) st t
def pd_rm (mi : Nat) (h h' : pd_H) : Room := { frames := pd_fr mi, cells := h'.1.1 - h.1.1, slots := h'.1.2.1 - h.1.2.1, locals := pd_lo mi }
def pd_Met (l : Launch) (b base L : Nat) (xs : Nat → Int32) (dC : Nat → ClassId) (dI : Nat → Nat → Nat) (cy : Nat → ClassId) (c : Nat) (as : List Value) (h : pd_H) (o : pd_Out) (h' : pd_H) : Prop :=
  vx_Met l (pd_y c) (pd_cw c :: pd_tb) (pd_rm c h h') (pd_Pc b base L xs dC dI cy as h) (pd_Qc b base L xs dC dI cy o h') (pd_XC b base L xs dC dI cy o h') (h'.1.1 - h.1.1) (h'.1.2.1 - h.1.2.1) (pd_A base)
theorem pd_Co_moved {h : pd_H} {s t : State} {H : Heap} (hvm : s.vm.Alike t.vm) (C : pd_Co b base L xs dC dI cy h s H) : pd_Co b base L xs dC dI cy h t H := by
  obtain ⟨h1, h2, h3, h4, h5, h6⟩ := C
  exact ⟨h1, va_K.moved hvm h2, va_X.moved hvm h3, h4, h5.moved hvm, h6.moved hvm⟩
theorem pd_Co_size {h : pd_H} {s : State} {H : Heap} (C : pd_Co b base L xs dC dI cy h s H) (hb : base ≤ H.size) : base + h.1.2.2 ≤ H.size := by
  rcases Nat.eq_zero_or_pos h.1.2.2 with e | e
  · omega
  · have := (C.1 _ _ (pd_W_at (k := h.1.2.2 - 1) (by omega))).lt
    simp only at this
    omega
theorem pd_Sx_warm {s U : State} (hW : s.WarmedH U.vm) (h : pd_Sx s) : pd_Sx U := by
  obtain ⟨h1, h2, h3, h4⟩ := h
  refine ⟨fun w hw => ?_, h2.moved hW.alike, fun q hq => ?_, fun i j hi hj hij => (h4 i j hi hj hij).moved hW.alike⟩
  · have hz := h1 w hw
    have hn := (List.mem_filter.mp hw).2
    unfold pd_nw at hn
    split at hn
    · exact va_Nw.warmM hW hz
    · exact va_Nw.warmC hW hz
    · exact va_Nw.warmD hW hz
    · exact absurd hn (by simp)
  · obtain ⟨sa, hs⟩ := h3 q hq
    exact ⟨sa, hs.warm hW⟩
theorem pd_Sx_same {s U : State} (hv : U.vm = s.vm) (h : pd_Sx s) : pd_Sx U := by
  have ha : s.vm.Alike U.vm := by rw [hv]; exact Vm.Alike.refl _
  obtain ⟨h1, h2, h3, h4⟩ := h
  refine ⟨fun w hw => ?_, h2.moved ha, fun q hq => ?_, fun i j hi hj hij => (h4 i j hi hj hij).moved ha⟩
  · have hz := h1 w hw
    have hn := (List.mem_filter.mp hw).2
    unfold pd_nw at hn
    split at hn
    · exact va_tabs rfl hv.symm hz
    · exact va_tabs rfl hv.symm hz
    · exact va_tabs rfl hv.symm hz
    · exact absurd hn (by simp)
  · obtain ⟨sa, hs⟩ := h3 q hq
    exact ⟨sa, vk_R.same hv hs⟩
theorem pd_blind {as : List Value} {h : pd_H} : FrameBlind (pd_Pc b base L xs dC dI cy as h) := by
  intro a U g mk hq
  obtain ⟨q1, q2, q3, q4, q5⟩ := hq
  exact ⟨q1, pd_Sx_same (s := U) rfl q2, pd_Co_moved (s := U) (t := U.calling g mk a) (Vm.Alike.refl U.vm) q3, q4, q5⟩
section Body
variable {p : Program} {l : Launch} {e : Env} {R : Room} {s : State} {m : MethodId} {args : Array Value} {below : List Frame} {meth : Method} {c : Code} {H : Heap} {locs : List Loc} {Q : State → Prop} {ls : Array Slot}
variable {mi pc : Nat} {lv st : List Value} {h h0 h1 h' : pd_H} {o : pd_Out}
theorem pd_Dy_of {t : State} (hsz : base ≤ s.heap.size) (C : pd_Co b base L xs dC dI cy h s H) (hS : va_S (pd_A base) s.heap H locs) (hle : pd_le h0 h) (h02 : h0.1.2.2 ≤ h0.1.1) (hex : h0.1.1 = h0.1.2.2 → s.heap.size = base + h0.1.2.2) (hz : H.size ≤ s.heap.size + (h.1.1 - h0.1.1)) (ht : t.heap = H) (hvm : s.vm.Alike t.vm) : pd_Dy b base L xs dC dI cy h t := by
  have hb : base ≤ H.size := Nat.le_trans hsz hS.1
  have h1 := pd_Co_size C hb
  obtain ⟨a1, a2, a3, a4⟩ := hle
  refine ⟨by rw [ht]; exact pd_Co_moved hvm C, by rw [ht]; exact hb, fun e9 => ?_, by omega⟩
  have := hex (by omega)
  rw [ht]
  omega
/-- behind a call -/
theorem pd_after {mc ms : Nat} {as : Array Value} {st0 rest : List Value} (hsz : base ≤ s.heap.size) (hr : vx_Run p l e R s m args below meth c H locs (h.1.1 - h0.1.1) (h.1.2.1 - h0.1.2.1) mc ms (F0 m pc ls st0) rest (pd_Qc b base L xs dC dI cy o h1 as) (pd_XC b base L xs dC dI cy o h1) (pd_A base)) (hS : va_S (pd_A base) s.heap H locs) (e1 : h.1.1 - h0.1.1 + mc = h1.1.1 - h0.1.1) (e2 : h.1.2.1 - h0.1.2.1 + ms = h1.1.2.1 - h0.1.2.1)
    (kr : ∀ (v : Option Value) (H1 : Heap) (locs1 : List Loc), o = .inl v → pd_Co b base L xs dC dI cy h1 s H1 → va_S (pd_A base) s.heap H1 locs1 → W p l e R s m args below meth c H1 locs1 (h1.1.1 - h0.1.1) (h1.1.2.1 - h0.1.2.1) Q (F0 m (pc + 3) ls ((v.map (pd_tr b base)).toList ++ rest)))
    (kx : ∀ (k : Nat) (H1 : Heap) (locs1 : List Loc) (q : Addr) (ce : Cell), o = .inr k → k < 3 → pd_Co b base L xs dC dI cy h1 s H1 → va_S (pd_A base) s.heap H1 locs1 → H1[q]? = some ce → ce.vm = .none → s.vm.findClass (pd_en k) = some ce.cls → vx_W p l e R s m args below meth c H1 locs1 (h1.1.1 - h0.1.1) (h1.1.2.1 - h0.1.2.1) Q (F0 m pc ls rest) q) :
    W p l e R s m args below meth c H locs (h.1.1 - h0.1.1) (h.1.2.1 - h0.1.2.1) Q (F0 m pc ls st0) := by
  intro T hT X
  have hAA : ∀ q : Nat, q < H.size → pd_A base q → pd_A base q := fun _ _ h => h
  rcases hr T hT X with ⟨v, st₀, t, T', L9, g0, X', hL, g1, g2, ⟨⟨v', q1, q2⟩, hDy, hF⟩, stp⟩ | ⟨q, st₀, t, T', L9, E, ce, g0, X', hL, g1, g2, ⟨⟨k, q1, q2, q3⟩, hDy, hF⟩, hce, hcv, hcl, stp⟩
  · obtain ⟨-, -, k3⟩ := vx_keep g0 g1 hS hAA (fun _ h => h) hL hF
    rw [e1, e2] at X'
    have hvm : t.vm.Alike s.vm := by rw [← g2]; exact X'.warmed.alike.symm
    cases q2
    obtain ⟨t2, a1, b1⟩ := kr v' T'.heap (locs ++ L9) q1 (by rw [g1]; exact pd_Co_moved hvm hDy.1) k3 T' rfl X'
    exact ⟨t2, stp t2 a1, b1⟩
  · obtain ⟨-, -, k3⟩ := vx_keep g0 g1 hS hAA (fun _ h => h) hL hF
    rw [e1, e2] at X'
    have hvm : t.vm.Alike s.vm := by rw [← g2]; exact X'.warmed.alike.symm
    obtain ⟨t2, a1, b1⟩ := kx k T'.heap (locs ++ L9) q ce q1 q2 (by rw [g1]; exact pd_Co_moved hvm hDy.1) k3 (by rw [g1]; exact hce) hcv (by rw [← q3]; exact hcl) T' rfl X'
    exact ⟨t2, stp.trans a1, b1⟩
end Body
end PDV
