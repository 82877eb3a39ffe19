/-! A run of the pure machine is a run of the machine. -/
theorem pd_res_call {mi pc : Nat} {i0 i : Instr} (hr : pd_res mi pc i0 = some i) (ho : pd_op i = 3 ∨ pd_op i = 4) : (∃ k c, i0 = .invokevirtual k ∧ i = .invokevirtual c ∧ pd_lk pd_ML (pd_o mi) k = some c ∧ pd_st c = false ∧ pd_call mi pc c = some c) ∨ (∃ k c, i0 = .invokespecial k ∧ i = .invokespecial c ∧ (pd_lk pd_ML (pd_o mi) k = some c ∨ pd_lk pd_NL (pd_o mi) k = some c) ∧ pd_st c = false ∧ (pd_y c).name = "<init>" ∧ pd_call mi pc c = some c) ∨ (∃ k c, i0 = .invokestatic k ∧ i = .invokestatic c ∧ pd_lk pd_ML (pd_o mi) k = some c ∧ pd_st c = true ∧ pd_call mi pc c = some c) := by
  have fin : ∀ v v2, pd_call mi pc v = some v2 → v2 = v := fun v v2 h => (pd_call_inv h).1
  cases i0
  case invokevirtual k =>
    simp only [pd_res] at hr
    obtain ⟨v, hv, hq⟩ := Option.bind_eq_some_iff.mp hr
    split at hq
    · cases hq
    · rename_i hst
      obtain ⟨v2, hv2, rfl⟩ := Option.map_eq_some_iff.mp hq
      obtain rfl := fin _ _ hv2
      exact Or.inl ⟨k, _, rfl, rfl, hv, by simpa using hst, hv2⟩
  case invokespecial k =>
    simp only [pd_res] at hr
    refine Or.inr (Or.inl ?_)
    split at hr
    · split at hr
      · cases hr
      · cases hr
        rcases ho with ho | ho <;> cases ho
    · rename_i c9 hk hne
      split at hr
      · cases hr
      · rename_i hst
        obtain ⟨v2, hv2, rfl⟩ := Option.map_eq_some_iff.mp hr
        obtain rfl := fin _ _ hv2
        simp only [Bool.or_eq_true, Bool.not_eq_true', beq_eq_false_iff_ne, not_or, Bool.not_eq_true, ne_eq, Decidable.not_not] at hst
        exact ⟨k, _, rfl, rfl, Or.inl (by assumption), hst.1, hst.2, hv2⟩
    · obtain ⟨v, hv, hq⟩ := Option.bind_eq_some_iff.mp hr
      split at hq
      · cases hq
      · rename_i hst
        obtain ⟨v2, hv2, rfl⟩ := Option.map_eq_some_iff.mp hq
        obtain rfl := fin _ _ hv2
        simp only [Bool.or_eq_true, Bool.not_eq_true', beq_eq_false_iff_ne, not_or, Bool.not_eq_true, ne_eq, Decidable.not_not] at hst
        exact ⟨k, _, rfl, rfl, Or.inr hv, hst.1, hst.2, hv2⟩
  case invokestatic k =>
    simp only [pd_res] at hr
    refine Or.inr (Or.inr ?_)
    obtain ⟨v, hv, hq⟩ := Option.bind_eq_some_iff.mp hr
    split at hq
    · rename_i h1
      split at hq
      · cases hq
        simp only [pd_op, if_pos h1] at ho
        omega
      · cases hq
    · split at hq
      · rename_i hst
        obtain ⟨v2, hv2, rfl⟩ := Option.map_eq_some_iff.mp hq
        obtain rfl := fin _ _ hv2
        exact ⟨k, _, rfl, rfl, hv, hst, hv2⟩
      · cases hq
  case new k =>
    exfalso
    simp only [pd_res] at hr
    have h9 : ∀ v, pd_op (.new v) = 3 ∨ pd_op (.new v) = 4 → False := by
      intro v h
      simp only [pd_op] at h
      split at h <;> omega
    split at hr
    · split at hr
      · cases hr; exact h9 _ ho
      · cases hr
    · obtain ⟨v, hv, rfl⟩ := Option.map_eq_some_iff.mp hr
      exact h9 _ ho
  case jsr o => simp only [pd_res] at hr; cases hr
  case bipush n => simp only [pd_res] at hr; split at hr <;> cases hr; rcases ho with ho | ho <;> cases ho
  case sipush n => simp only [pd_res] at hr; split at hr <;> cases hr; rcases ho with ho | ho <;> cases ho
  case ldc2_w k => simp only [pd_res] at hr; obtain ⟨v, hv, rfl⟩ := Option.map_eq_some_iff.mp hr; rcases ho with ho | ho <;> cases ho
  case goto k => simp only [pd_res] at hr; obtain ⟨v, hv, rfl⟩ := Option.map_eq_some_iff.mp hr; rcases ho with ho | ho <;> cases ho
  case ifCond c k => simp only [pd_res] at hr; obtain ⟨v, hv, rfl⟩ := Option.map_eq_some_iff.mp hr; rcases ho with ho | ho <;> cases ho
  case if_icmp c k => simp only [pd_res] at hr; obtain ⟨v, hv, rfl⟩ := Option.map_eq_some_iff.mp hr; rcases ho with ho | ho <;> cases ho
  case getfield k => simp only [pd_res] at hr; obtain ⟨v, hv, rfl⟩ := Option.map_eq_some_iff.mp hr; rcases ho with ho | ho <;> cases ho
  case tableswitch a b c d => simp only [pd_res] at hr; split at hr <;> cases hr; rcases ho with ho | ho <;> cases ho
  case newarray t => simp only [pd_res] at hr; split at hr <;> cases hr; rcases ho with ho | ho <;> cases ho
  case anewarray t => simp only [pd_res] at hr; split at hr <;> cases hr; rcases ho with ho | ho <;> cases ho
  case putfield k => simp only [pd_res] at hr; obtain ⟨v, hv, hq⟩ := Option.bind_eq_some_iff.mp hr; split at hq <;> cases hq; rcases ho with ho | ho <;> cases ho
  all_goals
    simp only [pd_res, Option.some.injEq] at hr
    subst hr
    rcases ho with ho | ho <;> cases ho
theorem pd_opS {c : Nat} (h : c < 202) : pd_op (.invokespecial c) = 3 := by
  have h1 : ¬ c = 1000 := by omega
  simp only [pd_op, h1, if_false]
theorem pd_opT {c : Nat} (h : c < 202) : pd_op (.invokestatic c) = 4 := by
  have h1 : ¬ 1001 ≤ c := by omega
  simp only [pd_op, h1, if_false]
section PDZ
variable {b base L : Nat} {xs : Nat → Int32} {dC : Nat → ClassId} {dI : Nat → Nat → Nat} {cy : Nat → ClassId}
variable {p : Program} {l : Launch} {e : Env} {R : Room} {s : State} {m : MethodId} {args : Array Value} {below : List Frame} {meth : Method} {c : Code} {H : Heap} {locs : List Loc} {Q : State → Prop} {ls : Array Slot}
variable {mi pc np : Nat} {i : Instr} {lv st : List Value} {h h0 h1 h' : pd_H} {o : pd_Out}
theorem pd_plain {y : MethodName} {ws : List Cond} {rm : Room} {Pc : Array Value → State → Prop} {v : Option Value} {mc ms : Nat} (hM : vx_Met l y ws rm Pc (pd_Qc b base L xs dC dI cy (.inl v) h') (pd_XC b base L xs dC dI cy (.inl v) h') mc ms (pd_A base)) : Met l y ws rm Pc (pd_Qc b base L xs dC dI cy (.inl v) h') mc ms (pd_A base) := by
  intro p e ha hc hk s m args below hf happ hP hK
  obtain ⟨n, o, g1, g2, g3, g4⟩ := hM p e ha hc hk s m args below hf happ hP hK
  refine ⟨n, o, g1, g2, g3, ?_⟩
  rcases g4 with g4 | ⟨q, -, E, ce, L9, ⟨⟨k, hk9, -⟩, -⟩, -⟩
  · exact g4
  · cases hk9
set_option maxRecDepth 100000 in
set_option maxHeartbeats 4000000 in
/-- a callee's run, seen from its caller -/
theorem pd_called {cc : Nat} {as rest : List Value} (X : pd_Cx l p s m args meth c R mi) (hsz : base ≤ s.heap.size) (C : pd_Co b base L xs dC dI cy h s H) (hS : va_S (pd_A base) s.heap H locs) (hl : lv_has ls (pd_n mi) (pd_lvA b base lv)) (hle : pd_le h0 h) (h02 : h0.1.2.2 ≤ h0.1.1) (hex : h0.1.1 = h0.1.2.2 → s.heap.size = base + h0.1.2.2)
    (f : pd_fetch mi pc = some (i, np)) (ho : pd_op i = 3 ∨ pd_op i = 4) (hw : pd_who i = cc) (hvk : pd_vok i = true) (hlen : as.length = pd_na (pd_op i) cc) (hc8 : pd_cat rest ≤ 8) (hrc : pd_rcv (pd_op i) cc as h = true) (hM : cc < 201 → pd_Met l b base L xs dC dI cy cc as h o h1) (hcalm : pd_h cc ≠ [] → ∃ v, o = .inl v) (h1le : pd_le h h1) (hroom : h1.1.1 - h0.1.1 ≤ R.cells ∧ h1.1.2.1 - h0.1.2.1 ≤ R.slots) (hz : H.size ≤ s.heap.size + (h.1.1 - h0.1.1)) :
    np = pc + 3 ∧ pd_in mi pc = true ∧ vx_Run p l e R s m args below meth c H locs (h.1.1 - h0.1.1) (h.1.2.1 - h0.1.2.1) (h1.1.1 - h.1.1) (h1.1.2.1 - h.1.2.1) (F0 m pc ls ((as.reverse ++ rest).map (pd_tr b base))) (rest.map (pd_tr b base)) (pd_Qc b base L xs dC dI cy o h1 (as.map (pd_tr b base)).toArray) (pd_XC b base L xs dC dI cy o h1) (pd_A base) := by
  have X0 := X
  obtain ⟨hx, hb, hr, hml, hown, hts, hSx, hlocks, hname, htab, hfr, hlo, hnt⟩ := X
  obtain ⟨i0, n0, d, hres, rfl, hlen0⟩ := pd_fetch_inv f
  obtain ⟨a1, a2, a3, a4⟩ := id hle
  obtain ⟨b1, b2, b3, b4⟩ := id h1le
  have hDy : ∀ U : State, U.heap = H → s.WarmedH U.vm → pd_Dy b base L xs dC dI cy h U := fun t ht hW => pd_Dy_of hsz C hS hle h02 hex hz ht hW.alike
  have hpre : ∀ U : State, U.heap = H → s.WarmedH U.vm → pd_Pc b base L xs dC dI cy as h (as.map (pd_tr b base)).toArray U := fun U hU hW => ⟨rfl, pd_Sx_warm hW hSx, hDy U hU hW⟩
  have hcat : ((rest.map (pd_tr b base)).map fun v => v.category).sum = pd_cat rest := pd_cat_tr
  have hW8 : ∀ st9 : List Value, 2 * (F0 m pc ls st9).monitorRoom + ((rest.map (pd_tr b base)).map fun v => v.category).sum ≤ 8 := fun st9 => by rw [hcat]; show 2 * 0 + _ ≤ 8; omega
  have hf9 : h.1.1 - h0.1.1 + (h1.1.1 - h.1.1) ≤ R.cells ∧ h.1.2.1 - h0.1.2.1 + (h1.1.2.1 - h.1.2.1) ≤ R.slots := ⟨by omega, by omega⟩
  have hpar : ∀ cc, cc < 202 → ∀ sig, parseMethodDescriptor (pd_y cc).desc = some sig → pd_np cc = sig.parameters.length := by
    intro cc h9 sig hsig
    have := (pd_dat h9).2.2.2.1
    rw [hsig] at this
    exact (Option.some.inj this).symm
  have hcode : ∀ cc, cc < 201 → pd_h cc = [] → pd_cw cc = .code (pd_y cc) (pd_c cc) (pd_n cc) (pd_r cc) := fun cc _ h9 => by unfold pd_cw; rw [if_pos h9]
  rcases pd_res_call hres ho with ⟨k, c9, rfl, rfl, hk, hst, hcall⟩ | ⟨k, c9, rfl, rfl, hk, hst, hini, hcall⟩ | ⟨k, c9, rfl, rfl, hk, hst, hcall⟩
  all_goals
    have hw : c9 = cc := hw
    subst hw
    obtain ⟨-, h202, hro, hin⟩ := pd_call_inv hcall
    obtain ⟨h201, hro1, hro2⟩ := pd_room_ne h202 hro
    obtain ⟨hcls, -, hmh, -, hnone⟩ := pd_dat h202
    obtain rfl := pd_len1 (k := 3) hlen0 rfl (fun _ _ _ _ q => by cases q)
    refine ⟨rfl, hin, ?_⟩
    have hM := hM h201
    have hyy : pd_yy c9 = pd_y c9 := by unfold pd_yy; rw [if_pos h202]
    have hwst := hts _ (pd_wst h201)
    rw [hst] at hwst
  · -- virtual
    obtain ⟨a, as', rfl⟩ : ∃ a as', as = .ref a :: as' := by
      unfold pd_rcv at hrc
      split at hrc
      · rename_i h4 _; simp [pd_op] at h4
      · exact ⟨_, _, rfl⟩
      · exact absurd hrc (by simp)
    have hrc2 : ∃ fs, pd_get h a = .inr (pd_o c9, fs) := by
      simp only [pd_op, pd_rcv] at hrc
      split at hrc
      · rename_i ci fs hg
        rw [beq_iff_eq] at hrc
        exact ⟨fs, by rw [hg, hrc]⟩
      · exact absurd hrc (by simp)
    obtain ⟨fs, hg⟩ := hrc2
    have ho7 : pd_o c9 < 7 := by
      have h9 : (List.range 201).all (fun c => decide (pd_o c < 7) || pd_st c) = true := by decide +kernel
      have := List.all_eq_true.mp h9 c9 (List.mem_range.mpr h201)
      rw [hst] at this
      simpa using this
    obtain ⟨j, rfl, hj, hat, had⟩ := pd_Co_at (a := a) C (fun q => by rw [q, C.2.2.2.1.1] at hg; cases hg) (fun q => by rw [q] at hg; unfold pd_dead at hg; have := congrArg (fun z => match z with | .inr (a, _) => a | .inl _ => 0) hg; simp at this; omega)
    rw [hg] at hat
    have hnin : ((pd_y c9).name == "<init>") = false := by
      have := List.all_eq_true.mp pd_ini_b c9 (List.mem_range.mpr h201)
      simp only [Bool.or_eq_true, Bool.not_eq_true'] at this
      simp only [pd_vok, Bool.not_eq_true'] at hvk
      rcases this with q | q
      · rw [hvk] at q; cases q
      · exact q
    have hh : pd_h c9 = [] := by
      have h9 : (List.range 201).all (fun c => decide (pd_h c = []) || pd_st c) = true := by decide +kernel
      have := List.all_eq_true.mp h9 c9 (List.mem_range.mpr h201)
      rw [hst] at this
      simpa using this
    have hcd := hcode c9 h201 hh
    unfold pd_Met at hM
    have hlink := hts _ (pd_mw hk)
    rw [hyy] at hlink
    have := vx_runV (p := p) (e := e) (below := below) (meth := meth) (H := H) (locs := locs) (cells := h.1.1 - h0.1.1) (slots := h.1.2.1 - h0.1.2.1) (g := F0 m pc ls (((.ref (j + 1) :: as').reverse ++ rest).map (pd_tr b base))) (rest := rest.map (pd_tr b base)) (As := as'.map (pd_tr b base)) (b := base + j) (C := pd_cn (pd_o c9)) (nL := pd_n mi) (Ts := pd_tb) ⟨hx, hb, hml, hown, hts⟩ hM (bytes := pd_c c9) (maxL := pd_n c9) (ret := pd_r c9) (n := pd_np c9) (index := k)
      ⟨⟨rfl, rfl, by show pd_fr c9 + 1 ≤ R.frames; omega, by show 8 + (pd_n c9 + 11) + pd_lo c9 ≤ R.locals; omega, pd_words X0 h201, by rw [hcd]; exact List.mem_cons_self, by rw [← hcd]; exact hts _ (pd_cw_tb h201), by rw [hcls]; exact hts _ (pd_winit h201), by rw [hcls]; exact hmh, fun sig hs => hpar c9 h202 sig hs, hlink⟩, hwst, hts _ (pd_wsel h201 hst hnin)⟩
      ⟨pd_blind, va_recv C.2.1 C.1 (ci := pd_o c9) (q0 := j) (pd_cl_at ho7) hat, hpre⟩ rfl (by rw [List.length_map]; simp only [List.length_cons, pd_na, pd_op, if_true] at hlen; omega) hl.1 (by simp [pd_tr, pd_ad]) (hW8 _) d hf9
    exact this
  · -- constructors
    obtain ⟨a, as', rfl⟩ : ∃ a as', as = .ref a :: as' := by
      unfold pd_rcv at hrc
      split at hrc
      · rename_i h4 _; rw [pd_opS h202] at h4; exact absurd h4 (by decide)
      · exact ⟨_, _, rfl⟩
      · exact absurd hrc (by simp)
    have hop : pd_op (.invokespecial c9) = 3 := pd_opS h202
    have hh : pd_h c9 = [] := by
      have h9 : (List.range 201).all (fun c => decide (pd_h c = []) || pd_st c) = true := by decide +kernel
      have := List.all_eq_true.mp h9 c9 (List.mem_range.mpr h201)
      rw [hst] at this
      simpa using this
    have hcd := hcode c9 h201 hh
    have hrn : pd_r c9 = none := hnone hini
    rw [hrn] at hcd
    unfold pd_Met at hM
    rcases hk with hk | hk
    · have hlink := hts _ (pd_mw hk)
      rw [hyy] at hlink
      exact vx_runI (p := p) (e := e) (below := below) (meth := meth) (H := H) (locs := locs) (cells := h.1.1 - h0.1.1) (slots := h.1.2.1 - h0.1.2.1) (g := F0 m pc ls (((.ref a :: as').reverse ++ rest).map (pd_tr b base))) (rest := rest.map (pd_tr b base)) (As := as'.map (pd_tr b base)) (b := pd_ad b base a) (nL := pd_n mi) (Ts := pd_tb) ⟨hx, hb, hml, hown, hts⟩ hM (bytes := pd_c c9) (maxL := pd_n c9) (n := pd_np c9) (index := k)
        ⟨⟨rfl, rfl, by show pd_fr c9 + 1 ≤ R.frames; omega, by show 8 + (pd_n c9 + 11) + pd_lo c9 ≤ R.locals; omega, pd_words X0 h201, by rw [hcd]; exact List.mem_cons_self, by rw [← hcd]; exact hts _ (pd_cw_tb h201), by rw [hcls]; exact hts _ (pd_winit h201), by rw [hcls]; exact hmh, fun sig hs => hpar c9 h202 sig hs, hlink⟩, hini, hwst⟩
        ⟨pd_blind, hpre⟩ rfl (by rw [List.length_map]; rw [hop] at hlen; simp only [List.length_cons, pd_na, if_true] at hlen; omega) hl.1 (by simp [pd_tr]) (hW8 _) d hf9
    · obtain ⟨p9, hp9⟩ := pd_zp_in tbn_b _ (pd_lk_in hk)
      have hnest : va_Nw (Cond.methodLinkNest (pd_cn (pd_o mi)) k (pd_y c9) "PolytopeDescent") s := hSx.1 _ (pd_as_in hp9)
      exact vx_runIN (p := p) (e := e) (below := below) (meth := meth) (H := H) (locs := locs) (cells := h.1.1 - h0.1.1) (slots := h.1.2.1 - h0.1.2.1) (g := F0 m pc ls (((.ref a :: as').reverse ++ rest).map (pd_tr b base))) (rest := rest.map (pd_tr b base)) (As := as'.map (pd_tr b base)) (b := pd_ad b base a) (nL := pd_n mi) (Ts := pd_tb) ⟨hx, hb, hml, hown, hts⟩ hM (bytes := pd_c c9) (maxL := pd_n c9) (n := pd_np c9) (index := k) (host := "PolytopeDescent")
        ⟨⟨⟨rfl, rfl, by show pd_fr c9 + 1 ≤ R.frames; omega, by show 8 + (pd_n c9 + 11) + pd_lo c9 ≤ R.locals; omega, pd_words X0 h201, by rw [hcd]; exact List.mem_cons_self⟩, by rw [← hcd]; exact hts _ (pd_cw_tb h201), by rw [hcls]; exact hts _ (pd_winit h201), by rw [hcls]; exact hmh, fun sig hs => hpar c9 h202 sig hs, va_Nw.use rfl hnest⟩, hini, hwst⟩
        ⟨pd_blind, hpre⟩ rfl (by rw [List.length_map]; rw [hop] at hlen; simp only [List.length_cons, pd_na, if_true] at hlen; omega) hl.1 (by simp [pd_tr]) (hW8 _) d hf9
  · -- static
    have hop : pd_op (.invokestatic c9) = 4 := pd_opT h202
    have hlink := hts _ (pd_mw hk)
    rw [hyy] at hlink
    have hlen9 : (as.map (pd_tr b base)).length = pd_np c9 := by rw [List.length_map, hlen, hop]; rfl
    by_cases hh : pd_h c9 = []
    · have hcd := hcode c9 h201 hh
      unfold pd_Met at hM
      exact vx_runS (p := p) (e := e) (below := below) (meth := meth) (H := H) (locs := locs) (cells := h.1.1 - h0.1.1) (slots := h.1.2.1 - h0.1.2.1) (g := F0 m pc ls ((as.reverse ++ rest).map (pd_tr b base))) (rest := rest.map (pd_tr b base)) (As := as.map (pd_tr b base)) (nL := pd_n mi) (Ts := pd_tb) ⟨hx, hb, hml, hown, hts⟩ hM (bytes := pd_c c9) (maxL := pd_n c9) (ret := pd_r c9) (n := pd_np c9) (index := k)
        ⟨⟨rfl, rfl, by show pd_fr c9 + 1 ≤ R.frames; omega, by show 8 + (pd_n c9 + 11) + pd_lo c9 ≤ R.locals; omega, pd_words X0 h201, by rw [hcd]; exact List.mem_cons_self, by rw [← hcd]; exact hts _ (pd_cw_tb h201), by rw [hcls]; exact hts _ (pd_winit h201), by rw [hcls]; exact hmh, fun sig hs => hpar c9 h202 sig hs, hlink⟩, hwst⟩
        ⟨pd_blind, hpre⟩ rfl hlen9 hl.1 (by simp) (hW8 _) d hf9
    · obtain ⟨v, rfl⟩ := hcalm hh
      have hcd : pd_cw c9 = .codeWith (pd_y c9) (pd_c c9) (pd_n c9) (pd_r c9) (pd_h c9) := by unfold pd_cw; rw [if_neg hh]
      unfold pd_Met at hM
      have hrun := vx_runSW (p := p) (e := e) (below := below) (meth := meth) (H := H) (locs := locs) (cells := h.1.1 - h0.1.1) (slots := h.1.2.1 - h0.1.2.1) (g := F0 m pc ls ((as.reverse ++ rest).map (pd_tr b base))) (rest := rest.map (pd_tr b base)) (As := as.map (pd_tr b base)) (nL := pd_n mi) (Ts := pd_tb) (R := R) ⟨hx, hb, hml, hown, hts⟩ (pd_plain hM) (bytes := pd_c c9) (maxL := pd_n c9) (ret := pd_r c9) (hh := pd_h c9) (n := pd_np c9) (index := k)
        ⟨⟨rfl, rfl, by show pd_fr c9 + 1 ≤ R.frames; omega, by show 8 + (pd_n c9 + 11) + pd_lo c9 ≤ R.locals; omega, pd_words X0 h201, by rw [hcd]; exact List.mem_cons_self⟩, by rw [← hcd]; exact hts _ (pd_cw_tb h201), by rw [hcls]; exact hts _ (pd_winit h201), by rw [hcls]; exact hmh, fun sig hs => hpar c9 h202 sig hs, hlink, hwst⟩
        ⟨pd_blind, hpre⟩ rfl hlen9 hl.1 (by simp) (hW8 _) d hf9
      intro T hT XX
      exact Or.inl (hrun T hT XX)
theorem pd_take_drop {n : Nat} {st : List Value} : (st.take n).reverse.reverse ++ st.drop n = st := by rw [List.reverse_reverse, List.take_append_drop]
/-- THE BODY: from any point of a method that the pure machine runs to an end, the machine does -/
def pd_Bd (l : Launch) (b base L : Nat) (xs : Nat → Int32) (dC : Nat → ClassId) (dI : Nat → Nat → Nat) (cy : Nat → ClassId) (n : Nat) : Prop :=
  ∀ (mi pc : Nat) (lv st : List Value) (h : pd_H) (o : pd_Out) (h' : pd_H), pd_go n mi pc lv st h = some (o, h') →
  ∀ (p : Program) (e : Env) (R : Room) (s : State) (m : MethodId) (args : Array Value) (below : List Frame) (meth : Method) (c : Code) (H : Heap) (locs : List Loc) (ls : Array Slot) (h0 : pd_H),
    pd_Cx l p s m args meth c R mi → b < base → base ≤ s.heap.size → pd_Co b base L xs dC dI cy h s H → va_S (pd_A base) s.heap H locs → lv_has ls (pd_n mi) (pd_lvA b base lv) → lv.length = pd_n mi → pd_le h0 h → h0.1.2.2 ≤ h0.1.1 → (h0.1.1 = h0.1.2.2 → s.heap.size = base + h0.1.2.2) → (h'.1.1 - h0.1.1 ≤ R.cells ∧ h'.1.2.1 - h0.1.2.1 ≤ R.slots) →
    W p l e R s m args below meth c H locs (h.1.1 - h0.1.1) (h.1.2.1 - h0.1.2.1) (vx_MQ below (pd_Qc b base L xs dC dI cy o h') (pd_XC b base L xs dC dI cy o h') args s (h'.1.1 - h0.1.1) (h'.1.2.1 - h0.1.2.1) (pd_A base)) (F0 m pc ls (st.map (pd_tr b base)))
theorem pd_met_of (hl : l.stackTraces = false) (hbb : b < base) {n : Nat} (hB : pd_Bd l b base L xs dC dI cy n) {cc : Nat} {as : List Value} (hcc : cc < 201) (hgo : pd_go n cc 0 (pd_ent (pd_n cc) as) [] h = some (o, h')) (hsl : (pd_sl as).length ≤ pd_n cc) : pd_Met l b base L xs dC dI cy cc as h o h' := by
  obtain ⟨hcls, hpl, hmh, -, hnone⟩ := pd_dat (c := cc) (by omega)
  have body : ∀ (p : Program) (e : Env) (s : State) (m : MethodId) (args : Array Value) (below : List Frame) (meth : Method) (c : Code), p.tables.exec = Jvm.exec → c.code = pd_c cc → meth.sig.returnType = pd_r cc → c.maxLocals = pd_n cc → s.vm.findClass (pd_y cc).cls = some m.cls → (∀ w ∈ pd_cw cc :: pd_tb, w.before args s = true) → meth.locks = false → ((pd_y cc).name = "<init>" → meth.name = "<init>") → c.exceptionTable.toList = tableOf (pd_h cc) → pd_Pc b base L xs dC dI cy as h args s →
      W p l e (headSpec (pd_cw cc :: pd_tb) (pd_rm cc h h')).room s m args below meth c s.heap [] 0 0 (vx_MQ below (pd_Qc b base L xs dC dI cy o h') (pd_XC b base L xs dC dI cy o h') args s (h'.1.1 - h.1.1) (h'.1.2.1 - h.1.2.1) (pd_A base)) (entryFrame m args (pd_n cc)) := by
    intro p e s m args below meth c hx hb hr hml hown hts hlocks hname htab hP
    obtain ⟨rfl, hSx, hC, hbz, hex, h02⟩ := hP
    have hle := pd_go_le _ _ _ _ _ _ _ _ hgo
    rw [lg_entry_eq]
    have hll := lv_entry (as.map (pd_tr b base)) (n := pd_n cc) (by rw [pd_sl_map]; exact hsl)
    have hW := hB cc 0 _ [] h o h' hgo p e (pd_rm cc h h') s m (as.map (pd_tr b base)).toArray below meth c s.heap [] _ h
      ⟨hx, hb, hr, hml, by rw [← hcls]; exact hown, fun w hw => hts w (List.mem_cons_of_mem _ hw), hSx, hlocks, hname, htab, Nat.le_refl _, Nat.le_refl _, hl⟩ hbb hbz hC va_S.rf (pd_has_sub hll pd_ent_sub) (pd_ent_len hsl) (pd_le_rf h) h02 hex ⟨Nat.le_refl _, Nat.le_refl _⟩
    rw [Nat.sub_self, Nat.sub_self] at hW
    exact hW
  unfold pd_Met
  by_cases hh : pd_h cc = []
  · have hcd : pd_cw cc = .code (pd_y cc) (pd_c cc) (pd_n cc) (pd_r cc) := by unfold pd_cw; rw [if_pos hh]
    refine vx_ofW (cc := pd_c cc) (maxL := pd_n cc) (ret := pd_r cc) (by rw [hcls]; exact hpl) (by rw [hcd]) ?_
    intro p e s m args below meth c s₁ B hml ht hv
    have hnil : c.exceptionTable.toList = tableOf (pd_h cc) := by
      rw [hh]
      exact List.eq_nil_iff_forall_not_mem.mpr fun x hx => ht x hx
    exact body p e s m args below meth c B.exec B.bytes B.returns hml (findClass_of_methodNamed B.named) (atoms_spec B.pre) B.notSynchronized (fun q => (name_of_methodNamed B.named B.method).1.trans q) hnil hv
  · have hcd : pd_cw cc = .codeWith (pd_y cc) (pd_c cc) (pd_n cc) (pd_r cc) (pd_h cc) := by unfold pd_cw; rw [if_neg hh]
    refine vx_ofWH (cc := pd_c cc) (maxL := pd_n cc) (ret := pd_r cc) (hh := pd_h cc) (by rw [hcls]; exact hpl) (by rw [hcd]) ?_
    intro p e s m args below meth c s₁ B hml hv
    have hts := atoms_spec B.pre
    have htab := vx_table (x := pd_y cc) B (hh := pd_h cc) (bytes := pd_c cc) (maxL' := pd_n cc) (ret' := pd_r cc) (by rw [← hcd]; exact hts _ List.mem_cons_self)
    exact body p e s m args below meth c B.exec B.bytes B.returns hml (findClass_of_methodNamed B.named) hts B.notSynchronized (fun q => (name_of_methodNamed B.named B.method).1.trans q) htab hv
set_option maxHeartbeats 4000000 in
theorem pd_sound (hl : l.stackTraces = false) (hbb0 : b < base) (n : Nat) : pd_Bd l b base L xs dC dI cy n := by
  induction n with
  | zero => intro mi pc lv st h o h' e; exact absurd e (by simp [pd_go])
  | succ n ih =>
    intro mi pc lv st h o h' hgo p e R s m args below meth c H locs ls h0 X hbb hsz C hS hlv hn hle h02 hex hroom
    rw [pd_run_succ] at hgo
    unfold pd_body at hgo
    split at hgo
    · exact absurd hgo (by simp)
    · rename_i i np hf
      split at hgo
      · rename_i ho
        split at hgo
        · rename_i pc' lv' st' h1 hs
          have hle1 := pd_stp_le hs
          have hle2 := pd_go_le _ _ _ _ _ _ _ _ hgo
          obtain ⟨a1, a2, a3, a4⟩ := id hle1
          obtain ⟨b1, b2, b3, b4⟩ := id hle2
          exact pd_so X hbb hsz C hS hlv hn ⟨by omega, by omega⟩ hle h02 hex hf ho hs (fun H1 locs1 ls1 C1 hS1 hl1 hn1 => ih _ _ _ _ _ _ _ hgo p e R s m args below meth c H1 locs1 ls1 h0 X hbb hsz C1 hS1 hl1 hn1 (pd_le_tr hle hle1) h02 hex hroom)
        · exact absurd hgo (by simp)
      · exact pd_returned X hsz C hS hle h02 hex hf hgo
      · rename_i ho
        split at hgo
        · rename_i hc
          simp only [Option.some.injEq, Prod.mk.injEq] at hgo
          obtain ⟨rfl, rfl⟩ := hgo
          exact pd_throws X hbb hsz C hS hlv hle h02 hroom hf ho hc.1 hc.2
        · exact absurd hgo (by simp)
      · rename_i k hk0 hk1 hk2
        have ho : pd_op i = 3 ∨ pd_op i = 4 := by
          have : pd_op i < 5 := by
            cases i <;> first | (simp only [pd_op]; omega) | (simp only [pd_op]; split <;> omega)
          have e0 : pd_op i ≠ 0 := by assumption
          have e1 : pd_op i ≠ 1 := by assumption
          have e2 : pd_op i ≠ 2 := by assumption
          omega
        split at hgo
        · rename_i hc
          obtain ⟨hvk, hln, hc8, hsl, hrc⟩ := hc
          have hlen : (st.take (pd_na (pd_op i) (pd_who i))).reverse.length = pd_na (pd_op i) (pd_who i) := by rw [List.length_reverse, List.length_take]; omega
          split at hgo
          · rename_i v h1 hv
            have hle1 := pd_go_le _ _ _ _ _ _ _ _ hv
            have hle2 := pd_go_le _ _ _ _ _ _ _ _ hgo
            obtain ⟨z1, z2, z3, z4⟩ := id hle
            obtain ⟨a1, a2, a3, a4⟩ := id hle1
            obtain ⟨b1, b2, b3, b4⟩ := id hle2
            refine W.sz (fun hz => ?_)
            obtain ⟨rfl, hin, hrun⟩ := pd_called (o := .inl v) (h1 := h1) (e := e) (below := below) X hsz C hS hlv hle h02 hex hf ho rfl hvk hlen hc8 hrc (fun h201 => pd_met_of hl hbb ih h201 hv hsl) (fun _ => ⟨v, rfl⟩) hle1 ⟨by omega, by omega⟩ hz
            rw [pd_take_drop] at hrun
            refine pd_after hsz hrun hS (by omega) (by omega) (fun v' H1 locs1 q C1 hS1 => ?_) (fun k H1 locs1 q ce q1 => by cases q1)
            cases q
            have := ih _ _ _ _ _ _ _ hgo p e R s m args below meth c H1 locs1 ls h0 X hbb hsz C1 hS1 hlv hn (pd_le_tr hle hle1) h02 hex hroom
            rw [List.map_append] at this
            have hv9 : (v.toList).map (pd_tr b base) = (v.map (pd_tr b base)).toList := by cases v <;> rfl
            rw [hv9] at this
            exact this
          · rename_i E h1 hv
            have hle1 := pd_go_le _ _ _ _ _ _ _ _ hv
            obtain ⟨rfl, hcat⟩ := pd_catch_eq hgo
            obtain ⟨z1, z2, z3, z4⟩ := id hle
            obtain ⟨a1, a2, a3, a4⟩ := id hle1
            refine W.sz (fun hz => ?_)
            obtain ⟨rfl, hin, hrun⟩ := pd_called (o := .inr E) (h1 := h') (e := e) (below := below) X hsz C hS hlv hle h02 hex hf ho rfl hvk hlen hc8 hrc (fun h201 => pd_met_of hl hbb ih h201 hv hsl) (fun hh => pd_go_calm _ _ _ _ _ _ _ _ hh hv) hle1 ⟨by omega, by omega⟩ hz
            rw [pd_take_drop] at hrun
            refine pd_after hsz hrun hS (by omega) (by omega) (fun v' H1 locs1 q => by cases q) (fun k H1 locs1 q ce q1 hk3 C1 hS1 hcell hcv hcl => ?_)
            cases q1
            rcases hcat with ⟨hp, r, hct, rfl⟩ | ⟨hct, hh, rfl⟩
            · exact pd_catches X hsz C1 hS1 (pd_le_tr hle hle1) h02 hex hlv hct hcell hcv hcl hin
            · refine vx_sz (fun hz1 => ?_)
              obtain ⟨hx, hb, hr, hml, hown, hts, hSx, hlocks, hname, htab, hfr, hlo, hnt⟩ := X
              exact vx_out (by rw [htab, hh]; exact fun _ h => nomatch h) hlocks hcell hcv hcl (fun t ht hvm => ⟨⟨_, rfl, hk3, rfl⟩, pd_Dy_of hsz C1 hS1 (pd_le_tr hle hle1) h02 hex hz1 ht hvm, hS1.F ht⟩) hS1.2.2 (Nat.le_refl _) (Nat.le_refl _)
          · exact absurd hgo (by simp)
        · exact absurd hgo (by simp)
end PDZ
