/-! Every plain step. -/
theorem pd_len1 {i0 : Instr} {n0 k : Nat} (h : n0 = pd_len i0 ∨ ∃ d lo hi os, i0 = .tableswitch d lo hi os) (hk : pd_len i0 = k) (hnt : ∀ d lo hi os, i0 ≠ .tableswitch d lo hi os) : n0 = k := by
  rcases h with q | ⟨d, lo, hi, os, q⟩
  · exact q.trans hk
  · exact absurd q (hnt d lo hi os)
theorem pd_call_inv {mi pc c c' : Nat} (h : pd_call mi pc c = some c') : c' = c ∧ c < 202 ∧ pd_room mi c = true ∧ pd_in mi pc = true := by
  unfold pd_call at h
  split at h
  · rename_i hc
    simp only [Bool.and_eq_true, decide_eq_true_eq] at hc
    cases h
    exact ⟨rfl, hc.1, hc.2.1, hc.2.2⟩
  · exact absurd h (by simp)
section PDU
variable {b base L : Nat} {xs : Nat → Int32} {dC : Nat → ClassId} {dI : Nat → Nat → Nat} {cy : Nat → ClassId}
variable {p : Program} {l : Launch} {e : Env} {R : Room} {s : State} {m : MethodId} {args : Array Value} {below : List Frame} {meth : Method} {c : Code} {H : Heap} {locs : List Loc} {Q : State → Prop} {ls : Array Slot}
variable {mi pc pc' np : Nat} {i : Instr} {lv lv' st st' : List Value} {h h0 h1 : pd_H}
set_option maxHeartbeats 4000000 in
theorem pd_so (X : pd_Cx l p s m args meth c R mi) (hbb : b < base) (hsz : base ≤ s.heap.size) (C : pd_Co b base L xs dC dI cy h s H) (hS : va_S (pd_A base) s.heap H locs) (hl : lv_has ls (pd_n mi) (pd_lvA b base lv)) (hn : lv.length = pd_n mi) (hroom : h1.1.1 - h0.1.1 ≤ R.cells ∧ h1.1.2.1 - h0.1.2.1 ≤ R.slots) (hle : pd_le h0 h) (h02 : h0.1.2.2 ≤ h0.1.1) (hex : h0.1.1 = h0.1.2.2 → s.heap.size = base + h0.1.2.2) (f : pd_fetch mi pc = some (i, np)) (ho : pd_op i = 0) (hs : pd_stp np i lv st h = some (pc', lv', st', h1)) (kk : ∀ (H1 : Heap) (locs1 : List Loc) (ls1 : Array Slot), pd_Co b base L xs dC dI cy h1 s H1 → va_S (pd_A base) s.heap H1 locs1 → lv_has ls1 (pd_n mi) (pd_lvA b base lv') → lv'.length = pd_n mi → W p l e R s m args below meth c H1 locs1 (h1.1.1 - h0.1.1) (h1.1.2.1 - h0.1.2.1) Q (F0 m pc' ls1 (st'.map (pd_tr b base)))) : W p l e R s m args below meth c H locs (h.1.1 - h0.1.1) (h.1.2.1 - h0.1.2.1) Q (F0 m pc ls (st.map (pd_tr b base))) := by
  obtain ⟨i0, n0, d, hres, rfl, hlen⟩ := pd_fetch_inv f
  cases i0
  case iconst n =>
    obtain rfl := pd_len1 (k := 1) hlen rfl (fun _ _ _ _ q => by cases q)
    simp only [pd_res, Option.some.injEq] at hres
    subst hres
    exact so_iconst X hbb hsz C hS hl hn d hs kk
  case lconst n =>
    obtain rfl := pd_len1 (k := 1) hlen rfl (fun _ _ _ _ q => by cases q)
    simp only [pd_res, Option.some.injEq] at hres
    subst hres
    exact so_lconst X hbb hsz C hS hl hn d hs kk
  case bipush n =>
    obtain rfl := pd_len1 (k := 2) hlen rfl (fun _ _ _ _ q => by cases q)
    simp only [pd_res] at hres
    split at hres
    · rename_i hv
      simp only [Option.some.injEq] at hres
      subst hres
      exact so_bipush X hbb hsz C hS hl hn hv d hs kk
    · exact absurd hres (by simp)
  case sipush n =>
    obtain rfl := pd_len1 (k := 3) hlen rfl (fun _ _ _ _ q => by cases q)
    simp only [pd_res] at hres
    split at hres
    · rename_i hv
      simp only [Option.some.injEq] at hres
      subst hres
      exact so_sipush X hbb hsz C hS hl hn hv d hs kk
    · exact absurd hres (by simp)
  case ldc2_w k =>
    obtain rfl := pd_len1 (k := 3) hlen rfl (fun _ _ _ _ q => by cases q)
    simp only [pd_res] at hres
    obtain ⟨v, hk, rfl⟩ := Option.map_eq_some_iff.mp hres
    exact so_ldc2 X hbb hsz C hS hl hn hk d hs kk
  case iload k =>
    obtain rfl := pd_len1 (k := 2) hlen rfl (fun _ _ _ _ q => by cases q)
    simp only [pd_res, Option.some.injEq] at hres
    subst hres
    exact so_iload X hbb hsz C hS hl hn d hs kk
  case iload_n k =>
    obtain rfl := pd_len1 (k := 1) hlen rfl (fun _ _ _ _ q => by cases q)
    simp only [pd_res, Option.some.injEq] at hres
    subst hres
    exact so_iload_n X hbb hsz C hS hl hn d hs kk
  case istore k =>
    obtain rfl := pd_len1 (k := 2) hlen rfl (fun _ _ _ _ q => by cases q)
    simp only [pd_res, Option.some.injEq] at hres
    subst hres
    exact so_istore X hbb hsz C hS hl hn d hs kk
  case istore_n k =>
    obtain rfl := pd_len1 (k := 1) hlen rfl (fun _ _ _ _ q => by cases q)
    simp only [pd_res, Option.some.injEq] at hres
    subst hres
    exact so_istore_n X hbb hsz C hS hl hn d hs kk
  case lload k =>
    obtain rfl := pd_len1 (k := 2) hlen rfl (fun _ _ _ _ q => by cases q)
    simp only [pd_res, Option.some.injEq] at hres
    subst hres
    exact so_lload X hbb hsz C hS hl hn d hs kk
  case lload_n k =>
    obtain rfl := pd_len1 (k := 1) hlen rfl (fun _ _ _ _ q => by cases q)
    simp only [pd_res, Option.some.injEq] at hres
    subst hres
    exact so_lload_n X hbb hsz C hS hl hn d hs kk
  case lstore k =>
    obtain rfl := pd_len1 (k := 2) hlen rfl (fun _ _ _ _ q => by cases q)
    simp only [pd_res, Option.some.injEq] at hres
    subst hres
    exact so_lstore X hbb hsz C hS hl hn d hs kk
  case lstore_n k =>
    obtain rfl := pd_len1 (k := 1) hlen rfl (fun _ _ _ _ q => by cases q)
    simp only [pd_res, Option.some.injEq] at hres
    subst hres
    exact so_lstore_n X hbb hsz C hS hl hn d hs kk
  case aload k =>
    obtain rfl := pd_len1 (k := 2) hlen rfl (fun _ _ _ _ q => by cases q)
    simp only [pd_res, Option.some.injEq] at hres
    subst hres
    exact so_aload X hbb hsz C hS hl hn d hs kk
  case aload_n k =>
    obtain rfl := pd_len1 (k := 1) hlen rfl (fun _ _ _ _ q => by cases q)
    simp only [pd_res, Option.some.injEq] at hres
    subst hres
    exact so_aload_n X hbb hsz C hS hl hn d hs kk
  case astore k =>
    obtain rfl := pd_len1 (k := 2) hlen rfl (fun _ _ _ _ q => by cases q)
    simp only [pd_res, Option.some.injEq] at hres
    subst hres
    exact so_astore X hbb hsz C hS hl hn d hs kk
  case astore_n k =>
    obtain rfl := pd_len1 (k := 1) hlen rfl (fun _ _ _ _ q => by cases q)
    simp only [pd_res, Option.some.injEq] at hres
    subst hres
    exact so_astore_n X hbb hsz C hS hl hn d hs kk
  case iinc k n =>
    obtain rfl := pd_len1 (k := 3) hlen rfl (fun _ _ _ _ q => by cases q)
    simp only [pd_res, Option.some.injEq] at hres
    subst hres
    exact so_iinc X hbb hsz C hS hl hn d hs kk
  case iadd =>
    obtain rfl := pd_len1 (k := 1) hlen rfl (fun _ _ _ _ q => by cases q)
    simp only [pd_res, Option.some.injEq] at hres
    subst hres
    exact so_iadd X hbb hsz C hS hl hn d hs kk
  case isub =>
    obtain rfl := pd_len1 (k := 1) hlen rfl (fun _ _ _ _ q => by cases q)
    simp only [pd_res, Option.some.injEq] at hres
    subst hres
    exact so_isub X hbb hsz C hS hl hn d hs kk
  case imul =>
    obtain rfl := pd_len1 (k := 1) hlen rfl (fun _ _ _ _ q => by cases q)
    simp only [pd_res, Option.some.injEq] at hres
    subst hres
    exact so_imul X hbb hsz C hS hl hn d hs kk
  case iand =>
    obtain rfl := pd_len1 (k := 1) hlen rfl (fun _ _ _ _ q => by cases q)
    simp only [pd_res, Option.some.injEq] at hres
    subst hres
    exact so_iand X hbb hsz C hS hl hn d hs kk
  case ior =>
    obtain rfl := pd_len1 (k := 1) hlen rfl (fun _ _ _ _ q => by cases q)
    simp only [pd_res, Option.some.injEq] at hres
    subst hres
    exact so_ior X hbb hsz C hS hl hn d hs kk
  case ishl =>
    obtain rfl := pd_len1 (k := 1) hlen rfl (fun _ _ _ _ q => by cases q)
    simp only [pd_res, Option.some.injEq] at hres
    subst hres
    exact so_ishl X hbb hsz C hS hl hn d hs kk
  case ishr =>
    obtain rfl := pd_len1 (k := 1) hlen rfl (fun _ _ _ _ q => by cases q)
    simp only [pd_res, Option.some.injEq] at hres
    subst hres
    exact so_ishr X hbb hsz C hS hl hn d hs kk
  case idiv =>
    obtain rfl := pd_len1 (k := 1) hlen rfl (fun _ _ _ _ q => by cases q)
    simp only [pd_res, Option.some.injEq] at hres
    subst hres
    exact so_idiv X hbb hsz C hS hl hn d hs kk
  case irem =>
    obtain rfl := pd_len1 (k := 1) hlen rfl (fun _ _ _ _ q => by cases q)
    simp only [pd_res, Option.some.injEq] at hres
    subst hres
    exact so_irem X hbb hsz C hS hl hn d hs kk
  case ladd =>
    obtain rfl := pd_len1 (k := 1) hlen rfl (fun _ _ _ _ q => by cases q)
    simp only [pd_res, Option.some.injEq] at hres
    subst hres
    exact so_ladd X hbb hsz C hS hl hn d hs kk
  case lsub =>
    obtain rfl := pd_len1 (k := 1) hlen rfl (fun _ _ _ _ q => by cases q)
    simp only [pd_res, Option.some.injEq] at hres
    subst hres
    exact so_lsub X hbb hsz C hS hl hn d hs kk
  case lmul =>
    obtain rfl := pd_len1 (k := 1) hlen rfl (fun _ _ _ _ q => by cases q)
    simp only [pd_res, Option.some.injEq] at hres
    subst hres
    exact so_lmul X hbb hsz C hS hl hn d hs kk
  case land =>
    obtain rfl := pd_len1 (k := 1) hlen rfl (fun _ _ _ _ q => by cases q)
    simp only [pd_res, Option.some.injEq] at hres
    subst hres
    exact so_land X hbb hsz C hS hl hn d hs kk
  case lor =>
    obtain rfl := pd_len1 (k := 1) hlen rfl (fun _ _ _ _ q => by cases q)
    simp only [pd_res, Option.some.injEq] at hres
    subst hres
    exact so_lor X hbb hsz C hS hl hn d hs kk
  case ldiv =>
    obtain rfl := pd_len1 (k := 1) hlen rfl (fun _ _ _ _ q => by cases q)
    simp only [pd_res, Option.some.injEq] at hres
    subst hres
    exact so_ldiv X hbb hsz C hS hl hn d hs kk
  case lrem =>
    obtain rfl := pd_len1 (k := 1) hlen rfl (fun _ _ _ _ q => by cases q)
    simp only [pd_res, Option.some.injEq] at hres
    subst hres
    exact so_lrem X hbb hsz C hS hl hn d hs kk
  case ineg =>
    obtain rfl := pd_len1 (k := 1) hlen rfl (fun _ _ _ _ q => by cases q)
    simp only [pd_res, Option.some.injEq] at hres
    subst hres
    exact so_ineg X hbb hsz C hS hl hn d hs kk
  case lneg =>
    obtain rfl := pd_len1 (k := 1) hlen rfl (fun _ _ _ _ q => by cases q)
    simp only [pd_res, Option.some.injEq] at hres
    subst hres
    exact so_lneg X hbb hsz C hS hl hn d hs kk
  case i2l =>
    obtain rfl := pd_len1 (k := 1) hlen rfl (fun _ _ _ _ q => by cases q)
    simp only [pd_res, Option.some.injEq] at hres
    subst hres
    exact so_i2l X hbb hsz C hS hl hn d hs kk
  case l2i =>
    obtain rfl := pd_len1 (k := 1) hlen rfl (fun _ _ _ _ q => by cases q)
    simp only [pd_res, Option.some.injEq] at hres
    subst hres
    exact so_l2i X hbb hsz C hS hl hn d hs kk
  case lcmp =>
    obtain rfl := pd_len1 (k := 1) hlen rfl (fun _ _ _ _ q => by cases q)
    simp only [pd_res, Option.some.injEq] at hres
    subst hres
    exact so_lcmp X hbb hsz C hS hl hn d hs kk
  case lshl =>
    obtain rfl := pd_len1 (k := 1) hlen rfl (fun _ _ _ _ q => by cases q)
    simp only [pd_res, Option.some.injEq] at hres
    subst hres
    exact so_lshl X hbb hsz C hS hl hn d hs kk
  case lushr =>
    obtain rfl := pd_len1 (k := 1) hlen rfl (fun _ _ _ _ q => by cases q)
    simp only [pd_res, Option.some.injEq] at hres
    subst hres
    exact so_lushr X hbb hsz C hS hl hn d hs kk
  case dup =>
    obtain rfl := pd_len1 (k := 1) hlen rfl (fun _ _ _ _ q => by cases q)
    simp only [pd_res, Option.some.injEq] at hres
    subst hres
    exact so_dup X hbb hsz C hS hl hn d hs kk
  case pop =>
    obtain rfl := pd_len1 (k := 1) hlen rfl (fun _ _ _ _ q => by cases q)
    simp only [pd_res, Option.some.injEq] at hres
    subst hres
    exact so_pop X hbb hsz C hS hl hn d hs kk
  case dup2 =>
    obtain rfl := pd_len1 (k := 1) hlen rfl (fun _ _ _ _ q => by cases q)
    simp only [pd_res, Option.some.injEq] at hres
    subst hres
    exact so_dup2 X hbb hsz C hS hl hn d hs kk
  case iaload =>
    obtain rfl := pd_len1 (k := 1) hlen rfl (fun _ _ _ _ q => by cases q)
    simp only [pd_res, Option.some.injEq] at hres
    subst hres
    exact so_iaload X hbb hsz C hS hl hn d hs kk
  case laload =>
    obtain rfl := pd_len1 (k := 1) hlen rfl (fun _ _ _ _ q => by cases q)
    simp only [pd_res, Option.some.injEq] at hres
    subst hres
    exact so_laload X hbb hsz C hS hl hn d hs kk
  case baload =>
    obtain rfl := pd_len1 (k := 1) hlen rfl (fun _ _ _ _ q => by cases q)
    simp only [pd_res, Option.some.injEq] at hres
    subst hres
    exact so_baload X hbb hsz C hS hl hn d hs kk
  case aaload =>
    obtain rfl := pd_len1 (k := 1) hlen rfl (fun _ _ _ _ q => by cases q)
    simp only [pd_res, Option.some.injEq] at hres
    subst hres
    exact so_aaload X hbb hsz C hS hl hn d hs kk
  case iastore =>
    obtain rfl := pd_len1 (k := 1) hlen rfl (fun _ _ _ _ q => by cases q)
    simp only [pd_res, Option.some.injEq] at hres
    subst hres
    exact so_iastore X hbb hsz C hS hl hn d hs kk
  case lastore =>
    obtain rfl := pd_len1 (k := 1) hlen rfl (fun _ _ _ _ q => by cases q)
    simp only [pd_res, Option.some.injEq] at hres
    subst hres
    exact so_lastore X hbb hsz C hS hl hn d hs kk
  case bastore =>
    obtain rfl := pd_len1 (k := 1) hlen rfl (fun _ _ _ _ q => by cases q)
    simp only [pd_res, Option.some.injEq] at hres
    subst hres
    exact so_bastore X hbb hsz C hS hl hn d hs kk
  case aastore =>
    obtain rfl := pd_len1 (k := 1) hlen rfl (fun _ _ _ _ q => by cases q)
    simp only [pd_res, Option.some.injEq] at hres
    subst hres
    exact so_aastore X hbb hsz C hS hl hn d hs kk
  case arraylength =>
    obtain rfl := pd_len1 (k := 1) hlen rfl (fun _ _ _ _ q => by cases q)
    simp only [pd_res, Option.some.injEq] at hres
    subst hres
    exact so_alen X hbb hsz C hS hl hn d hs kk
  case goto o =>
    obtain rfl := pd_len1 (k := 3) hlen rfl (fun _ _ _ _ q => by cases q)
    simp only [pd_res] at hres
    obtain ⟨t, ht, rfl⟩ := Option.map_eq_some_iff.mp hres
    exact so_goto X hbb hsz C hS hl hn ht d hs kk
  case ifCond cd o =>
    obtain rfl := pd_len1 (k := 3) hlen rfl (fun _ _ _ _ q => by cases q)
    simp only [pd_res] at hres
    obtain ⟨t, ht, rfl⟩ := Option.map_eq_some_iff.mp hres
    cases cd
    · exact so_if_eq X hbb hsz C hS hl hn ht d hs kk
    · exact so_if_ne X hbb hsz C hS hl hn ht d hs kk
    · exact so_if_lt X hbb hsz C hS hl hn ht d hs kk
    · exact so_if_ge X hbb hsz C hS hl hn ht d hs kk
    · exact so_if_gt X hbb hsz C hS hl hn ht d hs kk
    · exact so_if_le X hbb hsz C hS hl hn ht d hs kk
  case if_icmp cd o =>
    obtain rfl := pd_len1 (k := 3) hlen rfl (fun _ _ _ _ q => by cases q)
    simp only [pd_res] at hres
    obtain ⟨t, ht, rfl⟩ := Option.map_eq_some_iff.mp hres
    cases cd
    · exact so_icmp_eq X hbb hsz C hS hl hn ht d hs kk
    · exact so_icmp_ne X hbb hsz C hS hl hn ht d hs kk
    · exact so_icmp_lt X hbb hsz C hS hl hn ht d hs kk
    · exact so_icmp_ge X hbb hsz C hS hl hn ht d hs kk
    · exact so_icmp_gt X hbb hsz C hS hl hn ht d hs kk
    · exact so_icmp_le X hbb hsz C hS hl hn ht d hs kk
  case tableswitch d0 lo hi os =>
    simp only [pd_res] at hres
    split at hres
    · rename_i ht
      simp only [Option.some.injEq] at hres
      subst hres
      exact so_tsw X hbb hsz C hS hl hn ht d hs kk
    · exact absurd hres (by simp)
  case getfield k =>
    obtain rfl := pd_len1 (k := 3) hlen rfl (fun _ _ _ _ q => by cases q)
    simp only [pd_res] at hres
    obtain ⟨v, hk, rfl⟩ := Option.map_eq_some_iff.mp hres
    exact so_getfield X hbb hsz C hS hl hn hk d hs kk
  case putfield k =>
    obtain rfl := pd_len1 (k := 3) hlen rfl (fun _ _ _ _ q => by cases q)
    simp only [pd_res] at hres
    obtain ⟨v, hk, hq⟩ := Option.bind_eq_some_iff.mp hres
    split at hq
    · rename_i hpf
      simp only [Option.some.injEq] at hq
      subst hq
      exact so_putfield X hbb hsz C hS hl hn hk hpf d hs kk
    · exact absurd hq (by simp)
  case new k =>
    obtain rfl := pd_len1 (k := 3) hlen rfl (fun _ _ _ _ q => by cases q)
    simp only [pd_res] at hres
    split at hres
    · split at hres
      · simp only [Option.some.injEq] at hres
        subst hres
        simp only [pd_op] at ho
        split at ho
        · exact absurd ho (by decide)
        · omega
      · exact absurd hres (by simp)
    · obtain ⟨v, hk, rfl⟩ := Option.map_eq_some_iff.mp hres
      exact so_new X hbb hsz C hS hl hn hk hroom hle h02 hex d hs kk
  case newarray t =>
    obtain rfl := pd_len1 (k := 2) hlen rfl (fun _ _ _ _ q => by cases q)
    simp only [pd_res] at hres
    split at hres
    · rename_i ht
      simp only [Option.some.injEq] at hres
      subst hres
      rcases ht with rfl | rfl | rfl
      · exact so_newarray_int X hbb hsz C hS hl hn hroom hle h02 hex d hs kk
      · exact so_newarray_long X hbb hsz C hS hl hn hroom hle h02 hex d hs kk
      · exact so_newarray_boolean X hbb hsz C hS hl hn hroom hle h02 hex d hs kk
    · exact absurd hres (by simp)
  case anewarray k =>
    obtain rfl := pd_len1 (k := 3) hlen rfl (fun _ _ _ _ q => by cases q)
    simp only [pd_res] at hres
    split at hres
    · rename_i hk
      simp only [Option.some.injEq] at hres
      subst hres
      exact so_anewarray X hbb hsz C hS hl hn hk hroom hle h02 hex d hs kk
    · exact absurd hres (by simp)
  case invokevirtual k =>
    obtain rfl := pd_len1 (k := 3) hlen rfl (fun _ _ _ _ q => by cases q)
    simp only [pd_res] at hres
    obtain ⟨v, hk, hq⟩ := Option.bind_eq_some_iff.mp hres
    split at hq
    · exact absurd hq (by simp)
    · obtain ⟨v2, hk2, rfl⟩ := Option.map_eq_some_iff.mp hq
      exact absurd ho (by simp [pd_op])
  case invokespecial k =>
    obtain rfl := pd_len1 (k := 3) hlen rfl (fun _ _ _ _ q => by cases q)
    simp only [pd_res] at hres
    have hno : ∀ v v2, pd_call mi pc v = some v2 → i = .invokespecial v2 → False := by
      intro v v2 h3 h4
      obtain ⟨rfl, h5, -, -⟩ := pd_call_inv h3
      subst h4
      simp only [pd_op] at ho
      split at ho
      · omega
      · exact absurd ho (by decide)
    split at hres
    · rename_i hk
      split at hres
      · exact absurd hres (by simp)
      · rename_i hro
        simp only [Option.some.injEq] at hres
        subst hres
        exact so_objinit X hbb hsz C hS hl hn hk hro d hs kk
    · split at hres
      · exact absurd hres (by simp)
      · obtain ⟨v2, hk2, h9⟩ := Option.map_eq_some_iff.mp hres
        exact (hno _ _ hk2 h9.symm).elim
    · obtain ⟨v, hk, hq⟩ := Option.bind_eq_some_iff.mp hres
      split at hq
      · exact absurd hq (by simp)
      · obtain ⟨v2, hk2, h9⟩ := Option.map_eq_some_iff.mp hq
        exact (hno _ _ hk2 h9.symm).elim
  case invokestatic k =>
    obtain rfl := pd_len1 (k := 3) hlen rfl (fun _ _ _ _ q => by cases q)
    simp only [pd_res] at hres
    obtain ⟨v, hk, hq⟩ := Option.bind_eq_some_iff.mp hres
    split at hq
    · rename_i h1
      split at hq
      · rename_i h2
        simp only [Option.some.injEq] at hq
        subst hq
        rcases (show v = 1001 ∨ v = 1002 ∨ v = 1003 ∨ v = 1004 by omega) with rfl | rfl | rfl | rfl
        · exact so_minI X hbb hsz C hS hl hn hk ⟨h2.2.1, h2.2.2.1⟩ hroom hle h02 hex d hs kk
        · exact so_minL X hbb hsz C hS hl hn hk ⟨h2.2.1, h2.2.2.1⟩ hroom hle h02 hex d hs kk
        · exact so_maxL X hbb hsz C hS hl hn hk ⟨h2.2.1, h2.2.2.1⟩ hroom hle h02 hex d hs kk
        · exact so_acopy X hbb hsz C hS hl hn hk ⟨h2.2.1, h2.2.2.2 rfl⟩ hroom hle h02 hex d hs kk
      · exact absurd hq (by simp)
    · split at hq
      · obtain ⟨v2, hk2, rfl⟩ := Option.map_eq_some_iff.mp hq
        obtain ⟨rfl, h5, -, -⟩ := pd_call_inv hk2
        simp only [pd_op] at ho
        split at ho
        · omega
        · exact absurd ho (by decide)
      · exact absurd hq (by simp)
  case jsr o =>
    simp only [pd_res] at hres
    cases hres
  all_goals
    simp only [pd_res, Option.some.injEq] at hres
    subst hres
    simp only [pd_stp] at hs
    split at hs <;> simp [pd_bin, pd_binL] at hs
end PDU
