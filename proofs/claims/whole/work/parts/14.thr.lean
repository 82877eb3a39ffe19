/-! Returns, throws, handlers and calls. -/
theorem pd_xw102 : (vx_atS (pd_cn 5) 102 (pd_en 1) ["java/lang/RuntimeException", "java/lang/Exception"]).all (fun w => decide (w ∈ pd_tb) || decide (w ∈ pd_sb)) = true := by decide +kernel
theorem pd_xg102 : (Cond.classLink (pd_cn 5) 98 (pd_en 1) :: Cond.initialized (pd_en 1) :: vx_atS (pd_cn 5) 102 (pd_en 1) ["java/lang/RuntimeException", "java/lang/Exception"]).all vx_ot = true := by decide +kernel
theorem pd_xl102 : Cond.classLink (pd_cn 5) 98 (pd_en 1) ∈ pd_tb := by decide +kernel
theorem pd_xi102 : Cond.initialized (pd_en 1) ∈ pd_tb := by decide +kernel
theorem pd_xw146 : (vx_atS (pd_cn 5) 146 (pd_en 0) ["java/lang/RuntimeException", "java/lang/Exception"]).all (fun w => decide (w ∈ pd_tb) || decide (w ∈ pd_sb)) = true := by decide +kernel
theorem pd_xg146 : (Cond.classLink (pd_cn 5) 142 (pd_en 0) :: Cond.initialized (pd_en 0) :: vx_atS (pd_cn 5) 146 (pd_en 0) ["java/lang/RuntimeException", "java/lang/Exception"]).all vx_ot = true := by decide +kernel
theorem pd_xl146 : Cond.classLink (pd_cn 5) 142 (pd_en 0) ∈ pd_tb := by decide +kernel
theorem pd_xi146 : Cond.initialized (pd_en 0) ∈ pd_tb := by decide +kernel
theorem pd_xw280 : (vx_atS (pd_cn 5) 280 (pd_en 2) ["java/lang/RuntimeException", "java/lang/Exception"]).all (fun w => decide (w ∈ pd_tb) || decide (w ∈ pd_sb)) = true := by decide +kernel
theorem pd_xg280 : (Cond.classLink (pd_cn 5) 276 (pd_en 2) :: Cond.initialized (pd_en 2) :: vx_atS (pd_cn 5) 280 (pd_en 2) ["java/lang/RuntimeException", "java/lang/Exception"]).all vx_ot = true := by decide +kernel
theorem pd_xl280 : Cond.classLink (pd_cn 5) 276 (pd_en 2) ∈ pd_tb := by decide +kernel
theorem pd_xi280 : Cond.initialized (pd_en 2) ∈ pd_tb := by decide +kernel
theorem pd_or {args : Array Value} {s : State} {ws : List Cond} (h : ws.all (fun w => decide (w ∈ pd_tb) || decide (w ∈ pd_sb)) = true) (hts : ∀ w ∈ pd_tb, w.before args s = true) (hS : pd_Sx s) : ∀ w ∈ ws, w.before args s = true := by
  intro w hw
  have h1 := List.all_eq_true.mp h w hw
  simp only [Bool.or_eq_true, decide_eq_true_eq] at h1
  rcases h1 with q | q
  · exact hts w q
  · have hn := (List.mem_filter.mp q).2
    refine va_Nw.use ?_ (hS.1 w q)
    unfold pd_nw at hn
    split at hn
    · rfl
    · rfl
    · rfl
    · exact absurd hn (by simp)
section PDX
variable {b base L : Nat} {xs : Nat → Int32} {dC : Nat → ClassId} {dI : Nat → Nat → Nat} {cy : Nat → ClassId}
variable {p : Program} {l : Launch} {e : Env} {R : Room} {s : State} {m : MethodId} {args : Array Value} {below : List Frame} {meth : Method} {c : Code} {H : Heap} {locs : List Loc} {Q : State → Prop} {ls : Array Slot}
variable {mi pc np : Nat} {i : Instr} {lv st : List Value} {h h0 h1 h' : pd_H} {o : pd_Out}
/-- a throw -/
theorem pd_thrown {ik is ic ee : Nat} {text : String} (X : pd_Cx l p s m args meth c R mi) (ho5 : pd_o mi = 5) (hbb : b < base) (hsz : base ≤ s.heap.size) (C : pd_Co b base L xs dC dI cy h s H) (hS : va_S (pd_A base) s.heap H locs) (hl : lv_has ls (pd_n mi) (pd_lvA b base lv)) (hle : pd_le h0 h) (h02 : h0.1.2.2 ≤ h0.1.1) (hroom : (pd_thr h).1.1 - h0.1.1 ≤ R.cells ∧ (pd_thr h).1.2.1 - h0.1.2.1 ≤ R.slots)
    (he : ee < 3) (hin : (is, text) ∈ pd_SR) (hw : (vx_atS (pd_cn 5) ic (pd_en ee) ["java/lang/RuntimeException", "java/lang/Exception"]).all (fun w => decide (w ∈ pd_tb) || decide (w ∈ pd_sb)) = true) (hg : (Cond.classLink (pd_cn 5) ik (pd_en ee) :: Cond.initialized (pd_en ee) :: vx_atS (pd_cn 5) ic (pd_en ee) ["java/lang/RuntimeException", "java/lang/Exception"]).all vx_ot = true) (hk : Cond.classLink (pd_cn 5) ik (pd_en ee) ∈ pd_tb) (hi : Cond.initialized (pd_en ee) ∈ pd_tb)
    (hc6 : 6 ≤ pd_fr mi ∧ 90 ≤ pd_lo mi ∧ pd_h mi = []) (hc8 : pd_cat st ≤ 8)
    (hd : (decode (pd_c mi) pc = .ok (.new ik, 3) ∧ decode (pd_c mi) (pc + 3) = .ok (.dup, 1)) ∧ ((decode (pd_c mi) (pc + 4) = .ok (.ldc is, 2) ∧ decode (pd_c mi) (pc + 6) = .ok (.invokespecial ic, 3) ∧ decode (pd_c mi) (pc + 9) = .ok (.athrow, 1)) ∨ (decode (pd_c mi) (pc + 4) = .ok (.ldc_w is, 3) ∧ decode (pd_c mi) (pc + 7) = .ok (.invokespecial ic, 3) ∧ decode (pd_c mi) (pc + 10) = .ok (.athrow, 1)))) :
    W p l e R s m args below meth c H locs (h.1.1 - h0.1.1) (h.1.2.1 - h0.1.2.1) (vx_MQ below (pd_Qc b base L xs dC dI cy (.inr ee) (pd_thr h)) (pd_XC b base L xs dC dI cy (.inr ee) (pd_thr h)) args s ((pd_thr h).1.1 - h0.1.1) ((pd_thr h).1.2.1 - h0.1.2.1) (pd_A base)) (F0 m pc ls (st.map (pd_tr b base))) := by
  obtain ⟨hx, hb, hr, hml, hown, hts, hSx, hlocks, hname, htab, hfr, hlo, hnt⟩ := X
  rw [ho5] at hown
  obtain ⟨sa, hsa⟩ := hSx.2.2.1 _ hin
  have hkeep : ∀ a : Nat, a < H.size → ¬ pd_A base a → s.heap[a]? = H[a]? := fun a _ ha => (hS.2.1 a (by have : a < base := Nat.not_le.mp ha; omega) ha).symm
  have hU := C.2.2.2.2.1.kept hkeep
  have hN := C.2.2.2.2.2.kept hkeep
  have hr1 : h.1.1 + 1 - h0.1.1 ≤ R.cells := hroom.1
  have hr2 : h.1.2.1 + 6 - h0.1.2.1 ≤ R.slots := hroom.2
  obtain ⟨a1, a2, a3, a4⟩ := id hle
  have hnil : c.exceptionTable.toList = [] := by rw [htab, hc6.2.2]; rfl
  have hfin : ∀ t : State, s.vm.Alike t.vm → H.size ≤ t.heap.size → (∀ q : Nat, q < H.size → t.heap[q]? = H[q]?) → pd_XC b base L xs dC dI cy (.inr ee) (pd_thr h) (pd_en ee) s t := by
    intro t hvm hz hq
    refine ⟨⟨ee, rfl, he, rfl⟩, ⟨?_, Nat.le_trans (Nat.le_trans hsz hS.1) hz, fun e9 => ?_, ?_⟩, Nat.le_trans hS.1 hz, fun q h1 h2 => (hq q (Nat.lt_of_lt_of_le h1 hS.1)).trans (hS.2.1 q h1 h2)⟩
    · have C2 := pd_Co_kept (h1 := pd_thr h) (H1 := t.heap) hbb C (C.1.kept fun k q hk => hq q.1 ((C.1 k q hk).lt)) rfl C.2.2.2.1.2.1 C.2.2.2.1.2.2 (fun q h1 _ => hq q h1)
      exact pd_Co_moved hvm C2
    · have e9 : h.1.1 + 1 = h.1.2.2 := e9
      omega
    · show h.1.2.2 ≤ h.1.1 + 1
      omega
  have hcat : ((st.map (pd_tr b base)).map fun v => v.category).sum = pd_cat st := pd_cat_tr
  have hc1 : h.1.1 - h0.1.1 + 1 ≤ (pd_thr h).1.1 - h0.1.1 := by show _ ≤ h.1.1 + 1 - h0.1.1; omega
  have hc2 : h.1.2.1 - h0.1.2.1 + 6 ≤ (pd_thr h).1.2.1 - h0.1.2.1 := by show _ ≤ h.1.2.1 + 6 - h0.1.2.1; omega
  have hn3 : ∀ n ∈ (["java/lang/RuntimeException", "java/lang/Exception"] : List String), Bundle.fit n = true := by decide +kernel
  have hn4 : Bundle.fit (pd_en ee) = true := by rcases (show ee = 0 ∨ ee = 1 ∨ ee = 2 by omega) with rfl | rfl | rfl <;> decide +kernel
  rcases hd with ⟨⟨d0, d3⟩, ⟨d4, d6, d9⟩ | ⟨d4, d6, d9⟩⟩
  · exact vx_throwS (A := pd_A base) (names := ["java/lang/RuntimeException", "java/lang/Exception"]) hx hb hnt hown hn4 hn3 (hts _ hk) (hts _ hi) hsa (pd_or hw hts hSx) (List.all_eq_true.mp hg) hU hN hS (by rw [hml]; exact hl.1) d0 d3 d4 d6 d9 (by rw [hnil]; exact fun _ h => nomatch h) (by show 2 + 3 < R.frames; omega) (by rw [hcat]; show pd_cat st + (13 * (2 + 1) + 43) ≤ R.locals; omega) (by omega) (by omega) hlocks hfin hS.2.2 hc1 hc2
  · exact vx_throwSW (A := pd_A base) (names := ["java/lang/RuntimeException", "java/lang/Exception"]) hx hb hnt hown hn4 hn3 (hts _ hk) (hts _ hi) hsa (pd_or hw hts hSx) (List.all_eq_true.mp hg) hU hN hS (by rw [hml]; exact hl.1) d0 d3 d4 d6 d9 (by rw [hnil]; exact fun _ h => nomatch h) (by show 2 + 3 < R.frames; omega) (by rw [hcat]; show pd_cat st + (13 * (2 + 1) + 43) ≤ R.locals; omega) (by omega) (by omega) hlocks hfin hS.2.2 hc1 hc2
/-- a return -/
theorem pd_returned (X : pd_Cx l p s m args meth c R mi) (hsz : base ≤ s.heap.size) (C : pd_Co b base L xs dC dI cy h s H) (hS : va_S (pd_A base) s.heap H locs) (hle : pd_le h0 h) (h02 : h0.1.2.2 ≤ h0.1.1) (hex : h0.1.1 = h0.1.2.2 → s.heap.size = base + h0.1.2.2) (f : pd_fetch mi pc = some (i, np)) (hr9 : pd_ret mi i st h = some (o, h')) :
    W p l e R s m args below meth c H locs (h.1.1 - h0.1.1) (h.1.2.1 - h0.1.2.1) (vx_MQ below (pd_Qc b base L xs dC dI cy o h') (pd_XC b base L xs dC dI cy o h') args s (h'.1.1 - h0.1.1) (h'.1.2.1 - h0.1.2.1) (pd_A base)) (F0 m pc ls (st.map (pd_tr b base))) := by
  obtain ⟨hx, hb, hr, hml, hown, hts, hSx, hlocks, hname, htab, hfr, hlo, hnt⟩ := X
  obtain ⟨i0, n0, d, hres, rfl, hlen⟩ := pd_fetch_inv f
  refine W.sz (fun hz => ?_)
  have hDy : ∀ t : State, t.heap = H → s.WarmedH t.vm → pd_Dy b base L xs dC dI cy h t := fun t ht hW => pd_Dy_of hsz C hS hle h02 hex hz ht hW.alike
  have hi : ∀ j, i = j → pd_op j = 1 → i0 = j ∧ n0 = 1 := by
    intro j h1 h2
    subst h1
    have : i = .ireturn ∨ i = .lreturn ∨ i = .return_ := by
      unfold pd_ret at hr9
      repeat' split at hr9
      all_goals first | (simp at hr9; done) | exact Or.inl rfl | exact Or.inr (Or.inl rfl) | exact Or.inr (Or.inr rfl)
    rcases this with rfl | rfl | rfl
    all_goals
      cases i0
      case ireturn => first | (exact ⟨rfl, pd_len1 hlen rfl (fun _ _ _ _ q => by cases q)⟩) | (simp [pd_res] at hres)
      case lreturn => first | (exact ⟨rfl, pd_len1 hlen rfl (fun _ _ _ _ q => by cases q)⟩) | (simp [pd_res] at hres)
      case return_ => first | (exact ⟨rfl, pd_len1 hlen rfl (fun _ _ _ _ q => by cases q)⟩) | (simp [pd_res] at hres)
      case new k => simp only [pd_res] at hres; split at hres <;> first | (split at hres <;> simp at hres; done) | (obtain ⟨v, -, q⟩ := Option.map_eq_some_iff.mp hres; cases q)
      case invokespecial k => simp only [pd_res] at hres; repeat' split at hres; all_goals first | (simp at hres; done) | (obtain ⟨v, -, q⟩ := Option.map_eq_some_iff.mp hres; cases q; done) | (obtain ⟨v, -, q⟩ := Option.bind_eq_some_iff.mp hres; split at q <;> first | (simp at q; done) | (obtain ⟨v2, -, q2⟩ := Option.map_eq_some_iff.mp q; cases q2))
      case invokestatic k => simp only [pd_res] at hres; obtain ⟨v, -, q⟩ := Option.bind_eq_some_iff.mp hres; repeat' split at q; all_goals first | (simp at q; done) | (obtain ⟨v2, -, q2⟩ := Option.map_eq_some_iff.mp q; cases q2)
      case invokevirtual k => simp only [pd_res] at hres; obtain ⟨v, -, q⟩ := Option.bind_eq_some_iff.mp hres; repeat' split at q; all_goals first | (simp at q; done) | (obtain ⟨v2, -, q2⟩ := Option.map_eq_some_iff.mp q; cases q2)
      case putfield k => simp only [pd_res] at hres; obtain ⟨v, -, q⟩ := Option.bind_eq_some_iff.mp hres; split at q <;> simp at q
      case ldc2_w k => simp only [pd_res] at hres; obtain ⟨v, -, q⟩ := Option.map_eq_some_iff.mp hres; cases q
      case goto k => simp only [pd_res] at hres; obtain ⟨v, -, q⟩ := Option.map_eq_some_iff.mp hres; cases q
      case ifCond k k2 => simp only [pd_res] at hres; obtain ⟨v, -, q⟩ := Option.map_eq_some_iff.mp hres; cases q
      case if_icmp k k2 => simp only [pd_res] at hres; obtain ⟨v, -, q⟩ := Option.map_eq_some_iff.mp hres; cases q
      case getfield k => simp only [pd_res] at hres; obtain ⟨v, -, q⟩ := Option.map_eq_some_iff.mp hres; cases q
      all_goals first | (simp [pd_res] at hres; done) | (simp only [pd_res] at hres; split at hres <;> simp at hres)
  unfold pd_ret at hr9
  split at hr9
  · rename_i v
    split at hr9
    · rename_i hn
      simp only [Option.some.injEq, Prod.mk.injEq] at hr9
      obtain ⟨rfl, rfl⟩ := hr9
      obtain ⟨rfl, rfl⟩ := hi _ rfl rfl
      unfold pd_nar at hn
      split at hn
      · rename_i hty
        exact vx_ret (W.iret hx hb (hr.trans hty) (fun t ht hW => ⟨⟨_, rfl, rfl⟩, hDy t ht hW, hS.F ht⟩) hS.2.2 d)
      · rename_i ty _ hty
        exact vx_ret (W.zret hx hb (hr.trans hty) (of_decide_eq_true hn) (fun t ht hW => ⟨⟨_, rfl, rfl⟩, hDy t ht hW, hS.F ht⟩) hS.2.2 d)
      · exact absurd hn (by simp)
    · exact absurd hr9 (by simp)
  · rename_i v
    split at hr9
    · rename_i hn
      simp only [Option.some.injEq, Prod.mk.injEq] at hr9
      obtain ⟨rfl, rfl⟩ := hr9
      obtain ⟨rfl, rfl⟩ := hi _ rfl rfl
      exact vx_ret (W.lret hx hb (hr.trans hn) (fun t ht hW => ⟨⟨_, rfl, rfl⟩, hDy t ht hW, hS.F ht⟩) hS.2.2 d)
    · exact absurd hr9 (by simp)
  · split at hr9
    · rename_i hn
      simp only [Option.some.injEq, Prod.mk.injEq] at hr9
      obtain ⟨rfl, rfl⟩ := hr9
      obtain ⟨rfl, rfl⟩ := hi _ rfl rfl
      exact vx_ret (W.vret hx hb (hr.trans hn) (fun t ht hW => ⟨⟨_, rfl, rfl⟩, hDy t ht hW, hS.F ht⟩) hS.2.2 d)
    · exact absurd hr9 (by simp)
  · exact absurd hr9 (by simp)
end PDX
theorem pd_site_63_35 : ((decode (pd_c 63) 35 = .ok (.new 98, 3) ∧ decode (pd_c 63) (35 + 3) = .ok (.dup, 1)) ∧ ((decode (pd_c 63) (35 + 4) = .ok (.ldc 100, 2) ∧ decode (pd_c 63) (35 + 6) = .ok (.invokespecial 102, 3) ∧ decode (pd_c 63) (35 + 9) = .ok (.athrow, 1)) ∨ (decode (pd_c 63) (35 + 4) = .ok (.ldc_w 100, 3) ∧ decode (pd_c 63) (35 + 7) = .ok (.invokespecial 102, 3) ∧ decode (pd_c 63) (35 + 10) = .ok (.athrow, 1)))) ∧ pd_fetch 63 35 = some (.new 1001, 38) ∧ pd_o 63 = 5 := by decide +kernel
theorem pd_site_66_16 : ((decode (pd_c 66) 16 = .ok (.new 98, 3) ∧ decode (pd_c 66) (16 + 3) = .ok (.dup, 1)) ∧ ((decode (pd_c 66) (16 + 4) = .ok (.ldc 109, 2) ∧ decode (pd_c 66) (16 + 6) = .ok (.invokespecial 102, 3) ∧ decode (pd_c 66) (16 + 9) = .ok (.athrow, 1)) ∨ (decode (pd_c 66) (16 + 4) = .ok (.ldc_w 109, 3) ∧ decode (pd_c 66) (16 + 7) = .ok (.invokespecial 102, 3) ∧ decode (pd_c 66) (16 + 10) = .ok (.athrow, 1)))) ∧ pd_fetch 66 16 = some (.new 1001, 19) ∧ pd_o 66 = 5 := by decide +kernel
theorem pd_site_67_100 : ((decode (pd_c 67) 100 = .ok (.new 142, 3) ∧ decode (pd_c 67) (100 + 3) = .ok (.dup, 1)) ∧ ((decode (pd_c 67) (100 + 4) = .ok (.ldc 144, 2) ∧ decode (pd_c 67) (100 + 6) = .ok (.invokespecial 146, 3) ∧ decode (pd_c 67) (100 + 9) = .ok (.athrow, 1)) ∨ (decode (pd_c 67) (100 + 4) = .ok (.ldc_w 144, 3) ∧ decode (pd_c 67) (100 + 7) = .ok (.invokespecial 146, 3) ∧ decode (pd_c 67) (100 + 10) = .ok (.athrow, 1)))) ∧ pd_fetch 67 100 = some (.new 1000, 103) ∧ pd_o 67 = 5 := by decide +kernel
theorem pd_site_72_22 : ((decode (pd_c 72) 22 = .ok (.new 98, 3) ∧ decode (pd_c 72) (22 + 3) = .ok (.dup, 1)) ∧ ((decode (pd_c 72) (22 + 4) = .ok (.ldc 175, 2) ∧ decode (pd_c 72) (22 + 6) = .ok (.invokespecial 102, 3) ∧ decode (pd_c 72) (22 + 9) = .ok (.athrow, 1)) ∨ (decode (pd_c 72) (22 + 4) = .ok (.ldc_w 175, 3) ∧ decode (pd_c 72) (22 + 7) = .ok (.invokespecial 102, 3) ∧ decode (pd_c 72) (22 + 10) = .ok (.athrow, 1)))) ∧ pd_fetch 72 22 = some (.new 1001, 25) ∧ pd_o 72 = 5 := by decide +kernel
theorem pd_site_77_11 : ((decode (pd_c 77) 11 = .ok (.new 98, 3) ∧ decode (pd_c 77) (11 + 3) = .ok (.dup, 1)) ∧ ((decode (pd_c 77) (11 + 4) = .ok (.ldc 193, 2) ∧ decode (pd_c 77) (11 + 6) = .ok (.invokespecial 102, 3) ∧ decode (pd_c 77) (11 + 9) = .ok (.athrow, 1)) ∨ (decode (pd_c 77) (11 + 4) = .ok (.ldc_w 193, 3) ∧ decode (pd_c 77) (11 + 7) = .ok (.invokespecial 102, 3) ∧ decode (pd_c 77) (11 + 10) = .ok (.athrow, 1)))) ∧ pd_fetch 77 11 = some (.new 1001, 14) ∧ pd_o 77 = 5 := by decide +kernel
theorem pd_site_94_14 : ((decode (pd_c 94) 14 = .ok (.new 98, 3) ∧ decode (pd_c 94) (14 + 3) = .ok (.dup, 1)) ∧ ((decode (pd_c 94) (14 + 4) = .ok (.ldc 274, 2) ∧ decode (pd_c 94) (14 + 6) = .ok (.invokespecial 102, 3) ∧ decode (pd_c 94) (14 + 9) = .ok (.athrow, 1)) ∨ (decode (pd_c 94) (14 + 4) = .ok (.ldc_w 274, 3) ∧ decode (pd_c 94) (14 + 7) = .ok (.invokespecial 102, 3) ∧ decode (pd_c 94) (14 + 10) = .ok (.athrow, 1)))) ∧ pd_fetch 94 14 = some (.new 1001, 17) ∧ pd_o 94 = 5 := by decide +kernel
theorem pd_site_95_9 : ((decode (pd_c 95) 9 = .ok (.new 276, 3) ∧ decode (pd_c 95) (9 + 3) = .ok (.dup, 1)) ∧ ((decode (pd_c 95) (9 + 4) = .ok (.ldc 278, 2) ∧ decode (pd_c 95) (9 + 6) = .ok (.invokespecial 280, 3) ∧ decode (pd_c 95) (9 + 9) = .ok (.athrow, 1)) ∨ (decode (pd_c 95) (9 + 4) = .ok (.ldc_w 278, 3) ∧ decode (pd_c 95) (9 + 7) = .ok (.invokespecial 280, 3) ∧ decode (pd_c 95) (9 + 10) = .ok (.athrow, 1)))) ∧ pd_fetch 95 9 = some (.new 1002, 12) ∧ pd_o 95 = 5 := by decide +kernel
theorem pd_site_96_4 : ((decode (pd_c 96) 4 = .ok (.new 142, 3) ∧ decode (pd_c 96) (4 + 3) = .ok (.dup, 1)) ∧ ((decode (pd_c 96) (4 + 4) = .ok (.ldc 281, 2) ∧ decode (pd_c 96) (4 + 6) = .ok (.invokespecial 146, 3) ∧ decode (pd_c 96) (4 + 9) = .ok (.athrow, 1)) ∨ (decode (pd_c 96) (4 + 4) = .ok (.ldc_w 281, 3) ∧ decode (pd_c 96) (4 + 7) = .ok (.invokespecial 146, 3) ∧ decode (pd_c 96) (4 + 10) = .ok (.athrow, 1)))) ∧ pd_fetch 96 4 = some (.new 1000, 7) ∧ pd_o 96 = 5 := by decide +kernel
section PDX2
variable {b base L : Nat} {xs : Nat → Int32} {dC : Nat → ClassId} {dI : Nat → Nat → Nat} {cy : Nat → ClassId}
variable {p : Program} {l : Launch} {e : Env} {R : Room} {s : State} {m : MethodId} {args : Array Value} {below : List Frame} {meth : Method} {c : Code} {H : Heap} {locs : List Loc} {Q : State → Prop} {ls : Array Slot}
variable {mi pc np : Nat} {i : Instr} {lv st : List Value} {h h0 h1 h' : pd_H} {o : pd_Out}
theorem pd_throws (X : pd_Cx l p s m args meth c R mi) (hbb : b < base) (hsz : base ≤ s.heap.size) (C : pd_Co b base L xs dC dI cy h s H) (hS : va_S (pd_A base) s.heap H locs) (hl : lv_has ls (pd_n mi) (pd_lvA b base lv)) (hle : pd_le h0 h) (h02 : h0.1.2.2 ≤ h0.1.1) (hroom : (pd_thr h).1.1 - h0.1.1 ≤ R.cells ∧ (pd_thr h).1.2.1 - h0.1.2.1 ≤ R.slots) (f : pd_fetch mi pc = some (i, np)) (ho : pd_op i = 2) (hc8 : pd_cat st ≤ 8) (hsite : pd_site mi pc = true) :
    W p l e R s m args below meth c H locs (h.1.1 - h0.1.1) (h.1.2.1 - h0.1.2.1) (vx_MQ below (pd_Qc b base L xs dC dI cy (.inr (pd_who i)) (pd_thr h)) (pd_XC b base L xs dC dI cy (.inr (pd_who i)) (pd_thr h)) args s ((pd_thr h).1.1 - h0.1.1) ((pd_thr h).1.2.1 - h0.1.2.1) (pd_A base)) (F0 m pc ls (st.map (pd_tr b base))) := by
  obtain ⟨i0, n0, d, hres, -, -⟩ := pd_fetch_inv f
  obtain ⟨-, -, -, -, -, hc6⟩ := pd_res_thr hres ho
  unfold pd_site at hsite
  obtain ⟨⟨m9, p9⟩, hm, hq⟩ := List.any_eq_true.mp hsite
  simp only [Bool.and_eq_true, beq_iff_eq] at hq
  obtain ⟨rfl, rfl⟩ := hq
  simp only [pd_TS, List.mem_cons, Prod.mk.injEq, List.not_mem_nil, or_false] at hm
  rcases hm with ⟨rfl, rfl⟩ | ⟨rfl, rfl⟩ | ⟨rfl, rfl⟩ | ⟨rfl, rfl⟩ | ⟨rfl, rfl⟩ | ⟨rfl, rfl⟩ | ⟨rfl, rfl⟩ | ⟨rfl, rfl⟩
  · obtain ⟨hd, hf, h5⟩ := pd_site_63_35
    cases hf.symm.trans f
    exact pd_thrown (text := "the text is full") X h5 hbb hsz C hS hl hle h02 hroom (by decide) (by decide) pd_xw102 pd_xg102 pd_xl102 pd_xi102 hc6 hc8 hd
  · obtain ⟨hd, hf, h5⟩ := pd_site_66_16
    cases hf.symm.trans f
    exact pd_thrown (text := "the text has an error") X h5 hbb hsz C hS hl hle h02 hroom (by decide) (by decide) pd_xw102 pd_xg102 pd_xl102 pd_xi102 hc6 hc8 hd
  · obtain ⟨hd, hf, h5⟩ := pd_site_67_100
    cases hf.symm.trans f
    exact pd_thrown (text := "there is no such number") X h5 hbb hsz C hS hl hle h02 hroom (by decide) (by decide) pd_xw146 pd_xg146 pd_xl146 pd_xi146 hc6 hc8 hd
  · obtain ⟨hd, hf, h5⟩ := pd_site_72_22
    cases hf.symm.trans f
    exact pd_thrown (text := "there is only one atom") X h5 hbb hsz C hS hl hle h02 hroom (by decide) (by decide) pd_xw102 pd_xg102 pd_xl102 pd_xi102 hc6 hc8 hd
  · obtain ⟨hd, hf, h5⟩ := pd_site_77_11
    cases hf.symm.trans f
    exact pd_thrown (text := "no state is remembered") X h5 hbb hsz C hS hl hle h02 hroom (by decide) (by decide) pd_xw102 pd_xg102 pd_xl102 pd_xi102 hc6 hc8 hd
  · obtain ⟨hd, hf, h5⟩ := pd_site_94_14
    cases hf.symm.trans f
    exact pd_thrown (text := "nothing has been saved in the slot") X h5 hbb hsz C hS hl hle h02 hroom (by decide) (by decide) pd_xw102 pd_xg102 pd_xl102 pd_xi102 hc6 hc8 hd
  · obtain ⟨hd, hf, h5⟩ := pd_site_95_9
    cases hf.symm.trans f
    exact pd_thrown (text := "there is no such thing") X h5 hbb hsz C hS hl hle h02 hroom (by decide) (by decide) pd_xw280 pd_xg280 pd_xl280 pd_xi280 hc6 hc8 hd
  · obtain ⟨hd, hf, h5⟩ := pd_site_96_4
    cases hf.symm.trans f
    exact pd_thrown (text := "an argument is out of range") X h5 hbb hsz C hS hl hle h02 hroom (by decide) (by decide) pd_xw146 pd_xg146 pd_xl146 pd_xi146 hc6 hc8 hd
end PDX2
