/-! Handlers, calls, and the whole. -/
theorem pd_cut {f : Nat → Nat → Bool} {q0 q1 q2 q3 : List Nat} (h0 : pd_zp f ((List.range 201).drop 0 |>.take 51) q0 = true) (h1 : pd_zp f ((List.range 201).drop 51 |>.take 51) q1 = true) (h2 : pd_zp f ((List.range 201).drop 102 |>.take 51) q2 = true) (h3 : pd_zp f ((List.range 201).drop 153 |>.take 51) q3 = true) {c : Nat} (hc : c < 201) : ∃ p, f c p = true := by
  have cut : ∀ j, 51 * j ≤ c → c < 51 * j + 51 → c ∈ ((List.range 201).drop (51 * j)).take 51 := by
    intro j h2 h3
    refine List.mem_of_getElem? (i := c - 51 * j) ?_
    rw [List.getElem?_take_of_lt (by omega), List.getElem?_drop, show 51 * j + (c - 51 * j) = c by omega]
    exact List.getElem?_range hc
  rcases (show c < 51 ∨ (51 ≤ c ∧ c < 102) ∨ (102 ≤ c ∧ c < 153) ∨ (153 ≤ c ∧ c < 204) by omega) with q | q | q | q
  · exact pd_zp_in h0 c (cut 0 (by omega) (by omega))
  · exact pd_zp_in h1 c (cut 1 (by omega) (by omega))
  · exact pd_zp_in h2 c (cut 2 (by omega) (by omega))
  · exact pd_zp_in h3 c (cut 3 (by omega) (by omega))
theorem pd_winit {c : Nat} (hc : c < 201) : Cond.initialized (pd_cn (pd_o c)) ∈ pd_tb := by
  obtain ⟨p9, hp⟩ := pd_cut tbi_b0 tbi_b1 tbi_b2 tbi_b3 hc
  exact pd_at_in hp
theorem pd_wst {c : Nat} (hc : c < 201) : (if pd_st c then Cond.static (pd_y c) else Cond.instanceMethod (pd_y c)) ∈ pd_tb := by
  obtain ⟨p9, hp⟩ := pd_cut tbs_b0 tbs_b1 tbs_b2 tbs_b3 hc
  exact pd_at_in hp
theorem pd_wsel {c : Nat} (hc : c < 201) (h1 : pd_st c = false) (h2 : ((pd_y c).name == "<init>") = false) : Cond.selects (pd_cn (pd_o c)) (pd_y c) (pd_y c) ∈ pd_tb := by
  obtain ⟨p9, hp⟩ := pd_cut tbv_b0 tbv_b1 tbv_b2 tbv_b3 hc
  rw [h1, h2] at hp
  exact pd_at_in hp
theorem pd_cw_tb {c : Nat} (hc : c < 201) : pd_cw c ∈ pd_tb := List.mem_filter.mpr ⟨tbc_in hc, by unfold pd_cw; split <;> rfl⟩
theorem pd_dat {c : Nat} (hc : c < 202) : (pd_y c).cls = pd_cn (pd_o c) ∧ plainName (pd_cn (pd_o c)) = true ∧ (pd_cn (pd_o c) ≠ "java/lang/invoke/MethodHandle" ∧ pd_cn (pd_o c) ≠ "java/lang/invoke/VarHandle") ∧ (parseMethodDescriptor (pd_y c).desc).map (fun d => d.parameters.length) = some (pd_np c) ∧ ((pd_y c).name = "<init>" → pd_r c = none) := by
  have h1 := List.all_eq_true.mp tbd_b c (List.mem_range.mpr hc)
  simp only [Bool.and_eq_true, decide_eq_true_eq, Bool.or_eq_true, Bool.not_eq_true', beq_eq_false_iff_ne] at h1
  exact ⟨h1.1, h1.2.1, ⟨h1.2.2.1, h1.2.2.2.1⟩, h1.2.2.2.2.1, fun q => h1.2.2.2.2.2.resolve_left (fun h => h q)⟩
theorem pd_ini_b : (List.range 201).all (fun c => pd_inits.contains c || !((pd_y c).name == "<init>")) = true := by decide +kernel
theorem pd_fr_b : (List.range 202).all (fun c => decide (pd_fr c ≤ 9)) = true ∧ pd_fr 201 = 9 := by decide +kernel
theorem pd_room_ne {mi c : Nat} (hc : c < 202) (hr : pd_room mi c = true) : c < 201 ∧ pd_fr c + 1 ≤ pd_fr mi ∧ 19 + pd_n c + pd_lo c ≤ pd_lo mi := by
  unfold pd_room at hr
  simp only [Bool.and_eq_true, decide_eq_true_eq] at hr
  refine ⟨?_, hr⟩
  rcases Nat.lt_or_ge c 201 with q | q
  · exact q
  · have e : c = 201 := by omega
    rw [e, pd_fr_b.2] at hr
    have h9 : pd_fr mi ≤ 9 := by
      rcases Nat.lt_or_ge mi 202 with q | q
      · exact of_decide_eq_true (List.all_eq_true.mp pd_fr_b.1 mi (List.mem_range.mpr q))
      · have hl : pd_M.length = 202 := by decide +kernel
        have : pd_m mi = (⟨"", "", ""⟩, ⟨#[]⟩, 0, none, 0, 0, false, 0, 0) := by
          unfold pd_m
          rw [List.getD_eq_getElem?_getD, List.getElem?_eq_none (by rw [hl]; exact q)]
          rfl
        unfold pd_fr
        rw [this]
        exact Nat.zero_le 9
    omega
theorem vx_sz {p : Program} {l : Launch} {e : Env} {R : Room} {s : State} {m : MethodId} {args : Array Value} {below : List Frame} {meth : Method} {c : Code} {H : Heap} {locs : List Loc} {cells slots : Nat} {Q : State → Prop} {g : JFrame} {q : Addr} (k : H.size ≤ s.heap.size + cells → vx_W p l e R s m args below meth c H locs cells slots Q g q) : vx_W p l e R s m args below meth c H locs cells slots Q g q := by
  intro T hT X
  refine k ?_ T hT X
  have := X.same.2.2.1
  rw [← hT]
  exact this
section PDY
variable {b base L : Nat} {xs : Nat → Int32} {dC : Nat → ClassId} {dI : Nat → Nat → Nat} {cy : Nat → ClassId}
variable {p : Program} {l : Launch} {e : Env} {R : Room} {s : State} {m : MethodId} {args : Array Value} {below : List Frame} {meth : Method} {c : Code} {H : Heap} {locs : List Loc} {Q : State → Prop} {ls : Array Slot}
variable {mi pc np : Nat} {i : Instr} {lv st : List Value} {h h0 h1 h' : pd_H} {o : pd_Out}
theorem pd_words (X : pd_Cx l p s m args meth c R mi) {cc : Nat} (hc : cc < 201) : ∀ w ∈ pd_cw cc :: pd_tb, ∀ (a' : Array Value) (U : State), s.WarmedH U.vm → w.before a' U = true := by
  obtain ⟨hx, hb, hr, hml, hown, hts, hSx, hlocks, hname, htab, hfr, hlo, hnt⟩ := X
  intro w hw a' U hW
  have hm : w ∈ pd_tb := by
    rcases List.mem_cons.mp hw with rfl | q
    · exact pd_cw_tb hc
    · exact q
  exact word_at hW (good_of_word (List.mem_filter.mp hm).2) (hts w hm)
/-- a handler: store, a number, return -/
theorem pd_handle {hp k n1 : Nat} {r : Int} {q : Addr} {lq : List (Nat × Value)} (X : pd_Cx l p s m args meth c R mi) (hsz : base ≤ s.heap.size) (C : pd_Co b base L xs dC dI cy h s H) (hS : va_S (pd_A base) s.heap H locs) (hle : pd_le h0 h) (h02 : h0.1.2.2 ≤ h0.1.1) (hex : h0.1.1 = h0.1.2.2 → s.heap.size = base + h0.1.2.2) (hl : lv_has ls (pd_n mi) lq)
    (hd : ((n1 = 2 ∧ decode (pd_c mi) hp = .ok (.astore k, 2)) ∨ ∃ kf : Fin 4, n1 = 1 ∧ (kf : Nat) = k ∧ decode (pd_c mi) hp = .ok (.astore_n kf, 1)) ∧ k < pd_n mi ∧ decode (pd_c mi) (hp + n1) = .ok (.iconst r, 1) ∧ decode (pd_c mi) (hp + n1 + 1) = .ok (.ireturn, 1) ∧ pd_r mi = some .int) :
    W p l e R s m args below meth c H locs (h.1.1 - h0.1.1) (h.1.2.1 - h0.1.2.1) (vx_MQ below (pd_Qc b base L xs dC dI cy (.inl (some (.int (Int32.ofInt r)))) h) (pd_XC b base L xs dC dI cy (.inl (some (.int (Int32.ofInt r)))) h) args s (h.1.1 - h0.1.1) (h.1.2.1 - h0.1.2.1) (pd_A base)) (F0 m hp ls [.ref q]) := by
  obtain ⟨hx, hb, hr, hml, hown, hts, hSx, hlocks, hname, htab, hfr, hlo, hnt⟩ := X
  obtain ⟨hd1, hk, d2, d3, hri⟩ := hd
  refine W.sz (fun hz => ?_)
  have hDy : ∀ t : State, t.heap = H → s.WarmedH t.vm → pd_Dy b base L xs dC dI cy h t := fun t ht hW => pd_Dy_of hsz C hS hle h02 hex hz ht hW.alike
  have kk : ∀ ls1 : Array Slot, W p l e R s m args below meth c H locs (h.1.1 - h0.1.1) (h.1.2.1 - h0.1.2.1) (vx_MQ below (pd_Qc b base L xs dC dI cy (.inl (some (.int (Int32.ofInt r)))) h) (pd_XC b base L xs dC dI cy (.inl (some (.int (Int32.ofInt r)))) h) args s (h.1.1 - h0.1.1) (h.1.2.1 - h0.1.2.1) (pd_A base)) (F0 m (hp + n1) ls1 []) := fun ls1 =>
    lv_iconst hx hb d2 rfl (vx_ret (W.iret hx hb (hr.trans hri) (fun t ht hW => ⟨⟨_, rfl, rfl⟩, hDy t ht hW, hS.F ht⟩) hS.2.2 d3))
  rcases hd1 with ⟨rfl, d1⟩ | ⟨kf, rfl, hkf, d1⟩
  · exact lv_astore hx hb d1 hl hk rfl (fun ls1 _ => kk ls1)
  · exact lv_astore_n hx hb d1 hkf hl hk rfl (fun ls1 _ => kk ls1)
theorem pd_cast {k : Nat} (hk : k < 3) : Cond.castable (pd_en k) (pd_en k) ∈ pd_sb := by
  rcases (show k = 0 ∨ k = 1 ∨ k = 2 by omega) with rfl | rfl | rfl <;> decide +kernel
theorem pd_lawl {k : Nat} (hk : k < 3) : Cond.classLink (pd_cn 7) (([13, 15, 28] : List Nat).getD k 0) (pd_en k) ∈ pd_tb := by
  rcases (show k = 0 ∨ k = 1 ∨ k = 2 by omega) with rfl | rfl | rfl <;> decide +kernel
/-- caught: the rows ahead of the one that takes it are of other kinds -/
theorem pd_caught {k hp : Nat} {rest : List Value} {q : Addr} {ce : Cell} {pre suf : List (Nat × Nat × Nat × Nat)} {a z : Nat} (X : pd_Cx l p s m args meth c R mi) (ho7 : pd_o mi = 7) (hk : k < 3) (hcell : H[q]? = some ce) (hv : ce.vm = .none) (hcl : s.vm.findClass (pd_en k) = some ce.cls) (htb : pd_h mi = pre ++ (a, z, hp, ([13, 15, 28] : List Nat).getD k 0) :: suf) (hpre : ∀ y ∈ pre, ∃ j, j < 3 ∧ k ≠ j ∧ y.2.2.2 = ([13, 15, 28] : List Nat).getD j 0) (hin : pd_in mi pc = true)
    (kk : W p l e R s m args below meth c H locs (h.1.1 - h0.1.1) (h.1.2.1 - h0.1.2.1) Q (F0 m hp ls [.ref q])) : vx_W p l e R s m args below meth c H locs (h.1.1 - h0.1.1) (h.1.2.1 - h0.1.2.1) Q (F0 m pc ls rest) q := by
  obtain ⟨hx, hb, hr, hml, hown, hts, hSx, hlocks, hname, htab, hfr, hlo, hnt⟩ := X
  rw [ho7] at hown
  have hne : ∀ j, j < 3 → ([13, 15, 28] : List Nat).getD j 0 ≠ 0 := by
    intro j hj
    rcases (show j = 0 ∨ j = 1 ∨ j = 2 by omega) with rfl | rfl | rfl <;> decide
  have hcov : covers ⟨a, z, hp, ([13, 15, 28] : List Nat).getD k 0⟩ pc = true := by
    unfold pd_in at hin
    have := List.all_eq_true.mp hin (a, z, hp, ([13, 15, 28] : List Nat).getD k 0) (by rw [htb]; simp)
    simp only [Bool.and_eq_true, decide_eq_true_eq] at this
    simp [covers, this]
  refine vx_catch hown (tableOf pre) ⟨a, z, hp, ([13, 15, 28] : List Nat).getD k 0⟩ (tableOf suf) (by rw [htab, htb]; simp [tableOf]) (fun y hy => ?_) hcov (hne k hk) (hts _ (pd_lawl hk)) (va_Nw.use rfl (hSx.1 _ (pd_cast hk))) hcell hv hcl kk
  obtain ⟨y0, hy0, rfl⟩ := List.mem_map.mp hy
  obtain ⟨j, hj, hkj, hjt⟩ := hpre y0 hy0
  refine Or.inr ⟨by show y0.2.2.2 ≠ 0; rw [hjt]; exact hne j hj, pd_en j, ?_, hSx.2.2.2 k j hk hj hkj⟩
  show (Cond.classLink (pd_cn 7) y0.2.2.2 (pd_en j)).before args s = true
  rw [hjt]
  exact hts _ (pd_lawl hj)
theorem pd_hd_178_0 : (((1 = 2 ∧ decode (pd_c 178) 12 = .ok (.astore 3, 2)) ∨ ∃ kf : Fin 4, 1 = 1 ∧ (kf : Nat) = 3 ∧ decode (pd_c 178) 12 = .ok (.astore_n kf, 1)) ∧ 3 < pd_n 178 ∧ decode (pd_c 178) (12 + 1) = .ok (.iconst 1, 1) ∧ decode (pd_c 178) (12 + 1 + 1) = .ok (.ireturn, 1) ∧ pd_r 178 = some .int) ∧ pd_o 178 = 7 ∧ pd_h 178 = [] ++ (0, 9, 12, ([13, 15, 28] : List Nat).getD 0 0) :: [(0, 9, 15, 15)] ∧ pd_ct 178 0 = some (12, 1) := ⟨⟨Or.inr ⟨3, rfl, rfl, by decide +kernel⟩, by decide +kernel, by decide +kernel, by decide +kernel, by decide +kernel⟩, by decide +kernel, by decide +kernel, by decide +kernel⟩
theorem pd_hd_178_1 : (((1 = 2 ∧ decode (pd_c 178) 15 = .ok (.astore 3, 2)) ∨ ∃ kf : Fin 4, 1 = 1 ∧ (kf : Nat) = 3 ∧ decode (pd_c 178) 15 = .ok (.astore_n kf, 1)) ∧ 3 < pd_n 178 ∧ decode (pd_c 178) (15 + 1) = .ok (.iconst 2, 1) ∧ decode (pd_c 178) (15 + 1 + 1) = .ok (.ireturn, 1) ∧ pd_r 178 = some .int) ∧ pd_o 178 = 7 ∧ pd_h 178 = [(0, 9, 12, 13)] ++ (0, 9, 15, ([13, 15, 28] : List Nat).getD 1 0) :: [] ∧ pd_ct 178 1 = some (15, 2) := ⟨⟨Or.inr ⟨3, rfl, rfl, by decide +kernel⟩, by decide +kernel, by decide +kernel, by decide +kernel, by decide +kernel⟩, by decide +kernel, by decide +kernel, by decide +kernel⟩
theorem pd_hd_179_1 : (((1 = 2 ∧ decode (pd_c 179) 11 = .ok (.astore 2, 2)) ∨ ∃ kf : Fin 4, 1 = 1 ∧ (kf : Nat) = 2 ∧ decode (pd_c 179) 11 = .ok (.astore_n kf, 1)) ∧ 2 < pd_n 179 ∧ decode (pd_c 179) (11 + 1) = .ok (.iconst 1, 1) ∧ decode (pd_c 179) (11 + 1 + 1) = .ok (.ireturn, 1) ∧ pd_r 179 = some .int) ∧ pd_o 179 = 7 ∧ pd_h 179 = [] ++ (0, 8, 11, ([13, 15, 28] : List Nat).getD 1 0) :: [] ∧ pd_ct 179 1 = some (11, 1) := ⟨⟨Or.inr ⟨2, rfl, rfl, by decide +kernel⟩, by decide +kernel, by decide +kernel, by decide +kernel, by decide +kernel⟩, by decide +kernel, by decide +kernel, by decide +kernel⟩
theorem pd_hd_180_0 : (((1 = 2 ∧ decode (pd_c 180) 12 = .ok (.astore 3, 2)) ∨ ∃ kf : Fin 4, 1 = 1 ∧ (kf : Nat) = 3 ∧ decode (pd_c 180) 12 = .ok (.astore_n kf, 1)) ∧ 3 < pd_n 180 ∧ decode (pd_c 180) (12 + 1) = .ok (.iconst 1, 1) ∧ decode (pd_c 180) (12 + 1 + 1) = .ok (.ireturn, 1) ∧ pd_r 180 = some .int) ∧ pd_o 180 = 7 ∧ pd_h 180 = [] ++ (0, 9, 12, ([13, 15, 28] : List Nat).getD 0 0) :: [] ∧ pd_ct 180 0 = some (12, 1) := ⟨⟨Or.inr ⟨3, rfl, rfl, by decide +kernel⟩, by decide +kernel, by decide +kernel, by decide +kernel, by decide +kernel⟩, by decide +kernel, by decide +kernel, by decide +kernel⟩
theorem pd_hd_181_2 : (((2 = 2 ∧ decode (pd_c 181) 13 = .ok (.astore 4, 2)) ∨ ∃ kf : Fin 4, 2 = 1 ∧ (kf : Nat) = 4 ∧ decode (pd_c 181) 13 = .ok (.astore_n kf, 1)) ∧ 4 < pd_n 181 ∧ decode (pd_c 181) (13 + 2) = .ok (.iconst 1, 1) ∧ decode (pd_c 181) (13 + 2 + 1) = .ok (.ireturn, 1) ∧ pd_r 181 = some .int) ∧ pd_o 181 = 7 ∧ pd_h 181 = [] ++ (0, 10, 13, ([13, 15, 28] : List Nat).getD 2 0) :: [] ∧ pd_ct 181 2 = some (13, 1) := ⟨⟨Or.inl ⟨rfl, by decide +kernel⟩, by decide +kernel, by decide +kernel, by decide +kernel, by decide +kernel⟩, by decide +kernel, by decide +kernel, by decide +kernel⟩
theorem pd_hd_182_2 : (((2 = 2 ∧ decode (pd_c 182) 13 = .ok (.astore 4, 2)) ∨ ∃ kf : Fin 4, 2 = 1 ∧ (kf : Nat) = 4 ∧ decode (pd_c 182) 13 = .ok (.astore_n kf, 1)) ∧ 4 < pd_n 182 ∧ decode (pd_c 182) (13 + 2) = .ok (.iconst 1, 1) ∧ decode (pd_c 182) (13 + 2 + 1) = .ok (.ireturn, 1) ∧ pd_r 182 = some .int) ∧ pd_o 182 = 7 ∧ pd_h 182 = [] ++ (0, 10, 13, ([13, 15, 28] : List Nat).getD 2 0) :: [] ∧ pd_ct 182 2 = some (13, 1) := ⟨⟨Or.inl ⟨rfl, by decide +kernel⟩, by decide +kernel, by decide +kernel, by decide +kernel, by decide +kernel⟩, by decide +kernel, by decide +kernel, by decide +kernel⟩
theorem pd_hd_183_2 : (((2 = 2 ∧ decode (pd_c 183) 13 = .ok (.astore 4, 2)) ∨ ∃ kf : Fin 4, 2 = 1 ∧ (kf : Nat) = 4 ∧ decode (pd_c 183) 13 = .ok (.astore_n kf, 1)) ∧ 4 < pd_n 183 ∧ decode (pd_c 183) (13 + 2) = .ok (.iconst 1, 1) ∧ decode (pd_c 183) (13 + 2 + 1) = .ok (.ireturn, 1) ∧ pd_r 183 = some .int) ∧ pd_o 183 = 7 ∧ pd_h 183 = [] ++ (0, 10, 13, ([13, 15, 28] : List Nat).getD 2 0) :: [(0, 10, 17, 13)] ∧ pd_ct 183 2 = some (13, 1) := ⟨⟨Or.inl ⟨rfl, by decide +kernel⟩, by decide +kernel, by decide +kernel, by decide +kernel, by decide +kernel⟩, by decide +kernel, by decide +kernel, by decide +kernel⟩
theorem pd_hd_183_0 : (((2 = 2 ∧ decode (pd_c 183) 17 = .ok (.astore 4, 2)) ∨ ∃ kf : Fin 4, 2 = 1 ∧ (kf : Nat) = 4 ∧ decode (pd_c 183) 17 = .ok (.astore_n kf, 1)) ∧ 4 < pd_n 183 ∧ decode (pd_c 183) (17 + 2) = .ok (.iconst 2, 1) ∧ decode (pd_c 183) (17 + 2 + 1) = .ok (.ireturn, 1) ∧ pd_r 183 = some .int) ∧ pd_o 183 = 7 ∧ pd_h 183 = [(0, 10, 13, 28)] ++ (0, 10, 17, ([13, 15, 28] : List Nat).getD 0 0) :: [] ∧ pd_ct 183 0 = some (17, 2) := ⟨⟨Or.inl ⟨rfl, by decide +kernel⟩, by decide +kernel, by decide +kernel, by decide +kernel, by decide +kernel⟩, by decide +kernel, by decide +kernel, by decide +kernel⟩
theorem pd_hd_184_0 : (((1 = 2 ∧ decode (pd_c 184) 12 = .ok (.astore 3, 2)) ∨ ∃ kf : Fin 4, 1 = 1 ∧ (kf : Nat) = 3 ∧ decode (pd_c 184) 12 = .ok (.astore_n kf, 1)) ∧ 3 < pd_n 184 ∧ decode (pd_c 184) (12 + 1) = .ok (.iconst 1, 1) ∧ decode (pd_c 184) (12 + 1 + 1) = .ok (.ireturn, 1) ∧ pd_r 184 = some .int) ∧ pd_o 184 = 7 ∧ pd_h 184 = [] ++ (0, 9, 12, ([13, 15, 28] : List Nat).getD 0 0) :: [(0, 9, 15, 15)] ∧ pd_ct 184 0 = some (12, 1) := ⟨⟨Or.inr ⟨3, rfl, rfl, by decide +kernel⟩, by decide +kernel, by decide +kernel, by decide +kernel, by decide +kernel⟩, by decide +kernel, by decide +kernel, by decide +kernel⟩
theorem pd_hd_184_1 : (((1 = 2 ∧ decode (pd_c 184) 15 = .ok (.astore 3, 2)) ∨ ∃ kf : Fin 4, 1 = 1 ∧ (kf : Nat) = 3 ∧ decode (pd_c 184) 15 = .ok (.astore_n kf, 1)) ∧ 3 < pd_n 184 ∧ decode (pd_c 184) (15 + 1) = .ok (.iconst 2, 1) ∧ decode (pd_c 184) (15 + 1 + 1) = .ok (.ireturn, 1) ∧ pd_r 184 = some .int) ∧ pd_o 184 = 7 ∧ pd_h 184 = [(0, 9, 12, 13)] ++ (0, 9, 15, ([13, 15, 28] : List Nat).getD 1 0) :: [] ∧ pd_ct 184 1 = some (15, 2) := ⟨⟨Or.inr ⟨3, rfl, rfl, by decide +kernel⟩, by decide +kernel, by decide +kernel, by decide +kernel, by decide +kernel⟩, by decide +kernel, by decide +kernel, by decide +kernel⟩
theorem pd_hd_185_0 : (((2 = 2 ∧ decode (pd_c 185) 13 = .ok (.astore 4, 2)) ∨ ∃ kf : Fin 4, 2 = 1 ∧ (kf : Nat) = 4 ∧ decode (pd_c 185) 13 = .ok (.astore_n kf, 1)) ∧ 4 < pd_n 185 ∧ decode (pd_c 185) (13 + 2) = .ok (.iconst 1, 1) ∧ decode (pd_c 185) (13 + 2 + 1) = .ok (.ireturn, 1) ∧ pd_r 185 = some .int) ∧ pd_o 185 = 7 ∧ pd_h 185 = [] ++ (0, 10, 13, ([13, 15, 28] : List Nat).getD 0 0) :: [] ∧ pd_ct 185 0 = some (13, 1) := ⟨⟨Or.inl ⟨rfl, by decide +kernel⟩, by decide +kernel, by decide +kernel, by decide +kernel, by decide +kernel⟩, by decide +kernel, by decide +kernel, by decide +kernel⟩
theorem pd_hd_186_2 : (((2 = 2 ∧ decode (pd_c 186) 15 = .ok (.astore 5, 2)) ∨ ∃ kf : Fin 4, 2 = 1 ∧ (kf : Nat) = 5 ∧ decode (pd_c 186) 15 = .ok (.astore_n kf, 1)) ∧ 5 < pd_n 186 ∧ decode (pd_c 186) (15 + 2) = .ok (.iconst 1, 1) ∧ decode (pd_c 186) (15 + 2 + 1) = .ok (.ireturn, 1) ∧ pd_r 186 = some .int) ∧ pd_o 186 = 7 ∧ pd_h 186 = [] ++ (0, 12, 15, ([13, 15, 28] : List Nat).getD 2 0) :: [(0, 12, 19, 13)] ∧ pd_ct 186 2 = some (15, 1) := ⟨⟨Or.inl ⟨rfl, by decide +kernel⟩, by decide +kernel, by decide +kernel, by decide +kernel, by decide +kernel⟩, by decide +kernel, by decide +kernel, by decide +kernel⟩
theorem pd_hd_186_0 : (((2 = 2 ∧ decode (pd_c 186) 19 = .ok (.astore 5, 2)) ∨ ∃ kf : Fin 4, 2 = 1 ∧ (kf : Nat) = 5 ∧ decode (pd_c 186) 19 = .ok (.astore_n kf, 1)) ∧ 5 < pd_n 186 ∧ decode (pd_c 186) (19 + 2) = .ok (.iconst 2, 1) ∧ decode (pd_c 186) (19 + 2 + 1) = .ok (.ireturn, 1) ∧ pd_r 186 = some .int) ∧ pd_o 186 = 7 ∧ pd_h 186 = [(0, 12, 15, 28)] ++ (0, 12, 19, ([13, 15, 28] : List Nat).getD 0 0) :: [] ∧ pd_ct 186 0 = some (19, 2) := ⟨⟨Or.inl ⟨rfl, by decide +kernel⟩, by decide +kernel, by decide +kernel, by decide +kernel, by decide +kernel⟩, by decide +kernel, by decide +kernel, by decide +kernel⟩
theorem pd_hd_187_2 : (((1 = 2 ∧ decode (pd_c 187) 12 = .ok (.astore 3, 2)) ∨ ∃ kf : Fin 4, 1 = 1 ∧ (kf : Nat) = 3 ∧ decode (pd_c 187) 12 = .ok (.astore_n kf, 1)) ∧ 3 < pd_n 187 ∧ decode (pd_c 187) (12 + 1) = .ok (.iconst 1, 1) ∧ decode (pd_c 187) (12 + 1 + 1) = .ok (.ireturn, 1) ∧ pd_r 187 = some .int) ∧ pd_o 187 = 7 ∧ pd_h 187 = [] ++ (0, 9, 12, ([13, 15, 28] : List Nat).getD 2 0) :: [] ∧ pd_ct 187 2 = some (12, 1) := ⟨⟨Or.inr ⟨3, rfl, rfl, by decide +kernel⟩, by decide +kernel, by decide +kernel, by decide +kernel, by decide +kernel⟩, by decide +kernel, by decide +kernel, by decide +kernel⟩
theorem pd_hd_188_2 : (((2 = 2 ∧ decode (pd_c 188) 15 = .ok (.astore 5, 2)) ∨ ∃ kf : Fin 4, 2 = 1 ∧ (kf : Nat) = 5 ∧ decode (pd_c 188) 15 = .ok (.astore_n kf, 1)) ∧ 5 < pd_n 188 ∧ decode (pd_c 188) (15 + 2) = .ok (.iconst 1, 1) ∧ decode (pd_c 188) (15 + 2 + 1) = .ok (.ireturn, 1) ∧ pd_r 188 = some .int) ∧ pd_o 188 = 7 ∧ pd_h 188 = [] ++ (0, 12, 15, ([13, 15, 28] : List Nat).getD 2 0) :: [(0, 12, 19, 13)] ∧ pd_ct 188 2 = some (15, 1) := ⟨⟨Or.inl ⟨rfl, by decide +kernel⟩, by decide +kernel, by decide +kernel, by decide +kernel, by decide +kernel⟩, by decide +kernel, by decide +kernel, by decide +kernel⟩
theorem pd_hd_188_0 : (((2 = 2 ∧ decode (pd_c 188) 19 = .ok (.astore 5, 2)) ∨ ∃ kf : Fin 4, 2 = 1 ∧ (kf : Nat) = 5 ∧ decode (pd_c 188) 19 = .ok (.astore_n kf, 1)) ∧ 5 < pd_n 188 ∧ decode (pd_c 188) (19 + 2) = .ok (.iconst 2, 1) ∧ decode (pd_c 188) (19 + 2 + 1) = .ok (.ireturn, 1) ∧ pd_r 188 = some .int) ∧ pd_o 188 = 7 ∧ pd_h 188 = [(0, 12, 15, 28)] ++ (0, 12, 19, ([13, 15, 28] : List Nat).getD 0 0) :: [] ∧ pd_ct 188 0 = some (19, 2) := ⟨⟨Or.inl ⟨rfl, by decide +kernel⟩, by decide +kernel, by decide +kernel, by decide +kernel, by decide +kernel⟩, by decide +kernel, by decide +kernel, by decide +kernel⟩
theorem pd_hd_189_1 : (((1 = 2 ∧ decode (pd_c 189) 11 = .ok (.astore 2, 2)) ∨ ∃ kf : Fin 4, 1 = 1 ∧ (kf : Nat) = 2 ∧ decode (pd_c 189) 11 = .ok (.astore_n kf, 1)) ∧ 2 < pd_n 189 ∧ decode (pd_c 189) (11 + 1) = .ok (.iconst 1, 1) ∧ decode (pd_c 189) (11 + 1 + 1) = .ok (.ireturn, 1) ∧ pd_r 189 = some .int) ∧ pd_o 189 = 7 ∧ pd_h 189 = [] ++ (0, 8, 11, ([13, 15, 28] : List Nat).getD 1 0) :: [] ∧ pd_ct 189 1 = some (11, 1) := ⟨⟨Or.inr ⟨2, rfl, rfl, by decide +kernel⟩, by decide +kernel, by decide +kernel, by decide +kernel, by decide +kernel⟩, by decide +kernel, by decide +kernel, by decide +kernel⟩
theorem pd_hd_190_2 : (((1 = 2 ∧ decode (pd_c 190) 12 = .ok (.astore 3, 2)) ∨ ∃ kf : Fin 4, 1 = 1 ∧ (kf : Nat) = 3 ∧ decode (pd_c 190) 12 = .ok (.astore_n kf, 1)) ∧ 3 < pd_n 190 ∧ decode (pd_c 190) (12 + 1) = .ok (.iconst 1, 1) ∧ decode (pd_c 190) (12 + 1 + 1) = .ok (.ireturn, 1) ∧ pd_r 190 = some .int) ∧ pd_o 190 = 7 ∧ pd_h 190 = [] ++ (0, 9, 12, ([13, 15, 28] : List Nat).getD 2 0) :: [] ∧ pd_ct 190 2 = some (12, 1) := ⟨⟨Or.inr ⟨3, rfl, rfl, by decide +kernel⟩, by decide +kernel, by decide +kernel, by decide +kernel, by decide +kernel⟩, by decide +kernel, by decide +kernel, by decide +kernel⟩
theorem pd_hd_191_2 : (((1 = 2 ∧ decode (pd_c 191) 12 = .ok (.astore 3, 2)) ∨ ∃ kf : Fin 4, 1 = 1 ∧ (kf : Nat) = 3 ∧ decode (pd_c 191) 12 = .ok (.astore_n kf, 1)) ∧ 3 < pd_n 191 ∧ decode (pd_c 191) (12 + 1) = .ok (.iconst 1, 1) ∧ decode (pd_c 191) (12 + 1 + 1) = .ok (.ireturn, 1) ∧ pd_r 191 = some .int) ∧ pd_o 191 = 7 ∧ pd_h 191 = [] ++ (0, 9, 12, ([13, 15, 28] : List Nat).getD 2 0) :: [] ∧ pd_ct 191 2 = some (12, 1) := ⟨⟨Or.inr ⟨3, rfl, rfl, by decide +kernel⟩, by decide +kernel, by decide +kernel, by decide +kernel, by decide +kernel⟩, by decide +kernel, by decide +kernel, by decide +kernel⟩
theorem pd_hd_192_2 : (((2 = 2 ∧ decode (pd_c 192) 12 = .ok (.astore 4, 2)) ∨ ∃ kf : Fin 4, 2 = 1 ∧ (kf : Nat) = 4 ∧ decode (pd_c 192) 12 = .ok (.astore_n kf, 1)) ∧ 4 < pd_n 192 ∧ decode (pd_c 192) (12 + 2) = .ok (.iconst 1, 1) ∧ decode (pd_c 192) (12 + 2 + 1) = .ok (.ireturn, 1) ∧ pd_r 192 = some .int) ∧ pd_o 192 = 7 ∧ pd_h 192 = [] ++ (0, 9, 12, ([13, 15, 28] : List Nat).getD 2 0) :: [] ∧ pd_ct 192 2 = some (12, 1) := ⟨⟨Or.inl ⟨rfl, by decide +kernel⟩, by decide +kernel, by decide +kernel, by decide +kernel, by decide +kernel⟩, by decide +kernel, by decide +kernel, by decide +kernel⟩
theorem pd_hd_193_0 : (((2 = 2 ∧ decode (pd_c 193) 17 = .ok (.astore 6, 2)) ∨ ∃ kf : Fin 4, 2 = 1 ∧ (kf : Nat) = 6 ∧ decode (pd_c 193) 17 = .ok (.astore_n kf, 1)) ∧ 6 < pd_n 193 ∧ decode (pd_c 193) (17 + 2) = .ok (.iconst 1, 1) ∧ decode (pd_c 193) (17 + 2 + 1) = .ok (.ireturn, 1) ∧ pd_r 193 = some .int) ∧ pd_o 193 = 7 ∧ pd_h 193 = [] ++ (0, 14, 17, ([13, 15, 28] : List Nat).getD 0 0) :: [] ∧ pd_ct 193 0 = some (17, 1) := ⟨⟨Or.inl ⟨rfl, by decide +kernel⟩, by decide +kernel, by decide +kernel, by decide +kernel, by decide +kernel⟩, by decide +kernel, by decide +kernel, by decide +kernel⟩
theorem pd_hd_194_2 : (((2 = 2 ∧ decode (pd_c 194) 14 = .ok (.astore 5, 2)) ∨ ∃ kf : Fin 4, 2 = 1 ∧ (kf : Nat) = 5 ∧ decode (pd_c 194) 14 = .ok (.astore_n kf, 1)) ∧ 5 < pd_n 194 ∧ decode (pd_c 194) (14 + 2) = .ok (.iconst 1, 1) ∧ decode (pd_c 194) (14 + 2 + 1) = .ok (.ireturn, 1) ∧ pd_r 194 = some .int) ∧ pd_o 194 = 7 ∧ pd_h 194 = [] ++ (0, 11, 14, ([13, 15, 28] : List Nat).getD 2 0) :: [] ∧ pd_ct 194 2 = some (14, 1) := ⟨⟨Or.inl ⟨rfl, by decide +kernel⟩, by decide +kernel, by decide +kernel, by decide +kernel, by decide +kernel⟩, by decide +kernel, by decide +kernel, by decide +kernel⟩
theorem pd_hd_195_0 : (((2 = 2 ∧ decode (pd_c 195) 12 = .ok (.astore 4, 2)) ∨ ∃ kf : Fin 4, 2 = 1 ∧ (kf : Nat) = 4 ∧ decode (pd_c 195) 12 = .ok (.astore_n kf, 1)) ∧ 4 < pd_n 195 ∧ decode (pd_c 195) (12 + 2) = .ok (.iconst 1, 1) ∧ decode (pd_c 195) (12 + 2 + 1) = .ok (.ireturn, 1) ∧ pd_r 195 = some .int) ∧ pd_o 195 = 7 ∧ pd_h 195 = [] ++ (0, 9, 12, ([13, 15, 28] : List Nat).getD 0 0) :: [] ∧ pd_ct 195 0 = some (12, 1) := ⟨⟨Or.inl ⟨rfl, by decide +kernel⟩, by decide +kernel, by decide +kernel, by decide +kernel, by decide +kernel⟩, by decide +kernel, by decide +kernel, by decide +kernel⟩
theorem pd_hd_196_0 : (((2 = 2 ∧ decode (pd_c 196) 14 = .ok (.astore 5, 2)) ∨ ∃ kf : Fin 4, 2 = 1 ∧ (kf : Nat) = 5 ∧ decode (pd_c 196) 14 = .ok (.astore_n kf, 1)) ∧ 5 < pd_n 196 ∧ decode (pd_c 196) (14 + 2) = .ok (.iconst 1, 1) ∧ decode (pd_c 196) (14 + 2 + 1) = .ok (.ireturn, 1) ∧ pd_r 196 = some .int) ∧ pd_o 196 = 7 ∧ pd_h 196 = [] ++ (0, 11, 14, ([13, 15, 28] : List Nat).getD 0 0) :: [] ∧ pd_ct 196 0 = some (14, 1) := ⟨⟨Or.inl ⟨rfl, by decide +kernel⟩, by decide +kernel, by decide +kernel, by decide +kernel, by decide +kernel⟩, by decide +kernel, by decide +kernel, by decide +kernel⟩
theorem pd_hd_197_0 : (((2 = 2 ∧ decode (pd_c 197) 14 = .ok (.astore 5, 2)) ∨ ∃ kf : Fin 4, 2 = 1 ∧ (kf : Nat) = 5 ∧ decode (pd_c 197) 14 = .ok (.astore_n kf, 1)) ∧ 5 < pd_n 197 ∧ decode (pd_c 197) (14 + 2) = .ok (.iconst 1, 1) ∧ decode (pd_c 197) (14 + 2 + 1) = .ok (.ireturn, 1) ∧ pd_r 197 = some .int) ∧ pd_o 197 = 7 ∧ pd_h 197 = [] ++ (0, 11, 14, ([13, 15, 28] : List Nat).getD 0 0) :: [] ∧ pd_ct 197 0 = some (14, 1) := ⟨⟨Or.inl ⟨rfl, by decide +kernel⟩, by decide +kernel, by decide +kernel, by decide +kernel, by decide +kernel⟩, by decide +kernel, by decide +kernel, by decide +kernel⟩
theorem pd_hd_198_0 : (((2 = 2 ∧ decode (pd_c 198) 13 = .ok (.astore 5, 2)) ∨ ∃ kf : Fin 4, 2 = 1 ∧ (kf : Nat) = 5 ∧ decode (pd_c 198) 13 = .ok (.astore_n kf, 1)) ∧ 5 < pd_n 198 ∧ decode (pd_c 198) (13 + 2) = .ok (.iconst 1, 1) ∧ decode (pd_c 198) (13 + 2 + 1) = .ok (.ireturn, 1) ∧ pd_r 198 = some .int) ∧ pd_o 198 = 7 ∧ pd_h 198 = [] ++ (0, 10, 13, ([13, 15, 28] : List Nat).getD 0 0) :: [] ∧ pd_ct 198 0 = some (13, 1) := ⟨⟨Or.inl ⟨rfl, by decide +kernel⟩, by decide +kernel, by decide +kernel, by decide +kernel, by decide +kernel⟩, by decide +kernel, by decide +kernel, by decide +kernel⟩
theorem pd_hd_199_2 : (((1 = 2 ∧ decode (pd_c 199) 12 = .ok (.astore 3, 2)) ∨ ∃ kf : Fin 4, 1 = 1 ∧ (kf : Nat) = 3 ∧ decode (pd_c 199) 12 = .ok (.astore_n kf, 1)) ∧ 3 < pd_n 199 ∧ decode (pd_c 199) (12 + 1) = .ok (.iconst 1, 1) ∧ decode (pd_c 199) (12 + 1 + 1) = .ok (.ireturn, 1) ∧ pd_r 199 = some .int) ∧ pd_o 199 = 7 ∧ pd_h 199 = [] ++ (0, 9, 12, ([13, 15, 28] : List Nat).getD 2 0) :: [] ∧ pd_ct 199 2 = some (12, 1) := ⟨⟨Or.inr ⟨3, rfl, rfl, by decide +kernel⟩, by decide +kernel, by decide +kernel, by decide +kernel, by decide +kernel⟩, by decide +kernel, by decide +kernel, by decide +kernel⟩
theorem pd_hd_200_2 : (((1 = 2 ∧ decode (pd_c 200) 12 = .ok (.astore 3, 2)) ∨ ∃ kf : Fin 4, 1 = 1 ∧ (kf : Nat) = 3 ∧ decode (pd_c 200) 12 = .ok (.astore_n kf, 1)) ∧ 3 < pd_n 200 ∧ decode (pd_c 200) (12 + 1) = .ok (.iconst 1, 1) ∧ decode (pd_c 200) (12 + 1 + 1) = .ok (.ireturn, 1) ∧ pd_r 200 = some .int) ∧ pd_o 200 = 7 ∧ pd_h 200 = [] ++ (0, 9, 12, ([13, 15, 28] : List Nat).getD 2 0) :: [(0, 9, 15, 15)] ∧ pd_ct 200 2 = some (12, 1) := ⟨⟨Or.inr ⟨3, rfl, rfl, by decide +kernel⟩, by decide +kernel, by decide +kernel, by decide +kernel, by decide +kernel⟩, by decide +kernel, by decide +kernel, by decide +kernel⟩
theorem pd_hd_200_1 : (((1 = 2 ∧ decode (pd_c 200) 15 = .ok (.astore 3, 2)) ∨ ∃ kf : Fin 4, 1 = 1 ∧ (kf : Nat) = 3 ∧ decode (pd_c 200) 15 = .ok (.astore_n kf, 1)) ∧ 3 < pd_n 200 ∧ decode (pd_c 200) (15 + 1) = .ok (.iconst 2, 1) ∧ decode (pd_c 200) (15 + 1 + 1) = .ok (.ireturn, 1) ∧ pd_r 200 = some .int) ∧ pd_o 200 = 7 ∧ pd_h 200 = [(0, 9, 12, 28)] ++ (0, 9, 15, ([13, 15, 28] : List Nat).getD 1 0) :: [] ∧ pd_ct 200 1 = some (15, 2) := ⟨⟨Or.inr ⟨3, rfl, rfl, by decide +kernel⟩, by decide +kernel, by decide +kernel, by decide +kernel, by decide +kernel⟩, by decide +kernel, by decide +kernel, by decide +kernel⟩
theorem pd_ct_in {mi k : Nat} {q : Nat × Int} (h : pd_ct mi k = some q) : (mi, k, q) ∈ pd_CT := by
  unfold pd_ct at h
  obtain ⟨e, h1, h2⟩ := Option.map_eq_some_iff.mp h
  have h3 := List.find?_some h1
  simp only [Bool.and_eq_true, beq_iff_eq] at h3
  obtain ⟨x, y, z⟩ := e
  simp only at h2 h3
  rw [← h3.1, ← h3.2, ← h2]
  exact List.mem_of_find?_eq_some h1
theorem pd_catches {k hp : Nat} {r : Int} {rest : List Value} {q : Addr} {ce : Cell} {lq : List (Nat × Value)} (X : pd_Cx l p s m args meth c R mi) (hsz : base ≤ s.heap.size) (C : pd_Co b base L xs dC dI cy h s H) (hS : va_S (pd_A base) s.heap H locs) (hle : pd_le h0 h) (h02 : h0.1.2.2 ≤ h0.1.1) (hex : h0.1.1 = h0.1.2.2 → s.heap.size = base + h0.1.2.2) (hl : lv_has ls (pd_n mi) lq) (hct : pd_ct mi k = some (hp, r)) (hcell : H[q]? = some ce) (hv : ce.vm = .none) (hcl : s.vm.findClass (pd_en k) = some ce.cls) (hin : pd_in mi pc = true) :
    vx_W p l e R s m args below meth c H locs (h.1.1 - h0.1.1) (h.1.2.1 - h0.1.2.1) (vx_MQ below (pd_Qc b base L xs dC dI cy (.inl (some (.int (Int32.ofInt r)))) h) (pd_XC b base L xs dC dI cy (.inl (some (.int (Int32.ofInt r)))) h) args s (h.1.1 - h0.1.1) (h.1.2.1 - h0.1.2.1) (pd_A base)) (F0 m pc ls rest) q := by
  have hm := pd_ct_in hct
  simp only [pd_CT, List.mem_cons, Prod.mk.injEq, List.not_mem_nil, or_false] at hm
  rcases hm with ⟨rfl, rfl, rfl, rfl⟩ | ⟨rfl, rfl, rfl, rfl⟩ | ⟨rfl, rfl, rfl, rfl⟩ | ⟨rfl, rfl, rfl, rfl⟩ | ⟨rfl, rfl, rfl, rfl⟩ | ⟨rfl, rfl, rfl, rfl⟩ | ⟨rfl, rfl, rfl, rfl⟩ | ⟨rfl, rfl, rfl, rfl⟩ | ⟨rfl, rfl, rfl, rfl⟩ | ⟨rfl, rfl, rfl, rfl⟩ | ⟨rfl, rfl, rfl, rfl⟩ | ⟨rfl, rfl, rfl, rfl⟩ | ⟨rfl, rfl, rfl, rfl⟩ | ⟨rfl, rfl, rfl, rfl⟩ | ⟨rfl, rfl, rfl, rfl⟩ | ⟨rfl, rfl, rfl, rfl⟩ | ⟨rfl, rfl, rfl, rfl⟩ | ⟨rfl, rfl, rfl, rfl⟩ | ⟨rfl, rfl, rfl, rfl⟩ | ⟨rfl, rfl, rfl, rfl⟩ | ⟨rfl, rfl, rfl, rfl⟩ | ⟨rfl, rfl, rfl, rfl⟩ | ⟨rfl, rfl, rfl, rfl⟩ | ⟨rfl, rfl, rfl, rfl⟩ | ⟨rfl, rfl, rfl, rfl⟩ | ⟨rfl, rfl, rfl, rfl⟩ | ⟨rfl, rfl, rfl, rfl⟩ | ⟨rfl, rfl, rfl, rfl⟩ | ⟨rfl, rfl, rfl, rfl⟩
  · obtain ⟨hd, h7, ht, -⟩ := pd_hd_178_0
    exact pd_caught X h7 (by decide) hcell hv hcl ht (fun y hy => nomatch hy) hin (pd_handle X hsz C hS hle h02 hex hl hd)
  · obtain ⟨hd, h7, ht, -⟩ := pd_hd_178_1
    exact pd_caught X h7 (by decide) hcell hv hcl ht (fun y hy => by simp only [List.mem_cons, List.not_mem_nil, or_false] at hy; rcases hy with rfl <;> exact ⟨0, by decide, by decide, rfl⟩) hin (pd_handle X hsz C hS hle h02 hex hl hd)
  · obtain ⟨hd, h7, ht, -⟩ := pd_hd_179_1
    exact pd_caught X h7 (by decide) hcell hv hcl ht (fun y hy => nomatch hy) hin (pd_handle X hsz C hS hle h02 hex hl hd)
  · obtain ⟨hd, h7, ht, -⟩ := pd_hd_180_0
    exact pd_caught X h7 (by decide) hcell hv hcl ht (fun y hy => nomatch hy) hin (pd_handle X hsz C hS hle h02 hex hl hd)
  · obtain ⟨hd, h7, ht, -⟩ := pd_hd_181_2
    exact pd_caught X h7 (by decide) hcell hv hcl ht (fun y hy => nomatch hy) hin (pd_handle X hsz C hS hle h02 hex hl hd)
  · obtain ⟨hd, h7, ht, -⟩ := pd_hd_182_2
    exact pd_caught X h7 (by decide) hcell hv hcl ht (fun y hy => nomatch hy) hin (pd_handle X hsz C hS hle h02 hex hl hd)
  · obtain ⟨hd, h7, ht, -⟩ := pd_hd_183_2
    exact pd_caught X h7 (by decide) hcell hv hcl ht (fun y hy => nomatch hy) hin (pd_handle X hsz C hS hle h02 hex hl hd)
  · obtain ⟨hd, h7, ht, -⟩ := pd_hd_183_0
    exact pd_caught X h7 (by decide) hcell hv hcl ht (fun y hy => by simp only [List.mem_cons, List.not_mem_nil, or_false] at hy; rcases hy with rfl <;> exact ⟨2, by decide, by decide, rfl⟩) hin (pd_handle X hsz C hS hle h02 hex hl hd)
  · obtain ⟨hd, h7, ht, -⟩ := pd_hd_184_0
    exact pd_caught X h7 (by decide) hcell hv hcl ht (fun y hy => nomatch hy) hin (pd_handle X hsz C hS hle h02 hex hl hd)
  · obtain ⟨hd, h7, ht, -⟩ := pd_hd_184_1
    exact pd_caught X h7 (by decide) hcell hv hcl ht (fun y hy => by simp only [List.mem_cons, List.not_mem_nil, or_false] at hy; rcases hy with rfl <;> exact ⟨0, by decide, by decide, rfl⟩) hin (pd_handle X hsz C hS hle h02 hex hl hd)
  · obtain ⟨hd, h7, ht, -⟩ := pd_hd_185_0
    exact pd_caught X h7 (by decide) hcell hv hcl ht (fun y hy => nomatch hy) hin (pd_handle X hsz C hS hle h02 hex hl hd)
  · obtain ⟨hd, h7, ht, -⟩ := pd_hd_186_2
    exact pd_caught X h7 (by decide) hcell hv hcl ht (fun y hy => nomatch hy) hin (pd_handle X hsz C hS hle h02 hex hl hd)
  · obtain ⟨hd, h7, ht, -⟩ := pd_hd_186_0
    exact pd_caught X h7 (by decide) hcell hv hcl ht (fun y hy => by simp only [List.mem_cons, List.not_mem_nil, or_false] at hy; rcases hy with rfl <;> exact ⟨2, by decide, by decide, rfl⟩) hin (pd_handle X hsz C hS hle h02 hex hl hd)
  · obtain ⟨hd, h7, ht, -⟩ := pd_hd_187_2
    exact pd_caught X h7 (by decide) hcell hv hcl ht (fun y hy => nomatch hy) hin (pd_handle X hsz C hS hle h02 hex hl hd)
  · obtain ⟨hd, h7, ht, -⟩ := pd_hd_188_2
    exact pd_caught X h7 (by decide) hcell hv hcl ht (fun y hy => nomatch hy) hin (pd_handle X hsz C hS hle h02 hex hl hd)
  · obtain ⟨hd, h7, ht, -⟩ := pd_hd_188_0
    exact pd_caught X h7 (by decide) hcell hv hcl ht (fun y hy => by simp only [List.mem_cons, List.not_mem_nil, or_false] at hy; rcases hy with rfl <;> exact ⟨2, by decide, by decide, rfl⟩) hin (pd_handle X hsz C hS hle h02 hex hl hd)
  · obtain ⟨hd, h7, ht, -⟩ := pd_hd_189_1
    exact pd_caught X h7 (by decide) hcell hv hcl ht (fun y hy => nomatch hy) hin (pd_handle X hsz C hS hle h02 hex hl hd)
  · obtain ⟨hd, h7, ht, -⟩ := pd_hd_190_2
    exact pd_caught X h7 (by decide) hcell hv hcl ht (fun y hy => nomatch hy) hin (pd_handle X hsz C hS hle h02 hex hl hd)
  · obtain ⟨hd, h7, ht, -⟩ := pd_hd_191_2
    exact pd_caught X h7 (by decide) hcell hv hcl ht (fun y hy => nomatch hy) hin (pd_handle X hsz C hS hle h02 hex hl hd)
  · obtain ⟨hd, h7, ht, -⟩ := pd_hd_192_2
    exact pd_caught X h7 (by decide) hcell hv hcl ht (fun y hy => nomatch hy) hin (pd_handle X hsz C hS hle h02 hex hl hd)
  · obtain ⟨hd, h7, ht, -⟩ := pd_hd_193_0
    exact pd_caught X h7 (by decide) hcell hv hcl ht (fun y hy => nomatch hy) hin (pd_handle X hsz C hS hle h02 hex hl hd)
  · obtain ⟨hd, h7, ht, -⟩ := pd_hd_194_2
    exact pd_caught X h7 (by decide) hcell hv hcl ht (fun y hy => nomatch hy) hin (pd_handle X hsz C hS hle h02 hex hl hd)
  · obtain ⟨hd, h7, ht, -⟩ := pd_hd_195_0
    exact pd_caught X h7 (by decide) hcell hv hcl ht (fun y hy => nomatch hy) hin (pd_handle X hsz C hS hle h02 hex hl hd)
  · obtain ⟨hd, h7, ht, -⟩ := pd_hd_196_0
    exact pd_caught X h7 (by decide) hcell hv hcl ht (fun y hy => nomatch hy) hin (pd_handle X hsz C hS hle h02 hex hl hd)
  · obtain ⟨hd, h7, ht, -⟩ := pd_hd_197_0
    exact pd_caught X h7 (by decide) hcell hv hcl ht (fun y hy => nomatch hy) hin (pd_handle X hsz C hS hle h02 hex hl hd)
  · obtain ⟨hd, h7, ht, -⟩ := pd_hd_198_0
    exact pd_caught X h7 (by decide) hcell hv hcl ht (fun y hy => nomatch hy) hin (pd_handle X hsz C hS hle h02 hex hl hd)
  · obtain ⟨hd, h7, ht, -⟩ := pd_hd_199_2
    exact pd_caught X h7 (by decide) hcell hv hcl ht (fun y hy => nomatch hy) hin (pd_handle X hsz C hS hle h02 hex hl hd)
  · obtain ⟨hd, h7, ht, -⟩ := pd_hd_200_2
    exact pd_caught X h7 (by decide) hcell hv hcl ht (fun y hy => nomatch hy) hin (pd_handle X hsz C hS hle h02 hex hl hd)
  · obtain ⟨hd, h7, ht, -⟩ := pd_hd_200_1
    exact pd_caught X h7 (by decide) hcell hv hcl ht (fun y hy => by simp only [List.mem_cons, List.not_mem_nil, or_false] at hy; rcases hy with rfl <;> exact ⟨2, by decide, by decide, rfl⟩) hin (pd_handle X hsz C hS hle h02 hex hl hd)
end PDY
