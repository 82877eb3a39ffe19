/-! Building vertices, the class's side. -/
def insl (L ks : List Int) : List Int := ks.foldl ins L
theorem insl_snoc (L ks : List Int) (k : Int) : insl L (ks ++ [k]) = ins (insl L ks) k := by simp [insl]
theorem insl_mem {L ks : List Int} {x : Int} : x ∈ insl L ks ↔ x ∈ L ∨ x ∈ ks := by
  induction ks generalizing L with
  | nil => simp [insl]
  | cons k ks ih =>
    show x ∈ insl (ins L k) ks ↔ _
    rw [ih, ins_mem, List.mem_cons]
    constructor
    · rintro ((a | a) | a)
      · exact .inr (.inl a)
      · exact .inl a
      · exact .inr (.inr a)
    · rintro (a | a | a)
      · exact .inl (.inr a)
      · exact .inl (.inl a)
      · exact .inr a
theorem insl_sorted {L ks : List Int} (h : L.Pairwise (· < ·)) : (insl L ks).Pairwise (· < ·) := by
  induction ks generalizing L with
  | nil => exact h
  | cons k ks ih => exact ih (ins_sorted h)
theorem insl_s0 (ks : List Int) : (insl [] ks).Pairwise (· < ·) := insl_sorted List.Pairwise.nil
theorem insl_eq {ks ks' : List Int} (h : ∀ x, x ∈ ks ↔ x ∈ ks') : insl [] ks = insl [] ks' := sorted_ext (insl_s0 _) (insl_s0 _) (fun x => by rw [insl_mem, insl_mem]; simp [h x])
theorem rgm_s {α : Type} (f : Nat → α) (n : Nat) : (List.range (n + 1)).map f = (List.range n).map f ++ [f n] := by rw [List.range_succ, List.map_append]; rfl
theorem b9_of {f : Int → Int} (h : ∀ i : Int, 0 ≤ i → i < 4 → -9 ≤ f i ∧ f i ≤ 9) : b9 f 0 := ⟨h _ (by omega) (by omega), h _ (by omega) (by omega), h _ (by omega) (by omega), h _ (by omega) (by omega)⟩
def axp (s : Int) (j : Nat) : Int := ky (fun i => if i = (j : Int) then s else 0) 0
def axk (s : Int) (d : Nat) : List Int := (List.range d).map (axp s)
def bit (s j : Nat) : Nat := s / 2 ^ j % 2
def bxp (sz : Int → Int) (d s : Nat) : Int := ky (fun i => if i < (d : Int) then ((bit s i.toNat : Nat) : Int) * sz i else 0) 0
def bxk (sz : Int → Int) (d : Nat) : List Int := (List.range (2 ^ d)).map (bxp sz d)
/-- which number stands where, by the code's digits -/
def arx : Nat → Int → (Int → Int) → List Int
  | 0, _, _ => []
  | l + 1, rest, π => π (rest % ((l : Int) + 1)) :: arx l (rest / ((l : Int) + 1)) (zu π (rest % ((l : Int) + 1)) (π l))
def arp (sz : Int → Int) (d c : Nat) : Int := ky (fun i => if i < (d : Int) then sz ((arx d (c : Int) id).getD i.toNat 0) else 0) 0
def fct : Nat → Nat
  | 0 => 1
  | n + 1 => (n + 1) * fct n
def ark (sz : Int → Int) (d : Nat) : List Int := (List.range (fct d)).map (arp sz d)
def bks (k : Int) (sz : Int → Int) (d : Nat) : List Int := if k = 0 then 0 :: axk (sz 0) d else if k = 1 then bxk sz d else if k = 2 then axk (sz 0) d ++ axk (- sz 0) d else ark sz d
theorem bt_ok {s j : Nat} (hs : s < 16) (hj : j < 4) : ((ii (s : Int) >>> (ii (j : Int) &&& 31)) &&& ii 1) = ii ((bit s j : Nat) : Int) := by
  have h : ∀ s : Fin 16, ∀ j : Fin 4, ((ii ((s.val : Nat) : Int) >>> (ii ((j.val : Nat) : Int) &&& 31)) &&& ii 1) = ii ((bit s.val j.val : Nat) : Int) := by decide +kernel
  exact h ⟨s, hs⟩ ⟨j, hj⟩
theorem bit_in (s j : Nat) : bit s j = 0 ∨ bit s j = 1 := by unfold bit; omega
theorem sh_ok {d : Nat} (hd : d ≤ 4) : ii 1 <<< (ii (d : Int) &&& 31) = ii ((2 ^ d : Nat) : Int) := by
  have h : ∀ d : Fin 5, ii 1 <<< (ii ((d.val : Nat) : Int) &&& 31) = ii ((2 ^ d.val : Nat) : Int) := by decide +kernel
  exact h ⟨d, by omega⟩
theorem p2_in {d : Nat} (hd : d ≤ 4) : 1 ≤ 2 ^ d ∧ 2 ^ d ≤ 16 := by
  have h : ∀ d : Fin 5, 1 ≤ 2 ^ d.val ∧ 2 ^ d.val ≤ 16 := by decide
  exact h ⟨d, by omega⟩
section BLD
variable {C c g sz : Int → Int} {k : Int} {dn n : Nat} {ks : List Int}
theorem c26 {a b d0 k0 n0 : Int} : ∀ h, Ca 26 [.ref 5, .int (ii a), .int (ii b)] (wd [(5, oP5 d0 k0 n0)] h) (.inl none, wd [(5, oP5 a b ((0 : Nat) : Int))] h) := by
  intro h
  refine E_in (lv := [_, _, _]) rfl ?_
  refine E_aload pf_26_0 rfl ?_
  refine E_iload pf_26_1 rfl ?_
  refine F_putf (l' := [(_, _)]) (x := ob _ [_, _, _, _, _, _]) pf_26_2 rfl rfl rfl rfl rfl ?_
  refine E_aload pf_26_5 rfl ?_
  refine E_iload pf_26_6 rfl ?_
  refine F_putf (l' := [(_, _)]) (x := ob _ [_, _, _, _, _, _]) pf_26_7 rfl rfl rfl rfl rfl ?_
  refine E_aload pf_26_10 rfl ?_
  refine E_iconst pf_26_11 ?_
  refine F_putf (l' := [(_, _)]) (x := ob _ [_, _, _, _, _, _]) pf_26_12 rfl rfl rfl rfl rfl ?_
  exact E_vret pf_26_15 rfl
theorem c32 : ∃ c' : Int → Int, (∀ j : Int, 0 ≤ j → j < 4 → c' j = 0) ∧ ∀ h, Ca 32 [.ref 5] (wd [(5, oP5 (dn : Int) k (n : Int)), (7, ar 4 c)] h) (.inl none, wd [(5, oP5 (dn : Int) k (n : Int)), (7, ar 4 c')] h) := by
  refine ⟨zfill c (fun _ => 0) 4, fun j h1 h2 => zfill_at ⟨h1, h2⟩, fun h => ?_⟩
  have loop : ∀ (m j : Nat) (A : Int → Int), j + m = 4 → A = zfill c (fun _ => 0) j → Rn 32 2 [.ref 5, .int (ii (j : Int))] [] (wd [(5, oP5 (dn : Int) k (n : Int)), (7, ar 4 A)] h) (.inl none, wd [(5, oP5 (dn : Int) k (n : Int)), (7, ar 4 (zfill c (fun _ => 0) 4))] h) := by
    intro m
    induction m with
    | zero =>
      intro j A hj hA
      obtain rfl : j = 4 := by omega
      subst hA
      refine E_iload pf_32_2 rfl ?_
      refine E_iconst pf_32_3 ?_
      refine E_icmp_ge_t pf_32_4 (by omega) ?_
      exact E_vret pf_32_20 rfl
    | succ m ih =>
      intro j A hj hA
      have ih := ih (j + 1) _ (by omega) (by rw [zfill_s, ← hA])
      refine E_iload pf_32_2 rfl ?_
      refine E_iconst pf_32_3 ?_
      refine E_icmp_ge_f pf_32_4 (by omega) ?_
      refine E_aload pf_32_7 rfl ?_
      refine F_getf pf_32_8 rfl rfl rfl ?_
      refine E_iload pf_32_11 rfl ?_
      refine E_iconst pf_32_12 ?_
      refine F_iast (l' := [(_, _), (_, _)]) pf_32_13 rfl (by omega) rfl ?_
      refine E_iinc (lv' := [_, _]) pf_32_14 rfl rfl ?_
      refine E_goto pf_32_17 ?_
      exact ih
  refine E_in (lv := [_, _]) rfl ?_
  refine E_iconst pf_32_0 ?_
  refine E_istore (lv' := [_, _]) pf_32_1 rfl rfl ?_
  exact loop 4 0 c (by omega) (zfill_0 _ _).symm
theorem c34 {s : Int} (hs : -9 ≤ s ∧ s ≤ 9) (hd : dn ≤ 4) (hC : (∀ q, -9 ≤ C q ∧ C q ≤ 9)) (hk : kl C n = insl [] ks) (hn : n + dn ≤ 24) : ∃ (n' : Nat) (C' c' : Int → Int), (∀ q, -9 ≤ C' q ∧ C' q ≤ 9) ∧ kl C' n' = insl [] (ks ++ axk s dn) ∧ n' ≤ n + dn ∧ ∀ h, Ca 34 [.ref 5, .int (ii s)] (wd [(5, oP5 (dn : Int) k (n : Int)), (6, ar 96 C), (7, ar 4 c)] h) (.inl none, wd [(5, oP5 (dn : Int) k (n' : Int)), (6, ar 96 C'), (7, ar 4 c')] h) := by
  have loop : ∀ (m j n : Nat) (C c : Int → Int), j + m = dn → n + m ≤ 24 → (∀ q, -9 ≤ C q ∧ C q ≤ 9) → kl C n = insl [] (ks ++ (List.range j).map (axp s)) → ∃ (n' : Nat) (C' c' : Int → Int), (∀ q, -9 ≤ C' q ∧ C' q ≤ 9) ∧ kl C' n' = insl [] (ks ++ axk s dn) ∧ n' ≤ n + m ∧ ∀ h, Rn 34 2 [.ref 5, .int (ii s), .int (ii (j : Int))] [] (wd [(5, oP5 (dn : Int) k (n : Int)), (6, ar 96 C), (7, ar 4 c)] h) (.inl none, wd [(5, oP5 (dn : Int) k (n' : Int)), (6, ar 96 C'), (7, ar 4 c')] h) := by
    intro m
    induction m with
    | zero =>
      intro j n C c hj hn hC hk
      obtain rfl : j = dn := by omega
      refine ⟨n, C, c, hC, hk, by omega, fun h => ?_⟩
      refine E_iload pf_34_2 rfl ?_
      refine E_aload pf_34_3 rfl ?_
      refine F_getf pf_34_4 rfl rfl rfl ?_
      refine E_icmp_ge_t pf_34_7 (by omega) ?_
      exact E_vret pf_34_41 rfl
    | succ m ih =>
      intro j n C c hj hn hC hk
      obtain ⟨c1, hc1, h32⟩ := c32 (dn := dn) (k := k) (n := n) (c := c)
      have hb : b9 (zu c1 (j : Int) s) 0 := b9_of fun i h1 h2 => by
        unfold zu
        split
        · exact hs
        · rw [hc1 i h1 h2]; omega
      have ek : ky (zu c1 (j : Int) s) 0 = axp s j := ky_congr fun i h1 h2 => by
        unfold zu
        split
        · rfl
        · exact hc1 _ (by omega) (by omega)
      obtain ⟨n1, C1, h1, h2, h3, h29⟩ := c29c (d := (dn : Int)) (k := k) (n := n) (C := C) (pt := zu c1 (j : Int) s) (by omega) hC hb (by rw [hk]; exact insl_s0 _)
      have h3' : n1 ≤ n + 1 := by rw [h3]; split <;> omega
      obtain ⟨n2, C2, c2, g1, g2, g3, g4⟩ := ih (j + 1) n1 C1 (zu c1 (j : Int) s) (by omega) (by omega) h1 (by rw [h2, hk, ek, ← insl_snoc, rgm_s, List.append_assoc])
      refine ⟨n2, C2, c2, g1, g2, by omega, fun h => ?_⟩
      refine E_iload pf_34_2 rfl ?_
      refine E_aload pf_34_3 rfl ?_
      refine F_getf pf_34_4 rfl rfl rfl ?_
      refine E_icmp_ge_f pf_34_7 (by omega) ?_
      refine E_iload pf_34_10 rfl ?_
      refine E_iconst pf_34_11 ?_
      refine E_icmp_ge_f pf_34_12 (by omega) ?_
      refine E_aload pf_34_15 rfl ?_
      refine F_v1u (l' := [(_, _), (_, _), (_, _)]) pf_34_16 (h32) (And.intro rfl (And.intro rfl (trivial))) rfl rfl rfl rfl ?_
      refine E_aload pf_34_19 rfl ?_
      refine F_getf pf_34_20 rfl rfl rfl ?_
      refine E_iload pf_34_23 rfl ?_
      refine E_iload pf_34_24 rfl ?_
      refine F_iast (l' := [(_, _), (_, _), (_, _)]) pf_34_25 rfl (by omega) rfl ?_
      refine E_aload pf_34_26 rfl ?_
      refine E_aload pf_34_27 rfl ?_
      refine F_getf pf_34_28 rfl rfl rfl ?_
      refine F_v2v (l' := [(_, _), (_, _), (_, _)]) pf_34_31 (h29) (And.intro rfl (And.intro rfl (And.intro rfl (trivial)))) rfl rfl rfl rfl ?_
      refine E_pop pf_34_34 rfl ?_
      refine E_iinc (lv' := [_, _, _]) pf_34_35 rfl rfl ?_
      refine E_goto pf_34_38 ?_
      exact g4 h
  obtain ⟨n2, C2, c2, g1, g2, g3, g4⟩ := loop dn 0 n C c (by omega) hn hC (by rw [hk]; simp)
  refine ⟨n2, C2, c2, g1, g2, g3, fun h => ?_⟩
  refine E_in (lv := [_, _, _]) rfl ?_
  refine E_iconst pf_34_0 ?_
  refine E_istore (lv' := [_, _, _]) pf_34_1 rfl rfl ?_
  exact g4 h
theorem c35 (hz : ∀ i : Int, 0 ≤ i → i < 4 → 0 ≤ sz i ∧ sz i ≤ 9) (hd : dn ≤ 4) (hC : (∀ q, -9 ≤ C q ∧ C q ≤ 9)) : ∃ (n' : Nat) (C' c' : Int → Int), (∀ q, -9 ≤ C' q ∧ C' q ≤ 9) ∧ kl C' n' = insl [] (bxk sz dn) ∧ n' ≤ 16 ∧ ∀ h, Ca 35 [.ref 5, .ref 4] (wd [(5, oP5 (dn : Int) k ((0 : Nat) : Int)), (6, ar 96 C), (4, ar 4 sz), (7, ar 4 c)] h) (.inl none, wd [(5, oP5 (dn : Int) k (n' : Int)), (6, ar 96 C'), (4, ar 4 sz), (7, ar 4 c')] h) := by
  obtain ⟨N, hN⟩ : ∃ N, N = 2 ^ dn := ⟨_, rfl⟩
  have hsh := sh_ok hd
  have hN1 := p2_in hd
  rw [← hN] at hsh hN1
  have loop : ∀ (m s n : Nat) (C c : Int → Int), s + m = N → n ≤ s → (∀ q, -9 ≤ C q ∧ C q ≤ 9) → kl C n = insl [] ((List.range s).map (bxp sz dn)) → ∃ (n' : Nat) (C' c' : Int → Int), (∀ q, -9 ≤ C' q ∧ C' q ≤ 9) ∧ kl C' n' = insl [] (bxk sz dn) ∧ n' ≤ 16 ∧ ∀ (h : pd_H) (w3 : Value), Rn 35 2 [.ref 5, .ref 4, .int (ii (s : Int)), w3] [] (wd [(5, oP5 (dn : Int) k (n : Int)), (6, ar 96 C), (4, ar 4 sz), (7, ar 4 c)] h) (.inl none, wd [(5, oP5 (dn : Int) k (n' : Int)), (6, ar 96 C'), (4, ar 4 sz), (7, ar 4 c')] h) := by
    intro m
    induction m with
    | zero =>
      intro s n C c hj hn hC hk
      obtain rfl : s = N := by omega
      refine ⟨n, C, c, hC, by rw [hk]; unfold bxk; rw [hN], by omega, fun h w3 => ?_⟩
      refine E_iload pf_35_2 rfl ?_
      refine E_iconst pf_35_3 ?_
      refine E_aload pf_35_4 rfl ?_
      refine F_getf pf_35_5 rfl rfl rfl ?_
      refine E_ishl pf_35_8 ?_
      refine E_top (congrArg Value.int hsh) ?_
      refine E_icmp_ge_t pf_35_9 (by omega) ?_
      exact E_vret pf_35_67 rfl
    | succ m ih =>
      intro s n C c hj hn hC hk
      obtain ⟨c1, hc1, h32⟩ := c32 (dn := dn) (k := k) (n := n) (c := c)
      have inner : ∀ (m2 j : Nat) (A : Int → Int) (h : pd_H) (r : pd_Out × pd_H), j + m2 = dn → A = zfill c1 (fun i => ((bit s i.toNat : Nat) : Int) * sz i) j → Rn 35 52 [.ref 5, .ref 4, .int (ii (s : Int)), .int (ii (dn : Int))] [] (wd [(5, oP5 (dn : Int) k (n : Int)), (6, ar 96 C), (4, ar 4 sz), (7, ar 4 (zfill c1 (fun i => ((bit s i.toNat : Nat) : Int) * sz i) dn))] h) r → Rn 35 18 [.ref 5, .ref 4, .int (ii (s : Int)), .int (ii (j : Int))] [] (wd [(5, oP5 (dn : Int) k (n : Int)), (6, ar 96 C), (4, ar 4 sz), (7, ar 4 A)] h) r := by
        intro m2
        induction m2 with
        | zero =>
          intro j A h r hj hA hr
          obtain rfl : j = dn := by omega
          subst hA
          refine E_iload pf_35_18 rfl ?_
          refine E_aload pf_35_19 rfl ?_
          refine F_getf pf_35_20 rfl rfl rfl ?_
          refine E_icmp_ge_t pf_35_23 (by omega) ?_
          exact hr
        | succ m2 ih2 =>
          intro j A h r hj hA hr
          have ih2 := ih2 (j + 1) _ h r (by omega) (zfill_s _ _ _).symm hr
          rw [← hA] at ih2
          refine E_iload pf_35_18 rfl ?_
          refine E_aload pf_35_19 rfl ?_
          refine F_getf pf_35_20 rfl rfl rfl ?_
          refine E_icmp_ge_f pf_35_23 (by omega) ?_
          refine E_iload pf_35_26 rfl ?_
          refine E_iconst pf_35_27 ?_
          refine E_icmp_ge_f pf_35_28 (by omega) ?_
          refine E_aload pf_35_31 rfl ?_
          refine F_getf pf_35_32 rfl rfl rfl ?_
          refine E_iload pf_35_35 rfl ?_
          refine E_iload pf_35_36 rfl ?_
          refine E_iload pf_35_37 rfl ?_
          refine E_ishr pf_35_38 ?_
          refine E_iconst pf_35_39 ?_
          refine E_iand pf_35_40 ?_
          refine E_top (congrArg Value.int (bt_ok (s := s) (j := j) (by omega) (by omega))) ?_
          refine E_aload pf_35_41 rfl ?_
          refine E_iload pf_35_42 rfl ?_
          refine F_iald pf_35_43 rfl (by omega) ?_
          refine E_imul pf_35_44 ?_
          refine F_iast (l' := [(_, _), (_, _), (_, _), (_, _)]) pf_35_45 rfl (by omega) rfl ?_
          refine E_iinc (lv' := [_, _, _, _]) pf_35_46 rfl rfl ?_
          refine E_goto pf_35_49 ?_
          exact ih2
      have hf : ∀ i : Int, 0 ≤ i → i < 4 → zfill c1 (fun i => ((bit s i.toNat : Nat) : Int) * sz i) dn i = if i < (dn : Int) then ((bit s i.toNat : Nat) : Int) * sz i else 0 := fun i h1 h2 => by
        by_cases e : i < (dn : Int)
        · rw [zfill_at ⟨h1, e⟩, if_pos e]
        · rw [zfill_out (by omega), if_neg e]; exact hc1 i h1 h2
      have hb : b9 (zfill c1 (fun i => ((bit s i.toNat : Nat) : Int) * sz i) dn) 0 := b9_of fun i h1 h2 => by
        rw [hf i h1 h2]
        have := hz i h1 h2
        split
        · rcases bit_in s i.toNat with q | q <;> rw [q] <;> omega
        · omega
      have ek : ky (zfill c1 (fun i => ((bit s i.toNat : Nat) : Int) * sz i) dn) 0 = bxp sz dn s := ky_congr fun i h1 h2 => hf _ (by omega) (by omega)
      obtain ⟨n1, C1, h1, h2, h3, h29⟩ := c29c (d := (dn : Int)) (k := k) (n := n) (C := C) (pt := zfill c1 (fun i => ((bit s i.toNat : Nat) : Int) * sz i) dn) (by omega) hC hb (by rw [hk]; exact insl_s0 _)
      have h3' : n1 ≤ n + 1 := by rw [h3]; split <;> omega
      obtain ⟨n2, C2, c2, g1, g2, g3, g4⟩ := ih (s + 1) n1 C1 (zfill c1 (fun i => ((bit s i.toNat : Nat) : Int) * sz i) dn) (by omega) (by omega) h1 (by rw [h2, hk, ek, ← insl_snoc, rgm_s])
      refine ⟨n2, C2, c2, g1, g2, g3, fun h w3 => ?_⟩
      refine E_iload pf_35_2 rfl ?_
      refine E_iconst pf_35_3 ?_
      refine E_aload pf_35_4 rfl ?_
      refine F_getf pf_35_5 rfl rfl rfl ?_
      refine E_ishl pf_35_8 ?_
      refine E_top (congrArg Value.int hsh) ?_
      refine E_icmp_ge_f pf_35_9 (by omega) ?_
      refine E_aload pf_35_12 rfl ?_
      refine F_v1u (l' := [(_, _), (_, _), (_, _), (_, _)]) pf_35_13 (h32) (And.intro rfl (And.intro rfl (trivial))) rfl rfl rfl rfl ?_
      refine E_iconst pf_35_16 ?_
      refine E_istore (lv' := [_, _, _, _]) pf_35_17 rfl rfl ?_
      refine inner dn 0 c1 h _ (by omega) (zfill_0 _ _).symm ?_
      refine E_aload pf_35_52 rfl ?_
      refine E_aload pf_35_53 rfl ?_
      refine F_getf pf_35_54 rfl rfl rfl ?_
      refine F_v2v (l' := [(_, _), (_, _), (_, _), (_, _)]) pf_35_57 (h29) (And.intro rfl (And.intro rfl (And.intro rfl (trivial)))) rfl rfl rfl rfl ?_
      refine E_pop pf_35_60 rfl ?_
      refine E_iinc (lv' := [_, _, _, _]) pf_35_61 rfl rfl ?_
      refine E_goto pf_35_64 ?_
      exact g4 h _
  obtain ⟨n2, C2, c2, g1, g2, g3, g4⟩ := loop N 0 0 C c (by omega) (by omega) hC rfl
  refine ⟨n2, C2, c2, g1, g2, g3, fun h => ?_⟩
  refine E_in (lv := [_, _, _, _]) rfl ?_
  refine E_iconst pf_35_0 ?_
  refine E_istore (lv' := [_, _, _, _]) pf_35_1 rfl rfl ?_
  exact g4 h _
theorem c37 {cd : Nat} (hd : dn ≤ 4) (hc : cd ≤ 100) : ∃ c' g' : Int → Int, (∀ i : Int, 0 ≤ i → i < 4 → c' i = if i < (dn : Int) then sz ((arx dn (cd : Int) id).getD i.toNat 0) else 0) ∧ ∀ h, Ca 37 [.ref 5, .ref 4, .int (ii (cd : Int))] (wd [(5, oP5 (dn : Int) k (n : Int)), (4, ar 4 sz), (7, ar 4 c), (8, ar 4 g)] h) (.inl none, wd [(5, oP5 (dn : Int) k (n : Int)), (4, ar 4 sz), (7, ar 4 c'), (8, ar 4 g')] h) := by
  obtain ⟨c1, hc1, h32⟩ := c32 (dn := dn) (k := k) (n := n) (c := c)
  have loop : ∀ (l j : Nat) (rest : Int) (π G A : Int → Int), j + l = dn → (0 ≤ rest ∧ rest ≤ 100) → (∀ q : Int, 0 ≤ q → q < l → G q = sz (π q)) → ∃ A' G' : Int → Int, (∀ i : Int, (i < j ∨ dn ≤ i) → A' i = A i) ∧ (∀ i : Nat, i < l → A' ((j : Int) + i) = sz ((arx l rest π).getD i 0)) ∧ ∀ (h : pd_H) (w5 w6 : Value), Rn 37 20 [.ref 5, .ref 4, .int (ii (cd : Int)), .int (ii rest), .int (ii (j : Int)), w5, w6] [] (wd [(5, oP5 (dn : Int) k (n : Int)), (4, ar 4 sz), (7, ar 4 A), (8, ar 4 G)] h) (.inl none, wd [(5, oP5 (dn : Int) k (n : Int)), (4, ar 4 sz), (7, ar 4 A'), (8, ar 4 G')] h) := by
    intro l
    induction l with
    | zero =>
      intro j rest π G A hj hr hG
      obtain rfl : j = dn := by omega
      refine ⟨A, G, fun i _ => rfl, fun i hi => by omega, fun h w5 w6 => ?_⟩
      refine E_iload pf_37_20 rfl ?_
      refine E_aload pf_37_22 rfl ?_
      refine F_getf pf_37_23 rfl rfl rfl ?_
      refine E_icmp_ge_t pf_37_26 (by omega) ?_
      exact E_vret pf_37_91 rfl
    | succ l ih =>
      intro j rest π G A hj hr hG
      have hq : 0 ≤ rest % ((l : Int) + 1) ∧ rest % ((l : Int) + 1) < (l : Int) + 1 := ⟨Int.emod_nonneg _ (by omega), Int.emod_lt_of_pos _ (by omega)⟩
      have hq2 : 0 ≤ rest / ((l : Int) + 1) ∧ rest / ((l : Int) + 1) ≤ 100 := ⟨Int.ediv_nonneg hr.1 (by omega), Int.le_trans (Int.ediv_le_self _ hr.1) hr.2⟩
      have el : (dn : Int) - j = (l : Int) + 1 := by omega
      have el2 : (dn : Int) - j - 1 = (l : Int) := by omega
      obtain ⟨A', G', a1, a2, a3⟩ := ih (j + 1) (rest / ((l : Int) + 1)) (zu π (rest % ((l : Int) + 1)) (π l)) (zu G (rest % ((l : Int) + 1)) (G l)) (zu A (j : Int) (G (rest % ((l : Int) + 1)))) (by omega) hq2 (fun q h1 h2 => by
        unfold zu
        split
        · exact hG _ (by omega) (by omega)
        · exact hG _ h1 (by omega))
      refine ⟨A', G', fun i hi => ?_, fun i hi => ?_, fun h w5 w6 => ?_⟩
      · rw [a1 i (by omega)]; exact zu_n _ _ (by omega)
      · cases i with
        | zero =>
          rw [show (j : Int) + ((0 : Nat) : Int) = j by omega, a1 _ (by omega), zu_s, hG _ hq.1 (by omega)]; rfl
        | succ i =>
          have := a2 i (by omega)
          rw [show ((j + 1 : Nat) : Int) + (i : Int) = (j : Int) + ((i + 1 : Nat) : Int) by omega] at this
          rw [this]; rfl
      · have a3 := a3 h (.int (ii ((l : Int) + 1))) (.int (ii (rest % ((l : Int) + 1))))
        have hG0 := hG
        refine E_iload pf_37_20 rfl ?_
        refine E_aload pf_37_22 rfl ?_
        refine F_getf pf_37_23 rfl rfl rfl ?_
        refine E_icmp_ge_f pf_37_26 (by omega) ?_
        refine E_iload pf_37_29 rfl ?_
        refine E_iconst pf_37_31 ?_
        refine E_icmp_ge_f pf_37_32 (by omega) ?_
        refine E_aload pf_37_35 rfl ?_
        refine F_getf pf_37_36 rfl rfl rfl ?_
        refine E_iload pf_37_39 rfl ?_
        refine E_isub pf_37_41 ?_
        rw [el]
        refine E_istore (lv' := [_, _, _, _, _, _, _]) pf_37_42 rfl rfl ?_
        refine E_iload pf_37_44 rfl ?_
        refine E_iload pf_37_45 rfl ?_
        refine E_irem pf_37_47 (by omega) ?_
        refine E_istore (lv' := [_, _, _, _, _, _, _]) pf_37_48 rfl rfl ?_
        refine E_iload pf_37_50 rfl ?_
        refine E_iload pf_37_51 rfl ?_
        refine E_idiv pf_37_53 (by omega) ?_
        refine E_istore (lv' := [_, _, _, _, _, _, _]) pf_37_54 rfl rfl ?_
        refine E_aload pf_37_55 rfl ?_
        refine F_getf pf_37_56 rfl rfl rfl ?_
        refine E_iload pf_37_59 rfl ?_
        refine E_aload pf_37_61 rfl ?_
        refine F_getf pf_37_62 rfl rfl rfl ?_
        refine E_iload pf_37_65 rfl ?_
        refine F_iald pf_37_67 rfl (by omega) ?_
        refine F_iast (l' := [(_, _), (_, _), (_, _), (_, _)]) pf_37_68 rfl (by omega) rfl ?_
        refine E_aload pf_37_69 rfl ?_
        refine F_getf pf_37_70 rfl rfl rfl ?_
        refine E_iload pf_37_73 rfl ?_
        refine E_aload pf_37_75 rfl ?_
        refine F_getf pf_37_76 rfl rfl rfl ?_
        refine E_iload pf_37_79 rfl ?_
        refine E_iconst pf_37_81 ?_
        refine E_isub pf_37_82 ?_
        rw [show (l : Int) + 1 - 1 = (l : Int) by omega]
        refine F_iald pf_37_83 rfl (by omega) ?_
        refine F_iast (l' := [(_, _), (_, _), (_, _), (_, _)]) pf_37_84 rfl (by omega) rfl ?_
        refine E_iinc (lv' := [_, _, _, _, _, _, _]) pf_37_85 rfl rfl ?_
        refine E_goto pf_37_88 ?_
        exact a3
  obtain ⟨A', G', a1, a2, a3⟩ := loop dn 0 (cd : Int) id (zcpy sz g 0 0 4) c1 (by omega) (by omega) (fun q h1 h2 => by rw [zcpy_at (by omega)]; show sz (0 + (q - 0)) = sz q; congr 1; omega)
  refine ⟨A', G', fun i h1 h2 => ?_, fun h => ?_⟩
  · by_cases e : i < (dn : Int)
    · rw [if_pos e, ← a2 i.toNat (by omega)]; congr 1; omega
    · rw [if_neg e, a1 i (by omega)]; exact hc1 i h1 h2
  · refine E_in (lv := [_, _, _, _, _, _, _]) rfl ?_
    refine E_aload pf_37_0 rfl ?_
    refine F_v1u (l' := [(_, _), (_, _), (_, _), (_, _)]) pf_37_1 (h32) (And.intro rfl (And.intro rfl (trivial))) rfl rfl rfl rfl ?_
    refine E_aload pf_37_4 rfl ?_
    refine E_iconst pf_37_5 ?_
    refine E_aload pf_37_6 rfl ?_
    refine F_getf pf_37_7 rfl rfl rfl ?_
    refine E_iconst pf_37_10 ?_
    refine E_iconst pf_37_11 ?_
    refine F_acopy (l' := [(_, _), (_, _), (_, _), (_, _)]) pf_37_12 rfl rfl (by omega) rfl rfl ?_
    refine E_iload pf_37_15 rfl ?_
    refine E_istore (lv' := [_, _, _, _, _, _, _]) pf_37_16 rfl rfl ?_
    refine E_iconst pf_37_17 ?_
    refine E_istore (lv' := [_, _, _, _, _, _, _]) pf_37_18 rfl rfl ?_
    exact a3 h _ _
theorem arx_in {B : Int} : ∀ (l : Nat) (rest : Int) (π : Int → Int) (i : Nat), (∀ q : Int, 0 ≤ q → q < l → 0 ≤ π q ∧ π q < B) → 0 ≤ rest → i < l → 0 ≤ (arx l rest π).getD i 0 ∧ (arx l rest π).getD i 0 < B
  | 0, _, _, _, _, _, hi => by omega
  | l + 1, rest, π, 0, h, hr, _ => by
    show 0 ≤ π (rest % ((l : Int) + 1)) ∧ π (rest % ((l : Int) + 1)) < B
    exact h _ (Int.emod_nonneg _ (by omega)) (Int.emod_lt_of_pos _ (by omega))
  | l + 1, rest, π, i + 1, h, hr, hi => by
    have := arx_in l (rest / ((l : Int) + 1)) (zu π (rest % ((l : Int) + 1)) (π l)) i (fun q h1 h2 => by
      unfold zu
      split
      · exact h _ (by omega) (by omega)
      · exact h _ h1 (by omega)) (Int.ediv_nonneg hr (by omega)) (by omega)
    exact this
theorem c36 (hz : ∀ i : Int, 0 ≤ i → i < 4 → 0 ≤ sz i ∧ sz i ≤ 9) (hd : 1 ≤ dn ∧ dn ≤ 4) (hC : (∀ q, -9 ≤ C q ∧ C q ≤ 9)) : ∃ (n' : Nat) (C' c' g' : Int → Int), (∀ q, -9 ≤ C' q ∧ C' q ≤ 9) ∧ kl C' n' = insl [] (ark sz dn) ∧ n' ≤ 24 ∧ ∀ h, Ca 36 [.ref 5, .ref 4] (wd [(5, oP5 (dn : Int) k ((0 : Nat) : Int)), (6, ar 96 C), (4, ar 4 sz), (7, ar 4 c), (8, ar 4 g)] h) (.inl none, wd [(5, oP5 (dn : Int) k (n' : Int)), (6, ar 96 C'), (4, ar 4 sz), (7, ar 4 c'), (8, ar 4 g')] h) := by
  have hN1 : fct dn ≤ 24 := by
    have h : ∀ d : Fin 5, fct d.val ≤ 24 := by decide
    exact h ⟨dn, by omega⟩
  have loop : ∀ (m s n : Nat) (C c g : Int → Int), s + m = fct dn → n ≤ s → (∀ q, -9 ≤ C q ∧ C q ≤ 9) → kl C n = insl [] ((List.range s).map (arp sz dn)) → ∃ (n' : Nat) (C' c' g' : Int → Int), (∀ q, -9 ≤ C' q ∧ C' q ≤ 9) ∧ kl C' n' = insl [] (ark sz dn) ∧ n' ≤ 24 ∧ ∀ (h : pd_H), Rn 36 24 [.ref 5, .ref 4, .int (ii ((fct dn : Nat) : Int)), .int (ii (s : Int))] [] (wd [(5, oP5 (dn : Int) k (n : Int)), (6, ar 96 C), (4, ar 4 sz), (7, ar 4 c), (8, ar 4 g)] h) (.inl none, wd [(5, oP5 (dn : Int) k (n' : Int)), (6, ar 96 C'), (4, ar 4 sz), (7, ar 4 c'), (8, ar 4 g')] h) := by
    intro m
    induction m with
    | zero =>
      intro s n C c g hj hn hC hk
      obtain rfl : s = fct dn := by omega
      refine ⟨n, C, c, g, hC, hk, by omega, fun h => ?_⟩
      refine E_iload pf_36_24 rfl ?_
      refine E_iload pf_36_25 rfl ?_
      refine E_icmp_ge_t pf_36_26 (by omega) ?_
      exact E_vret pf_36_50 rfl
    | succ m ih =>
      intro s n C c g hj hn hC hk
      obtain ⟨c1, g1, hc1, h37⟩ := c37 (dn := dn) (k := k) (n := n) (c := c) (g := g) (sz := sz) (cd := s) (by omega) (by omega)
      have hb : b9 c1 0 := b9_of fun i h1 h2 => by
        rw [hc1 i h1 h2]
        split
        · rename_i e
          have h5 := arx_in (B := 4) dn (s : Int) id i.toNat (fun q h1 h2 => by show 0 ≤ q ∧ q < 4; omega) (by omega) (by omega)
          have := hz _ h5.1 h5.2
          omega
        · omega
      have ek : ky c1 0 = arp sz dn s := ky_congr fun i h1 h2 => hc1 _ (by omega) (by omega)
      obtain ⟨n1, C1, h1, h2, h3, h29⟩ := c29c (d := (dn : Int)) (k := k) (n := n) (C := C) (pt := c1) (by omega) hC hb (by rw [hk]; exact insl_s0 _)
      have h3' : n1 ≤ n + 1 := by rw [h3]; split <;> omega
      obtain ⟨n2, C2, c2, g2, e1, e2, e3, e4⟩ := ih (s + 1) n1 C1 c1 g1 (by omega) (by omega) h1 (by rw [h2, hk, ek, ← insl_snoc, rgm_s])
      refine ⟨n2, C2, c2, g2, e1, e2, e3, fun h => ?_⟩
      refine E_iload pf_36_24 rfl ?_
      refine E_iload pf_36_25 rfl ?_
      refine E_icmp_ge_f pf_36_26 (by omega) ?_
      refine E_aload pf_36_29 rfl ?_
      refine E_aload pf_36_30 rfl ?_
      refine E_iload pf_36_31 rfl ?_
      refine F_v3u (l' := [(_, _), (_, _), (_, _), (_, _), (_, _)]) pf_36_32 (h37) (And.intro rfl (And.intro rfl (And.intro rfl (And.intro rfl (trivial))))) rfl rfl rfl rfl ?_
      refine E_aload pf_36_35 rfl ?_
      refine E_aload pf_36_36 rfl ?_
      refine F_getf pf_36_37 rfl rfl rfl ?_
      refine F_v2v (l' := [(_, _), (_, _), (_, _), (_, _), (_, _)]) pf_36_40 (h29) (And.intro rfl (And.intro rfl (And.intro rfl (trivial)))) rfl rfl rfl rfl ?_
      refine E_pop pf_36_43 rfl ?_
      refine E_iinc (lv' := [_, _, _, _]) pf_36_44 rfl rfl ?_
      refine E_goto pf_36_47 ?_
      exact e4 h
  obtain ⟨n2, C2, c2, g2, e1, e2, e3, e4⟩ := loop (fct dn) 0 0 C c g (by omega) (by omega) hC rfl
  refine ⟨n2, C2, c2, g2, e1, e2, e3, fun h => ?_⟩
  refine E_in (lv := [_, _, _, _]) rfl ?_
  have e4 := e4 h
  have hd4 : dn = 1 ∨ dn = 2 ∨ dn = 3 ∨ dn = 4 := by omega
  rcases hd4 with q | q | q | q <;> subst q
  · refine E_iconst pf_36_0 ?_
    refine E_istore (lv' := [_, _, _, _]) pf_36_1 rfl rfl ?_
    refine E_iconst pf_36_2 ?_
    refine E_istore (lv' := [_, _, _, _]) pf_36_3 rfl rfl ?_
    refine E_iload pf_36_4 rfl ?_
    refine E_aload pf_36_5 rfl ?_
    refine F_getf pf_36_6 rfl rfl rfl ?_
    refine E_icmp_gt_t pf_36_9 (by omega) ?_
    refine E_iconst pf_36_22 ?_
    refine E_istore (lv' := [_, _, _, _]) pf_36_23 rfl rfl ?_
    exact e4
  · refine E_iconst pf_36_0 ?_
    refine E_istore (lv' := [_, _, _, _]) pf_36_1 rfl rfl ?_
    refine E_iconst pf_36_2 ?_
    refine E_istore (lv' := [_, _, _, _]) pf_36_3 rfl rfl ?_
    refine E_iload pf_36_4 rfl ?_
    refine E_aload pf_36_5 rfl ?_
    refine F_getf pf_36_6 rfl rfl rfl ?_
    refine E_icmp_gt_f pf_36_9 (by omega) ?_
    refine E_iload pf_36_12 rfl ?_
    refine E_iload pf_36_13 rfl ?_
    refine E_imul pf_36_14 ?_
    refine E_istore (lv' := [_, _, _, _]) pf_36_15 rfl rfl ?_
    refine E_iinc (lv' := [_, _, _, _]) pf_36_16 rfl rfl ?_
    refine E_goto pf_36_19 ?_
    refine E_iload pf_36_4 rfl ?_
    refine E_aload pf_36_5 rfl ?_
    refine F_getf pf_36_6 rfl rfl rfl ?_
    refine E_icmp_gt_t pf_36_9 (by omega) ?_
    refine E_iconst pf_36_22 ?_
    refine E_istore (lv' := [_, _, _, _]) pf_36_23 rfl rfl ?_
    exact e4
  · refine E_iconst pf_36_0 ?_
    refine E_istore (lv' := [_, _, _, _]) pf_36_1 rfl rfl ?_
    refine E_iconst pf_36_2 ?_
    refine E_istore (lv' := [_, _, _, _]) pf_36_3 rfl rfl ?_
    refine E_iload pf_36_4 rfl ?_
    refine E_aload pf_36_5 rfl ?_
    refine F_getf pf_36_6 rfl rfl rfl ?_
    refine E_icmp_gt_f pf_36_9 (by omega) ?_
    refine E_iload pf_36_12 rfl ?_
    refine E_iload pf_36_13 rfl ?_
    refine E_imul pf_36_14 ?_
    refine E_istore (lv' := [_, _, _, _]) pf_36_15 rfl rfl ?_
    refine E_iinc (lv' := [_, _, _, _]) pf_36_16 rfl rfl ?_
    refine E_goto pf_36_19 ?_
    refine E_iload pf_36_4 rfl ?_
    refine E_aload pf_36_5 rfl ?_
    refine F_getf pf_36_6 rfl rfl rfl ?_
    refine E_icmp_gt_f pf_36_9 (by omega) ?_
    refine E_iload pf_36_12 rfl ?_
    refine E_iload pf_36_13 rfl ?_
    refine E_imul pf_36_14 ?_
    refine E_istore (lv' := [_, _, _, _]) pf_36_15 rfl rfl ?_
    refine E_iinc (lv' := [_, _, _, _]) pf_36_16 rfl rfl ?_
    refine E_goto pf_36_19 ?_
    refine E_iload pf_36_4 rfl ?_
    refine E_aload pf_36_5 rfl ?_
    refine F_getf pf_36_6 rfl rfl rfl ?_
    refine E_icmp_gt_t pf_36_9 (by omega) ?_
    refine E_iconst pf_36_22 ?_
    refine E_istore (lv' := [_, _, _, _]) pf_36_23 rfl rfl ?_
    exact e4
  · refine E_iconst pf_36_0 ?_
    refine E_istore (lv' := [_, _, _, _]) pf_36_1 rfl rfl ?_
    refine E_iconst pf_36_2 ?_
    refine E_istore (lv' := [_, _, _, _]) pf_36_3 rfl rfl ?_
    refine E_iload pf_36_4 rfl ?_
    refine E_aload pf_36_5 rfl ?_
    refine F_getf pf_36_6 rfl rfl rfl ?_
    refine E_icmp_gt_f pf_36_9 (by omega) ?_
    refine E_iload pf_36_12 rfl ?_
    refine E_iload pf_36_13 rfl ?_
    refine E_imul pf_36_14 ?_
    refine E_istore (lv' := [_, _, _, _]) pf_36_15 rfl rfl ?_
    refine E_iinc (lv' := [_, _, _, _]) pf_36_16 rfl rfl ?_
    refine E_goto pf_36_19 ?_
    refine E_iload pf_36_4 rfl ?_
    refine E_aload pf_36_5 rfl ?_
    refine F_getf pf_36_6 rfl rfl rfl ?_
    refine E_icmp_gt_f pf_36_9 (by omega) ?_
    refine E_iload pf_36_12 rfl ?_
    refine E_iload pf_36_13 rfl ?_
    refine E_imul pf_36_14 ?_
    refine E_istore (lv' := [_, _, _, _]) pf_36_15 rfl rfl ?_
    refine E_iinc (lv' := [_, _, _, _]) pf_36_16 rfl rfl ?_
    refine E_goto pf_36_19 ?_
    refine E_iload pf_36_4 rfl ?_
    refine E_aload pf_36_5 rfl ?_
    refine F_getf pf_36_6 rfl rfl rfl ?_
    refine E_icmp_gt_f pf_36_9 (by omega) ?_
    refine E_iload pf_36_12 rfl ?_
    refine E_iload pf_36_13 rfl ?_
    refine E_imul pf_36_14 ?_
    refine E_istore (lv' := [_, _, _, _]) pf_36_15 rfl rfl ?_
    refine E_iinc (lv' := [_, _, _, _]) pf_36_16 rfl rfl ?_
    refine E_goto pf_36_19 ?_
    refine E_iload pf_36_4 rfl ?_
    refine E_aload pf_36_5 rfl ?_
    refine F_getf pf_36_6 rfl rfl rfl ?_
    refine E_icmp_gt_t pf_36_9 (by omega) ?_
    refine E_iconst pf_36_22 ?_
    refine E_istore (lv' := [_, _, _, _]) pf_36_23 rfl rfl ?_
    exact e4
theorem insl_pos {ks : List Int} {C : Int → Int} {n : Nat} (h : kl C n = insl [] ks) (hk : ks ≠ []) : 1 ≤ n := by
  cases ks with
  | nil => exact absurd rfl hk
  | cons x r =>
    have hx : x ∈ kl C n := by rw [h, insl_mem]; exact .inr (List.mem_cons_self)
    obtain ⟨i, h1, -⟩ := kl_mem.mp hx
    omega
theorem c33 (hz : ∀ i : Int, 0 ≤ i → i < 4 → 0 ≤ sz i ∧ sz i ≤ 9) (hd : 1 ≤ dn ∧ dn ≤ 4) (hC : (∀ q, -9 ≤ C q ∧ C q ≤ 9)) (hk : 0 ≤ k ∧ k ≤ 3) : ∃ (n' : Nat) (C' c' g' : Int → Int), (∀ q, -9 ≤ C' q ∧ C' q ≤ 9) ∧ kl C' n' = insl [] (bks k sz dn) ∧ n' ≤ 24 ∧ ∀ h, Ca 33 [.ref 5, .ref 4] (wd [(5, oP5 (dn : Int) k ((0 : Nat) : Int)), (6, ar 96 C), (4, ar 4 sz), (7, ar 4 c), (8, ar 4 g)] h) (.inl none, wd [(5, oP5 (dn : Int) k (n' : Int)), (6, ar 96 C'), (4, ar 4 sz), (7, ar 4 c'), (8, ar 4 g')] h) := by
  have hz0 := hz 0 (by omega) (by omega)
  have hk4 : k = 0 ∨ k = 1 ∨ k = 2 ∨ k = 3 := by omega
  rcases hk4 with q | q | q | q <;> subst q
  · obtain ⟨c1, hc1, h32⟩ := c32 (dn := dn) (k := 0) (n := 0) (c := c)
    obtain ⟨n1, C1, h1, h2, h3, h29⟩ := c29c (d := (dn : Int)) (k := 0) (n := 0) (C := C) (pt := c1) (by omega) hC (b9_of fun i h1 h2 => by rw [hc1 i h1 h2]; omega) List.Pairwise.nil
    have ek : ky c1 0 = 0 := by
      have : ky c1 0 = ky (fun _ => 0) 0 := ky_congr fun i h1 h2 => hc1 _ (by omega) (by omega)
      rw [this]; rfl
    have h3' : n1 ≤ 1 := by rw [h3]; split <;> omega
    obtain ⟨n2, C2, c2, e1, e2, e3, h34⟩ := c34 (dn := dn) (k := 0) (n := n1) (C := C1) (c := c1) (ks := [0]) (s := sz 0) (by omega) (by omega) h1 (by rw [h2, ek]; rfl) (by omega)
    refine ⟨n2, C2, c2, g, e1, e2, by omega, fun h => ?_⟩
    refine E_in (lv := [_, _]) rfl ?_
    refine E_aload pf_33_0 rfl ?_
    refine F_getf pf_33_1 rfl rfl rfl ?_
    refine E_tsw pf_33_4 (by omega) rfl ?_
    refine E_aload pf_33_36 rfl ?_
    refine F_v1u (l' := [(_, _), (_, _), (_, _), (_, _), (_, _)]) pf_33_37 (h32) (And.intro rfl (And.intro rfl (trivial))) rfl rfl rfl rfl ?_
    refine E_aload pf_33_40 rfl ?_
    refine E_aload pf_33_41 rfl ?_
    refine F_getf pf_33_42 rfl rfl rfl ?_
    refine F_v2v (l' := [(_, _), (_, _), (_, _), (_, _), (_, _)]) pf_33_45 (h29) (And.intro rfl (And.intro rfl (And.intro rfl (trivial)))) rfl rfl rfl rfl ?_
    refine E_pop pf_33_48 rfl ?_
    refine E_aload pf_33_49 rfl ?_
    refine E_aload pf_33_50 rfl ?_
    refine E_iconst pf_33_51 ?_
    refine F_iald pf_33_52 rfl (by omega) ?_
    refine F_v2u (l' := [(_, _), (_, _), (_, _), (_, _), (_, _)]) pf_33_53 (h34) (And.intro rfl (And.intro rfl (And.intro rfl (trivial)))) rfl rfl rfl rfl ?_
    refine E_goto pf_33_56 ?_
    exact E_vret pf_33_93 rfl
  · obtain ⟨n2, C2, c2, e1, e2, e3, h35⟩ := c35 (dn := dn) (k := 1) (C := C) (c := c) (sz := sz) hz (by omega) hC
    refine ⟨n2, C2, c2, g, e1, e2, by omega, fun h => ?_⟩
    refine E_in (lv := [_, _]) rfl ?_
    refine E_aload pf_33_0 rfl ?_
    refine F_getf pf_33_1 rfl rfl rfl ?_
    refine E_tsw pf_33_4 (by omega) rfl ?_
    refine E_aload pf_33_59 rfl ?_
    refine E_aload pf_33_60 rfl ?_
    refine F_v2u (l' := [(_, _), (_, _), (_, _), (_, _), (_, _)]) pf_33_61 (h35) (And.intro rfl (And.intro rfl (And.intro rfl (And.intro rfl (trivial))))) rfl rfl rfl rfl ?_
    refine E_goto pf_33_64 ?_
    exact E_vret pf_33_93 rfl
  · obtain ⟨n1, C1, c1, h1, h2, h3, h34⟩ := c34 (dn := dn) (k := 2) (n := 0) (C := C) (c := c) (ks := []) (s := sz 0) (by omega) (by omega) hC rfl (by omega)
    obtain ⟨n2, C2, c2, e1, e2, e3, h34b⟩ := c34 (dn := dn) (k := 2) (n := n1) (C := C1) (c := c1) (ks := axk (sz 0) dn) (s := - sz 0) (by omega) (by omega) h1 (by rw [h2]; rfl) (by omega)
    refine ⟨n2, C2, c2, g, e1, e2, by omega, fun h => ?_⟩
    refine E_in (lv := [_, _]) rfl ?_
    refine E_aload pf_33_0 rfl ?_
    refine F_getf pf_33_1 rfl rfl rfl ?_
    refine E_tsw pf_33_4 (by omega) rfl ?_
    refine E_aload pf_33_67 rfl ?_
    refine E_aload pf_33_68 rfl ?_
    refine E_iconst pf_33_69 ?_
    refine F_iald pf_33_70 rfl (by omega) ?_
    refine F_v2u (l' := [(_, _), (_, _), (_, _), (_, _), (_, _)]) pf_33_71 (h34) (And.intro rfl (And.intro rfl (And.intro rfl (trivial)))) rfl rfl rfl rfl ?_
    refine E_aload pf_33_74 rfl ?_
    refine E_aload pf_33_75 rfl ?_
    refine E_iconst pf_33_76 ?_
    refine F_iald pf_33_77 rfl (by omega) ?_
    refine E_ineg pf_33_78 ?_
    refine F_v2u (l' := [(_, _), (_, _), (_, _), (_, _), (_, _)]) pf_33_79 (h34b) (And.intro rfl (And.intro rfl (And.intro rfl (trivial)))) rfl rfl rfl rfl ?_
    refine E_goto pf_33_82 ?_
    exact E_vret pf_33_93 rfl
  · obtain ⟨n2, C2, c2, g2, e1, e2, e3, h36⟩ := c36 (dn := dn) (k := 3) (C := C) (c := c) (g := g) (sz := sz) hz hd hC
    refine ⟨n2, C2, c2, g2, e1, e2, by omega, fun h => ?_⟩
    refine E_in (lv := [_, _]) rfl ?_
    refine E_aload pf_33_0 rfl ?_
    refine F_getf pf_33_1 rfl rfl rfl ?_
    refine E_tsw pf_33_4 (by omega) rfl ?_
    refine E_aload pf_33_85 rfl ?_
    refine E_aload pf_33_86 rfl ?_
    refine F_v2u (l' := [(_, _), (_, _), (_, _), (_, _), (_, _)]) pf_33_87 (h36) (And.intro rfl (And.intro rfl (And.intro rfl (And.intro rfl (And.intro rfl (trivial)))))) rfl rfl rfl rfl ?_
    refine E_goto pf_33_90 ?_
    exact E_vret pf_33_93 rfl
end BLD
