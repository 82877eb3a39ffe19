/-! The polytope's text, read on both sides. -/
def crk (s : Int) : Nat → List Int
  | 0 => []
  | j + 1 => (crk s j ++ [axp s j]) ++ [axp (-s) j]
theorem crk_len (s : Int) (j : Nat) : (crk s j).length = 2 * j := by
  induction j with
  | zero => rfl
  | succ j ih => simp only [crk, List.length_append, ih, List.length_singleton]; omega
theorem crk_mem {s x : Int} {j : Nat} : x ∈ crk s j ↔ x ∈ axk s j ++ axk (-s) j := by
  induction j with
  | zero => simp [crk, axk]
  | succ j ih =>
    simp only [crk, List.mem_append, List.mem_singleton] at ih ⊢
    rw [show axk s (j + 1) = axk s j ++ [axp s j] from rgm_s _ _, show axk (-s) (j + 1) = axk (-s) j ++ [axp (-s) j] from rgm_s _ _, ih]
    simp only [List.mem_append, List.mem_singleton]
    constructor
    · rintro (((a | a) | a) | a)
      · exact .inl (.inl a)
      · exact .inr (.inl a)
      · exact .inl (.inr a)
      · exact .inr (.inr a)
    · rintro ((a | a) | (a | a))
      · exact .inl (.inl (.inl a))
      · exact .inl (.inr a)
      · exact .inl (.inl (.inr a))
      · exact .inr a
theorem axk_zk {s : Int} {dn : Nat} (hs : -9 ≤ s ∧ s ≤ 9) (hd : dn ≤ 4) : ∀ x ∈ axk s dn, zk dn x := by
  intro x hx
  obtain ⟨j, h1, rfl⟩ := List.mem_map.mp hx
  have hj := List.mem_range.mp h1
  refine ⟨_, b9_of fun i _ _ => ?_, fun i h1 h2 => ?_, rfl⟩
  · show -9 ≤ (if i = (j : Int) then s else 0) ∧ (if i = (j : Int) then s else 0) ≤ 9
    split <;> omega
  · show (if i = (j : Int) then s else 0) = 0
    rw [if_neg (by omega)]
theorem bks_zk {k : Int} {sz : Int → Int} {dn : Nat} (hz : ∀ i : Int, 0 ≤ i → i < 4 → 0 ≤ sz i ∧ sz i ≤ 9) (hd : 1 ≤ dn ∧ dn ≤ 4) (hk : 0 ≤ k ∧ k ≤ 3) : ∀ x ∈ bks k sz dn, zk dn x := by
  have hz0 := hz 0 (by omega) (by omega)
  have hk4 : k = 0 ∨ k = 1 ∨ k = 2 ∨ k = 3 := by omega
  rcases hk4 with q | q | q | q <;> subst q <;> intro x hx
  · rcases List.mem_cons.mp (show x ∈ 0 :: axk (sz 0) dn from hx) with g | g
    · exact ⟨fun _ => 0, b9_of fun i _ _ => by omega, fun _ _ _ => rfl, g⟩
    · exact axk_zk (by omega) hd.2 x g
  · obtain ⟨s, h1, rfl⟩ := List.mem_map.mp (show x ∈ bxk sz dn from hx)
    refine ⟨_, b9_of fun i g1 g2 => ?_, fun i g1 g2 => ?_, rfl⟩
    · show -9 ≤ (if i < (dn : Int) then ((bit s i.toNat : Nat) : Int) * sz i else 0) ∧ (if i < (dn : Int) then ((bit s i.toNat : Nat) : Int) * sz i else 0) ≤ 9
      have := hz i g1 g2
      split
      · rcases bit_in s i.toNat with q | q <;> rw [q] <;> omega
      · omega
    · show (if i < (dn : Int) then ((bit s i.toNat : Nat) : Int) * sz i else 0) = 0
      rw [if_neg (by omega)]
  · rcases List.mem_append.mp (show x ∈ axk (sz 0) dn ++ axk (- sz 0) dn from hx) with g | g
    · exact axk_zk (by omega) hd.2 x g
    · exact axk_zk (by omega) hd.2 x g
  · obtain ⟨s, h1, rfl⟩ := List.mem_map.mp (show x ∈ ark sz dn from hx)
    refine ⟨_, b9_of fun i g1 g2 => ?_, fun i g1 g2 => ?_, rfl⟩
    · show -9 ≤ (if i < (dn : Int) then sz ((arx dn (s : Int) id).getD i.toNat 0) else 0) ∧ (if i < (dn : Int) then sz ((arx dn (s : Int) id).getD i.toNat 0) else 0) ≤ 9
      split
      · have h5 := arx_in (B := 4) dn (s : Int) id i.toNat (fun q h1 h2 => by show 0 ≤ q ∧ q < 4; omega) (by omega) (by omega)
        have := hz _ h5.1 h5.2
        omega
      · omega
    · show (if i < (dn : Int) then sz ((arx dn (s : Int) id).getD i.toNat 0) else 0) = 0
      rw [if_neg (by omega)]
theorem bks_ne {k : Int} {sz : Int → Int} {dn : Nat} (hd : 1 ≤ dn ∧ dn ≤ 4) (hk : 0 ≤ k ∧ k ≤ 3) : bks k sz dn ≠ [] := by
  have hk4 : k = 0 ∨ k = 1 ∨ k = 2 ∨ k = 3 := by omega
  have hl : 1 ≤ (bks k sz dn).length := by
    rcases hk4 with q | q | q | q <;> subst q
    · show 1 ≤ (0 :: axk (sz 0) dn).length; simp
    · show 1 ≤ (bxk sz dn).length
      have := p2_in hd.2
      simpa [bxk] using this.1
    · show 1 ≤ (axk (sz 0) dn ++ axk (- sz 0) dn).length
      simp [axk]; omega
    · show 1 ≤ (ark sz dn).length
      have h : ∀ d : Fin 5, 1 ≤ fct d.val := by decide
      simpa [ark] using h ⟨dn, by omega⟩
  intro e
  rw [e] at hl
  simp at hl
section POL
variable {T q C P c g sz : Int → Int} {tl p : Int} {rf d kd vs rw rk rr ac k0 d0 n0 : Int} {dn n : Nat} {ks : List Int}
theorem c137a0 {s : Int} {w1 : Value} (hs : -9 ≤ s ∧ s ≤ 9) (hs0 : sz 0 = s) (hd : dn ≤ 4) : ∀ (m j n : Nat) (P : Int → Int), j + m = dn → (∀ q, -9 ≤ P q ∧ P q ≤ 9) → kl P n = insl [] ([0] ++ (List.range j).map (axp s)) → ∃ (n' : Nat) (P' : Int → Int), (∀ q, -9 ≤ P' q ∧ P' q ≤ 9) ∧ kl P' n' = insl [] (0 :: axk s dn) ∧ n' ≤ 24 ∧ ∀ h, Rn 137 224 [.ref 102, w1, .int (ii 0), .int (ii (j : Int))] [] (wd [(102, oX6 rf tl p d kd vs rw (dn : Int) 0 (n : Int) rr ac), (103, ar 90 T), (105, ar 128 P), (115, ar 4 sz)] h) (.inl (some (.int (ii 1))), wd [(102, oX6 rf tl p d kd vs rw (dn : Int) 0 (n' : Int) rr ac), (103, ar 90 T), (105, ar 128 P'), (115, ar 4 sz)] h) := by
  intro m
  induction m with
  | zero =>
    intro j n P hj hP hk
    obtain rfl : j = dn := by omega
    have hn := kl_le hk
    simp only [List.length_append, List.length_map, List.length_range, List.length_singleton] at hn
    refine ⟨n, P, hP, by rw [hk]; rfl, by omega, fun h => ?_⟩
    refine E_iload pf_137_224 rfl ?_
    refine E_aload pf_137_225 rfl ?_
    refine F_getf pf_137_226 rfl rfl rfl ?_
    refine E_icmp_ge_t pf_137_229 (by omega) ?_
    refine E_iconst pf_137_269 ?_
    exact E_iret pf_137_270 rfl
  | succ m ih =>
    intro j n P hj hP hk
    have hn := kl_le hk
    simp only [List.length_append, List.length_map, List.length_range, List.length_singleton] at hn
    obtain ⟨n1, P1, a1, a2, a3, h134⟩ := c134a (rf := rf) (ts := tl) (d := d) (kd := kd) (vs := vs) (rw := rw) (rd := (dn : Int)) (rr := rr) (ac := ac) (sp := p) (rk := 0) (n := n) (P := P) (ks := ([0] ++ (List.range j).map (axp s))) (j := j) (p := s) (by omega) hP hk (by omega) hs
    obtain ⟨n2, P2, b1, b2, b3, b4⟩ := ih (j + 1) n1 P1 (by omega) a1 (by rw [a2, rgm_s, List.append_assoc])
    refine ⟨n2, P2, b1, b2, b3, fun h => ?_⟩
    refine E_iload pf_137_224 rfl ?_
    refine E_aload pf_137_225 rfl ?_
    refine F_getf pf_137_226 rfl rfl rfl ?_
    refine E_icmp_ge_f pf_137_229 (by omega) ?_
    refine E_aload pf_137_232 rfl ?_
    refine E_iload pf_137_233 rfl ?_
    refine E_aload pf_137_234 rfl ?_
    refine F_getf pf_137_235 rfl rfl rfl ?_
    refine E_iconst pf_137_238 ?_
    refine F_iald pf_137_239 rfl (by omega) ?_
    rw [hs0]
    refine F_v3u (l' := [(_, _), (_, _), (_, _), (_, _)]) pf_137_240 (h134) (And.intro rfl (And.intro rfl (trivial))) rfl rfl rfl rfl ?_
    refine E_aload pf_137_243 rfl ?_
    refine F_getf pf_137_244 rfl rfl rfl ?_
    refine E_iconst pf_137_247 ?_
    refine E_icmp_ne_t pf_137_248 (by omega) ?_
    refine E_iinc (lv' := [_, _, _, _]) pf_137_263 rfl rfl ?_
    refine E_goto pf_137_266 ?_
    exact b4 h
theorem c137a2 {s : Int} {w1 : Value} (hs : -9 ≤ s ∧ s ≤ 9) (hs0 : sz 0 = s) (hd : dn ≤ 4) : ∀ (m j n : Nat) (P : Int → Int), j + m = dn → (∀ q, -9 ≤ P q ∧ P q ≤ 9) → kl P n = insl [] (crk s j) → ∃ (n' : Nat) (P' : Int → Int), (∀ q, -9 ≤ P' q ∧ P' q ≤ 9) ∧ kl P' n' = insl [] (axk s dn ++ axk (-s) dn) ∧ n' ≤ 24 ∧ ∀ h, Rn 137 224 [.ref 102, w1, .int (ii 0), .int (ii (j : Int))] [] (wd [(102, oX6 rf tl p d kd vs rw (dn : Int) 2 (n : Int) rr ac), (103, ar 90 T), (105, ar 128 P), (115, ar 4 sz)] h) (.inl (some (.int (ii 1))), wd [(102, oX6 rf tl p d kd vs rw (dn : Int) 2 (n' : Int) rr ac), (103, ar 90 T), (105, ar 128 P'), (115, ar 4 sz)] h) := by
  intro m
  induction m with
  | zero =>
    intro j n P hj hP hk
    obtain rfl : j = dn := by omega
    have hn := kl_le hk
    rw [crk_len] at hn
    refine ⟨n, P, hP, by rw [hk]; exact insl_eq fun x => crk_mem, by omega, fun h => ?_⟩
    refine E_iload pf_137_224 rfl ?_
    refine E_aload pf_137_225 rfl ?_
    refine F_getf pf_137_226 rfl rfl rfl ?_
    refine E_icmp_ge_t pf_137_229 (by omega) ?_
    refine E_iconst pf_137_269 ?_
    exact E_iret pf_137_270 rfl
  | succ m ih =>
    intro j n P hj hP hk
    have hn := kl_le hk
    rw [crk_len] at hn
    obtain ⟨n1, P1, a1, a2, a3, h134⟩ := c134a (rf := rf) (ts := tl) (d := d) (kd := kd) (vs := vs) (rw := rw) (rd := (dn : Int)) (rr := rr) (ac := ac) (sp := p) (rk := 2) (n := n) (P := P) (ks := (crk s j)) (j := j) (p := s) (by omega) hP hk (by omega) hs
    obtain ⟨n3, P3, c1, c2, c3, h134b⟩ := c134a (rf := rf) (ts := tl) (d := d) (kd := kd) (vs := vs) (rw := rw) (rd := (dn : Int)) (rr := rr) (ac := ac) (sp := p) (rk := 2) (n := n1) (P := P1) (ks := (crk s j) ++ [axp s j]) (j := j) (p := -s) (by omega) a1 a2 (by omega) (by omega)
    obtain ⟨n2, P2, b1, b2, b3, b4⟩ := ih (j + 1) n3 P3 (by omega) c1 (by rw [c2]; rfl)
    refine ⟨n2, P2, b1, b2, b3, fun h => ?_⟩
    refine E_iload pf_137_224 rfl ?_
    refine E_aload pf_137_225 rfl ?_
    refine F_getf pf_137_226 rfl rfl rfl ?_
    refine E_icmp_ge_f pf_137_229 (by omega) ?_
    refine E_aload pf_137_232 rfl ?_
    refine E_iload pf_137_233 rfl ?_
    refine E_aload pf_137_234 rfl ?_
    refine F_getf pf_137_235 rfl rfl rfl ?_
    refine E_iconst pf_137_238 ?_
    refine F_iald pf_137_239 rfl (by omega) ?_
    rw [hs0]
    refine F_v3u (l' := [(_, _), (_, _), (_, _), (_, _)]) pf_137_240 (h134) (And.intro rfl (And.intro rfl (trivial))) rfl rfl rfl rfl ?_
    refine E_aload pf_137_243 rfl ?_
    refine F_getf pf_137_244 rfl rfl rfl ?_
    refine E_iconst pf_137_247 ?_
    refine E_icmp_ne_f pf_137_248 (by omega) ?_
    refine E_aload pf_137_251 rfl ?_
    refine E_iload pf_137_252 rfl ?_
    refine E_aload pf_137_253 rfl ?_
    refine F_getf pf_137_254 rfl rfl rfl ?_
    refine E_iconst pf_137_257 ?_
    refine F_iald pf_137_258 rfl (by omega) ?_
    rw [hs0]
    refine E_ineg pf_137_259 ?_
    refine F_v3u (l' := [(_, _), (_, _), (_, _), (_, _)]) pf_137_260 (h134b) (And.intro rfl (And.intro rfl (trivial))) rfl rfl rfl rfl ?_
    refine E_iinc (lv' := [_, _, _, _]) pf_137_263 rfl rfl ?_
    refine E_goto pf_137_266 ?_
    exact b4 h
theorem c137d0 {w1 : Value} (hT : ∀ i, 0 ≤ T i ∧ T i ≤ 255) (ht : tl ≤ 90) (hp : 0 ≤ p ∧ p ≤ tl) (hd : dn ≤ 4) (h : pd_H) (r : pd_Out × pd_H) (h1 : gd T tl 1 1 p = 1 → Rn 137 194 [.ref 102, w1, .int (ii 0), .int (ii ((1 : Nat) : Int))] [] (wd [(102, oX6 rf tl (p + ((1 : Nat) : Int)) d kd vs rw (dn : Int) 0 (n : Int) rr ac), (103, ar 90 T), (105, ar 128 P), (115, ar 4 (zcpy (fun i => T (p + i) - 48) sz 0 0 ((1 : Nat) : Int)))] h) r) (h2 : gd T tl 1 1 p ≠ 1 → r = (.inl (some (.int (ii 0))), wd [(102, oX6 rf tl (p + (gd T tl 1 1 p : Int)) d kd vs rw (dn : Int) 0 (n : Int) rr ac), (103, ar 90 T), (105, ar 128 P), (115, ar 4 (zu (zcpy (fun i => T (p + i) - 48) sz 0 0 (gd T tl 1 1 p : Int)) (gd T tl 1 1 p : Int) (-9)))] h)) : ∀ (m j : Nat) (A : Int → Int), j + m = 1 → j ≤ gd T tl 1 1 p → A = (zcpy (fun i => T (p + i) - 48) sz 0 0 (j : Int)) → Rn 137 134 [.ref 102, w1, .int (ii 0), .int (ii (j : Int))] [] (wd [(102, oX6 rf tl (p + (j : Int)) d kd vs rw (dn : Int) 0 (n : Int) rr ac), (103, ar 90 T), (105, ar 128 P), (115, ar 4 A)] h) r := by
  intro m
  induction m with
  | zero =>
    intro j A hj hg hA
    obtain rfl : j = 1 := by omega
    have hle := gd_le (T := T) (tl := tl) (lo := 1) 1 p
    subst hA
    have h1 := h1 (by omega)
    refine E_iload pf_137_134 rfl ?_
    refine E_iload pf_137_135 rfl ?_
    refine E_if_eq_t pf_137_136 (by omega) ?_
    refine E_iconst pf_137_146 ?_
    refine E_icmp_ge_t pf_137_147 (by omega) ?_
    exact h1
  | succ m ih =>
    intro j A hj hg hA
    have hpe := gd_end (T := T) (tl := tl) (lo := 1) (n := 1) hp.2
    have c1 := c130 (rf := rf) (d := d) (k := kd) (vs := vs) (rw := rw) (rd := (dn : Int)) (rk := 0) (rv := (n : Int)) (rr := rr) (ac := ac) (T := T) (tl := tl) (p := p + (j : Int)) (lo := 1) (hi := 9) hT ht (by omega) (by omega) (by omega)
    have hTp := hT (p + (j : Int))
    by_cases ej : j < gd T tl 1 1 p
    · have e2 := gd_good (T := T) (tl := tl) (lo := 1) 1 p j ej
      have hv := dg_val e2
      have ez : nxp (p + (j : Int)) (dg T tl 1 9 (p + (j : Int))) = p + (j : Int) + 1 := if_neg e2
      rw [ez, hv.1] at c1
      have ih := ih (j + 1) _ (by omega) (by omega) (zcpy_s _ _ _ _ _).symm
      rw [← hA, Int.zero_add, show p + ((j + 1 : Nat) : Int) = p + (j : Int) + 1 by omega] at ih
      refine E_iload pf_137_134 rfl ?_
      refine E_iload pf_137_135 rfl ?_
      refine E_if_eq_t pf_137_136 (by omega) ?_
      refine E_iconst pf_137_146 ?_
      refine E_icmp_ge_f pf_137_147 (by omega) ?_
      refine E_aload pf_137_150 rfl ?_
      refine F_getf pf_137_151 rfl rfl rfl ?_
      refine E_iload pf_137_154 rfl ?_
      refine E_aload pf_137_155 rfl ?_
      refine E_aload pf_137_156 rfl ?_
      refine F_getf pf_137_157 rfl rfl rfl ?_
      refine E_iconst pf_137_160 ?_
      refine E_icmp_ne_t pf_137_161 (by omega) ?_
      refine E_iconst pf_137_168 ?_
      refine E_iconst pf_137_169 ?_
      refine F_v3v (l' := [(_, _), (_, _), (_, _), (_, _)]) pf_137_171 (c1) (And.intro rfl (And.intro rfl (trivial))) rfl rfl rfl rfl ?_
      refine F_iast (l' := [(_, _), (_, _), (_, _), (_, _)]) pf_137_174 rfl (by omega) rfl ?_
      refine E_aload pf_137_175 rfl ?_
      refine F_getf pf_137_176 rfl rfl rfl ?_
      refine E_iload pf_137_179 rfl ?_
      refine F_iald pf_137_180 rfl (by omega) ?_
      rw [zu_s]
      refine E_iconst pf_137_181 ?_
      refine E_icmp_ne_t pf_137_183 (by omega) ?_
      refine E_iinc (lv' := [_, _, _, _]) pf_137_188 rfl rfl ?_
      refine E_goto pf_137_191 ?_
      exact ih
    · rcases gd_split (T := T) (tl := tl) (lo := 1) (n := 1) (p := p) with ⟨e1, e2⟩ | ⟨e1, e2, e3⟩
      · omega
      · obtain rfl : j = gd T tl 1 1 p := by omega
        rw [e3] at c1
        have ez : nxp (p + (gd T tl 1 1 p : Int)) (-9) = p + (gd T tl 1 1 p : Int) := if_pos rfl
        rw [ez] at c1
        rw [h2 (by omega)]
        subst hA
        refine E_iload pf_137_134 rfl ?_
        refine E_iload pf_137_135 rfl ?_
        refine E_if_eq_t pf_137_136 (by omega) ?_
        refine E_iconst pf_137_146 ?_
        refine E_icmp_ge_f pf_137_147 (by omega) ?_
        refine E_aload pf_137_150 rfl ?_
        refine F_getf pf_137_151 rfl rfl rfl ?_
        refine E_iload pf_137_154 rfl ?_
        refine E_aload pf_137_155 rfl ?_
        refine E_aload pf_137_156 rfl ?_
        refine F_getf pf_137_157 rfl rfl rfl ?_
        refine E_iconst pf_137_160 ?_
        refine E_icmp_ne_t pf_137_161 (by omega) ?_
        refine E_iconst pf_137_168 ?_
        refine E_iconst pf_137_169 ?_
        refine F_v3v (l' := [(_, _), (_, _), (_, _), (_, _)]) pf_137_171 (c1) (And.intro rfl (And.intro rfl (trivial))) rfl rfl rfl rfl ?_
        refine F_iast (l' := [(_, _), (_, _), (_, _), (_, _)]) pf_137_174 rfl (by omega) rfl ?_
        refine E_aload pf_137_175 rfl ?_
        refine F_getf pf_137_176 rfl rfl rfl ?_
        refine E_iload pf_137_179 rfl ?_
        refine F_iald pf_137_180 rfl (by omega) ?_
        rw [zu_s]
        refine E_iconst pf_137_181 ?_
        refine E_icmp_ne_f pf_137_183 (by omega) ?_
        refine E_iconst pf_137_186 ?_
        exact E_iret pf_137_187 rfl
theorem c137s0 {w1 : Value} (hT : ∀ i, 0 ≤ T i ∧ T i ≤ 255) (ht : tl ≤ 90) (hp : 0 ≤ p ∧ p ≤ tl) (hd : dn ≤ 4) (h : pd_H) (r : pd_Out × pd_H) (h1 : gd T tl 1 1 p = 1 → Rn 137 194 [.ref 102, w1, .int (ii 0), .int (ii ((1 : Nat) : Int))] [] (wd [(102, oX6 rf tl (p + ((1 : Nat) : Int)) d kd vs rw (dn : Int) 0 (n : Int) rr ac), (103, ar 90 T), (105, ar 128 P), (115, ar 4 (zcpy (fun i => T (p + i) - 48) sz 0 0 ((1 : Nat) : Int)))] h) r) (h2 : gd T tl 1 1 p ≠ 1 → r = (.inl (some (.int (ii 0))), wd [(102, oX6 rf tl (p + (gd T tl 1 1 p : Int)) d kd vs rw (dn : Int) 0 (n : Int) rr ac), (103, ar 90 T), (105, ar 128 P), (115, ar 4 (zu (zcpy (fun i => T (p + i) - 48) sz 0 0 (gd T tl 1 1 p : Int)) (gd T tl 1 1 p : Int) (-9)))] h)) : Rn 137 134 [.ref 102, w1, .int (ii 0), .int (ii ((0 : Nat) : Int))] [] (wd [(102, oX6 rf tl p d kd vs rw (dn : Int) 0 (n : Int) rr ac), (103, ar 90 T), (105, ar 128 P), (115, ar 4 sz)] h) r := by
  have := c137d0 hT ht hp hd h r h1 h2 1 0 _ (by omega) (by omega) (zcpy_0 _ _ _ _).symm
  rwa [show p + ((0 : Nat) : Int) = p by omega] at this
theorem c137d1 {w1 : Value} (hT : ∀ i, 0 ≤ T i ∧ T i ≤ 255) (ht : tl ≤ 90) (hp : 0 ≤ p ∧ p ≤ tl) (hd : dn ≤ 4) (h : pd_H) (r : pd_Out × pd_H) (h1 : gd T tl 1 dn p = dn → Rn 137 194 [.ref 102, w1, .int (ii 1), .int (ii ((dn : Nat) : Int))] [] (wd [(102, oX6 rf tl (p + ((dn : Nat) : Int)) d kd vs rw (dn : Int) 1 (n : Int) rr ac), (103, ar 90 T), (105, ar 128 P), (115, ar 4 (zcpy (fun i => T (p + i) - 48) sz 0 0 ((dn : Nat) : Int)))] h) r) (h2 : gd T tl 1 dn p ≠ dn → r = (.inl (some (.int (ii 0))), wd [(102, oX6 rf tl (p + (gd T tl 1 dn p : Int)) d kd vs rw (dn : Int) 1 (n : Int) rr ac), (103, ar 90 T), (105, ar 128 P), (115, ar 4 (zu (zcpy (fun i => T (p + i) - 48) sz 0 0 (gd T tl 1 dn p : Int)) (gd T tl 1 dn p : Int) (-9)))] h)) : ∀ (m j : Nat) (A : Int → Int), j + m = dn → j ≤ gd T tl 1 dn p → A = (zcpy (fun i => T (p + i) - 48) sz 0 0 (j : Int)) → Rn 137 134 [.ref 102, w1, .int (ii 1), .int (ii (j : Int))] [] (wd [(102, oX6 rf tl (p + (j : Int)) d kd vs rw (dn : Int) 1 (n : Int) rr ac), (103, ar 90 T), (105, ar 128 P), (115, ar 4 A)] h) r := by
  intro m
  induction m with
  | zero =>
    intro j A hj hg hA
    obtain rfl : j = dn := by omega
    have hle := gd_le (T := T) (tl := tl) (lo := 1) j p
    subst hA
    have h1 := h1 (by omega)
    refine E_iload pf_137_134 rfl ?_
    refine E_iload pf_137_135 rfl ?_
    refine E_if_eq_f pf_137_136 (by omega) ?_
    refine E_aload pf_137_139 rfl ?_
    refine F_getf pf_137_140 rfl rfl rfl ?_
    refine E_goto pf_137_143 ?_
    refine E_icmp_ge_t pf_137_147 (by omega) ?_
    exact h1
  | succ m ih =>
    intro j A hj hg hA
    have hpe := gd_end (T := T) (tl := tl) (lo := 1) (n := dn) hp.2
    have c1 := c130 (rf := rf) (d := d) (k := kd) (vs := vs) (rw := rw) (rd := (dn : Int)) (rk := 1) (rv := (n : Int)) (rr := rr) (ac := ac) (T := T) (tl := tl) (p := p + (j : Int)) (lo := 1) (hi := 9) hT ht (by omega) (by omega) (by omega)
    have hTp := hT (p + (j : Int))
    by_cases ej : j < gd T tl 1 dn p
    · have e2 := gd_good (T := T) (tl := tl) (lo := 1) dn p j ej
      have hv := dg_val e2
      have ez : nxp (p + (j : Int)) (dg T tl 1 9 (p + (j : Int))) = p + (j : Int) + 1 := if_neg e2
      rw [ez, hv.1] at c1
      have ih := ih (j + 1) _ (by omega) (by omega) (zcpy_s _ _ _ _ _).symm
      rw [← hA, Int.zero_add, show p + ((j + 1 : Nat) : Int) = p + (j : Int) + 1 by omega] at ih
      refine E_iload pf_137_134 rfl ?_
      refine E_iload pf_137_135 rfl ?_
      refine E_if_eq_f pf_137_136 (by omega) ?_
      refine E_aload pf_137_139 rfl ?_
      refine F_getf pf_137_140 rfl rfl rfl ?_
      refine E_goto pf_137_143 ?_
      refine E_icmp_ge_f pf_137_147 (by omega) ?_
      refine E_aload pf_137_150 rfl ?_
      refine F_getf pf_137_151 rfl rfl rfl ?_
      refine E_iload pf_137_154 rfl ?_
      refine E_aload pf_137_155 rfl ?_
      refine E_aload pf_137_156 rfl ?_
      refine F_getf pf_137_157 rfl rfl rfl ?_
      refine E_iconst pf_137_160 ?_
      refine E_icmp_ne_t pf_137_161 (by omega) ?_
      refine E_iconst pf_137_168 ?_
      refine E_iconst pf_137_169 ?_
      refine F_v3v (l' := [(_, _), (_, _), (_, _), (_, _)]) pf_137_171 (c1) (And.intro rfl (And.intro rfl (trivial))) rfl rfl rfl rfl ?_
      refine F_iast (l' := [(_, _), (_, _), (_, _), (_, _)]) pf_137_174 rfl (by omega) rfl ?_
      refine E_aload pf_137_175 rfl ?_
      refine F_getf pf_137_176 rfl rfl rfl ?_
      refine E_iload pf_137_179 rfl ?_
      refine F_iald pf_137_180 rfl (by omega) ?_
      rw [zu_s]
      refine E_iconst pf_137_181 ?_
      refine E_icmp_ne_t pf_137_183 (by omega) ?_
      refine E_iinc (lv' := [_, _, _, _]) pf_137_188 rfl rfl ?_
      refine E_goto pf_137_191 ?_
      exact ih
    · rcases gd_split (T := T) (tl := tl) (lo := 1) (n := dn) (p := p) with ⟨e1, e2⟩ | ⟨e1, e2, e3⟩
      · omega
      · obtain rfl : j = gd T tl 1 dn p := by omega
        rw [e3] at c1
        have ez : nxp (p + (gd T tl 1 dn p : Int)) (-9) = p + (gd T tl 1 dn p : Int) := if_pos rfl
        rw [ez] at c1
        rw [h2 (by omega)]
        subst hA
        refine E_iload pf_137_134 rfl ?_
        refine E_iload pf_137_135 rfl ?_
        refine E_if_eq_f pf_137_136 (by omega) ?_
        refine E_aload pf_137_139 rfl ?_
        refine F_getf pf_137_140 rfl rfl rfl ?_
        refine E_goto pf_137_143 ?_
        refine E_icmp_ge_f pf_137_147 (by omega) ?_
        refine E_aload pf_137_150 rfl ?_
        refine F_getf pf_137_151 rfl rfl rfl ?_
        refine E_iload pf_137_154 rfl ?_
        refine E_aload pf_137_155 rfl ?_
        refine E_aload pf_137_156 rfl ?_
        refine F_getf pf_137_157 rfl rfl rfl ?_
        refine E_iconst pf_137_160 ?_
        refine E_icmp_ne_t pf_137_161 (by omega) ?_
        refine E_iconst pf_137_168 ?_
        refine E_iconst pf_137_169 ?_
        refine F_v3v (l' := [(_, _), (_, _), (_, _), (_, _)]) pf_137_171 (c1) (And.intro rfl (And.intro rfl (trivial))) rfl rfl rfl rfl ?_
        refine F_iast (l' := [(_, _), (_, _), (_, _), (_, _)]) pf_137_174 rfl (by omega) rfl ?_
        refine E_aload pf_137_175 rfl ?_
        refine F_getf pf_137_176 rfl rfl rfl ?_
        refine E_iload pf_137_179 rfl ?_
        refine F_iald pf_137_180 rfl (by omega) ?_
        rw [zu_s]
        refine E_iconst pf_137_181 ?_
        refine E_icmp_ne_f pf_137_183 (by omega) ?_
        refine E_iconst pf_137_186 ?_
        exact E_iret pf_137_187 rfl
theorem c137s1 {w1 : Value} (hT : ∀ i, 0 ≤ T i ∧ T i ≤ 255) (ht : tl ≤ 90) (hp : 0 ≤ p ∧ p ≤ tl) (hd : dn ≤ 4) (h : pd_H) (r : pd_Out × pd_H) (h1 : gd T tl 1 dn p = dn → Rn 137 194 [.ref 102, w1, .int (ii 1), .int (ii ((dn : Nat) : Int))] [] (wd [(102, oX6 rf tl (p + ((dn : Nat) : Int)) d kd vs rw (dn : Int) 1 (n : Int) rr ac), (103, ar 90 T), (105, ar 128 P), (115, ar 4 (zcpy (fun i => T (p + i) - 48) sz 0 0 ((dn : Nat) : Int)))] h) r) (h2 : gd T tl 1 dn p ≠ dn → r = (.inl (some (.int (ii 0))), wd [(102, oX6 rf tl (p + (gd T tl 1 dn p : Int)) d kd vs rw (dn : Int) 1 (n : Int) rr ac), (103, ar 90 T), (105, ar 128 P), (115, ar 4 (zu (zcpy (fun i => T (p + i) - 48) sz 0 0 (gd T tl 1 dn p : Int)) (gd T tl 1 dn p : Int) (-9)))] h)) : Rn 137 134 [.ref 102, w1, .int (ii 1), .int (ii ((0 : Nat) : Int))] [] (wd [(102, oX6 rf tl p d kd vs rw (dn : Int) 1 (n : Int) rr ac), (103, ar 90 T), (105, ar 128 P), (115, ar 4 sz)] h) r := by
  have := c137d1 hT ht hp hd h r h1 h2 dn 0 _ (by omega) (by omega) (zcpy_0 _ _ _ _).symm
  rwa [show p + ((0 : Nat) : Int) = p by omega] at this
theorem c137d2 {w1 : Value} (hT : ∀ i, 0 ≤ T i ∧ T i ≤ 255) (ht : tl ≤ 90) (hp : 0 ≤ p ∧ p ≤ tl) (hd : dn ≤ 4) (h : pd_H) (r : pd_Out × pd_H) (h1 : gd T tl 1 1 p = 1 → Rn 137 194 [.ref 102, w1, .int (ii 0), .int (ii ((1 : Nat) : Int))] [] (wd [(102, oX6 rf tl (p + ((1 : Nat) : Int)) d kd vs rw (dn : Int) 2 (n : Int) rr ac), (103, ar 90 T), (105, ar 128 P), (115, ar 4 (zcpy (fun i => T (p + i) - 48) sz 0 0 ((1 : Nat) : Int)))] h) r) (h2 : gd T tl 1 1 p ≠ 1 → r = (.inl (some (.int (ii 0))), wd [(102, oX6 rf tl (p + (gd T tl 1 1 p : Int)) d kd vs rw (dn : Int) 2 (n : Int) rr ac), (103, ar 90 T), (105, ar 128 P), (115, ar 4 (zu (zcpy (fun i => T (p + i) - 48) sz 0 0 (gd T tl 1 1 p : Int)) (gd T tl 1 1 p : Int) (-9)))] h)) : ∀ (m j : Nat) (A : Int → Int), j + m = 1 → j ≤ gd T tl 1 1 p → A = (zcpy (fun i => T (p + i) - 48) sz 0 0 (j : Int)) → Rn 137 134 [.ref 102, w1, .int (ii 0), .int (ii (j : Int))] [] (wd [(102, oX6 rf tl (p + (j : Int)) d kd vs rw (dn : Int) 2 (n : Int) rr ac), (103, ar 90 T), (105, ar 128 P), (115, ar 4 A)] h) r := by
  intro m
  induction m with
  | zero =>
    intro j A hj hg hA
    obtain rfl : j = 1 := by omega
    have hle := gd_le (T := T) (tl := tl) (lo := 1) 1 p
    subst hA
    have h1 := h1 (by omega)
    refine E_iload pf_137_134 rfl ?_
    refine E_iload pf_137_135 rfl ?_
    refine E_if_eq_t pf_137_136 (by omega) ?_
    refine E_iconst pf_137_146 ?_
    refine E_icmp_ge_t pf_137_147 (by omega) ?_
    exact h1
  | succ m ih =>
    intro j A hj hg hA
    have hpe := gd_end (T := T) (tl := tl) (lo := 1) (n := 1) hp.2
    have c1 := c130 (rf := rf) (d := d) (k := kd) (vs := vs) (rw := rw) (rd := (dn : Int)) (rk := 2) (rv := (n : Int)) (rr := rr) (ac := ac) (T := T) (tl := tl) (p := p + (j : Int)) (lo := 1) (hi := 9) hT ht (by omega) (by omega) (by omega)
    have hTp := hT (p + (j : Int))
    by_cases ej : j < gd T tl 1 1 p
    · have e2 := gd_good (T := T) (tl := tl) (lo := 1) 1 p j ej
      have hv := dg_val e2
      have ez : nxp (p + (j : Int)) (dg T tl 1 9 (p + (j : Int))) = p + (j : Int) + 1 := if_neg e2
      rw [ez, hv.1] at c1
      have ih := ih (j + 1) _ (by omega) (by omega) (zcpy_s _ _ _ _ _).symm
      rw [← hA, Int.zero_add, show p + ((j + 1 : Nat) : Int) = p + (j : Int) + 1 by omega] at ih
      refine E_iload pf_137_134 rfl ?_
      refine E_iload pf_137_135 rfl ?_
      refine E_if_eq_t pf_137_136 (by omega) ?_
      refine E_iconst pf_137_146 ?_
      refine E_icmp_ge_f pf_137_147 (by omega) ?_
      refine E_aload pf_137_150 rfl ?_
      refine F_getf pf_137_151 rfl rfl rfl ?_
      refine E_iload pf_137_154 rfl ?_
      refine E_aload pf_137_155 rfl ?_
      refine E_aload pf_137_156 rfl ?_
      refine F_getf pf_137_157 rfl rfl rfl ?_
      refine E_iconst pf_137_160 ?_
      refine E_icmp_ne_t pf_137_161 (by omega) ?_
      refine E_iconst pf_137_168 ?_
      refine E_iconst pf_137_169 ?_
      refine F_v3v (l' := [(_, _), (_, _), (_, _), (_, _)]) pf_137_171 (c1) (And.intro rfl (And.intro rfl (trivial))) rfl rfl rfl rfl ?_
      refine F_iast (l' := [(_, _), (_, _), (_, _), (_, _)]) pf_137_174 rfl (by omega) rfl ?_
      refine E_aload pf_137_175 rfl ?_
      refine F_getf pf_137_176 rfl rfl rfl ?_
      refine E_iload pf_137_179 rfl ?_
      refine F_iald pf_137_180 rfl (by omega) ?_
      rw [zu_s]
      refine E_iconst pf_137_181 ?_
      refine E_icmp_ne_t pf_137_183 (by omega) ?_
      refine E_iinc (lv' := [_, _, _, _]) pf_137_188 rfl rfl ?_
      refine E_goto pf_137_191 ?_
      exact ih
    · rcases gd_split (T := T) (tl := tl) (lo := 1) (n := 1) (p := p) with ⟨e1, e2⟩ | ⟨e1, e2, e3⟩
      · omega
      · obtain rfl : j = gd T tl 1 1 p := by omega
        rw [e3] at c1
        have ez : nxp (p + (gd T tl 1 1 p : Int)) (-9) = p + (gd T tl 1 1 p : Int) := if_pos rfl
        rw [ez] at c1
        rw [h2 (by omega)]
        subst hA
        refine E_iload pf_137_134 rfl ?_
        refine E_iload pf_137_135 rfl ?_
        refine E_if_eq_t pf_137_136 (by omega) ?_
        refine E_iconst pf_137_146 ?_
        refine E_icmp_ge_f pf_137_147 (by omega) ?_
        refine E_aload pf_137_150 rfl ?_
        refine F_getf pf_137_151 rfl rfl rfl ?_
        refine E_iload pf_137_154 rfl ?_
        refine E_aload pf_137_155 rfl ?_
        refine E_aload pf_137_156 rfl ?_
        refine F_getf pf_137_157 rfl rfl rfl ?_
        refine E_iconst pf_137_160 ?_
        refine E_icmp_ne_t pf_137_161 (by omega) ?_
        refine E_iconst pf_137_168 ?_
        refine E_iconst pf_137_169 ?_
        refine F_v3v (l' := [(_, _), (_, _), (_, _), (_, _)]) pf_137_171 (c1) (And.intro rfl (And.intro rfl (trivial))) rfl rfl rfl rfl ?_
        refine F_iast (l' := [(_, _), (_, _), (_, _), (_, _)]) pf_137_174 rfl (by omega) rfl ?_
        refine E_aload pf_137_175 rfl ?_
        refine F_getf pf_137_176 rfl rfl rfl ?_
        refine E_iload pf_137_179 rfl ?_
        refine F_iald pf_137_180 rfl (by omega) ?_
        rw [zu_s]
        refine E_iconst pf_137_181 ?_
        refine E_icmp_ne_f pf_137_183 (by omega) ?_
        refine E_iconst pf_137_186 ?_
        exact E_iret pf_137_187 rfl
theorem c137s2 {w1 : Value} (hT : ∀ i, 0 ≤ T i ∧ T i ≤ 255) (ht : tl ≤ 90) (hp : 0 ≤ p ∧ p ≤ tl) (hd : dn ≤ 4) (h : pd_H) (r : pd_Out × pd_H) (h1 : gd T tl 1 1 p = 1 → Rn 137 194 [.ref 102, w1, .int (ii 0), .int (ii ((1 : Nat) : Int))] [] (wd [(102, oX6 rf tl (p + ((1 : Nat) : Int)) d kd vs rw (dn : Int) 2 (n : Int) rr ac), (103, ar 90 T), (105, ar 128 P), (115, ar 4 (zcpy (fun i => T (p + i) - 48) sz 0 0 ((1 : Nat) : Int)))] h) r) (h2 : gd T tl 1 1 p ≠ 1 → r = (.inl (some (.int (ii 0))), wd [(102, oX6 rf tl (p + (gd T tl 1 1 p : Int)) d kd vs rw (dn : Int) 2 (n : Int) rr ac), (103, ar 90 T), (105, ar 128 P), (115, ar 4 (zu (zcpy (fun i => T (p + i) - 48) sz 0 0 (gd T tl 1 1 p : Int)) (gd T tl 1 1 p : Int) (-9)))] h)) : Rn 137 134 [.ref 102, w1, .int (ii 0), .int (ii ((0 : Nat) : Int))] [] (wd [(102, oX6 rf tl p d kd vs rw (dn : Int) 2 (n : Int) rr ac), (103, ar 90 T), (105, ar 128 P), (115, ar 4 sz)] h) r := by
  have := c137d2 hT ht hp hd h r h1 h2 1 0 _ (by omega) (by omega) (zcpy_0 _ _ _ _).symm
  rwa [show p + ((0 : Nat) : Int) = p by omega] at this
theorem c137d3 {w1 : Value} (hT : ∀ i, 0 ≤ T i ∧ T i ≤ 255) (ht : tl ≤ 90) (hp : 0 ≤ p ∧ p ≤ tl) (hd : dn ≤ 4) (h : pd_H) (r : pd_Out × pd_H) (h1 : gd T tl 0 dn p = dn → Rn 137 194 [.ref 102, w1, .int (ii 1), .int (ii ((dn : Nat) : Int))] [] (wd [(102, oX6 rf tl (p + ((dn : Nat) : Int)) d kd vs rw (dn : Int) 3 (n : Int) rr ac), (103, ar 90 T), (105, ar 128 P), (115, ar 4 (zcpy (fun i => T (p + i) - 48) sz 0 0 ((dn : Nat) : Int)))] h) r) (h2 : gd T tl 0 dn p ≠ dn → r = (.inl (some (.int (ii 0))), wd [(102, oX6 rf tl (p + (gd T tl 0 dn p : Int)) d kd vs rw (dn : Int) 3 (n : Int) rr ac), (103, ar 90 T), (105, ar 128 P), (115, ar 4 (zu (zcpy (fun i => T (p + i) - 48) sz 0 0 (gd T tl 0 dn p : Int)) (gd T tl 0 dn p : Int) (-9)))] h)) : ∀ (m j : Nat) (A : Int → Int), j + m = dn → j ≤ gd T tl 0 dn p → A = (zcpy (fun i => T (p + i) - 48) sz 0 0 (j : Int)) → Rn 137 134 [.ref 102, w1, .int (ii 1), .int (ii (j : Int))] [] (wd [(102, oX6 rf tl (p + (j : Int)) d kd vs rw (dn : Int) 3 (n : Int) rr ac), (103, ar 90 T), (105, ar 128 P), (115, ar 4 A)] h) r := by
  intro m
  induction m with
  | zero =>
    intro j A hj hg hA
    obtain rfl : j = dn := by omega
    have hle := gd_le (T := T) (tl := tl) (lo := 0) j p
    subst hA
    have h1 := h1 (by omega)
    refine E_iload pf_137_134 rfl ?_
    refine E_iload pf_137_135 rfl ?_
    refine E_if_eq_f pf_137_136 (by omega) ?_
    refine E_aload pf_137_139 rfl ?_
    refine F_getf pf_137_140 rfl rfl rfl ?_
    refine E_goto pf_137_143 ?_
    refine E_icmp_ge_t pf_137_147 (by omega) ?_
    exact h1
  | succ m ih =>
    intro j A hj hg hA
    have hpe := gd_end (T := T) (tl := tl) (lo := 0) (n := dn) hp.2
    have c1 := c130 (rf := rf) (d := d) (k := kd) (vs := vs) (rw := rw) (rd := (dn : Int)) (rk := 3) (rv := (n : Int)) (rr := rr) (ac := ac) (T := T) (tl := tl) (p := p + (j : Int)) (lo := 0) (hi := 9) hT ht (by omega) (by omega) (by omega)
    have hTp := hT (p + (j : Int))
    by_cases ej : j < gd T tl 0 dn p
    · have e2 := gd_good (T := T) (tl := tl) (lo := 0) dn p j ej
      have hv := dg_val e2
      have ez : nxp (p + (j : Int)) (dg T tl 0 9 (p + (j : Int))) = p + (j : Int) + 1 := if_neg e2
      rw [ez, hv.1] at c1
      have ih := ih (j + 1) _ (by omega) (by omega) (zcpy_s _ _ _ _ _).symm
      rw [← hA, Int.zero_add, show p + ((j + 1 : Nat) : Int) = p + (j : Int) + 1 by omega] at ih
      refine E_iload pf_137_134 rfl ?_
      refine E_iload pf_137_135 rfl ?_
      refine E_if_eq_f pf_137_136 (by omega) ?_
      refine E_aload pf_137_139 rfl ?_
      refine F_getf pf_137_140 rfl rfl rfl ?_
      refine E_goto pf_137_143 ?_
      refine E_icmp_ge_f pf_137_147 (by omega) ?_
      refine E_aload pf_137_150 rfl ?_
      refine F_getf pf_137_151 rfl rfl rfl ?_
      refine E_iload pf_137_154 rfl ?_
      refine E_aload pf_137_155 rfl ?_
      refine E_aload pf_137_156 rfl ?_
      refine F_getf pf_137_157 rfl rfl rfl ?_
      refine E_iconst pf_137_160 ?_
      refine E_icmp_ne_f pf_137_161 (by omega) ?_
      refine E_iconst pf_137_164 ?_
      refine E_goto pf_137_165 ?_
      refine E_iconst pf_137_169 ?_
      refine F_v3v (l' := [(_, _), (_, _), (_, _), (_, _)]) pf_137_171 (c1) (And.intro rfl (And.intro rfl (trivial))) rfl rfl rfl rfl ?_
      refine F_iast (l' := [(_, _), (_, _), (_, _), (_, _)]) pf_137_174 rfl (by omega) rfl ?_
      refine E_aload pf_137_175 rfl ?_
      refine F_getf pf_137_176 rfl rfl rfl ?_
      refine E_iload pf_137_179 rfl ?_
      refine F_iald pf_137_180 rfl (by omega) ?_
      rw [zu_s]
      refine E_iconst pf_137_181 ?_
      refine E_icmp_ne_t pf_137_183 (by omega) ?_
      refine E_iinc (lv' := [_, _, _, _]) pf_137_188 rfl rfl ?_
      refine E_goto pf_137_191 ?_
      exact ih
    · rcases gd_split (T := T) (tl := tl) (lo := 0) (n := dn) (p := p) with ⟨e1, e2⟩ | ⟨e1, e2, e3⟩
      · omega
      · obtain rfl : j = gd T tl 0 dn p := by omega
        rw [e3] at c1
        have ez : nxp (p + (gd T tl 0 dn p : Int)) (-9) = p + (gd T tl 0 dn p : Int) := if_pos rfl
        rw [ez] at c1
        rw [h2 (by omega)]
        subst hA
        refine E_iload pf_137_134 rfl ?_
        refine E_iload pf_137_135 rfl ?_
        refine E_if_eq_f pf_137_136 (by omega) ?_
        refine E_aload pf_137_139 rfl ?_
        refine F_getf pf_137_140 rfl rfl rfl ?_
        refine E_goto pf_137_143 ?_
        refine E_icmp_ge_f pf_137_147 (by omega) ?_
        refine E_aload pf_137_150 rfl ?_
        refine F_getf pf_137_151 rfl rfl rfl ?_
        refine E_iload pf_137_154 rfl ?_
        refine E_aload pf_137_155 rfl ?_
        refine E_aload pf_137_156 rfl ?_
        refine F_getf pf_137_157 rfl rfl rfl ?_
        refine E_iconst pf_137_160 ?_
        refine E_icmp_ne_f pf_137_161 (by omega) ?_
        refine E_iconst pf_137_164 ?_
        refine E_goto pf_137_165 ?_
        refine E_iconst pf_137_169 ?_
        refine F_v3v (l' := [(_, _), (_, _), (_, _), (_, _)]) pf_137_171 (c1) (And.intro rfl (And.intro rfl (trivial))) rfl rfl rfl rfl ?_
        refine F_iast (l' := [(_, _), (_, _), (_, _), (_, _)]) pf_137_174 rfl (by omega) rfl ?_
        refine E_aload pf_137_175 rfl ?_
        refine F_getf pf_137_176 rfl rfl rfl ?_
        refine E_iload pf_137_179 rfl ?_
        refine F_iald pf_137_180 rfl (by omega) ?_
        rw [zu_s]
        refine E_iconst pf_137_181 ?_
        refine E_icmp_ne_f pf_137_183 (by omega) ?_
        refine E_iconst pf_137_186 ?_
        exact E_iret pf_137_187 rfl
theorem c137s3 {w1 : Value} (hT : ∀ i, 0 ≤ T i ∧ T i ≤ 255) (ht : tl ≤ 90) (hp : 0 ≤ p ∧ p ≤ tl) (hd : dn ≤ 4) (h : pd_H) (r : pd_Out × pd_H) (h1 : gd T tl 0 dn p = dn → Rn 137 194 [.ref 102, w1, .int (ii 1), .int (ii ((dn : Nat) : Int))] [] (wd [(102, oX6 rf tl (p + ((dn : Nat) : Int)) d kd vs rw (dn : Int) 3 (n : Int) rr ac), (103, ar 90 T), (105, ar 128 P), (115, ar 4 (zcpy (fun i => T (p + i) - 48) sz 0 0 ((dn : Nat) : Int)))] h) r) (h2 : gd T tl 0 dn p ≠ dn → r = (.inl (some (.int (ii 0))), wd [(102, oX6 rf tl (p + (gd T tl 0 dn p : Int)) d kd vs rw (dn : Int) 3 (n : Int) rr ac), (103, ar 90 T), (105, ar 128 P), (115, ar 4 (zu (zcpy (fun i => T (p + i) - 48) sz 0 0 (gd T tl 0 dn p : Int)) (gd T tl 0 dn p : Int) (-9)))] h)) : Rn 137 134 [.ref 102, w1, .int (ii 1), .int (ii ((0 : Nat) : Int))] [] (wd [(102, oX6 rf tl p d kd vs rw (dn : Int) 3 (n : Int) rr ac), (103, ar 90 T), (105, ar 128 P), (115, ar 4 sz)] h) r := by
  have := c137d3 hT ht hp hd h r h1 h2 dn 0 _ (by omega) (by omega) (zcpy_0 _ _ _ _).symm
  rwa [show p + ((0 : Nat) : Int) = p by omega] at this
theorem pol0 (hT : ∀ i, 0 ≤ T i ∧ T i ≤ 255) (ht : tl ≤ 90) (hp : 0 ≤ p ∧ p ≤ tl) (hd : 1 ≤ dn ∧ dn ≤ 4) (hC : (∀ q, -9 ≤ C q ∧ C q ≤ 9)) (hP : (∀ q, -9 ≤ P q ∧ P q ≤ 9)) (hz : (∀ q, -9 ≤ sz q ∧ sz q ≤ 9)) (e1 : p < tl) (e2 : T p = 115) : ∃ (b p' k' : Int) (n' : Nat) (C' P' q' c' g' sz' : Int → Int), (b = 0 ∨ b = 1) ∧ (0 ≤ p' ∧ p' ≤ tl) ∧ (∀ q, -9 ≤ C' q ∧ C' q ≤ 9) ∧ (∀ q, -9 ≤ P' q ∧ P' q ≤ 9) ∧ (∀ q, -9 ≤ sz' q ∧ sz' q ≤ 9) ∧ n' ≤ 24 ∧ (b = 1 → (0 ≤ k' ∧ k' ≤ 4) ∧ ∃ ks' : List Int, kl C' n' = insl [] ks' ∧ kl P' n' = insl [] ks' ∧ ks' ≠ [] ∧ ∀ x ∈ ks', zk dn x) ∧ (∀ (h : pd_H) (w2 w3 : Value), Rn 45 15 [.ref 3, .int (ii (dn : Int)), w2, w3] [] (wd [(2, ar 90 T), (3, oR tl p), (4, ar 4 q), (5, oP5 d0 k0 n0), (6, ar 96 C), (7, ar 4 c), (8, ar 4 g)] h) (.inl (some (.int (ii b))), wd [(2, ar 90 T), (3, oR tl p'), (4, ar 4 q'), (5, oP5 (dn : Int) k' (n' : Int)), (6, ar 96 C'), (7, ar 4 c'), (8, ar 4 g')] h)) ∧ ∀ h, Ca 137 [.ref 102] (wd [(102, oX6 rf tl p d kd vs rw (dn : Int) rk ((0 : Nat) : Int) rr ac), (103, ar 90 T), (105, ar 128 P), (115, ar 4 sz)] h) (.inl (some (.int (ii b))), wd [(102, oX6 rf tl p' d kd vs rw (dn : Int) k' (n' : Int) rr ac), (103, ar 90 T), (105, ar 128 P'), (115, ar 4 sz')] h) := by
  have ekd : kdf T tl p = 0 := by
    unfold kdf
    rw [if_pos e1, e2]
    decide
  have h44 := c44 (T := T) (tl := tl) (p := p) hT ht hp
  rw [ekd, show nxp p 0 = p + 1 from if_neg (by decide)] at h44
  have hpe := gd_end (T := T) (tl := tl) (lo := 1) (n := 1) (p := p + 1) (by omega)
  obtain ⟨q1, hq1, h46⟩ := c46 (T := T) (q := q) (tl := tl) (p := p + 1) (n := 1) (lo := 1) hT ht (by omega) (by omega) (by omega)
  have hTp := hT p
  rcases gd_split (T := T) (tl := tl) (lo := 1) (n := 1) (p := p + 1) with ⟨g1, g2⟩ | ⟨g1, g2, g3⟩
  · have hq1 := hq1 g1
    have hf : ∀ j : Int, 0 ≤ j → j < ((1 : Nat) : Int) → 0 ≤ T (p + 1 + j) - 48 ∧ T (p + 1 + j) - 48 ≤ 9 := fun j h1 h2 => by
      have := dg_val (g2 j.toNat (by omega))
      rw [show ((j.toNat : Nat) : Int) = j by omega] at this
      omega
    have hq9 : ∀ i : Int, 0 ≤ i → i < 4 → 0 ≤ q1 i ∧ q1 i ≤ 9 := fun j h1 h2 => by
      rw [hq1 j h1 h2]; unfold nmf
      split
      · exact hf j h1 (by omega)
      · omega
    have hzb : zb (gd T tl 1 1 (p + 1) = 1) = 1 := if_pos g1
    rw [hzb, g1] at h46
    have hs9 := zcpy_b9i (f := (fun i => T (p + 1 + i) - 48)) (g := sz) (dp := 0) (n := ((1 : Nat) : Int)) (fun j h1 h2 => by have := hf j h1 h2; omega) hz
    have hsz : ∀ j : Int, 0 ≤ j → j < ((1 : Nat) : Int) → q1 j = (zcpy (fun i => T (p + 1 + i) - 48) sz 0 0 ((1 : Nat) : Int)) j := fun j h1 h2 => by
      rw [hq1 j h1 (by omega), zcpy_at (by omega)]; unfold nmf
      rw [if_pos h2]
      show T (p + 1 + j) - 48 = T (p + 1 + (0 + (j - 0))) - 48
      congr 2; omega
    obtain ⟨n1, C1, c1, y1, a1, a2, a3, h33⟩ := c33 (dn := dn) (k := 0) (C := C) (c := c) (g := g) (sz := q1) hq9 hd hC (by omega)
    have ebk : bks 0 q1 dn = bks 0 (zcpy (fun i => T (p + 1 + i) - 48) sz 0 0 ((1 : Nat) : Int)) dn := bks_congr (by omega) (hsz 0 (by omega) (by omega)) (fun e j h1 h2 => by omega)
    have hf0 := hf 0 (by omega) (by omega)
    have e0 : (zcpy (fun i => T (p + 1 + i) - 48) sz 0 0 ((1 : Nat) : Int)) 0 = T (p + 1 + 0) - 48 := by rw [zcpy_at (by omega)]; rfl
    obtain ⟨n3, P3, f1, f2, f3, h134z⟩ := c134z (rf := rf) (ts := tl) (d := d) (kd := kd) (vs := vs) (rw := rw) (rd := (dn : Int)) (rr := rr) (ac := ac) (sp := p + 1 + ((1 : Nat) : Int)) (rk := 0) (n := 0) (P := P) (ks := []) (by omega) hP rfl
    obtain ⟨n2, P1, b1, b2, b3, b4⟩ := c137a0 (rf := rf) (d := d) (kd := kd) (vs := vs) (rw := rw) (rr := rr) (ac := ac) (T := T) (tl := tl) (p := p + 1 + ((1 : Nat) : Int)) (sz := (zcpy (fun i => T (p + 1 + i) - 48) sz 0 0 ((1 : Nat) : Int))) (w1 := .int (ii 115)) (by omega) e0 hd.2 dn 0 n3 P3 (by omega) f1 f2
    have eb : insl [] (bks 0 q1 dn) = kl P1 n2 := by rw [ebk, b2, ← e0]; rfl
    have en : n2 = n1 := by
      have h1 := congrArg List.length (a2.trans eb)
      rw [kl_len, kl_len] at h1
      exact h1.symm
    subst en
    refine ⟨1, p + 1 + ((1 : Nat) : Int), 0, n2, C1, P1, q1, c1, y1, (zcpy (fun i => T (p + 1 + i) - 48) sz 0 0 ((1 : Nat) : Int)), .inr rfl, by omega, a1, b1, hs9, by omega, fun _ => ⟨by omega, bks 0 q1 dn, a2, eb.symm, bks_ne hd (by omega), bks_zk hq9 hd (by omega)⟩, fun h w2 w3 => ?_, fun h => ?_⟩
    ·
      refine E_aload pf_45_15 rfl ?_
      refine F_v1v (l' := [(_, _), (_, _), (_, _), (_, _), (_, _), (_, _), (_, _)]) pf_45_16 (h44) (And.intro rfl (And.intro rfl (trivial))) rfl rfl rfl rfl ?_
      refine E_istore (lv' := [_, _, _, _]) pf_45_19 rfl rfl ?_
      refine E_aload pf_45_20 rfl ?_
      refine F_getf pf_45_21 rfl rfl rfl ?_
      refine E_iload pf_45_24 rfl ?_
      refine E_iload pf_45_25 rfl ?_
      refine F_v3u (l' := [(_, _), (_, _), (_, _), (_, _), (_, _), (_, _), (_, _)]) pf_45_26 (c26) (And.intro rfl (trivial)) rfl rfl rfl rfl ?_
      refine E_iload pf_45_29 rfl ?_
      refine E_iconst pf_45_30 ?_
      refine E_icmp_ne_t pf_45_32 (by omega) ?_
      refine E_iload pf_45_37 rfl ?_
      refine E_iconst pf_45_38 ?_
      refine E_icmp_ne_t pf_45_39 (by omega) ?_
      refine E_iload pf_45_48 rfl ?_
      refine E_if_eq_t pf_45_49 (by omega) ?_
      refine E_iconst pf_45_57 ?_
      refine E_goto pf_45_58 ?_
      refine E_istore (lv' := [_, _, _, _]) pf_45_62 rfl rfl ?_
      refine E_aload pf_45_63 rfl ?_
      refine E_iload pf_45_64 rfl ?_
      refine E_iload pf_45_65 rfl ?_
      refine E_iconst pf_45_66 ?_
      refine E_icmp_ne_t pf_45_67 (by omega) ?_
      refine E_iconst pf_45_74 ?_
      refine F_v3v (l' := [(_, _), (_, _), (_, _), (_, _), (_, _), (_, _), (_, _)]) pf_45_75 (h46) (And.intro rfl (And.intro rfl (And.intro rfl (trivial)))) rfl rfl rfl rfl ?_
      refine E_if_ne_t pf_45_78 (by omega) ?_
      refine E_aload pf_45_83 rfl ?_
      refine F_getf pf_45_84 rfl rfl rfl ?_
      refine E_aload pf_45_87 rfl ?_
      refine F_getf pf_45_88 rfl rfl rfl ?_
      refine F_v2u (l' := [(_, _), (_, _), (_, _), (_, _), (_, _), (_, _), (_, _)]) pf_45_91 (h33) (And.intro rfl (And.intro rfl (And.intro rfl (And.intro rfl (And.intro rfl (trivial)))))) rfl rfl rfl rfl ?_
      refine E_iconst pf_45_94 ?_
      exact E_iret pf_45_95 rfl
    · refine E_in (lv := [_, _, _, _]) rfl ?_
      refine E_aload pf_137_0 rfl ?_
      refine F_getf pf_137_1 rfl rfl rfl ?_
      refine E_aload pf_137_4 rfl ?_
      refine F_getf pf_137_5 rfl rfl rfl ?_
      refine E_icmp_ge_f pf_137_8 (by omega) ?_
      refine E_aload pf_137_11 rfl ?_
      refine F_getf pf_137_12 rfl rfl rfl ?_
      refine E_aload pf_137_15 rfl ?_
      refine F_getf pf_137_16 rfl rfl rfl ?_
      refine F_iald pf_137_19 rfl (by omega) ?_
      refine E_goto pf_137_20 ?_
      refine E_istore (lv' := [_, _, _, _]) pf_137_25 rfl rfl ?_
      refine E_aload pf_137_26 rfl ?_
      refine E_iload pf_137_27 rfl ?_
      rw [e2]
      refine E_iconst pf_137_28 ?_
      refine E_icmp_ne_f pf_137_30 (by omega) ?_
      refine E_iconst pf_137_33 ?_
      refine E_goto pf_137_34 ?_
      refine F_putf (l' := [(_, _), (_, _), (_, _), (_, _)]) (x := ob _ [_, _, _, _, _, _, _, _, _, _, _, _, _, _, _, _, _, _, _, _, _, _, _, _, _]) pf_137_79 rfl rfl rfl rfl rfl ?_
      refine E_aload pf_137_82 rfl ?_
      refine F_getf pf_137_83 rfl rfl rfl ?_
      refine E_iconst pf_137_86 ?_
      refine E_icmp_ne_t pf_137_88 (by omega) ?_
      refine E_aload pf_137_93 rfl ?_
      refine E_dup pf_137_94 rfl ?_
      refine F_getf pf_137_95 rfl rfl rfl ?_
      refine E_iconst pf_137_98 ?_
      refine E_iadd pf_137_99 ?_
      refine F_putf (l' := [(_, _), (_, _), (_, _), (_, _)]) (x := ob _ [_, _, _, _, _, _, _, _, _, _, _, _, _, _, _, _, _, _, _, _, _, _, _, _, _]) pf_137_100 rfl rfl rfl rfl rfl ?_
      refine E_aload pf_137_103 rfl ?_
      refine F_getf pf_137_104 rfl rfl rfl ?_
      refine E_iconst pf_137_107 ?_
      refine E_icmp_ne_t pf_137_108 (by omega) ?_
      refine E_aload pf_137_116 rfl ?_
      refine F_getf pf_137_117 rfl rfl rfl ?_
      refine E_iconst pf_137_120 ?_
      refine E_irem pf_137_121 (by omega) ?_
      refine E_iconst pf_137_122 ?_
      refine E_icmp_ne_t pf_137_123 (by omega) ?_
      refine E_iconst pf_137_130 ?_
      refine E_istore (lv' := [_, _, _, _]) pf_137_131 rfl rfl ?_
      refine E_iconst pf_137_132 ?_
      refine E_istore (lv' := [_, _, _, _]) pf_137_133 rfl rfl ?_
      exact c137s0 (n := 0) (P := P) (sz := sz) hT ht (by omega) hd.2 h _ (fun _ => by
          refine E_iload pf_137_194 rfl ?_
          refine E_if_eq_t pf_137_195 (by omega) ?_
          refine E_aload pf_137_208 rfl ?_
          refine F_getf pf_137_209 rfl rfl rfl ?_
          refine E_if_ne_f pf_137_212 (by omega) ?_
          refine E_aload pf_137_215 rfl ?_
          refine E_iconst pf_137_216 ?_
          refine E_iconst pf_137_218 ?_
          refine F_v3u (l' := [(_, _), (_, _), (_, _), (_, _)]) pf_137_219 (h134z) (And.intro rfl (And.intro rfl (trivial))) rfl rfl rfl rfl ?_
          refine E_iconst pf_137_222 ?_
          refine E_istore (lv' := [_, _, _, _]) pf_137_223 rfl rfl ?_
          exact b4 h) (fun q => absurd g1 q)
  · have hzb : zb (gd T tl 1 1 (p + 1) = 1) = 0 := if_neg (by omega)
    rw [hzb] at h46
    have hf : ∀ j : Int, 0 ≤ j → j < (gd T tl 1 1 (p + 1) : Int) → -9 ≤ T (p + 1 + j) - 48 ∧ T (p + 1 + j) - 48 ≤ 9 := fun j h1 h2 => by
      have := dg_val (g2 j.toNat (by omega))
      rw [show ((j.toNat : Nat) : Int) = j by omega] at this
      omega
    refine ⟨0, p + 1 + (gd T tl 1 1 (p + 1) : Int), 0, 0, C, P, q1, c, g, (zu (zcpy (fun i => T (p + 1 + i) - 48) sz 0 0 (gd T tl 1 1 (p + 1) : Int)) (gd T tl 1 1 (p + 1) : Int) (-9)), .inl rfl, by omega, hC, hP, zu_b9 (by omega) (zcpy_b9i hf hz), by omega, fun q => absurd q (by omega), fun h w2 w3 => ?_, fun h => ?_⟩
    ·
      refine E_aload pf_45_15 rfl ?_
      refine F_v1v (l' := [(_, _), (_, _), (_, _), (_, _), (_, _), (_, _), (_, _)]) pf_45_16 (h44) (And.intro rfl (And.intro rfl (trivial))) rfl rfl rfl rfl ?_
      refine E_istore (lv' := [_, _, _, _]) pf_45_19 rfl rfl ?_
      refine E_aload pf_45_20 rfl ?_
      refine F_getf pf_45_21 rfl rfl rfl ?_
      refine E_iload pf_45_24 rfl ?_
      refine E_iload pf_45_25 rfl ?_
      refine F_v3u (l' := [(_, _), (_, _), (_, _), (_, _), (_, _), (_, _), (_, _)]) pf_45_26 (c26) (And.intro rfl (trivial)) rfl rfl rfl rfl ?_
      refine E_iload pf_45_29 rfl ?_
      refine E_iconst pf_45_30 ?_
      refine E_icmp_ne_t pf_45_32 (by omega) ?_
      refine E_iload pf_45_37 rfl ?_
      refine E_iconst pf_45_38 ?_
      refine E_icmp_ne_t pf_45_39 (by omega) ?_
      refine E_iload pf_45_48 rfl ?_
      refine E_if_eq_t pf_45_49 (by omega) ?_
      refine E_iconst pf_45_57 ?_
      refine E_goto pf_45_58 ?_
      refine E_istore (lv' := [_, _, _, _]) pf_45_62 rfl rfl ?_
      refine E_aload pf_45_63 rfl ?_
      refine E_iload pf_45_64 rfl ?_
      refine E_iload pf_45_65 rfl ?_
      refine E_iconst pf_45_66 ?_
      refine E_icmp_ne_t pf_45_67 (by omega) ?_
      refine E_iconst pf_45_74 ?_
      refine F_v3v (l' := [(_, _), (_, _), (_, _), (_, _), (_, _), (_, _), (_, _)]) pf_45_75 (h46) (And.intro rfl (And.intro rfl (And.intro rfl (trivial)))) rfl rfl rfl rfl ?_
      refine E_if_ne_f pf_45_78 (by omega) ?_
      refine E_iconst pf_45_81 ?_
      exact E_iret pf_45_82 rfl
    · refine E_in (lv := [_, _, _, _]) rfl ?_
      refine E_aload pf_137_0 rfl ?_
      refine F_getf pf_137_1 rfl rfl rfl ?_
      refine E_aload pf_137_4 rfl ?_
      refine F_getf pf_137_5 rfl rfl rfl ?_
      refine E_icmp_ge_f pf_137_8 (by omega) ?_
      refine E_aload pf_137_11 rfl ?_
      refine F_getf pf_137_12 rfl rfl rfl ?_
      refine E_aload pf_137_15 rfl ?_
      refine F_getf pf_137_16 rfl rfl rfl ?_
      refine F_iald pf_137_19 rfl (by omega) ?_
      refine E_goto pf_137_20 ?_
      refine E_istore (lv' := [_, _, _, _]) pf_137_25 rfl rfl ?_
      refine E_aload pf_137_26 rfl ?_
      refine E_iload pf_137_27 rfl ?_
      rw [e2]
      refine E_iconst pf_137_28 ?_
      refine E_icmp_ne_f pf_137_30 (by omega) ?_
      refine E_iconst pf_137_33 ?_
      refine E_goto pf_137_34 ?_
      refine F_putf (l' := [(_, _), (_, _), (_, _), (_, _)]) (x := ob _ [_, _, _, _, _, _, _, _, _, _, _, _, _, _, _, _, _, _, _, _, _, _, _, _, _]) pf_137_79 rfl rfl rfl rfl rfl ?_
      refine E_aload pf_137_82 rfl ?_
      refine F_getf pf_137_83 rfl rfl rfl ?_
      refine E_iconst pf_137_86 ?_
      refine E_icmp_ne_t pf_137_88 (by omega) ?_
      refine E_aload pf_137_93 rfl ?_
      refine E_dup pf_137_94 rfl ?_
      refine F_getf pf_137_95 rfl rfl rfl ?_
      refine E_iconst pf_137_98 ?_
      refine E_iadd pf_137_99 ?_
      refine F_putf (l' := [(_, _), (_, _), (_, _), (_, _)]) (x := ob _ [_, _, _, _, _, _, _, _, _, _, _, _, _, _, _, _, _, _, _, _, _, _, _, _, _]) pf_137_100 rfl rfl rfl rfl rfl ?_
      refine E_aload pf_137_103 rfl ?_
      refine F_getf pf_137_104 rfl rfl rfl ?_
      refine E_iconst pf_137_107 ?_
      refine E_icmp_ne_t pf_137_108 (by omega) ?_
      refine E_aload pf_137_116 rfl ?_
      refine F_getf pf_137_117 rfl rfl rfl ?_
      refine E_iconst pf_137_120 ?_
      refine E_irem pf_137_121 (by omega) ?_
      refine E_iconst pf_137_122 ?_
      refine E_icmp_ne_t pf_137_123 (by omega) ?_
      refine E_iconst pf_137_130 ?_
      refine E_istore (lv' := [_, _, _, _]) pf_137_131 rfl rfl ?_
      refine E_iconst pf_137_132 ?_
      refine E_istore (lv' := [_, _, _, _]) pf_137_133 rfl rfl ?_
      exact c137s0 (n := 0) (P := P) (sz := sz) hT ht (by omega) hd.2 h _ (fun q => by omega) (fun _ => rfl)
theorem pol1 (hT : ∀ i, 0 ≤ T i ∧ T i ≤ 255) (ht : tl ≤ 90) (hp : 0 ≤ p ∧ p ≤ tl) (hd : 1 ≤ dn ∧ dn ≤ 4) (hC : (∀ q, -9 ≤ C q ∧ C q ≤ 9)) (hP : (∀ q, -9 ≤ P q ∧ P q ≤ 9)) (hz : (∀ q, -9 ≤ sz q ∧ sz q ≤ 9)) (e1 : p < tl) (e2 : T p = 98) : ∃ (b p' k' : Int) (n' : Nat) (C' P' q' c' g' sz' : Int → Int), (b = 0 ∨ b = 1) ∧ (0 ≤ p' ∧ p' ≤ tl) ∧ (∀ q, -9 ≤ C' q ∧ C' q ≤ 9) ∧ (∀ q, -9 ≤ P' q ∧ P' q ≤ 9) ∧ (∀ q, -9 ≤ sz' q ∧ sz' q ≤ 9) ∧ n' ≤ 24 ∧ (b = 1 → (0 ≤ k' ∧ k' ≤ 4) ∧ ∃ ks' : List Int, kl C' n' = insl [] ks' ∧ kl P' n' = insl [] ks' ∧ ks' ≠ [] ∧ ∀ x ∈ ks', zk dn x) ∧ (∀ (h : pd_H) (w2 w3 : Value), Rn 45 15 [.ref 3, .int (ii (dn : Int)), w2, w3] [] (wd [(2, ar 90 T), (3, oR tl p), (4, ar 4 q), (5, oP5 d0 k0 n0), (6, ar 96 C), (7, ar 4 c), (8, ar 4 g)] h) (.inl (some (.int (ii b))), wd [(2, ar 90 T), (3, oR tl p'), (4, ar 4 q'), (5, oP5 (dn : Int) k' (n' : Int)), (6, ar 96 C'), (7, ar 4 c'), (8, ar 4 g')] h)) ∧ ∀ h, Ca 137 [.ref 102] (wd [(102, oX6 rf tl p d kd vs rw (dn : Int) rk ((0 : Nat) : Int) rr ac), (103, ar 90 T), (105, ar 128 P), (115, ar 4 sz)] h) (.inl (some (.int (ii b))), wd [(102, oX6 rf tl p' d kd vs rw (dn : Int) k' (n' : Int) rr ac), (103, ar 90 T), (105, ar 128 P'), (115, ar 4 sz')] h) := by
  have ekd : kdf T tl p = 1 := by
    unfold kdf
    rw [if_pos e1, e2]
    decide
  have h44 := c44 (T := T) (tl := tl) (p := p) hT ht hp
  rw [ekd, show nxp p 1 = p + 1 from if_neg (by decide)] at h44
  have hpe := gd_end (T := T) (tl := tl) (lo := 1) (n := dn) (p := p + 1) (by omega)
  obtain ⟨q1, hq1, h46⟩ := c46 (T := T) (q := q) (tl := tl) (p := p + 1) (n := dn) (lo := 1) hT ht (by omega) (by omega) (by omega)
  have hTp := hT p
  rcases gd_split (T := T) (tl := tl) (lo := 1) (n := dn) (p := p + 1) with ⟨g1, g2⟩ | ⟨g1, g2, g3⟩
  · have hq1 := hq1 g1
    have hf : ∀ j : Int, 0 ≤ j → j < ((dn : Nat) : Int) → 0 ≤ T (p + 1 + j) - 48 ∧ T (p + 1 + j) - 48 ≤ 9 := fun j h1 h2 => by
      have := dg_val (g2 j.toNat (by omega))
      rw [show ((j.toNat : Nat) : Int) = j by omega] at this
      omega
    have hq9 : ∀ i : Int, 0 ≤ i → i < 4 → 0 ≤ q1 i ∧ q1 i ≤ 9 := fun j h1 h2 => by
      rw [hq1 j h1 h2]; unfold nmf
      split
      · exact hf j h1 (by omega)
      · omega
    have hzb : zb (gd T tl 1 dn (p + 1) = dn) = 1 := if_pos g1
    rw [hzb, g1] at h46
    have hs9 := zcpy_b9i (f := (fun i => T (p + 1 + i) - 48)) (g := sz) (dp := 0) (n := ((dn : Nat) : Int)) (fun j h1 h2 => by have := hf j h1 h2; omega) hz
    have hsz : ∀ j : Int, 0 ≤ j → j < ((dn : Nat) : Int) → q1 j = (zcpy (fun i => T (p + 1 + i) - 48) sz 0 0 ((dn : Nat) : Int)) j := fun j h1 h2 => by
      rw [hq1 j h1 (by omega), zcpy_at (by omega)]; unfold nmf
      rw [if_pos h2]
      show T (p + 1 + j) - 48 = T (p + 1 + (0 + (j - 0))) - 48
      congr 2; omega
    obtain ⟨n1, C1, c1, y1, a1, a2, a3, h33⟩ := c33 (dn := dn) (k := 1) (C := C) (c := c) (g := g) (sz := q1) hq9 hd hC (by omega)
    have ebk : bks 1 q1 dn = bks 1 (zcpy (fun i => T (p + 1 + i) - 48) sz 0 0 ((dn : Nat) : Int)) dn := bks_congr (by omega) (hsz 0 (by omega) (by omega)) (fun e j h1 h2 => hsz j h1 h2)
    obtain ⟨n2, P1, b1, b2, b3, h135⟩ := c135b (rf := rf) (ts := tl) (d := d) (kd := kd) (vs := vs) (rw := rw) (rr := rr) (ac := ac) (sp := p + 1 + ((dn : Nat) : Int)) (dn := dn) (P := P) (sz := (zcpy (fun i => T (p + 1 + i) - 48) sz 0 0 ((dn : Nat) : Int))) hs9 hd.2 hP
    have eb : insl [] (bks 1 q1 dn) = kl P1 n2 := by rw [ebk, b2]; rfl
    have en : n2 = n1 := by
      have h1 := congrArg List.length (a2.trans eb)
      rw [kl_len, kl_len] at h1
      exact h1.symm
    subst en
    refine ⟨1, p + 1 + ((dn : Nat) : Int), 1, n2, C1, P1, q1, c1, y1, (zcpy (fun i => T (p + 1 + i) - 48) sz 0 0 ((dn : Nat) : Int)), .inr rfl, by omega, a1, b1, hs9, by omega, fun _ => ⟨by omega, bks 1 q1 dn, a2, eb.symm, bks_ne hd (by omega), bks_zk hq9 hd (by omega)⟩, fun h w2 w3 => ?_, fun h => ?_⟩
    ·
      refine E_aload pf_45_15 rfl ?_
      refine F_v1v (l' := [(_, _), (_, _), (_, _), (_, _), (_, _), (_, _), (_, _)]) pf_45_16 (h44) (And.intro rfl (And.intro rfl (trivial))) rfl rfl rfl rfl ?_
      refine E_istore (lv' := [_, _, _, _]) pf_45_19 rfl rfl ?_
      refine E_aload pf_45_20 rfl ?_
      refine F_getf pf_45_21 rfl rfl rfl ?_
      refine E_iload pf_45_24 rfl ?_
      refine E_iload pf_45_25 rfl ?_
      refine F_v3u (l' := [(_, _), (_, _), (_, _), (_, _), (_, _), (_, _), (_, _)]) pf_45_26 (c26) (And.intro rfl (trivial)) rfl rfl rfl rfl ?_
      refine E_iload pf_45_29 rfl ?_
      refine E_iconst pf_45_30 ?_
      refine E_icmp_ne_t pf_45_32 (by omega) ?_
      refine E_iload pf_45_37 rfl ?_
      refine E_iconst pf_45_38 ?_
      refine E_icmp_ne_t pf_45_39 (by omega) ?_
      refine E_iload pf_45_48 rfl ?_
      refine E_if_eq_f pf_45_49 (by omega) ?_
      refine E_iload pf_45_52 rfl ?_
      refine E_iconst pf_45_53 ?_
      refine E_icmp_ne_t pf_45_54 (by omega) ?_
      refine E_iload pf_45_61 rfl ?_
      refine E_istore (lv' := [_, _, _, _]) pf_45_62 rfl rfl ?_
      refine E_aload pf_45_63 rfl ?_
      refine E_iload pf_45_64 rfl ?_
      refine E_iload pf_45_65 rfl ?_
      refine E_iconst pf_45_66 ?_
      refine E_icmp_ne_t pf_45_67 (by omega) ?_
      refine E_iconst pf_45_74 ?_
      refine F_v3v (l' := [(_, _), (_, _), (_, _), (_, _), (_, _), (_, _), (_, _)]) pf_45_75 (h46) (And.intro rfl (And.intro rfl (And.intro rfl (trivial)))) rfl rfl rfl rfl ?_
      refine E_if_ne_t pf_45_78 (by omega) ?_
      refine E_aload pf_45_83 rfl ?_
      refine F_getf pf_45_84 rfl rfl rfl ?_
      refine E_aload pf_45_87 rfl ?_
      refine F_getf pf_45_88 rfl rfl rfl ?_
      refine F_v2u (l' := [(_, _), (_, _), (_, _), (_, _), (_, _), (_, _), (_, _)]) pf_45_91 (h33) (And.intro rfl (And.intro rfl (And.intro rfl (And.intro rfl (And.intro rfl (trivial)))))) rfl rfl rfl rfl ?_
      refine E_iconst pf_45_94 ?_
      exact E_iret pf_45_95 rfl
    · refine E_in (lv := [_, _, _, _]) rfl ?_
      refine E_aload pf_137_0 rfl ?_
      refine F_getf pf_137_1 rfl rfl rfl ?_
      refine E_aload pf_137_4 rfl ?_
      refine F_getf pf_137_5 rfl rfl rfl ?_
      refine E_icmp_ge_f pf_137_8 (by omega) ?_
      refine E_aload pf_137_11 rfl ?_
      refine F_getf pf_137_12 rfl rfl rfl ?_
      refine E_aload pf_137_15 rfl ?_
      refine F_getf pf_137_16 rfl rfl rfl ?_
      refine F_iald pf_137_19 rfl (by omega) ?_
      refine E_goto pf_137_20 ?_
      refine E_istore (lv' := [_, _, _, _]) pf_137_25 rfl rfl ?_
      refine E_aload pf_137_26 rfl ?_
      refine E_iload pf_137_27 rfl ?_
      rw [e2]
      refine E_iconst pf_137_28 ?_
      refine E_icmp_ne_t pf_137_30 (by omega) ?_
      refine E_iload pf_137_37 rfl ?_
      refine E_iconst pf_137_38 ?_
      refine E_icmp_ne_f pf_137_40 (by omega) ?_
      refine E_iconst pf_137_43 ?_
      refine E_goto pf_137_44 ?_
      refine F_putf (l' := [(_, _), (_, _), (_, _), (_, _)]) (x := ob _ [_, _, _, _, _, _, _, _, _, _, _, _, _, _, _, _, _, _, _, _, _, _, _, _, _]) pf_137_79 rfl rfl rfl rfl rfl ?_
      refine E_aload pf_137_82 rfl ?_
      refine F_getf pf_137_83 rfl rfl rfl ?_
      refine E_iconst pf_137_86 ?_
      refine E_icmp_ne_t pf_137_88 (by omega) ?_
      refine E_aload pf_137_93 rfl ?_
      refine E_dup pf_137_94 rfl ?_
      refine F_getf pf_137_95 rfl rfl rfl ?_
      refine E_iconst pf_137_98 ?_
      refine E_iadd pf_137_99 ?_
      refine F_putf (l' := [(_, _), (_, _), (_, _), (_, _)]) (x := ob _ [_, _, _, _, _, _, _, _, _, _, _, _, _, _, _, _, _, _, _, _, _, _, _, _, _]) pf_137_100 rfl rfl rfl rfl rfl ?_
      refine E_aload pf_137_103 rfl ?_
      refine F_getf pf_137_104 rfl rfl rfl ?_
      refine E_iconst pf_137_107 ?_
      refine E_icmp_ne_t pf_137_108 (by omega) ?_
      refine E_aload pf_137_116 rfl ?_
      refine F_getf pf_137_117 rfl rfl rfl ?_
      refine E_iconst pf_137_120 ?_
      refine E_irem pf_137_121 (by omega) ?_
      refine E_iconst pf_137_122 ?_
      refine E_icmp_ne_f pf_137_123 (by omega) ?_
      refine E_iconst pf_137_126 ?_
      refine E_goto pf_137_127 ?_
      refine E_istore (lv' := [_, _, _, _]) pf_137_131 rfl rfl ?_
      refine E_iconst pf_137_132 ?_
      refine E_istore (lv' := [_, _, _, _]) pf_137_133 rfl rfl ?_
      exact c137s1 (n := 0) (P := P) (sz := sz) hT ht (by omega) hd.2 h _ (fun _ => by
          refine E_iload pf_137_194 rfl ?_
          refine E_if_eq_f pf_137_195 (by omega) ?_
          refine E_aload pf_137_198 rfl ?_
          refine E_aload pf_137_199 rfl ?_
          refine F_getf pf_137_200 rfl rfl rfl ?_
          refine F_v2u (l' := [(_, _), (_, _), (_, _), (_, _)]) pf_137_203 (h135) (And.intro rfl (And.intro rfl (And.intro rfl (trivial)))) rfl rfl rfl rfl ?_
          refine E_iconst pf_137_206 ?_
          exact E_iret pf_137_207 rfl) (fun q => absurd g1 q)
  · have hzb : zb (gd T tl 1 dn (p + 1) = dn) = 0 := if_neg (by omega)
    rw [hzb] at h46
    have hf : ∀ j : Int, 0 ≤ j → j < (gd T tl 1 dn (p + 1) : Int) → -9 ≤ T (p + 1 + j) - 48 ∧ T (p + 1 + j) - 48 ≤ 9 := fun j h1 h2 => by
      have := dg_val (g2 j.toNat (by omega))
      rw [show ((j.toNat : Nat) : Int) = j by omega] at this
      omega
    refine ⟨0, p + 1 + (gd T tl 1 dn (p + 1) : Int), 1, 0, C, P, q1, c, g, (zu (zcpy (fun i => T (p + 1 + i) - 48) sz 0 0 (gd T tl 1 dn (p + 1) : Int)) (gd T tl 1 dn (p + 1) : Int) (-9)), .inl rfl, by omega, hC, hP, zu_b9 (by omega) (zcpy_b9i hf hz), by omega, fun q => absurd q (by omega), fun h w2 w3 => ?_, fun h => ?_⟩
    ·
      refine E_aload pf_45_15 rfl ?_
      refine F_v1v (l' := [(_, _), (_, _), (_, _), (_, _), (_, _), (_, _), (_, _)]) pf_45_16 (h44) (And.intro rfl (And.intro rfl (trivial))) rfl rfl rfl rfl ?_
      refine E_istore (lv' := [_, _, _, _]) pf_45_19 rfl rfl ?_
      refine E_aload pf_45_20 rfl ?_
      refine F_getf pf_45_21 rfl rfl rfl ?_
      refine E_iload pf_45_24 rfl ?_
      refine E_iload pf_45_25 rfl ?_
      refine F_v3u (l' := [(_, _), (_, _), (_, _), (_, _), (_, _), (_, _), (_, _)]) pf_45_26 (c26) (And.intro rfl (trivial)) rfl rfl rfl rfl ?_
      refine E_iload pf_45_29 rfl ?_
      refine E_iconst pf_45_30 ?_
      refine E_icmp_ne_t pf_45_32 (by omega) ?_
      refine E_iload pf_45_37 rfl ?_
      refine E_iconst pf_45_38 ?_
      refine E_icmp_ne_t pf_45_39 (by omega) ?_
      refine E_iload pf_45_48 rfl ?_
      refine E_if_eq_f pf_45_49 (by omega) ?_
      refine E_iload pf_45_52 rfl ?_
      refine E_iconst pf_45_53 ?_
      refine E_icmp_ne_t pf_45_54 (by omega) ?_
      refine E_iload pf_45_61 rfl ?_
      refine E_istore (lv' := [_, _, _, _]) pf_45_62 rfl rfl ?_
      refine E_aload pf_45_63 rfl ?_
      refine E_iload pf_45_64 rfl ?_
      refine E_iload pf_45_65 rfl ?_
      refine E_iconst pf_45_66 ?_
      refine E_icmp_ne_t pf_45_67 (by omega) ?_
      refine E_iconst pf_45_74 ?_
      refine F_v3v (l' := [(_, _), (_, _), (_, _), (_, _), (_, _), (_, _), (_, _)]) pf_45_75 (h46) (And.intro rfl (And.intro rfl (And.intro rfl (trivial)))) rfl rfl rfl rfl ?_
      refine E_if_ne_f pf_45_78 (by omega) ?_
      refine E_iconst pf_45_81 ?_
      exact E_iret pf_45_82 rfl
    · refine E_in (lv := [_, _, _, _]) rfl ?_
      refine E_aload pf_137_0 rfl ?_
      refine F_getf pf_137_1 rfl rfl rfl ?_
      refine E_aload pf_137_4 rfl ?_
      refine F_getf pf_137_5 rfl rfl rfl ?_
      refine E_icmp_ge_f pf_137_8 (by omega) ?_
      refine E_aload pf_137_11 rfl ?_
      refine F_getf pf_137_12 rfl rfl rfl ?_
      refine E_aload pf_137_15 rfl ?_
      refine F_getf pf_137_16 rfl rfl rfl ?_
      refine F_iald pf_137_19 rfl (by omega) ?_
      refine E_goto pf_137_20 ?_
      refine E_istore (lv' := [_, _, _, _]) pf_137_25 rfl rfl ?_
      refine E_aload pf_137_26 rfl ?_
      refine E_iload pf_137_27 rfl ?_
      rw [e2]
      refine E_iconst pf_137_28 ?_
      refine E_icmp_ne_t pf_137_30 (by omega) ?_
      refine E_iload pf_137_37 rfl ?_
      refine E_iconst pf_137_38 ?_
      refine E_icmp_ne_f pf_137_40 (by omega) ?_
      refine E_iconst pf_137_43 ?_
      refine E_goto pf_137_44 ?_
      refine F_putf (l' := [(_, _), (_, _), (_, _), (_, _)]) (x := ob _ [_, _, _, _, _, _, _, _, _, _, _, _, _, _, _, _, _, _, _, _, _, _, _, _, _]) pf_137_79 rfl rfl rfl rfl rfl ?_
      refine E_aload pf_137_82 rfl ?_
      refine F_getf pf_137_83 rfl rfl rfl ?_
      refine E_iconst pf_137_86 ?_
      refine E_icmp_ne_t pf_137_88 (by omega) ?_
      refine E_aload pf_137_93 rfl ?_
      refine E_dup pf_137_94 rfl ?_
      refine F_getf pf_137_95 rfl rfl rfl ?_
      refine E_iconst pf_137_98 ?_
      refine E_iadd pf_137_99 ?_
      refine F_putf (l' := [(_, _), (_, _), (_, _), (_, _)]) (x := ob _ [_, _, _, _, _, _, _, _, _, _, _, _, _, _, _, _, _, _, _, _, _, _, _, _, _]) pf_137_100 rfl rfl rfl rfl rfl ?_
      refine E_aload pf_137_103 rfl ?_
      refine F_getf pf_137_104 rfl rfl rfl ?_
      refine E_iconst pf_137_107 ?_
      refine E_icmp_ne_t pf_137_108 (by omega) ?_
      refine E_aload pf_137_116 rfl ?_
      refine F_getf pf_137_117 rfl rfl rfl ?_
      refine E_iconst pf_137_120 ?_
      refine E_irem pf_137_121 (by omega) ?_
      refine E_iconst pf_137_122 ?_
      refine E_icmp_ne_f pf_137_123 (by omega) ?_
      refine E_iconst pf_137_126 ?_
      refine E_goto pf_137_127 ?_
      refine E_istore (lv' := [_, _, _, _]) pf_137_131 rfl rfl ?_
      refine E_iconst pf_137_132 ?_
      refine E_istore (lv' := [_, _, _, _]) pf_137_133 rfl rfl ?_
      exact c137s1 (n := 0) (P := P) (sz := sz) hT ht (by omega) hd.2 h _ (fun q => by omega) (fun _ => rfl)
theorem pol2 (hT : ∀ i, 0 ≤ T i ∧ T i ≤ 255) (ht : tl ≤ 90) (hp : 0 ≤ p ∧ p ≤ tl) (hd : 1 ≤ dn ∧ dn ≤ 4) (hC : (∀ q, -9 ≤ C q ∧ C q ≤ 9)) (hP : (∀ q, -9 ≤ P q ∧ P q ≤ 9)) (hz : (∀ q, -9 ≤ sz q ∧ sz q ≤ 9)) (e1 : p < tl) (e2 : T p = 99) : ∃ (b p' k' : Int) (n' : Nat) (C' P' q' c' g' sz' : Int → Int), (b = 0 ∨ b = 1) ∧ (0 ≤ p' ∧ p' ≤ tl) ∧ (∀ q, -9 ≤ C' q ∧ C' q ≤ 9) ∧ (∀ q, -9 ≤ P' q ∧ P' q ≤ 9) ∧ (∀ q, -9 ≤ sz' q ∧ sz' q ≤ 9) ∧ n' ≤ 24 ∧ (b = 1 → (0 ≤ k' ∧ k' ≤ 4) ∧ ∃ ks' : List Int, kl C' n' = insl [] ks' ∧ kl P' n' = insl [] ks' ∧ ks' ≠ [] ∧ ∀ x ∈ ks', zk dn x) ∧ (∀ (h : pd_H) (w2 w3 : Value), Rn 45 15 [.ref 3, .int (ii (dn : Int)), w2, w3] [] (wd [(2, ar 90 T), (3, oR tl p), (4, ar 4 q), (5, oP5 d0 k0 n0), (6, ar 96 C), (7, ar 4 c), (8, ar 4 g)] h) (.inl (some (.int (ii b))), wd [(2, ar 90 T), (3, oR tl p'), (4, ar 4 q'), (5, oP5 (dn : Int) k' (n' : Int)), (6, ar 96 C'), (7, ar 4 c'), (8, ar 4 g')] h)) ∧ ∀ h, Ca 137 [.ref 102] (wd [(102, oX6 rf tl p d kd vs rw (dn : Int) rk ((0 : Nat) : Int) rr ac), (103, ar 90 T), (105, ar 128 P), (115, ar 4 sz)] h) (.inl (some (.int (ii b))), wd [(102, oX6 rf tl p' d kd vs rw (dn : Int) k' (n' : Int) rr ac), (103, ar 90 T), (105, ar 128 P'), (115, ar 4 sz')] h) := by
  have ekd : kdf T tl p = 2 := by
    unfold kdf
    rw [if_pos e1, e2]
    decide
  have h44 := c44 (T := T) (tl := tl) (p := p) hT ht hp
  rw [ekd, show nxp p 2 = p + 1 from if_neg (by decide)] at h44
  have hpe := gd_end (T := T) (tl := tl) (lo := 1) (n := 1) (p := p + 1) (by omega)
  obtain ⟨q1, hq1, h46⟩ := c46 (T := T) (q := q) (tl := tl) (p := p + 1) (n := 1) (lo := 1) hT ht (by omega) (by omega) (by omega)
  have hTp := hT p
  rcases gd_split (T := T) (tl := tl) (lo := 1) (n := 1) (p := p + 1) with ⟨g1, g2⟩ | ⟨g1, g2, g3⟩
  · have hq1 := hq1 g1
    have hf : ∀ j : Int, 0 ≤ j → j < ((1 : Nat) : Int) → 0 ≤ T (p + 1 + j) - 48 ∧ T (p + 1 + j) - 48 ≤ 9 := fun j h1 h2 => by
      have := dg_val (g2 j.toNat (by omega))
      rw [show ((j.toNat : Nat) : Int) = j by omega] at this
      omega
    have hq9 : ∀ i : Int, 0 ≤ i → i < 4 → 0 ≤ q1 i ∧ q1 i ≤ 9 := fun j h1 h2 => by
      rw [hq1 j h1 h2]; unfold nmf
      split
      · exact hf j h1 (by omega)
      · omega
    have hzb : zb (gd T tl 1 1 (p + 1) = 1) = 1 := if_pos g1
    rw [hzb, g1] at h46
    have hs9 := zcpy_b9i (f := (fun i => T (p + 1 + i) - 48)) (g := sz) (dp := 0) (n := ((1 : Nat) : Int)) (fun j h1 h2 => by have := hf j h1 h2; omega) hz
    have hsz : ∀ j : Int, 0 ≤ j → j < ((1 : Nat) : Int) → q1 j = (zcpy (fun i => T (p + 1 + i) - 48) sz 0 0 ((1 : Nat) : Int)) j := fun j h1 h2 => by
      rw [hq1 j h1 (by omega), zcpy_at (by omega)]; unfold nmf
      rw [if_pos h2]
      show T (p + 1 + j) - 48 = T (p + 1 + (0 + (j - 0))) - 48
      congr 2; omega
    obtain ⟨n1, C1, c1, y1, a1, a2, a3, h33⟩ := c33 (dn := dn) (k := 2) (C := C) (c := c) (g := g) (sz := q1) hq9 hd hC (by omega)
    have ebk : bks 2 q1 dn = bks 2 (zcpy (fun i => T (p + 1 + i) - 48) sz 0 0 ((1 : Nat) : Int)) dn := bks_congr (by omega) (hsz 0 (by omega) (by omega)) (fun e j h1 h2 => by omega)
    have hf0 := hf 0 (by omega) (by omega)
    have e0 : (zcpy (fun i => T (p + 1 + i) - 48) sz 0 0 ((1 : Nat) : Int)) 0 = T (p + 1 + 0) - 48 := by rw [zcpy_at (by omega)]; rfl
    obtain ⟨n2, P1, b1, b2, b3, b4⟩ := c137a2 (rf := rf) (d := d) (kd := kd) (vs := vs) (rw := rw) (rr := rr) (ac := ac) (T := T) (tl := tl) (p := p + 1 + ((1 : Nat) : Int)) (sz := (zcpy (fun i => T (p + 1 + i) - 48) sz 0 0 ((1 : Nat) : Int))) (w1 := .int (ii 99)) (by omega) e0 hd.2 dn 0 0 P (by omega) hP rfl
    have eb : insl [] (bks 2 q1 dn) = kl P1 n2 := by rw [ebk, b2, ← e0]; rfl
    have en : n2 = n1 := by
      have h1 := congrArg List.length (a2.trans eb)
      rw [kl_len, kl_len] at h1
      exact h1.symm
    subst en
    refine ⟨1, p + 1 + ((1 : Nat) : Int), 2, n2, C1, P1, q1, c1, y1, (zcpy (fun i => T (p + 1 + i) - 48) sz 0 0 ((1 : Nat) : Int)), .inr rfl, by omega, a1, b1, hs9, by omega, fun _ => ⟨by omega, bks 2 q1 dn, a2, eb.symm, bks_ne hd (by omega), bks_zk hq9 hd (by omega)⟩, fun h w2 w3 => ?_, fun h => ?_⟩
    ·
      refine E_aload pf_45_15 rfl ?_
      refine F_v1v (l' := [(_, _), (_, _), (_, _), (_, _), (_, _), (_, _), (_, _)]) pf_45_16 (h44) (And.intro rfl (And.intro rfl (trivial))) rfl rfl rfl rfl ?_
      refine E_istore (lv' := [_, _, _, _]) pf_45_19 rfl rfl ?_
      refine E_aload pf_45_20 rfl ?_
      refine F_getf pf_45_21 rfl rfl rfl ?_
      refine E_iload pf_45_24 rfl ?_
      refine E_iload pf_45_25 rfl ?_
      refine F_v3u (l' := [(_, _), (_, _), (_, _), (_, _), (_, _), (_, _), (_, _)]) pf_45_26 (c26) (And.intro rfl (trivial)) rfl rfl rfl rfl ?_
      refine E_iload pf_45_29 rfl ?_
      refine E_iconst pf_45_30 ?_
      refine E_icmp_ne_t pf_45_32 (by omega) ?_
      refine E_iload pf_45_37 rfl ?_
      refine E_iconst pf_45_38 ?_
      refine E_icmp_ne_t pf_45_39 (by omega) ?_
      refine E_iload pf_45_48 rfl ?_
      refine E_if_eq_f pf_45_49 (by omega) ?_
      refine E_iload pf_45_52 rfl ?_
      refine E_iconst pf_45_53 ?_
      refine E_icmp_ne_f pf_45_54 (by omega) ?_
      refine E_iconst pf_45_57 ?_
      refine E_goto pf_45_58 ?_
      refine E_istore (lv' := [_, _, _, _]) pf_45_62 rfl rfl ?_
      refine E_aload pf_45_63 rfl ?_
      refine E_iload pf_45_64 rfl ?_
      refine E_iload pf_45_65 rfl ?_
      refine E_iconst pf_45_66 ?_
      refine E_icmp_ne_t pf_45_67 (by omega) ?_
      refine E_iconst pf_45_74 ?_
      refine F_v3v (l' := [(_, _), (_, _), (_, _), (_, _), (_, _), (_, _), (_, _)]) pf_45_75 (h46) (And.intro rfl (And.intro rfl (And.intro rfl (trivial)))) rfl rfl rfl rfl ?_
      refine E_if_ne_t pf_45_78 (by omega) ?_
      refine E_aload pf_45_83 rfl ?_
      refine F_getf pf_45_84 rfl rfl rfl ?_
      refine E_aload pf_45_87 rfl ?_
      refine F_getf pf_45_88 rfl rfl rfl ?_
      refine F_v2u (l' := [(_, _), (_, _), (_, _), (_, _), (_, _), (_, _), (_, _)]) pf_45_91 (h33) (And.intro rfl (And.intro rfl (And.intro rfl (And.intro rfl (And.intro rfl (trivial)))))) rfl rfl rfl rfl ?_
      refine E_iconst pf_45_94 ?_
      exact E_iret pf_45_95 rfl
    · refine E_in (lv := [_, _, _, _]) rfl ?_
      refine E_aload pf_137_0 rfl ?_
      refine F_getf pf_137_1 rfl rfl rfl ?_
      refine E_aload pf_137_4 rfl ?_
      refine F_getf pf_137_5 rfl rfl rfl ?_
      refine E_icmp_ge_f pf_137_8 (by omega) ?_
      refine E_aload pf_137_11 rfl ?_
      refine F_getf pf_137_12 rfl rfl rfl ?_
      refine E_aload pf_137_15 rfl ?_
      refine F_getf pf_137_16 rfl rfl rfl ?_
      refine F_iald pf_137_19 rfl (by omega) ?_
      refine E_goto pf_137_20 ?_
      refine E_istore (lv' := [_, _, _, _]) pf_137_25 rfl rfl ?_
      refine E_aload pf_137_26 rfl ?_
      refine E_iload pf_137_27 rfl ?_
      rw [e2]
      refine E_iconst pf_137_28 ?_
      refine E_icmp_ne_t pf_137_30 (by omega) ?_
      refine E_iload pf_137_37 rfl ?_
      refine E_iconst pf_137_38 ?_
      refine E_icmp_ne_t pf_137_40 (by omega) ?_
      refine E_iload pf_137_47 rfl ?_
      refine E_iconst pf_137_48 ?_
      refine E_icmp_ne_f pf_137_50 (by omega) ?_
      refine E_iconst pf_137_53 ?_
      refine E_goto pf_137_54 ?_
      refine F_putf (l' := [(_, _), (_, _), (_, _), (_, _)]) (x := ob _ [_, _, _, _, _, _, _, _, _, _, _, _, _, _, _, _, _, _, _, _, _, _, _, _, _]) pf_137_79 rfl rfl rfl rfl rfl ?_
      refine E_aload pf_137_82 rfl ?_
      refine F_getf pf_137_83 rfl rfl rfl ?_
      refine E_iconst pf_137_86 ?_
      refine E_icmp_ne_t pf_137_88 (by omega) ?_
      refine E_aload pf_137_93 rfl ?_
      refine E_dup pf_137_94 rfl ?_
      refine F_getf pf_137_95 rfl rfl rfl ?_
      refine E_iconst pf_137_98 ?_
      refine E_iadd pf_137_99 ?_
      refine F_putf (l' := [(_, _), (_, _), (_, _), (_, _)]) (x := ob _ [_, _, _, _, _, _, _, _, _, _, _, _, _, _, _, _, _, _, _, _, _, _, _, _, _]) pf_137_100 rfl rfl rfl rfl rfl ?_
      refine E_aload pf_137_103 rfl ?_
      refine F_getf pf_137_104 rfl rfl rfl ?_
      refine E_iconst pf_137_107 ?_
      refine E_icmp_ne_t pf_137_108 (by omega) ?_
      refine E_aload pf_137_116 rfl ?_
      refine F_getf pf_137_117 rfl rfl rfl ?_
      refine E_iconst pf_137_120 ?_
      refine E_irem pf_137_121 (by omega) ?_
      refine E_iconst pf_137_122 ?_
      refine E_icmp_ne_t pf_137_123 (by omega) ?_
      refine E_iconst pf_137_130 ?_
      refine E_istore (lv' := [_, _, _, _]) pf_137_131 rfl rfl ?_
      refine E_iconst pf_137_132 ?_
      refine E_istore (lv' := [_, _, _, _]) pf_137_133 rfl rfl ?_
      exact c137s2 (n := 0) (P := P) (sz := sz) hT ht (by omega) hd.2 h _ (fun _ => by
          refine E_iload pf_137_194 rfl ?_
          refine E_if_eq_t pf_137_195 (by omega) ?_
          refine E_aload pf_137_208 rfl ?_
          refine F_getf pf_137_209 rfl rfl rfl ?_
          refine E_if_ne_t pf_137_212 (by omega) ?_
          refine E_iconst pf_137_222 ?_
          refine E_istore (lv' := [_, _, _, _]) pf_137_223 rfl rfl ?_
          exact b4 h) (fun q => absurd g1 q)
  · have hzb : zb (gd T tl 1 1 (p + 1) = 1) = 0 := if_neg (by omega)
    rw [hzb] at h46
    have hf : ∀ j : Int, 0 ≤ j → j < (gd T tl 1 1 (p + 1) : Int) → -9 ≤ T (p + 1 + j) - 48 ∧ T (p + 1 + j) - 48 ≤ 9 := fun j h1 h2 => by
      have := dg_val (g2 j.toNat (by omega))
      rw [show ((j.toNat : Nat) : Int) = j by omega] at this
      omega
    refine ⟨0, p + 1 + (gd T tl 1 1 (p + 1) : Int), 2, 0, C, P, q1, c, g, (zu (zcpy (fun i => T (p + 1 + i) - 48) sz 0 0 (gd T tl 1 1 (p + 1) : Int)) (gd T tl 1 1 (p + 1) : Int) (-9)), .inl rfl, by omega, hC, hP, zu_b9 (by omega) (zcpy_b9i hf hz), by omega, fun q => absurd q (by omega), fun h w2 w3 => ?_, fun h => ?_⟩
    ·
      refine E_aload pf_45_15 rfl ?_
      refine F_v1v (l' := [(_, _), (_, _), (_, _), (_, _), (_, _), (_, _), (_, _)]) pf_45_16 (h44) (And.intro rfl (And.intro rfl (trivial))) rfl rfl rfl rfl ?_
      refine E_istore (lv' := [_, _, _, _]) pf_45_19 rfl rfl ?_
      refine E_aload pf_45_20 rfl ?_
      refine F_getf pf_45_21 rfl rfl rfl ?_
      refine E_iload pf_45_24 rfl ?_
      refine E_iload pf_45_25 rfl ?_
      refine F_v3u (l' := [(_, _), (_, _), (_, _), (_, _), (_, _), (_, _), (_, _)]) pf_45_26 (c26) (And.intro rfl (trivial)) rfl rfl rfl rfl ?_
      refine E_iload pf_45_29 rfl ?_
      refine E_iconst pf_45_30 ?_
      refine E_icmp_ne_t pf_45_32 (by omega) ?_
      refine E_iload pf_45_37 rfl ?_
      refine E_iconst pf_45_38 ?_
      refine E_icmp_ne_t pf_45_39 (by omega) ?_
      refine E_iload pf_45_48 rfl ?_
      refine E_if_eq_f pf_45_49 (by omega) ?_
      refine E_iload pf_45_52 rfl ?_
      refine E_iconst pf_45_53 ?_
      refine E_icmp_ne_f pf_45_54 (by omega) ?_
      refine E_iconst pf_45_57 ?_
      refine E_goto pf_45_58 ?_
      refine E_istore (lv' := [_, _, _, _]) pf_45_62 rfl rfl ?_
      refine E_aload pf_45_63 rfl ?_
      refine E_iload pf_45_64 rfl ?_
      refine E_iload pf_45_65 rfl ?_
      refine E_iconst pf_45_66 ?_
      refine E_icmp_ne_t pf_45_67 (by omega) ?_
      refine E_iconst pf_45_74 ?_
      refine F_v3v (l' := [(_, _), (_, _), (_, _), (_, _), (_, _), (_, _), (_, _)]) pf_45_75 (h46) (And.intro rfl (And.intro rfl (And.intro rfl (trivial)))) rfl rfl rfl rfl ?_
      refine E_if_ne_f pf_45_78 (by omega) ?_
      refine E_iconst pf_45_81 ?_
      exact E_iret pf_45_82 rfl
    · refine E_in (lv := [_, _, _, _]) rfl ?_
      refine E_aload pf_137_0 rfl ?_
      refine F_getf pf_137_1 rfl rfl rfl ?_
      refine E_aload pf_137_4 rfl ?_
      refine F_getf pf_137_5 rfl rfl rfl ?_
      refine E_icmp_ge_f pf_137_8 (by omega) ?_
      refine E_aload pf_137_11 rfl ?_
      refine F_getf pf_137_12 rfl rfl rfl ?_
      refine E_aload pf_137_15 rfl ?_
      refine F_getf pf_137_16 rfl rfl rfl ?_
      refine F_iald pf_137_19 rfl (by omega) ?_
      refine E_goto pf_137_20 ?_
      refine E_istore (lv' := [_, _, _, _]) pf_137_25 rfl rfl ?_
      refine E_aload pf_137_26 rfl ?_
      refine E_iload pf_137_27 rfl ?_
      rw [e2]
      refine E_iconst pf_137_28 ?_
      refine E_icmp_ne_t pf_137_30 (by omega) ?_
      refine E_iload pf_137_37 rfl ?_
      refine E_iconst pf_137_38 ?_
      refine E_icmp_ne_t pf_137_40 (by omega) ?_
      refine E_iload pf_137_47 rfl ?_
      refine E_iconst pf_137_48 ?_
      refine E_icmp_ne_f pf_137_50 (by omega) ?_
      refine E_iconst pf_137_53 ?_
      refine E_goto pf_137_54 ?_
      refine F_putf (l' := [(_, _), (_, _), (_, _), (_, _)]) (x := ob _ [_, _, _, _, _, _, _, _, _, _, _, _, _, _, _, _, _, _, _, _, _, _, _, _, _]) pf_137_79 rfl rfl rfl rfl rfl ?_
      refine E_aload pf_137_82 rfl ?_
      refine F_getf pf_137_83 rfl rfl rfl ?_
      refine E_iconst pf_137_86 ?_
      refine E_icmp_ne_t pf_137_88 (by omega) ?_
      refine E_aload pf_137_93 rfl ?_
      refine E_dup pf_137_94 rfl ?_
      refine F_getf pf_137_95 rfl rfl rfl ?_
      refine E_iconst pf_137_98 ?_
      refine E_iadd pf_137_99 ?_
      refine F_putf (l' := [(_, _), (_, _), (_, _), (_, _)]) (x := ob _ [_, _, _, _, _, _, _, _, _, _, _, _, _, _, _, _, _, _, _, _, _, _, _, _, _]) pf_137_100 rfl rfl rfl rfl rfl ?_
      refine E_aload pf_137_103 rfl ?_
      refine F_getf pf_137_104 rfl rfl rfl ?_
      refine E_iconst pf_137_107 ?_
      refine E_icmp_ne_t pf_137_108 (by omega) ?_
      refine E_aload pf_137_116 rfl ?_
      refine F_getf pf_137_117 rfl rfl rfl ?_
      refine E_iconst pf_137_120 ?_
      refine E_irem pf_137_121 (by omega) ?_
      refine E_iconst pf_137_122 ?_
      refine E_icmp_ne_t pf_137_123 (by omega) ?_
      refine E_iconst pf_137_130 ?_
      refine E_istore (lv' := [_, _, _, _]) pf_137_131 rfl rfl ?_
      refine E_iconst pf_137_132 ?_
      refine E_istore (lv' := [_, _, _, _]) pf_137_133 rfl rfl ?_
      exact c137s2 (n := 0) (P := P) (sz := sz) hT ht (by omega) hd.2 h _ (fun q => by omega) (fun _ => rfl)
theorem pol3 (hT : ∀ i, 0 ≤ T i ∧ T i ≤ 255) (ht : tl ≤ 90) (hp : 0 ≤ p ∧ p ≤ tl) (hd : 1 ≤ dn ∧ dn ≤ 4) (hC : (∀ q, -9 ≤ C q ∧ C q ≤ 9)) (hP : (∀ q, -9 ≤ P q ∧ P q ≤ 9)) (hz : (∀ q, -9 ≤ sz q ∧ sz q ≤ 9)) (e1 : p < tl) (e2 : T p = 112) : ∃ (b p' k' : Int) (n' : Nat) (C' P' q' c' g' sz' : Int → Int), (b = 0 ∨ b = 1) ∧ (0 ≤ p' ∧ p' ≤ tl) ∧ (∀ q, -9 ≤ C' q ∧ C' q ≤ 9) ∧ (∀ q, -9 ≤ P' q ∧ P' q ≤ 9) ∧ (∀ q, -9 ≤ sz' q ∧ sz' q ≤ 9) ∧ n' ≤ 24 ∧ (b = 1 → (0 ≤ k' ∧ k' ≤ 4) ∧ ∃ ks' : List Int, kl C' n' = insl [] ks' ∧ kl P' n' = insl [] ks' ∧ ks' ≠ [] ∧ ∀ x ∈ ks', zk dn x) ∧ (∀ (h : pd_H) (w2 w3 : Value), Rn 45 15 [.ref 3, .int (ii (dn : Int)), w2, w3] [] (wd [(2, ar 90 T), (3, oR tl p), (4, ar 4 q), (5, oP5 d0 k0 n0), (6, ar 96 C), (7, ar 4 c), (8, ar 4 g)] h) (.inl (some (.int (ii b))), wd [(2, ar 90 T), (3, oR tl p'), (4, ar 4 q'), (5, oP5 (dn : Int) k' (n' : Int)), (6, ar 96 C'), (7, ar 4 c'), (8, ar 4 g')] h)) ∧ ∀ h, Ca 137 [.ref 102] (wd [(102, oX6 rf tl p d kd vs rw (dn : Int) rk ((0 : Nat) : Int) rr ac), (103, ar 90 T), (105, ar 128 P), (115, ar 4 sz)] h) (.inl (some (.int (ii b))), wd [(102, oX6 rf tl p' d kd vs rw (dn : Int) k' (n' : Int) rr ac), (103, ar 90 T), (105, ar 128 P'), (115, ar 4 sz')] h) := by
  have ekd : kdf T tl p = 3 := by
    unfold kdf
    rw [if_pos e1, e2]
    decide
  have h44 := c44 (T := T) (tl := tl) (p := p) hT ht hp
  rw [ekd, show nxp p 3 = p + 1 from if_neg (by decide)] at h44
  have hpe := gd_end (T := T) (tl := tl) (lo := 0) (n := dn) (p := p + 1) (by omega)
  obtain ⟨q1, hq1, h46⟩ := c46 (T := T) (q := q) (tl := tl) (p := p + 1) (n := dn) (lo := 0) hT ht (by omega) (by omega) (by omega)
  have hTp := hT p
  rcases gd_split (T := T) (tl := tl) (lo := 0) (n := dn) (p := p + 1) with ⟨g1, g2⟩ | ⟨g1, g2, g3⟩
  · have hq1 := hq1 g1
    have hf : ∀ j : Int, 0 ≤ j → j < ((dn : Nat) : Int) → 0 ≤ T (p + 1 + j) - 48 ∧ T (p + 1 + j) - 48 ≤ 9 := fun j h1 h2 => by
      have := dg_val (g2 j.toNat (by omega))
      rw [show ((j.toNat : Nat) : Int) = j by omega] at this
      omega
    have hq9 : ∀ i : Int, 0 ≤ i → i < 4 → 0 ≤ q1 i ∧ q1 i ≤ 9 := fun j h1 h2 => by
      rw [hq1 j h1 h2]; unfold nmf
      split
      · exact hf j h1 (by omega)
      · omega
    have hzb : zb (gd T tl 0 dn (p + 1) = dn) = 1 := if_pos g1
    rw [hzb, g1] at h46
    have hs9 := zcpy_b9i (f := (fun i => T (p + 1 + i) - 48)) (g := sz) (dp := 0) (n := ((dn : Nat) : Int)) (fun j h1 h2 => by have := hf j h1 h2; omega) hz
    have hsz : ∀ j : Int, 0 ≤ j → j < ((dn : Nat) : Int) → q1 j = (zcpy (fun i => T (p + 1 + i) - 48) sz 0 0 ((dn : Nat) : Int)) j := fun j h1 h2 => by
      rw [hq1 j h1 (by omega), zcpy_at (by omega)]; unfold nmf
      rw [if_pos h2]
      show T (p + 1 + j) - 48 = T (p + 1 + (0 + (j - 0))) - 48
      congr 2; omega
    obtain ⟨n1, C1, c1, y1, a1, a2, a3, h33⟩ := c33 (dn := dn) (k := 3) (C := C) (c := c) (g := g) (sz := q1) hq9 hd hC (by omega)
    have ebk : bks 3 q1 dn = bks 3 (zcpy (fun i => T (p + 1 + i) - 48) sz 0 0 ((dn : Nat) : Int)) dn := bks_congr (by omega) (hsz 0 (by omega) (by omega)) (fun e j h1 h2 => hsz j h1 h2)
    obtain ⟨n2, P1, b1, b2, b3, h135⟩ := c135o (rf := rf) (ts := tl) (d := d) (kd := kd) (vs := vs) (rw := rw) (rr := rr) (ac := ac) (sp := p + 1 + ((dn : Nat) : Int)) (dn := dn) (P := P) (sz := (zcpy (fun i => T (p + 1 + i) - 48) sz 0 0 ((dn : Nat) : Int))) hs9 hd hP
    have eb : insl [] (bks 3 q1 dn) = kl P1 n2 := by rw [ebk, b2]; rfl
    have en : n2 = n1 := by
      have h1 := congrArg List.length (a2.trans eb)
      rw [kl_len, kl_len] at h1
      exact h1.symm
    subst en
    refine ⟨1, p + 1 + ((dn : Nat) : Int), 3, n2, C1, P1, q1, c1, y1, (zcpy (fun i => T (p + 1 + i) - 48) sz 0 0 ((dn : Nat) : Int)), .inr rfl, by omega, a1, b1, hs9, by omega, fun _ => ⟨by omega, bks 3 q1 dn, a2, eb.symm, bks_ne hd (by omega), bks_zk hq9 hd (by omega)⟩, fun h w2 w3 => ?_, fun h => ?_⟩
    ·
      refine E_aload pf_45_15 rfl ?_
      refine F_v1v (l' := [(_, _), (_, _), (_, _), (_, _), (_, _), (_, _), (_, _)]) pf_45_16 (h44) (And.intro rfl (And.intro rfl (trivial))) rfl rfl rfl rfl ?_
      refine E_istore (lv' := [_, _, _, _]) pf_45_19 rfl rfl ?_
      refine E_aload pf_45_20 rfl ?_
      refine F_getf pf_45_21 rfl rfl rfl ?_
      refine E_iload pf_45_24 rfl ?_
      refine E_iload pf_45_25 rfl ?_
      refine F_v3u (l' := [(_, _), (_, _), (_, _), (_, _), (_, _), (_, _), (_, _)]) pf_45_26 (c26) (And.intro rfl (trivial)) rfl rfl rfl rfl ?_
      refine E_iload pf_45_29 rfl ?_
      refine E_iconst pf_45_30 ?_
      refine E_icmp_ne_t pf_45_32 (by omega) ?_
      refine E_iload pf_45_37 rfl ?_
      refine E_iconst pf_45_38 ?_
      refine E_icmp_ne_t pf_45_39 (by omega) ?_
      refine E_iload pf_45_48 rfl ?_
      refine E_if_eq_f pf_45_49 (by omega) ?_
      refine E_iload pf_45_52 rfl ?_
      refine E_iconst pf_45_53 ?_
      refine E_icmp_ne_t pf_45_54 (by omega) ?_
      refine E_iload pf_45_61 rfl ?_
      refine E_istore (lv' := [_, _, _, _]) pf_45_62 rfl rfl ?_
      refine E_aload pf_45_63 rfl ?_
      refine E_iload pf_45_64 rfl ?_
      refine E_iload pf_45_65 rfl ?_
      refine E_iconst pf_45_66 ?_
      refine E_icmp_ne_f pf_45_67 (by omega) ?_
      refine E_iconst pf_45_70 ?_
      refine E_goto pf_45_71 ?_
      refine F_v3v (l' := [(_, _), (_, _), (_, _), (_, _), (_, _), (_, _), (_, _)]) pf_45_75 (h46) (And.intro rfl (And.intro rfl (And.intro rfl (trivial)))) rfl rfl rfl rfl ?_
      refine E_if_ne_t pf_45_78 (by omega) ?_
      refine E_aload pf_45_83 rfl ?_
      refine F_getf pf_45_84 rfl rfl rfl ?_
      refine E_aload pf_45_87 rfl ?_
      refine F_getf pf_45_88 rfl rfl rfl ?_
      refine F_v2u (l' := [(_, _), (_, _), (_, _), (_, _), (_, _), (_, _), (_, _)]) pf_45_91 (h33) (And.intro rfl (And.intro rfl (And.intro rfl (And.intro rfl (And.intro rfl (trivial)))))) rfl rfl rfl rfl ?_
      refine E_iconst pf_45_94 ?_
      exact E_iret pf_45_95 rfl
    · refine E_in (lv := [_, _, _, _]) rfl ?_
      refine E_aload pf_137_0 rfl ?_
      refine F_getf pf_137_1 rfl rfl rfl ?_
      refine E_aload pf_137_4 rfl ?_
      refine F_getf pf_137_5 rfl rfl rfl ?_
      refine E_icmp_ge_f pf_137_8 (by omega) ?_
      refine E_aload pf_137_11 rfl ?_
      refine F_getf pf_137_12 rfl rfl rfl ?_
      refine E_aload pf_137_15 rfl ?_
      refine F_getf pf_137_16 rfl rfl rfl ?_
      refine F_iald pf_137_19 rfl (by omega) ?_
      refine E_goto pf_137_20 ?_
      refine E_istore (lv' := [_, _, _, _]) pf_137_25 rfl rfl ?_
      refine E_aload pf_137_26 rfl ?_
      refine E_iload pf_137_27 rfl ?_
      rw [e2]
      refine E_iconst pf_137_28 ?_
      refine E_icmp_ne_t pf_137_30 (by omega) ?_
      refine E_iload pf_137_37 rfl ?_
      refine E_iconst pf_137_38 ?_
      refine E_icmp_ne_t pf_137_40 (by omega) ?_
      refine E_iload pf_137_47 rfl ?_
      refine E_iconst pf_137_48 ?_
      refine E_icmp_ne_t pf_137_50 (by omega) ?_
      refine E_iload pf_137_57 rfl ?_
      refine E_iconst pf_137_58 ?_
      refine E_icmp_ne_f pf_137_60 (by omega) ?_
      refine E_iconst pf_137_63 ?_
      refine E_goto pf_137_64 ?_
      refine F_putf (l' := [(_, _), (_, _), (_, _), (_, _)]) (x := ob _ [_, _, _, _, _, _, _, _, _, _, _, _, _, _, _, _, _, _, _, _, _, _, _, _, _]) pf_137_79 rfl rfl rfl rfl rfl ?_
      refine E_aload pf_137_82 rfl ?_
      refine F_getf pf_137_83 rfl rfl rfl ?_
      refine E_iconst pf_137_86 ?_
      refine E_icmp_ne_t pf_137_88 (by omega) ?_
      refine E_aload pf_137_93 rfl ?_
      refine E_dup pf_137_94 rfl ?_
      refine F_getf pf_137_95 rfl rfl rfl ?_
      refine E_iconst pf_137_98 ?_
      refine E_iadd pf_137_99 ?_
      refine F_putf (l' := [(_, _), (_, _), (_, _), (_, _)]) (x := ob _ [_, _, _, _, _, _, _, _, _, _, _, _, _, _, _, _, _, _, _, _, _, _, _, _, _]) pf_137_100 rfl rfl rfl rfl rfl ?_
      refine E_aload pf_137_103 rfl ?_
      refine F_getf pf_137_104 rfl rfl rfl ?_
      refine E_iconst pf_137_107 ?_
      refine E_icmp_ne_t pf_137_108 (by omega) ?_
      refine E_aload pf_137_116 rfl ?_
      refine F_getf pf_137_117 rfl rfl rfl ?_
      refine E_iconst pf_137_120 ?_
      refine E_irem pf_137_121 (by omega) ?_
      refine E_iconst pf_137_122 ?_
      refine E_icmp_ne_f pf_137_123 (by omega) ?_
      refine E_iconst pf_137_126 ?_
      refine E_goto pf_137_127 ?_
      refine E_istore (lv' := [_, _, _, _]) pf_137_131 rfl rfl ?_
      refine E_iconst pf_137_132 ?_
      refine E_istore (lv' := [_, _, _, _]) pf_137_133 rfl rfl ?_
      exact c137s3 (n := 0) (P := P) (sz := sz) hT ht (by omega) hd.2 h _ (fun _ => by
          refine E_iload pf_137_194 rfl ?_
          refine E_if_eq_f pf_137_195 (by omega) ?_
          refine E_aload pf_137_198 rfl ?_
          refine E_aload pf_137_199 rfl ?_
          refine F_getf pf_137_200 rfl rfl rfl ?_
          refine F_v2u (l' := [(_, _), (_, _), (_, _), (_, _)]) pf_137_203 (h135) (And.intro rfl (And.intro rfl (And.intro rfl (trivial)))) rfl rfl rfl rfl ?_
          refine E_iconst pf_137_206 ?_
          exact E_iret pf_137_207 rfl) (fun q => absurd g1 q)
  · have hzb : zb (gd T tl 0 dn (p + 1) = dn) = 0 := if_neg (by omega)
    rw [hzb] at h46
    have hf : ∀ j : Int, 0 ≤ j → j < (gd T tl 0 dn (p + 1) : Int) → -9 ≤ T (p + 1 + j) - 48 ∧ T (p + 1 + j) - 48 ≤ 9 := fun j h1 h2 => by
      have := dg_val (g2 j.toNat (by omega))
      rw [show ((j.toNat : Nat) : Int) = j by omega] at this
      omega
    refine ⟨0, p + 1 + (gd T tl 0 dn (p + 1) : Int), 3, 0, C, P, q1, c, g, (zu (zcpy (fun i => T (p + 1 + i) - 48) sz 0 0 (gd T tl 0 dn (p + 1) : Int)) (gd T tl 0 dn (p + 1) : Int) (-9)), .inl rfl, by omega, hC, hP, zu_b9 (by omega) (zcpy_b9i hf hz), by omega, fun q => absurd q (by omega), fun h w2 w3 => ?_, fun h => ?_⟩
    ·
      refine E_aload pf_45_15 rfl ?_
      refine F_v1v (l' := [(_, _), (_, _), (_, _), (_, _), (_, _), (_, _), (_, _)]) pf_45_16 (h44) (And.intro rfl (And.intro rfl (trivial))) rfl rfl rfl rfl ?_
      refine E_istore (lv' := [_, _, _, _]) pf_45_19 rfl rfl ?_
      refine E_aload pf_45_20 rfl ?_
      refine F_getf pf_45_21 rfl rfl rfl ?_
      refine E_iload pf_45_24 rfl ?_
      refine E_iload pf_45_25 rfl ?_
      refine F_v3u (l' := [(_, _), (_, _), (_, _), (_, _), (_, _), (_, _), (_, _)]) pf_45_26 (c26) (And.intro rfl (trivial)) rfl rfl rfl rfl ?_
      refine E_iload pf_45_29 rfl ?_
      refine E_iconst pf_45_30 ?_
      refine E_icmp_ne_t pf_45_32 (by omega) ?_
      refine E_iload pf_45_37 rfl ?_
      refine E_iconst pf_45_38 ?_
      refine E_icmp_ne_t pf_45_39 (by omega) ?_
      refine E_iload pf_45_48 rfl ?_
      refine E_if_eq_f pf_45_49 (by omega) ?_
      refine E_iload pf_45_52 rfl ?_
      refine E_iconst pf_45_53 ?_
      refine E_icmp_ne_t pf_45_54 (by omega) ?_
      refine E_iload pf_45_61 rfl ?_
      refine E_istore (lv' := [_, _, _, _]) pf_45_62 rfl rfl ?_
      refine E_aload pf_45_63 rfl ?_
      refine E_iload pf_45_64 rfl ?_
      refine E_iload pf_45_65 rfl ?_
      refine E_iconst pf_45_66 ?_
      refine E_icmp_ne_f pf_45_67 (by omega) ?_
      refine E_iconst pf_45_70 ?_
      refine E_goto pf_45_71 ?_
      refine F_v3v (l' := [(_, _), (_, _), (_, _), (_, _), (_, _), (_, _), (_, _)]) pf_45_75 (h46) (And.intro rfl (And.intro rfl (And.intro rfl (trivial)))) rfl rfl rfl rfl ?_
      refine E_if_ne_f pf_45_78 (by omega) ?_
      refine E_iconst pf_45_81 ?_
      exact E_iret pf_45_82 rfl
    · refine E_in (lv := [_, _, _, _]) rfl ?_
      refine E_aload pf_137_0 rfl ?_
      refine F_getf pf_137_1 rfl rfl rfl ?_
      refine E_aload pf_137_4 rfl ?_
      refine F_getf pf_137_5 rfl rfl rfl ?_
      refine E_icmp_ge_f pf_137_8 (by omega) ?_
      refine E_aload pf_137_11 rfl ?_
      refine F_getf pf_137_12 rfl rfl rfl ?_
      refine E_aload pf_137_15 rfl ?_
      refine F_getf pf_137_16 rfl rfl rfl ?_
      refine F_iald pf_137_19 rfl (by omega) ?_
      refine E_goto pf_137_20 ?_
      refine E_istore (lv' := [_, _, _, _]) pf_137_25 rfl rfl ?_
      refine E_aload pf_137_26 rfl ?_
      refine E_iload pf_137_27 rfl ?_
      rw [e2]
      refine E_iconst pf_137_28 ?_
      refine E_icmp_ne_t pf_137_30 (by omega) ?_
      refine E_iload pf_137_37 rfl ?_
      refine E_iconst pf_137_38 ?_
      refine E_icmp_ne_t pf_137_40 (by omega) ?_
      refine E_iload pf_137_47 rfl ?_
      refine E_iconst pf_137_48 ?_
      refine E_icmp_ne_t pf_137_50 (by omega) ?_
      refine E_iload pf_137_57 rfl ?_
      refine E_iconst pf_137_58 ?_
      refine E_icmp_ne_f pf_137_60 (by omega) ?_
      refine E_iconst pf_137_63 ?_
      refine E_goto pf_137_64 ?_
      refine F_putf (l' := [(_, _), (_, _), (_, _), (_, _)]) (x := ob _ [_, _, _, _, _, _, _, _, _, _, _, _, _, _, _, _, _, _, _, _, _, _, _, _, _]) pf_137_79 rfl rfl rfl rfl rfl ?_
      refine E_aload pf_137_82 rfl ?_
      refine F_getf pf_137_83 rfl rfl rfl ?_
      refine E_iconst pf_137_86 ?_
      refine E_icmp_ne_t pf_137_88 (by omega) ?_
      refine E_aload pf_137_93 rfl ?_
      refine E_dup pf_137_94 rfl ?_
      refine F_getf pf_137_95 rfl rfl rfl ?_
      refine E_iconst pf_137_98 ?_
      refine E_iadd pf_137_99 ?_
      refine F_putf (l' := [(_, _), (_, _), (_, _), (_, _)]) (x := ob _ [_, _, _, _, _, _, _, _, _, _, _, _, _, _, _, _, _, _, _, _, _, _, _, _, _]) pf_137_100 rfl rfl rfl rfl rfl ?_
      refine E_aload pf_137_103 rfl ?_
      refine F_getf pf_137_104 rfl rfl rfl ?_
      refine E_iconst pf_137_107 ?_
      refine E_icmp_ne_t pf_137_108 (by omega) ?_
      refine E_aload pf_137_116 rfl ?_
      refine F_getf pf_137_117 rfl rfl rfl ?_
      refine E_iconst pf_137_120 ?_
      refine E_irem pf_137_121 (by omega) ?_
      refine E_iconst pf_137_122 ?_
      refine E_icmp_ne_f pf_137_123 (by omega) ?_
      refine E_iconst pf_137_126 ?_
      refine E_goto pf_137_127 ?_
      refine E_istore (lv' := [_, _, _, _]) pf_137_131 rfl rfl ?_
      refine E_iconst pf_137_132 ?_
      refine E_istore (lv' := [_, _, _, _]) pf_137_133 rfl rfl ?_
      exact c137s3 (n := 0) (P := P) (sz := sz) hT ht (by omega) hd.2 h _ (fun q => by omega) (fun _ => rfl)
theorem pol4 (hT : ∀ i, 0 ≤ T i ∧ T i ≤ 255) (ht : tl ≤ 90) (hp : 0 ≤ p ∧ p ≤ tl) (hd : 1 ≤ dn ∧ dn ≤ 4) (hC : (∀ q, -9 ≤ C q ∧ C q ≤ 9)) (hP : (∀ q, -9 ≤ P q ∧ P q ≤ 9)) (hz : (∀ q, -9 ≤ sz q ∧ sz q ≤ 9)) (e1 : p < tl) (e2 : T p = 108) : ∃ (b p' k' : Int) (n' : Nat) (C' P' q' c' g' sz' : Int → Int), (b = 0 ∨ b = 1) ∧ (0 ≤ p' ∧ p' ≤ tl) ∧ (∀ q, -9 ≤ C' q ∧ C' q ≤ 9) ∧ (∀ q, -9 ≤ P' q ∧ P' q ≤ 9) ∧ (∀ q, -9 ≤ sz' q ∧ sz' q ≤ 9) ∧ n' ≤ 24 ∧ (b = 1 → (0 ≤ k' ∧ k' ≤ 4) ∧ ∃ ks' : List Int, kl C' n' = insl [] ks' ∧ kl P' n' = insl [] ks' ∧ ks' ≠ [] ∧ ∀ x ∈ ks', zk dn x) ∧ (∀ (h : pd_H) (w2 w3 : Value), Rn 45 15 [.ref 3, .int (ii (dn : Int)), w2, w3] [] (wd [(2, ar 90 T), (3, oR tl p), (4, ar 4 q), (5, oP5 d0 k0 n0), (6, ar 96 C), (7, ar 4 c), (8, ar 4 g)] h) (.inl (some (.int (ii b))), wd [(2, ar 90 T), (3, oR tl p'), (4, ar 4 q'), (5, oP5 (dn : Int) k' (n' : Int)), (6, ar 96 C'), (7, ar 4 c'), (8, ar 4 g')] h)) ∧ ∀ h, Ca 137 [.ref 102] (wd [(102, oX6 rf tl p d kd vs rw (dn : Int) rk ((0 : Nat) : Int) rr ac), (103, ar 90 T), (105, ar 128 P), (115, ar 4 sz)] h) (.inl (some (.int (ii b))), wd [(102, oX6 rf tl p' d kd vs rw (dn : Int) k' (n' : Int) rr ac), (103, ar 90 T), (105, ar 128 P'), (115, ar 4 sz')] h) := by
  have ekd : kdf T tl p = 4 := by
    unfold kdf
    rw [if_pos e1, e2]
    decide
  have h44 := c44 (T := T) (tl := tl) (p := p) hT ht hp
  rw [ekd, show nxp p 4 = p + 1 from if_neg (by decide)] at h44
  have hTp := hT p
  obtain ⟨b, p', n', C', P', q', f1, f2, f3, f4, f5, f6, f7, f8⟩ := lis (rf := rf) (d := d) (kd := kd) (vs := vs) (rw := rw) (rr := rr) (ac := ac) (T := T) (q := q) (C := C) (P := P) (tl := tl) (p := p + 1) (dn := dn) hT ht (by omega) hd hC hP
  refine ⟨b, p', 4, n', C', P', q', c, g, sz, f1, f2, f3, f4, hz, f5, fun e => ⟨by omega, f6 e⟩, fun h w2 w3 => ?_, fun h => ?_⟩
  · rcases f1 with q0 | q0 <;> subst q0
    ·
      refine E_aload pf_45_15 rfl ?_
      refine F_v1v (l' := [(_, _), (_, _), (_, _), (_, _), (_, _), (_, _), (_, _)]) pf_45_16 (h44) (And.intro rfl (And.intro rfl (trivial))) rfl rfl rfl rfl ?_
      refine E_istore (lv' := [_, _, _, _]) pf_45_19 rfl rfl ?_
      refine E_aload pf_45_20 rfl ?_
      refine F_getf pf_45_21 rfl rfl rfl ?_
      refine E_iload pf_45_24 rfl ?_
      refine E_iload pf_45_25 rfl ?_
      refine F_v3u (l' := [(_, _), (_, _), (_, _), (_, _), (_, _), (_, _), (_, _)]) pf_45_26 (c26) (And.intro rfl (trivial)) rfl rfl rfl rfl ?_
      refine E_iload pf_45_29 rfl ?_
      refine E_iconst pf_45_30 ?_
      refine E_icmp_ne_t pf_45_32 (by omega) ?_
      refine E_iload pf_45_37 rfl ?_
      refine E_iconst pf_45_38 ?_
      refine E_icmp_ne_f pf_45_39 (by omega) ?_
      refine E_aload pf_45_42 rfl ?_
      refine E_iload pf_45_43 rfl ?_
      refine F_v2v (l' := [(_, _), (_, _), (_, _), (_, _), (_, _), (_, _), (_, _)]) pf_45_44 (f7) (And.intro rfl (And.intro rfl (And.intro rfl (And.intro rfl (And.intro rfl (trivial)))))) rfl rfl rfl rfl ?_
      exact E_iret pf_45_47 rfl
    ·
      refine E_aload pf_45_15 rfl ?_
      refine F_v1v (l' := [(_, _), (_, _), (_, _), (_, _), (_, _), (_, _), (_, _)]) pf_45_16 (h44) (And.intro rfl (And.intro rfl (trivial))) rfl rfl rfl rfl ?_
      refine E_istore (lv' := [_, _, _, _]) pf_45_19 rfl rfl ?_
      refine E_aload pf_45_20 rfl ?_
      refine F_getf pf_45_21 rfl rfl rfl ?_
      refine E_iload pf_45_24 rfl ?_
      refine E_iload pf_45_25 rfl ?_
      refine F_v3u (l' := [(_, _), (_, _), (_, _), (_, _), (_, _), (_, _), (_, _)]) pf_45_26 (c26) (And.intro rfl (trivial)) rfl rfl rfl rfl ?_
      refine E_iload pf_45_29 rfl ?_
      refine E_iconst pf_45_30 ?_
      refine E_icmp_ne_t pf_45_32 (by omega) ?_
      refine E_iload pf_45_37 rfl ?_
      refine E_iconst pf_45_38 ?_
      refine E_icmp_ne_f pf_45_39 (by omega) ?_
      refine E_aload pf_45_42 rfl ?_
      refine E_iload pf_45_43 rfl ?_
      refine F_v2v (l' := [(_, _), (_, _), (_, _), (_, _), (_, _), (_, _), (_, _)]) pf_45_44 (f7) (And.intro rfl (And.intro rfl (And.intro rfl (And.intro rfl (And.intro rfl (trivial)))))) rfl rfl rfl rfl ?_
      exact E_iret pf_45_47 rfl
  · refine E_in (lv := [_, _, _, _]) rfl ?_
    rcases f1 with q0 | q0 <;> subst q0
    ·
      refine E_aload pf_137_0 rfl ?_
      refine F_getf pf_137_1 rfl rfl rfl ?_
      refine E_aload pf_137_4 rfl ?_
      refine F_getf pf_137_5 rfl rfl rfl ?_
      refine E_icmp_ge_f pf_137_8 (by omega) ?_
      refine E_aload pf_137_11 rfl ?_
      refine F_getf pf_137_12 rfl rfl rfl ?_
      refine E_aload pf_137_15 rfl ?_
      refine F_getf pf_137_16 rfl rfl rfl ?_
      refine F_iald pf_137_19 rfl (by omega) ?_
      refine E_goto pf_137_20 ?_
      refine E_istore (lv' := [_, _, _, _]) pf_137_25 rfl rfl ?_
      refine E_aload pf_137_26 rfl ?_
      refine E_iload pf_137_27 rfl ?_
      rw [e2]
      refine E_iconst pf_137_28 ?_
      refine E_icmp_ne_t pf_137_30 (by omega) ?_
      refine E_iload pf_137_37 rfl ?_
      refine E_iconst pf_137_38 ?_
      refine E_icmp_ne_t pf_137_40 (by omega) ?_
      refine E_iload pf_137_47 rfl ?_
      refine E_iconst pf_137_48 ?_
      refine E_icmp_ne_t pf_137_50 (by omega) ?_
      refine E_iload pf_137_57 rfl ?_
      refine E_iconst pf_137_58 ?_
      refine E_icmp_ne_t pf_137_60 (by omega) ?_
      refine E_iload pf_137_67 rfl ?_
      refine E_iconst pf_137_68 ?_
      refine E_icmp_ne_f pf_137_70 (by omega) ?_
      refine E_iconst pf_137_73 ?_
      refine E_goto pf_137_74 ?_
      refine F_putf (l' := [(_, _), (_, _), (_, _), (_, _)]) (x := ob _ [_, _, _, _, _, _, _, _, _, _, _, _, _, _, _, _, _, _, _, _, _, _, _, _, _]) pf_137_79 rfl rfl rfl rfl rfl ?_
      refine E_aload pf_137_82 rfl ?_
      refine F_getf pf_137_83 rfl rfl rfl ?_
      refine E_iconst pf_137_86 ?_
      refine E_icmp_ne_t pf_137_88 (by omega) ?_
      refine E_aload pf_137_93 rfl ?_
      refine E_dup pf_137_94 rfl ?_
      refine F_getf pf_137_95 rfl rfl rfl ?_
      refine E_iconst pf_137_98 ?_
      refine E_iadd pf_137_99 ?_
      refine F_putf (l' := [(_, _), (_, _), (_, _), (_, _)]) (x := ob _ [_, _, _, _, _, _, _, _, _, _, _, _, _, _, _, _, _, _, _, _, _, _, _, _, _]) pf_137_100 rfl rfl rfl rfl rfl ?_
      refine E_aload pf_137_103 rfl ?_
      refine F_getf pf_137_104 rfl rfl rfl ?_
      refine E_iconst pf_137_107 ?_
      refine E_icmp_ne_f pf_137_108 (by omega) ?_
      refine E_aload pf_137_111 rfl ?_
      refine F_v1v (l' := [(_, _), (_, _), (_, _), (_, _)]) pf_137_112 (f8) (And.intro rfl (And.intro rfl (And.intro rfl (trivial)))) rfl rfl rfl rfl ?_
      exact E_iret pf_137_115 rfl
    ·
      refine E_aload pf_137_0 rfl ?_
      refine F_getf pf_137_1 rfl rfl rfl ?_
      refine E_aload pf_137_4 rfl ?_
      refine F_getf pf_137_5 rfl rfl rfl ?_
      refine E_icmp_ge_f pf_137_8 (by omega) ?_
      refine E_aload pf_137_11 rfl ?_
      refine F_getf pf_137_12 rfl rfl rfl ?_
      refine E_aload pf_137_15 rfl ?_
      refine F_getf pf_137_16 rfl rfl rfl ?_
      refine F_iald pf_137_19 rfl (by omega) ?_
      refine E_goto pf_137_20 ?_
      refine E_istore (lv' := [_, _, _, _]) pf_137_25 rfl rfl ?_
      refine E_aload pf_137_26 rfl ?_
      refine E_iload pf_137_27 rfl ?_
      rw [e2]
      refine E_iconst pf_137_28 ?_
      refine E_icmp_ne_t pf_137_30 (by omega) ?_
      refine E_iload pf_137_37 rfl ?_
      refine E_iconst pf_137_38 ?_
      refine E_icmp_ne_t pf_137_40 (by omega) ?_
      refine E_iload pf_137_47 rfl ?_
      refine E_iconst pf_137_48 ?_
      refine E_icmp_ne_t pf_137_50 (by omega) ?_
      refine E_iload pf_137_57 rfl ?_
      refine E_iconst pf_137_58 ?_
      refine E_icmp_ne_t pf_137_60 (by omega) ?_
      refine E_iload pf_137_67 rfl ?_
      refine E_iconst pf_137_68 ?_
      refine E_icmp_ne_f pf_137_70 (by omega) ?_
      refine E_iconst pf_137_73 ?_
      refine E_goto pf_137_74 ?_
      refine F_putf (l' := [(_, _), (_, _), (_, _), (_, _)]) (x := ob _ [_, _, _, _, _, _, _, _, _, _, _, _, _, _, _, _, _, _, _, _, _, _, _, _, _]) pf_137_79 rfl rfl rfl rfl rfl ?_
      refine E_aload pf_137_82 rfl ?_
      refine F_getf pf_137_83 rfl rfl rfl ?_
      refine E_iconst pf_137_86 ?_
      refine E_icmp_ne_t pf_137_88 (by omega) ?_
      refine E_aload pf_137_93 rfl ?_
      refine E_dup pf_137_94 rfl ?_
      refine F_getf pf_137_95 rfl rfl rfl ?_
      refine E_iconst pf_137_98 ?_
      refine E_iadd pf_137_99 ?_
      refine F_putf (l' := [(_, _), (_, _), (_, _), (_, _)]) (x := ob _ [_, _, _, _, _, _, _, _, _, _, _, _, _, _, _, _, _, _, _, _, _, _, _, _, _]) pf_137_100 rfl rfl rfl rfl rfl ?_
      refine E_aload pf_137_103 rfl ?_
      refine F_getf pf_137_104 rfl rfl rfl ?_
      refine E_iconst pf_137_107 ?_
      refine E_icmp_ne_f pf_137_108 (by omega) ?_
      refine E_aload pf_137_111 rfl ?_
      refine F_v1v (l' := [(_, _), (_, _), (_, _), (_, _)]) pf_137_112 (f8) (And.intro rfl (And.intro rfl (And.intro rfl (trivial)))) rfl rfl rfl rfl ?_
      exact E_iret pf_137_115 rfl
theorem poln (hT : ∀ i, 0 ≤ T i ∧ T i ≤ 255) (ht : tl ≤ 90) (hp : 0 ≤ p ∧ p ≤ tl) (hd : 1 ≤ dn ∧ dn ≤ 4) (hC : (∀ q, -9 ≤ C q ∧ C q ≤ 9)) (hP : (∀ q, -9 ≤ P q ∧ P q ≤ 9)) (hz : (∀ q, -9 ≤ sz q ∧ sz q ≤ 9)) (e1 : kdf T tl p = -9) : ∃ (b p' k' : Int) (n' : Nat) (C' P' q' c' g' sz' : Int → Int), (b = 0 ∨ b = 1) ∧ (0 ≤ p' ∧ p' ≤ tl) ∧ (∀ q, -9 ≤ C' q ∧ C' q ≤ 9) ∧ (∀ q, -9 ≤ P' q ∧ P' q ≤ 9) ∧ (∀ q, -9 ≤ sz' q ∧ sz' q ≤ 9) ∧ n' ≤ 24 ∧ (b = 1 → (0 ≤ k' ∧ k' ≤ 4) ∧ ∃ ks' : List Int, kl C' n' = insl [] ks' ∧ kl P' n' = insl [] ks' ∧ ks' ≠ [] ∧ ∀ x ∈ ks', zk dn x) ∧ (∀ (h : pd_H) (w2 w3 : Value), Rn 45 15 [.ref 3, .int (ii (dn : Int)), w2, w3] [] (wd [(2, ar 90 T), (3, oR tl p), (4, ar 4 q), (5, oP5 d0 k0 n0), (6, ar 96 C), (7, ar 4 c), (8, ar 4 g)] h) (.inl (some (.int (ii b))), wd [(2, ar 90 T), (3, oR tl p'), (4, ar 4 q'), (5, oP5 (dn : Int) k' (n' : Int)), (6, ar 96 C'), (7, ar 4 c'), (8, ar 4 g')] h)) ∧ ∀ h, Ca 137 [.ref 102] (wd [(102, oX6 rf tl p d kd vs rw (dn : Int) rk ((0 : Nat) : Int) rr ac), (103, ar 90 T), (105, ar 128 P), (115, ar 4 sz)] h) (.inl (some (.int (ii b))), wd [(102, oX6 rf tl p' d kd vs rw (dn : Int) k' (n' : Int) rr ac), (103, ar 90 T), (105, ar 128 P'), (115, ar 4 sz')] h) := by
  have h44 := c44 (T := T) (tl := tl) (p := p) hT ht hp
  rw [e1, show nxp p (-9) = p from if_pos rfl] at h44
  have hTp := hT p
  refine ⟨0, p, -9, 0, C, P, q, c, g, sz, .inl rfl, hp, hC, hP, hz, by omega, fun q => absurd q (by omega), fun h w2 w3 => ?_, fun h => ?_⟩
  ·
    refine E_aload pf_45_15 rfl ?_
    refine F_v1v (l' := [(_, _), (_, _), (_, _), (_, _), (_, _), (_, _), (_, _)]) pf_45_16 (h44) (And.intro rfl (And.intro rfl (trivial))) rfl rfl rfl rfl ?_
    refine E_istore (lv' := [_, _, _, _]) pf_45_19 rfl rfl ?_
    refine E_aload pf_45_20 rfl ?_
    refine F_getf pf_45_21 rfl rfl rfl ?_
    refine E_iload pf_45_24 rfl ?_
    refine E_iload pf_45_25 rfl ?_
    refine F_v3u (l' := [(_, _), (_, _), (_, _), (_, _), (_, _), (_, _), (_, _)]) pf_45_26 (c26) (And.intro rfl (trivial)) rfl rfl rfl rfl ?_
    refine E_iload pf_45_29 rfl ?_
    refine E_iconst pf_45_30 ?_
    refine E_icmp_ne_f pf_45_32 (by omega) ?_
    refine E_iconst pf_45_35 ?_
    exact E_iret pf_45_36 rfl
  · refine E_in (lv := [_, _, _, _]) rfl ?_
    by_cases e2 : p < tl
    · unfold kdf at e1
      rw [if_pos e2] at e1
      have a1 : T p ≠ 115 := fun q => by rw [q] at e1; exact absurd e1 (by decide)
      have a2 : T p ≠ 98 := fun q => by rw [q] at e1; exact absurd e1 (by decide)
      have a3 : T p ≠ 99 := fun q => by rw [q] at e1; exact absurd e1 (by decide)
      have a4 : T p ≠ 112 := fun q => by rw [q] at e1; exact absurd e1 (by decide)
      have a5 : T p ≠ 108 := fun q => by rw [q] at e1; exact absurd e1 (by decide)
      refine E_aload pf_137_0 rfl ?_
      refine F_getf pf_137_1 rfl rfl rfl ?_
      refine E_aload pf_137_4 rfl ?_
      refine F_getf pf_137_5 rfl rfl rfl ?_
      refine E_icmp_ge_f pf_137_8 (by omega) ?_
      refine E_aload pf_137_11 rfl ?_
      refine F_getf pf_137_12 rfl rfl rfl ?_
      refine E_aload pf_137_15 rfl ?_
      refine F_getf pf_137_16 rfl rfl rfl ?_
      refine F_iald pf_137_19 rfl (by omega) ?_
      refine E_goto pf_137_20 ?_
      refine E_istore (lv' := [_, _, _, _]) pf_137_25 rfl rfl ?_
      refine E_aload pf_137_26 rfl ?_
      refine E_iload pf_137_27 rfl ?_
      refine E_iconst pf_137_28 ?_
      refine E_icmp_ne_t pf_137_30 (by omega) ?_
      refine E_iload pf_137_37 rfl ?_
      refine E_iconst pf_137_38 ?_
      refine E_icmp_ne_t pf_137_40 (by omega) ?_
      refine E_iload pf_137_47 rfl ?_
      refine E_iconst pf_137_48 ?_
      refine E_icmp_ne_t pf_137_50 (by omega) ?_
      refine E_iload pf_137_57 rfl ?_
      refine E_iconst pf_137_58 ?_
      refine E_icmp_ne_t pf_137_60 (by omega) ?_
      refine E_iload pf_137_67 rfl ?_
      refine E_iconst pf_137_68 ?_
      refine E_icmp_ne_t pf_137_70 (by omega) ?_
      refine E_iconst pf_137_77 ?_
      refine F_putf (l' := [(_, _), (_, _), (_, _), (_, _)]) (x := ob _ [_, _, _, _, _, _, _, _, _, _, _, _, _, _, _, _, _, _, _, _, _, _, _, _, _]) pf_137_79 rfl rfl rfl rfl rfl ?_
      refine E_aload pf_137_82 rfl ?_
      refine F_getf pf_137_83 rfl rfl rfl ?_
      refine E_iconst pf_137_86 ?_
      refine E_icmp_ne_f pf_137_88 (by omega) ?_
      refine E_iconst pf_137_91 ?_
      exact E_iret pf_137_92 rfl
    ·
      refine E_aload pf_137_0 rfl ?_
      refine F_getf pf_137_1 rfl rfl rfl ?_
      refine E_aload pf_137_4 rfl ?_
      refine F_getf pf_137_5 rfl rfl rfl ?_
      refine E_icmp_ge_t pf_137_8 (by omega) ?_
      refine E_iconst pf_137_23 ?_
      refine E_istore (lv' := [_, _, _, _]) pf_137_25 rfl rfl ?_
      refine E_aload pf_137_26 rfl ?_
      refine E_iload pf_137_27 rfl ?_
      refine E_iconst pf_137_28 ?_
      refine E_icmp_ne_t pf_137_30 (by omega) ?_
      refine E_iload pf_137_37 rfl ?_
      refine E_iconst pf_137_38 ?_
      refine E_icmp_ne_t pf_137_40 (by omega) ?_
      refine E_iload pf_137_47 rfl ?_
      refine E_iconst pf_137_48 ?_
      refine E_icmp_ne_t pf_137_50 (by omega) ?_
      refine E_iload pf_137_57 rfl ?_
      refine E_iconst pf_137_58 ?_
      refine E_icmp_ne_t pf_137_60 (by omega) ?_
      refine E_iload pf_137_67 rfl ?_
      refine E_iconst pf_137_68 ?_
      refine E_icmp_ne_t pf_137_70 (by omega) ?_
      refine E_iconst pf_137_77 ?_
      refine F_putf (l' := [(_, _), (_, _), (_, _), (_, _)]) (x := ob _ [_, _, _, _, _, _, _, _, _, _, _, _, _, _, _, _, _, _, _, _, _, _, _, _, _]) pf_137_79 rfl rfl rfl rfl rfl ?_
      refine E_aload pf_137_82 rfl ?_
      refine F_getf pf_137_83 rfl rfl rfl ?_
      refine E_iconst pf_137_86 ?_
      refine E_icmp_ne_f pf_137_88 (by omega) ?_
      refine E_iconst pf_137_91 ?_
      exact E_iret pf_137_92 rfl
theorem pol (hT : ∀ i, 0 ≤ T i ∧ T i ≤ 255) (ht : tl ≤ 90) (hp : 0 ≤ p ∧ p ≤ tl) (hd : 1 ≤ dn ∧ dn ≤ 4) (hC : (∀ q, -9 ≤ C q ∧ C q ≤ 9)) (hP : (∀ q, -9 ≤ P q ∧ P q ≤ 9)) (hz : (∀ q, -9 ≤ sz q ∧ sz q ≤ 9)) : ∃ (b p' k' : Int) (n' : Nat) (C' P' q' c' g' sz' : Int → Int), (b = 0 ∨ b = 1) ∧ (0 ≤ p' ∧ p' ≤ tl) ∧ (∀ q, -9 ≤ C' q ∧ C' q ≤ 9) ∧ (∀ q, -9 ≤ P' q ∧ P' q ≤ 9) ∧ (∀ q, -9 ≤ sz' q ∧ sz' q ≤ 9) ∧ n' ≤ 24 ∧ (b = 1 → (0 ≤ k' ∧ k' ≤ 4) ∧ ∃ ks' : List Int, kl C' n' = insl [] ks' ∧ kl P' n' = insl [] ks' ∧ ks' ≠ [] ∧ ∀ x ∈ ks', zk dn x) ∧ (∀ (h : pd_H) (w2 w3 : Value), Rn 45 15 [.ref 3, .int (ii (dn : Int)), w2, w3] [] (wd [(2, ar 90 T), (3, oR tl p), (4, ar 4 q), (5, oP5 d0 k0 n0), (6, ar 96 C), (7, ar 4 c), (8, ar 4 g)] h) (.inl (some (.int (ii b))), wd [(2, ar 90 T), (3, oR tl p'), (4, ar 4 q'), (5, oP5 (dn : Int) k' (n' : Int)), (6, ar 96 C'), (7, ar 4 c'), (8, ar 4 g')] h)) ∧ ∀ h, Ca 137 [.ref 102] (wd [(102, oX6 rf tl p d kd vs rw (dn : Int) rk ((0 : Nat) : Int) rr ac), (103, ar 90 T), (105, ar 128 P), (115, ar 4 sz)] h) (.inl (some (.int (ii b))), wd [(102, oX6 rf tl p' d kd vs rw (dn : Int) k' (n' : Int) rr ac), (103, ar 90 T), (105, ar 128 P'), (115, ar 4 sz')] h) := by
  by_cases e1 : p < tl
  · by_cases a1 : T p = 115
    · exact pol0 hT ht hp hd hC hP hz e1 a1
    by_cases a2 : T p = 98
    · exact pol1 hT ht hp hd hC hP hz e1 a2
    by_cases a3 : T p = 99
    · exact pol2 hT ht hp hd hC hP hz e1 a3
    by_cases a4 : T p = 112
    · exact pol3 hT ht hp hd hC hP hz e1 a4
    by_cases a5 : T p = 108
    · exact pol4 hT ht hp hd hC hP hz e1 a5
    · exact poln hT ht hp hd hC hP hz (by unfold kdf; rw [if_pos e1, if_neg a1, if_neg a2, if_neg a3, if_neg a4, if_neg a5])
  · exact poln hT ht hp hd hC hP hz (by unfold kdf; rw [if_neg e1])
end POL
