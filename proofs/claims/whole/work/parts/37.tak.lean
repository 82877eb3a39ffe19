/-! Taking vertices in, the reference's side. -/
theorem ins_len (L : List Int) (k : Int) : (ins L k).length ≤ L.length + 1 := by
  induction L with
  | nil => simp [ins]
  | cons x r ih =>
    simp only [ins]
    split
    · simp only [List.length_cons]; omega
    · split <;> simp only [List.length_cons] <;> omega
theorem insl_len (ks : List Int) : ∀ L : List Int, (insl L ks).length ≤ L.length + ks.length := by
  induction ks with
  | nil => intro L; exact Nat.le_refl _
  | cons k ks ih =>
    intro L
    have h1 := ih (ins L k)
    have h2 := ins_len L k
    show (insl (ins L k) ks).length ≤ _
    simp only [List.length_cons]; omega
theorem kl_le {C : Int → Int} {n : Nat} {ks : List Int} (h : kl C n = insl [] ks) : n ≤ ks.length := by
  have h1 := insl_len ks []
  rw [← h, kl_len] at h1
  simpa using h1
theorem kl_cong {C P : Int → Int} {n : Nat} (h : ∀ q : Int, 0 ≤ q → q < 4 * n → C q = P q) : kl C n = kl P n := by
  unfold kl
  refine List.map_congr_left fun i hi => ?_
  have := List.mem_range.mp hi
  exact ky_congr fun j h1 h2 => h _ (by omega) (by omega)
theorem zcpy_b9 {f g : Int → Int} {sp dp n : Int} (hf : ∀ q, -9 ≤ f q ∧ f q ≤ 9) (hg : ∀ q, -9 ≤ g q ∧ g q ≤ 9) : ∀ q, -9 ≤ zcpy f g sp dp n q ∧ zcpy f g sp dp n q ≤ 9 := by
  intro q; unfold zcpy; split
  · exact hf _
  · exact hg _
theorem zu_b9 {g : Int → Int} {i x : Int} (hx : -9 ≤ x ∧ x ≤ 9) (hg : ∀ q, -9 ≤ g q ∧ g q ≤ 9) : ∀ q, -9 ≤ zu g i x q ∧ zu g i x q ≤ 9 := by
  intro q; unfold zu; split
  · exact hx
  · exact hg _
def dgt (c j : Nat) : Nat := c / 4 ^ j % 4
def us (c : Nat) : Nat → Nat
  | 0 => 0
  | j + 1 => us c j ||| 2 ^ dgt c j
def vld (d c : Nat) : Bool := us c d == 2 ^ d - 1 && decide (c < 4 ^ d)
def mop (sz : Int → Int) (d c : Nat) : Int := ky (fun i => if i < (d : Int) then sz ((dgt c i.toNat : Nat) : Int) else 0) 0
def mok (sz : Int → Int) (d : Nat) : List Int := ((List.range 256).filter (vld d)).map (mop sz d)
theorem dgt_lt (c j : Nat) : dgt c j < 4 := Nat.mod_lt _ (by omega)
theorem us_lt (c j : Nat) : us c j < 16 := by
  induction j with
  | zero => show 0 < 16; omega
  | succ j ih =>
    have h : ∀ u : Fin 16, ∀ f : Fin 4, u.val ||| 2 ^ f.val < 16 := by decide +kernel
    exact h ⟨us c j, ih⟩ ⟨dgt c j, dgt_lt c j⟩
theorem dgt_ok {c j : Nat} (hc : c < 256) (hj : j < 4) : ((ii (c : Int) >>> (ii (2 * (j : Int)) &&& 31)) &&& ii 3) = ii ((dgt c j : Nat) : Int) := by
  have h : ∀ j : Fin 4, ∀ c : Fin 256, ((ii ((c.val : Nat) : Int) >>> (ii (2 * ((j.val : Nat) : Int)) &&& 31)) &&& ii 3) = ii ((dgt c.val j.val : Nat) : Int) := by decide +kernel
  exact h ⟨j, hj⟩ ⟨c, hc⟩
theorem or_ok (c j : Nat) : (ii ((us c j : Nat) : Int) ||| (ii 1 <<< (ii ((dgt c j : Nat) : Int) &&& 31))) = ii ((us c (j + 1) : Nat) : Int) := by
  have h : ∀ u : Fin 16, ∀ f : Fin 4, (ii ((u.val : Nat) : Int) ||| (ii 1 <<< (ii ((f.val : Nat) : Int) &&& 31))) = ii ((u.val ||| 2 ^ f.val : Nat) : Int) := by decide +kernel
  exact h ⟨us c j, us_lt c j⟩ ⟨dgt c j, dgt_lt c j⟩
theorem sh4_ok {d : Nat} (hd : d ≤ 4) : ii 1 <<< (ii (2 * (d : Int)) &&& 31) = ii ((4 ^ d : Nat) : Int) := by
  have h : ∀ d : Fin 5, ii 1 <<< (ii (2 * ((d.val : Nat) : Int)) &&& 31) = ii ((4 ^ d.val : Nat) : Int) := by decide +kernel
  exact h ⟨d, by omega⟩
theorem p4_in {d : Nat} (hd : d ≤ 4) : 1 ≤ 4 ^ d ∧ 4 ^ d ≤ 256 := by
  have h : ∀ d : Fin 5, 1 ≤ 4 ^ d.val ∧ 4 ^ d.val ≤ 256 := by decide
  exact h ⟨d, by omega⟩
theorem vld_len {d : Nat} (hd : d ≤ 4) {s : Nat} (hs : s ≤ 256) : ((List.range s).filter (vld d)).length ≤ 24 := by
  have h : ∀ d : Fin 5, ((List.range 256).filter (vld d.val)).length ≤ 24 := by decide +kernel
  have h1 := h ⟨d, by omega⟩
  have h2 : ((List.range s).filter (vld d)).length ≤ ((List.range 256).filter (vld d)).length := by
    have e : List.range 256 = List.range s ++ (List.range (256 - s)).map (s + ·) := by
      rw [← List.range_add]; congr 1; omega
    rw [e, List.filter_append, List.length_append]; omega
  exact Nat.le_trans h2 h1
def enc : List Int → Nat
  | [] => 0
  | x :: r => x.toNat + 4 * enc r
theorem ark_mok {d : Nat} (sz : Int → Int) (hd : 1 ≤ d ∧ d ≤ 4) : insl [] (mok sz d) = insl [] (ark sz d) := by
  have h1 : ∀ d : Fin 5, ∀ c : Fin 24, c.val < fct d.val → vld d.val (enc (arx d.val (c.val : Int) id)) = true ∧ enc (arx d.val (c.val : Int) id) < 256 ∧ ∀ i : Fin 4, i.val < d.val → ((dgt (enc (arx d.val (c.val : Int) id)) i.val : Nat) : Int) = (arx d.val (c.val : Int) id).getD i.val 0 := by decide +kernel
  have h2 : ∀ d : Fin 5, 1 ≤ d.val → ∀ c : Fin 256, vld d.val c.val = true → ∃ e : Fin 24, e.val < fct d.val ∧ ∀ i : Fin 4, i.val < d.val → ((dgt c.val i.val : Nat) : Int) = (arx d.val (e.val : Int) id).getD i.val 0 := by decide +kernel
  have hf : ∀ d : Fin 5, fct d.val ≤ 24 := by decide
  have key : ∀ c e : Nat, (∀ i : Fin 4, i.val < d → ((dgt c i.val : Nat) : Int) = (arx d (e : Int) id).getD i.val 0) → mop sz d c = arp sz d e := fun c e h => ky_congr fun i g1 g2 => by
    rw [Int.zero_add]
    show (if i < (d : Int) then _ else _) = (if i < (d : Int) then _ else _)
    split
    · rw [h ⟨i.toNat, by omega⟩ (by show i.toNat < d; omega)]
    · rfl
  refine insl_eq fun x => ?_
  unfold mok ark
  simp only [List.mem_map, List.mem_filter, List.mem_range]
  have hf := hf ⟨d, by omega⟩
  constructor
  · rintro ⟨c, ⟨g1, g2⟩, rfl⟩
    obtain ⟨e, e1, e2⟩ := h2 ⟨d, by omega⟩ hd.1 ⟨c, g1⟩ g2
    exact ⟨e.val, e1, (key c e.val e2).symm⟩
  · rintro ⟨e, g1, rfl⟩
    have hq : e < 24 := Nat.lt_of_lt_of_le g1 hf
    obtain ⟨e1, e2, e3⟩ := h1 ⟨d, by omega⟩ ⟨e, hq⟩ g1
    exact ⟨_, ⟨e2, e1⟩, key _ e e3⟩
section TAK
variable {rf ts sp d kd vs rw rd rk rr ac : Int} {P sz : Int → Int} {dn n : Nat} {ks : List Int}
theorem c133 (hn : n ≤ 31) : ∀ h, Ca 133 [.ref 102] (wd [(102, oX6 rf ts sp d kd vs rw rd rk (n : Int) rr ac), (105, ar 128 P)] h) (.inl none, wd [(102, oX6 rf ts sp d kd vs rw rd rk (n : Int) rr ac), (105, ar 128 (zcpy (fun _ => 0) P 0 (4 * (n : Int)) 4))] h) := by
  intro h
  have loop : ∀ (m j : Nat) (A : Int → Int), j + m = 4 → A = zcpy (fun _ => 0) P 0 (4 * (n : Int)) (j : Int) → Rn 133 2 [.ref 102, .int (ii (j : Int))] [] (wd [(102, oX6 rf ts sp d kd vs rw rd rk (n : Int) rr ac), (105, ar 128 A)] h) (.inl none, wd [(102, oX6 rf ts sp d kd vs rw rd rk (n : Int) rr ac), (105, ar 128 (zcpy (fun _ => 0) P 0 (4 * (n : Int)) 4))] h) := by
    intro m
    induction m with
    | zero =>
      intro j A hj hA
      obtain rfl : j = 4 := by omega
      subst hA
      refine E_iload pf_133_2 rfl ?_
      refine E_iconst pf_133_3 ?_
      refine E_icmp_ge_t pf_133_4 (by omega) ?_
      exact E_vret pf_133_27 rfl
    | succ m ih =>
      intro j A hj hA
      have ih := ih (j + 1) _ (by omega) (zcpy_s _ _ _ _ _).symm
      rw [← hA] at ih
      refine E_iload pf_133_2 rfl ?_
      refine E_iconst pf_133_3 ?_
      refine E_icmp_ge_f pf_133_4 (by omega) ?_
      refine E_aload pf_133_7 rfl ?_
      refine F_getf pf_133_8 rfl rfl rfl ?_
      refine E_iconst pf_133_11 ?_
      refine E_aload pf_133_12 rfl ?_
      refine F_getf pf_133_13 rfl rfl rfl ?_
      refine E_imul pf_133_16 ?_
      refine E_iload pf_133_17 rfl ?_
      refine E_iadd pf_133_18 ?_
      refine E_iconst pf_133_19 ?_
      refine F_iast (l' := [(_, _), (_, _)]) pf_133_20 rfl (by omega) rfl ?_
      refine E_iinc (lv' := [_, _]) pf_133_21 rfl rfl ?_
      refine E_goto pf_133_24 ?_
      exact ih
  refine E_in (lv := [_, _]) rfl ?_
  refine E_iconst pf_133_0 ?_
  refine E_istore (lv' := [_, _]) pf_133_1 rfl rfl ?_
  exact loop 4 0 P (by omega) (zcpy_0 _ _ _ _).symm
theorem z0_kl {A : Int → Int} {m : Int} : kl (zcpy A P 0 (4 * (n : Int)) m) n = kl P n := kl_cong fun q h1 h2 => zcpy_out (by omega)
theorem z0_b9 (hP : (∀ q, -9 ≤ P q ∧ P q ≤ 9)) : ∀ q, -9 ≤ zcpy (fun _ => 0) P 0 (4 * (n : Int)) 4 q ∧ zcpy (fun _ => 0) P 0 (4 * (n : Int)) 4 q ≤ 9 := zcpy_b9 (fun _ => by omega) hP
theorem z0_at {j : Int} (hj : 0 ≤ j ∧ j < 4) : zcpy (fun _ => 0) P 0 (4 * (n : Int)) 4 (4 * (n : Int) + j) = 0 := by rw [zcpy_at (by omega)]
theorem c134z (hn : n ≤ 24) (hP : (∀ q, -9 ≤ P q ∧ P q ≤ 9)) (hk : kl P n = insl [] ks) : ∃ (n' : Nat) (P' : Int → Int), (∀ q, -9 ≤ P' q ∧ P' q ≤ 9) ∧ kl P' n' = insl [] (ks ++ [0]) ∧ n' ≤ n + 1 ∧ ∀ h, Ca 134 [.ref 102, .int (ii (-9)), .int (ii 0)] (wd [(102, oX6 rf ts sp d kd vs rw rd rk (n : Int) rr ac), (105, ar 128 P)] h) (.inl none, wd [(102, oX6 rf ts sp d kd vs rw rd rk (n' : Int) rr ac), (105, ar 128 P')] h) := by
  have h133 := c133 (rf := rf) (ts := ts) (sp := sp) (d := d) (kd := kd) (vs := vs) (rw := rw) (rd := rd) (rk := rk) (rr := rr) (ac := ac) (P := P) (n := n) (by omega)
  have ek : ky (zcpy (fun _ => 0) P 0 (4 * (n : Int)) 4) (4 * (n : Int)) = 0 := by
    have : ky (zcpy (fun _ => 0) P 0 (4 * (n : Int)) 4) (4 * (n : Int)) = ky (fun _ => 0) 0 := ky_congr fun i h1 h2 => z0_at ⟨h1, h2⟩
    rw [this]; rfl
  obtain ⟨n1, P1, h1, h2, h3, h132⟩ := c132 (rf := rf) (ts := ts) (sp := sp) (d := d) (kd := kd) (vs := vs) (rw := rw) (rd := rd) (rk := rk) (rr := rr) (ac := ac) (n := n) (P := (zcpy (fun _ => 0) P 0 (4 * (n : Int)) 4)) hn (z0_b9 hP) (by rw [z0_kl, hk]; exact insl_s0 _)
  have h3' : n1 ≤ n + 1 := by rw [h3]; split <;> omega
  refine ⟨n1, P1, h1, by rw [h2, z0_kl, hk, ek, ← insl_snoc], h3', fun h => ?_⟩
  refine E_in (lv := [_, _, _]) rfl ?_
  refine E_aload pf_134_0 rfl ?_
  refine F_v1u (l' := [(_, _), (_, _)]) pf_134_1 (h133) (And.intro rfl (And.intro rfl (trivial))) rfl rfl rfl rfl ?_
  refine E_iload pf_134_4 rfl ?_
  refine E_if_lt_t pf_134_5 (by omega) ?_
  refine E_aload pf_134_22 rfl ?_
  refine F_v1v (l' := [(_, _), (_, _)]) pf_134_23 (h132) (And.intro rfl (And.intro rfl (trivial))) rfl rfl rfl rfl ?_
  refine E_pop pf_134_26 rfl ?_
  exact E_vret pf_134_27 rfl
theorem c134a {j : Nat} {p : Int} (hn : n ≤ 24) (hP : (∀ q, -9 ≤ P q ∧ P q ≤ 9)) (hk : kl P n = insl [] ks) (hj : j < 4) (hp : -9 ≤ p ∧ p ≤ 9) : ∃ (n' : Nat) (P' : Int → Int), (∀ q, -9 ≤ P' q ∧ P' q ≤ 9) ∧ kl P' n' = insl [] (ks ++ [axp p j]) ∧ n' ≤ n + 1 ∧ ∀ h, Ca 134 [.ref 102, .int (ii (j : Int)), .int (ii p)] (wd [(102, oX6 rf ts sp d kd vs rw rd rk (n : Int) rr ac), (105, ar 128 P)] h) (.inl none, wd [(102, oX6 rf ts sp d kd vs rw rd rk (n' : Int) rr ac), (105, ar 128 P')] h) := by
  have h133 := c133 (rf := rf) (ts := ts) (sp := sp) (d := d) (kd := kd) (vs := vs) (rw := rw) (rd := rd) (rk := rk) (rr := rr) (ac := ac) (P := P) (n := n) (by omega)
  have ek : ky (zu (zcpy (fun _ => 0) P 0 (4 * (n : Int)) 4) (4 * (n : Int) + (j : Int)) p) (4 * (n : Int)) = axp p j := ky_congr fun i h1 h2 => by
    by_cases e : i = (j : Int)
    · rw [e, zu_s]; show p = if 0 + (j : Int) = (j : Int) then p else 0; rw [if_pos (by omega)]
    · rw [zu_n _ _ (by omega), z0_at ⟨h1, h2⟩]; show 0 = if 0 + i = (j : Int) then p else 0; rw [if_neg (by omega)]
  have ekl : kl (zu (zcpy (fun _ => 0) P 0 (4 * (n : Int)) 4) (4 * (n : Int) + (j : Int)) p) n = kl P n := by
    rw [← z0_kl (P := P) (n := n) (A := fun _ => 0) (m := 4)]
    exact kl_cong fun q h1 h2 => zu_n _ _ (by omega)
  obtain ⟨n1, P1, h1, h2, h3, h132⟩ := c132 (rf := rf) (ts := ts) (sp := sp) (d := d) (kd := kd) (vs := vs) (rw := rw) (rd := rd) (rk := rk) (rr := rr) (ac := ac) (n := n) (P := (zu (zcpy (fun _ => 0) P 0 (4 * (n : Int)) 4) (4 * (n : Int) + (j : Int)) p)) hn (zu_b9 hp (z0_b9 hP)) (by rw [ekl, hk]; exact insl_s0 _)
  have h3' : n1 ≤ n + 1 := by rw [h3]; split <;> omega
  refine ⟨n1, P1, h1, by rw [h2, ekl, hk, ek, ← insl_snoc], h3', fun h => ?_⟩
  refine E_in (lv := [_, _, _]) rfl ?_
  refine E_aload pf_134_0 rfl ?_
  refine F_v1u (l' := [(_, _), (_, _)]) pf_134_1 (h133) (And.intro rfl (And.intro rfl (trivial))) rfl rfl rfl rfl ?_
  refine E_iload pf_134_4 rfl ?_
  refine E_if_lt_f pf_134_5 (by omega) ?_
  refine E_aload pf_134_8 rfl ?_
  refine F_getf pf_134_9 rfl rfl rfl ?_
  refine E_iconst pf_134_12 ?_
  refine E_aload pf_134_13 rfl ?_
  refine F_getf pf_134_14 rfl rfl rfl ?_
  refine E_imul pf_134_17 ?_
  refine E_iload pf_134_18 rfl ?_
  refine E_iadd pf_134_19 ?_
  refine E_iload pf_134_20 rfl ?_
  refine F_iast (l' := [(_, _), (_, _)]) pf_134_21 rfl (by omega) rfl ?_
  refine E_aload pf_134_22 rfl ?_
  refine F_v1v (l' := [(_, _), (_, _)]) pf_134_23 (h132) (And.intro rfl (And.intro rfl (trivial))) rfl rfl rfl rfl ?_
  refine E_pop pf_134_26 rfl ?_
  exact E_vret pf_134_27 rfl
theorem c135b (hz : (∀ q, -9 ≤ sz q ∧ sz q ≤ 9)) (hd : dn ≤ 4) (hP : (∀ q, -9 ≤ P q ∧ P q ≤ 9)) : ∃ (n' : Nat) (P' : Int → Int), (∀ q, -9 ≤ P' q ∧ P' q ≤ 9) ∧ kl P' n' = insl [] (bxk sz dn) ∧ n' ≤ 16 ∧ ∀ h, Ca 135 [.ref 102, .ref 115] (wd [(102, oX6 rf ts sp d kd vs rw (dn : Int) 1 ((0 : Nat) : Int) rr ac), (105, ar 128 P), (115, ar 4 sz)] h) (.inl none, wd [(102, oX6 rf ts sp d kd vs rw (dn : Int) 1 (n' : Int) rr ac), (105, ar 128 P'), (115, ar 4 sz)] h) := by
  obtain ⟨N, hN⟩ : ∃ N, N = 2 ^ dn := ⟨_, rfl⟩
  have hsh := sh_ok hd
  have hN1 := p2_in hd
  rw [← hN] at hsh hN1
  have loop : ∀ (m s n : Nat) (P : Int → Int), s + m = N → (∀ q, -9 ≤ P q ∧ P q ≤ 9) → kl P n = insl [] ((List.range s).map (bxp sz dn)) → ∃ (n' : Nat) (P' : Int → Int), (∀ q, -9 ≤ P' q ∧ P' q ≤ 9) ∧ kl P' n' = insl [] (bxk sz dn) ∧ n' ≤ 16 ∧ ∀ (h : pd_H) (w4 w5 w6 : Value), Rn 135 15 [.ref 102, .ref 115, .int (ii (dn : Int)), .int (ii (s : Int)), w4, w5, w6] [] (wd [(102, oX6 rf ts sp d kd vs rw (dn : Int) 1 (n : Int) rr ac), (105, ar 128 P), (115, ar 4 sz)] h) (.inl none, wd [(102, oX6 rf ts sp d kd vs rw (dn : Int) 1 (n' : Int) rr ac), (105, ar 128 P'), (115, ar 4 sz)] h) := by
    intro m
    induction m with
    | zero =>
      intro s n P hj hP hk
      obtain rfl : s = N := by omega
      have hn := kl_le hk
      simp only [List.length_map, List.length_range] at hn
      refine ⟨n, P, hP, by rw [hk]; unfold bxk; rw [hN], by omega, fun h w4 w5 w6 => ?_⟩
      refine E_iload pf_135_15 rfl ?_
      refine E_iconst pf_135_16 ?_
      refine E_iload pf_135_17 rfl ?_
      refine E_ishl pf_135_18 ?_
      refine E_top (congrArg Value.int hsh) ?_
      refine E_icmp_ge_t pf_135_19 (by omega) ?_
      exact E_vret pf_135_84 rfl
    | succ m ih =>
      intro s n P hj hP hk
      have hn := kl_le hk
      simp only [List.length_map, List.length_range] at hn
      have h133 := c133 (rf := rf) (ts := ts) (sp := sp) (d := d) (kd := kd) (vs := vs) (rw := rw) (rd := (dn : Int)) (rk := 1) (rr := rr) (ac := ac) (P := P) (n := n) (by omega)
      have inner : ∀ (m2 j : Nat) (A : Int → Int) (h : pd_H) (w5 w6 : Value) (r : pd_Out × pd_H), j + m2 = dn → A = (zcpy (fun i => ((bit s i.toNat : Nat) : Int) * sz i) (zcpy (fun _ => 0) P 0 (4 * (n : Int)) 4) 0 (4 * (n : Int)) (j : Int)) → Rn 135 73 [.ref 102, .ref 115, .int (ii (dn : Int)), .int (ii (s : Int)), .int (ii (dn : Int)), w5, w6] [] (wd [(102, oX6 rf ts sp d kd vs rw (dn : Int) 1 (n : Int) rr ac), (105, ar 128 (zcpy (fun i => ((bit s i.toNat : Nat) : Int) * sz i) (zcpy (fun _ => 0) P 0 (4 * (n : Int)) 4) 0 (4 * (n : Int)) (dn : Int))), (115, ar 4 sz)] h) r → Rn 135 29 [.ref 102, .ref 115, .int (ii (dn : Int)), .int (ii (s : Int)), .int (ii (j : Int)), w5, w6] [] (wd [(102, oX6 rf ts sp d kd vs rw (dn : Int) 1 (n : Int) rr ac), (105, ar 128 A), (115, ar 4 sz)] h) r := by
        intro m2
        induction m2 with
        | zero =>
          intro j A h w5 w6 r hj hA hr
          obtain rfl : j = dn := by omega
          subst hA
          refine E_iload pf_135_29 rfl ?_
          refine E_iload pf_135_31 rfl ?_
          refine E_icmp_ge_t pf_135_32 (by omega) ?_
          exact hr
        | succ m2 ih2 =>
          intro j A h w5 w6 r hj hA hr
          have ih2 := ih2 (j + 1) _ h w5 w6 r (by omega) (zcpy_s _ _ _ _ _).symm hr
          rw [← hA, Int.zero_add] at ih2
          have hbt := bt_ok (s := s) (j := j) (by omega) (by omega)
          rcases bit_in s j with q | q
          · have e5 : ((bit s (j : Int).toNat : Nat) : Int) * sz (j : Int) = 0 := by show ((bit s j : Nat) : Int) * sz (j : Int) = 0; rw [q]; omega
            simp only [e5] at ih2
            rw [q] at hbt
            refine E_iload pf_135_29 rfl ?_
            refine E_iload pf_135_31 rfl ?_
            refine E_icmp_ge_f pf_135_32 (by omega) ?_
            refine E_aload pf_135_35 rfl ?_
            refine F_getf pf_135_36 rfl rfl rfl ?_
            refine E_iconst pf_135_39 ?_
            refine E_aload pf_135_40 rfl ?_
            refine F_getf pf_135_41 rfl rfl rfl ?_
            refine E_imul pf_135_44 ?_
            refine E_iload pf_135_45 rfl ?_
            refine E_iadd pf_135_47 ?_
            refine E_iload pf_135_48 rfl ?_
            refine E_iload pf_135_49 rfl ?_
            refine E_ishr pf_135_51 ?_
            refine E_iconst pf_135_52 ?_
            refine E_iand pf_135_53 ?_
            refine E_top (congrArg Value.int hbt) ?_
            refine E_iconst pf_135_54 ?_
            refine E_icmp_ne_t pf_135_55 (by omega) ?_
            refine E_iconst pf_135_65 ?_
            refine F_iast (l' := [(_, _), (_, _), (_, _)]) pf_135_66 rfl (by omega) rfl ?_
            refine E_iinc (lv' := [_, _, _, _, _, _, _]) pf_135_67 rfl rfl ?_
            refine E_goto pf_135_70 ?_
            exact ih2
          · have e5 : ((bit s (j : Int).toNat : Nat) : Int) * sz (j : Int) = sz (j : Int) := by show ((bit s j : Nat) : Int) * sz (j : Int) = sz (j : Int); rw [q]; omega
            simp only [e5] at ih2
            rw [q] at hbt
            refine E_iload pf_135_29 rfl ?_
            refine E_iload pf_135_31 rfl ?_
            refine E_icmp_ge_f pf_135_32 (by omega) ?_
            refine E_aload pf_135_35 rfl ?_
            refine F_getf pf_135_36 rfl rfl rfl ?_
            refine E_iconst pf_135_39 ?_
            refine E_aload pf_135_40 rfl ?_
            refine F_getf pf_135_41 rfl rfl rfl ?_
            refine E_imul pf_135_44 ?_
            refine E_iload pf_135_45 rfl ?_
            refine E_iadd pf_135_47 ?_
            refine E_iload pf_135_48 rfl ?_
            refine E_iload pf_135_49 rfl ?_
            refine E_ishr pf_135_51 ?_
            refine E_iconst pf_135_52 ?_
            refine E_iand pf_135_53 ?_
            refine E_top (congrArg Value.int hbt) ?_
            refine E_iconst pf_135_54 ?_
            refine E_icmp_ne_f pf_135_55 (by omega) ?_
            refine E_aload pf_135_58 rfl ?_
            refine E_iload pf_135_59 rfl ?_
            refine F_iald pf_135_61 rfl (by omega) ?_
            refine E_goto pf_135_62 ?_
            refine F_iast (l' := [(_, _), (_, _), (_, _)]) pf_135_66 rfl (by omega) rfl ?_
            refine E_iinc (lv' := [_, _, _, _, _, _, _]) pf_135_67 rfl rfl ?_
            refine E_goto pf_135_70 ?_
            exact ih2
      have hbg : ∀ q, -9 ≤ (((bit s q.toNat : Nat) : Int) * sz q) ∧ (((bit s q.toNat : Nat) : Int) * sz q) ≤ 9 := fun q => by
        have := hz q
        rcases bit_in s q.toNat with e | e <;> rw [e] <;> omega
      have ek : ky (zcpy (fun i => ((bit s i.toNat : Nat) : Int) * sz i) (zcpy (fun _ => 0) P 0 (4 * (n : Int)) 4) 0 (4 * (n : Int)) (dn : Int)) (4 * (n : Int)) = bxp sz dn s := ky_congr fun i h1 h2 => by
        show _ = if 0 + i < (dn : Int) then ((bit s (0 + i).toNat : Nat) : Int) * sz (0 + i) else 0
        rw [Int.zero_add]
        by_cases e : i < (dn : Int)
        · rw [zcpy_at (by omega), if_pos e]
          rw [show (0 : Int) + (4 * (n : Int) + i - 4 * (n : Int)) = i by omega]
        · rw [zcpy_out (by omega), if_neg e, z0_at ⟨h1, h2⟩]
      have ekl : kl (zcpy (fun i => ((bit s i.toNat : Nat) : Int) * sz i) (zcpy (fun _ => 0) P 0 (4 * (n : Int)) 4) 0 (4 * (n : Int)) (dn : Int)) n = kl P n := by rw [z0_kl, z0_kl]
      obtain ⟨n1, P1, h1, h2, h3, h132⟩ := c132 (rf := rf) (ts := ts) (sp := sp) (d := d) (kd := kd) (vs := vs) (rw := rw) (rd := (dn : Int)) (rk := 1) (rr := rr) (ac := ac) (n := n) (P := (zcpy (fun i => ((bit s i.toNat : Nat) : Int) * sz i) (zcpy (fun _ => 0) P 0 (4 * (n : Int)) 4) 0 (4 * (n : Int)) (dn : Int))) (by omega) (zcpy_b9 hbg (z0_b9 hP)) (by rw [ekl, hk]; exact insl_s0 _)
      obtain ⟨n2, P2, g1, g2, g3, g4⟩ := ih (s + 1) n1 P1 (by omega) h1 (by rw [h2, ekl, hk, ek, ← insl_snoc, rgm_s])
      refine ⟨n2, P2, g1, g2, g3, fun h w4 w5 w6 => ?_⟩
      refine E_iload pf_135_15 rfl ?_
      refine E_iconst pf_135_16 ?_
      refine E_iload pf_135_17 rfl ?_
      refine E_ishl pf_135_18 ?_
      refine E_top (congrArg Value.int hsh) ?_
      refine E_icmp_ge_f pf_135_19 (by omega) ?_
      refine E_aload pf_135_22 rfl ?_
      refine F_v1u (l' := [(_, _), (_, _), (_, _)]) pf_135_23 (h133) (And.intro rfl (And.intro rfl (trivial))) rfl rfl rfl rfl ?_
      refine E_iconst pf_135_26 ?_
      refine E_istore (lv' := [_, _, _, _, _, _, _]) pf_135_27 rfl rfl ?_
      refine inner dn 0 _ h _ _ _ (by omega) (zcpy_0 _ _ _ _).symm ?_
      refine E_aload pf_135_73 rfl ?_
      refine F_v1v (l' := [(_, _), (_, _), (_, _)]) pf_135_74 (h132) (And.intro rfl (And.intro rfl (trivial))) rfl rfl rfl rfl ?_
      refine E_pop pf_135_77 rfl ?_
      refine E_iinc (lv' := [_, _, _, _, _, _, _]) pf_135_78 rfl rfl ?_
      refine E_goto pf_135_81 ?_
      exact g4 h _ _ _
  obtain ⟨n2, P2, g1, g2, g3, g4⟩ := loop N 0 0 P (by omega) hP rfl
  refine ⟨n2, P2, g1, g2, g3, fun h => ?_⟩
  refine E_in (lv := [_, _, _, _, _, _, _]) rfl ?_
  refine E_aload pf_135_0 rfl ?_
  refine F_getf pf_135_1 rfl rfl rfl ?_
  refine E_istore (lv' := [_, _, _, _, _, _, _]) pf_135_4 rfl rfl ?_
  refine E_aload pf_135_5 rfl ?_
  refine F_getf pf_135_6 rfl rfl rfl ?_
  refine E_iconst pf_135_9 ?_
  refine E_icmp_ne_f pf_135_10 (by omega) ?_
  refine E_iconst pf_135_13 ?_
  refine E_istore (lv' := [_, _, _, _, _, _, _]) pf_135_14 rfl rfl ?_
  exact g4 h _ _ _
theorem c135o (hz : (∀ q, -9 ≤ sz q ∧ sz q ≤ 9)) (hd : 1 ≤ dn ∧ dn ≤ 4) (hP : (∀ q, -9 ≤ P q ∧ P q ≤ 9)) : ∃ (n' : Nat) (P' : Int → Int), (∀ q, -9 ≤ P' q ∧ P' q ≤ 9) ∧ kl P' n' = insl [] (ark sz dn) ∧ n' ≤ 24 ∧ ∀ h, Ca 135 [.ref 102, .ref 115] (wd [(102, oX6 rf ts sp d kd vs rw (dn : Int) 3 ((0 : Nat) : Int) rr ac), (105, ar 128 P), (115, ar 4 sz)] h) (.inl none, wd [(102, oX6 rf ts sp d kd vs rw (dn : Int) 3 (n' : Int) rr ac), (105, ar 128 P'), (115, ar 4 sz)] h) := by
  obtain ⟨N, hN⟩ : ∃ N, N = 2 ^ dn := ⟨_, rfl⟩
  obtain ⟨M, hM⟩ : ∃ M, M = 4 ^ dn := ⟨_, rfl⟩
  have hsh := sh_ok hd.2
  have hN1 := p2_in hd.2
  have hsh4 := sh4_ok hd.2
  have hM1 := p4_in hd.2
  rw [← hN] at hsh hN1
  rw [← hM] at hsh4 hM1
  have loop : ∀ (m s n : Nat) (P : Int → Int), s + m = 256 → (∀ q, -9 ≤ P q ∧ P q ≤ 9) → kl P n = insl [] (((List.range s).filter (vld dn)).map (mop sz dn)) → ∃ (n' : Nat) (P' : Int → Int), (∀ q, -9 ≤ P' q ∧ P' q ≤ 9) ∧ kl P' n' = insl [] (ark sz dn) ∧ n' ≤ 24 ∧ ∀ (h : pd_H) (w4 w5 w6 : Value), Rn 135 87 [.ref 102, .ref 115, .int (ii (dn : Int)), .int (ii (s : Int)), w4, w5, w6] [] (wd [(102, oX6 rf ts sp d kd vs rw (dn : Int) 3 (n : Int) rr ac), (105, ar 128 P), (115, ar 4 sz)] h) (.inl none, wd [(102, oX6 rf ts sp d kd vs rw (dn : Int) 3 (n' : Int) rr ac), (105, ar 128 P'), (115, ar 4 sz)] h) := by
    intro m
    induction m with
    | zero =>
      intro s n P hj hP hk
      obtain rfl : s = 256 := by omega
      have hn := kl_le hk
      rw [List.length_map] at hn
      have hv := vld_len hd.2 (Nat.le_refl 256)
      refine ⟨n, P, hP, by rw [hk]; exact ark_mok sz hd, by omega, fun h w4 w5 w6 => ?_⟩
      refine E_iload pf_135_87 rfl ?_
      refine E_iconst pf_135_88 ?_
      refine E_icmp_ge_t pf_135_91 (by omega) ?_
      exact E_vret pf_135_183 rfl
    | succ m ih =>
      intro s n P hj hP hk
      have hn := kl_le hk
      rw [List.length_map] at hn
      have hv := vld_len hd.2 (show s ≤ 256 by omega)
      have h133 := c133 (rf := rf) (ts := ts) (sp := sp) (d := d) (kd := kd) (vs := vs) (rw := rw) (rd := (dn : Int)) (rk := 3) (rr := rr) (ac := ac) (P := P) (n := n) (by omega)
      have inner : ∀ (m2 j : Nat) (A : Int → Int) (h : pd_H) (w6 : Value) (r : pd_Out × pd_H), j + m2 = dn → A = (zcpy (fun i => sz ((dgt s i.toNat : Nat) : Int)) (zcpy (fun _ => 0) P 0 (4 * (n : Int)) 4) 0 (4 * (n : Int)) (j : Int)) → (∀ w6 : Value, Rn 135 153 [.ref 102, .ref 115, .int (ii (dn : Int)), .int (ii (s : Int)), .int (ii ((us s dn : Nat) : Int)), .int (ii (dn : Int)), w6] [] (wd [(102, oX6 rf ts sp d kd vs rw (dn : Int) 3 (n : Int) rr ac), (105, ar 128 (zcpy (fun i => sz ((dgt s i.toNat : Nat) : Int)) (zcpy (fun _ => 0) P 0 (4 * (n : Int)) 4) 0 (4 * (n : Int)) (dn : Int))), (115, ar 4 sz)] h) r) → Rn 135 104 [.ref 102, .ref 115, .int (ii (dn : Int)), .int (ii (s : Int)), .int (ii ((us s j : Nat) : Int)), .int (ii (j : Int)), w6] [] (wd [(102, oX6 rf ts sp d kd vs rw (dn : Int) 3 (n : Int) rr ac), (105, ar 128 A), (115, ar 4 sz)] h) r := by
        intro m2
        induction m2 with
        | zero =>
          intro j A h w6 r hj hA hr
          obtain rfl : j = dn := by omega
          subst hA
          refine E_iload pf_135_104 rfl ?_
          refine E_iload pf_135_106 rfl ?_
          refine E_icmp_ge_t pf_135_107 (by omega) ?_
          exact hr _
        | succ m2 ih2 =>
          intro j A h w6 r hj hA hr
          have ih2 := fun w6 => ih2 (j + 1) _ h w6 r (by omega) (zcpy_s _ _ _ _ _).symm hr
          rw [← hA, Int.zero_add] at ih2
          have hdg := dgt_lt s j
          have hok := dgt_ok (c := s) (j := j) (by omega) (by omega)
          have hor := or_ok s j
          refine E_iload pf_135_104 rfl ?_
          refine E_iload pf_135_106 rfl ?_
          refine E_icmp_ge_f pf_135_107 (by omega) ?_
          refine E_iload pf_135_110 rfl ?_
          refine E_iconst pf_135_111 ?_
          refine E_iload pf_135_112 rfl ?_
          refine E_imul pf_135_114 ?_
          refine E_ishr pf_135_115 ?_
          refine E_iconst pf_135_116 ?_
          refine E_iand pf_135_117 ?_
          refine E_top (congrArg Value.int hok) ?_
          refine E_istore (lv' := [_, _, _, _, _, _, _]) pf_135_118 rfl rfl ?_
          refine E_iload pf_135_120 rfl ?_
          refine E_iconst pf_135_122 ?_
          refine E_iload pf_135_123 rfl ?_
          refine E_ishl pf_135_125 ?_
          refine E_ior pf_135_126 ?_
          refine E_top (congrArg Value.int hor) ?_
          refine E_istore (lv' := [_, _, _, _, _, _, _]) pf_135_127 rfl rfl ?_
          refine E_aload pf_135_129 rfl ?_
          refine F_getf pf_135_130 rfl rfl rfl ?_
          refine E_iconst pf_135_133 ?_
          refine E_aload pf_135_134 rfl ?_
          refine F_getf pf_135_135 rfl rfl rfl ?_
          refine E_imul pf_135_138 ?_
          refine E_iload pf_135_139 rfl ?_
          refine E_iadd pf_135_141 ?_
          refine E_aload pf_135_142 rfl ?_
          refine E_iload pf_135_143 rfl ?_
          refine F_iald pf_135_145 rfl (by omega) ?_
          refine F_iast (l' := [(_, _), (_, _), (_, _)]) pf_135_146 rfl (by omega) rfl ?_
          refine E_iinc (lv' := [_, _, _, _, _, _, _]) pf_135_147 rfl rfl ?_
          refine E_goto pf_135_150 ?_
          exact ih2 _
      have ek : ky (zcpy (fun i => sz ((dgt s i.toNat : Nat) : Int)) (zcpy (fun _ => 0) P 0 (4 * (n : Int)) 4) 0 (4 * (n : Int)) (dn : Int)) (4 * (n : Int)) = mop sz dn s := ky_congr fun i h1 h2 => by
        show _ = if 0 + i < (dn : Int) then sz ((dgt s (0 + i).toNat : Nat) : Int) else 0
        rw [Int.zero_add]
        by_cases e : i < (dn : Int)
        · rw [zcpy_at (by omega), if_pos e]
          rw [show (0 : Int) + (4 * (n : Int) + i - 4 * (n : Int)) = i by omega]
        · rw [zcpy_out (by omega), if_neg e, z0_at ⟨h1, h2⟩]
      have ekl : kl (zcpy (fun i => sz ((dgt s i.toNat : Nat) : Int)) (zcpy (fun _ => 0) P 0 (4 * (n : Int)) 4) 0 (4 * (n : Int)) (dn : Int)) n = kl P n := by rw [z0_kl, z0_kl]
      have hb9 := zcpy_b9 (f := (fun i => sz ((dgt s i.toNat : Nat) : Int))) (g := (zcpy (fun _ => 0) P 0 (4 * (n : Int)) 4)) (sp := 0) (dp := 4 * (n : Int)) (n := (dn : Int)) (fun q => hz _) (z0_b9 hP)
      have hus := us_lt s dn
      by_cases e1 : us s dn = N - 1 ∧ s < M
      · have ev : vld dn s = true := by unfold vld; rw [← hN, ← hM, e1.1]; simp [e1.2]
        have er : (List.range (s + 1)).filter (vld dn) = (List.range s).filter (vld dn) ++ [s] := by rw [List.range_succ, List.filter_append, List.filter_cons_of_pos ev]; rfl
        obtain ⟨n1, P1, h1, h2, h3, h132⟩ := c132 (rf := rf) (ts := ts) (sp := sp) (d := d) (kd := kd) (vs := vs) (rw := rw) (rd := (dn : Int)) (rk := 3) (rr := rr) (ac := ac) (n := n) (P := (zcpy (fun i => sz ((dgt s i.toNat : Nat) : Int)) (zcpy (fun _ => 0) P 0 (4 * (n : Int)) 4) 0 (4 * (n : Int)) (dn : Int))) (by omega) hb9 (by rw [ekl, hk]; exact insl_s0 _)
        obtain ⟨n2, P2, g1, g2, g3, g4⟩ := ih (s + 1) n1 P1 (by omega) h1 (by rw [h2, ekl, hk, ek, ← insl_snoc, er, List.map_append]; rfl)
        refine ⟨n2, P2, g1, g2, g3, fun h w4 w5 w6 => ?_⟩
        refine E_iload pf_135_87 rfl ?_
        refine E_iconst pf_135_88 ?_
        refine E_icmp_ge_f pf_135_91 (by omega) ?_
        refine E_iconst pf_135_94 ?_
        refine E_istore (lv' := [_, _, _, _, _, _, _]) pf_135_95 rfl rfl ?_
        refine E_aload pf_135_97 rfl ?_
        refine F_v1u (l' := [(_, _), (_, _), (_, _)]) pf_135_98 (h133) (And.intro rfl (And.intro rfl (trivial))) rfl rfl rfl rfl ?_
        refine E_iconst pf_135_101 ?_
        refine E_istore (lv' := [_, _, _, _, _, _, _]) pf_135_102 rfl rfl ?_
        refine inner dn 0 _ h _ _ (by omega) (zcpy_0 _ _ _ _).symm fun w6 => ?_
        refine E_iload pf_135_153 rfl ?_
        refine E_iconst pf_135_155 ?_
        refine E_iload pf_135_156 rfl ?_
        refine E_ishl pf_135_157 ?_
        refine E_top (congrArg Value.int hsh) ?_
        refine E_iconst pf_135_158 ?_
        refine E_isub pf_135_159 ?_
        refine E_icmp_ne_f pf_135_160 (by omega) ?_
        refine E_iload pf_135_163 rfl ?_
        refine E_iconst pf_135_164 ?_
        refine E_iconst pf_135_165 ?_
        refine E_iload pf_135_166 rfl ?_
        refine E_imul pf_135_167 ?_
        refine E_ishl pf_135_168 ?_
        refine E_top (congrArg Value.int hsh4) ?_
        refine E_icmp_ge_f pf_135_169 (by omega) ?_
        refine E_aload pf_135_172 rfl ?_
        refine F_v1v (l' := [(_, _), (_, _), (_, _)]) pf_135_173 (h132) (And.intro rfl (And.intro rfl (trivial))) rfl rfl rfl rfl ?_
        refine E_pop pf_135_176 rfl ?_
        refine E_iinc (lv' := [_, _, _, _, _, _, _]) pf_135_177 rfl rfl ?_
        refine E_goto pf_135_180 ?_
        exact g4 h _ _ _
      · have ev : ¬ vld dn s = true := by
          unfold vld; rw [← hN, ← hM]; simp only [Bool.and_eq_true, beq_iff_eq, decide_eq_true_eq]; exact e1
        have er : (List.range (s + 1)).filter (vld dn) = (List.range s).filter (vld dn) := by rw [List.range_succ, List.filter_append, List.filter_cons_of_neg ev]; simp
        obtain ⟨n2, P2, g1, g2, g3, g4⟩ := ih (s + 1) n _ (by omega) hb9 (by rw [ekl, hk, er])
        refine ⟨n2, P2, g1, g2, g3, fun h w4 w5 w6 => ?_⟩
        refine E_iload pf_135_87 rfl ?_
        refine E_iconst pf_135_88 ?_
        refine E_icmp_ge_f pf_135_91 (by omega) ?_
        refine E_iconst pf_135_94 ?_
        refine E_istore (lv' := [_, _, _, _, _, _, _]) pf_135_95 rfl rfl ?_
        refine E_aload pf_135_97 rfl ?_
        refine F_v1u (l' := [(_, _), (_, _), (_, _)]) pf_135_98 (h133) (And.intro rfl (And.intro rfl (trivial))) rfl rfl rfl rfl ?_
        refine E_iconst pf_135_101 ?_
        refine E_istore (lv' := [_, _, _, _, _, _, _]) pf_135_102 rfl rfl ?_
        refine inner dn 0 _ h _ _ (by omega) (zcpy_0 _ _ _ _).symm fun w6 => ?_
        by_cases e2 : us s dn = N - 1
        · have e3 : ¬ s < M := fun q => e1 ⟨e2, q⟩
          refine E_iload pf_135_153 rfl ?_
          refine E_iconst pf_135_155 ?_
          refine E_iload pf_135_156 rfl ?_
          refine E_ishl pf_135_157 ?_
          refine E_top (congrArg Value.int hsh) ?_
          refine E_iconst pf_135_158 ?_
          refine E_isub pf_135_159 ?_
          refine E_icmp_ne_f pf_135_160 (by omega) ?_
          refine E_iload pf_135_163 rfl ?_
          refine E_iconst pf_135_164 ?_
          refine E_iconst pf_135_165 ?_
          refine E_iload pf_135_166 rfl ?_
          refine E_imul pf_135_167 ?_
          refine E_ishl pf_135_168 ?_
          refine E_top (congrArg Value.int hsh4) ?_
          refine E_icmp_ge_t pf_135_169 (by omega) ?_
          refine E_iinc (lv' := [_, _, _, _, _, _, _]) pf_135_177 rfl rfl ?_
          refine E_goto pf_135_180 ?_
          exact g4 h _ _ _
        ·
          refine E_iload pf_135_153 rfl ?_
          refine E_iconst pf_135_155 ?_
          refine E_iload pf_135_156 rfl ?_
          refine E_ishl pf_135_157 ?_
          refine E_top (congrArg Value.int hsh) ?_
          refine E_iconst pf_135_158 ?_
          refine E_isub pf_135_159 ?_
          refine E_icmp_ne_t pf_135_160 (by omega) ?_
          refine E_iinc (lv' := [_, _, _, _, _, _, _]) pf_135_177 rfl rfl ?_
          refine E_goto pf_135_180 ?_
          exact g4 h _ _ _
  obtain ⟨n2, P2, g1, g2, g3, g4⟩ := loop 256 0 0 P (by omega) hP rfl
  refine ⟨n2, P2, g1, g2, g3, fun h => ?_⟩
  refine E_in (lv := [_, _, _, _, _, _, _]) rfl ?_
  refine E_aload pf_135_0 rfl ?_
  refine F_getf pf_135_1 rfl rfl rfl ?_
  refine E_istore (lv' := [_, _, _, _, _, _, _]) pf_135_4 rfl rfl ?_
  refine E_aload pf_135_5 rfl ?_
  refine F_getf pf_135_6 rfl rfl rfl ?_
  refine E_iconst pf_135_9 ?_
  refine E_icmp_ne_t pf_135_10 (by omega) ?_
  refine E_iconst pf_135_85 ?_
  refine E_istore (lv' := [_, _, _, _, _, _, _]) pf_135_86 rfl rfl ?_
  exact g4 h _ _ _
/-- what is built hangs on the numbers that there are -/
theorem bks_congr {k : Int} {sz sz' : Int → Int} (hk : 0 ≤ k ∧ k ≤ 3) (h0 : sz 0 = sz' 0) (h : k % 2 = 1 → ∀ j : Int, 0 ≤ j → j < dn → sz j = sz' j) : bks k sz dn = bks k sz' dn := by
  have hk4 : k = 0 ∨ k = 1 ∨ k = 2 ∨ k = 3 := by omega
  rcases hk4 with q | q | q | q <;> subst q
  · show 0 :: axk (sz 0) dn = 0 :: axk (sz' 0) dn; rw [h0]
  · show bxk sz dn = bxk sz' dn
    have h := h (by decide)
    unfold bxk
    refine List.map_congr_left fun s _ => ky_congr fun i h1 h2 => ?_
    rw [Int.zero_add]
    show (if i < (dn : Int) then _ else _) = (if i < (dn : Int) then _ else _)
    split
    · rw [h i h1 (by omega)]
    · rfl
  · show axk (sz 0) dn ++ axk (- sz 0) dn = axk (sz' 0) dn ++ axk (- sz' 0) dn; rw [h0]
  · show ark sz dn = ark sz' dn
    have h := h (by decide)
    unfold ark
    refine List.map_congr_left fun s _ => ky_congr fun i h1 h2 => ?_
    rw [Int.zero_add]
    show (if i < (dn : Int) then _ else _) = (if i < (dn : Int) then _ else _)
    split
    · have h5 := arx_in (B := (dn : Int)) dn (s : Int) id i.toNat (fun q h1 h2 => ⟨h1, h2⟩) (by omega) (by omega)
      rw [h _ h5.1 h5.2]
    · rfl
end TAK
