/-! The plain public methods, both sides. -/
abbrev oPD (tl : Int) : pd_E := ob 5 [.ref 2, .int (ii tl), .ref 3, .ref 13, .ref 18, .ref 24, .ref 28, .ref 32, .ref 90, .ref 99, .ref 17, .ref 100, .ref 101]
theorem thr_wd (l : pd_L) (h : pd_H) : pd_thr (wd l h) = wd l (pd_thr h) := by
  induction l with
  | nil => rfl
  | cons q l ih =>
    show pd_thr (pd_put (wd l h) q.1 q.2) = pd_put (wd l (pd_thr h)) q.1 q.2
    rw [← ih]; rfl
theorem Ca_frx {c : Nat} {as : List Value} {lc lc' l l' : pd_L} {v : pd_Out} (hc : ∀ h, Ca c as (wd lc h) (v, pd_thr (wd lc' h))) (hs : wsub l lc) (ha : wad l lc' = true) (hm : wsm l lc' = l') : ∀ h, Ca c as (wd l h) (v, pd_thr (wd l' h)) := by
  intro h
  have := hc (wd l h)
  rw [wd_same hs, wd_merge ha, hm] at this
  exact this
section PUB
variable {T C P R V U r q : Int → Int} {rf ts tl sp d kd vs rw rd rk rv rr ac k st dr : Int} {m dn rn vn n : Nat}
theorem c95 {a b : Int} (hb : (-2147483648 ≤ b ∧ b ≤ 2147483647)) (h1 : 0 ≤ a ∧ a < b) : ∀ h, Ca 95 [.int (ii a), .int (ii b)] (wd [] h) (.inl none, wd [] h) := by
  intro h
  refine E_in (lv := [_, _]) rfl ?_
  refine E_iload pf_95_0 rfl ?_
  refine E_if_lt_f pf_95_1 (by omega) ?_
  refine E_iload pf_95_4 rfl ?_
  refine E_iload pf_95_5 rfl ?_
  refine E_icmp_lt_t pf_95_6 (by omega) ?_
  exact E_vret pf_95_20 rfl
theorem c95x {a b : Int} (ha : (-2147483648 ≤ a ∧ a ≤ 2147483647)) (hb : (-2147483648 ≤ b ∧ b ≤ 2147483647)) (h1 : ¬ (0 ≤ a ∧ a < b)) : ∀ h, Ca 95 [.int (ii a), .int (ii b)] h (.inr 2, pd_thr h) := by
  intro h
  refine E_in (lv := [_, _]) rfl ?_
  by_cases e : a < 0
  ·
    refine E_iload pf_95_0 rfl ?_
    refine E_if_lt_t pf_95_1 (by omega) ?_
    exact E_throw pf_95_9 rfl rfl rfl rfl
  ·
    refine E_iload pf_95_0 rfl ?_
    refine E_if_lt_f pf_95_1 (by omega) ?_
    refine E_iload pf_95_4 rfl ?_
    refine E_iload pf_95_5 rfl ?_
    refine E_icmp_lt_f pf_95_6 (by omega) ?_
    exact E_throw pf_95_9 rfl rfl rfl rfl
theorem c96  : ∀ h, Ca 96 [.int (ii 1)] (wd [] h) (.inl none, wd [] h) := by
  intro h
  refine E_in (lv := [_]) rfl ?_
  refine E_iload pf_96_0 rfl ?_
  refine E_if_ne_t pf_96_1 (by omega) ?_
  exact E_vret pf_96_15 rfl
theorem c96x : ∀ h, Ca 96 [.int (ii 0)] h (.inr 0, pd_thr h) := by
  intro h
  refine E_in (lv := [_]) rfl ?_
  refine E_iload pf_96_0 rfl ?_
  refine E_if_ne_f pf_96_1 (by omega) ?_
  exact E_throw pf_96_4 rfl rfl rfl rfl
theorem c97t {a : Int} (h1 : 0 ≤ a ∧ a ≤ 2) : ∀ h, Ca 97 [.int (ii a)] (wd [] h) (.inl (some (.int (ii 1))), wd [] h) := by
  intro h
  refine E_in (lv := [_]) rfl ?_
  refine E_iload pf_97_0 rfl ?_
  refine E_if_lt_f pf_97_1 (by omega) ?_
  refine E_iload pf_97_4 rfl ?_
  refine E_iconst pf_97_5 ?_
  refine E_icmp_gt_f pf_97_6 (by omega) ?_
  refine E_iconst pf_97_9 ?_
  refine E_goto pf_97_10 ?_
  exact E_iret pf_97_14 rfl
theorem c97f {a : Int} (ha : (-2147483648 ≤ a ∧ a ≤ 2147483647)) (h1 : ¬ (0 ≤ a ∧ a ≤ 2)) : ∀ h, Ca 97 [.int (ii a)] (wd [] h) (.inl (some (.int (ii 0))), wd [] h) := by
  intro h
  refine E_in (lv := [_]) rfl ?_
  by_cases e : a < 0
  ·
    refine E_iload pf_97_0 rfl ?_
    refine E_if_lt_t pf_97_1 (by omega) ?_
    refine E_iconst pf_97_13 ?_
    exact E_iret pf_97_14 rfl
  ·
    refine E_iload pf_97_0 rfl ?_
    refine E_if_lt_f pf_97_1 (by omega) ?_
    refine E_iload pf_97_4 rfl ?_
    refine E_iconst pf_97_5 ?_
    refine E_icmp_gt_t pf_97_6 (by omega) ?_
    refine E_iconst pf_97_13 ?_
    exact E_iret pf_97_14 rfl
theorem c98t {a : Int} (h1 : -999 ≤ a ∧ a ≤ 999) : ∀ h, Ca 98 [.int (ii a)] (wd [] h) (.inl (some (.int (ii 1))), wd [] h) := by
  intro h
  refine E_in (lv := [_]) rfl ?_
  refine E_iload pf_98_0 rfl ?_
  refine E_iconst pf_98_1 ?_
  refine E_icmp_lt_f pf_98_4 (by omega) ?_
  refine E_iload pf_98_7 rfl ?_
  refine E_iconst pf_98_8 ?_
  refine E_icmp_gt_f pf_98_11 (by omega) ?_
  refine E_iconst pf_98_14 ?_
  refine E_goto pf_98_15 ?_
  exact E_iret pf_98_19 rfl
theorem c98f {a : Int} (ha : (-2147483648 ≤ a ∧ a ≤ 2147483647)) (h1 : ¬ (-999 ≤ a ∧ a ≤ 999)) : ∀ h, Ca 98 [.int (ii a)] (wd [] h) (.inl (some (.int (ii 0))), wd [] h) := by
  intro h
  refine E_in (lv := [_]) rfl ?_
  by_cases e : a < -999
  ·
    refine E_iload pf_98_0 rfl ?_
    refine E_iconst pf_98_1 ?_
    refine E_icmp_lt_t pf_98_4 (by omega) ?_
    refine E_iconst pf_98_18 ?_
    exact E_iret pf_98_19 rfl
  ·
    refine E_iload pf_98_0 rfl ?_
    refine E_iconst pf_98_1 ?_
    refine E_icmp_lt_f pf_98_4 (by omega) ?_
    refine E_iload pf_98_7 rfl ?_
    refine E_iconst pf_98_8 ?_
    refine E_icmp_gt_t pf_98_11 (by omega) ?_
    refine E_iconst pf_98_18 ?_
    exact E_iret pf_98_19 rfl
theorem c100 {a j : Int} (hj : (-2147483648 ≤ j ∧ j ≤ 2147483647)) (hd : dn ≤ 4) : ∀ h, Ca 100 [.ref 1, .int (ii a), .int (ii j)] (wd [(1, oPD tl), (13, oP (dn : Int) k (vn : Int))] h) (.inl (some (.int (ii (a * 5 + (if j = (dn : Int) then 4 else j))))), wd [(1, oPD tl), (13, oP (dn : Int) k (vn : Int))] h) := by
  intro h
  refine E_in (lv := [_, _, _]) rfl ?_
  by_cases e : j = (dn : Int)
  · rw [if_pos e]
    refine E_iload pf_100_0 rfl ?_
    refine E_iconst pf_100_1 ?_
    refine E_imul pf_100_2 ?_
    refine E_iload pf_100_3 rfl ?_
    refine E_aload pf_100_4 rfl ?_
    refine F_getf pf_100_5 rfl rfl rfl ?_
    refine F_getf pf_100_8 rfl rfl rfl ?_
    refine E_icmp_ne_f pf_100_11 (by omega) ?_
    refine E_iconst pf_100_14 ?_
    refine E_goto pf_100_15 ?_
    refine E_iadd pf_100_19 ?_
    exact E_iret pf_100_20 rfl
  · rw [if_neg e]
    refine E_iload pf_100_0 rfl ?_
    refine E_iconst pf_100_1 ?_
    refine E_imul pf_100_2 ?_
    refine E_iload pf_100_3 rfl ?_
    refine E_aload pf_100_4 rfl ?_
    refine F_getf pf_100_5 rfl rfl rfl ?_
    refine F_getf pf_100_8 rfl rfl rfl ?_
    refine E_icmp_ne_t pf_100_11 (by omega) ?_
    refine E_iload pf_100_18 rfl ?_
    refine E_iadd pf_100_19 ?_
    exact E_iret pf_100_20 rfl
theorem c109t {v lo hi : Int} (e : (-9223372036854775808 ≤ v ∧ v ≤ 9223372036854775807) ∧ (-9223372036854775808 ≤ lo ∧ lo ≤ 9223372036854775807) ∧ (-9223372036854775808 ≤ hi ∧ hi ≤ 9223372036854775807)) (h1 : lo ≤ v ∧ v ≤ hi) : ∀ h, Ca 109 [.long (ll v), .long (ll lo), .long (ll hi)] (wd [] h) (.inl (some (.int (ii 1))), wd [] h) := by
  have := c109 e; rwa [zb_t h1] at this
theorem c109f {v lo hi : Int} (e : (-9223372036854775808 ≤ v ∧ v ≤ 9223372036854775807) ∧ (-9223372036854775808 ≤ lo ∧ lo ≤ 9223372036854775807) ∧ (-9223372036854775808 ≤ hi ∧ hi ≤ 9223372036854775807)) (h1 : ¬ (lo ≤ v ∧ v ≤ hi)) : ∀ h, Ca 109 [.long (ll v), .long (ll lo), .long (ll hi)] (wd [] h) (.inl (some (.int (ii 0))), wd [] h) := by
  have := c109 e; rwa [zb_f h1] at this
theorem c108_0 : ∀ h, Ca 108 [.ref 102, .int (ii 0)] (wd [(102, oX6 rf ts sp d kd vs rw rd rk rv rr ac)] h) (.inl (some (.int (ii 0))), wd [(102, oX6 0 ts sp d kd vs rw rd rk rv rr ac)] h) := by
  have := c108 (rf := rf) (ts := ts) (sp := sp) (d := d) (k := kd) (vs := vs) (rw := rw) (rd := rd) (rk := rk) (rv := rv) (rr := rr) (ac := ac) (q := 0) (by omega)
  rwa [zb_f (by omega)] at this
theorem c108_1 : ∀ h, Ca 108 [.ref 102, .int (ii 1)] (wd [(102, oX6 rf ts sp d kd vs rw rd rk rv rr ac)] h) (.inl (some (.int (ii 1))), wd [(102, oX6 1 ts sp d kd vs rw rd rk rv rr ac)] h) := by
  have := c108 (rf := rf) (ts := ts) (sp := sp) (d := d) (k := kd) (vs := vs) (rw := rw) (rd := rd) (rk := rk) (rv := rv) (rr := rr) (ac := ac) (q := 1) (by omega)
  rwa [zb_t (by omega)] at this
theorem c108_2 : ∀ h, Ca 108 [.ref 102, .int (ii 2)] (wd [(102, oX6 rf ts sp d kd vs rw rd rk rv rr ac)] h) (.inl (some (.int (ii 1))), wd [(102, oX6 2 ts sp d kd vs rw rd rk rv rr ac)] h) := by
  have := c108 (rf := rf) (ts := ts) (sp := sp) (d := d) (k := kd) (vs := vs) (rw := rw) (rd := rd) (rk := rk) (rv := rv) (rr := rr) (ac := ac) (q := 2) (by omega)
  rwa [zb_t (by omega)] at this
theorem c111t {v : Int} (hvs : 0 ≤ vs ∧ vs ≤ 100) (h1 : 0 ≤ v ∧ v < vs) : ∀ h, Ca 111 [.ref 102, .int (ii v)] (wd [(102, oX6 rf ts sp d kd vs rw rd rk rv rr ac)] h) (.inl (some (.int (ii 1))), wd [(102, oX6 rf ts sp d kd vs rw rd rk rv rr ac)] h) := by
  have := c111 (rf := rf) (ts := ts) (sp := sp) (d := d) (k := kd) (vs := vs) (rw := rw) (rd := rd) (rk := rk) (rv := rv) (rr := rr) (ac := ac) (v := v) (by omega) hvs
  rwa [zb_t (by omega)] at this
theorem c111f {v : Int} (hv : (-2147483648 ≤ v ∧ v ≤ 2147483647)) (hvs : 0 ≤ vs ∧ vs ≤ 100) (h1 : ¬ (0 ≤ v ∧ v < vs)) : ∀ h, Ca 111 [.ref 102, .int (ii v)] (wd [(102, oX6 rf ts sp d kd vs rw rd rk rv rr ac)] h) (.inl (some (.int (ii 0))), wd [(102, oX6 rf ts sp d kd vs rw rd rk rv rr ac)] h) := by
  have := c111 (rf := rf) (ts := ts) (sp := sp) (d := d) (k := kd) (vs := vs) (rw := rw) (rd := rd) (rk := rk) (rv := rv) (rr := rr) (ac := ac) (v := v) hv hvs
  rwa [zb_f (by omega)] at this
theorem c63a {c : Int} (h1 : 0 ≤ c ∧ c ≤ 255) (ht : 0 ≤ tl ∧ tl < 90) : ∀ h, Ca 63 [.ref 1, .int (ii c)] (wd [(1, oPD tl), (2, ar 90 T)] h) (.inl (some (.int (ii (tl + 1)))), wd [(1, oPD (tl + 1)), (2, ar 90 (zu T tl c))] h) := by
  intro h
  refine E_in (lv := [_, _]) rfl ?_
  refine E_iload pf_63_0 rfl ?_
  refine E_if_lt_f pf_63_1 (by omega) ?_
  refine E_iload pf_63_4 rfl ?_
  refine E_iconst pf_63_5 ?_
  refine E_icmp_gt_f pf_63_8 (by omega) ?_
  refine E_iconst pf_63_11 ?_
  refine E_goto pf_63_12 ?_
  refine F_c1u0 pf_63_16 (c96) (trivial) rfl ?_
  refine E_aload pf_63_19 rfl ?_
  refine F_getf pf_63_20 rfl rfl rfl ?_
  refine E_if_lt_f pf_63_23 (by omega) ?_
  refine E_aload pf_63_26 rfl ?_
  refine F_getf pf_63_27 rfl rfl rfl ?_
  refine E_iconst pf_63_30 ?_
  refine E_icmp_lt_t pf_63_32 (by omega) ?_
  refine E_aload pf_63_45 rfl ?_
  refine F_getf pf_63_46 rfl rfl rfl ?_
  refine E_aload pf_63_49 rfl ?_
  refine F_getf pf_63_50 rfl rfl rfl ?_
  refine E_iload pf_63_53 rfl ?_
  refine F_iast (l' := [(_, _), (_, _)]) pf_63_54 rfl (by omega) rfl ?_
  refine E_aload pf_63_55 rfl ?_
  refine E_dup pf_63_56 rfl ?_
  refine F_getf pf_63_57 rfl rfl rfl ?_
  refine E_iconst pf_63_60 ?_
  refine E_iadd pf_63_61 ?_
  refine F_putf (l' := [(_, _), (_, _)]) (x := ob _ [_, _, _, _, _, _, _, _, _, _, _, _, _]) pf_63_62 rfl rfl rfl rfl rfl ?_
  refine E_aload pf_63_65 rfl ?_
  refine F_getf pf_63_66 rfl rfl rfl ?_
  exact E_iret pf_63_69 rfl
theorem c63x {c : Int} (hc : (-2147483648 ≤ c ∧ c ≤ 2147483647)) (h1 : ¬ (0 ≤ c ∧ c ≤ 255)) : ∀ h, Ca 63 [.ref 1, .int (ii c)] (wd [(1, oPD tl)] h) (.inr 0, pd_thr (wd [(1, oPD tl)] h)) := by
  intro h
  refine E_in (lv := [_, _]) rfl ?_
  by_cases e : c < 0
  ·
    refine E_iload pf_63_0 rfl ?_
    refine E_if_lt_t pf_63_1 (by omega) ?_
    refine E_iconst pf_63_15 ?_
    exact E_c1x pf_63_16 rfl (c96x _) rfl
  ·
    refine E_iload pf_63_0 rfl ?_
    refine E_if_lt_f pf_63_1 (by omega) ?_
    refine E_iload pf_63_4 rfl ?_
    refine E_iconst pf_63_5 ?_
    refine E_icmp_gt_t pf_63_8 (by omega) ?_
    refine E_iconst pf_63_15 ?_
    exact E_c1x pf_63_16 rfl (c96x _) rfl
theorem c63y {c : Int} (h1 : 0 ≤ c ∧ c ≤ 255) : ∀ h, Ca 63 [.ref 1, .int (ii c)] (wd [(1, oPD 90)] h) (.inr 1, pd_thr (wd [(1, oPD 90)] h)) := by
  intro h
  refine E_in (lv := [_, _]) rfl ?_
  refine E_iload pf_63_0 rfl ?_
  refine E_if_lt_f pf_63_1 (by omega) ?_
  refine E_iload pf_63_4 rfl ?_
  refine E_iconst pf_63_5 ?_
  refine E_icmp_gt_f pf_63_8 (by omega) ?_
  refine E_iconst pf_63_11 ?_
  refine E_goto pf_63_12 ?_
  refine F_c1u0 pf_63_16 (c96) (trivial) rfl ?_
  refine E_aload pf_63_19 rfl ?_
  refine F_getf pf_63_20 rfl rfl rfl ?_
  refine E_if_lt_f pf_63_23 (by omega) ?_
  refine E_aload pf_63_26 rfl ?_
  refine F_getf pf_63_27 rfl rfl rfl ?_
  refine E_iconst pf_63_30 ?_
  refine E_icmp_lt_f pf_63_32 (by omega) ?_
  exact E_throw pf_63_35 rfl rfl rfl rfl
theorem c127a {c : Int} (h1 : 0 ≤ c ∧ c ≤ 255) (ht : 0 ≤ ts ∧ ts < 90) : ∀ h, Ca 127 [.ref 102, .int (ii c)] (wd [(102, oX6 rf ts sp d kd vs rw rd rk rv rr ac), (103, ar 90 T)] h) (.inl (some (.int (ii (ts + 1)))), wd [(102, oX6 0 (ts + 1) sp d kd vs rw rd rk rv rr ac), (103, ar 90 (zu T ts c))] h) := by
  intro h
  refine E_in (lv := [_, _]) rfl ?_
  refine E_aload pf_127_0 rfl ?_
  refine E_iload pf_127_1 rfl ?_
  refine E_i2l pf_127_2 (by omega) ?_
  refine E_lconst pf_127_3 ?_
  refine E_lconst pf_127_4 ?_
  refine F_c3v0 pf_127_7 (c109t (by omega) (by omega)) (trivial) rfl ?_
  refine E_if_ne_t pf_127_10 (by omega) ?_
  refine E_aload pf_127_17 rfl ?_
  refine F_getf pf_127_18 rfl rfl rfl ?_
  refine E_iconst pf_127_21 ?_
  refine E_icmp_ne_t pf_127_23 (by omega) ?_
  refine E_iconst pf_127_30 ?_
  refine F_v2v (l' := [(_, _), (_, _)]) pf_127_31 (c108_0) (And.intro rfl (trivial)) rfl rfl rfl rfl ?_
  refine E_if_eq_t pf_127_34 (by omega) ?_
  refine E_aload pf_127_39 rfl ?_
  refine F_getf pf_127_40 rfl rfl rfl ?_
  refine E_aload pf_127_43 rfl ?_
  refine F_getf pf_127_44 rfl rfl rfl ?_
  refine E_iload pf_127_47 rfl ?_
  refine F_iast (l' := [(_, _), (_, _)]) pf_127_48 rfl (by omega) rfl ?_
  refine E_aload pf_127_49 rfl ?_
  refine E_dup pf_127_50 rfl ?_
  refine F_getf pf_127_51 rfl rfl rfl ?_
  refine E_iconst pf_127_54 ?_
  refine E_iadd pf_127_55 ?_
  refine F_putf (l' := [(_, _), (_, _)]) (x := ob _ [_, _, _, _, _, _, _, _, _, _, _, _, _, _, _, _, _, _, _, _, _, _, _, _, _]) pf_127_56 rfl rfl rfl rfl rfl ?_
  refine E_aload pf_127_59 rfl ?_
  refine F_getf pf_127_60 rfl rfl rfl ?_
  exact E_iret pf_127_63 rfl
theorem c127x {c : Int} (hc : (-2147483648 ≤ c ∧ c ≤ 2147483647)) (h1 : ¬ (0 ≤ c ∧ c ≤ 255)) : ∀ h, Ca 127 [.ref 102, .int (ii c)] (wd [(102, oX6 rf ts sp d kd vs rw rd rk rv rr ac)] h) (.inl (some (.int (ii 0))), wd [(102, oX6 1 ts sp d kd vs rw rd rk rv rr ac)] h) := by
  intro h
  refine E_in (lv := [_, _]) rfl ?_
  refine E_aload pf_127_0 rfl ?_
  refine E_iload pf_127_1 rfl ?_
  refine E_i2l pf_127_2 (by omega) ?_
  refine E_lconst pf_127_3 ?_
  refine E_lconst pf_127_4 ?_
  refine F_c3v0 pf_127_7 (c109f (by omega) (by omega)) (trivial) rfl ?_
  refine E_if_ne_f pf_127_10 (by omega) ?_
  refine E_iconst pf_127_13 ?_
  refine E_goto pf_127_14 ?_
  refine F_v2v (l' := [(_, _)]) pf_127_31 (c108_1) (And.intro rfl (trivial)) rfl rfl rfl rfl ?_
  refine E_if_eq_f pf_127_34 (by omega) ?_
  refine E_iconst pf_127_37 ?_
  exact E_iret pf_127_38 rfl
theorem c127y {c : Int} (h1 : 0 ≤ c ∧ c ≤ 255) : ∀ h, Ca 127 [.ref 102, .int (ii c)] (wd [(102, oX6 rf 90 sp d kd vs rw rd rk rv rr ac)] h) (.inl (some (.int (ii 0))), wd [(102, oX6 2 90 sp d kd vs rw rd rk rv rr ac)] h) := by
  intro h
  refine E_in (lv := [_, _]) rfl ?_
  refine E_aload pf_127_0 rfl ?_
  refine E_iload pf_127_1 rfl ?_
  refine E_i2l pf_127_2 (by omega) ?_
  refine E_lconst pf_127_3 ?_
  refine E_lconst pf_127_4 ?_
  refine F_c3v0 pf_127_7 (c109t (by omega) (by omega)) (trivial) rfl ?_
  refine E_if_ne_t pf_127_10 (by omega) ?_
  refine E_aload pf_127_17 rfl ?_
  refine F_getf pf_127_18 rfl rfl rfl ?_
  refine E_iconst pf_127_21 ?_
  refine E_icmp_ne_f pf_127_23 (by omega) ?_
  refine E_iconst pf_127_26 ?_
  refine E_goto pf_127_27 ?_
  refine F_v2v (l' := [(_, _)]) pf_127_31 (c108_2) (And.intro rfl (trivial)) rfl rfl rfl rfl ?_
  refine E_if_eq_f pf_127_34 (by omega) ?_
  refine E_iconst pf_127_37 ?_
  exact E_iret pf_127_38 rfl
theorem c64  : ∀ h, Ca 64 [.ref 1] (wd [(1, oPD tl)] h) (.inl (some (.int (ii tl))), wd [(1, oPD 0)] h) := by
  intro h
  refine E_in (lv := [_, _]) rfl ?_
  refine E_aload pf_64_0 rfl ?_
  refine F_getf pf_64_1 rfl rfl rfl ?_
  refine E_istore (lv' := [_, _]) pf_64_4 rfl rfl ?_
  refine E_aload pf_64_5 rfl ?_
  refine E_iconst pf_64_6 ?_
  refine F_putf (l' := [(_, _)]) (x := ob _ [_, _, _, _, _, _, _, _, _, _, _, _, _]) pf_64_7 rfl rfl rfl rfl rfl ?_
  refine E_iload pf_64_10 rfl ?_
  exact E_iret pf_64_11 rfl
theorem c128  : ∀ h, Ca 128 [.ref 102] (wd [(102, oX6 rf ts sp d kd vs rw rd rk rv rr ac)] h) (.inl (some (.int (ii ts))), wd [(102, oX6 0 0 sp d kd vs rw rd rk rv rr ac)] h) := by
  intro h
  refine E_in (lv := [_, _]) rfl ?_
  refine E_aload pf_128_0 rfl ?_
  refine E_iconst pf_128_1 ?_
  refine F_putf (l' := [(_, _)]) (x := ob _ [_, _, _, _, _, _, _, _, _, _, _, _, _, _, _, _, _, _, _, _, _, _, _, _, _]) pf_128_2 rfl rfl rfl rfl rfl ?_
  refine E_aload pf_128_5 rfl ?_
  refine F_getf pf_128_6 rfl rfl rfl ?_
  refine E_istore (lv' := [_, _]) pf_128_9 rfl rfl ?_
  refine E_aload pf_128_10 rfl ?_
  refine E_iconst pf_128_11 ?_
  refine F_putf (l' := [(_, _)]) (x := ob _ [_, _, _, _, _, _, _, _, _, _, _, _, _, _, _, _, _, _, _, _, _, _, _, _, _]) pf_128_12 rfl rfl rfl rfl rfl ?_
  refine E_iload pf_128_15 rfl ?_
  exact E_iret pf_128_16 rfl
def ab7 (a0 a1 a2 a3 a4 a5 a6 x : Int) : Int := if x = 0 then a0 else if x = 1 then a1 else if x = 2 then a2 else if x = 3 then a3 else if x = 4 then a4 else if x = 5 then a5 else a6
theorem c67 {x : Int} (hx : 0 ≤ x ∧ x ≤ 6) : ∀ h, Ca 67 [.ref 1, .int (ii x)] (wd [(1, oPD tl), (13, oP d kd vs), (24, oS24 rv (m : Int) st dr)] h) (.inl (some (.int (ii (ab7 d kd vs rv (m : Int) st dr x)))), wd [(1, oPD tl), (13, oP d kd vs), (24, oS24 rv (m : Int) st dr)] h) := by
  intro h
  refine E_in (lv := [_, _]) rfl ?_
  have h7 : x = 0 ∨ x = 1 ∨ x = 2 ∨ x = 3 ∨ x = 4 ∨ x = 5 ∨ x = 6 := by omega
  rcases h7 with e | e | e | e | e | e | e <;> subst e
  ·
    refine E_iload pf_67_0 rfl ?_
    refine E_tsw pf_67_1 (by omega) rfl ?_
    refine E_aload pf_67_44 rfl ?_
    refine F_getf pf_67_45 rfl rfl rfl ?_
    refine F_getf pf_67_48 rfl rfl rfl ?_
    exact E_iret pf_67_51 rfl
  ·
    refine E_iload pf_67_0 rfl ?_
    refine E_tsw pf_67_1 (by omega) rfl ?_
    refine E_aload pf_67_52 rfl ?_
    refine F_getf pf_67_53 rfl rfl rfl ?_
    refine F_getf pf_67_56 rfl rfl rfl ?_
    exact E_iret pf_67_59 rfl
  ·
    refine E_iload pf_67_0 rfl ?_
    refine E_tsw pf_67_1 (by omega) rfl ?_
    refine E_aload pf_67_60 rfl ?_
    refine F_getf pf_67_61 rfl rfl rfl ?_
    refine F_getf pf_67_64 rfl rfl rfl ?_
    exact E_iret pf_67_67 rfl
  ·
    refine E_iload pf_67_0 rfl ?_
    refine E_tsw pf_67_1 (by omega) rfl ?_
    refine E_aload pf_67_68 rfl ?_
    refine F_getf pf_67_69 rfl rfl rfl ?_
    refine F_getf pf_67_72 rfl rfl rfl ?_
    exact E_iret pf_67_75 rfl
  ·
    refine E_iload pf_67_0 rfl ?_
    refine E_tsw pf_67_1 (by omega) rfl ?_
    refine E_aload pf_67_76 rfl ?_
    refine F_getf pf_67_77 rfl rfl rfl ?_
    refine F_getf pf_67_80 rfl rfl rfl ?_
    exact E_iret pf_67_83 rfl
  ·
    refine E_iload pf_67_0 rfl ?_
    refine E_tsw pf_67_1 (by omega) rfl ?_
    refine E_aload pf_67_84 rfl ?_
    refine F_getf pf_67_85 rfl rfl rfl ?_
    refine F_getf pf_67_88 rfl rfl rfl ?_
    exact E_iret pf_67_91 rfl
  ·
    refine E_iload pf_67_0 rfl ?_
    refine E_tsw pf_67_1 (by omega) rfl ?_
    refine E_aload pf_67_92 rfl ?_
    refine F_getf pf_67_93 rfl rfl rfl ?_
    refine F_getf pf_67_96 rfl rfl rfl ?_
    exact E_iret pf_67_99 rfl
theorem c67x {x : Int} (hx : (-2147483648 ≤ x ∧ x ≤ 2147483647)) (h1 : ¬ (0 ≤ x ∧ x ≤ 6)) : ∀ h, Ca 67 [.ref 1, .int (ii x)] (wd [(1, oPD tl)] h) (.inr 0, pd_thr (wd [(1, oPD tl)] h)) := by
  intro h
  refine E_in (lv := [_, _]) rfl ?_
  refine E_iload pf_67_0 rfl ?_
  refine E_tsd pf_67_1 (by omega) ?_
  exact E_throw pf_67_100 rfl rfl rfl rfl
theorem c143 {x : Int} (hx : 0 ≤ x ∧ x ≤ 6) : ∀ h, Ca 143 [.ref 102, .int (ii x)] (wd [(102, oX6 rf ts sp d kd vs rw rd rk rv rr ac), (107, ar 72 r)] h) (.inl (some (.int (ii (ab7 d kd vs rw (r 68) (r 69) (r 70) x)))), wd [(102, oX6 0 ts sp d kd vs rw rd rk rv rr ac), (107, ar 72 r)] h) := by
  intro h
  refine E_in (lv := [_, _]) rfl ?_
  have h7 : x = 0 ∨ x = 1 ∨ x = 2 ∨ x = 3 ∨ x = 4 ∨ x = 5 ∨ x = 6 := by omega
  rcases h7 with e | e | e | e | e | e | e <;> subst e
  ·
    refine E_aload pf_143_0 rfl ?_
    refine E_iload pf_143_1 rfl ?_
    refine E_i2l pf_143_2 (by omega) ?_
    refine E_lconst pf_143_3 ?_
    refine E_lconst pf_143_4 ?_
    refine F_c3v0 pf_143_7 (c109t (by omega) (by omega)) (trivial) rfl ?_
    refine E_if_eq_f pf_143_10 (by omega) ?_
    refine E_iconst pf_143_13 ?_
    refine E_goto pf_143_14 ?_
    refine F_v2v (l' := [(_, _), (_, _)]) pf_143_18 (c108_0) (And.intro rfl (trivial)) rfl rfl rfl rfl ?_
    refine E_if_eq_t pf_143_21 (by omega) ?_
    refine E_iload pf_143_26 rfl ?_
    refine E_if_ne_f pf_143_27 (by omega) ?_
    refine E_aload pf_143_30 rfl ?_
    refine F_getf pf_143_31 rfl rfl rfl ?_
    refine E_goto pf_143_34 ?_
    exact E_iret pf_143_84 rfl
  ·
    refine E_aload pf_143_0 rfl ?_
    refine E_iload pf_143_1 rfl ?_
    refine E_i2l pf_143_2 (by omega) ?_
    refine E_lconst pf_143_3 ?_
    refine E_lconst pf_143_4 ?_
    refine F_c3v0 pf_143_7 (c109t (by omega) (by omega)) (trivial) rfl ?_
    refine E_if_eq_f pf_143_10 (by omega) ?_
    refine E_iconst pf_143_13 ?_
    refine E_goto pf_143_14 ?_
    refine F_v2v (l' := [(_, _), (_, _)]) pf_143_18 (c108_0) (And.intro rfl (trivial)) rfl rfl rfl rfl ?_
    refine E_if_eq_t pf_143_21 (by omega) ?_
    refine E_iload pf_143_26 rfl ?_
    refine E_if_ne_t pf_143_27 (by omega) ?_
    refine E_iload pf_143_37 rfl ?_
    refine E_iconst pf_143_38 ?_
    refine E_icmp_ne_f pf_143_39 (by omega) ?_
    refine E_aload pf_143_42 rfl ?_
    refine F_getf pf_143_43 rfl rfl rfl ?_
    refine E_goto pf_143_46 ?_
    exact E_iret pf_143_84 rfl
  ·
    refine E_aload pf_143_0 rfl ?_
    refine E_iload pf_143_1 rfl ?_
    refine E_i2l pf_143_2 (by omega) ?_
    refine E_lconst pf_143_3 ?_
    refine E_lconst pf_143_4 ?_
    refine F_c3v0 pf_143_7 (c109t (by omega) (by omega)) (trivial) rfl ?_
    refine E_if_eq_f pf_143_10 (by omega) ?_
    refine E_iconst pf_143_13 ?_
    refine E_goto pf_143_14 ?_
    refine F_v2v (l' := [(_, _), (_, _)]) pf_143_18 (c108_0) (And.intro rfl (trivial)) rfl rfl rfl rfl ?_
    refine E_if_eq_t pf_143_21 (by omega) ?_
    refine E_iload pf_143_26 rfl ?_
    refine E_if_ne_t pf_143_27 (by omega) ?_
    refine E_iload pf_143_37 rfl ?_
    refine E_iconst pf_143_38 ?_
    refine E_icmp_ne_t pf_143_39 (by omega) ?_
    refine E_iload pf_143_49 rfl ?_
    refine E_iconst pf_143_50 ?_
    refine E_icmp_ne_f pf_143_51 (by omega) ?_
    refine E_aload pf_143_54 rfl ?_
    refine F_getf pf_143_55 rfl rfl rfl ?_
    refine E_goto pf_143_58 ?_
    exact E_iret pf_143_84 rfl
  ·
    refine E_aload pf_143_0 rfl ?_
    refine E_iload pf_143_1 rfl ?_
    refine E_i2l pf_143_2 (by omega) ?_
    refine E_lconst pf_143_3 ?_
    refine E_lconst pf_143_4 ?_
    refine F_c3v0 pf_143_7 (c109t (by omega) (by omega)) (trivial) rfl ?_
    refine E_if_eq_f pf_143_10 (by omega) ?_
    refine E_iconst pf_143_13 ?_
    refine E_goto pf_143_14 ?_
    refine F_v2v (l' := [(_, _), (_, _)]) pf_143_18 (c108_0) (And.intro rfl (trivial)) rfl rfl rfl rfl ?_
    refine E_if_eq_t pf_143_21 (by omega) ?_
    refine E_iload pf_143_26 rfl ?_
    refine E_if_ne_t pf_143_27 (by omega) ?_
    refine E_iload pf_143_37 rfl ?_
    refine E_iconst pf_143_38 ?_
    refine E_icmp_ne_t pf_143_39 (by omega) ?_
    refine E_iload pf_143_49 rfl ?_
    refine E_iconst pf_143_50 ?_
    refine E_icmp_ne_t pf_143_51 (by omega) ?_
    refine E_iload pf_143_61 rfl ?_
    refine E_iconst pf_143_62 ?_
    refine E_icmp_ne_f pf_143_63 (by omega) ?_
    refine E_aload pf_143_66 rfl ?_
    refine F_getf pf_143_67 rfl rfl rfl ?_
    refine E_goto pf_143_70 ?_
    exact E_iret pf_143_84 rfl
  ·
    refine E_aload pf_143_0 rfl ?_
    refine E_iload pf_143_1 rfl ?_
    refine E_i2l pf_143_2 (by omega) ?_
    refine E_lconst pf_143_3 ?_
    refine E_lconst pf_143_4 ?_
    refine F_c3v0 pf_143_7 (c109t (by omega) (by omega)) (trivial) rfl ?_
    refine E_if_eq_f pf_143_10 (by omega) ?_
    refine E_iconst pf_143_13 ?_
    refine E_goto pf_143_14 ?_
    refine F_v2v (l' := [(_, _), (_, _)]) pf_143_18 (c108_0) (And.intro rfl (trivial)) rfl rfl rfl rfl ?_
    refine E_if_eq_t pf_143_21 (by omega) ?_
    refine E_iload pf_143_26 rfl ?_
    refine E_if_ne_t pf_143_27 (by omega) ?_
    refine E_iload pf_143_37 rfl ?_
    refine E_iconst pf_143_38 ?_
    refine E_icmp_ne_t pf_143_39 (by omega) ?_
    refine E_iload pf_143_49 rfl ?_
    refine E_iconst pf_143_50 ?_
    refine E_icmp_ne_t pf_143_51 (by omega) ?_
    refine E_iload pf_143_61 rfl ?_
    refine E_iconst pf_143_62 ?_
    refine E_icmp_ne_t pf_143_63 (by omega) ?_
    refine E_aload pf_143_73 rfl ?_
    refine F_getf pf_143_74 rfl rfl rfl ?_
    refine E_iconst pf_143_77 ?_
    refine E_iload pf_143_79 rfl ?_
    refine E_iadd pf_143_80 ?_
    refine E_iconst pf_143_81 ?_
    refine E_isub pf_143_82 ?_
    refine F_iald pf_143_83 rfl (by omega) ?_
    exact E_iret pf_143_84 rfl
  ·
    refine E_aload pf_143_0 rfl ?_
    refine E_iload pf_143_1 rfl ?_
    refine E_i2l pf_143_2 (by omega) ?_
    refine E_lconst pf_143_3 ?_
    refine E_lconst pf_143_4 ?_
    refine F_c3v0 pf_143_7 (c109t (by omega) (by omega)) (trivial) rfl ?_
    refine E_if_eq_f pf_143_10 (by omega) ?_
    refine E_iconst pf_143_13 ?_
    refine E_goto pf_143_14 ?_
    refine F_v2v (l' := [(_, _), (_, _)]) pf_143_18 (c108_0) (And.intro rfl (trivial)) rfl rfl rfl rfl ?_
    refine E_if_eq_t pf_143_21 (by omega) ?_
    refine E_iload pf_143_26 rfl ?_
    refine E_if_ne_t pf_143_27 (by omega) ?_
    refine E_iload pf_143_37 rfl ?_
    refine E_iconst pf_143_38 ?_
    refine E_icmp_ne_t pf_143_39 (by omega) ?_
    refine E_iload pf_143_49 rfl ?_
    refine E_iconst pf_143_50 ?_
    refine E_icmp_ne_t pf_143_51 (by omega) ?_
    refine E_iload pf_143_61 rfl ?_
    refine E_iconst pf_143_62 ?_
    refine E_icmp_ne_t pf_143_63 (by omega) ?_
    refine E_aload pf_143_73 rfl ?_
    refine F_getf pf_143_74 rfl rfl rfl ?_
    refine E_iconst pf_143_77 ?_
    refine E_iload pf_143_79 rfl ?_
    refine E_iadd pf_143_80 ?_
    refine E_iconst pf_143_81 ?_
    refine E_isub pf_143_82 ?_
    refine F_iald pf_143_83 rfl (by omega) ?_
    exact E_iret pf_143_84 rfl
  ·
    refine E_aload pf_143_0 rfl ?_
    refine E_iload pf_143_1 rfl ?_
    refine E_i2l pf_143_2 (by omega) ?_
    refine E_lconst pf_143_3 ?_
    refine E_lconst pf_143_4 ?_
    refine F_c3v0 pf_143_7 (c109t (by omega) (by omega)) (trivial) rfl ?_
    refine E_if_eq_f pf_143_10 (by omega) ?_
    refine E_iconst pf_143_13 ?_
    refine E_goto pf_143_14 ?_
    refine F_v2v (l' := [(_, _), (_, _)]) pf_143_18 (c108_0) (And.intro rfl (trivial)) rfl rfl rfl rfl ?_
    refine E_if_eq_t pf_143_21 (by omega) ?_
    refine E_iload pf_143_26 rfl ?_
    refine E_if_ne_t pf_143_27 (by omega) ?_
    refine E_iload pf_143_37 rfl ?_
    refine E_iconst pf_143_38 ?_
    refine E_icmp_ne_t pf_143_39 (by omega) ?_
    refine E_iload pf_143_49 rfl ?_
    refine E_iconst pf_143_50 ?_
    refine E_icmp_ne_t pf_143_51 (by omega) ?_
    refine E_iload pf_143_61 rfl ?_
    refine E_iconst pf_143_62 ?_
    refine E_icmp_ne_t pf_143_63 (by omega) ?_
    refine E_aload pf_143_73 rfl ?_
    refine F_getf pf_143_74 rfl rfl rfl ?_
    refine E_iconst pf_143_77 ?_
    refine E_iload pf_143_79 rfl ?_
    refine E_iadd pf_143_80 ?_
    refine E_iconst pf_143_81 ?_
    refine E_isub pf_143_82 ?_
    refine F_iald pf_143_83 rfl (by omega) ?_
    exact E_iret pf_143_84 rfl
theorem c143x {x : Int} (hx : (-2147483648 ≤ x ∧ x ≤ 2147483647)) (h1 : ¬ (0 ≤ x ∧ x ≤ 6)) : ∀ h, Ca 143 [.ref 102, .int (ii x)] (wd [(102, oX6 rf ts sp d kd vs rw rd rk rv rr ac)] h) (.inl (some (.int (ii 0))), wd [(102, oX6 1 ts sp d kd vs rw rd rk rv rr ac)] h) := by
  intro h
  refine E_in (lv := [_, _]) rfl ?_
  refine E_aload pf_143_0 rfl ?_
  refine E_iload pf_143_1 rfl ?_
  refine E_i2l pf_143_2 (by omega) ?_
  refine E_lconst pf_143_3 ?_
  refine E_lconst pf_143_4 ?_
  refine F_c3v0 pf_143_7 (c109f (by omega) (by omega)) (trivial) rfl ?_
  refine E_if_eq_t pf_143_10 (by omega) ?_
  refine E_iconst pf_143_17 ?_
  refine F_v2v (l' := [(_, _)]) pf_143_18 (c108_1) (And.intro rfl (trivial)) rfl rfl rfl rfl ?_
  refine E_if_eq_f pf_143_21 (by omega) ?_
  refine E_iconst pf_143_24 ?_
  exact E_iret pf_143_25 rfl
theorem c68 {i j : Int} (hd : dn ≤ 4) (hv : vn ≤ 24) (h1 : 0 ≤ i ∧ i < vn) (h2 : 0 ≤ j ∧ j < dn) : ∀ h, Ca 68 [.ref 1, .int (ii i), .int (ii j)] (wd [(1, oPD tl), (13, oP (dn : Int) kd (vn : Int)), (14, ar 96 C)] h) (.inl (some (.int (ii (C (i * 4 + j))))), wd [(1, oPD tl), (13, oP (dn : Int) kd (vn : Int)), (14, ar 96 C)] h) := by
  intro h
  refine E_in (lv := [_, _, _]) rfl ?_
  refine E_iload pf_68_0 rfl ?_
  refine E_aload pf_68_1 rfl ?_
  refine F_getf pf_68_2 rfl rfl rfl ?_
  refine F_getf pf_68_5 rfl rfl rfl ?_
  refine F_c2u0 pf_68_8 (c95 (by omega) (by omega)) (trivial) rfl ?_
  refine E_iload pf_68_11 rfl ?_
  refine E_aload pf_68_12 rfl ?_
  refine F_getf pf_68_13 rfl rfl rfl ?_
  refine F_getf pf_68_16 rfl rfl rfl ?_
  refine F_c2u0 pf_68_19 (c95 (by omega) (by omega)) (trivial) rfl ?_
  refine E_aload pf_68_22 rfl ?_
  refine F_getf pf_68_23 rfl rfl rfl ?_
  refine E_iload pf_68_26 rfl ?_
  refine E_iload pf_68_27 rfl ?_
  refine F_v3v0 pf_68_28 (c28 (by omega) (by omega)) (And.intro rfl (And.intro rfl (trivial))) rfl rfl ?_
  exact E_iret pf_68_31 rfl
theorem c68x {i j : Int} (hi : (-2147483648 ≤ i ∧ i ≤ 2147483647)) (hj : (-2147483648 ≤ j ∧ j ≤ 2147483647)) (hd : dn ≤ 4) (hv : vn ≤ 24) (h1 : ¬ ((0 ≤ i ∧ i < vn) ∧ (0 ≤ j ∧ j < dn))) : ∀ h, Ca 68 [.ref 1, .int (ii i), .int (ii j)] (wd [(1, oPD tl), (13, oP (dn : Int) kd (vn : Int))] h) (.inr 2, pd_thr (wd [(1, oPD tl), (13, oP (dn : Int) kd (vn : Int))] h)) := by
  intro h
  refine E_in (lv := [_, _, _]) rfl ?_
  by_cases e : 0 ≤ i ∧ i < vn
  ·
    refine E_iload pf_68_0 rfl ?_
    refine E_aload pf_68_1 rfl ?_
    refine F_getf pf_68_2 rfl rfl rfl ?_
    refine F_getf pf_68_5 rfl rfl rfl ?_
    refine F_c2u0 pf_68_8 (c95 (by omega) (by omega)) (trivial) rfl ?_
    refine E_iload pf_68_11 rfl ?_
    refine E_aload pf_68_12 rfl ?_
    refine F_getf pf_68_13 rfl rfl rfl ?_
    refine F_getf pf_68_16 rfl rfl rfl ?_
    exact E_c2x pf_68_19 rfl (c95x (by omega) (by omega) (by omega) _) rfl
  ·
    refine E_iload pf_68_0 rfl ?_
    refine E_aload pf_68_1 rfl ?_
    refine F_getf pf_68_2 rfl rfl rfl ?_
    refine F_getf pf_68_5 rfl rfl rfl ?_
    exact E_c2x pf_68_8 rfl (c95x (by omega) (by omega) (by omega) _) rfl
theorem c144 {i j : Int} (hd : dn ≤ 4) (hv : vn ≤ 24) (h1 : 0 ≤ i ∧ i < vn) (h2 : 0 ≤ j ∧ j < dn) : ∀ h, Ca 144 [.ref 102, .int (ii i), .int (ii j)] (wd [(102, oX6 rf ts sp (dn : Int) kd (vn : Int) (rn : Int) rd rk rv rr ac), (104, ar 128 P)] h) (.inl (some (.int (ii (P (4 * i + j))))), wd [(102, oX6 0 ts sp (dn : Int) kd (vn : Int) (rn : Int) rd rk rv rr ac), (104, ar 128 P)] h) := by
  intro h
  refine E_in (lv := [_, _, _]) rfl ?_
  refine E_aload pf_144_0 rfl ?_
  refine E_aload pf_144_1 rfl ?_
  refine E_iload pf_144_2 rfl ?_
  refine F_v2v0 pf_144_3 (c111t (by omega) (by omega)) (And.intro rfl (trivial)) rfl rfl ?_
  refine E_if_eq_f pf_144_6 (by omega) ?_
  refine E_iload pf_144_9 rfl ?_
  refine E_i2l pf_144_10 (by omega) ?_
  refine E_lconst pf_144_11 ?_
  refine E_aload pf_144_12 rfl ?_
  refine F_getf pf_144_13 rfl rfl rfl ?_
  refine E_iconst pf_144_16 ?_
  refine E_isub pf_144_17 ?_
  refine E_i2l pf_144_18 (by omega) ?_
  refine F_c3v0 pf_144_19 (c109t (by omega) (by omega)) (trivial) rfl ?_
  refine E_if_eq_f pf_144_22 (by omega) ?_
  refine E_iconst pf_144_25 ?_
  refine E_goto pf_144_26 ?_
  refine F_v2v (l' := [(_, _), (_, _)]) pf_144_30 (c108_0) (And.intro rfl (trivial)) rfl rfl rfl rfl ?_
  refine E_if_eq_t pf_144_33 (by omega) ?_
  refine E_aload pf_144_40 rfl ?_
  refine F_getf pf_144_41 rfl rfl rfl ?_
  refine E_iconst pf_144_44 ?_
  refine E_iload pf_144_45 rfl ?_
  refine E_imul pf_144_46 ?_
  refine E_iload pf_144_47 rfl ?_
  refine E_iadd pf_144_48 ?_
  refine F_iald pf_144_49 rfl (by omega) ?_
  exact E_iret pf_144_50 rfl
theorem c144x {i j : Int} (hi : (-2147483648 ≤ i ∧ i ≤ 2147483647)) (hj : (-2147483648 ≤ j ∧ j ≤ 2147483647)) (hd : dn ≤ 4) (hv : vn ≤ 24) (h1 : ¬ ((0 ≤ i ∧ i < vn) ∧ (0 ≤ j ∧ j < dn))) : ∀ h, Ca 144 [.ref 102, .int (ii i), .int (ii j)] (wd [(102, oX6 rf ts sp (dn : Int) kd (vn : Int) (rn : Int) rd rk rv rr ac)] h) (.inl (some (.int (ii 0))), wd [(102, oX6 1 ts sp (dn : Int) kd (vn : Int) (rn : Int) rd rk rv rr ac)] h) := by
  intro h
  refine E_in (lv := [_, _, _]) rfl ?_
  by_cases e : 0 ≤ i ∧ i < vn
  ·
    refine E_aload pf_144_0 rfl ?_
    refine E_aload pf_144_1 rfl ?_
    refine E_iload pf_144_2 rfl ?_
    refine F_v2v0 pf_144_3 (c111t (by omega) (by omega)) (And.intro rfl (trivial)) rfl rfl ?_
    refine E_if_eq_f pf_144_6 (by omega) ?_
    refine E_iload pf_144_9 rfl ?_
    refine E_i2l pf_144_10 (by omega) ?_
    refine E_lconst pf_144_11 ?_
    refine E_aload pf_144_12 rfl ?_
    refine F_getf pf_144_13 rfl rfl rfl ?_
    refine E_iconst pf_144_16 ?_
    refine E_isub pf_144_17 ?_
    refine E_i2l pf_144_18 (by omega) ?_
    refine F_c3v0 pf_144_19 (c109f (by omega) (by omega)) (trivial) rfl ?_
    refine E_if_eq_t pf_144_22 (by omega) ?_
    refine E_iconst pf_144_29 ?_
    refine F_v2v (l' := [(_, _)]) pf_144_30 (c108_1) (And.intro rfl (trivial)) rfl rfl rfl rfl ?_
    refine E_if_eq_f pf_144_33 (by omega) ?_
    refine E_iconst pf_144_36 ?_
    refine E_goto pf_144_37 ?_
    exact E_iret pf_144_50 rfl
  ·
    refine E_aload pf_144_0 rfl ?_
    refine E_aload pf_144_1 rfl ?_
    refine E_iload pf_144_2 rfl ?_
    refine F_v2v0 pf_144_3 (c111f (by omega) (by omega) (by omega)) (And.intro rfl (trivial)) rfl rfl ?_
    refine E_if_eq_t pf_144_6 (by omega) ?_
    refine E_iconst pf_144_29 ?_
    refine F_v2v (l' := [(_, _)]) pf_144_30 (c108_1) (And.intro rfl (trivial)) rfl rfl rfl rfl ?_
    refine E_if_eq_f pf_144_33 (by omega) ?_
    refine E_iconst pf_144_36 ?_
    refine E_goto pf_144_37 ?_
    exact E_iret pf_144_50 rfl
theorem c145t {i j : Int} (hd : dn ≤ 4) (hr : rn ≤ 4) (h1 : 0 ≤ i ∧ i < rn) (h2 : 0 ≤ j ∧ j ≤ dn) : ∀ h, Ca 145 [.ref 102, .int (ii i), .int (ii j)] (wd [(102, oX6 rf ts sp (dn : Int) kd (vn : Int) (rn : Int) rd rk rv rr ac)] h) (.inl (some (.int (ii 1))), wd [(102, oX6 rf ts sp (dn : Int) kd (vn : Int) (rn : Int) rd rk rv rr ac)] h) := by
  intro h
  refine E_in (lv := [_, _, _]) rfl ?_
  refine E_iload pf_145_0 rfl ?_
  refine E_i2l pf_145_1 (by omega) ?_
  refine E_lconst pf_145_2 ?_
  refine E_aload pf_145_3 rfl ?_
  refine F_getf pf_145_4 rfl rfl rfl ?_
  refine E_iconst pf_145_7 ?_
  refine E_isub pf_145_8 ?_
  refine E_i2l pf_145_9 (by omega) ?_
  refine F_c3v0 pf_145_10 (c109t (by omega) (by omega)) (trivial) rfl ?_
  refine E_if_eq_f pf_145_13 (by omega) ?_
  refine E_iload pf_145_16 rfl ?_
  refine E_i2l pf_145_17 (by omega) ?_
  refine E_lconst pf_145_18 ?_
  refine E_aload pf_145_19 rfl ?_
  refine F_getf pf_145_20 rfl rfl rfl ?_
  refine E_i2l pf_145_23 (by omega) ?_
  refine F_c3v0 pf_145_24 (c109t (by omega) (by omega)) (trivial) rfl ?_
  refine E_if_eq_f pf_145_27 (by omega) ?_
  refine E_iconst pf_145_30 ?_
  refine E_goto pf_145_31 ?_
  exact E_iret pf_145_35 rfl
theorem c145f {i j : Int} (hi : (-2147483648 ≤ i ∧ i ≤ 2147483647)) (hj : (-2147483648 ≤ j ∧ j ≤ 2147483647)) (hd : dn ≤ 4) (hr : rn ≤ 4) (h1 : ¬ ((0 ≤ i ∧ i < rn) ∧ (0 ≤ j ∧ j ≤ dn))) : ∀ h, Ca 145 [.ref 102, .int (ii i), .int (ii j)] (wd [(102, oX6 rf ts sp (dn : Int) kd (vn : Int) (rn : Int) rd rk rv rr ac)] h) (.inl (some (.int (ii 0))), wd [(102, oX6 rf ts sp (dn : Int) kd (vn : Int) (rn : Int) rd rk rv rr ac)] h) := by
  intro h
  refine E_in (lv := [_, _, _]) rfl ?_
  by_cases e : 0 ≤ i ∧ i < rn
  ·
    refine E_iload pf_145_0 rfl ?_
    refine E_i2l pf_145_1 (by omega) ?_
    refine E_lconst pf_145_2 ?_
    refine E_aload pf_145_3 rfl ?_
    refine F_getf pf_145_4 rfl rfl rfl ?_
    refine E_iconst pf_145_7 ?_
    refine E_isub pf_145_8 ?_
    refine E_i2l pf_145_9 (by omega) ?_
    refine F_c3v0 pf_145_10 (c109t (by omega) (by omega)) (trivial) rfl ?_
    refine E_if_eq_f pf_145_13 (by omega) ?_
    refine E_iload pf_145_16 rfl ?_
    refine E_i2l pf_145_17 (by omega) ?_
    refine E_lconst pf_145_18 ?_
    refine E_aload pf_145_19 rfl ?_
    refine F_getf pf_145_20 rfl rfl rfl ?_
    refine E_i2l pf_145_23 (by omega) ?_
    refine F_c3v0 pf_145_24 (c109f (by omega) (by omega)) (trivial) rfl ?_
    refine E_if_eq_t pf_145_27 (by omega) ?_
    refine E_iconst pf_145_34 ?_
    exact E_iret pf_145_35 rfl
  ·
    refine E_iload pf_145_0 rfl ?_
    refine E_i2l pf_145_1 (by omega) ?_
    refine E_lconst pf_145_2 ?_
    refine E_aload pf_145_3 rfl ?_
    refine F_getf pf_145_4 rfl rfl rfl ?_
    refine E_iconst pf_145_7 ?_
    refine E_isub pf_145_8 ?_
    refine E_i2l pf_145_9 (by omega) ?_
    refine F_c3v0 pf_145_10 (c109f (by omega) (by omega)) (trivial) rfl ?_
    refine E_if_eq_t pf_145_13 (by omega) ?_
    refine E_iconst pf_145_34 ?_
    exact E_iret pf_145_35 rfl
theorem c146 {i j : Int} (hj : (-2147483648 ≤ j ∧ j ≤ 2147483647)) (hd : dn ≤ 4) : ∀ h, Ca 146 [.ref 102, .int (ii i), .int (ii j)] (wd [(102, oX6 rf ts sp (dn : Int) kd (vn : Int) (rn : Int) rd rk rv rr ac)] h) (.inl (some (.int (ii (5 * i + (if j = (dn : Int) then 4 else j))))), wd [(102, oX6 rf ts sp (dn : Int) kd (vn : Int) (rn : Int) rd rk rv rr ac)] h) := by
  intro h
  refine E_in (lv := [_, _, _]) rfl ?_
  by_cases e : j = (dn : Int)
  · rw [if_pos e]
    refine E_iconst pf_146_0 ?_
    refine E_iload pf_146_1 rfl ?_
    refine E_imul pf_146_2 ?_
    refine E_iload pf_146_3 rfl ?_
    refine E_aload pf_146_4 rfl ?_
    refine F_getf pf_146_5 rfl rfl rfl ?_
    refine E_icmp_ne_f pf_146_8 (by omega) ?_
    refine E_iconst pf_146_11 ?_
    refine E_goto pf_146_12 ?_
    refine E_iadd pf_146_16 ?_
    exact E_iret pf_146_17 rfl
  · rw [if_neg e]
    refine E_iconst pf_146_0 ?_
    refine E_iload pf_146_1 rfl ?_
    refine E_imul pf_146_2 ?_
    refine E_iload pf_146_3 rfl ?_
    refine E_aload pf_146_4 rfl ?_
    refine F_getf pf_146_5 rfl rfl rfl ?_
    refine E_icmp_ne_t pf_146_8 (by omega) ?_
    refine E_iload pf_146_15 rfl ?_
    refine E_iadd pf_146_16 ?_
    exact E_iret pf_146_17 rfl
theorem cel {dn : Nat} {j : Int} (hd : dn ≤ 4) (h2 : 0 ≤ j ∧ j ≤ dn) : 0 ≤ (if j = (dn : Int) then 4 else j) ∧ (if j = (dn : Int) then 4 else j) ≤ 4 := by split <;> omega
theorem c69 {i j : Int} (hd : dn ≤ 4) (hr : rn ≤ 4) (h1 : 0 ≤ i ∧ i < rn) (h2 : 0 ≤ j ∧ j ≤ dn) : ∀ h, Ca 69 [.ref 1, .int (ii i), .int (ii j)] (wd [(1, oPD tl), (13, oP (dn : Int) kd (vn : Int)), (24, oS24 (rn : Int) (m : Int) st dr), (25, ar 20 R)] h) (.inl (some (.int (ii (R (i * 5 + (if j = (dn : Int) then 4 else j)))))), wd [(1, oPD tl), (13, oP (dn : Int) kd (vn : Int)), (24, oS24 (rn : Int) (m : Int) st dr), (25, ar 20 R)] h) := by
  intro h
  have hcl := cel hd h2
  refine E_in (lv := [_, _, _]) rfl ?_
  refine E_iload pf_69_0 rfl ?_
  refine E_aload pf_69_1 rfl ?_
  refine F_getf pf_69_2 rfl rfl rfl ?_
  refine F_getf pf_69_5 rfl rfl rfl ?_
  refine F_c2u0 pf_69_8 (c95 (by omega) (by omega)) (trivial) rfl ?_
  refine E_iload pf_69_11 rfl ?_
  refine E_aload pf_69_12 rfl ?_
  refine F_getf pf_69_13 rfl rfl rfl ?_
  refine F_getf pf_69_16 rfl rfl rfl ?_
  refine E_iconst pf_69_19 ?_
  refine E_iadd pf_69_20 ?_
  refine F_c2u0 pf_69_21 (c95 (by omega) (by omega)) (trivial) rfl ?_
  refine E_aload pf_69_24 rfl ?_
  refine F_getf pf_69_25 rfl rfl rfl ?_
  refine F_getf pf_69_28 rfl rfl rfl ?_
  refine E_aload pf_69_31 rfl ?_
  refine E_iload pf_69_32 rfl ?_
  refine E_iload pf_69_33 rfl ?_
  refine F_v3v0 pf_69_34 (c100 (by omega) hd) (And.intro rfl (And.intro rfl (trivial))) rfl rfl ?_
  refine F_iald pf_69_37 rfl (by omega) ?_
  exact E_iret pf_69_38 rfl
theorem c69x {i j : Int} (hi : (-2147483648 ≤ i ∧ i ≤ 2147483647)) (hj : (-2147483648 ≤ j ∧ j ≤ 2147483647)) (hd : dn ≤ 4) (hr : rn ≤ 4) (h1 : ¬ ((0 ≤ i ∧ i < rn) ∧ (0 ≤ j ∧ j ≤ dn))) : ∀ h, Ca 69 [.ref 1, .int (ii i), .int (ii j)] (wd [(1, oPD tl), (13, oP (dn : Int) kd (vn : Int)), (24, oS24 (rn : Int) (m : Int) st dr)] h) (.inr 2, pd_thr (wd [(1, oPD tl), (13, oP (dn : Int) kd (vn : Int)), (24, oS24 (rn : Int) (m : Int) st dr)] h)) := by
  intro h
  refine E_in (lv := [_, _, _]) rfl ?_
  by_cases e : 0 ≤ i ∧ i < rn
  ·
    refine E_iload pf_69_0 rfl ?_
    refine E_aload pf_69_1 rfl ?_
    refine F_getf pf_69_2 rfl rfl rfl ?_
    refine F_getf pf_69_5 rfl rfl rfl ?_
    refine F_c2u0 pf_69_8 (c95 (by omega) (by omega)) (trivial) rfl ?_
    refine E_iload pf_69_11 rfl ?_
    refine E_aload pf_69_12 rfl ?_
    refine F_getf pf_69_13 rfl rfl rfl ?_
    refine F_getf pf_69_16 rfl rfl rfl ?_
    refine E_iconst pf_69_19 ?_
    refine E_iadd pf_69_20 ?_
    exact E_c2x pf_69_21 rfl (c95x (by omega) (by omega) (by omega) _) rfl
  ·
    refine E_iload pf_69_0 rfl ?_
    refine E_aload pf_69_1 rfl ?_
    refine F_getf pf_69_2 rfl rfl rfl ?_
    refine F_getf pf_69_5 rfl rfl rfl ?_
    exact E_c2x pf_69_8 rfl (c95x (by omega) (by omega) (by omega) _) rfl
theorem c147 {i j : Int} (hd : dn ≤ 4) (hr : rn ≤ 4) (h1 : 0 ≤ i ∧ i < rn) (h2 : 0 ≤ j ∧ j ≤ dn) : ∀ h, Ca 147 [.ref 102, .int (ii i), .int (ii j)] (wd [(102, oX6 rf ts sp (dn : Int) kd (vn : Int) (rn : Int) rd rk rv rr ac), (107, ar 72 r)] h) (.inl (some (.int (ii (r (5 * i + (if j = (dn : Int) then 4 else j)))))), wd [(102, oX6 0 ts sp (dn : Int) kd (vn : Int) (rn : Int) rd rk rv rr ac), (107, ar 72 r)] h) := by
  intro h
  have hcl := cel hd h2
  refine E_in (lv := [_, _, _]) rfl ?_
  refine E_aload pf_147_0 rfl ?_
  refine E_aload pf_147_1 rfl ?_
  refine E_iload pf_147_2 rfl ?_
  refine E_iload pf_147_3 rfl ?_
  refine F_v3v0 pf_147_4 (c145t hd hr h1 h2) (And.intro rfl (trivial)) rfl rfl ?_
  refine E_if_eq_f pf_147_7 (by omega) ?_
  refine E_iconst pf_147_10 ?_
  refine E_goto pf_147_11 ?_
  refine F_v2v (l' := [(_, _), (_, _)]) pf_147_15 (c108_0) (And.intro rfl (trivial)) rfl rfl rfl rfl ?_
  refine E_if_eq_t pf_147_18 (by omega) ?_
  refine E_aload pf_147_25 rfl ?_
  refine F_getf pf_147_26 rfl rfl rfl ?_
  refine E_aload pf_147_29 rfl ?_
  refine E_iload pf_147_30 rfl ?_
  refine E_iload pf_147_31 rfl ?_
  refine F_v3v0 pf_147_32 (c146 (by omega) hd) (And.intro rfl (trivial)) rfl rfl ?_
  refine F_iald pf_147_35 rfl (by omega) ?_
  exact E_iret pf_147_36 rfl
theorem c147x {i j : Int} (hi : (-2147483648 ≤ i ∧ i ≤ 2147483647)) (hj : (-2147483648 ≤ j ∧ j ≤ 2147483647)) (hd : dn ≤ 4) (hr : rn ≤ 4) (h1 : ¬ ((0 ≤ i ∧ i < rn) ∧ (0 ≤ j ∧ j ≤ dn))) : ∀ h, Ca 147 [.ref 102, .int (ii i), .int (ii j)] (wd [(102, oX6 rf ts sp (dn : Int) kd (vn : Int) (rn : Int) rd rk rv rr ac)] h) (.inl (some (.int (ii 0))), wd [(102, oX6 1 ts sp (dn : Int) kd (vn : Int) (rn : Int) rd rk rv rr ac)] h) := by
  intro h
  refine E_in (lv := [_, _, _]) rfl ?_
  refine E_aload pf_147_0 rfl ?_
  refine E_aload pf_147_1 rfl ?_
  refine E_iload pf_147_2 rfl ?_
  refine E_iload pf_147_3 rfl ?_
  refine F_v3v0 pf_147_4 (c145f hi hj hd hr h1) (And.intro rfl (trivial)) rfl rfl ?_
  refine E_if_eq_t pf_147_7 (by omega) ?_
  refine E_iconst pf_147_14 ?_
  refine F_v2v (l' := [(_, _)]) pf_147_15 (c108_1) (And.intro rfl (trivial)) rfl rfl rfl rfl ?_
  refine E_if_eq_f pf_147_18 (by omega) ?_
  refine E_iconst pf_147_21 ?_
  refine E_goto pf_147_22 ?_
  exact E_iret pf_147_36 rfl
theorem c70a {i : Int} (hm : m ≤ 24) (h1 : 0 ≤ i ∧ i < m) : ∀ h, Ca 70 [.ref 1, .int (ii i), .int (ii 0)] (wd [(1, oPD tl), (24, oS24 rv (m : Int) st dr), (26, ar 24 V), (27, ar 24 U)] h) (.inl (some (.int (ii (V i)))), wd [(1, oPD tl), (24, oS24 rv (m : Int) st dr), (26, ar 24 V), (27, ar 24 U)] h) := by
  intro h
  refine E_in (lv := [_, _, _]) rfl ?_
  refine E_iload pf_70_0 rfl ?_
  refine E_aload pf_70_1 rfl ?_
  refine F_getf pf_70_2 rfl rfl rfl ?_
  refine F_getf pf_70_5 rfl rfl rfl ?_
  refine F_c2u0 pf_70_8 (c95 (by omega) (by omega)) (trivial) rfl ?_
  refine E_iload pf_70_11 rfl ?_
  refine E_if_eq_t pf_70_12 (by omega) ?_
  refine E_iconst pf_70_20 ?_
  refine E_goto pf_70_21 ?_
  refine F_c1u0 pf_70_25 (c96) (trivial) rfl ?_
  refine E_iload pf_70_28 rfl ?_
  refine E_if_ne_f pf_70_29 (by omega) ?_
  refine E_aload pf_70_32 rfl ?_
  refine F_getf pf_70_33 rfl rfl rfl ?_
  refine F_getf pf_70_36 rfl rfl rfl ?_
  refine E_iload pf_70_39 rfl ?_
  refine F_iald pf_70_40 rfl (by omega) ?_
  refine E_goto pf_70_41 ?_
  exact E_iret pf_70_53 rfl
theorem c70b {i : Int} (hm : m ≤ 24) (h1 : 0 ≤ i ∧ i < m) : ∀ h, Ca 70 [.ref 1, .int (ii i), .int (ii 1)] (wd [(1, oPD tl), (24, oS24 rv (m : Int) st dr), (26, ar 24 V), (27, ar 24 U)] h) (.inl (some (.int (ii (U i)))), wd [(1, oPD tl), (24, oS24 rv (m : Int) st dr), (26, ar 24 V), (27, ar 24 U)] h) := by
  intro h
  refine E_in (lv := [_, _, _]) rfl ?_
  refine E_iload pf_70_0 rfl ?_
  refine E_aload pf_70_1 rfl ?_
  refine F_getf pf_70_2 rfl rfl rfl ?_
  refine F_getf pf_70_5 rfl rfl rfl ?_
  refine F_c2u0 pf_70_8 (c95 (by omega) (by omega)) (trivial) rfl ?_
  refine E_iload pf_70_11 rfl ?_
  refine E_if_eq_f pf_70_12 (by omega) ?_
  refine E_iload pf_70_15 rfl ?_
  refine E_iconst pf_70_16 ?_
  refine E_icmp_ne_f pf_70_17 (by omega) ?_
  refine E_iconst pf_70_20 ?_
  refine E_goto pf_70_21 ?_
  refine F_c1u0 pf_70_25 (c96) (trivial) rfl ?_
  refine E_iload pf_70_28 rfl ?_
  refine E_if_ne_t pf_70_29 (by omega) ?_
  refine E_aload pf_70_44 rfl ?_
  refine F_getf pf_70_45 rfl rfl rfl ?_
  refine F_getf pf_70_48 rfl rfl rfl ?_
  refine E_iload pf_70_51 rfl ?_
  refine F_iald pf_70_52 rfl (by omega) ?_
  exact E_iret pf_70_53 rfl
theorem c70x {i j : Int} (hi : (-2147483648 ≤ i ∧ i ≤ 2147483647)) (hj : (-2147483648 ≤ j ∧ j ≤ 2147483647)) (hm : m ≤ 24) (h1 : ¬ (0 ≤ i ∧ i < m)) : ∀ h, Ca 70 [.ref 1, .int (ii i), .int (ii j)] (wd [(1, oPD tl), (24, oS24 rv (m : Int) st dr)] h) (.inr 2, pd_thr (wd [(1, oPD tl), (24, oS24 rv (m : Int) st dr)] h)) := by
  intro h
  refine E_in (lv := [_, _, _]) rfl ?_
  refine E_iload pf_70_0 rfl ?_
  refine E_aload pf_70_1 rfl ?_
  refine F_getf pf_70_2 rfl rfl rfl ?_
  refine F_getf pf_70_5 rfl rfl rfl ?_
  exact E_c2x pf_70_8 rfl (c95x (by omega) (by omega) (by omega) _) rfl
theorem c70y {i j : Int} (hi : (-2147483648 ≤ i ∧ i ≤ 2147483647)) (hj : (-2147483648 ≤ j ∧ j ≤ 2147483647)) (hm : m ≤ 24) (h1 : 0 ≤ i ∧ i < m) (h2 : ¬ (0 ≤ j ∧ j ≤ 1)) : ∀ h, Ca 70 [.ref 1, .int (ii i), .int (ii j)] (wd [(1, oPD tl), (24, oS24 rv (m : Int) st dr)] h) (.inr 0, pd_thr (wd [(1, oPD tl), (24, oS24 rv (m : Int) st dr)] h)) := by
  intro h
  refine E_in (lv := [_, _, _]) rfl ?_
  refine E_iload pf_70_0 rfl ?_
  refine E_aload pf_70_1 rfl ?_
  refine F_getf pf_70_2 rfl rfl rfl ?_
  refine F_getf pf_70_5 rfl rfl rfl ?_
  refine F_c2u0 pf_70_8 (c95 (by omega) (by omega)) (trivial) rfl ?_
  refine E_iload pf_70_11 rfl ?_
  refine E_if_eq_f pf_70_12 (by omega) ?_
  refine E_iload pf_70_15 rfl ?_
  refine E_iconst pf_70_16 ?_
  refine E_icmp_ne_t pf_70_17 (by omega) ?_
  refine E_iconst pf_70_24 ?_
  exact E_c1x pf_70_25 rfl (c96x _) rfl
theorem c148a {i : Int} (h68 : r 68 = m) (hm : m ≤ 24) (h1 : 0 ≤ i ∧ i < m) : ∀ h, Ca 148 [.ref 102, .int (ii i), .int (ii 0)] (wd [(102, oX6 rf ts sp d kd vs rw rd rk rv rr ac), (107, ar 72 r)] h) (.inl (some (.int (ii (r (20 + i))))), wd [(102, oX6 0 ts sp d kd vs rw rd rk rv rr ac), (107, ar 72 r)] h) := by
  intro h
  refine E_in (lv := [_, _, _]) rfl ?_
  refine E_aload pf_148_0 rfl ?_
  refine E_iload pf_148_1 rfl ?_
  refine E_i2l pf_148_2 (by omega) ?_
  refine E_lconst pf_148_3 ?_
  refine E_aload pf_148_4 rfl ?_
  refine F_getf pf_148_5 rfl rfl rfl ?_
  refine E_iconst pf_148_8 ?_
  refine F_iald pf_148_10 rfl (by omega) ?_
  refine E_iconst pf_148_11 ?_
  refine E_isub pf_148_12 ?_
  refine E_i2l pf_148_13 (by omega) ?_
  refine F_c3v0 pf_148_14 (c109t (by omega) (by omega)) (trivial) rfl ?_
  refine E_if_ne_t pf_148_17 (by omega) ?_
  refine E_iload pf_148_24 rfl ?_
  refine E_i2l pf_148_25 (by omega) ?_
  refine E_lconst pf_148_26 ?_
  refine E_lconst pf_148_27 ?_
  refine F_c3v0 pf_148_28 (c109t (by omega) (by omega)) (trivial) rfl ?_
  refine E_if_ne_t pf_148_31 (by omega) ?_
  refine E_iconst pf_148_38 ?_
  refine F_v2v (l' := [(_, _), (_, _)]) pf_148_39 (c108_0) (And.intro rfl (trivial)) rfl rfl rfl rfl ?_
  refine E_if_eq_t pf_148_42 (by omega) ?_
  refine E_iload pf_148_47 rfl ?_
  refine E_if_ne_f pf_148_48 (by omega) ?_
  refine E_aload pf_148_51 rfl ?_
  refine F_getf pf_148_52 rfl rfl rfl ?_
  refine E_iconst pf_148_55 ?_
  refine E_iload pf_148_57 rfl ?_
  refine E_iadd pf_148_58 ?_
  refine F_iald pf_148_59 rfl (by omega) ?_
  refine E_goto pf_148_60 ?_
  exact E_iret pf_148_72 rfl
theorem c148b {i : Int} (h68 : r 68 = m) (hm : m ≤ 24) (h1 : 0 ≤ i ∧ i < m) : ∀ h, Ca 148 [.ref 102, .int (ii i), .int (ii 1)] (wd [(102, oX6 rf ts sp d kd vs rw rd rk rv rr ac), (107, ar 72 r)] h) (.inl (some (.int (ii (r (44 + i))))), wd [(102, oX6 0 ts sp d kd vs rw rd rk rv rr ac), (107, ar 72 r)] h) := by
  intro h
  refine E_in (lv := [_, _, _]) rfl ?_
  refine E_aload pf_148_0 rfl ?_
  refine E_iload pf_148_1 rfl ?_
  refine E_i2l pf_148_2 (by omega) ?_
  refine E_lconst pf_148_3 ?_
  refine E_aload pf_148_4 rfl ?_
  refine F_getf pf_148_5 rfl rfl rfl ?_
  refine E_iconst pf_148_8 ?_
  refine F_iald pf_148_10 rfl (by omega) ?_
  refine E_iconst pf_148_11 ?_
  refine E_isub pf_148_12 ?_
  refine E_i2l pf_148_13 (by omega) ?_
  refine F_c3v0 pf_148_14 (c109t (by omega) (by omega)) (trivial) rfl ?_
  refine E_if_ne_t pf_148_17 (by omega) ?_
  refine E_iload pf_148_24 rfl ?_
  refine E_i2l pf_148_25 (by omega) ?_
  refine E_lconst pf_148_26 ?_
  refine E_lconst pf_148_27 ?_
  refine F_c3v0 pf_148_28 (c109t (by omega) (by omega)) (trivial) rfl ?_
  refine E_if_ne_t pf_148_31 (by omega) ?_
  refine E_iconst pf_148_38 ?_
  refine F_v2v (l' := [(_, _), (_, _)]) pf_148_39 (c108_0) (And.intro rfl (trivial)) rfl rfl rfl rfl ?_
  refine E_if_eq_t pf_148_42 (by omega) ?_
  refine E_iload pf_148_47 rfl ?_
  refine E_if_ne_t pf_148_48 (by omega) ?_
  refine E_aload pf_148_63 rfl ?_
  refine F_getf pf_148_64 rfl rfl rfl ?_
  refine E_iconst pf_148_67 ?_
  refine E_iload pf_148_69 rfl ?_
  refine E_iadd pf_148_70 ?_
  refine F_iald pf_148_71 rfl (by omega) ?_
  exact E_iret pf_148_72 rfl
theorem c148x {i j : Int} (hi : (-2147483648 ≤ i ∧ i ≤ 2147483647)) (hj : (-2147483648 ≤ j ∧ j ≤ 2147483647)) (h68 : r 68 = m) (hm : m ≤ 24) (h1 : ¬ (0 ≤ i ∧ i < m)) : ∀ h, Ca 148 [.ref 102, .int (ii i), .int (ii j)] (wd [(102, oX6 rf ts sp d kd vs rw rd rk rv rr ac), (107, ar 72 r)] h) (.inl (some (.int (ii 0))), wd [(102, oX6 1 ts sp d kd vs rw rd rk rv rr ac), (107, ar 72 r)] h) := by
  intro h
  refine E_in (lv := [_, _, _]) rfl ?_
  refine E_aload pf_148_0 rfl ?_
  refine E_iload pf_148_1 rfl ?_
  refine E_i2l pf_148_2 (by omega) ?_
  refine E_lconst pf_148_3 ?_
  refine E_aload pf_148_4 rfl ?_
  refine F_getf pf_148_5 rfl rfl rfl ?_
  refine E_iconst pf_148_8 ?_
  refine F_iald pf_148_10 rfl (by omega) ?_
  refine E_iconst pf_148_11 ?_
  refine E_isub pf_148_12 ?_
  refine E_i2l pf_148_13 (by omega) ?_
  refine F_c3v0 pf_148_14 (c109f (by omega) (by omega)) (trivial) rfl ?_
  refine E_if_ne_f pf_148_17 (by omega) ?_
  refine E_iconst pf_148_20 ?_
  refine E_goto pf_148_21 ?_
  refine F_v2v (l' := [(_, _), (_, _)]) pf_148_39 (c108_1) (And.intro rfl (trivial)) rfl rfl rfl rfl ?_
  refine E_if_eq_f pf_148_42 (by omega) ?_
  refine E_iconst pf_148_45 ?_
  exact E_iret pf_148_46 rfl
theorem c148y {i j : Int} (hi : (-2147483648 ≤ i ∧ i ≤ 2147483647)) (hj : (-2147483648 ≤ j ∧ j ≤ 2147483647)) (h68 : r 68 = m) (hm : m ≤ 24) (h1 : 0 ≤ i ∧ i < m) (h2 : ¬ (0 ≤ j ∧ j ≤ 1)) : ∀ h, Ca 148 [.ref 102, .int (ii i), .int (ii j)] (wd [(102, oX6 rf ts sp d kd vs rw rd rk rv rr ac), (107, ar 72 r)] h) (.inl (some (.int (ii 0))), wd [(102, oX6 2 ts sp d kd vs rw rd rk rv rr ac), (107, ar 72 r)] h) := by
  intro h
  refine E_in (lv := [_, _, _]) rfl ?_
  refine E_aload pf_148_0 rfl ?_
  refine E_iload pf_148_1 rfl ?_
  refine E_i2l pf_148_2 (by omega) ?_
  refine E_lconst pf_148_3 ?_
  refine E_aload pf_148_4 rfl ?_
  refine F_getf pf_148_5 rfl rfl rfl ?_
  refine E_iconst pf_148_8 ?_
  refine F_iald pf_148_10 rfl (by omega) ?_
  refine E_iconst pf_148_11 ?_
  refine E_isub pf_148_12 ?_
  refine E_i2l pf_148_13 (by omega) ?_
  refine F_c3v0 pf_148_14 (c109t (by omega) (by omega)) (trivial) rfl ?_
  refine E_if_ne_t pf_148_17 (by omega) ?_
  refine E_iload pf_148_24 rfl ?_
  refine E_i2l pf_148_25 (by omega) ?_
  refine E_lconst pf_148_26 ?_
  refine E_lconst pf_148_27 ?_
  refine F_c3v0 pf_148_28 (c109f (by omega) (by omega)) (trivial) rfl ?_
  refine E_if_ne_f pf_148_31 (by omega) ?_
  refine E_iconst pf_148_34 ?_
  refine E_goto pf_148_35 ?_
  refine F_v2v (l' := [(_, _), (_, _)]) pf_148_39 (c108_2) (And.intro rfl (trivial)) rfl rfl rfl rfl ?_
  refine E_if_eq_f pf_148_42 (by omega) ?_
  refine E_iconst pf_148_45 ?_
  exact E_iret pf_148_46 rfl
end PUB
