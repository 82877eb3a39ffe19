/-! The reference's step. -/
theorem gv_get {v n a u : Int} {A : List (Int × Int)} {i : Nat} (h : A[i]? = some (a, u)) (e : a ≠ v) : (gv A v n)[i]? = some (a, u) := by
  have h1 := gv_set (n := n) (x := u) h e
  have h2 : A.set i (a, u) = A := by
    apply List.ext_getElem?
    intro j
    by_cases q : i = j
    · subst q
      rw [List.getElem?_set_self (by rcases Nat.lt_or_ge i A.length with g | g; exact g; rw [List.getElem?_eq_none g] at h; cases h), h]
    · rw [List.getElem?_set_ne q]
  rw [h2] at h1
  have hl : i < (gv A v n).length := by
    have h3 : i < A.length := by rcases Nat.lt_or_ge i A.length with g | g; exact g; rw [List.getElem?_eq_none g] at h; cases h
    unfold gv; split
    · exact h3
    · have := congrArg List.length (gvl_fst v n A)
      simp only [List.length_map] at this
      rw [this]; split
      · rwa [List.length_map]
      · rw [List.length_append, List.length_map]; omega
  rw [h1, List.getElem?_set_self hl]
theorem sbt_gv {v t a u : Int} {A : List (Int × Int)} {i : Nat} (hd : (A.map Prod.fst).Nodup) (h : A[i]? = some (a, u)) (ht : 0 ≤ t) : sbt (gv A v t) i t = gv (sbt A i t) v t := by
  by_cases e : a = v
  · subst e
    have hl : i < A.length := by rcases Nat.lt_or_ge i A.length with g | g; exact g; rw [List.getElem?_eq_none g] at h; cases h
    unfold gv
    by_cases h0 : t ≤ 0
    · rw [if_pos h0, if_pos h0]
    · rw [if_neg h0, if_neg h0]
      have hno : ∀ (j : Nat) (q : Int × Int), j < i → A[j]? = some q → q.1 ≠ a := fun j q hj hq he => by
        have g1 : (A.map Prod.fst)[j]? = some a := by rw [List.getElem?_map, hq, ← he]; rfl
        have g2 : (A.map Prod.fst)[i]? = some a := by rw [List.getElem?_map, h]; rfl
        have := (List.getElem?_inj (by rw [List.length_map]; omega) hd).mp (g1.trans g2.symm)
        omega
      rw [gvl_set hno h, sbt_at h, sbt_at (a := a) (u := u + t) (by rw [List.getElem?_set_self hl]), gvl_set (i := i) (u := u - t) (fun j q hj hq => hno j q hj (by rwa [List.getElem?_set_ne (by omega)] at hq)) (by rw [List.getElem?_set_self hl]), List.set_set, List.set_set]
      congr 2; omega
  · rw [sbt_at h, sbt_at (gv_get h e), gv_set h e]
theorem zp_setU {r : Int → Int} {m i : Nat} {x : Int} (hi : i < 24) (hm : m ≤ 24) : zp (zu r (44 + (i : Int)) x) m = zl (pV r) (zu (pU r) i x) m := by
  refine zl_congr fun j hj => ⟨?_, by rw [pU_u]⟩
  show zu _ _ _ (20 + (j : Int)) = _
  rw [zu_n _ _ (by omega)]; rfl
theorem zp_out {r : Int → Int} {m : Nat} {i x : Int} (hi : i < 20 ∨ 68 ≤ i) (hm : m ≤ 24) : zp (zu r i x) m = zp r m := by
  refine zl_congr fun j hj => ⟨?_, ?_⟩
  · show zu _ _ _ (20 + (j : Int)) = _
    rw [zu_n _ _ (by omega)]; rfl
  · show zu _ _ _ (44 + (j : Int)) = _
    rw [zu_n _ _ (by omega)]; rfl
theorem gv_len {A : List (Int × Int)} {v n : Int} : A.length ≤ (gv A v n).length := by
  unfold gv; split
  · exact Nat.le_refl _
  · have := congrArg List.length (gvl_fst v n A)
    simp only [List.length_map] at this
    rw [this]; split
    · rw [List.length_map]; exact Nat.le_refl _
    · rw [List.length_append, List.length_map]; omega
def zB (how : Int) (r P : Int → Int) (m d : Nat) (wi k : Int) : Int := if how = 0 then 100 * zR r P m d k else if how = 1 then (100 - r (44 + wi)) * zR r P m d k else zR r P m d k
def zW (how : Int) (r P : Int → Int) (m d : Nat) (b wi k : Int) : Int := if how = 0 then 100 * zA r P d k b - zR r P m d k else if how = 1 then zR r P m d k - 100 * zA r P d k (r (20 + wi)) else zA r P d k b - zA r P d k (r (20 + wi))
/-- the reference's sum of squares e units along a line -/
def zF (B W : Int → Int) (rn : Nat) (e : Int) : Int := zs (fun k => (B k + e * W k) * (B k + e * W k)) rn
def zT (how : Int) (r P : Int → Int) (m d rn vn : Nat) : Int := zam (zF (zB how r P m d (zWorst r P m d rn)) (zW how r P m d (zBest r P m d rn vn) (zWorst r P m d rn)) rn) (if how = 0 then 100 else (r (44 + zWorst r P m d rn)).toNat)
theorem zF_congr {B W B' W' : Int → Int} {rn : Nat} (h : ∀ k : Nat, k < rn → B k = B' k ∧ W k = W' k) (e : Int) : zF B W rn e = zF B' W' rn e := zs_congr fun k hk => by rw [(h k hk).1, (h k hk).2]
theorem zam_congr {f g : Int → Int} (h : ∀ e, f e = g e) (n : Nat) : zam f n = zam g n := by
  have : f = g := funext h
  rw [this]
section STP
variable {rf ts sp k rd rk rv rr ac : Int} {P r Q bg wy : Int → Int} {m dn rn vn : Nat}
theorem zBest_in (hP : ppk P dn vn rn) : 0 ≤ zBest r P m dn rn vn ∧ zBest r P m dn rn vn < vn := by
  have h1 := zam_in (zSv r P m dn rn) (vn - 1)
  have h2 := hP.2.1
  unfold zBest
  omega
theorem zWorst_in (hp : pgk (vn : Int) r m) : 0 ≤ zWorst r P m dn rn ∧ zWorst r P m dn rn < m := by
  have h1 := zax_in (fun i => zSv r P m dn rn (r (20 + i))) (m - 1)
  have h2 := hp.2.1
  unfold zWorst
  omega
theorem zB_le {how wi q : Int} (hp : pgk (vn : Int) r m) (hP : ppk P dn vn rn) (hq : 0 ≤ q ∧ q < 4) (hw : 0 ≤ wi ∧ wi < m) : -78750000 ≤ zB how r P m dn wi q ∧ zB how r P m dn wi q ≤ 78750000 := by
  have h1 := zR_le hp hP hq
  have h2 := hp.2.2.1 wi hw.1 hw.2
  have h3 := mul_le (a := 100 - r (44 + wi)) (b := zR r P m dn q) (A := 100) (B := 787500) (by omega) (by omega)
  unfold zB; split
  · omega
  · split <;> omega
theorem zW_le {how b wi q : Int} (hp : pgk (vn : Int) r m) (hP : ppk P dn vn rn) (hq : 0 ≤ q ∧ q < 4) : -829800 ≤ zW how r P m dn b wi q ∧ zW how r P m dn b wi q ≤ 829800 := by
  have h1 := zR_le hp hP hq
  have h2 := zA_le hp hP hq b
  have h3 := zA_le hp hP hq (r (20 + wi))
  unfold zW; split
  · omega
  · split <;> omega
theorem zF_le {B W : Int → Int} {e : Int} (hB : ∀ q : Int, 0 ≤ q → q < rn → -78750000 ≤ B q ∧ B q ≤ 78750000) (hW : ∀ q : Int, 0 ≤ q → q < rn → -829800 ≤ W q ∧ W q ≤ 829800) (hrn : rn ≤ 4) (he : 0 ≤ e ∧ e ≤ 100) (n : Nat) (hn : n ≤ rn) : -200000000000000000 ≤ zs (fun k => (B k + e * W k) * (B k + e * W k)) n ∧ zs (fun k => (B k + e * W k) * (B k + e * W k)) n ≤ 200000000000000000 := by
  have h := zs_le (f := fun k => (B k + e * W k) * (B k + e * W k)) (n := n) (B := 26163380250000000) (fun q hq => by
    have a := hB q (by omega) (by omega)
    have b := hW q (by omega) (by omega)
    have c := mul_le (a := e) (b := W q) (A := 100) (B := 829800) (by omega) (by omega)
    have := mul_le (a := B q + e * W q) (b := B q + e * W q) (A := 161730000) (B := 161730000) (by omega) (by omega)
    omega)
  have : (n : Int) * 26163380250000000 ≤ 4 * 26163380250000000 := by omega
  omega
theorem c124xn (hp : pgk (vn : Int) r m) (hm : m < 2) : ∀ h, Ca 124 [.ref 102, .ref 107, .int (ii 1)] (wd [(102, oX6 rf ts sp (dn : Int) k (vn : Int) (rn : Int) rd rk rv rr ac), (104, ar 128 P), (107, ar 72 r), (112, ar 24 Q), (113, lr 4 bg), (114, lr 4 wy)] h) (.inl (some (.int (ii (-9)))), wd [(102, oX6 rf ts sp (dn : Int) k (vn : Int) (rn : Int) rd rk rv rr ac), (104, ar 128 P), (107, ar 72 r), (112, ar 24 Q), (113, lr 4 bg), (114, lr 4 wy)] h) := by
  intro h
  have h68 := hp.1
  refine E_in (lv := [_, _, _, _, _, _, _, _, _, _, _, _, _, _, _, _]) rfl ?_
  refine E_iload pf_124_0 rfl ?_
  refine E_iconst pf_124_1 ?_
  refine E_icmp_ne_f pf_124_2 (by omega) ?_
  refine E_aload pf_124_5 rfl ?_
  refine E_iconst pf_124_6 ?_
  refine F_iald pf_124_8 rfl (by omega) ?_
  refine E_iconst pf_124_9 ?_
  refine E_icmp_ge_f pf_124_10 (by omega) ?_
  refine E_iconst pf_124_13 ?_
  exact E_iret pf_124_15 rfl
theorem c124bn {how : Int} (hh : how = 0 ∨ how = 1 ∨ how = 2) (hp : pgk (vn : Int) r m) (hP : ppk P dn vn rn) (h : pd_H) (o : pd_Out × pd_H) (fin : ∀ w8 w9 w10 w11 w12 w13 w14 w15 : Value, Rn 124 186 [.ref 102, .ref 107, .int (ii how), .int (ii (zBest r P m dn rn vn)), .int (ii (zWorst r P m dn rn)), .int (ii (r (20 + (zWorst r P m dn rn)))), .int (ii (r (44 + (zWorst r P m dn rn)))), .int (ii (rn : Int)), w8, w9, w10, w11, w12, w13, w14, w15] [] (wd [(102, oX6 rf ts sp (dn : Int) k (vn : Int) (rn : Int) rd rk rv rr ac), (104, ar 128 P), (107, ar 72 r), (112, ar 24 Q), (113, lr 4 (zfill bg (zB how r P m dn (zWorst r P m dn rn)) rn)), (114, lr 4 (zfill wy (zW how r P m dn (zBest r P m dn rn vn) (zWorst r P m dn rn)) rn))] h) o) : ∀ (n i : Nat) (w8 w9 w10 w11 w12 w13 w14 w15 : Value), i + n = rn → Rn 124 50 [.ref 102, .ref 107, .int (ii how), .int (ii (zBest r P m dn rn vn)), .int (ii (zWorst r P m dn rn)), .int (ii (r (20 + (zWorst r P m dn rn)))), .int (ii (r (44 + (zWorst r P m dn rn)))), .int (ii (i : Int)), w8, w9, w10, w11, w12, w13, w14, w15] [] (wd [(102, oX6 rf ts sp (dn : Int) k (vn : Int) (rn : Int) rd rk rv rr ac), (104, ar 128 P), (107, ar 72 r), (112, ar 24 Q), (113, lr 4 (zfill bg (zB how r P m dn (zWorst r P m dn rn)) i)), (114, lr 4 (zfill wy (zW how r P m dn (zBest r P m dn rn vn) (zWorst r P m dn rn)) i))] h) o := by
  have hrn := hP.2.2.1
  have hvn := hP.2.1
  have hb := zBest_in (r := r) (m := m) hP
  have hwi := zWorst_in (P := P) (dn := dn) (rn := rn) hp
  have hat := hp.2.2.1 (zWorst r P m dn rn) hwi.1 hwi.2
  intro n
  induction n with
  | zero =>
    intro i w8 w9 w10 w11 w12 w13 w14 w15 hi
    obtain rfl : i = rn := by omega
    refine E_iload pf_124_50 rfl ?_
    refine E_aload pf_124_52 rfl ?_
    refine F_getf pf_124_53 rfl rfl rfl ?_
    refine E_icmp_ge_t pf_124_56 (by omega) ?_
    exact fin _ _ _ _ _ _ _ _
  | succ n ih =>
    intro i w8 w9 w10 w11 w12 w13 w14 w15 hi
    have h1 := zR_le hp hP (k := i) (by omega)
    have h2 := zA_le hp hP (k := i) (by omega) (zBest r P m dn rn vn)
    have h3 := zA_le hp hP (k := i) (by omega) (r (20 + (zWorst r P m dn rn)))
    have ih := fun w8 w9 w10 w11 w12 w13 w14 w15 => ih (i + 1) w8 w9 w10 w11 w12 w13 w14 w15 (by omega)
    rw [zfill_s, zfill_s] at ih
    rcases hh with rfl | rfl | rfl
    · have e1 : zB 0 r P m dn (zWorst r P m dn rn) i = 100 * zR r P m dn i := by unfold zB; rw [if_pos rfl]
      have e2 : zW 0 r P m dn (zBest r P m dn rn vn) (zWorst r P m dn rn) i = 100 * zA r P dn i (zBest r P m dn rn vn) - zR r P m dn i := by unfold zW; rw [if_pos rfl]
      rw [e1, e2] at ih
      refine E_iload pf_124_50 rfl ?_
      refine E_aload pf_124_52 rfl ?_
      refine F_getf pf_124_53 rfl rfl rfl ?_
      refine E_icmp_ge_f pf_124_56 (by omega) ?_
      refine E_aload pf_124_59 rfl ?_
      refine E_aload pf_124_60 rfl ?_
      refine E_iload pf_124_61 rfl ?_
      refine F_v3v0 pf_124_63 (c113n hp hP rfl (by omega) (by omega)) (And.intro rfl (And.intro rfl (And.intro rfl (trivial)))) rfl rfl ?_
      refine E_i2l pf_124_66 (by omega) ?_
      refine E_lstore (lv' := [_, _, _, _, _, _, _, _, _, _, _, _, _, _, _, _]) pf_124_67 rfl rfl ?_
      refine E_lconst pf_124_69 ?_
      refine E_aload pf_124_72 rfl ?_
      refine E_aload pf_124_73 rfl ?_
      refine E_iload pf_124_74 rfl ?_
      refine E_iload pf_124_76 rfl ?_
      refine F_v4v0 pf_124_77 (c114n hp hP (by omega) (by omega)) (And.intro rfl (And.intro rfl (And.intro rfl (trivial)))) rfl rfl ?_
      refine E_i2l pf_124_80 (by omega) ?_
      refine E_lmul pf_124_81 ?_
      refine E_lstore (lv' := [_, _, _, _, _, _, _, _, _, _, _, _, _, _, _, _]) pf_124_82 rfl rfl ?_
      refine E_lconst pf_124_84 ?_
      refine E_aload pf_124_87 rfl ?_
      refine E_aload pf_124_88 rfl ?_
      refine E_iload pf_124_89 rfl ?_
      refine E_iload pf_124_91 rfl ?_
      refine F_v4v0 pf_124_93 (c114n hp hP (by omega) (by omega)) (And.intro rfl (And.intro rfl (And.intro rfl (trivial)))) rfl rfl ?_
      refine E_i2l pf_124_96 (by omega) ?_
      refine E_lmul pf_124_97 ?_
      refine E_lstore (lv' := [_, _, _, _, _, _, _, _, _, _, _, _, _, _, _, _]) pf_124_98 rfl rfl ?_
      refine E_aload pf_124_100 rfl ?_
      refine F_getf pf_124_101 rfl rfl rfl ?_
      refine E_iload pf_124_104 rfl ?_
      refine E_iload pf_124_106 rfl ?_
      refine E_if_ne_f pf_124_107 (by omega) ?_
      refine E_lconst pf_124_110 ?_
      refine E_lload pf_124_113 rfl ?_
      refine E_lmul pf_124_115 ?_
      refine E_goto pf_124_116 ?_
      refine F_last (l' := [(_, _), (_, _), (_, _), (_, _), (_, _), (_, _)]) pf_124_138 rfl (by omega) rfl ?_
      refine E_aload pf_124_139 rfl ?_
      refine F_getf pf_124_140 rfl rfl rfl ?_
      refine E_iload pf_124_143 rfl ?_
      refine E_iload pf_124_145 rfl ?_
      refine E_if_ne_f pf_124_146 (by omega) ?_
      refine E_lload pf_124_149 rfl ?_
      refine E_lload pf_124_151 rfl ?_
      refine E_lsub pf_124_153 ?_
      refine E_goto pf_124_154 ?_
      refine F_last (l' := [(_, _), (_, _), (_, _), (_, _), (_, _), (_, _)]) pf_124_179 rfl (by omega) rfl ?_
      refine E_iinc (lv' := [_, _, _, _, _, _, _, _, _, _, _, _, _, _, _, _]) pf_124_180 rfl rfl ?_
      refine E_goto pf_124_183 ?_
      exact ih _ _ _ _ _ _ _ _
    · have e1 : zB 1 r P m dn (zWorst r P m dn rn) i = (100 - r (44 + (zWorst r P m dn rn))) * zR r P m dn i := by unfold zB; rw [if_neg (by omega), if_pos rfl]
      have e2 : zW 1 r P m dn (zBest r P m dn rn vn) (zWorst r P m dn rn) i = zR r P m dn i - 100 * zA r P dn i (r (20 + (zWorst r P m dn rn))) := by unfold zW; rw [if_neg (by omega), if_pos rfl]
      rw [e1, e2] at ih
      refine E_iload pf_124_50 rfl ?_
      refine E_aload pf_124_52 rfl ?_
      refine F_getf pf_124_53 rfl rfl rfl ?_
      refine E_icmp_ge_f pf_124_56 (by omega) ?_
      refine E_aload pf_124_59 rfl ?_
      refine E_aload pf_124_60 rfl ?_
      refine E_iload pf_124_61 rfl ?_
      refine F_v3v0 pf_124_63 (c113n hp hP rfl (by omega) (by omega)) (And.intro rfl (And.intro rfl (And.intro rfl (trivial)))) rfl rfl ?_
      refine E_i2l pf_124_66 (by omega) ?_
      refine E_lstore (lv' := [_, _, _, _, _, _, _, _, _, _, _, _, _, _, _, _]) pf_124_67 rfl rfl ?_
      refine E_lconst pf_124_69 ?_
      refine E_aload pf_124_72 rfl ?_
      refine E_aload pf_124_73 rfl ?_
      refine E_iload pf_124_74 rfl ?_
      refine E_iload pf_124_76 rfl ?_
      refine F_v4v0 pf_124_77 (c114n hp hP (by omega) (by omega)) (And.intro rfl (And.intro rfl (And.intro rfl (trivial)))) rfl rfl ?_
      refine E_i2l pf_124_80 (by omega) ?_
      refine E_lmul pf_124_81 ?_
      refine E_lstore (lv' := [_, _, _, _, _, _, _, _, _, _, _, _, _, _, _, _]) pf_124_82 rfl rfl ?_
      refine E_lconst pf_124_84 ?_
      refine E_aload pf_124_87 rfl ?_
      refine E_aload pf_124_88 rfl ?_
      refine E_iload pf_124_89 rfl ?_
      refine E_iload pf_124_91 rfl ?_
      refine F_v4v0 pf_124_93 (c114n hp hP (by omega) (by omega)) (And.intro rfl (And.intro rfl (And.intro rfl (trivial)))) rfl rfl ?_
      refine E_i2l pf_124_96 (by omega) ?_
      refine E_lmul pf_124_97 ?_
      refine E_lstore (lv' := [_, _, _, _, _, _, _, _, _, _, _, _, _, _, _, _]) pf_124_98 rfl rfl ?_
      refine E_aload pf_124_100 rfl ?_
      refine F_getf pf_124_101 rfl rfl rfl ?_
      refine E_iload pf_124_104 rfl ?_
      refine E_iload pf_124_106 rfl ?_
      refine E_if_ne_t pf_124_107 (by omega) ?_
      refine E_iload pf_124_119 rfl ?_
      refine E_iconst pf_124_120 ?_
      refine E_icmp_ne_f pf_124_121 (by omega) ?_
      refine E_iconst pf_124_124 ?_
      refine E_iload pf_124_126 rfl ?_
      refine E_isub pf_124_128 ?_
      refine E_i2l pf_124_129 (by omega) ?_
      refine E_lload pf_124_130 rfl ?_
      refine E_lmul pf_124_132 ?_
      refine E_goto pf_124_133 ?_
      refine F_last (l' := [(_, _), (_, _), (_, _), (_, _), (_, _), (_, _)]) pf_124_138 rfl (by omega) rfl ?_
      refine E_aload pf_124_139 rfl ?_
      refine F_getf pf_124_140 rfl rfl rfl ?_
      refine E_iload pf_124_143 rfl ?_
      refine E_iload pf_124_145 rfl ?_
      refine E_if_ne_t pf_124_146 (by omega) ?_
      refine E_iload pf_124_157 rfl ?_
      refine E_iconst pf_124_158 ?_
      refine E_icmp_ne_f pf_124_159 (by omega) ?_
      refine E_lload pf_124_162 rfl ?_
      refine E_lload pf_124_164 rfl ?_
      refine E_lsub pf_124_166 ?_
      refine E_goto pf_124_167 ?_
      refine F_last (l' := [(_, _), (_, _), (_, _), (_, _), (_, _), (_, _)]) pf_124_179 rfl (by omega) rfl ?_
      refine E_iinc (lv' := [_, _, _, _, _, _, _, _, _, _, _, _, _, _, _, _]) pf_124_180 rfl rfl ?_
      refine E_goto pf_124_183 ?_
      exact ih _ _ _ _ _ _ _ _
    · have e1 : zB 2 r P m dn (zWorst r P m dn rn) i = zR r P m dn i := by unfold zB; rw [if_neg (by omega), if_neg (by omega)]
      have e2 : zW 2 r P m dn (zBest r P m dn rn vn) (zWorst r P m dn rn) i = zA r P dn i (zBest r P m dn rn vn) - zA r P dn i (r (20 + (zWorst r P m dn rn))) := by unfold zW; rw [if_neg (by omega), if_neg (by omega)]
      rw [e1, e2] at ih
      refine E_iload pf_124_50 rfl ?_
      refine E_aload pf_124_52 rfl ?_
      refine F_getf pf_124_53 rfl rfl rfl ?_
      refine E_icmp_ge_f pf_124_56 (by omega) ?_
      refine E_aload pf_124_59 rfl ?_
      refine E_aload pf_124_60 rfl ?_
      refine E_iload pf_124_61 rfl ?_
      refine F_v3v0 pf_124_63 (c113n hp hP rfl (by omega) (by omega)) (And.intro rfl (And.intro rfl (And.intro rfl (trivial)))) rfl rfl ?_
      refine E_i2l pf_124_66 (by omega) ?_
      refine E_lstore (lv' := [_, _, _, _, _, _, _, _, _, _, _, _, _, _, _, _]) pf_124_67 rfl rfl ?_
      refine E_lconst pf_124_69 ?_
      refine E_aload pf_124_72 rfl ?_
      refine E_aload pf_124_73 rfl ?_
      refine E_iload pf_124_74 rfl ?_
      refine E_iload pf_124_76 rfl ?_
      refine F_v4v0 pf_124_77 (c114n hp hP (by omega) (by omega)) (And.intro rfl (And.intro rfl (And.intro rfl (trivial)))) rfl rfl ?_
      refine E_i2l pf_124_80 (by omega) ?_
      refine E_lmul pf_124_81 ?_
      refine E_lstore (lv' := [_, _, _, _, _, _, _, _, _, _, _, _, _, _, _, _]) pf_124_82 rfl rfl ?_
      refine E_lconst pf_124_84 ?_
      refine E_aload pf_124_87 rfl ?_
      refine E_aload pf_124_88 rfl ?_
      refine E_iload pf_124_89 rfl ?_
      refine E_iload pf_124_91 rfl ?_
      refine F_v4v0 pf_124_93 (c114n hp hP (by omega) (by omega)) (And.intro rfl (And.intro rfl (And.intro rfl (trivial)))) rfl rfl ?_
      refine E_i2l pf_124_96 (by omega) ?_
      refine E_lmul pf_124_97 ?_
      refine E_lstore (lv' := [_, _, _, _, _, _, _, _, _, _, _, _, _, _, _, _]) pf_124_98 rfl rfl ?_
      refine E_aload pf_124_100 rfl ?_
      refine F_getf pf_124_101 rfl rfl rfl ?_
      refine E_iload pf_124_104 rfl ?_
      refine E_iload pf_124_106 rfl ?_
      refine E_if_ne_t pf_124_107 (by omega) ?_
      refine E_iload pf_124_119 rfl ?_
      refine E_iconst pf_124_120 ?_
      refine E_icmp_ne_t pf_124_121 (by omega) ?_
      refine E_lload pf_124_136 rfl ?_
      refine F_last (l' := [(_, _), (_, _), (_, _), (_, _), (_, _), (_, _)]) pf_124_138 rfl (by omega) rfl ?_
      refine E_aload pf_124_139 rfl ?_
      refine F_getf pf_124_140 rfl rfl rfl ?_
      refine E_iload pf_124_143 rfl ?_
      refine E_iload pf_124_145 rfl ?_
      refine E_if_ne_t pf_124_146 (by omega) ?_
      refine E_iload pf_124_157 rfl ?_
      refine E_iconst pf_124_158 ?_
      refine E_icmp_ne_t pf_124_159 (by omega) ?_
      refine E_lload pf_124_170 rfl ?_
      refine E_lload pf_124_172 rfl ?_
      refine E_lsub pf_124_174 ?_
      refine E_lconst pf_124_175 ?_
      rw [← Int.mul_sub]
      refine E_ldivX pf_124_178 (by omega) ?_
      refine F_last (l' := [(_, _), (_, _), (_, _), (_, _), (_, _), (_, _)]) pf_124_179 rfl (by omega) rfl ?_
      refine E_iinc (lv' := [_, _, _, _, _, _, _, _, _, _, _, _, _, _, _, _]) pf_124_180 rfl rfl ?_
      refine E_goto pf_124_183 ?_
      exact ih _ _ _ _ _ _ _ _
theorem c124cn {how a3 a4 a5 a6 : Int} {lim : Nat} (hh : how = 0 ∨ how = 1 ∨ how = 2) (hl : lim ≤ 100) (ha : if how = 0 then lim = 100 else a6 = lim) (hrn : 1 ≤ rn ∧ rn ≤ 4) (hB : ∀ q : Int, 0 ≤ q → q < rn → -78750000 ≤ bg q ∧ bg q ≤ 78750000) (hW : ∀ q : Int, 0 ≤ q → q < rn → -829800 ≤ wy q ∧ wy q ≤ 829800) (h : pd_H) (o : pd_Out × pd_H) (fin : ∀ w8 w9 w10 w11 w12 w13 w14 w15 : Value, Rn 124 313 [.ref 102, .ref 107, .int (ii how), .int (ii a3), .int (ii a4), .int (ii a5), .int (ii a6), .int (ii (zam (zF bg wy rn) lim)), w8, w9, w10, w11, w12, w13, w14, w15] [] (wd [(102, oX6 rf ts sp (dn : Int) k (vn : Int) (rn : Int) rd rk rv rr ac), (104, ar 128 P), (107, ar 72 r), (112, ar 24 Q), (113, lr 4 bg), (114, lr 4 wy)] h) o) : ∀ w7 w8 w9 w10 w11 w12 w13 w14 w15 : Value, Rn 124 186 [.ref 102, .ref 107, .int (ii how), .int (ii a3), .int (ii a4), .int (ii a5), .int (ii a6), w7, w8, w9, w10, w11, w12, w13, w14, w15] [] (wd [(102, oX6 rf ts sp (dn : Int) k (vn : Int) (rn : Int) rd rk rv rr ac), (104, ar 128 P), (107, ar 72 r), (112, ar 24 Q), (113, lr 4 bg), (114, lr 4 wy)] h) o := by
  have inner : ∀ (t l : Int) (e : Int) (w9 : Value), 0 ≤ e ∧ e ≤ 100 → (∀ w13 w14 w15 : Value, Rn 124 263 [.ref 102, .ref 107, .int (ii how), .int (ii a3), .int (ii a4), .int (ii a5), .int (ii a6), .int (ii t), .long (ll l), w9, .int (ii e), .long (ll (zF bg wy rn e)), pd_dum, w13, w14, w15] [] (wd [(102, oX6 rf ts sp (dn : Int) k (vn : Int) (rn : Int) rd rk rv rr ac), (104, ar 128 P), (107, ar 72 r), (112, ar 24 Q), (113, lr 4 bg), (114, lr 4 wy)] h) o) → ∀ (n i : Nat) (w14 w15 : Value), i + n = rn → Rn 124 217 [.ref 102, .ref 107, .int (ii how), .int (ii a3), .int (ii a4), .int (ii a5), .int (ii a6), .int (ii t), .long (ll l), w9, .int (ii e), .long (ll (zs (fun k => (bg k + e * wy k) * (bg k + e * wy k)) i)), pd_dum, .int (ii (i : Int)), w14, w15] [] (wd [(102, oX6 rf ts sp (dn : Int) k (vn : Int) (rn : Int) rd rk rv rr ac), (104, ar 128 P), (107, ar 72 r), (112, ar 24 Q), (113, lr 4 bg), (114, lr 4 wy)] h) o := by
    intro t l e w9 he fin n
    induction n with
    | zero =>
      intro i w14 w15 hi
      obtain rfl : i = rn := by omega
      refine E_iload pf_124_217 rfl ?_
      refine E_aload pf_124_219 rfl ?_
      refine F_getf pf_124_220 rfl rfl rfl ?_
      refine E_icmp_ge_t pf_124_223 (by omega) ?_
      exact fin _ _ _
    | succ n ih =>
      intro i w14 w15 hi
      have ih := fun w14 w15 => ih (i + 1) w14 w15 (by omega)
      refine E_iload pf_124_217 rfl ?_
      refine E_aload pf_124_219 rfl ?_
      refine F_getf pf_124_220 rfl rfl rfl ?_
      refine E_icmp_ge_f pf_124_223 (by omega) ?_
      refine E_aload pf_124_226 rfl ?_
      refine F_getf pf_124_227 rfl rfl rfl ?_
      refine E_iload pf_124_230 rfl ?_
      refine F_lald pf_124_232 rfl (by omega) ?_
      refine E_iload pf_124_233 rfl ?_
      refine E_i2l pf_124_235 (by omega) ?_
      refine E_aload pf_124_236 rfl ?_
      refine F_getf pf_124_237 rfl rfl rfl ?_
      refine E_iload pf_124_240 rfl ?_
      refine F_lald pf_124_242 rfl (by omega) ?_
      refine E_lmul pf_124_243 ?_
      refine E_ladd pf_124_244 ?_
      refine E_lstore (lv' := [_, _, _, _, _, _, _, _, _, _, _, _, _, _, _, _]) pf_124_245 rfl rfl ?_
      refine E_lload pf_124_247 rfl ?_
      refine E_lload pf_124_249 rfl ?_
      refine E_lload pf_124_251 rfl ?_
      refine E_lmul pf_124_253 ?_
      refine E_ladd pf_124_254 ?_
      refine E_lstore (lv' := [_, _, _, _, _, _, _, _, _, _, _, _, _, _, _, _]) pf_124_255 rfl rfl ?_
      refine E_iinc (lv' := [_, _, _, _, _, _, _, _, _, _, _, _, _, _, _, _]) pf_124_257 rfl rfl ?_
      refine E_goto pf_124_260 ?_
      exact ih _ _
  have hF : ∀ e : Int, 0 ≤ e ∧ e ≤ 100 → -200000000000000000 ≤ zF bg wy rn e ∧ zF bg wy rn e ≤ 200000000000000000 := fun e he => zF_le hB hW hrn.2 he rn (Nat.le_refl _)
  have outer : ∀ (n i : Nat) (w11 w12 w13 w14 w15 : Value), i + n = lim → Rn 124 195 [.ref 102, .ref 107, .int (ii how), .int (ii a3), .int (ii a4), .int (ii a5), .int (ii a6), .int (ii (zam (zF bg wy rn) i)), .long (ll (zF bg wy rn (zam (zF bg wy rn) i))), pd_dum, .int (ii ((i + 1 : Nat) : Int)), w11, w12, w13, w14, w15] [] (wd [(102, oX6 rf ts sp (dn : Int) k (vn : Int) (rn : Int) rd rk rv rr ac), (104, ar 128 P), (107, ar 72 r), (112, ar 24 Q), (113, lr 4 bg), (114, lr 4 wy)] h) o := by
    intro n
    induction n with
    | zero =>
      intro i w11 w12 w13 w14 w15 hi
      obtain rfl : i = lim := by omega
      rcases hh with rfl | rfl | rfl
      · rw [if_pos rfl] at ha
        refine E_iload pf_124_195 rfl ?_
        refine E_iload pf_124_197 rfl ?_
        refine E_if_ne_f pf_124_198 (by omega) ?_
        refine E_iconst pf_124_201 ?_
        refine E_goto pf_124_203 ?_
        refine E_icmp_gt_t pf_124_208 (by omega) ?_
        exact fin _ _ _ _ _ _ _ _
      · rw [if_neg (by omega)] at ha
        refine E_iload pf_124_195 rfl ?_
        refine E_iload pf_124_197 rfl ?_
        refine E_if_ne_t pf_124_198 (by omega) ?_
        refine E_iload pf_124_206 rfl ?_
        refine E_icmp_gt_t pf_124_208 (by omega) ?_
        exact fin _ _ _ _ _ _ _ _
      · rw [if_neg (by omega)] at ha
        refine E_iload pf_124_195 rfl ?_
        refine E_iload pf_124_197 rfl ?_
        refine E_if_ne_t pf_124_198 (by omega) ?_
        refine E_iload pf_124_206 rfl ?_
        refine E_icmp_gt_t pf_124_208 (by omega) ?_
        exact fin _ _ _ _ _ _ _ _
    | succ n ih =>
      intro i w11 w12 w13 w14 w15 hi
      have ih := fun w11 w12 w13 w14 w15 => ih (i + 1) w11 w12 w13 w14 w15 (by omega)
      have hz := zam_in (zF bg wy rn) i
      have hf1 := hF (zam (zF bg wy rn) i) (by omega)
      have hf2 := hF ((i + 1 : Nat) : Int) (by omega)
      have rest : Rn 124 217 [.ref 102, .ref 107, .int (ii how), .int (ii a3), .int (ii a4), .int (ii a5), .int (ii a6), .int (ii (zam (zF bg wy rn) i)), .long (ll (zF bg wy rn (zam (zF bg wy rn) i))), pd_dum, .int (ii ((i + 1 : Nat) : Int)), .long (ll 0), pd_dum, .int (ii 0), w14, w15] [] (wd [(102, oX6 rf ts sp (dn : Int) k (vn : Int) (rn : Int) rd rk rv rr ac), (104, ar 128 P), (107, ar 72 r), (112, ar 24 Q), (113, lr 4 bg), (114, lr 4 wy)] h) o := by
        refine inner _ _ ((i + 1 : Nat) : Int) _ (by omega) (fun w13 w14 w15 => ?_) rn 0 _ _ (by omega)
        by_cases hc : zF bg wy rn ((i + 1 : Nat) : Int) < zF bg wy rn (zam (zF bg wy rn) i)
        · have e1 : zam (zF bg wy rn) (i + 1) = ((i + 1 : Nat) : Int) := by simp only [zam]; rw [if_pos hc]
          rw [e1] at ih
          refine E_iload pf_124_263 rfl ?_
          refine E_if_eq_f pf_124_265 (by omega) ?_
          refine E_lload pf_124_268 rfl ?_
          refine E_lload pf_124_270 rfl ?_
          refine E_lcmp_ge_f pf_124_272 pf_124_273 (by omega) ?_
          refine E_iload pf_124_276 rfl ?_
          refine E_goto pf_124_278 ?_
          refine E_istore (lv' := [_, _, _, _, _, _, _, _, _, _, _, _, _, _, _, _]) pf_124_283 rfl rfl ?_
          refine E_iload pf_124_285 rfl ?_
          refine E_if_eq_f pf_124_287 (by omega) ?_
          refine E_lload pf_124_290 rfl ?_
          refine E_lload pf_124_292 rfl ?_
          refine E_lcmp_ge_f pf_124_294 pf_124_295 (by omega) ?_
          refine E_lload pf_124_298 rfl ?_
          refine E_goto pf_124_300 ?_
          refine E_lstore (lv' := [_, _, _, _, _, _, _, _, _, _, _, _, _, _, _, _]) pf_124_305 rfl rfl ?_
          refine E_iinc (lv' := [_, _, _, _, _, _, _, _, _, _, _, _, _, _, _, _]) pf_124_307 rfl rfl ?_
          refine E_goto pf_124_310 ?_
          exact ih _ _ _ _ _
        · have e1 : zam (zF bg wy rn) (i + 1) = zam (zF bg wy rn) i := by simp only [zam]; rw [if_neg hc]
          rw [e1] at ih
          refine E_iload pf_124_263 rfl ?_
          refine E_if_eq_f pf_124_265 (by omega) ?_
          refine E_lload pf_124_268 rfl ?_
          refine E_lload pf_124_270 rfl ?_
          refine E_lcmp_ge_t pf_124_272 pf_124_273 (by omega) ?_
          refine E_iload pf_124_281 rfl ?_
          refine E_istore (lv' := [_, _, _, _, _, _, _, _, _, _, _, _, _, _, _, _]) pf_124_283 rfl rfl ?_
          refine E_iload pf_124_285 rfl ?_
          refine E_if_eq_f pf_124_287 (by omega) ?_
          refine E_lload pf_124_290 rfl ?_
          refine E_lload pf_124_292 rfl ?_
          refine E_lcmp_ge_t pf_124_294 pf_124_295 (by omega) ?_
          refine E_lload pf_124_303 rfl ?_
          refine E_lstore (lv' := [_, _, _, _, _, _, _, _, _, _, _, _, _, _, _, _]) pf_124_305 rfl rfl ?_
          refine E_iinc (lv' := [_, _, _, _, _, _, _, _, _, _, _, _, _, _, _, _]) pf_124_307 rfl rfl ?_
          refine E_goto pf_124_310 ?_
          exact ih _ _ _ _ _
      rcases hh with rfl | rfl | rfl
      · rw [if_pos rfl] at ha
        refine E_iload pf_124_195 rfl ?_
        refine E_iload pf_124_197 rfl ?_
        refine E_if_ne_f pf_124_198 (by omega) ?_
        refine E_iconst pf_124_201 ?_
        refine E_goto pf_124_203 ?_
        refine E_icmp_gt_f pf_124_208 (by omega) ?_
        refine E_lconst pf_124_211 ?_
        refine E_lstore (lv' := [_, _, _, _, _, _, _, _, _, _, _, _, _, _, _, _]) pf_124_212 rfl rfl ?_
        refine E_iconst pf_124_214 ?_
        refine E_istore (lv' := [_, _, _, _, _, _, _, _, _, _, _, _, _, _, _, _]) pf_124_215 rfl rfl ?_
        exact rest
      · rw [if_neg (by omega)] at ha
        refine E_iload pf_124_195 rfl ?_
        refine E_iload pf_124_197 rfl ?_
        refine E_if_ne_t pf_124_198 (by omega) ?_
        refine E_iload pf_124_206 rfl ?_
        refine E_icmp_gt_f pf_124_208 (by omega) ?_
        refine E_lconst pf_124_211 ?_
        refine E_lstore (lv' := [_, _, _, _, _, _, _, _, _, _, _, _, _, _, _, _]) pf_124_212 rfl rfl ?_
        refine E_iconst pf_124_214 ?_
        refine E_istore (lv' := [_, _, _, _, _, _, _, _, _, _, _, _, _, _, _, _]) pf_124_215 rfl rfl ?_
        exact rest
      · rw [if_neg (by omega)] at ha
        refine E_iload pf_124_195 rfl ?_
        refine E_iload pf_124_197 rfl ?_
        refine E_if_ne_t pf_124_198 (by omega) ?_
        refine E_iload pf_124_206 rfl ?_
        refine E_icmp_gt_f pf_124_208 (by omega) ?_
        refine E_lconst pf_124_211 ?_
        refine E_lstore (lv' := [_, _, _, _, _, _, _, _, _, _, _, _, _, _, _, _]) pf_124_212 rfl rfl ?_
        refine E_iconst pf_124_214 ?_
        refine E_istore (lv' := [_, _, _, _, _, _, _, _, _, _, _, _, _, _, _, _]) pf_124_215 rfl rfl ?_
        exact rest
  intro w7 w8 w9 w10 w11 w12 w13 w14 w15
  have hf0 := hF 0 (by omega)
  have rest : Rn 124 217 [.ref 102, .ref 107, .int (ii how), .int (ii a3), .int (ii a4), .int (ii a5), .int (ii a6), .int (ii 0), .long (ll 0), pd_dum, .int (ii 0), .long (ll 0), pd_dum, .int (ii 0), w14, w15] [] (wd [(102, oX6 rf ts sp (dn : Int) k (vn : Int) (rn : Int) rd rk rv rr ac), (104, ar 128 P), (107, ar 72 r), (112, ar 24 Q), (113, lr 4 bg), (114, lr 4 wy)] h) o := by
    refine inner _ _ 0 _ (by omega) (fun w13 w14 w15 => ?_) rn 0 _ _ (by omega)
    have ot := outer lim 0 (.long (ll (zF bg wy rn 0))) pd_dum w13 w14 w15 (by omega)
    refine E_iload pf_124_263 rfl ?_
    refine E_if_eq_t pf_124_265 (by omega) ?_
    refine E_iload pf_124_276 rfl ?_
    refine E_goto pf_124_278 ?_
    refine E_istore (lv' := [_, _, _, _, _, _, _, _, _, _, _, _, _, _, _, _]) pf_124_283 rfl rfl ?_
    refine E_iload pf_124_285 rfl ?_
    refine E_if_eq_t pf_124_287 (by omega) ?_
    refine E_lload pf_124_298 rfl ?_
    refine E_goto pf_124_300 ?_
    refine E_lstore (lv' := [_, _, _, _, _, _, _, _, _, _, _, _, _, _, _, _]) pf_124_305 rfl rfl ?_
    refine E_iinc (lv' := [_, _, _, _, _, _, _, _, _, _, _, _, _, _, _, _]) pf_124_307 rfl rfl ?_
    refine E_goto pf_124_310 ?_
    exact ot
  rcases hh with rfl | rfl | rfl
  · rw [if_pos rfl] at ha
    refine E_iconst pf_124_186 ?_
    refine E_istore (lv' := [_, _, _, _, _, _, _, _, _, _, _, _, _, _, _, _]) pf_124_187 rfl rfl ?_
    refine E_lconst pf_124_189 ?_
    refine E_lstore (lv' := [_, _, _, _, _, _, _, _, _, _, _, _, _, _, _, _]) pf_124_190 rfl rfl ?_
    refine E_iconst pf_124_192 ?_
    refine E_istore (lv' := [_, _, _, _, _, _, _, _, _, _, _, _, _, _, _, _]) pf_124_193 rfl rfl ?_
    refine E_iload pf_124_195 rfl ?_
    refine E_iload pf_124_197 rfl ?_
    refine E_if_ne_f pf_124_198 (by omega) ?_
    refine E_iconst pf_124_201 ?_
    refine E_goto pf_124_203 ?_
    refine E_icmp_gt_f pf_124_208 (by omega) ?_
    refine E_lconst pf_124_211 ?_
    refine E_lstore (lv' := [_, _, _, _, _, _, _, _, _, _, _, _, _, _, _, _]) pf_124_212 rfl rfl ?_
    refine E_iconst pf_124_214 ?_
    refine E_istore (lv' := [_, _, _, _, _, _, _, _, _, _, _, _, _, _, _, _]) pf_124_215 rfl rfl ?_
    exact rest
  · rw [if_neg (by omega)] at ha
    refine E_iconst pf_124_186 ?_
    refine E_istore (lv' := [_, _, _, _, _, _, _, _, _, _, _, _, _, _, _, _]) pf_124_187 rfl rfl ?_
    refine E_lconst pf_124_189 ?_
    refine E_lstore (lv' := [_, _, _, _, _, _, _, _, _, _, _, _, _, _, _, _]) pf_124_190 rfl rfl ?_
    refine E_iconst pf_124_192 ?_
    refine E_istore (lv' := [_, _, _, _, _, _, _, _, _, _, _, _, _, _, _, _]) pf_124_193 rfl rfl ?_
    refine E_iload pf_124_195 rfl ?_
    refine E_iload pf_124_197 rfl ?_
    refine E_if_ne_t pf_124_198 (by omega) ?_
    refine E_iload pf_124_206 rfl ?_
    refine E_icmp_gt_f pf_124_208 (by omega) ?_
    refine E_lconst pf_124_211 ?_
    refine E_lstore (lv' := [_, _, _, _, _, _, _, _, _, _, _, _, _, _, _, _]) pf_124_212 rfl rfl ?_
    refine E_iconst pf_124_214 ?_
    refine E_istore (lv' := [_, _, _, _, _, _, _, _, _, _, _, _, _, _, _, _]) pf_124_215 rfl rfl ?_
    exact rest
  · rw [if_neg (by omega)] at ha
    refine E_iconst pf_124_186 ?_
    refine E_istore (lv' := [_, _, _, _, _, _, _, _, _, _, _, _, _, _, _, _]) pf_124_187 rfl rfl ?_
    refine E_lconst pf_124_189 ?_
    refine E_lstore (lv' := [_, _, _, _, _, _, _, _, _, _, _, _, _, _, _, _]) pf_124_190 rfl rfl ?_
    refine E_iconst pf_124_192 ?_
    refine E_istore (lv' := [_, _, _, _, _, _, _, _, _, _, _, _, _, _, _, _]) pf_124_193 rfl rfl ?_
    refine E_iload pf_124_195 rfl ?_
    refine E_iload pf_124_197 rfl ?_
    refine E_if_ne_t pf_124_198 (by omega) ?_
    refine E_iload pf_124_206 rfl ?_
    refine E_icmp_gt_f pf_124_208 (by omega) ?_
    refine E_lconst pf_124_211 ?_
    refine E_lstore (lv' := [_, _, _, _, _, _, _, _, _, _, _, _, _, _, _, _]) pf_124_212 rfl rfl ?_
    refine E_iconst pf_124_214 ?_
    refine E_istore (lv' := [_, _, _, _, _, _, _, _, _, _, _, _, _, _, _, _]) pf_124_215 rfl rfl ?_
    exact rest
theorem c124xt (hp : pgk (vn : Int) r m) (hm : m < 2) : ∀ h, Ca 124 [.ref 102, .ref 108, .int (ii 1)] (wd [(102, oX6 rf ts sp (dn : Int) k (vn : Int) (rn : Int) rd rk rv rr ac), (104, ar 128 P), (108, ar 72 r), (112, ar 24 Q), (113, lr 4 bg), (114, lr 4 wy)] h) (.inl (some (.int (ii (-9)))), wd [(102, oX6 rf ts sp (dn : Int) k (vn : Int) (rn : Int) rd rk rv rr ac), (104, ar 128 P), (108, ar 72 r), (112, ar 24 Q), (113, lr 4 bg), (114, lr 4 wy)] h) := by
  intro h
  have h68 := hp.1
  refine E_in (lv := [_, _, _, _, _, _, _, _, _, _, _, _, _, _, _, _]) rfl ?_
  refine E_iload pf_124_0 rfl ?_
  refine E_iconst pf_124_1 ?_
  refine E_icmp_ne_f pf_124_2 (by omega) ?_
  refine E_aload pf_124_5 rfl ?_
  refine E_iconst pf_124_6 ?_
  refine F_iald pf_124_8 rfl (by omega) ?_
  refine E_iconst pf_124_9 ?_
  refine E_icmp_ge_f pf_124_10 (by omega) ?_
  refine E_iconst pf_124_13 ?_
  exact E_iret pf_124_15 rfl
theorem c124bt {how : Int} (hh : how = 0 ∨ how = 1 ∨ how = 2) (hp : pgk (vn : Int) r m) (hP : ppk P dn vn rn) (h : pd_H) (o : pd_Out × pd_H) (fin : ∀ w8 w9 w10 w11 w12 w13 w14 w15 : Value, Rn 124 186 [.ref 102, .ref 108, .int (ii how), .int (ii (zBest r P m dn rn vn)), .int (ii (zWorst r P m dn rn)), .int (ii (r (20 + (zWorst r P m dn rn)))), .int (ii (r (44 + (zWorst r P m dn rn)))), .int (ii (rn : Int)), w8, w9, w10, w11, w12, w13, w14, w15] [] (wd [(102, oX6 rf ts sp (dn : Int) k (vn : Int) (rn : Int) rd rk rv rr ac), (104, ar 128 P), (108, ar 72 r), (112, ar 24 Q), (113, lr 4 (zfill bg (zB how r P m dn (zWorst r P m dn rn)) rn)), (114, lr 4 (zfill wy (zW how r P m dn (zBest r P m dn rn vn) (zWorst r P m dn rn)) rn))] h) o) : ∀ (n i : Nat) (w8 w9 w10 w11 w12 w13 w14 w15 : Value), i + n = rn → Rn 124 50 [.ref 102, .ref 108, .int (ii how), .int (ii (zBest r P m dn rn vn)), .int (ii (zWorst r P m dn rn)), .int (ii (r (20 + (zWorst r P m dn rn)))), .int (ii (r (44 + (zWorst r P m dn rn)))), .int (ii (i : Int)), w8, w9, w10, w11, w12, w13, w14, w15] [] (wd [(102, oX6 rf ts sp (dn : Int) k (vn : Int) (rn : Int) rd rk rv rr ac), (104, ar 128 P), (108, ar 72 r), (112, ar 24 Q), (113, lr 4 (zfill bg (zB how r P m dn (zWorst r P m dn rn)) i)), (114, lr 4 (zfill wy (zW how r P m dn (zBest r P m dn rn vn) (zWorst r P m dn rn)) i))] h) o := by
  have hrn := hP.2.2.1
  have hvn := hP.2.1
  have hb := zBest_in (r := r) (m := m) hP
  have hwi := zWorst_in (P := P) (dn := dn) (rn := rn) hp
  have hat := hp.2.2.1 (zWorst r P m dn rn) hwi.1 hwi.2
  intro n
  induction n with
  | zero =>
    intro i w8 w9 w10 w11 w12 w13 w14 w15 hi
    obtain rfl : i = rn := by omega
    refine E_iload pf_124_50 rfl ?_
    refine E_aload pf_124_52 rfl ?_
    refine F_getf pf_124_53 rfl rfl rfl ?_
    refine E_icmp_ge_t pf_124_56 (by omega) ?_
    exact fin _ _ _ _ _ _ _ _
  | succ n ih =>
    intro i w8 w9 w10 w11 w12 w13 w14 w15 hi
    have h1 := zR_le hp hP (k := i) (by omega)
    have h2 := zA_le hp hP (k := i) (by omega) (zBest r P m dn rn vn)
    have h3 := zA_le hp hP (k := i) (by omega) (r (20 + (zWorst r P m dn rn)))
    have ih := fun w8 w9 w10 w11 w12 w13 w14 w15 => ih (i + 1) w8 w9 w10 w11 w12 w13 w14 w15 (by omega)
    rw [zfill_s, zfill_s] at ih
    rcases hh with rfl | rfl | rfl
    · have e1 : zB 0 r P m dn (zWorst r P m dn rn) i = 100 * zR r P m dn i := by unfold zB; rw [if_pos rfl]
      have e2 : zW 0 r P m dn (zBest r P m dn rn vn) (zWorst r P m dn rn) i = 100 * zA r P dn i (zBest r P m dn rn vn) - zR r P m dn i := by unfold zW; rw [if_pos rfl]
      rw [e1, e2] at ih
      refine E_iload pf_124_50 rfl ?_
      refine E_aload pf_124_52 rfl ?_
      refine F_getf pf_124_53 rfl rfl rfl ?_
      refine E_icmp_ge_f pf_124_56 (by omega) ?_
      refine E_aload pf_124_59 rfl ?_
      refine E_aload pf_124_60 rfl ?_
      refine E_iload pf_124_61 rfl ?_
      refine F_v3v0 pf_124_63 (c113t hp hP rfl (by omega) (by omega)) (And.intro rfl (And.intro rfl (And.intro rfl (trivial)))) rfl rfl ?_
      refine E_i2l pf_124_66 (by omega) ?_
      refine E_lstore (lv' := [_, _, _, _, _, _, _, _, _, _, _, _, _, _, _, _]) pf_124_67 rfl rfl ?_
      refine E_lconst pf_124_69 ?_
      refine E_aload pf_124_72 rfl ?_
      refine E_aload pf_124_73 rfl ?_
      refine E_iload pf_124_74 rfl ?_
      refine E_iload pf_124_76 rfl ?_
      refine F_v4v0 pf_124_77 (c114t hp hP (by omega) (by omega)) (And.intro rfl (And.intro rfl (And.intro rfl (trivial)))) rfl rfl ?_
      refine E_i2l pf_124_80 (by omega) ?_
      refine E_lmul pf_124_81 ?_
      refine E_lstore (lv' := [_, _, _, _, _, _, _, _, _, _, _, _, _, _, _, _]) pf_124_82 rfl rfl ?_
      refine E_lconst pf_124_84 ?_
      refine E_aload pf_124_87 rfl ?_
      refine E_aload pf_124_88 rfl ?_
      refine E_iload pf_124_89 rfl ?_
      refine E_iload pf_124_91 rfl ?_
      refine F_v4v0 pf_124_93 (c114t hp hP (by omega) (by omega)) (And.intro rfl (And.intro rfl (And.intro rfl (trivial)))) rfl rfl ?_
      refine E_i2l pf_124_96 (by omega) ?_
      refine E_lmul pf_124_97 ?_
      refine E_lstore (lv' := [_, _, _, _, _, _, _, _, _, _, _, _, _, _, _, _]) pf_124_98 rfl rfl ?_
      refine E_aload pf_124_100 rfl ?_
      refine F_getf pf_124_101 rfl rfl rfl ?_
      refine E_iload pf_124_104 rfl ?_
      refine E_iload pf_124_106 rfl ?_
      refine E_if_ne_f pf_124_107 (by omega) ?_
      refine E_lconst pf_124_110 ?_
      refine E_lload pf_124_113 rfl ?_
      refine E_lmul pf_124_115 ?_
      refine E_goto pf_124_116 ?_
      refine F_last (l' := [(_, _), (_, _), (_, _), (_, _), (_, _), (_, _)]) pf_124_138 rfl (by omega) rfl ?_
      refine E_aload pf_124_139 rfl ?_
      refine F_getf pf_124_140 rfl rfl rfl ?_
      refine E_iload pf_124_143 rfl ?_
      refine E_iload pf_124_145 rfl ?_
      refine E_if_ne_f pf_124_146 (by omega) ?_
      refine E_lload pf_124_149 rfl ?_
      refine E_lload pf_124_151 rfl ?_
      refine E_lsub pf_124_153 ?_
      refine E_goto pf_124_154 ?_
      refine F_last (l' := [(_, _), (_, _), (_, _), (_, _), (_, _), (_, _)]) pf_124_179 rfl (by omega) rfl ?_
      refine E_iinc (lv' := [_, _, _, _, _, _, _, _, _, _, _, _, _, _, _, _]) pf_124_180 rfl rfl ?_
      refine E_goto pf_124_183 ?_
      exact ih _ _ _ _ _ _ _ _
    · have e1 : zB 1 r P m dn (zWorst r P m dn rn) i = (100 - r (44 + (zWorst r P m dn rn))) * zR r P m dn i := by unfold zB; rw [if_neg (by omega), if_pos rfl]
      have e2 : zW 1 r P m dn (zBest r P m dn rn vn) (zWorst r P m dn rn) i = zR r P m dn i - 100 * zA r P dn i (r (20 + (zWorst r P m dn rn))) := by unfold zW; rw [if_neg (by omega), if_pos rfl]
      rw [e1, e2] at ih
      refine E_iload pf_124_50 rfl ?_
      refine E_aload pf_124_52 rfl ?_
      refine F_getf pf_124_53 rfl rfl rfl ?_
      refine E_icmp_ge_f pf_124_56 (by omega) ?_
      refine E_aload pf_124_59 rfl ?_
      refine E_aload pf_124_60 rfl ?_
      refine E_iload pf_124_61 rfl ?_
      refine F_v3v0 pf_124_63 (c113t hp hP rfl (by omega) (by omega)) (And.intro rfl (And.intro rfl (And.intro rfl (trivial)))) rfl rfl ?_
      refine E_i2l pf_124_66 (by omega) ?_
      refine E_lstore (lv' := [_, _, _, _, _, _, _, _, _, _, _, _, _, _, _, _]) pf_124_67 rfl rfl ?_
      refine E_lconst pf_124_69 ?_
      refine E_aload pf_124_72 rfl ?_
      refine E_aload pf_124_73 rfl ?_
      refine E_iload pf_124_74 rfl ?_
      refine E_iload pf_124_76 rfl ?_
      refine F_v4v0 pf_124_77 (c114t hp hP (by omega) (by omega)) (And.intro rfl (And.intro rfl (And.intro rfl (trivial)))) rfl rfl ?_
      refine E_i2l pf_124_80 (by omega) ?_
      refine E_lmul pf_124_81 ?_
      refine E_lstore (lv' := [_, _, _, _, _, _, _, _, _, _, _, _, _, _, _, _]) pf_124_82 rfl rfl ?_
      refine E_lconst pf_124_84 ?_
      refine E_aload pf_124_87 rfl ?_
      refine E_aload pf_124_88 rfl ?_
      refine E_iload pf_124_89 rfl ?_
      refine E_iload pf_124_91 rfl ?_
      refine F_v4v0 pf_124_93 (c114t hp hP (by omega) (by omega)) (And.intro rfl (And.intro rfl (And.intro rfl (trivial)))) rfl rfl ?_
      refine E_i2l pf_124_96 (by omega) ?_
      refine E_lmul pf_124_97 ?_
      refine E_lstore (lv' := [_, _, _, _, _, _, _, _, _, _, _, _, _, _, _, _]) pf_124_98 rfl rfl ?_
      refine E_aload pf_124_100 rfl ?_
      refine F_getf pf_124_101 rfl rfl rfl ?_
      refine E_iload pf_124_104 rfl ?_
      refine E_iload pf_124_106 rfl ?_
      refine E_if_ne_t pf_124_107 (by omega) ?_
      refine E_iload pf_124_119 rfl ?_
      refine E_iconst pf_124_120 ?_
      refine E_icmp_ne_f pf_124_121 (by omega) ?_
      refine E_iconst pf_124_124 ?_
      refine E_iload pf_124_126 rfl ?_
      refine E_isub pf_124_128 ?_
      refine E_i2l pf_124_129 (by omega) ?_
      refine E_lload pf_124_130 rfl ?_
      refine E_lmul pf_124_132 ?_
      refine E_goto pf_124_133 ?_
      refine F_last (l' := [(_, _), (_, _), (_, _), (_, _), (_, _), (_, _)]) pf_124_138 rfl (by omega) rfl ?_
      refine E_aload pf_124_139 rfl ?_
      refine F_getf pf_124_140 rfl rfl rfl ?_
      refine E_iload pf_124_143 rfl ?_
      refine E_iload pf_124_145 rfl ?_
      refine E_if_ne_t pf_124_146 (by omega) ?_
      refine E_iload pf_124_157 rfl ?_
      refine E_iconst pf_124_158 ?_
      refine E_icmp_ne_f pf_124_159 (by omega) ?_
      refine E_lload pf_124_162 rfl ?_
      refine E_lload pf_124_164 rfl ?_
      refine E_lsub pf_124_166 ?_
      refine E_goto pf_124_167 ?_
      refine F_last (l' := [(_, _), (_, _), (_, _), (_, _), (_, _), (_, _)]) pf_124_179 rfl (by omega) rfl ?_
      refine E_iinc (lv' := [_, _, _, _, _, _, _, _, _, _, _, _, _, _, _, _]) pf_124_180 rfl rfl ?_
      refine E_goto pf_124_183 ?_
      exact ih _ _ _ _ _ _ _ _
    · have e1 : zB 2 r P m dn (zWorst r P m dn rn) i = zR r P m dn i := by unfold zB; rw [if_neg (by omega), if_neg (by omega)]
      have e2 : zW 2 r P m dn (zBest r P m dn rn vn) (zWorst r P m dn rn) i = zA r P dn i (zBest r P m dn rn vn) - zA r P dn i (r (20 + (zWorst r P m dn rn))) := by unfold zW; rw [if_neg (by omega), if_neg (by omega)]
      rw [e1, e2] at ih
      refine E_iload pf_124_50 rfl ?_
      refine E_aload pf_124_52 rfl ?_
      refine F_getf pf_124_53 rfl rfl rfl ?_
      refine E_icmp_ge_f pf_124_56 (by omega) ?_
      refine E_aload pf_124_59 rfl ?_
      refine E_aload pf_124_60 rfl ?_
      refine E_iload pf_124_61 rfl ?_
      refine F_v3v0 pf_124_63 (c113t hp hP rfl (by omega) (by omega)) (And.intro rfl (And.intro rfl (And.intro rfl (trivial)))) rfl rfl ?_
      refine E_i2l pf_124_66 (by omega) ?_
      refine E_lstore (lv' := [_, _, _, _, _, _, _, _, _, _, _, _, _, _, _, _]) pf_124_67 rfl rfl ?_
      refine E_lconst pf_124_69 ?_
      refine E_aload pf_124_72 rfl ?_
      refine E_aload pf_124_73 rfl ?_
      refine E_iload pf_124_74 rfl ?_
      refine E_iload pf_124_76 rfl ?_
      refine F_v4v0 pf_124_77 (c114t hp hP (by omega) (by omega)) (And.intro rfl (And.intro rfl (And.intro rfl (trivial)))) rfl rfl ?_
      refine E_i2l pf_124_80 (by omega) ?_
      refine E_lmul pf_124_81 ?_
      refine E_lstore (lv' := [_, _, _, _, _, _, _, _, _, _, _, _, _, _, _, _]) pf_124_82 rfl rfl ?_
      refine E_lconst pf_124_84 ?_
      refine E_aload pf_124_87 rfl ?_
      refine E_aload pf_124_88 rfl ?_
      refine E_iload pf_124_89 rfl ?_
      refine E_iload pf_124_91 rfl ?_
      refine F_v4v0 pf_124_93 (c114t hp hP (by omega) (by omega)) (And.intro rfl (And.intro rfl (And.intro rfl (trivial)))) rfl rfl ?_
      refine E_i2l pf_124_96 (by omega) ?_
      refine E_lmul pf_124_97 ?_
      refine E_lstore (lv' := [_, _, _, _, _, _, _, _, _, _, _, _, _, _, _, _]) pf_124_98 rfl rfl ?_
      refine E_aload pf_124_100 rfl ?_
      refine F_getf pf_124_101 rfl rfl rfl ?_
      refine E_iload pf_124_104 rfl ?_
      refine E_iload pf_124_106 rfl ?_
      refine E_if_ne_t pf_124_107 (by omega) ?_
      refine E_iload pf_124_119 rfl ?_
      refine E_iconst pf_124_120 ?_
      refine E_icmp_ne_t pf_124_121 (by omega) ?_
      refine E_lload pf_124_136 rfl ?_
      refine F_last (l' := [(_, _), (_, _), (_, _), (_, _), (_, _), (_, _)]) pf_124_138 rfl (by omega) rfl ?_
      refine E_aload pf_124_139 rfl ?_
      refine F_getf pf_124_140 rfl rfl rfl ?_
      refine E_iload pf_124_143 rfl ?_
      refine E_iload pf_124_145 rfl ?_
      refine E_if_ne_t pf_124_146 (by omega) ?_
      refine E_iload pf_124_157 rfl ?_
      refine E_iconst pf_124_158 ?_
      refine E_icmp_ne_t pf_124_159 (by omega) ?_
      refine E_lload pf_124_170 rfl ?_
      refine E_lload pf_124_172 rfl ?_
      refine E_lsub pf_124_174 ?_
      refine E_lconst pf_124_175 ?_
      rw [← Int.mul_sub]
      refine E_ldivX pf_124_178 (by omega) ?_
      refine F_last (l' := [(_, _), (_, _), (_, _), (_, _), (_, _), (_, _)]) pf_124_179 rfl (by omega) rfl ?_
      refine E_iinc (lv' := [_, _, _, _, _, _, _, _, _, _, _, _, _, _, _, _]) pf_124_180 rfl rfl ?_
      refine E_goto pf_124_183 ?_
      exact ih _ _ _ _ _ _ _ _
theorem c124ct {how a3 a4 a5 a6 : Int} {lim : Nat} (hh : how = 0 ∨ how = 1 ∨ how = 2) (hl : lim ≤ 100) (ha : if how = 0 then lim = 100 else a6 = lim) (hrn : 1 ≤ rn ∧ rn ≤ 4) (hB : ∀ q : Int, 0 ≤ q → q < rn → -78750000 ≤ bg q ∧ bg q ≤ 78750000) (hW : ∀ q : Int, 0 ≤ q → q < rn → -829800 ≤ wy q ∧ wy q ≤ 829800) (h : pd_H) (o : pd_Out × pd_H) (fin : ∀ w8 w9 w10 w11 w12 w13 w14 w15 : Value, Rn 124 313 [.ref 102, .ref 108, .int (ii how), .int (ii a3), .int (ii a4), .int (ii a5), .int (ii a6), .int (ii (zam (zF bg wy rn) lim)), w8, w9, w10, w11, w12, w13, w14, w15] [] (wd [(102, oX6 rf ts sp (dn : Int) k (vn : Int) (rn : Int) rd rk rv rr ac), (104, ar 128 P), (108, ar 72 r), (112, ar 24 Q), (113, lr 4 bg), (114, lr 4 wy)] h) o) : ∀ w7 w8 w9 w10 w11 w12 w13 w14 w15 : Value, Rn 124 186 [.ref 102, .ref 108, .int (ii how), .int (ii a3), .int (ii a4), .int (ii a5), .int (ii a6), w7, w8, w9, w10, w11, w12, w13, w14, w15] [] (wd [(102, oX6 rf ts sp (dn : Int) k (vn : Int) (rn : Int) rd rk rv rr ac), (104, ar 128 P), (108, ar 72 r), (112, ar 24 Q), (113, lr 4 bg), (114, lr 4 wy)] h) o := by
  have inner : ∀ (t l : Int) (e : Int) (w9 : Value), 0 ≤ e ∧ e ≤ 100 → (∀ w13 w14 w15 : Value, Rn 124 263 [.ref 102, .ref 108, .int (ii how), .int (ii a3), .int (ii a4), .int (ii a5), .int (ii a6), .int (ii t), .long (ll l), w9, .int (ii e), .long (ll (zF bg wy rn e)), pd_dum, w13, w14, w15] [] (wd [(102, oX6 rf ts sp (dn : Int) k (vn : Int) (rn : Int) rd rk rv rr ac), (104, ar 128 P), (108, ar 72 r), (112, ar 24 Q), (113, lr 4 bg), (114, lr 4 wy)] h) o) → ∀ (n i : Nat) (w14 w15 : Value), i + n = rn → Rn 124 217 [.ref 102, .ref 108, .int (ii how), .int (ii a3), .int (ii a4), .int (ii a5), .int (ii a6), .int (ii t), .long (ll l), w9, .int (ii e), .long (ll (zs (fun k => (bg k + e * wy k) * (bg k + e * wy k)) i)), pd_dum, .int (ii (i : Int)), w14, w15] [] (wd [(102, oX6 rf ts sp (dn : Int) k (vn : Int) (rn : Int) rd rk rv rr ac), (104, ar 128 P), (108, ar 72 r), (112, ar 24 Q), (113, lr 4 bg), (114, lr 4 wy)] h) o := by
    intro t l e w9 he fin n
    induction n with
    | zero =>
      intro i w14 w15 hi
      obtain rfl : i = rn := by omega
      refine E_iload pf_124_217 rfl ?_
      refine E_aload pf_124_219 rfl ?_
      refine F_getf pf_124_220 rfl rfl rfl ?_
      refine E_icmp_ge_t pf_124_223 (by omega) ?_
      exact fin _ _ _
    | succ n ih =>
      intro i w14 w15 hi
      have ih := fun w14 w15 => ih (i + 1) w14 w15 (by omega)
      refine E_iload pf_124_217 rfl ?_
      refine E_aload pf_124_219 rfl ?_
      refine F_getf pf_124_220 rfl rfl rfl ?_
      refine E_icmp_ge_f pf_124_223 (by omega) ?_
      refine E_aload pf_124_226 rfl ?_
      refine F_getf pf_124_227 rfl rfl rfl ?_
      refine E_iload pf_124_230 rfl ?_
      refine F_lald pf_124_232 rfl (by omega) ?_
      refine E_iload pf_124_233 rfl ?_
      refine E_i2l pf_124_235 (by omega) ?_
      refine E_aload pf_124_236 rfl ?_
      refine F_getf pf_124_237 rfl rfl rfl ?_
      refine E_iload pf_124_240 rfl ?_
      refine F_lald pf_124_242 rfl (by omega) ?_
      refine E_lmul pf_124_243 ?_
      refine E_ladd pf_124_244 ?_
      refine E_lstore (lv' := [_, _, _, _, _, _, _, _, _, _, _, _, _, _, _, _]) pf_124_245 rfl rfl ?_
      refine E_lload pf_124_247 rfl ?_
      refine E_lload pf_124_249 rfl ?_
      refine E_lload pf_124_251 rfl ?_
      refine E_lmul pf_124_253 ?_
      refine E_ladd pf_124_254 ?_
      refine E_lstore (lv' := [_, _, _, _, _, _, _, _, _, _, _, _, _, _, _, _]) pf_124_255 rfl rfl ?_
      refine E_iinc (lv' := [_, _, _, _, _, _, _, _, _, _, _, _, _, _, _, _]) pf_124_257 rfl rfl ?_
      refine E_goto pf_124_260 ?_
      exact ih _ _
  have hF : ∀ e : Int, 0 ≤ e ∧ e ≤ 100 → -200000000000000000 ≤ zF bg wy rn e ∧ zF bg wy rn e ≤ 200000000000000000 := fun e he => zF_le hB hW hrn.2 he rn (Nat.le_refl _)
  have outer : ∀ (n i : Nat) (w11 w12 w13 w14 w15 : Value), i + n = lim → Rn 124 195 [.ref 102, .ref 108, .int (ii how), .int (ii a3), .int (ii a4), .int (ii a5), .int (ii a6), .int (ii (zam (zF bg wy rn) i)), .long (ll (zF bg wy rn (zam (zF bg wy rn) i))), pd_dum, .int (ii ((i + 1 : Nat) : Int)), w11, w12, w13, w14, w15] [] (wd [(102, oX6 rf ts sp (dn : Int) k (vn : Int) (rn : Int) rd rk rv rr ac), (104, ar 128 P), (108, ar 72 r), (112, ar 24 Q), (113, lr 4 bg), (114, lr 4 wy)] h) o := by
    intro n
    induction n with
    | zero =>
      intro i w11 w12 w13 w14 w15 hi
      obtain rfl : i = lim := by omega
      rcases hh with rfl | rfl | rfl
      · rw [if_pos rfl] at ha
        refine E_iload pf_124_195 rfl ?_
        refine E_iload pf_124_197 rfl ?_
        refine E_if_ne_f pf_124_198 (by omega) ?_
        refine E_iconst pf_124_201 ?_
        refine E_goto pf_124_203 ?_
        refine E_icmp_gt_t pf_124_208 (by omega) ?_
        exact fin _ _ _ _ _ _ _ _
      · rw [if_neg (by omega)] at ha
        refine E_iload pf_124_195 rfl ?_
        refine E_iload pf_124_197 rfl ?_
        refine E_if_ne_t pf_124_198 (by omega) ?_
        refine E_iload pf_124_206 rfl ?_
        refine E_icmp_gt_t pf_124_208 (by omega) ?_
        exact fin _ _ _ _ _ _ _ _
      · rw [if_neg (by omega)] at ha
        refine E_iload pf_124_195 rfl ?_
        refine E_iload pf_124_197 rfl ?_
        refine E_if_ne_t pf_124_198 (by omega) ?_
        refine E_iload pf_124_206 rfl ?_
        refine E_icmp_gt_t pf_124_208 (by omega) ?_
        exact fin _ _ _ _ _ _ _ _
    | succ n ih =>
      intro i w11 w12 w13 w14 w15 hi
      have ih := fun w11 w12 w13 w14 w15 => ih (i + 1) w11 w12 w13 w14 w15 (by omega)
      have hz := zam_in (zF bg wy rn) i
      have hf1 := hF (zam (zF bg wy rn) i) (by omega)
      have hf2 := hF ((i + 1 : Nat) : Int) (by omega)
      have rest : Rn 124 217 [.ref 102, .ref 108, .int (ii how), .int (ii a3), .int (ii a4), .int (ii a5), .int (ii a6), .int (ii (zam (zF bg wy rn) i)), .long (ll (zF bg wy rn (zam (zF bg wy rn) i))), pd_dum, .int (ii ((i + 1 : Nat) : Int)), .long (ll 0), pd_dum, .int (ii 0), w14, w15] [] (wd [(102, oX6 rf ts sp (dn : Int) k (vn : Int) (rn : Int) rd rk rv rr ac), (104, ar 128 P), (108, ar 72 r), (112, ar 24 Q), (113, lr 4 bg), (114, lr 4 wy)] h) o := by
        refine inner _ _ ((i + 1 : Nat) : Int) _ (by omega) (fun w13 w14 w15 => ?_) rn 0 _ _ (by omega)
        by_cases hc : zF bg wy rn ((i + 1 : Nat) : Int) < zF bg wy rn (zam (zF bg wy rn) i)
        · have e1 : zam (zF bg wy rn) (i + 1) = ((i + 1 : Nat) : Int) := by simp only [zam]; rw [if_pos hc]
          rw [e1] at ih
          refine E_iload pf_124_263 rfl ?_
          refine E_if_eq_f pf_124_265 (by omega) ?_
          refine E_lload pf_124_268 rfl ?_
          refine E_lload pf_124_270 rfl ?_
          refine E_lcmp_ge_f pf_124_272 pf_124_273 (by omega) ?_
          refine E_iload pf_124_276 rfl ?_
          refine E_goto pf_124_278 ?_
          refine E_istore (lv' := [_, _, _, _, _, _, _, _, _, _, _, _, _, _, _, _]) pf_124_283 rfl rfl ?_
          refine E_iload pf_124_285 rfl ?_
          refine E_if_eq_f pf_124_287 (by omega) ?_
          refine E_lload pf_124_290 rfl ?_
          refine E_lload pf_124_292 rfl ?_
          refine E_lcmp_ge_f pf_124_294 pf_124_295 (by omega) ?_
          refine E_lload pf_124_298 rfl ?_
          refine E_goto pf_124_300 ?_
          refine E_lstore (lv' := [_, _, _, _, _, _, _, _, _, _, _, _, _, _, _, _]) pf_124_305 rfl rfl ?_
          refine E_iinc (lv' := [_, _, _, _, _, _, _, _, _, _, _, _, _, _, _, _]) pf_124_307 rfl rfl ?_
          refine E_goto pf_124_310 ?_
          exact ih _ _ _ _ _
        · have e1 : zam (zF bg wy rn) (i + 1) = zam (zF bg wy rn) i := by simp only [zam]; rw [if_neg hc]
          rw [e1] at ih
          refine E_iload pf_124_263 rfl ?_
          refine E_if_eq_f pf_124_265 (by omega) ?_
          refine E_lload pf_124_268 rfl ?_
          refine E_lload pf_124_270 rfl ?_
          refine E_lcmp_ge_t pf_124_272 pf_124_273 (by omega) ?_
          refine E_iload pf_124_281 rfl ?_
          refine E_istore (lv' := [_, _, _, _, _, _, _, _, _, _, _, _, _, _, _, _]) pf_124_283 rfl rfl ?_
          refine E_iload pf_124_285 rfl ?_
          refine E_if_eq_f pf_124_287 (by omega) ?_
          refine E_lload pf_124_290 rfl ?_
          refine E_lload pf_124_292 rfl ?_
          refine E_lcmp_ge_t pf_124_294 pf_124_295 (by omega) ?_
          refine E_lload pf_124_303 rfl ?_
          refine E_lstore (lv' := [_, _, _, _, _, _, _, _, _, _, _, _, _, _, _, _]) pf_124_305 rfl rfl ?_
          refine E_iinc (lv' := [_, _, _, _, _, _, _, _, _, _, _, _, _, _, _, _]) pf_124_307 rfl rfl ?_
          refine E_goto pf_124_310 ?_
          exact ih _ _ _ _ _
      rcases hh with rfl | rfl | rfl
      · rw [if_pos rfl] at ha
        refine E_iload pf_124_195 rfl ?_
        refine E_iload pf_124_197 rfl ?_
        refine E_if_ne_f pf_124_198 (by omega) ?_
        refine E_iconst pf_124_201 ?_
        refine E_goto pf_124_203 ?_
        refine E_icmp_gt_f pf_124_208 (by omega) ?_
        refine E_lconst pf_124_211 ?_
        refine E_lstore (lv' := [_, _, _, _, _, _, _, _, _, _, _, _, _, _, _, _]) pf_124_212 rfl rfl ?_
        refine E_iconst pf_124_214 ?_
        refine E_istore (lv' := [_, _, _, _, _, _, _, _, _, _, _, _, _, _, _, _]) pf_124_215 rfl rfl ?_
        exact rest
      · rw [if_neg (by omega)] at ha
        refine E_iload pf_124_195 rfl ?_
        refine E_iload pf_124_197 rfl ?_
        refine E_if_ne_t pf_124_198 (by omega) ?_
        refine E_iload pf_124_206 rfl ?_
        refine E_icmp_gt_f pf_124_208 (by omega) ?_
        refine E_lconst pf_124_211 ?_
        refine E_lstore (lv' := [_, _, _, _, _, _, _, _, _, _, _, _, _, _, _, _]) pf_124_212 rfl rfl ?_
        refine E_iconst pf_124_214 ?_
        refine E_istore (lv' := [_, _, _, _, _, _, _, _, _, _, _, _, _, _, _, _]) pf_124_215 rfl rfl ?_
        exact rest
      · rw [if_neg (by omega)] at ha
        refine E_iload pf_124_195 rfl ?_
        refine E_iload pf_124_197 rfl ?_
        refine E_if_ne_t pf_124_198 (by omega) ?_
        refine E_iload pf_124_206 rfl ?_
        refine E_icmp_gt_f pf_124_208 (by omega) ?_
        refine E_lconst pf_124_211 ?_
        refine E_lstore (lv' := [_, _, _, _, _, _, _, _, _, _, _, _, _, _, _, _]) pf_124_212 rfl rfl ?_
        refine E_iconst pf_124_214 ?_
        refine E_istore (lv' := [_, _, _, _, _, _, _, _, _, _, _, _, _, _, _, _]) pf_124_215 rfl rfl ?_
        exact rest
  intro w7 w8 w9 w10 w11 w12 w13 w14 w15
  have hf0 := hF 0 (by omega)
  have rest : Rn 124 217 [.ref 102, .ref 108, .int (ii how), .int (ii a3), .int (ii a4), .int (ii a5), .int (ii a6), .int (ii 0), .long (ll 0), pd_dum, .int (ii 0), .long (ll 0), pd_dum, .int (ii 0), w14, w15] [] (wd [(102, oX6 rf ts sp (dn : Int) k (vn : Int) (rn : Int) rd rk rv rr ac), (104, ar 128 P), (108, ar 72 r), (112, ar 24 Q), (113, lr 4 bg), (114, lr 4 wy)] h) o := by
    refine inner _ _ 0 _ (by omega) (fun w13 w14 w15 => ?_) rn 0 _ _ (by omega)
    have ot := outer lim 0 (.long (ll (zF bg wy rn 0))) pd_dum w13 w14 w15 (by omega)
    refine E_iload pf_124_263 rfl ?_
    refine E_if_eq_t pf_124_265 (by omega) ?_
    refine E_iload pf_124_276 rfl ?_
    refine E_goto pf_124_278 ?_
    refine E_istore (lv' := [_, _, _, _, _, _, _, _, _, _, _, _, _, _, _, _]) pf_124_283 rfl rfl ?_
    refine E_iload pf_124_285 rfl ?_
    refine E_if_eq_t pf_124_287 (by omega) ?_
    refine E_lload pf_124_298 rfl ?_
    refine E_goto pf_124_300 ?_
    refine E_lstore (lv' := [_, _, _, _, _, _, _, _, _, _, _, _, _, _, _, _]) pf_124_305 rfl rfl ?_
    refine E_iinc (lv' := [_, _, _, _, _, _, _, _, _, _, _, _, _, _, _, _]) pf_124_307 rfl rfl ?_
    refine E_goto pf_124_310 ?_
    exact ot
  rcases hh with rfl | rfl | rfl
  · rw [if_pos rfl] at ha
    refine E_iconst pf_124_186 ?_
    refine E_istore (lv' := [_, _, _, _, _, _, _, _, _, _, _, _, _, _, _, _]) pf_124_187 rfl rfl ?_
    refine E_lconst pf_124_189 ?_
    refine E_lstore (lv' := [_, _, _, _, _, _, _, _, _, _, _, _, _, _, _, _]) pf_124_190 rfl rfl ?_
    refine E_iconst pf_124_192 ?_
    refine E_istore (lv' := [_, _, _, _, _, _, _, _, _, _, _, _, _, _, _, _]) pf_124_193 rfl rfl ?_
    refine E_iload pf_124_195 rfl ?_
    refine E_iload pf_124_197 rfl ?_
    refine E_if_ne_f pf_124_198 (by omega) ?_
    refine E_iconst pf_124_201 ?_
    refine E_goto pf_124_203 ?_
    refine E_icmp_gt_f pf_124_208 (by omega) ?_
    refine E_lconst pf_124_211 ?_
    refine E_lstore (lv' := [_, _, _, _, _, _, _, _, _, _, _, _, _, _, _, _]) pf_124_212 rfl rfl ?_
    refine E_iconst pf_124_214 ?_
    refine E_istore (lv' := [_, _, _, _, _, _, _, _, _, _, _, _, _, _, _, _]) pf_124_215 rfl rfl ?_
    exact rest
  · rw [if_neg (by omega)] at ha
    refine E_iconst pf_124_186 ?_
    refine E_istore (lv' := [_, _, _, _, _, _, _, _, _, _, _, _, _, _, _, _]) pf_124_187 rfl rfl ?_
    refine E_lconst pf_124_189 ?_
    refine E_lstore (lv' := [_, _, _, _, _, _, _, _, _, _, _, _, _, _, _, _]) pf_124_190 rfl rfl ?_
    refine E_iconst pf_124_192 ?_
    refine E_istore (lv' := [_, _, _, _, _, _, _, _, _, _, _, _, _, _, _, _]) pf_124_193 rfl rfl ?_
    refine E_iload pf_124_195 rfl ?_
    refine E_iload pf_124_197 rfl ?_
    refine E_if_ne_t pf_124_198 (by omega) ?_
    refine E_iload pf_124_206 rfl ?_
    refine E_icmp_gt_f pf_124_208 (by omega) ?_
    refine E_lconst pf_124_211 ?_
    refine E_lstore (lv' := [_, _, _, _, _, _, _, _, _, _, _, _, _, _, _, _]) pf_124_212 rfl rfl ?_
    refine E_iconst pf_124_214 ?_
    refine E_istore (lv' := [_, _, _, _, _, _, _, _, _, _, _, _, _, _, _, _]) pf_124_215 rfl rfl ?_
    exact rest
  · rw [if_neg (by omega)] at ha
    refine E_iconst pf_124_186 ?_
    refine E_istore (lv' := [_, _, _, _, _, _, _, _, _, _, _, _, _, _, _, _]) pf_124_187 rfl rfl ?_
    refine E_lconst pf_124_189 ?_
    refine E_lstore (lv' := [_, _, _, _, _, _, _, _, _, _, _, _, _, _, _, _]) pf_124_190 rfl rfl ?_
    refine E_iconst pf_124_192 ?_
    refine E_istore (lv' := [_, _, _, _, _, _, _, _, _, _, _, _, _, _, _, _]) pf_124_193 rfl rfl ?_
    refine E_iload pf_124_195 rfl ?_
    refine E_iload pf_124_197 rfl ?_
    refine E_if_ne_t pf_124_198 (by omega) ?_
    refine E_iload pf_124_206 rfl ?_
    refine E_icmp_gt_f pf_124_208 (by omega) ?_
    refine E_lconst pf_124_211 ?_
    refine E_lstore (lv' := [_, _, _, _, _, _, _, _, _, _, _, _, _, _, _, _]) pf_124_212 rfl rfl ?_
    refine E_iconst pf_124_214 ?_
    refine E_istore (lv' := [_, _, _, _, _, _, _, _, _, _, _, _, _, _, _, _]) pf_124_215 rfl rfl ?_
    exact rest
theorem c124n {how : Int} (hh : how = 0 ∨ (how = 1 ∧ 1 < m) ∨ how = 2) (hM : Mx vn (zp r m)) (hp : pgk (vn : Int) r m) (hP : ppk P dn vn rn) : ∃ (m' : Nat) (r' Q' bg' wy' : Int → Int), zp r' m' = pos (stq how (zp r m) (zBest r P m dn rn vn) (zWorst r P m dn rn).toNat (zT how r P m dn rn vn)) ∧ r' 68 = m' ∧ (∀ x : Int, x < 20 → r' x = r x) ∧ r' 69 = r 69 + 1 ∧ r' 70 = r 70 + (((stq how (zp r m) (zBest r P m dn rn vn) (zWorst r P m dn rn).toNat (zT how r P m dn rn vn)).length : Int) - m') ∧ ∀ h, Ca 124 [.ref 102, .ref 107, .int (ii how)] (wd [(102, oX6 rf ts sp (dn : Int) k (vn : Int) (rn : Int) rd rk rv rr ac), (104, ar 128 P), (107, ar 72 r), (112, ar 24 Q), (113, lr 4 bg), (114, lr 4 wy)] h) (.inl (some (.int (ii (zT how r P m dn rn vn)))), wd [(102, oX6 rf ts sp (dn : Int) k (vn : Int) (rn : Int) rd rk rv rr ac), (104, ar 128 P), (107, ar 72 r'), (112, ar 24 Q'), (113, lr 4 bg'), (114, lr 4 wy')] h) := by
  have h68 := hp.1
  have hm := hp.2.1
  have hrn := hP.2.2.1
  have hvn := hP.2.1
  have hb := zBest_in (r := r) (m := m) hP
  have hwi := zWorst_in (P := P) (dn := dn) (rn := rn) hp
  have ewn : (((zWorst r P m dn rn).toNat : Nat) : Int) = (zWorst r P m dn rn) := Int.toNat_of_nonneg hwi.1
  have hwl : (zWorst r P m dn rn).toNat < m := by omega
  have hat := Mx_at hM hwl
  rw [ewn] at hat
  have eu : pU r (zWorst r P m dn rn) = r (44 + (zWorst r P m dn rn)) := rfl
  have hh2 : how = 0 ∨ how = 1 ∨ how = 2 := by omega
  have ht : 0 ≤ (zT how r P m dn rn vn) ∧ (zT how r P m dn rn vn) ≤ 100 ∧ (how ≠ 0 → (zT how r P m dn rn vn) ≤ r (44 + (zWorst r P m dn rn))) := by
    have := zam_in (zF (zB how r P m dn (zWorst r P m dn rn)) (zW how r P m dn (zBest r P m dn rn vn) (zWorst r P m dn rn)) rn) (if how = 0 then 100 else (r (44 + (zWorst r P m dn rn))).toNat)
    unfold zT
    by_cases e : how = 0
    · rw [if_pos e] at this ⊢; exact ⟨this.1, by omega, fun q => absurd e q⟩
    · rw [if_neg e] at this ⊢; exact ⟨this.1, by omega, fun _ => by omega⟩
  have key : ∃ (m1 : Nat) (r1 Q1 : Int → Int), zp r1 m1 = (stq how (zp r m) (zBest r P m dn rn vn) (zWorst r P m dn rn).toNat (zT how r P m dn rn vn)) ∧ r1 68 = m1 ∧ pfr r r1 ∧ ∀ (w8 w9 w10 w11 w12 w13 w14 w15 : Value) h o, Rn 124 388 [.ref 102, .ref 107, .int (ii how), .int (ii (zBest r P m dn rn vn)), .int (ii (zWorst r P m dn rn)), .int (ii (r (20 + (zWorst r P m dn rn)))), .int (ii (r (44 + (zWorst r P m dn rn)))), .int (ii (zT how r P m dn rn vn)), w8, w9, w10, w11, w12, w13, w14, w15] [] (wd [(102, oX6 rf ts sp (dn : Int) k (vn : Int) (rn : Int) rd rk rv rr ac), (104, ar 128 P), (107, ar 72 r1), (112, ar 24 Q1), (113, lr 4 (zfill bg (zB how r P m dn (zWorst r P m dn rn)) rn)), (114, lr 4 (zfill wy (zW how r P m dn (zBest r P m dn rn vn) (zWorst r P m dn rn)) rn))] h) o → Rn 124 313 [.ref 102, .ref 107, .int (ii how), .int (ii (zBest r P m dn rn vn)), .int (ii (zWorst r P m dn rn)), .int (ii (r (20 + (zWorst r P m dn rn)))), .int (ii (r (44 + (zWorst r P m dn rn)))), .int (ii (zT how r P m dn rn vn)), w8, w9, w10, w11, w12, w13, w14, w15] [] (wd [(102, oX6 rf ts sp (dn : Int) k (vn : Int) (rn : Int) rd rk rv rr ac), (104, ar 128 P), (107, ar 72 r), (112, ar 24 Q), (113, lr 4 (zfill bg (zB how r P m dn (zWorst r P m dn rn)) rn)), (114, lr 4 (zfill wy (zW how r P m dn (zBest r P m dn rn vn) (zWorst r P m dn rn)) rn))] h) o := by
    have hUb : ∀ i : Nat, i < m → 0 ≤ pU r i ∧ pU r i ≤ 100 := fun i hi => by have := Mx_at hM hi; omega
    rcases hh with rfl | ⟨rfl, h2m⟩ | rfl
    · obtain ⟨r1, Q1, e1, f1, h1⟩ := c123n (rf := rf) (ts := ts) (sp := sp) (d := (dn : Int)) (kd := k) (vs := (vn : Int)) (rw := (rn : Int)) (rd := rd) (rk := rk) (rv := rv) (rr := rr) (ac := ac) (r := r) (Q := Q) (m := m) (up := 100 - (zT 0 r P m dn rn vn)) (lo := 100) (ex := -9) h68 hm hUb (by omega) (by omega) (by omega)
      have h681 : r1 68 = m := (f1 68 (by omega)).trans h68
      have hM1 : Mb vn (zp r1 m) := by rw [e1]; exact scl_Mb hM.1 (by omega) (by omega)
      obtain ⟨m2, r2, e2, h682, f2, h2⟩ := c121n (r := r1) (m := m) (v := (zBest r P m dn rn vn)) (n := (zT 0 r P m dn rn vn)) h681 hm.2 (fun j hj => by have := Mb_at hM1 hj; omega) (by omega) (by omega) (Mb_room hM1 hb hvn.2)
      refine ⟨m2, r2, Q1, by rw [e2, e1]; unfold stq; rw [if_pos rfl], h682, pfr_tr (ufr_p f1) f2, fun w8 w9 w10 w11 w12 w13 w14 w15 h o hk => ?_⟩
      refine E_iload pf_124_313 rfl ?_
      refine E_if_ne_f pf_124_314 (by omega) ?_
      refine E_aload pf_124_317 rfl ?_
      refine E_aload pf_124_318 rfl ?_
      refine E_iconst pf_124_319 ?_
      refine E_iload pf_124_321 rfl ?_
      refine E_isub pf_124_323 ?_
      refine E_iconst pf_124_324 ?_
      refine E_iconst pf_124_326 ?_
      refine F_v5u (l' := [(_, _), (_, _), (_, _), (_, _), (_, _), (_, _)]) pf_124_328 (h1) (And.intro rfl (And.intro rfl (And.intro rfl (trivial)))) rfl rfl rfl rfl ?_
      refine E_aload pf_124_331 rfl ?_
      refine E_iload pf_124_332 rfl ?_
      refine E_iload pf_124_333 rfl ?_
      refine F_c3u (l' := [(_, _), (_, _), (_, _), (_, _), (_, _), (_, _)]) pf_124_335 (h2) (And.intro rfl (trivial)) rfl rfl rfl ?_
      refine E_goto pf_124_338 ?_
      exact hk
    · have hp2 := Mx_part hM hwl h2m
      rw [ewn] at hp2
      obtain ⟨r1, Q1, e1, f1, h1⟩ := c123n (rf := rf) (ts := ts) (sp := sp) (d := (dn : Int)) (kd := k) (vs := (vn : Int)) (rw := (rn : Int)) (rd := rd) (rk := rk) (rv := rv) (rr := rr) (ac := ac) (r := r) (Q := Q) (m := m) (up := 100 - r (44 + (zWorst r P m dn rn)) + (zT 1 r P m dn rn vn)) (lo := 100 - r (44 + (zWorst r P m dn rn))) (ex := (zWorst r P m dn rn)) h68 hm hUb (by have := ht.2.2 (by omega); omega) (by omega) (by omega)
      have h681 : r1 68 = m := (f1 68 (by omega)).trans h68
      refine ⟨m, zu r1 (44 + (zWorst r P m dn rn)) (r1 (44 + (zWorst r P m dn rn)) - (zT 1 r P m dn rn vn)), Q1, ?_, by rw [zu_n _ _ (by omega)]; exact h681, pfr_tr (ufr_p f1) (pfr_u _ (by omega)), fun w8 w9 w10 w11 w12 w13 w14 w15 h o hk => ?_⟩
      · have e3 := zp_setU (r := r1) (m := m) (i := (zWorst r P m dn rn).toNat) (x := r1 (44 + (zWorst r P m dn rn)) - (zT 1 r P m dn rn vn)) (by omega) hm.2
        rw [ewn] at e3
        have e4 := sbt_zl (V := pV r1) (U := pU r1) (t := (zT 1 r P m dn rn vn)) hwl
        rw [ewn] at e4
        have e5 : pU r1 (zWorst r P m dn rn) = r1 (44 + (zWorst r P m dn rn)) := rfl
        rw [e5] at e4
        rw [e3, ← e4]
        have e6 : zl (pV r1) (pU r1) m = scl (zp r m) (100 - r (44 + (zWorst r P m dn rn)) + (zT 1 r P m dn rn vn)) (100 - r (44 + (zWorst r P m dn rn))) (zWorst r P m dn rn) := e1
        rw [e6]
        unfold stq
        have e7 : ((zp r m).getD (zWorst r P m dn rn).toNat (0, 0)).2 = r (44 + (zWorst r P m dn rn)) := by
          have : (zp r m).getD (zWorst r P m dn rn).toNat (0, 0) = (pV r ((zWorst r P m dn rn).toNat : Int), pU r ((zWorst r P m dn rn).toNat : Int)) := zl_getD hwl
          rw [this, ewn]; rfl
        rw [if_neg (by omega), if_pos rfl, e7, ewn]
      refine E_iload pf_124_313 rfl ?_
      refine E_if_ne_t pf_124_314 (by omega) ?_
      refine E_iload pf_124_341 rfl ?_
      refine E_iconst pf_124_342 ?_
      refine E_icmp_ne_f pf_124_343 (by omega) ?_
      refine E_aload pf_124_346 rfl ?_
      refine E_aload pf_124_347 rfl ?_
      refine E_iconst pf_124_348 ?_
      refine E_iload pf_124_350 rfl ?_
      refine E_isub pf_124_352 ?_
      refine E_iload pf_124_353 rfl ?_
      refine E_iadd pf_124_355 ?_
      refine E_iconst pf_124_356 ?_
      refine E_iload pf_124_358 rfl ?_
      refine E_isub pf_124_360 ?_
      refine E_iload pf_124_361 rfl ?_
      refine F_v5u (l' := [(_, _), (_, _), (_, _), (_, _), (_, _), (_, _)]) pf_124_363 (h1) (And.intro rfl (And.intro rfl (And.intro rfl (trivial)))) rfl rfl rfl rfl ?_
      refine E_goto pf_124_366 ?_
      refine E_aload pf_124_376 rfl ?_
      refine E_iconst pf_124_377 ?_
      refine E_iload pf_124_379 rfl ?_
      refine E_iadd pf_124_381 ?_
      refine E_dup2 pf_124_382 rfl rfl ?_
      refine F_iald pf_124_383 rfl (by omega) ?_
      refine E_iload pf_124_384 rfl ?_
      refine E_isub pf_124_386 ?_
      refine F_iast (l' := [(_, _), (_, _), (_, _), (_, _), (_, _), (_, _)]) pf_124_387 rfl (by omega) rfl ?_
      exact hk
    · have hTu := ht.2.2 (by omega)
      obtain ⟨m2, r2, e2, h682, f2, h2⟩ := c121n (r := r) (m := m) (v := (zBest r P m dn rn vn)) (n := (zT 2 r P m dn rn vn)) h68 hm.2 (fun j hj => by have := Mx_at hM hj; omega) (by omega) (by omega) (Mb_room hM.1 hb hvn.2)
      have hM2 : Mb vn (zp r2 m2) := by rw [e2]; exact gv_Mb hM.1 hb
      have hm2 : m2 ≤ 24 := by have := Mb_len hM2; unfold zp at this; rw [zl_len] at this; omega
      have hl2 : (zWorst r P m dn rn).toNat < m2 := by
        have a1 : (zp r2 m2).length = m2 := zl_len _ _ _
        have a2 : (zp r m).length = m := zl_len _ _ _
        have a3 := gv_len (A := zp r m) (v := (zBest r P m dn rn vn)) (n := (zT 2 r P m dn rn vn))
        rw [← e2, a1, a2] at a3
        omega
      refine ⟨m2, zu r2 (44 + (zWorst r P m dn rn)) (r2 (44 + (zWorst r P m dn rn)) - (zT 2 r P m dn rn vn)), Q, ?_, by rw [zu_n _ _ (by omega)]; exact h682, pfr_tr f2 (pfr_u _ (by omega)), fun w8 w9 w10 w11 w12 w13 w14 w15 h o hk => ?_⟩
      · have e3 := zp_setU (r := r2) (m := m2) (i := (zWorst r P m dn rn).toNat) (x := r2 (44 + (zWorst r P m dn rn)) - (zT 2 r P m dn rn vn)) (by omega) hm2
        rw [ewn] at e3
        have e4 := sbt_zl (V := pV r2) (U := pU r2) (t := (zT 2 r P m dn rn vn)) hl2
        rw [ewn] at e4
        have e5 : pU r2 (zWorst r P m dn rn) = r2 (44 + (zWorst r P m dn rn)) := rfl
        rw [e5] at e4
        rw [e3, ← e4]
        have e6 : zl (pV r2) (pU r2) m2 = gv (zp r m) (zBest r P m dn rn vn) (zT 2 r P m dn rn vn) := e2
        rw [e6]
        unfold stq
        rw [if_neg (by omega), if_neg (by omega)]
        exact sbt_gv hM.1.2 (zl_get hwl) ht.1
      refine E_iload pf_124_313 rfl ?_
      refine E_if_ne_t pf_124_314 (by omega) ?_
      refine E_iload pf_124_341 rfl ?_
      refine E_iconst pf_124_342 ?_
      refine E_icmp_ne_t pf_124_343 (by omega) ?_
      refine E_aload pf_124_369 rfl ?_
      refine E_iload pf_124_370 rfl ?_
      refine E_iload pf_124_371 rfl ?_
      refine F_c3u (l' := [(_, _), (_, _), (_, _), (_, _), (_, _), (_, _)]) pf_124_373 (h2) (And.intro rfl (trivial)) rfl rfl rfl ?_
      refine E_aload pf_124_376 rfl ?_
      refine E_iconst pf_124_377 ?_
      refine E_iload pf_124_379 rfl ?_
      refine E_iadd pf_124_381 ?_
      refine E_dup2 pf_124_382 rfl rfl ?_
      refine F_iald pf_124_383 rfl (by omega) ?_
      refine E_iload pf_124_384 rfl ?_
      refine E_isub pf_124_386 ?_
      refine F_iast (l' := [(_, _), (_, _), (_, _), (_, _), (_, _), (_, _)]) pf_124_387 rfl (by omega) rfl ?_
      exact hk
  obtain ⟨m1, r1, Q1, e1, h681, f1, hk⟩ := key
  have hq := stq_ok (V := pV r) (U := pU r) hM hh hb hwl (t := (zT how r P m dn rn vn)) ⟨ht.1, ht.2.1, fun q => by rw [ewn]; exact ht.2.2 q⟩
  have hM1 : Mb vn (zp r1 m1) := by rw [e1]; exact hq.1
  have hs1 : mxs (zp r1 m1) = 100 := by rw [e1]; exact hq.2
  have hm1 : m1 ≤ 24 := by have := Mb_len hM1; unfold zp at this; rw [zl_len] at this; omega
  have hl1 : ((stq how (zp r m) (zBest r P m dn rn vn) (zWorst r P m dn rn).toNat (zT how r P m dn rn vn)).length : Int) = m1 := by rw [← e1]; unfold zp; rw [zl_len]
  have e69 : zp (zu r1 69 (r1 69 + 1)) m1 = zp r1 m1 := zp_out (by omega) hm1
  obtain ⟨m2, r2, e2, hle2, h682, f2, h3⟩ := c122n (r := zu r1 69 (r1 69 + 1)) (m := m1) (by rw [zu_n _ _ (by omega)]; exact h681) hm1 (fun j hj => by
    have := Mb_at (V := pV (zu r1 69 (r1 69 + 1))) (U := pU (zu r1 69 (r1 69 + 1))) (m := m1) (vn := vn) (by show Mb _ (zp _ _); rw [e69]; exact hM1) hj
    have e70 : mxs (zl (pV (zu r1 69 (r1 69 + 1))) (pU (zu r1 69 (r1 69 + 1))) m1) = 100 := by show mxs (zp _ _) = _; rw [e69]; exact hs1
    omega)
  have hm2 : m2 ≤ 24 := by omega
  refine ⟨m2, zu r2 70 (zu r1 69 (r1 69 + 1) 70 + ((m1 : Int) - m2)), Q1, (zfill bg (zB how r P m dn (zWorst r P m dn rn)) rn), (zfill wy (zW how r P m dn (zBest r P m dn rn vn) (zWorst r P m dn rn)) rn), by rw [zp_out (by omega) hm2, e2, e69, e1], by rw [zu_n _ _ (by omega)]; exact h682, fun x hx => ?_, ?_, ?_, fun h => ?_⟩
  · rw [zu_n _ _ (by omega), f2 x (.inl hx), zu_n _ _ (by omega), f1 x (.inl hx)]
  · rw [zu_n _ _ (by omega), f2 69 (by omega), zu_s, f1 69 (by omega)]
  · rw [zu_s, zu_n _ _ (by omega), f1 70 (by omega), hl1]
  refine E_in (lv := [_, _, _, _, _, _, _, _, _, _, _, _, _, _, _, _]) rfl ?_
  have fin : ∀ w8 w9 w10 w11 w12 w13 w14 w15 : Value, Rn 124 313 [.ref 102, .ref 107, .int (ii how), .int (ii (zBest r P m dn rn vn)), .int (ii (zWorst r P m dn rn)), .int (ii (r (20 + (zWorst r P m dn rn)))), .int (ii (r (44 + (zWorst r P m dn rn)))), .int (ii (zT how r P m dn rn vn)), w8, w9, w10, w11, w12, w13, w14, w15] [] (wd [(102, oX6 rf ts sp (dn : Int) k (vn : Int) (rn : Int) rd rk rv rr ac), (104, ar 128 P), (107, ar 72 r), (112, ar 24 Q), (113, lr 4 (zfill bg (zB how r P m dn (zWorst r P m dn rn)) rn)), (114, lr 4 (zfill wy (zW how r P m dn (zBest r P m dn rn vn) (zWorst r P m dn rn)) rn))] h) (.inl (some (.int (ii (zT how r P m dn rn vn)))), wd [(102, oX6 rf ts sp (dn : Int) k (vn : Int) (rn : Int) rd rk rv rr ac), (104, ar 128 P), (107, ar 72 (zu r2 70 (zu r1 69 (r1 69 + 1) 70 + ((m1 : Int) - m2)))), (112, ar 24 Q1), (113, lr 4 (zfill bg (zB how r P m dn (zWorst r P m dn rn)) rn)), (114, lr 4 (zfill wy (zW how r P m dn (zBest r P m dn rn vn) (zWorst r P m dn rn)) rn))] h) := by
    intro w8 w9 w10 w11 w12 w13 w14 w15
    refine hk _ _ _ _ _ _ _ _ _ _ ?_
    refine E_aload pf_124_388 rfl ?_
    refine E_iconst pf_124_389 ?_
    refine E_dup2 pf_124_391 rfl rfl ?_
    refine F_iald pf_124_392 rfl (by omega) ?_
    refine E_iconst pf_124_393 ?_
    refine E_iadd pf_124_394 ?_
    refine F_iast (l' := [(_, _), (_, _), (_, _), (_, _), (_, _), (_, _)]) pf_124_395 rfl (by omega) rfl ?_
    refine E_aload pf_124_396 rfl ?_
    refine E_iconst pf_124_397 ?_
    refine E_dup2 pf_124_399 rfl rfl ?_
    refine F_iald pf_124_400 rfl (by omega) ?_
    refine E_aload pf_124_401 rfl ?_
    refine F_c1v (l' := [(_, _), (_, _), (_, _), (_, _), (_, _), (_, _)]) pf_124_402 (h3) (And.intro rfl (trivial)) rfl rfl rfl ?_
    refine E_iadd pf_124_405 ?_
    refine F_iast (l' := [(_, _), (_, _), (_, _), (_, _), (_, _), (_, _)]) pf_124_406 rfl (by omega) rfl ?_
    refine E_iload pf_124_407 rfl ?_
    exact E_iret pf_124_409 rfl
  have lim : ∃ l : Nat, l ≤ 100 ∧ (if how = 0 then l = 100 else r (44 + (zWorst r P m dn rn)) = l) ∧ zam (zF (zfill bg (zB how r P m dn (zWorst r P m dn rn)) rn) (zfill wy (zW how r P m dn (zBest r P m dn rn vn) (zWorst r P m dn rn)) rn) rn) l = (zT how r P m dn rn vn) := by
    have ec : ∀ n, zam (zF (zfill bg (zB how r P m dn (zWorst r P m dn rn)) rn) (zfill wy (zW how r P m dn (zBest r P m dn rn vn) (zWorst r P m dn rn)) rn) rn) n = zam (zF (zB how r P m dn (zWorst r P m dn rn)) (zW how r P m dn (zBest r P m dn rn vn) (zWorst r P m dn rn)) rn) n := zam_congr fun e => zF_congr (fun q hq => ⟨zfill_at (by omega), zfill_at (by omega)⟩) e
    by_cases e : how = 0
    · refine ⟨100, by omega, by rw [if_pos e], ?_⟩
      rw [ec]; unfold zT; rw [if_pos e]
    · refine ⟨(r (44 + (zWorst r P m dn rn))).toNat, by omega, by rw [if_neg e]; omega, ?_⟩
      rw [ec]; unfold zT; rw [if_neg e]
  obtain ⟨l, hl, ha, hz⟩ := lim
  have lines := c124bn (rf := rf) (ts := ts) (sp := sp) (k := k) (rd := rd) (rk := rk) (rv := rv) (rr := rr) (ac := ac) (Q := Q) (bg := bg) (wy := wy) hh2 hp hP h _ (fun w8 w9 w10 w11 w12 w13 w14 w15 => c124cn (bg := (zfill bg (zB how r P m dn (zWorst r P m dn rn)) rn)) (wy := (zfill wy (zW how r P m dn (zBest r P m dn rn vn) (zWorst r P m dn rn)) rn)) hh2 hl ha hrn (fun q h1 h2 => by rw [zfill_at ⟨h1, h2⟩]; exact zB_le hp hP (by omega) hwi) (fun q h1 h2 => by rw [zfill_at ⟨h1, h2⟩]; exact zW_le hp hP (by omega)) h _ (by rw [hz]; exact fin) _ _ _ _ _ _ _ _ _) rn 0 pd_dum pd_dum pd_dum pd_dum pd_dum pd_dum pd_dum pd_dum (by omega)
  rw [zfill_0, zfill_0] at lines
  rcases hh with rfl | ⟨rfl, h2m⟩ | rfl
  · refine E_iload pf_124_0 rfl ?_
    refine E_iconst pf_124_1 ?_
    refine E_icmp_ne_t pf_124_2 (by omega) ?_
    refine E_aload pf_124_16 rfl ?_
    refine E_aload pf_124_17 rfl ?_
    refine F_v2v0 pf_124_18 (c118n hp hP) (And.intro rfl (And.intro rfl (And.intro rfl (trivial)))) rfl rfl ?_
    refine E_istore (lv' := [_, _, _, _, _, _, _, _, _, _, _, _, _, _, _, _]) pf_124_21 rfl rfl ?_
    refine E_aload pf_124_22 rfl ?_
    refine E_aload pf_124_23 rfl ?_
    refine F_v2v0 pf_124_24 (c119n hp hP) (And.intro rfl (And.intro rfl (And.intro rfl (trivial)))) rfl rfl ?_
    refine E_istore (lv' := [_, _, _, _, _, _, _, _, _, _, _, _, _, _, _, _]) pf_124_27 rfl rfl ?_
    refine E_aload pf_124_29 rfl ?_
    refine E_iconst pf_124_30 ?_
    refine E_iload pf_124_32 rfl ?_
    refine E_iadd pf_124_34 ?_
    refine F_iald pf_124_35 rfl (by omega) ?_
    refine E_istore (lv' := [_, _, _, _, _, _, _, _, _, _, _, _, _, _, _, _]) pf_124_36 rfl rfl ?_
    refine E_aload pf_124_38 rfl ?_
    refine E_iconst pf_124_39 ?_
    refine E_iload pf_124_41 rfl ?_
    refine E_iadd pf_124_43 ?_
    refine F_iald pf_124_44 rfl (by omega) ?_
    refine E_istore (lv' := [_, _, _, _, _, _, _, _, _, _, _, _, _, _, _, _]) pf_124_45 rfl rfl ?_
    refine E_iconst pf_124_47 ?_
    refine E_istore (lv' := [_, _, _, _, _, _, _, _, _, _, _, _, _, _, _, _]) pf_124_48 rfl rfl ?_
    exact lines
  · refine E_iload pf_124_0 rfl ?_
    refine E_iconst pf_124_1 ?_
    refine E_icmp_ne_f pf_124_2 (by omega) ?_
    refine E_aload pf_124_5 rfl ?_
    refine E_iconst pf_124_6 ?_
    refine F_iald pf_124_8 rfl (by omega) ?_
    refine E_iconst pf_124_9 ?_
    refine E_icmp_ge_t pf_124_10 (by omega) ?_
    refine E_aload pf_124_16 rfl ?_
    refine E_aload pf_124_17 rfl ?_
    refine F_v2v0 pf_124_18 (c118n hp hP) (And.intro rfl (And.intro rfl (And.intro rfl (trivial)))) rfl rfl ?_
    refine E_istore (lv' := [_, _, _, _, _, _, _, _, _, _, _, _, _, _, _, _]) pf_124_21 rfl rfl ?_
    refine E_aload pf_124_22 rfl ?_
    refine E_aload pf_124_23 rfl ?_
    refine F_v2v0 pf_124_24 (c119n hp hP) (And.intro rfl (And.intro rfl (And.intro rfl (trivial)))) rfl rfl ?_
    refine E_istore (lv' := [_, _, _, _, _, _, _, _, _, _, _, _, _, _, _, _]) pf_124_27 rfl rfl ?_
    refine E_aload pf_124_29 rfl ?_
    refine E_iconst pf_124_30 ?_
    refine E_iload pf_124_32 rfl ?_
    refine E_iadd pf_124_34 ?_
    refine F_iald pf_124_35 rfl (by omega) ?_
    refine E_istore (lv' := [_, _, _, _, _, _, _, _, _, _, _, _, _, _, _, _]) pf_124_36 rfl rfl ?_
    refine E_aload pf_124_38 rfl ?_
    refine E_iconst pf_124_39 ?_
    refine E_iload pf_124_41 rfl ?_
    refine E_iadd pf_124_43 ?_
    refine F_iald pf_124_44 rfl (by omega) ?_
    refine E_istore (lv' := [_, _, _, _, _, _, _, _, _, _, _, _, _, _, _, _]) pf_124_45 rfl rfl ?_
    refine E_iconst pf_124_47 ?_
    refine E_istore (lv' := [_, _, _, _, _, _, _, _, _, _, _, _, _, _, _, _]) pf_124_48 rfl rfl ?_
    exact lines
  · refine E_iload pf_124_0 rfl ?_
    refine E_iconst pf_124_1 ?_
    refine E_icmp_ne_t pf_124_2 (by omega) ?_
    refine E_aload pf_124_16 rfl ?_
    refine E_aload pf_124_17 rfl ?_
    refine F_v2v0 pf_124_18 (c118n hp hP) (And.intro rfl (And.intro rfl (And.intro rfl (trivial)))) rfl rfl ?_
    refine E_istore (lv' := [_, _, _, _, _, _, _, _, _, _, _, _, _, _, _, _]) pf_124_21 rfl rfl ?_
    refine E_aload pf_124_22 rfl ?_
    refine E_aload pf_124_23 rfl ?_
    refine F_v2v0 pf_124_24 (c119n hp hP) (And.intro rfl (And.intro rfl (And.intro rfl (trivial)))) rfl rfl ?_
    refine E_istore (lv' := [_, _, _, _, _, _, _, _, _, _, _, _, _, _, _, _]) pf_124_27 rfl rfl ?_
    refine E_aload pf_124_29 rfl ?_
    refine E_iconst pf_124_30 ?_
    refine E_iload pf_124_32 rfl ?_
    refine E_iadd pf_124_34 ?_
    refine F_iald pf_124_35 rfl (by omega) ?_
    refine E_istore (lv' := [_, _, _, _, _, _, _, _, _, _, _, _, _, _, _, _]) pf_124_36 rfl rfl ?_
    refine E_aload pf_124_38 rfl ?_
    refine E_iconst pf_124_39 ?_
    refine E_iload pf_124_41 rfl ?_
    refine E_iadd pf_124_43 ?_
    refine F_iald pf_124_44 rfl (by omega) ?_
    refine E_istore (lv' := [_, _, _, _, _, _, _, _, _, _, _, _, _, _, _, _]) pf_124_45 rfl rfl ?_
    refine E_iconst pf_124_47 ?_
    refine E_istore (lv' := [_, _, _, _, _, _, _, _, _, _, _, _, _, _, _, _]) pf_124_48 rfl rfl ?_
    exact lines
theorem c124t {how : Int} (hh : how = 0 ∨ (how = 1 ∧ 1 < m) ∨ how = 2) (hM : Mx vn (zp r m)) (hp : pgk (vn : Int) r m) (hP : ppk P dn vn rn) : ∃ (m' : Nat) (r' Q' bg' wy' : Int → Int), zp r' m' = pos (stq how (zp r m) (zBest r P m dn rn vn) (zWorst r P m dn rn).toNat (zT how r P m dn rn vn)) ∧ r' 68 = m' ∧ (∀ x : Int, x < 20 → r' x = r x) ∧ r' 69 = r 69 + 1 ∧ r' 70 = r 70 + (((stq how (zp r m) (zBest r P m dn rn vn) (zWorst r P m dn rn).toNat (zT how r P m dn rn vn)).length : Int) - m') ∧ ∀ h, Ca 124 [.ref 102, .ref 108, .int (ii how)] (wd [(102, oX6 rf ts sp (dn : Int) k (vn : Int) (rn : Int) rd rk rv rr ac), (104, ar 128 P), (108, ar 72 r), (112, ar 24 Q), (113, lr 4 bg), (114, lr 4 wy)] h) (.inl (some (.int (ii (zT how r P m dn rn vn)))), wd [(102, oX6 rf ts sp (dn : Int) k (vn : Int) (rn : Int) rd rk rv rr ac), (104, ar 128 P), (108, ar 72 r'), (112, ar 24 Q'), (113, lr 4 bg'), (114, lr 4 wy')] h) := by
  have h68 := hp.1
  have hm := hp.2.1
  have hrn := hP.2.2.1
  have hvn := hP.2.1
  have hb := zBest_in (r := r) (m := m) hP
  have hwi := zWorst_in (P := P) (dn := dn) (rn := rn) hp
  have ewn : (((zWorst r P m dn rn).toNat : Nat) : Int) = (zWorst r P m dn rn) := Int.toNat_of_nonneg hwi.1
  have hwl : (zWorst r P m dn rn).toNat < m := by omega
  have hat := Mx_at hM hwl
  rw [ewn] at hat
  have eu : pU r (zWorst r P m dn rn) = r (44 + (zWorst r P m dn rn)) := rfl
  have hh2 : how = 0 ∨ how = 1 ∨ how = 2 := by omega
  have ht : 0 ≤ (zT how r P m dn rn vn) ∧ (zT how r P m dn rn vn) ≤ 100 ∧ (how ≠ 0 → (zT how r P m dn rn vn) ≤ r (44 + (zWorst r P m dn rn))) := by
    have := zam_in (zF (zB how r P m dn (zWorst r P m dn rn)) (zW how r P m dn (zBest r P m dn rn vn) (zWorst r P m dn rn)) rn) (if how = 0 then 100 else (r (44 + (zWorst r P m dn rn))).toNat)
    unfold zT
    by_cases e : how = 0
    · rw [if_pos e] at this ⊢; exact ⟨this.1, by omega, fun q => absurd e q⟩
    · rw [if_neg e] at this ⊢; exact ⟨this.1, by omega, fun _ => by omega⟩
  have key : ∃ (m1 : Nat) (r1 Q1 : Int → Int), zp r1 m1 = (stq how (zp r m) (zBest r P m dn rn vn) (zWorst r P m dn rn).toNat (zT how r P m dn rn vn)) ∧ r1 68 = m1 ∧ pfr r r1 ∧ ∀ (w8 w9 w10 w11 w12 w13 w14 w15 : Value) h o, Rn 124 388 [.ref 102, .ref 108, .int (ii how), .int (ii (zBest r P m dn rn vn)), .int (ii (zWorst r P m dn rn)), .int (ii (r (20 + (zWorst r P m dn rn)))), .int (ii (r (44 + (zWorst r P m dn rn)))), .int (ii (zT how r P m dn rn vn)), w8, w9, w10, w11, w12, w13, w14, w15] [] (wd [(102, oX6 rf ts sp (dn : Int) k (vn : Int) (rn : Int) rd rk rv rr ac), (104, ar 128 P), (108, ar 72 r1), (112, ar 24 Q1), (113, lr 4 (zfill bg (zB how r P m dn (zWorst r P m dn rn)) rn)), (114, lr 4 (zfill wy (zW how r P m dn (zBest r P m dn rn vn) (zWorst r P m dn rn)) rn))] h) o → Rn 124 313 [.ref 102, .ref 108, .int (ii how), .int (ii (zBest r P m dn rn vn)), .int (ii (zWorst r P m dn rn)), .int (ii (r (20 + (zWorst r P m dn rn)))), .int (ii (r (44 + (zWorst r P m dn rn)))), .int (ii (zT how r P m dn rn vn)), w8, w9, w10, w11, w12, w13, w14, w15] [] (wd [(102, oX6 rf ts sp (dn : Int) k (vn : Int) (rn : Int) rd rk rv rr ac), (104, ar 128 P), (108, ar 72 r), (112, ar 24 Q), (113, lr 4 (zfill bg (zB how r P m dn (zWorst r P m dn rn)) rn)), (114, lr 4 (zfill wy (zW how r P m dn (zBest r P m dn rn vn) (zWorst r P m dn rn)) rn))] h) o := by
    have hUb : ∀ i : Nat, i < m → 0 ≤ pU r i ∧ pU r i ≤ 100 := fun i hi => by have := Mx_at hM hi; omega
    rcases hh with rfl | ⟨rfl, h2m⟩ | rfl
    · obtain ⟨r1, Q1, e1, f1, h1⟩ := c123t (rf := rf) (ts := ts) (sp := sp) (d := (dn : Int)) (kd := k) (vs := (vn : Int)) (rw := (rn : Int)) (rd := rd) (rk := rk) (rv := rv) (rr := rr) (ac := ac) (r := r) (Q := Q) (m := m) (up := 100 - (zT 0 r P m dn rn vn)) (lo := 100) (ex := -9) h68 hm hUb (by omega) (by omega) (by omega)
      have h681 : r1 68 = m := (f1 68 (by omega)).trans h68
      have hM1 : Mb vn (zp r1 m) := by rw [e1]; exact scl_Mb hM.1 (by omega) (by omega)
      obtain ⟨m2, r2, e2, h682, f2, h2⟩ := c121t (r := r1) (m := m) (v := (zBest r P m dn rn vn)) (n := (zT 0 r P m dn rn vn)) h681 hm.2 (fun j hj => by have := Mb_at hM1 hj; omega) (by omega) (by omega) (Mb_room hM1 hb hvn.2)
      refine ⟨m2, r2, Q1, by rw [e2, e1]; unfold stq; rw [if_pos rfl], h682, pfr_tr (ufr_p f1) f2, fun w8 w9 w10 w11 w12 w13 w14 w15 h o hk => ?_⟩
      refine E_iload pf_124_313 rfl ?_
      refine E_if_ne_f pf_124_314 (by omega) ?_
      refine E_aload pf_124_317 rfl ?_
      refine E_aload pf_124_318 rfl ?_
      refine E_iconst pf_124_319 ?_
      refine E_iload pf_124_321 rfl ?_
      refine E_isub pf_124_323 ?_
      refine E_iconst pf_124_324 ?_
      refine E_iconst pf_124_326 ?_
      refine F_v5u (l' := [(_, _), (_, _), (_, _), (_, _), (_, _), (_, _)]) pf_124_328 (h1) (And.intro rfl (And.intro rfl (And.intro rfl (trivial)))) rfl rfl rfl rfl ?_
      refine E_aload pf_124_331 rfl ?_
      refine E_iload pf_124_332 rfl ?_
      refine E_iload pf_124_333 rfl ?_
      refine F_c3u (l' := [(_, _), (_, _), (_, _), (_, _), (_, _), (_, _)]) pf_124_335 (h2) (And.intro rfl (trivial)) rfl rfl rfl ?_
      refine E_goto pf_124_338 ?_
      exact hk
    · have hp2 := Mx_part hM hwl h2m
      rw [ewn] at hp2
      obtain ⟨r1, Q1, e1, f1, h1⟩ := c123t (rf := rf) (ts := ts) (sp := sp) (d := (dn : Int)) (kd := k) (vs := (vn : Int)) (rw := (rn : Int)) (rd := rd) (rk := rk) (rv := rv) (rr := rr) (ac := ac) (r := r) (Q := Q) (m := m) (up := 100 - r (44 + (zWorst r P m dn rn)) + (zT 1 r P m dn rn vn)) (lo := 100 - r (44 + (zWorst r P m dn rn))) (ex := (zWorst r P m dn rn)) h68 hm hUb (by have := ht.2.2 (by omega); omega) (by omega) (by omega)
      have h681 : r1 68 = m := (f1 68 (by omega)).trans h68
      refine ⟨m, zu r1 (44 + (zWorst r P m dn rn)) (r1 (44 + (zWorst r P m dn rn)) - (zT 1 r P m dn rn vn)), Q1, ?_, by rw [zu_n _ _ (by omega)]; exact h681, pfr_tr (ufr_p f1) (pfr_u _ (by omega)), fun w8 w9 w10 w11 w12 w13 w14 w15 h o hk => ?_⟩
      · have e3 := zp_setU (r := r1) (m := m) (i := (zWorst r P m dn rn).toNat) (x := r1 (44 + (zWorst r P m dn rn)) - (zT 1 r P m dn rn vn)) (by omega) hm.2
        rw [ewn] at e3
        have e4 := sbt_zl (V := pV r1) (U := pU r1) (t := (zT 1 r P m dn rn vn)) hwl
        rw [ewn] at e4
        have e5 : pU r1 (zWorst r P m dn rn) = r1 (44 + (zWorst r P m dn rn)) := rfl
        rw [e5] at e4
        rw [e3, ← e4]
        have e6 : zl (pV r1) (pU r1) m = scl (zp r m) (100 - r (44 + (zWorst r P m dn rn)) + (zT 1 r P m dn rn vn)) (100 - r (44 + (zWorst r P m dn rn))) (zWorst r P m dn rn) := e1
        rw [e6]
        unfold stq
        have e7 : ((zp r m).getD (zWorst r P m dn rn).toNat (0, 0)).2 = r (44 + (zWorst r P m dn rn)) := by
          have : (zp r m).getD (zWorst r P m dn rn).toNat (0, 0) = (pV r ((zWorst r P m dn rn).toNat : Int), pU r ((zWorst r P m dn rn).toNat : Int)) := zl_getD hwl
          rw [this, ewn]; rfl
        rw [if_neg (by omega), if_pos rfl, e7, ewn]
      refine E_iload pf_124_313 rfl ?_
      refine E_if_ne_t pf_124_314 (by omega) ?_
      refine E_iload pf_124_341 rfl ?_
      refine E_iconst pf_124_342 ?_
      refine E_icmp_ne_f pf_124_343 (by omega) ?_
      refine E_aload pf_124_346 rfl ?_
      refine E_aload pf_124_347 rfl ?_
      refine E_iconst pf_124_348 ?_
      refine E_iload pf_124_350 rfl ?_
      refine E_isub pf_124_352 ?_
      refine E_iload pf_124_353 rfl ?_
      refine E_iadd pf_124_355 ?_
      refine E_iconst pf_124_356 ?_
      refine E_iload pf_124_358 rfl ?_
      refine E_isub pf_124_360 ?_
      refine E_iload pf_124_361 rfl ?_
      refine F_v5u (l' := [(_, _), (_, _), (_, _), (_, _), (_, _), (_, _)]) pf_124_363 (h1) (And.intro rfl (And.intro rfl (And.intro rfl (trivial)))) rfl rfl rfl rfl ?_
      refine E_goto pf_124_366 ?_
      refine E_aload pf_124_376 rfl ?_
      refine E_iconst pf_124_377 ?_
      refine E_iload pf_124_379 rfl ?_
      refine E_iadd pf_124_381 ?_
      refine E_dup2 pf_124_382 rfl rfl ?_
      refine F_iald pf_124_383 rfl (by omega) ?_
      refine E_iload pf_124_384 rfl ?_
      refine E_isub pf_124_386 ?_
      refine F_iast (l' := [(_, _), (_, _), (_, _), (_, _), (_, _), (_, _)]) pf_124_387 rfl (by omega) rfl ?_
      exact hk
    · have hTu := ht.2.2 (by omega)
      obtain ⟨m2, r2, e2, h682, f2, h2⟩ := c121t (r := r) (m := m) (v := (zBest r P m dn rn vn)) (n := (zT 2 r P m dn rn vn)) h68 hm.2 (fun j hj => by have := Mx_at hM hj; omega) (by omega) (by omega) (Mb_room hM.1 hb hvn.2)
      have hM2 : Mb vn (zp r2 m2) := by rw [e2]; exact gv_Mb hM.1 hb
      have hm2 : m2 ≤ 24 := by have := Mb_len hM2; unfold zp at this; rw [zl_len] at this; omega
      have hl2 : (zWorst r P m dn rn).toNat < m2 := by
        have a1 : (zp r2 m2).length = m2 := zl_len _ _ _
        have a2 : (zp r m).length = m := zl_len _ _ _
        have a3 := gv_len (A := zp r m) (v := (zBest r P m dn rn vn)) (n := (zT 2 r P m dn rn vn))
        rw [← e2, a1, a2] at a3
        omega
      refine ⟨m2, zu r2 (44 + (zWorst r P m dn rn)) (r2 (44 + (zWorst r P m dn rn)) - (zT 2 r P m dn rn vn)), Q, ?_, by rw [zu_n _ _ (by omega)]; exact h682, pfr_tr f2 (pfr_u _ (by omega)), fun w8 w9 w10 w11 w12 w13 w14 w15 h o hk => ?_⟩
      · have e3 := zp_setU (r := r2) (m := m2) (i := (zWorst r P m dn rn).toNat) (x := r2 (44 + (zWorst r P m dn rn)) - (zT 2 r P m dn rn vn)) (by omega) hm2
        rw [ewn] at e3
        have e4 := sbt_zl (V := pV r2) (U := pU r2) (t := (zT 2 r P m dn rn vn)) hl2
        rw [ewn] at e4
        have e5 : pU r2 (zWorst r P m dn rn) = r2 (44 + (zWorst r P m dn rn)) := rfl
        rw [e5] at e4
        rw [e3, ← e4]
        have e6 : zl (pV r2) (pU r2) m2 = gv (zp r m) (zBest r P m dn rn vn) (zT 2 r P m dn rn vn) := e2
        rw [e6]
        unfold stq
        rw [if_neg (by omega), if_neg (by omega)]
        exact sbt_gv hM.1.2 (zl_get hwl) ht.1
      refine E_iload pf_124_313 rfl ?_
      refine E_if_ne_t pf_124_314 (by omega) ?_
      refine E_iload pf_124_341 rfl ?_
      refine E_iconst pf_124_342 ?_
      refine E_icmp_ne_t pf_124_343 (by omega) ?_
      refine E_aload pf_124_369 rfl ?_
      refine E_iload pf_124_370 rfl ?_
      refine E_iload pf_124_371 rfl ?_
      refine F_c3u (l' := [(_, _), (_, _), (_, _), (_, _), (_, _), (_, _)]) pf_124_373 (h2) (And.intro rfl (trivial)) rfl rfl rfl ?_
      refine E_aload pf_124_376 rfl ?_
      refine E_iconst pf_124_377 ?_
      refine E_iload pf_124_379 rfl ?_
      refine E_iadd pf_124_381 ?_
      refine E_dup2 pf_124_382 rfl rfl ?_
      refine F_iald pf_124_383 rfl (by omega) ?_
      refine E_iload pf_124_384 rfl ?_
      refine E_isub pf_124_386 ?_
      refine F_iast (l' := [(_, _), (_, _), (_, _), (_, _), (_, _), (_, _)]) pf_124_387 rfl (by omega) rfl ?_
      exact hk
  obtain ⟨m1, r1, Q1, e1, h681, f1, hk⟩ := key
  have hq := stq_ok (V := pV r) (U := pU r) hM hh hb hwl (t := (zT how r P m dn rn vn)) ⟨ht.1, ht.2.1, fun q => by rw [ewn]; exact ht.2.2 q⟩
  have hM1 : Mb vn (zp r1 m1) := by rw [e1]; exact hq.1
  have hs1 : mxs (zp r1 m1) = 100 := by rw [e1]; exact hq.2
  have hm1 : m1 ≤ 24 := by have := Mb_len hM1; unfold zp at this; rw [zl_len] at this; omega
  have hl1 : ((stq how (zp r m) (zBest r P m dn rn vn) (zWorst r P m dn rn).toNat (zT how r P m dn rn vn)).length : Int) = m1 := by rw [← e1]; unfold zp; rw [zl_len]
  have e69 : zp (zu r1 69 (r1 69 + 1)) m1 = zp r1 m1 := zp_out (by omega) hm1
  obtain ⟨m2, r2, e2, hle2, h682, f2, h3⟩ := c122t (r := zu r1 69 (r1 69 + 1)) (m := m1) (by rw [zu_n _ _ (by omega)]; exact h681) hm1 (fun j hj => by
    have := Mb_at (V := pV (zu r1 69 (r1 69 + 1))) (U := pU (zu r1 69 (r1 69 + 1))) (m := m1) (vn := vn) (by show Mb _ (zp _ _); rw [e69]; exact hM1) hj
    have e70 : mxs (zl (pV (zu r1 69 (r1 69 + 1))) (pU (zu r1 69 (r1 69 + 1))) m1) = 100 := by show mxs (zp _ _) = _; rw [e69]; exact hs1
    omega)
  have hm2 : m2 ≤ 24 := by omega
  refine ⟨m2, zu r2 70 (zu r1 69 (r1 69 + 1) 70 + ((m1 : Int) - m2)), Q1, (zfill bg (zB how r P m dn (zWorst r P m dn rn)) rn), (zfill wy (zW how r P m dn (zBest r P m dn rn vn) (zWorst r P m dn rn)) rn), by rw [zp_out (by omega) hm2, e2, e69, e1], by rw [zu_n _ _ (by omega)]; exact h682, fun x hx => ?_, ?_, ?_, fun h => ?_⟩
  · rw [zu_n _ _ (by omega), f2 x (.inl hx), zu_n _ _ (by omega), f1 x (.inl hx)]
  · rw [zu_n _ _ (by omega), f2 69 (by omega), zu_s, f1 69 (by omega)]
  · rw [zu_s, zu_n _ _ (by omega), f1 70 (by omega), hl1]
  refine E_in (lv := [_, _, _, _, _, _, _, _, _, _, _, _, _, _, _, _]) rfl ?_
  have fin : ∀ w8 w9 w10 w11 w12 w13 w14 w15 : Value, Rn 124 313 [.ref 102, .ref 108, .int (ii how), .int (ii (zBest r P m dn rn vn)), .int (ii (zWorst r P m dn rn)), .int (ii (r (20 + (zWorst r P m dn rn)))), .int (ii (r (44 + (zWorst r P m dn rn)))), .int (ii (zT how r P m dn rn vn)), w8, w9, w10, w11, w12, w13, w14, w15] [] (wd [(102, oX6 rf ts sp (dn : Int) k (vn : Int) (rn : Int) rd rk rv rr ac), (104, ar 128 P), (108, ar 72 r), (112, ar 24 Q), (113, lr 4 (zfill bg (zB how r P m dn (zWorst r P m dn rn)) rn)), (114, lr 4 (zfill wy (zW how r P m dn (zBest r P m dn rn vn) (zWorst r P m dn rn)) rn))] h) (.inl (some (.int (ii (zT how r P m dn rn vn)))), wd [(102, oX6 rf ts sp (dn : Int) k (vn : Int) (rn : Int) rd rk rv rr ac), (104, ar 128 P), (108, ar 72 (zu r2 70 (zu r1 69 (r1 69 + 1) 70 + ((m1 : Int) - m2)))), (112, ar 24 Q1), (113, lr 4 (zfill bg (zB how r P m dn (zWorst r P m dn rn)) rn)), (114, lr 4 (zfill wy (zW how r P m dn (zBest r P m dn rn vn) (zWorst r P m dn rn)) rn))] h) := by
    intro w8 w9 w10 w11 w12 w13 w14 w15
    refine hk _ _ _ _ _ _ _ _ _ _ ?_
    refine E_aload pf_124_388 rfl ?_
    refine E_iconst pf_124_389 ?_
    refine E_dup2 pf_124_391 rfl rfl ?_
    refine F_iald pf_124_392 rfl (by omega) ?_
    refine E_iconst pf_124_393 ?_
    refine E_iadd pf_124_394 ?_
    refine F_iast (l' := [(_, _), (_, _), (_, _), (_, _), (_, _), (_, _)]) pf_124_395 rfl (by omega) rfl ?_
    refine E_aload pf_124_396 rfl ?_
    refine E_iconst pf_124_397 ?_
    refine E_dup2 pf_124_399 rfl rfl ?_
    refine F_iald pf_124_400 rfl (by omega) ?_
    refine E_aload pf_124_401 rfl ?_
    refine F_c1v (l' := [(_, _), (_, _), (_, _), (_, _), (_, _), (_, _)]) pf_124_402 (h3) (And.intro rfl (trivial)) rfl rfl rfl ?_
    refine E_iadd pf_124_405 ?_
    refine F_iast (l' := [(_, _), (_, _), (_, _), (_, _), (_, _), (_, _)]) pf_124_406 rfl (by omega) rfl ?_
    refine E_iload pf_124_407 rfl ?_
    exact E_iret pf_124_409 rfl
  have lim : ∃ l : Nat, l ≤ 100 ∧ (if how = 0 then l = 100 else r (44 + (zWorst r P m dn rn)) = l) ∧ zam (zF (zfill bg (zB how r P m dn (zWorst r P m dn rn)) rn) (zfill wy (zW how r P m dn (zBest r P m dn rn vn) (zWorst r P m dn rn)) rn) rn) l = (zT how r P m dn rn vn) := by
    have ec : ∀ n, zam (zF (zfill bg (zB how r P m dn (zWorst r P m dn rn)) rn) (zfill wy (zW how r P m dn (zBest r P m dn rn vn) (zWorst r P m dn rn)) rn) rn) n = zam (zF (zB how r P m dn (zWorst r P m dn rn)) (zW how r P m dn (zBest r P m dn rn vn) (zWorst r P m dn rn)) rn) n := zam_congr fun e => zF_congr (fun q hq => ⟨zfill_at (by omega), zfill_at (by omega)⟩) e
    by_cases e : how = 0
    · refine ⟨100, by omega, by rw [if_pos e], ?_⟩
      rw [ec]; unfold zT; rw [if_pos e]
    · refine ⟨(r (44 + (zWorst r P m dn rn))).toNat, by omega, by rw [if_neg e]; omega, ?_⟩
      rw [ec]; unfold zT; rw [if_neg e]
  obtain ⟨l, hl, ha, hz⟩ := lim
  have lines := c124bt (rf := rf) (ts := ts) (sp := sp) (k := k) (rd := rd) (rk := rk) (rv := rv) (rr := rr) (ac := ac) (Q := Q) (bg := bg) (wy := wy) hh2 hp hP h _ (fun w8 w9 w10 w11 w12 w13 w14 w15 => c124ct (bg := (zfill bg (zB how r P m dn (zWorst r P m dn rn)) rn)) (wy := (zfill wy (zW how r P m dn (zBest r P m dn rn vn) (zWorst r P m dn rn)) rn)) hh2 hl ha hrn (fun q h1 h2 => by rw [zfill_at ⟨h1, h2⟩]; exact zB_le hp hP (by omega) hwi) (fun q h1 h2 => by rw [zfill_at ⟨h1, h2⟩]; exact zW_le hp hP (by omega)) h _ (by rw [hz]; exact fin) _ _ _ _ _ _ _ _ _) rn 0 pd_dum pd_dum pd_dum pd_dum pd_dum pd_dum pd_dum pd_dum (by omega)
  rw [zfill_0, zfill_0] at lines
  rcases hh with rfl | ⟨rfl, h2m⟩ | rfl
  · refine E_iload pf_124_0 rfl ?_
    refine E_iconst pf_124_1 ?_
    refine E_icmp_ne_t pf_124_2 (by omega) ?_
    refine E_aload pf_124_16 rfl ?_
    refine E_aload pf_124_17 rfl ?_
    refine F_v2v0 pf_124_18 (c118t hp hP) (And.intro rfl (And.intro rfl (And.intro rfl (trivial)))) rfl rfl ?_
    refine E_istore (lv' := [_, _, _, _, _, _, _, _, _, _, _, _, _, _, _, _]) pf_124_21 rfl rfl ?_
    refine E_aload pf_124_22 rfl ?_
    refine E_aload pf_124_23 rfl ?_
    refine F_v2v0 pf_124_24 (c119t hp hP) (And.intro rfl (And.intro rfl (And.intro rfl (trivial)))) rfl rfl ?_
    refine E_istore (lv' := [_, _, _, _, _, _, _, _, _, _, _, _, _, _, _, _]) pf_124_27 rfl rfl ?_
    refine E_aload pf_124_29 rfl ?_
    refine E_iconst pf_124_30 ?_
    refine E_iload pf_124_32 rfl ?_
    refine E_iadd pf_124_34 ?_
    refine F_iald pf_124_35 rfl (by omega) ?_
    refine E_istore (lv' := [_, _, _, _, _, _, _, _, _, _, _, _, _, _, _, _]) pf_124_36 rfl rfl ?_
    refine E_aload pf_124_38 rfl ?_
    refine E_iconst pf_124_39 ?_
    refine E_iload pf_124_41 rfl ?_
    refine E_iadd pf_124_43 ?_
    refine F_iald pf_124_44 rfl (by omega) ?_
    refine E_istore (lv' := [_, _, _, _, _, _, _, _, _, _, _, _, _, _, _, _]) pf_124_45 rfl rfl ?_
    refine E_iconst pf_124_47 ?_
    refine E_istore (lv' := [_, _, _, _, _, _, _, _, _, _, _, _, _, _, _, _]) pf_124_48 rfl rfl ?_
    exact lines
  · refine E_iload pf_124_0 rfl ?_
    refine E_iconst pf_124_1 ?_
    refine E_icmp_ne_f pf_124_2 (by omega) ?_
    refine E_aload pf_124_5 rfl ?_
    refine E_iconst pf_124_6 ?_
    refine F_iald pf_124_8 rfl (by omega) ?_
    refine E_iconst pf_124_9 ?_
    refine E_icmp_ge_t pf_124_10 (by omega) ?_
    refine E_aload pf_124_16 rfl ?_
    refine E_aload pf_124_17 rfl ?_
    refine F_v2v0 pf_124_18 (c118t hp hP) (And.intro rfl (And.intro rfl (And.intro rfl (trivial)))) rfl rfl ?_
    refine E_istore (lv' := [_, _, _, _, _, _, _, _, _, _, _, _, _, _, _, _]) pf_124_21 rfl rfl ?_
    refine E_aload pf_124_22 rfl ?_
    refine E_aload pf_124_23 rfl ?_
    refine F_v2v0 pf_124_24 (c119t hp hP) (And.intro rfl (And.intro rfl (And.intro rfl (trivial)))) rfl rfl ?_
    refine E_istore (lv' := [_, _, _, _, _, _, _, _, _, _, _, _, _, _, _, _]) pf_124_27 rfl rfl ?_
    refine E_aload pf_124_29 rfl ?_
    refine E_iconst pf_124_30 ?_
    refine E_iload pf_124_32 rfl ?_
    refine E_iadd pf_124_34 ?_
    refine F_iald pf_124_35 rfl (by omega) ?_
    refine E_istore (lv' := [_, _, _, _, _, _, _, _, _, _, _, _, _, _, _, _]) pf_124_36 rfl rfl ?_
    refine E_aload pf_124_38 rfl ?_
    refine E_iconst pf_124_39 ?_
    refine E_iload pf_124_41 rfl ?_
    refine E_iadd pf_124_43 ?_
    refine F_iald pf_124_44 rfl (by omega) ?_
    refine E_istore (lv' := [_, _, _, _, _, _, _, _, _, _, _, _, _, _, _, _]) pf_124_45 rfl rfl ?_
    refine E_iconst pf_124_47 ?_
    refine E_istore (lv' := [_, _, _, _, _, _, _, _, _, _, _, _, _, _, _, _]) pf_124_48 rfl rfl ?_
    exact lines
  · refine E_iload pf_124_0 rfl ?_
    refine E_iconst pf_124_1 ?_
    refine E_icmp_ne_t pf_124_2 (by omega) ?_
    refine E_aload pf_124_16 rfl ?_
    refine E_aload pf_124_17 rfl ?_
    refine F_v2v0 pf_124_18 (c118t hp hP) (And.intro rfl (And.intro rfl (And.intro rfl (trivial)))) rfl rfl ?_
    refine E_istore (lv' := [_, _, _, _, _, _, _, _, _, _, _, _, _, _, _, _]) pf_124_21 rfl rfl ?_
    refine E_aload pf_124_22 rfl ?_
    refine E_aload pf_124_23 rfl ?_
    refine F_v2v0 pf_124_24 (c119t hp hP) (And.intro rfl (And.intro rfl (And.intro rfl (trivial)))) rfl rfl ?_
    refine E_istore (lv' := [_, _, _, _, _, _, _, _, _, _, _, _, _, _, _, _]) pf_124_27 rfl rfl ?_
    refine E_aload pf_124_29 rfl ?_
    refine E_iconst pf_124_30 ?_
    refine E_iload pf_124_32 rfl ?_
    refine E_iadd pf_124_34 ?_
    refine F_iald pf_124_35 rfl (by omega) ?_
    refine E_istore (lv' := [_, _, _, _, _, _, _, _, _, _, _, _, _, _, _, _]) pf_124_36 rfl rfl ?_
    refine E_aload pf_124_38 rfl ?_
    refine E_iconst pf_124_39 ?_
    refine E_iload pf_124_41 rfl ?_
    refine E_iadd pf_124_43 ?_
    refine F_iald pf_124_44 rfl (by omega) ?_
    refine E_istore (lv' := [_, _, _, _, _, _, _, _, _, _, _, _, _, _, _, _]) pf_124_45 rfl rfl ?_
    refine E_iconst pf_124_47 ?_
    refine E_istore (lv' := [_, _, _, _, _, _, _, _, _, _, _, _, _, _, _, _]) pf_124_48 rfl rfl ?_
    exact lines
end STP
