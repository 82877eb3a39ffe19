/-! Runs of the pure machine, goal first: a rule an instruction; ints are ii z, longs ll z, z : Int. -/
/-- where the class throws -/
def pd_TS : List (Nat × Nat) := [(63, 35), (66, 16), (67, 100), (72, 22), (77, 11), (94, 14), (95, 9), (96, 4)]
def pd_site (mi pc : Nat) : Bool := pd_TS.any (fun e => e.1 == mi && e.2 == pc)
/-- no constructor is called as a virtual method -/
def pd_inits : List Nat := [0, 21, 25, 40, 51, 62, 106]
def pd_vok : Instr → Bool
  | .invokevirtual c => !(pd_inits.contains c)
  | _ => true
def pd_body (rec : Nat → Nat → List Value → List Value → pd_H → Option (pd_Out × pd_H)) (mi pc : Nat) (lv st : List Value) (h : pd_H) : Option (pd_Out × pd_H) := match pd_fetch mi pc with
    | none => none
    | some (i, np) => match pd_op i with
      | 0 => (match pd_stp np i lv st h with
        | some (pc', lv', st', h') => rec mi pc' lv' st' h'
        | none => none)
      | 1 => pd_ret mi i st h
      | 2 => if pd_cat st ≤ 8 ∧ pd_site mi pc = true then some (.inr (pd_who i), pd_thr h) else none
      | k => if pd_vok i = true ∧ pd_na k (pd_who i) ≤ st.length ∧ pd_cat (st.drop (pd_na k (pd_who i))) ≤ 8 ∧ (pd_sl (st.take (pd_na k (pd_who i))).reverse).length ≤ pd_n (pd_who i) ∧ pd_rcv k (pd_who i) (st.take (pd_na k (pd_who i))).reverse h = true then
          (match rec (pd_who i) 0 (pd_ent (pd_n (pd_who i)) (st.take (pd_na k (pd_who i))).reverse) [] h with
          | some (.inl v, h') => rec mi np lv (v.toList ++ st.drop (pd_na k (pd_who i))) h'
          | some (.inr E, h') => pd_catch mi E h'
          | none => none)
        else none
def pd_go : Nat → Nat → Nat → List Value → List Value → pd_H → Option (pd_Out × pd_H)
  | 0, _, _, _, _, _ => none
  | n + 1, mi, pc, lv, st, h => pd_body (pd_go n) mi pc lv st h
theorem pd_run_succ (n mi pc : Nat) (lv st : List Value) (h : pd_H) : pd_go (n + 1) mi pc lv st h = pd_body (pd_go n) mi pc lv st h := rfl
theorem pd_body_mono {f g : Nat → Nat → List Value → List Value → pd_H → Option (pd_Out × pd_H)} (hfg : ∀ a b c d e r, f a b c d e = some r → g a b c d e = some r) {mi pc : Nat} {lv st : List Value} {h : pd_H} {r : pd_Out × pd_H} (e : pd_body f mi pc lv st h = some r) : pd_body g mi pc lv st h = some r := by
  unfold pd_body at e ⊢
  split at e
  · exact absurd e (by simp)
  · rename_i i np hf
    split at e
    · split at e
      · exact hfg _ _ _ _ _ _ e
      · exact absurd e (by simp)
    · exact e
    · exact e
    · rename_i k h0 h1 h2
      split at e
      · rename_i hc
        rw [if_pos hc]
        split at e
        · rename_i v h' hv
          rw [hfg _ _ _ _ _ _ hv]
          exact hfg _ _ _ _ _ _ e
        · rename_i E h' hv
          rw [hfg _ _ _ _ _ _ hv]
          exact e
        · exact absurd e (by simp)
      · exact absurd e (by simp)
theorem pd_mono (n : Nat) : ∀ (mi pc : Nat) (lv st : List Value) (h : pd_H) (r : pd_Out × pd_H), pd_go n mi pc lv st h = some r → pd_go (n + 1) mi pc lv st h = some r := by
  induction n with
  | zero => intro mi pc lv st h r e; exact absurd e (by simp [pd_go])
  | succ n ih =>
    intro mi pc lv st h r e
    rw [pd_run_succ] at e ⊢
    exact pd_body_mono ih e
theorem pd_mono' {n : Nat} (k : Nat) {mi pc : Nat} {lv st : List Value} {h : pd_H} {r : pd_Out × pd_H} (e : pd_go n mi pc lv st h = some r) : pd_go (n + k) mi pc lv st h = some r := by
  induction k with
  | zero => exact e
  | succ k ih => exact pd_mono _ _ _ _ _ _ _ ih
def Rn (mi pc : Nat) (lv st : List Value) (h : pd_H) (r : pd_Out × pd_H) : Prop := ∃ n, pd_go n mi pc lv st h = some r
def Ca (c : Nat) (as : List Value) (h : pd_H) (r : pd_Out × pd_H) : Prop := Rn c 0 (pd_ent (pd_n c) as) [] h r
theorem Rn_eq {mi pc : Nat} {lv st : List Value} {h : pd_H} {r r' : pd_Out × pd_H} (k : Rn mi pc lv st h r) (e : r = r') : Rn mi pc lv st h r' := e ▸ k
theorem Ca_eq {c : Nat} {as : List Value} {h : pd_H} {r r' : pd_Out × pd_H} (k : Ca c as h r) (e : r = r') : Ca c as h r' := e ▸ k
theorem E_in {c : Nat} {as lv : List Value} {h : pd_H} {r : pd_Out × pd_H} (hl : pd_ent (pd_n c) as = lv) (k : Rn c 0 lv [] h r) : Ca c as h r := by
  unfold Ca; rw [hl]; exact k
theorem E_s {mi pc np : Nat} {i : Instr} {lv st : List Value} {h : pd_H} {pc' : Nat} {lv' st' : List Value} {h' : pd_H} {r : pd_Out × pd_H} (f : pd_fetch mi pc = some (i, np)) (ho : pd_op i = 0) (hs : pd_stp np i lv st h = some (pc', lv', st', h')) (k : Rn mi pc' lv' st' h' r) : Rn mi pc lv st h r := by
  obtain ⟨n, e⟩ := k
  refine ⟨n + 1, ?_⟩
  rw [pd_run_succ]
  unfold pd_body
  simp only [f, ho, hs]
  exact e
def ii (z : Int) : Int32 := Int32.ofInt z
def ll (z : Int) : Int64 := Int64.ofInt z
theorem ii_add (a b : Int) : ii a + ii b = ii (a + b) := (Int32.ofInt_add a b).symm
theorem ii_sub (a b : Int) : ii a - ii b = ii (a - b) := (Int32.ofInt_sub a b).symm
theorem ii_mul (a b : Int) : ii a * ii b = ii (a * b) := (Int32.ofInt_mul a b).symm
theorem ii_neg (a : Int) : - ii a = ii (- a) := (Int32.ofInt_neg a).symm
theorem ll_add (a b : Int) : ll a + ll b = ll (a + b) := (Int64.ofInt_add a b).symm
theorem ll_sub (a b : Int) : ll a - ll b = ll (a - b) := (Int64.ofInt_sub a b).symm
theorem ll_mul (a b : Int) : ll a * ll b = ll (a * b) := (Int64.ofInt_mul a b).symm
theorem ll_neg (a : Int) : - ll a = ll (- a) := (Int64.ofInt_neg a).symm
theorem ii_toInt {a : Int} (h : -2147483648 ≤ a ∧ a ≤ 2147483647) : (ii a).toInt = a := Int32.toInt_ofInt_of_le (by omega) (by omega)
theorem ll_toInt {a : Int} (h : -9223372036854775808 ≤ a ∧ a ≤ 9223372036854775807) : (ll a).toInt = a := Int64.toInt_ofInt_of_le (by omega) (by omega)
theorem ii_self (x : Int32) : ii x.toInt = x := Int32.ofInt_toInt x
theorem ll_self (x : Int64) : ll x.toInt = x := Int64.ofInt_toInt x
theorem ii_lt {a b : Int} (ha : -2147483648 ≤ a ∧ a ≤ 2147483647) (hb : -2147483648 ≤ b ∧ b ≤ 2147483647) : ii a < ii b ↔ a < b := by rw [Int32.lt_iff_toInt_lt, ii_toInt ha, ii_toInt hb]
theorem ii_le {a b : Int} (ha : -2147483648 ≤ a ∧ a ≤ 2147483647) (hb : -2147483648 ≤ b ∧ b ≤ 2147483647) : ii a ≤ ii b ↔ a ≤ b := by rw [Int32.le_iff_toInt_le, ii_toInt ha, ii_toInt hb]
theorem ii_eq {a b : Int} (ha : -2147483648 ≤ a ∧ a ≤ 2147483647) (hb : -2147483648 ≤ b ∧ b ≤ 2147483647) : ii a = ii b ↔ a = b := by rw [← Int32.toInt_inj, ii_toInt ha, ii_toInt hb]
theorem ll_lt {a b : Int} (ha : -9223372036854775808 ≤ a ∧ a ≤ 9223372036854775807) (hb : -9223372036854775808 ≤ b ∧ b ≤ 9223372036854775807) : ll a < ll b ↔ a < b := by rw [Int64.lt_iff_toInt_lt, ll_toInt ha, ll_toInt hb]
theorem ll_le {a b : Int} (ha : -9223372036854775808 ≤ a ∧ a ≤ 9223372036854775807) (hb : -9223372036854775808 ≤ b ∧ b ≤ 9223372036854775807) : ll a ≤ ll b ↔ a ≤ b := by rw [Int64.le_iff_toInt_le, ll_toInt ha, ll_toInt hb]
theorem ll_eq {a b : Int} (ha : -9223372036854775808 ≤ a ∧ a ≤ 9223372036854775807) (hb : -9223372036854775808 ≤ b ∧ b ≤ 9223372036854775807) : ll a = ll b ↔ a = b := by rw [← Int64.toInt_inj, ll_toInt ha, ll_toInt hb]
theorem ii_0 : ii 0 = 0 := rfl
theorem ll_0 : ll 0 = 0 := rfl
theorem ii_clamp {a : Int} (h : 0 ≤ a ∧ a ≤ 2147483647) : (ii a).toNatClampNeg = a.toNat := by
  unfold Int32.toNatClampNeg
  rw [ii_toInt ⟨by omega, h.2⟩]
theorem ii_l {a : Int} (h : -2147483648 ≤ a ∧ a ≤ 2147483647) : (ii a).toInt64 = ll a := by
  rw [← Int64.toInt_inj, Int32.toInt_toInt64, ii_toInt h, ll_toInt ⟨by omega, by omega⟩]
theorem ll_i (a : Int) : (ll a).toInt32 = ii a := by
  unfold ll ii
  exact Int64.toInt32_ofInt
-- arrays
def ar (n : Nat) (q : Int → Int) : pd_E := .inl (0, n, .inl (fun k : Nat => ii (q (k : Int))))
def lr (n : Nat) (q : Int → Int) : pd_E := .inl (1, n, .inr (.inl (fun k : Nat => ll (q (k : Int)))))
def br (n : Nat) (q : Int → Int) : pd_E := .inl (2, n, .inl (fun k : Nat => ii (q (k : Int))))
def rr (n : Nat) (q : Int → Nat) : pd_E := .inl (3, n, .inr (.inr (.inr (.inr (fun k : Nat => if k < n then some (q (k : Int)) else none)))))
def sr (n : Nat) (q : Int → Int) : pd_E := .inl (4, n, .inl (fun k : Nat => ii (q (k : Int))))
def ob (ci : Nat) (fs : List Value) : pd_E := .inr (ci, fs)
/-- a changed place -/
def zu (q : Int → Int) (i x : Int) : Int → Int := fun k => if k = i then x else q k
def zcpy (f g : Int → Int) (sp dp n : Int) : Int → Int := fun k => if dp ≤ k ∧ k < dp + n then f (sp + (k - dp)) else g k
theorem zu_s (q : Int → Int) (i x : Int) : zu q i x i = x := by simp [zu]
theorem zu_n (q : Int → Int) {i k : Int} (x : Int) (h : k ≠ i) : zu q i x k = q k := by simp [zu, h]
theorem g_s (h : pd_H) (a : Nat) (c : pd_E) : pd_get (pd_put h a c) a = c := by simp [pd_get, pd_put]
theorem g_n (h : pd_H) {a b : Nat} (c : pd_E) (e : b ≠ a) : pd_get (pd_put h a c) b = pd_get h b := by simp [pd_get, pd_put, e]
theorem g_t (h : pd_H) (a : Nat) : pd_get (pd_thr h) a = pd_get h a := rfl
theorem zu_upd (q : Int → Int) {i : Int} (x : Int) (h : 0 ≤ i) : upd (fun k : Nat => ii (q (k : Int))) i.toNat (ii x) = fun k : Nat => ii (zu q i x (k : Int)) := by
  funext k
  unfold upd zu
  by_cases e : (k : Int) = i
  · rw [if_pos e, if_pos (by omega)]
  · rw [if_neg e, if_neg (by omega)]
theorem zu_updL (q : Int → Int) {i : Int} (x : Int) (h : 0 ≤ i) : vp_updL (fun k : Nat => ll (q (k : Int))) i.toNat (ll x) = fun k : Nat => ll (zu q i x (k : Int)) := by
  funext k
  unfold vp_updL zu
  by_cases e : (k : Int) = i
  · rw [if_pos e, if_pos (by omega)]
  · rw [if_neg e, if_neg (by omega)]
theorem lg_ll {a b : Int} (ha : -9223372036854775808 ≤ a ∧ a ≤ 9223372036854775807) (hb : -9223372036854775808 ≤ b ∧ b ≤ 9223372036854775807) : lg_cmp (ll a) (ll b) = if b < a then 1 else if a = b then 0 else -1 := by
  unfold lg_cmp
  simp only [gt_iff_lt, ll_lt hb ha, ll_eq ha hb]
section PDR
variable {mi pc np : Nat} {lv lv' st : List Value} {h : pd_H} {r : pd_Out × pd_H}
theorem E_iconst {n : Int} (f : pd_fetch mi pc = some (.iconst n, np)) (k : Rn mi np lv (.int (ii n) :: st) h r) : Rn mi pc lv st h r := E_s f rfl rfl k
theorem E_lconst {n : Int} (f : pd_fetch mi pc = some (.jsr n, np)) (k : Rn mi np lv (.long (ll n) :: st) h r) : Rn mi pc lv st h r := E_s f rfl rfl k
theorem E_iload {i : Nat} {x : Int32} (f : pd_fetch mi pc = some (.iload i, np)) (e : lv[i]? = some (.int x)) (k : Rn mi np lv (.int x :: st) h r) : Rn mi pc lv st h r := E_s f rfl (by simp only [pd_stp, e]) k
theorem E_lload {i : Nat} {x : Int64} (f : pd_fetch mi pc = some (.lload i, np)) (e : lv[i]? = some (.long x)) (k : Rn mi np lv (.long x :: st) h r) : Rn mi pc lv st h r := E_s f rfl (by simp only [pd_stp, e]) k
theorem E_aload {i : Nat} {x : Nat} (f : pd_fetch mi pc = some (.aload i, np)) (e : lv[i]? = some (.ref x)) (k : Rn mi np lv (.ref x :: st) h r) : Rn mi pc lv st h r := E_s f rfl (by simp only [pd_stp, e]) k
theorem E_istore {i : Nat} {x : Int32} (f : pd_fetch mi pc = some (.istore i, np)) (hk : Nat.blt i lv.length = true) (e : pd_s1 lv i (.int x) = lv') (k : Rn mi np lv' st h r) : Rn mi pc lv (.int x :: st) h r := E_s f rfl (by simp only [pd_stp]; rw [if_pos (show _ < _ from Nat.le_of_ble_eq_true hk), e]) k
theorem E_lstore {i : Nat} {x : Int64} (f : pd_fetch mi pc = some (.lstore i, np)) (hk : Nat.blt (i + 1) lv.length = true) (e : pd_s2 lv i (.long x) = lv') (k : Rn mi np lv' st h r) : Rn mi pc lv (.long x :: st) h r := E_s f rfl (by simp only [pd_stp]; rw [if_pos (show _ < _ from Nat.le_of_ble_eq_true hk), e]) k
theorem E_astore {i : Nat} {x : Nat} (f : pd_fetch mi pc = some (.astore i, np)) (hk : Nat.blt i lv.length = true) (e : pd_s1 lv i (.ref x) = lv') (k : Rn mi np lv' st h r) : Rn mi pc lv (.ref x :: st) h r := E_s f rfl (by simp only [pd_stp]; rw [if_pos (show _ < _ from Nat.le_of_ble_eq_true hk), e]) k
theorem E_iinc {i : Nat} {n a : Int} (f : pd_fetch mi pc = some (.iinc i n, np)) (e1 : lv[i]? = some (.int (ii a))) (e : pd_s1 lv i (.int (ii (a + n))) = lv') (k : Rn mi np lv' st h r) : Rn mi pc lv st h r := E_s f rfl (by simp only [pd_stp, e1]; rw [← e, ← ii_add]; rfl) k
theorem E_goto {t : Nat} (f : pd_fetch mi pc = some (.goto (Int.ofNat t), np)) (k : Rn mi t lv st h r) : Rn mi pc lv st h r := E_s f rfl rfl k
theorem E_iadd {a b : Int} (f : pd_fetch mi pc = some (.iadd, np)) (k : Rn mi np lv (.int (ii (a + b)) :: st) h r) : Rn mi pc lv (.int (ii b) :: .int (ii a) :: st) h r := E_s f rfl (by simp only [pd_stp, pd_bin, ii_add, Option.map_some]) k
theorem E_ladd {a b : Int} (f : pd_fetch mi pc = some (.ladd, np)) (k : Rn mi np lv (.long (ll (a + b)) :: st) h r) : Rn mi pc lv (.long (ll b) :: .long (ll a) :: st) h r := E_s f rfl (by simp only [pd_stp, pd_binL, ll_add, Option.map_some]) k
theorem E_isub {a b : Int} (f : pd_fetch mi pc = some (.isub, np)) (k : Rn mi np lv (.int (ii (a - b)) :: st) h r) : Rn mi pc lv (.int (ii b) :: .int (ii a) :: st) h r := E_s f rfl (by simp only [pd_stp, pd_bin, ii_sub, Option.map_some]) k
theorem E_lsub {a b : Int} (f : pd_fetch mi pc = some (.lsub, np)) (k : Rn mi np lv (.long (ll (a - b)) :: st) h r) : Rn mi pc lv (.long (ll b) :: .long (ll a) :: st) h r := E_s f rfl (by simp only [pd_stp, pd_binL, ll_sub, Option.map_some]) k
theorem E_imul {a b : Int} (f : pd_fetch mi pc = some (.imul, np)) (k : Rn mi np lv (.int (ii (a * b)) :: st) h r) : Rn mi pc lv (.int (ii b) :: .int (ii a) :: st) h r := E_s f rfl (by simp only [pd_stp, pd_bin, ii_mul, Option.map_some]) k
theorem E_lmul {a b : Int} (f : pd_fetch mi pc = some (.lmul, np)) (k : Rn mi np lv (.long (ll (a * b)) :: st) h r) : Rn mi pc lv (.long (ll b) :: .long (ll a) :: st) h r := E_s f rfl (by simp only [pd_stp, pd_binL, ll_mul, Option.map_some]) k
theorem E_ineg {a : Int} (f : pd_fetch mi pc = some (.ineg, np)) (k : Rn mi np lv (.int (ii (-a)) :: st) h r) : Rn mi pc lv (.int (ii a) :: st) h r := E_s f rfl (by simp only [pd_stp, ii_neg]) k
theorem E_lneg {a : Int} (f : pd_fetch mi pc = some (.lneg, np)) (k : Rn mi np lv (.long (ll (-a)) :: st) h r) : Rn mi pc lv (.long (ll a) :: st) h r := E_s f rfl (by simp only [pd_stp, ll_neg]) k
theorem E_i2l {a : Int} (f : pd_fetch mi pc = some (.i2l, np)) (e : -2147483648 ≤ a ∧ a ≤ 2147483647) (k : Rn mi np lv (.long (ll a) :: st) h r) : Rn mi pc lv (.int (ii a) :: st) h r := E_s f rfl (by simp only [pd_stp, ii_l e]) k
theorem E_l2i {a : Int} (f : pd_fetch mi pc = some (.l2i, np)) (k : Rn mi np lv (.int (ii a) :: st) h r) : Rn mi pc lv (.long (ll a) :: st) h r := E_s f rfl (by simp only [pd_stp, ll_i]) k
theorem E_dup {v : Value} (f : pd_fetch mi pc = some (.dup, np)) (e : v.category = 1) (k : Rn mi np lv (v :: v :: st) h r) : Rn mi pc lv (v :: st) h r := E_s f rfl (by simp only [pd_stp, e, if_true]) k
theorem E_pop {v : Value} (f : pd_fetch mi pc = some (.pop, np)) (e : v.category = 1) (k : Rn mi np lv st h r) : Rn mi pc lv (v :: st) h r := E_s f rfl (by simp only [pd_stp, e, if_true]) k
theorem E_dup2 {v u : Value} (f : pd_fetch mi pc = some (.dup2, np)) (e : v.category = 1) (e2 : u.category = 1) (k : Rn mi np lv (v :: u :: v :: u :: st) h r) : Rn mi pc lv (v :: u :: st) h r := E_s f rfl (by simp only [pd_stp, e, e2, and_self, if_true]) k
theorem E_icmp_eq_t {a b : Int} {t : Nat} (f : pd_fetch mi pc = some (.if_icmp .eq (Int.ofNat t), np)) (e : (-2147483648 ≤ a ∧ a ≤ 2147483647) ∧ (-2147483648 ≤ b ∧ b ≤ 2147483647) ∧ a = b) (k : Rn mi t lv st h r) : Rn mi pc lv (.int (ii b) :: .int (ii a) :: st) h r := by
  obtain ⟨ha, hb, hc⟩ := e
  refine E_s f rfl ?_ k
  have h1 : pd_cnd .eq (ii a) (ii b) = true := by
    unfold pd_cnd
    exact decide_eq_true (by rw [ii_eq ha hb]; omega)
  simp only [pd_stp, h1, if_true, Bool.false_eq_true, if_false]
  try rfl
theorem E_if_eq_t {a : Int} {t : Nat} (f : pd_fetch mi pc = some (.ifCond .eq (Int.ofNat t), np)) (e : (-2147483648 ≤ a ∧ a ≤ 2147483647) ∧ a = 0) (k : Rn mi t lv st h r) : Rn mi pc lv (.int (ii a) :: st) h r := by
  obtain ⟨ha, hc⟩ := e
  have hb : (-2147483648 : Int) ≤ 0 ∧ (0 : Int) ≤ 2147483647 := by omega
  refine E_s f rfl ?_ k
  have h1 : pd_cnd .eq (ii a) 0 = true := by
    unfold pd_cnd
    exact decide_eq_true (by rw [← ii_0, ii_eq ha hb]; omega)
  simp only [pd_stp, h1, if_true, Bool.false_eq_true, if_false]
  try rfl
theorem E_lcmp_eq_t {a b : Int} {p1 t : Nat} (g : pd_fetch mi pc = some (.lcmp, p1)) (f : pd_fetch mi p1 = some (.ifCond .eq (Int.ofNat t), np)) (e : (-9223372036854775808 ≤ a ∧ a ≤ 9223372036854775807) ∧ (-9223372036854775808 ≤ b ∧ b ≤ 9223372036854775807) ∧ a = b) (k : Rn mi t lv st h r) : Rn mi pc lv (.long (ll b) :: .long (ll a) :: st) h r := by
  obtain ⟨ha, hb, hc⟩ := e
  refine E_s g rfl rfl (E_s f rfl ?_ k)
  have h1 : pd_cnd .eq (lg_cmp (ll a) (ll b)) 0 = true := by
    unfold pd_cnd
    rw [lg_ll ha hb]
    rcases Int.lt_trichotomy a b with q | q | q
    · rw [if_neg (by omega), if_neg (by omega)]; first | rfl | (exfalso; omega)
    · rw [if_neg (by omega), if_pos q]; first | rfl | (exfalso; omega)
    · rw [if_pos q]; first | rfl | (exfalso; omega)
  simp only [pd_stp, h1, if_true, Bool.false_eq_true, if_false]
  try rfl
theorem E_icmp_eq_f {a b : Int} {t : Nat} (f : pd_fetch mi pc = some (.if_icmp .eq (Int.ofNat t), np)) (e : (-2147483648 ≤ a ∧ a ≤ 2147483647) ∧ (-2147483648 ≤ b ∧ b ≤ 2147483647) ∧ ¬ a = b) (k : Rn mi np lv st h r) : Rn mi pc lv (.int (ii b) :: .int (ii a) :: st) h r := by
  obtain ⟨ha, hb, hc⟩ := e
  refine E_s f rfl ?_ k
  have h1 : pd_cnd .eq (ii a) (ii b) = false := by
    unfold pd_cnd
    exact decide_eq_false (by rw [ii_eq ha hb]; omega)
  simp only [pd_stp, h1, if_true, Bool.false_eq_true, if_false]
  try rfl
theorem E_if_eq_f {a : Int} {t : Nat} (f : pd_fetch mi pc = some (.ifCond .eq (Int.ofNat t), np)) (e : (-2147483648 ≤ a ∧ a ≤ 2147483647) ∧ ¬ a = 0) (k : Rn mi np lv st h r) : Rn mi pc lv (.int (ii a) :: st) h r := by
  obtain ⟨ha, hc⟩ := e
  have hb : (-2147483648 : Int) ≤ 0 ∧ (0 : Int) ≤ 2147483647 := by omega
  refine E_s f rfl ?_ k
  have h1 : pd_cnd .eq (ii a) 0 = false := by
    unfold pd_cnd
    exact decide_eq_false (by rw [← ii_0, ii_eq ha hb]; omega)
  simp only [pd_stp, h1, if_true, Bool.false_eq_true, if_false]
  try rfl
theorem E_lcmp_eq_f {a b : Int} {p1 t : Nat} (g : pd_fetch mi pc = some (.lcmp, p1)) (f : pd_fetch mi p1 = some (.ifCond .eq (Int.ofNat t), np)) (e : (-9223372036854775808 ≤ a ∧ a ≤ 9223372036854775807) ∧ (-9223372036854775808 ≤ b ∧ b ≤ 9223372036854775807) ∧ ¬ a = b) (k : Rn mi np lv st h r) : Rn mi pc lv (.long (ll b) :: .long (ll a) :: st) h r := by
  obtain ⟨ha, hb, hc⟩ := e
  refine E_s g rfl rfl (E_s f rfl ?_ k)
  have h1 : pd_cnd .eq (lg_cmp (ll a) (ll b)) 0 = false := by
    unfold pd_cnd
    rw [lg_ll ha hb]
    rcases Int.lt_trichotomy a b with q | q | q
    · rw [if_neg (by omega), if_neg (by omega)]; first | rfl | (exfalso; omega)
    · rw [if_neg (by omega), if_pos q]; first | rfl | (exfalso; omega)
    · rw [if_pos q]; first | rfl | (exfalso; omega)
  simp only [pd_stp, h1, if_true, Bool.false_eq_true, if_false]
  try rfl
theorem E_icmp_ne_t {a b : Int} {t : Nat} (f : pd_fetch mi pc = some (.if_icmp .ne (Int.ofNat t), np)) (e : (-2147483648 ≤ a ∧ a ≤ 2147483647) ∧ (-2147483648 ≤ b ∧ b ≤ 2147483647) ∧ ¬ a = b) (k : Rn mi t lv st h r) : Rn mi pc lv (.int (ii b) :: .int (ii a) :: st) h r := by
  obtain ⟨ha, hb, hc⟩ := e
  refine E_s f rfl ?_ k
  have h1 : pd_cnd .ne (ii a) (ii b) = true := by
    unfold pd_cnd
    exact decide_eq_true (by rw [ii_eq ha hb]; omega)
  simp only [pd_stp, h1, if_true, Bool.false_eq_true, if_false]
  try rfl
theorem E_if_ne_t {a : Int} {t : Nat} (f : pd_fetch mi pc = some (.ifCond .ne (Int.ofNat t), np)) (e : (-2147483648 ≤ a ∧ a ≤ 2147483647) ∧ ¬ a = 0) (k : Rn mi t lv st h r) : Rn mi pc lv (.int (ii a) :: st) h r := by
  obtain ⟨ha, hc⟩ := e
  have hb : (-2147483648 : Int) ≤ 0 ∧ (0 : Int) ≤ 2147483647 := by omega
  refine E_s f rfl ?_ k
  have h1 : pd_cnd .ne (ii a) 0 = true := by
    unfold pd_cnd
    exact decide_eq_true (by rw [← ii_0, ii_eq ha hb]; omega)
  simp only [pd_stp, h1, if_true, Bool.false_eq_true, if_false]
  try rfl
theorem E_lcmp_ne_t {a b : Int} {p1 t : Nat} (g : pd_fetch mi pc = some (.lcmp, p1)) (f : pd_fetch mi p1 = some (.ifCond .ne (Int.ofNat t), np)) (e : (-9223372036854775808 ≤ a ∧ a ≤ 9223372036854775807) ∧ (-9223372036854775808 ≤ b ∧ b ≤ 9223372036854775807) ∧ ¬ a = b) (k : Rn mi t lv st h r) : Rn mi pc lv (.long (ll b) :: .long (ll a) :: st) h r := by
  obtain ⟨ha, hb, hc⟩ := e
  refine E_s g rfl rfl (E_s f rfl ?_ k)
  have h1 : pd_cnd .ne (lg_cmp (ll a) (ll b)) 0 = true := by
    unfold pd_cnd
    rw [lg_ll ha hb]
    rcases Int.lt_trichotomy a b with q | q | q
    · rw [if_neg (by omega), if_neg (by omega)]; first | rfl | (exfalso; omega)
    · rw [if_neg (by omega), if_pos q]; first | rfl | (exfalso; omega)
    · rw [if_pos q]; first | rfl | (exfalso; omega)
  simp only [pd_stp, h1, if_true, Bool.false_eq_true, if_false]
  try rfl
theorem E_icmp_ne_f {a b : Int} {t : Nat} (f : pd_fetch mi pc = some (.if_icmp .ne (Int.ofNat t), np)) (e : (-2147483648 ≤ a ∧ a ≤ 2147483647) ∧ (-2147483648 ≤ b ∧ b ≤ 2147483647) ∧ a = b) (k : Rn mi np lv st h r) : Rn mi pc lv (.int (ii b) :: .int (ii a) :: st) h r := by
  obtain ⟨ha, hb, hc⟩ := e
  refine E_s f rfl ?_ k
  have h1 : pd_cnd .ne (ii a) (ii b) = false := by
    unfold pd_cnd
    exact decide_eq_false (by rw [ii_eq ha hb]; omega)
  simp only [pd_stp, h1, if_true, Bool.false_eq_true, if_false]
  try rfl
theorem E_if_ne_f {a : Int} {t : Nat} (f : pd_fetch mi pc = some (.ifCond .ne (Int.ofNat t), np)) (e : (-2147483648 ≤ a ∧ a ≤ 2147483647) ∧ a = 0) (k : Rn mi np lv st h r) : Rn mi pc lv (.int (ii a) :: st) h r := by
  obtain ⟨ha, hc⟩ := e
  have hb : (-2147483648 : Int) ≤ 0 ∧ (0 : Int) ≤ 2147483647 := by omega
  refine E_s f rfl ?_ k
  have h1 : pd_cnd .ne (ii a) 0 = false := by
    unfold pd_cnd
    exact decide_eq_false (by rw [← ii_0, ii_eq ha hb]; omega)
  simp only [pd_stp, h1, if_true, Bool.false_eq_true, if_false]
  try rfl
theorem E_lcmp_ne_f {a b : Int} {p1 t : Nat} (g : pd_fetch mi pc = some (.lcmp, p1)) (f : pd_fetch mi p1 = some (.ifCond .ne (Int.ofNat t), np)) (e : (-9223372036854775808 ≤ a ∧ a ≤ 9223372036854775807) ∧ (-9223372036854775808 ≤ b ∧ b ≤ 9223372036854775807) ∧ a = b) (k : Rn mi np lv st h r) : Rn mi pc lv (.long (ll b) :: .long (ll a) :: st) h r := by
  obtain ⟨ha, hb, hc⟩ := e
  refine E_s g rfl rfl (E_s f rfl ?_ k)
  have h1 : pd_cnd .ne (lg_cmp (ll a) (ll b)) 0 = false := by
    unfold pd_cnd
    rw [lg_ll ha hb]
    rcases Int.lt_trichotomy a b with q | q | q
    · rw [if_neg (by omega), if_neg (by omega)]; first | rfl | (exfalso; omega)
    · rw [if_neg (by omega), if_pos q]; first | rfl | (exfalso; omega)
    · rw [if_pos q]; first | rfl | (exfalso; omega)
  simp only [pd_stp, h1, if_true, Bool.false_eq_true, if_false]
  try rfl
theorem E_icmp_lt_t {a b : Int} {t : Nat} (f : pd_fetch mi pc = some (.if_icmp .lt (Int.ofNat t), np)) (e : (-2147483648 ≤ a ∧ a ≤ 2147483647) ∧ (-2147483648 ≤ b ∧ b ≤ 2147483647) ∧ a < b) (k : Rn mi t lv st h r) : Rn mi pc lv (.int (ii b) :: .int (ii a) :: st) h r := by
  obtain ⟨ha, hb, hc⟩ := e
  refine E_s f rfl ?_ k
  have h1 : pd_cnd .lt (ii a) (ii b) = true := by
    unfold pd_cnd
    exact decide_eq_true (by rw [ii_lt ha hb]; omega)
  simp only [pd_stp, h1, if_true, Bool.false_eq_true, if_false]
  try rfl
theorem E_if_lt_t {a : Int} {t : Nat} (f : pd_fetch mi pc = some (.ifCond .lt (Int.ofNat t), np)) (e : (-2147483648 ≤ a ∧ a ≤ 2147483647) ∧ a < 0) (k : Rn mi t lv st h r) : Rn mi pc lv (.int (ii a) :: st) h r := by
  obtain ⟨ha, hc⟩ := e
  have hb : (-2147483648 : Int) ≤ 0 ∧ (0 : Int) ≤ 2147483647 := by omega
  refine E_s f rfl ?_ k
  have h1 : pd_cnd .lt (ii a) 0 = true := by
    unfold pd_cnd
    exact decide_eq_true (by rw [← ii_0, ii_lt ha hb]; omega)
  simp only [pd_stp, h1, if_true, Bool.false_eq_true, if_false]
  try rfl
theorem E_lcmp_lt_t {a b : Int} {p1 t : Nat} (g : pd_fetch mi pc = some (.lcmp, p1)) (f : pd_fetch mi p1 = some (.ifCond .lt (Int.ofNat t), np)) (e : (-9223372036854775808 ≤ a ∧ a ≤ 9223372036854775807) ∧ (-9223372036854775808 ≤ b ∧ b ≤ 9223372036854775807) ∧ a < b) (k : Rn mi t lv st h r) : Rn mi pc lv (.long (ll b) :: .long (ll a) :: st) h r := by
  obtain ⟨ha, hb, hc⟩ := e
  refine E_s g rfl rfl (E_s f rfl ?_ k)
  have h1 : pd_cnd .lt (lg_cmp (ll a) (ll b)) 0 = true := by
    unfold pd_cnd
    rw [lg_ll ha hb]
    rcases Int.lt_trichotomy a b with q | q | q
    · rw [if_neg (by omega), if_neg (by omega)]; first | rfl | (exfalso; omega)
    · rw [if_neg (by omega), if_pos q]; first | rfl | (exfalso; omega)
    · rw [if_pos q]; first | rfl | (exfalso; omega)
  simp only [pd_stp, h1, if_true, Bool.false_eq_true, if_false]
  try rfl
theorem E_icmp_lt_f {a b : Int} {t : Nat} (f : pd_fetch mi pc = some (.if_icmp .lt (Int.ofNat t), np)) (e : (-2147483648 ≤ a ∧ a ≤ 2147483647) ∧ (-2147483648 ≤ b ∧ b ≤ 2147483647) ∧ b ≤ a) (k : Rn mi np lv st h r) : Rn mi pc lv (.int (ii b) :: .int (ii a) :: st) h r := by
  obtain ⟨ha, hb, hc⟩ := e
  refine E_s f rfl ?_ k
  have h1 : pd_cnd .lt (ii a) (ii b) = false := by
    unfold pd_cnd
    exact decide_eq_false (by rw [ii_lt ha hb]; omega)
  simp only [pd_stp, h1, if_true, Bool.false_eq_true, if_false]
  try rfl
theorem E_if_lt_f {a : Int} {t : Nat} (f : pd_fetch mi pc = some (.ifCond .lt (Int.ofNat t), np)) (e : (-2147483648 ≤ a ∧ a ≤ 2147483647) ∧ 0 ≤ a) (k : Rn mi np lv st h r) : Rn mi pc lv (.int (ii a) :: st) h r := by
  obtain ⟨ha, hc⟩ := e
  have hb : (-2147483648 : Int) ≤ 0 ∧ (0 : Int) ≤ 2147483647 := by omega
  refine E_s f rfl ?_ k
  have h1 : pd_cnd .lt (ii a) 0 = false := by
    unfold pd_cnd
    exact decide_eq_false (by rw [← ii_0, ii_lt ha hb]; omega)
  simp only [pd_stp, h1, if_true, Bool.false_eq_true, if_false]
  try rfl
theorem E_lcmp_lt_f {a b : Int} {p1 t : Nat} (g : pd_fetch mi pc = some (.lcmp, p1)) (f : pd_fetch mi p1 = some (.ifCond .lt (Int.ofNat t), np)) (e : (-9223372036854775808 ≤ a ∧ a ≤ 9223372036854775807) ∧ (-9223372036854775808 ≤ b ∧ b ≤ 9223372036854775807) ∧ b ≤ a) (k : Rn mi np lv st h r) : Rn mi pc lv (.long (ll b) :: .long (ll a) :: st) h r := by
  obtain ⟨ha, hb, hc⟩ := e
  refine E_s g rfl rfl (E_s f rfl ?_ k)
  have h1 : pd_cnd .lt (lg_cmp (ll a) (ll b)) 0 = false := by
    unfold pd_cnd
    rw [lg_ll ha hb]
    rcases Int.lt_trichotomy a b with q | q | q
    · rw [if_neg (by omega), if_neg (by omega)]; first | rfl | (exfalso; omega)
    · rw [if_neg (by omega), if_pos q]; first | rfl | (exfalso; omega)
    · rw [if_pos q]; first | rfl | (exfalso; omega)
  simp only [pd_stp, h1, if_true, Bool.false_eq_true, if_false]
  try rfl
theorem E_icmp_ge_t {a b : Int} {t : Nat} (f : pd_fetch mi pc = some (.if_icmp .ge (Int.ofNat t), np)) (e : (-2147483648 ≤ a ∧ a ≤ 2147483647) ∧ (-2147483648 ≤ b ∧ b ≤ 2147483647) ∧ b ≤ a) (k : Rn mi t lv st h r) : Rn mi pc lv (.int (ii b) :: .int (ii a) :: st) h r := by
  obtain ⟨ha, hb, hc⟩ := e
  refine E_s f rfl ?_ k
  have h1 : pd_cnd .ge (ii a) (ii b) = true := by
    unfold pd_cnd
    exact decide_eq_true (by rw [ii_le hb ha]; omega)
  simp only [pd_stp, h1, if_true, Bool.false_eq_true, if_false]
  try rfl
theorem E_if_ge_t {a : Int} {t : Nat} (f : pd_fetch mi pc = some (.ifCond .ge (Int.ofNat t), np)) (e : (-2147483648 ≤ a ∧ a ≤ 2147483647) ∧ 0 ≤ a) (k : Rn mi t lv st h r) : Rn mi pc lv (.int (ii a) :: st) h r := by
  obtain ⟨ha, hc⟩ := e
  have hb : (-2147483648 : Int) ≤ 0 ∧ (0 : Int) ≤ 2147483647 := by omega
  refine E_s f rfl ?_ k
  have h1 : pd_cnd .ge (ii a) 0 = true := by
    unfold pd_cnd
    exact decide_eq_true (by rw [← ii_0, ii_le hb ha]; omega)
  simp only [pd_stp, h1, if_true, Bool.false_eq_true, if_false]
  try rfl
theorem E_lcmp_ge_t {a b : Int} {p1 t : Nat} (g : pd_fetch mi pc = some (.lcmp, p1)) (f : pd_fetch mi p1 = some (.ifCond .ge (Int.ofNat t), np)) (e : (-9223372036854775808 ≤ a ∧ a ≤ 9223372036854775807) ∧ (-9223372036854775808 ≤ b ∧ b ≤ 9223372036854775807) ∧ b ≤ a) (k : Rn mi t lv st h r) : Rn mi pc lv (.long (ll b) :: .long (ll a) :: st) h r := by
  obtain ⟨ha, hb, hc⟩ := e
  refine E_s g rfl rfl (E_s f rfl ?_ k)
  have h1 : pd_cnd .ge (lg_cmp (ll a) (ll b)) 0 = true := by
    unfold pd_cnd
    rw [lg_ll ha hb]
    rcases Int.lt_trichotomy a b with q | q | q
    · rw [if_neg (by omega), if_neg (by omega)]; first | rfl | (exfalso; omega)
    · rw [if_neg (by omega), if_pos q]; first | rfl | (exfalso; omega)
    · rw [if_pos q]; first | rfl | (exfalso; omega)
  simp only [pd_stp, h1, if_true, Bool.false_eq_true, if_false]
  try rfl
theorem E_icmp_ge_f {a b : Int} {t : Nat} (f : pd_fetch mi pc = some (.if_icmp .ge (Int.ofNat t), np)) (e : (-2147483648 ≤ a ∧ a ≤ 2147483647) ∧ (-2147483648 ≤ b ∧ b ≤ 2147483647) ∧ a < b) (k : Rn mi np lv st h r) : Rn mi pc lv (.int (ii b) :: .int (ii a) :: st) h r := by
  obtain ⟨ha, hb, hc⟩ := e
  refine E_s f rfl ?_ k
  have h1 : pd_cnd .ge (ii a) (ii b) = false := by
    unfold pd_cnd
    exact decide_eq_false (by rw [ii_le hb ha]; omega)
  simp only [pd_stp, h1, if_true, Bool.false_eq_true, if_false]
  try rfl
theorem E_if_ge_f {a : Int} {t : Nat} (f : pd_fetch mi pc = some (.ifCond .ge (Int.ofNat t), np)) (e : (-2147483648 ≤ a ∧ a ≤ 2147483647) ∧ a < 0) (k : Rn mi np lv st h r) : Rn mi pc lv (.int (ii a) :: st) h r := by
  obtain ⟨ha, hc⟩ := e
  have hb : (-2147483648 : Int) ≤ 0 ∧ (0 : Int) ≤ 2147483647 := by omega
  refine E_s f rfl ?_ k
  have h1 : pd_cnd .ge (ii a) 0 = false := by
    unfold pd_cnd
    exact decide_eq_false (by rw [← ii_0, ii_le hb ha]; omega)
  simp only [pd_stp, h1, if_true, Bool.false_eq_true, if_false]
  try rfl
theorem E_lcmp_ge_f {a b : Int} {p1 t : Nat} (g : pd_fetch mi pc = some (.lcmp, p1)) (f : pd_fetch mi p1 = some (.ifCond .ge (Int.ofNat t), np)) (e : (-9223372036854775808 ≤ a ∧ a ≤ 9223372036854775807) ∧ (-9223372036854775808 ≤ b ∧ b ≤ 9223372036854775807) ∧ a < b) (k : Rn mi np lv st h r) : Rn mi pc lv (.long (ll b) :: .long (ll a) :: st) h r := by
  obtain ⟨ha, hb, hc⟩ := e
  refine E_s g rfl rfl (E_s f rfl ?_ k)
  have h1 : pd_cnd .ge (lg_cmp (ll a) (ll b)) 0 = false := by
    unfold pd_cnd
    rw [lg_ll ha hb]
    rcases Int.lt_trichotomy a b with q | q | q
    · rw [if_neg (by omega), if_neg (by omega)]; first | rfl | (exfalso; omega)
    · rw [if_neg (by omega), if_pos q]; first | rfl | (exfalso; omega)
    · rw [if_pos q]; first | rfl | (exfalso; omega)
  simp only [pd_stp, h1, if_true, Bool.false_eq_true, if_false]
  try rfl
theorem E_icmp_gt_t {a b : Int} {t : Nat} (f : pd_fetch mi pc = some (.if_icmp .gt (Int.ofNat t), np)) (e : (-2147483648 ≤ a ∧ a ≤ 2147483647) ∧ (-2147483648 ≤ b ∧ b ≤ 2147483647) ∧ b < a) (k : Rn mi t lv st h r) : Rn mi pc lv (.int (ii b) :: .int (ii a) :: st) h r := by
  obtain ⟨ha, hb, hc⟩ := e
  refine E_s f rfl ?_ k
  have h1 : pd_cnd .gt (ii a) (ii b) = true := by
    unfold pd_cnd
    exact decide_eq_true (by rw [ii_lt hb ha]; omega)
  simp only [pd_stp, h1, if_true, Bool.false_eq_true, if_false]
  try rfl
theorem E_if_gt_t {a : Int} {t : Nat} (f : pd_fetch mi pc = some (.ifCond .gt (Int.ofNat t), np)) (e : (-2147483648 ≤ a ∧ a ≤ 2147483647) ∧ 0 < a) (k : Rn mi t lv st h r) : Rn mi pc lv (.int (ii a) :: st) h r := by
  obtain ⟨ha, hc⟩ := e
  have hb : (-2147483648 : Int) ≤ 0 ∧ (0 : Int) ≤ 2147483647 := by omega
  refine E_s f rfl ?_ k
  have h1 : pd_cnd .gt (ii a) 0 = true := by
    unfold pd_cnd
    exact decide_eq_true (by rw [← ii_0, ii_lt hb ha]; omega)
  simp only [pd_stp, h1, if_true, Bool.false_eq_true, if_false]
  try rfl
theorem E_lcmp_gt_t {a b : Int} {p1 t : Nat} (g : pd_fetch mi pc = some (.lcmp, p1)) (f : pd_fetch mi p1 = some (.ifCond .gt (Int.ofNat t), np)) (e : (-9223372036854775808 ≤ a ∧ a ≤ 9223372036854775807) ∧ (-9223372036854775808 ≤ b ∧ b ≤ 9223372036854775807) ∧ b < a) (k : Rn mi t lv st h r) : Rn mi pc lv (.long (ll b) :: .long (ll a) :: st) h r := by
  obtain ⟨ha, hb, hc⟩ := e
  refine E_s g rfl rfl (E_s f rfl ?_ k)
  have h1 : pd_cnd .gt (lg_cmp (ll a) (ll b)) 0 = true := by
    unfold pd_cnd
    rw [lg_ll ha hb]
    rcases Int.lt_trichotomy a b with q | q | q
    · rw [if_neg (by omega), if_neg (by omega)]; first | rfl | (exfalso; omega)
    · rw [if_neg (by omega), if_pos q]; first | rfl | (exfalso; omega)
    · rw [if_pos q]; first | rfl | (exfalso; omega)
  simp only [pd_stp, h1, if_true, Bool.false_eq_true, if_false]
  try rfl
theorem E_icmp_gt_f {a b : Int} {t : Nat} (f : pd_fetch mi pc = some (.if_icmp .gt (Int.ofNat t), np)) (e : (-2147483648 ≤ a ∧ a ≤ 2147483647) ∧ (-2147483648 ≤ b ∧ b ≤ 2147483647) ∧ a ≤ b) (k : Rn mi np lv st h r) : Rn mi pc lv (.int (ii b) :: .int (ii a) :: st) h r := by
  obtain ⟨ha, hb, hc⟩ := e
  refine E_s f rfl ?_ k
  have h1 : pd_cnd .gt (ii a) (ii b) = false := by
    unfold pd_cnd
    exact decide_eq_false (by rw [ii_lt hb ha]; omega)
  simp only [pd_stp, h1, if_true, Bool.false_eq_true, if_false]
  try rfl
theorem E_if_gt_f {a : Int} {t : Nat} (f : pd_fetch mi pc = some (.ifCond .gt (Int.ofNat t), np)) (e : (-2147483648 ≤ a ∧ a ≤ 2147483647) ∧ a ≤ 0) (k : Rn mi np lv st h r) : Rn mi pc lv (.int (ii a) :: st) h r := by
  obtain ⟨ha, hc⟩ := e
  have hb : (-2147483648 : Int) ≤ 0 ∧ (0 : Int) ≤ 2147483647 := by omega
  refine E_s f rfl ?_ k
  have h1 : pd_cnd .gt (ii a) 0 = false := by
    unfold pd_cnd
    exact decide_eq_false (by rw [← ii_0, ii_lt hb ha]; omega)
  simp only [pd_stp, h1, if_true, Bool.false_eq_true, if_false]
  try rfl
theorem E_lcmp_gt_f {a b : Int} {p1 t : Nat} (g : pd_fetch mi pc = some (.lcmp, p1)) (f : pd_fetch mi p1 = some (.ifCond .gt (Int.ofNat t), np)) (e : (-9223372036854775808 ≤ a ∧ a ≤ 9223372036854775807) ∧ (-9223372036854775808 ≤ b ∧ b ≤ 9223372036854775807) ∧ a ≤ b) (k : Rn mi np lv st h r) : Rn mi pc lv (.long (ll b) :: .long (ll a) :: st) h r := by
  obtain ⟨ha, hb, hc⟩ := e
  refine E_s g rfl rfl (E_s f rfl ?_ k)
  have h1 : pd_cnd .gt (lg_cmp (ll a) (ll b)) 0 = false := by
    unfold pd_cnd
    rw [lg_ll ha hb]
    rcases Int.lt_trichotomy a b with q | q | q
    · rw [if_neg (by omega), if_neg (by omega)]; first | rfl | (exfalso; omega)
    · rw [if_neg (by omega), if_pos q]; first | rfl | (exfalso; omega)
    · rw [if_pos q]; first | rfl | (exfalso; omega)
  simp only [pd_stp, h1, if_true, Bool.false_eq_true, if_false]
  try rfl
theorem E_icmp_le_t {a b : Int} {t : Nat} (f : pd_fetch mi pc = some (.if_icmp .le (Int.ofNat t), np)) (e : (-2147483648 ≤ a ∧ a ≤ 2147483647) ∧ (-2147483648 ≤ b ∧ b ≤ 2147483647) ∧ a ≤ b) (k : Rn mi t lv st h r) : Rn mi pc lv (.int (ii b) :: .int (ii a) :: st) h r := by
  obtain ⟨ha, hb, hc⟩ := e
  refine E_s f rfl ?_ k
  have h1 : pd_cnd .le (ii a) (ii b) = true := by
    unfold pd_cnd
    exact decide_eq_true (by rw [ii_le ha hb]; omega)
  simp only [pd_stp, h1, if_true, Bool.false_eq_true, if_false]
  try rfl
theorem E_if_le_t {a : Int} {t : Nat} (f : pd_fetch mi pc = some (.ifCond .le (Int.ofNat t), np)) (e : (-2147483648 ≤ a ∧ a ≤ 2147483647) ∧ a ≤ 0) (k : Rn mi t lv st h r) : Rn mi pc lv (.int (ii a) :: st) h r := by
  obtain ⟨ha, hc⟩ := e
  have hb : (-2147483648 : Int) ≤ 0 ∧ (0 : Int) ≤ 2147483647 := by omega
  refine E_s f rfl ?_ k
  have h1 : pd_cnd .le (ii a) 0 = true := by
    unfold pd_cnd
    exact decide_eq_true (by rw [← ii_0, ii_le ha hb]; omega)
  simp only [pd_stp, h1, if_true, Bool.false_eq_true, if_false]
  try rfl
theorem E_lcmp_le_t {a b : Int} {p1 t : Nat} (g : pd_fetch mi pc = some (.lcmp, p1)) (f : pd_fetch mi p1 = some (.ifCond .le (Int.ofNat t), np)) (e : (-9223372036854775808 ≤ a ∧ a ≤ 9223372036854775807) ∧ (-9223372036854775808 ≤ b ∧ b ≤ 9223372036854775807) ∧ a ≤ b) (k : Rn mi t lv st h r) : Rn mi pc lv (.long (ll b) :: .long (ll a) :: st) h r := by
  obtain ⟨ha, hb, hc⟩ := e
  refine E_s g rfl rfl (E_s f rfl ?_ k)
  have h1 : pd_cnd .le (lg_cmp (ll a) (ll b)) 0 = true := by
    unfold pd_cnd
    rw [lg_ll ha hb]
    rcases Int.lt_trichotomy a b with q | q | q
    · rw [if_neg (by omega), if_neg (by omega)]; first | rfl | (exfalso; omega)
    · rw [if_neg (by omega), if_pos q]; first | rfl | (exfalso; omega)
    · rw [if_pos q]; first | rfl | (exfalso; omega)
  simp only [pd_stp, h1, if_true, Bool.false_eq_true, if_false]
  try rfl
theorem E_icmp_le_f {a b : Int} {t : Nat} (f : pd_fetch mi pc = some (.if_icmp .le (Int.ofNat t), np)) (e : (-2147483648 ≤ a ∧ a ≤ 2147483647) ∧ (-2147483648 ≤ b ∧ b ≤ 2147483647) ∧ b < a) (k : Rn mi np lv st h r) : Rn mi pc lv (.int (ii b) :: .int (ii a) :: st) h r := by
  obtain ⟨ha, hb, hc⟩ := e
  refine E_s f rfl ?_ k
  have h1 : pd_cnd .le (ii a) (ii b) = false := by
    unfold pd_cnd
    exact decide_eq_false (by rw [ii_le ha hb]; omega)
  simp only [pd_stp, h1, if_true, Bool.false_eq_true, if_false]
  try rfl
theorem E_if_le_f {a : Int} {t : Nat} (f : pd_fetch mi pc = some (.ifCond .le (Int.ofNat t), np)) (e : (-2147483648 ≤ a ∧ a ≤ 2147483647) ∧ 0 < a) (k : Rn mi np lv st h r) : Rn mi pc lv (.int (ii a) :: st) h r := by
  obtain ⟨ha, hc⟩ := e
  have hb : (-2147483648 : Int) ≤ 0 ∧ (0 : Int) ≤ 2147483647 := by omega
  refine E_s f rfl ?_ k
  have h1 : pd_cnd .le (ii a) 0 = false := by
    unfold pd_cnd
    exact decide_eq_false (by rw [← ii_0, ii_le ha hb]; omega)
  simp only [pd_stp, h1, if_true, Bool.false_eq_true, if_false]
  try rfl
theorem E_lcmp_le_f {a b : Int} {p1 t : Nat} (g : pd_fetch mi pc = some (.lcmp, p1)) (f : pd_fetch mi p1 = some (.ifCond .le (Int.ofNat t), np)) (e : (-9223372036854775808 ≤ a ∧ a ≤ 9223372036854775807) ∧ (-9223372036854775808 ≤ b ∧ b ≤ 9223372036854775807) ∧ b < a) (k : Rn mi np lv st h r) : Rn mi pc lv (.long (ll b) :: .long (ll a) :: st) h r := by
  obtain ⟨ha, hb, hc⟩ := e
  refine E_s g rfl rfl (E_s f rfl ?_ k)
  have h1 : pd_cnd .le (lg_cmp (ll a) (ll b)) 0 = false := by
    unfold pd_cnd
    rw [lg_ll ha hb]
    rcases Int.lt_trichotomy a b with q | q | q
    · rw [if_neg (by omega), if_neg (by omega)]; first | rfl | (exfalso; omega)
    · rw [if_neg (by omega), if_pos q]; first | rfl | (exfalso; omega)
    · rw [if_pos q]; first | rfl | (exfalso; omega)
  simp only [pd_stp, h1, if_true, Bool.false_eq_true, if_false]
  try rfl
theorem E_tsw {a lo hi d : Int} {os : Array Int} {t : Nat} (f : pd_fetch mi pc = some (.tableswitch d lo hi os, np)) (e : (-2147483648 ≤ a ∧ a ≤ 2147483647) ∧ lo ≤ a ∧ a ≤ hi) (e2 : os[(a - lo).toNat]? = some (Int.ofNat t)) (k : Rn mi t lv st h r) : Rn mi pc lv (.int (ii a) :: st) h r := by
  refine E_s f rfl ?_ k
  simp only [pd_stp, ii_toInt e.1]
  rw [if_neg (by omega), e2]
  rfl
theorem E_tsd {a lo hi : Int} {d : Nat} {os : Array Int} (f : pd_fetch mi pc = some (.tableswitch (Int.ofNat d) lo hi os, np)) (e : (-2147483648 ≤ a ∧ a ≤ 2147483647) ∧ (a < lo ∨ hi < a)) (k : Rn mi d lv st h r) : Rn mi pc lv (.int (ii a) :: st) h r := by
  refine E_s f rfl ?_ k
  simp only [pd_stp, ii_toInt e.1]
  rw [if_pos (by omega)]
  rfl
theorem E_idiv {a b : Int} (f : pd_fetch mi pc = some (.idiv, np)) (e : (0 ≤ a ∧ a ≤ 2147483647) ∧ 0 < b ∧ b ≤ 2147483647) (k : Rn mi np lv (.int (ii (a / b)) :: st) h r) : Rn mi pc lv (.int (ii b) :: .int (ii a) :: st) h r := by
  obtain ⟨ha, hb0, hb⟩ := e
  refine E_s f rfl ?_ k
  have hz : ¬ ii b = 0 := by rw [← ii_0, ii_eq ⟨by omega, hb⟩ (by omega)]; omega
  have hq : 0 ≤ a / b ∧ a / b ≤ a := ⟨Int.ediv_nonneg ha.1 (by omega), Int.ediv_le_self b ha.1⟩
  have hd : ii a / ii b = ii (a / b) := by
    rw [← Int32.toInt_inj, ii_toInt ⟨by omega, by omega⟩, Int32.toInt_div, ii_toInt ⟨by omega, ha.2⟩, ii_toInt ⟨by omega, hb⟩, Int.tdiv_eq_ediv_of_nonneg ha.1]
    exact Int.bmod_eq_of_le (by omega) (by omega)
  simp only [pd_stp, pd_bin, hz, if_false, hd, Option.map_some]
theorem E_irem {a b : Int} (f : pd_fetch mi pc = some (.irem, np)) (e : (0 ≤ a ∧ a ≤ 2147483647) ∧ 0 < b ∧ b ≤ 2147483647) (k : Rn mi np lv (.int (ii (a % b)) :: st) h r) : Rn mi pc lv (.int (ii b) :: .int (ii a) :: st) h r := by
  obtain ⟨ha, hb0, hb⟩ := e
  refine E_s f rfl ?_ k
  have hz : ¬ ii b = 0 := by rw [← ii_0, ii_eq ⟨by omega, hb⟩ (by omega)]; omega
  have hq : 0 ≤ a / b ∧ a / b ≤ a := ⟨Int.ediv_nonneg ha.1 (by omega), Int.ediv_le_self b ha.1⟩
  have hd : ii a / ii b = ii (a / b) := by
    rw [← Int32.toInt_inj, ii_toInt ⟨by omega, by omega⟩, Int32.toInt_div, ii_toInt ⟨by omega, ha.2⟩, ii_toInt ⟨by omega, hb⟩, Int.tdiv_eq_ediv_of_nonneg ha.1]
    exact Int.bmod_eq_of_le (by omega) (by omega)
  have he : a - a / b * b = a % b := by rw [Int.emod_def, Int.mul_comm]
  simp only [pd_stp, pd_bin, hz, if_false, hd, ii_mul, ii_sub, he, Option.map_some]
theorem ll_div {a b : Int} (ha : 0 ≤ a ∧ a ≤ 9223372036854775807) (hb0 : 0 < b) (hb : b ≤ 9223372036854775807) : ll a / ll b = ll (a / b) := by
  have hq : 0 ≤ a / b ∧ a / b ≤ a := ⟨Int.ediv_nonneg ha.1 (by omega), Int.ediv_le_self b ha.1⟩
  rw [← Int64.toInt_inj, ll_toInt ⟨by omega, by omega⟩, Int64.toInt_div, ll_toInt ⟨by omega, ha.2⟩, ll_toInt ⟨by omega, hb⟩, Int.tdiv_eq_ediv_of_nonneg ha.1]
  exact Int.bmod_eq_of_le (by omega) (by omega)
theorem E_ldiv {a b : Int} (f : pd_fetch mi pc = some (.ldiv, np)) (e : (0 ≤ a ∧ a ≤ 9223372036854775807) ∧ 0 < b ∧ b ≤ 9223372036854775807) (k : Rn mi np lv (.long (ll (a / b)) :: st) h r) : Rn mi pc lv (.long (ll b) :: .long (ll a) :: st) h r := by
  obtain ⟨ha, hb0, hb⟩ := e
  refine E_s f rfl ?_ k
  have hz : ¬ ll b = 0 := by rw [← ll_0, ll_eq ⟨by omega, hb⟩ (by omega)]; omega
  simp only [pd_stp, pd_binL, hz, if_false, ll_div ha hb0 hb, Option.map_some]
theorem E_lrem {a b : Int} (f : pd_fetch mi pc = some (.lrem, np)) (e : (0 ≤ a ∧ a ≤ 9223372036854775807) ∧ 0 < b ∧ b ≤ 9223372036854775807) (k : Rn mi np lv (.long (ll (a % b)) :: st) h r) : Rn mi pc lv (.long (ll b) :: .long (ll a) :: st) h r := by
  obtain ⟨ha, hb0, hb⟩ := e
  refine E_s f rfl ?_ k
  have hz : ¬ ll b = 0 := by rw [← ll_0, ll_eq ⟨by omega, hb⟩ (by omega)]; omega
  have he : a - a / b * b = a % b := by rw [Int.emod_def, Int.mul_comm]
  simp only [pd_stp, pd_binL, hz, if_false, ll_div ha hb0 hb, ll_mul, ll_sub, he, Option.map_some]
/-- a division that goes up -/
theorem E_ldivX {b q : Int} (f : pd_fetch mi pc = some (.ldiv, np)) (e : (-4611686018427387904 ≤ b * q ∧ b * q ≤ 4611686018427387904) ∧ (-4611686018427387904 ≤ q ∧ q ≤ 4611686018427387904) ∧ 0 < b ∧ b ≤ 9223372036854775807) (k : Rn mi np lv (.long (ll q) :: st) h r) : Rn mi pc lv (.long (ll b) :: .long (ll (b * q)) :: st) h r := by
  obtain ⟨ha, hq, hb0, hb⟩ := e
  refine E_s f rfl ?_ k
  have hz : ¬ ll b = 0 := by rw [← ll_0, ll_eq ⟨by omega, hb⟩ (by omega)]; omega
  have hd : ll (b * q) / ll b = ll q := by
    rw [← Int64.toInt_inj, ll_toInt ⟨by omega, by omega⟩, Int64.toInt_div, ll_toInt ⟨by omega, by omega⟩, ll_toInt ⟨by omega, hb⟩, Int.mul_tdiv_cancel_left _ (by omega)]
    exact Int.bmod_eq_of_le (by omega) (by omega)
  simp only [pd_stp, pd_binL, hz, if_false, hd, Option.map_some]
theorem ii_nin {i : Int} {n : Nat} (e : 0 ≤ i ∧ i < n ∧ i ≤ 2147483647) : ¬ (ii i < 0 ∨ n ≤ (ii i).toNatClampNeg) := by
  rw [ii_clamp ⟨e.1, e.2.2⟩, ← ii_0, ii_lt ⟨by omega, e.2.2⟩ (by omega)]
  omega
theorem E_iald {i : Int} {a n : Nat} {q : Int → Int} (f : pd_fetch mi pc = some (.iaload, np)) (hg : pd_get h a = ar n q) (e : 0 ≤ i ∧ i < n ∧ i ≤ 2147483647) (k : Rn mi np lv (.int (ii (q i)) :: st) h r) : Rn mi pc lv (.int (ii i) :: .ref a :: st) h r := by
  refine E_s f rfl ?_ k
  simp only [pd_stp, hg, ar, pd_ald]
  rw [if_neg (ii_nin e), ii_clamp ⟨e.1, e.2.2⟩, Int.toNat_of_nonneg e.1]
  rfl
theorem E_sald {i : Int} {a n : Nat} {q : Int → Int} (f : pd_fetch mi pc = some (.iaload, np)) (hg : pd_get h a = sr n q) (e : 0 ≤ i ∧ i < n ∧ i ≤ 2147483647) (k : Rn mi np lv (.int (ii (q i)) :: st) h r) : Rn mi pc lv (.int (ii i) :: .ref a :: st) h r := by
  refine E_s f rfl ?_ k
  simp only [pd_stp, hg, sr, pd_ald]
  rw [if_neg (ii_nin e), ii_clamp ⟨e.1, e.2.2⟩, Int.toNat_of_nonneg e.1]
  rfl
theorem E_lald {i : Int} {a n : Nat} {q : Int → Int} (f : pd_fetch mi pc = some (.laload, np)) (hg : pd_get h a = lr n q) (e : 0 ≤ i ∧ i < n ∧ i ≤ 2147483647) (k : Rn mi np lv (.long (ll (q i)) :: st) h r) : Rn mi pc lv (.int (ii i) :: .ref a :: st) h r := by
  refine E_s f rfl ?_ k
  simp only [pd_stp, hg, lr, pd_ald]
  rw [if_neg (ii_nin e), ii_clamp ⟨e.1, e.2.2⟩, Int.toNat_of_nonneg e.1]
  rfl
theorem E_bald {i : Int} {a n : Nat} {q : Int → Int} (f : pd_fetch mi pc = some (.baload, np)) (hg : pd_get h a = br n q) (e : 0 ≤ i ∧ i < n ∧ i ≤ 2147483647) (k : Rn mi np lv (.int (ii (q i)) :: st) h r) : Rn mi pc lv (.int (ii i) :: .ref a :: st) h r := by
  refine E_s f rfl ?_ k
  simp only [pd_stp, hg, br, pd_ald]
  rw [if_neg (ii_nin e), ii_clamp ⟨e.1, e.2.2⟩, Int.toNat_of_nonneg e.1]
  rfl
theorem E_aald {i : Int} {a n : Nat} {q : Int → Nat} (f : pd_fetch mi pc = some (.aaload, np)) (hg : pd_get h a = rr n q) (e : 0 ≤ i ∧ i < n ∧ i ≤ 2147483647) (k : Rn mi np lv (.ref (q i) :: st) h r) : Rn mi pc lv (.int (ii i) :: .ref a :: st) h r := by
  refine E_s f rfl ?_ k
  simp only [pd_stp, hg, rr, pd_ald]
  rw [if_neg (ii_nin e), ii_clamp ⟨e.1, e.2.2⟩, if_pos (show i.toNat < n by omega), Int.toNat_of_nonneg e.1]
  rfl
theorem E_iast {i x : Int} {a n : Nat} {q : Int → Int} (f : pd_fetch mi pc = some (.iastore, np)) (hg : pd_get h a = ar n q) (e : 0 ≤ i ∧ i < n ∧ i ≤ 2147483647) (k : Rn mi np lv st (pd_put h a (ar n (zu q i x))) r) : Rn mi pc lv (.int (ii x) :: .int (ii i) :: .ref a :: st) h r := by
  refine E_s f rfl ?_ k
  simp only [pd_stp, hg, ar, pd_ast]
  rw [if_neg (ii_nin e), ii_clamp ⟨e.1, e.2.2⟩, zu_upd q x e.1]
  rfl
theorem E_last {i x : Int} {a n : Nat} {q : Int → Int} (f : pd_fetch mi pc = some (.lastore, np)) (hg : pd_get h a = lr n q) (e : 0 ≤ i ∧ i < n ∧ i ≤ 2147483647) (k : Rn mi np lv st (pd_put h a (lr n (zu q i x))) r) : Rn mi pc lv (.long (ll x) :: .int (ii i) :: .ref a :: st) h r := by
  refine E_s f rfl ?_ k
  simp only [pd_stp, hg, lr, pd_ast]
  rw [if_neg (ii_nin e), ii_clamp ⟨e.1, e.2.2⟩, zu_updL q x e.1]
  rfl
theorem E_bast {i x : Int} {a n : Nat} {q : Int → Int} (f : pd_fetch mi pc = some (.bastore, np)) (hg : pd_get h a = br n q) (e : 0 ≤ i ∧ i < n ∧ i ≤ 2147483647) (hx : x = 0 ∨ x = 1) (k : Rn mi np lv st (pd_put h a (br n (zu q i x))) r) : Rn mi pc lv (.int (ii x) :: .int (ii i) :: .ref a :: st) h r := by
  refine E_s f rfl ?_ k
  have hb : vp_nar .boolean (ii x) = ii x := by rcases hx with rfl | rfl <;> decide
  simp only [pd_stp, hg, br, pd_ast]
  rw [if_neg (ii_nin e), ii_clamp ⟨e.1, e.2.2⟩, hb, zu_upd q x e.1]
  rfl
theorem E_alenI {a n : Nat} {q : Int → Int} (f : pd_fetch mi pc = some (.arraylength, np)) (hg : pd_get h a = ar n q) (k : Rn mi np lv (.int (ii (n : Int)) :: st) h r) : Rn mi pc lv (.ref a :: st) h r := by
  refine E_s f rfl ?_ k
  simp only [pd_stp, hg, ar]
  rfl
theorem E_alenS {a n : Nat} {q : Int → Int} (f : pd_fetch mi pc = some (.arraylength, np)) (hg : pd_get h a = sr n q) (k : Rn mi np lv (.int (ii (n : Int)) :: st) h r) : Rn mi pc lv (.ref a :: st) h r := by
  refine E_s f rfl ?_ k
  simp only [pd_stp, hg, sr]
  rfl
theorem E_getf {a c ci : Nat} {fs : List Value} {v : Value} (f : pd_fetch mi pc = some (.getfield c, np)) (hg : pd_get h a = ob ci fs) (hc : ci = c / 100) (hv : fs[c % 100]? = some v) (k : Rn mi np lv (v :: st) h r) : Rn mi pc lv (.ref a :: st) h r := by
  refine E_s f rfl ?_ k
  simp only [pd_stp, hg, ob, hc, if_true, hv]
theorem E_putf {a c ci : Nat} {fs fs' : List Value} {v : Value} (f : pd_fetch mi pc = some (.putfield c, np)) (hg : pd_get h a = ob ci fs) (hc : ci = c / 100) (hx : (Nat.blt (c % 100) fs.length && (Nat.blt (c % 100) (pd_fn ci) && pd_fit (pd_ty ci (c % 100)) v)) = true) (hv : fs.set (c % 100) v = fs') (k : Rn mi np lv st (pd_put h a (ob ci fs')) r) : Rn mi pc lv (v :: .ref a :: st) h r := by
  refine E_s f rfl ?_ k
  simp only [Bool.and_eq_true] at hx
  simp only [pd_stp, hg, ob]
  rw [if_pos ⟨hc, Nat.le_of_ble_eq_true hx.1, Nat.le_of_ble_eq_true hx.2.1, hx.2.2⟩, hv]
theorem E_minI {a b : Int} (f : pd_fetch mi pc = some (.invokestatic 1001, np)) (e : (-2147483648 ≤ a ∧ a ≤ 2147483647) ∧ (-2147483648 ≤ b ∧ b ≤ 2147483647)) (hx : Nat.ble (pd_cat st) 8 = true) (k : Rn mi np lv (.int (ii (if b < a then b else a)) :: st) h r) : Rn mi pc lv (.int (ii b) :: .int (ii a) :: st) h r := by
  refine E_s f rfl ?_ k
  simp only [pd_stp]
  rw [if_pos (Nat.le_of_ble_eq_true hx)]
  simp only [ii_lt e.2 e.1]
  split <;> rfl
theorem E_minL {a b : Int} (f : pd_fetch mi pc = some (.invokestatic 1002, np)) (e : (-9223372036854775808 ≤ a ∧ a ≤ 9223372036854775807) ∧ (-9223372036854775808 ≤ b ∧ b ≤ 9223372036854775807)) (hx : Nat.ble (pd_cat st) 8 = true) (k : Rn mi np lv (.long (ll (if b < a then b else a)) :: st) h r) : Rn mi pc lv (.long (ll b) :: .long (ll a) :: st) h r := by
  refine E_s f rfl ?_ k
  simp only [pd_stp]
  rw [if_pos (Nat.le_of_ble_eq_true hx)]
  simp only [ll_lt e.2 e.1]
  split <;> rfl
theorem E_maxL {a b : Int} (f : pd_fetch mi pc = some (.invokestatic 1003, np)) (e : (-9223372036854775808 ≤ a ∧ a ≤ 9223372036854775807) ∧ (-9223372036854775808 ≤ b ∧ b ≤ 9223372036854775807)) (hx : Nat.ble (pd_cat st) 8 = true) (k : Rn mi np lv (.long (ll (if a < b then b else a)) :: st) h r) : Rn mi pc lv (.long (ll b) :: .long (ll a) :: st) h r := by
  refine E_s f rfl ?_ k
  simp only [pd_stp]
  rw [if_pos (Nat.le_of_ble_eq_true hx)]
  simp only [ll_lt e.1 e.2]
  split <;> rfl
theorem E_acopy {sp dp n : Int} {a d n0 n1 : Nat} {q g : Int → Int} (f : pd_fetch mi pc = some (.invokestatic 1004, np)) (hg : pd_get h a = ar n0 q) (hd : pd_get h d = ar n1 g) (e : (0 ≤ sp ∧ 0 ≤ dp ∧ 0 ≤ n) ∧ sp + n ≤ n0 ∧ dp + n ≤ n1 ∧ sp + n ≤ 2147483647 ∧ dp + n ≤ 2147483647) (hx : Nat.ble (pd_cat st) 8 = true) (k : Rn mi np lv st (pd_put h d (ar n1 (zcpy q g sp dp n))) r) : Rn mi pc lv (.int (ii n) :: .int (ii dp) :: .ref d :: .int (ii sp) :: .ref a :: st) h r := by
  obtain ⟨⟨e1, e2, e3⟩, e4, e5, e6, e7⟩ := e
  refine E_s f rfl ?_ k
  simp only [pd_stp, hg, hd, ar]
  rw [ii_clamp ⟨e1, by omega⟩, ii_clamp ⟨e2, by omega⟩, ii_clamp ⟨e3, by omega⟩, if_neg (by
    rw [← ii_0, ii_lt ⟨by omega, by omega⟩ (by omega), ii_lt ⟨by omega, by omega⟩ (by omega), ii_lt ⟨by omega, by omega⟩ (by omega)]
    have := Nat.le_of_ble_eq_true hx
    omega)]
  have hz : va_cpy (fun k : Nat => ii (q (k : Int))) (fun k : Nat => ii (g (k : Int))) sp.toNat dp.toNat n.toNat = fun k : Nat => ii (zcpy q g sp dp n (k : Int)) := by
    funext j
    unfold va_cpy zcpy
    by_cases c1 : dp ≤ (j : Int) ∧ (j : Int) < dp + n
    · rw [if_pos c1, if_pos (by omega)]
      exact congrArg (fun t => ii (q t)) (by omega)
    · rw [if_neg c1, if_neg (by omega)]
  rw [hz]
theorem E_ishl {a b : Int} (f : pd_fetch mi pc = some (.ishl, np)) (k : Rn mi np lv (.int (ii a <<< (ii b &&& 31)) :: st) h r) : Rn mi pc lv (.int (ii b) :: .int (ii a) :: st) h r := E_s f rfl rfl k
theorem E_ishr {a b : Int} (f : pd_fetch mi pc = some (.ishr, np)) (k : Rn mi np lv (.int (ii a >>> (ii b &&& 31)) :: st) h r) : Rn mi pc lv (.int (ii b) :: .int (ii a) :: st) h r := E_s f rfl rfl k
theorem E_iand {a b : Int32} (f : pd_fetch mi pc = some (.iand, np)) (k : Rn mi np lv (.int (a &&& b) :: st) h r) : Rn mi pc lv (.int b :: .int a :: st) h r := E_s f rfl rfl k
theorem E_ior {a b : Int32} (f : pd_fetch mi pc = some (.ior, np)) (k : Rn mi np lv (.int (a ||| b) :: st) h r) : Rn mi pc lv (.int b :: .int a :: st) h r := E_s f rfl rfl k
theorem E_land {a b : Int64} (f : pd_fetch mi pc = some (.land, np)) (k : Rn mi np lv (.long (a &&& b) :: st) h r) : Rn mi pc lv (.long b :: .long a :: st) h r := E_s f rfl rfl k
theorem E_lor {a b : Int64} (f : pd_fetch mi pc = some (.lor, np)) (k : Rn mi np lv (.long (a ||| b) :: st) h r) : Rn mi pc lv (.long b :: .long a :: st) h r := E_s f rfl rfl k
theorem E_lshl {a : Int64} {b : Int32} (f : pd_fetch mi pc = some (.lshl, np)) (k : Rn mi np lv (.long (a <<< (b.toInt64 &&& 63)) :: st) h r) : Rn mi pc lv (.int b :: .long a :: st) h r := E_s f rfl rfl k
theorem E_lushr {a : Int64} {b : Int32} (f : pd_fetch mi pc = some (.lushr, np)) (k : Rn mi np lv (.long (a.toUInt64 >>> (b.toInt64.toUInt64 &&& Int64.toUInt64 63)).toInt64 :: st) h r) : Rn mi pc lv (.int b :: .long a :: st) h r := E_s f rfl rfl k
/-- another name for the value on top -/
theorem E_top {v u : Value} (e : v = u) (k : Rn mi pc lv (u :: st) h r) : Rn mi pc lv (v :: st) h r := e ▸ k
theorem E_loc (e : lv = lv') (k : Rn mi pc lv' st h r) : Rn mi pc lv st h r := e ▸ k
theorem E_hp {h' : pd_H} (e : h = h') (k : Rn mi pc lv st h' r) : Rn mi pc lv st h r := e ▸ k
theorem E_iret {v : Int32} (f : pd_fetch mi pc = some (.ireturn, np)) (hn : pd_nar mi v = true) : Rn mi pc lv [.int v] h (.inl (some (.int v)), h) := by
  refine ⟨1, ?_⟩
  rw [pd_run_succ]
  unfold pd_body
  simp only [f, pd_op, pd_ret, hn, if_true]
theorem E_lret {v : Int64} (f : pd_fetch mi pc = some (.lreturn, np)) (hn : pd_r mi = some .long) : Rn mi pc lv [.long v] h (.inl (some (.long v)), h) := by
  refine ⟨1, ?_⟩
  rw [pd_run_succ]
  unfold pd_body
  simp only [f, pd_op, pd_ret, hn, if_true]
theorem E_vret (f : pd_fetch mi pc = some (.return_, np)) (hn : pd_r mi = none) : Rn mi pc lv [] h (.inl none, h) := by
  refine ⟨1, ?_⟩
  rw [pd_run_succ]
  unfold pd_body
  simp only [f, pd_op, pd_ret, hn, if_true]
theorem E_throw {c e : Nat} (f : pd_fetch mi pc = some (.new c, np)) (h2 : pd_op (.new c) = 2) (he : pd_who (.new c) = e) (hx : Nat.ble (pd_cat st) 8 = true) (ht : pd_site mi pc = true) : Rn mi pc lv st h (.inr e, pd_thr h) := by
  refine ⟨1, ?_⟩
  rw [pd_run_succ]
  unfold pd_body
  simp only [f, h2, he, ht, and_true, if_pos (Nat.le_of_ble_eq_true hx)]
/-- a call's checks -/
def pd_chk (i : Instr) (c : Nat) (as rest : List Value) : Bool := pd_vok i && (pd_who i == c && ((pd_op i == 3 || pd_op i == 4) && (pd_na (pd_op i) c == as.length && (Nat.ble (pd_cat rest) 8 && Nat.ble (pd_sl as).length (pd_n c)))))
theorem pd_op4 {c : Nat} {as rest : List Value} (hx : pd_chk (.invokestatic c) c as rest = true) : pd_op (.invokestatic c) = 4 := by
  unfold pd_chk at hx
  simp only [Bool.and_eq_true, beq_iff_eq, Bool.or_eq_true] at hx
  rcases hx.2.2.1 with q | q
  · exact absurd q (by simp only [pd_op]; split <;> decide)
  · exact q
theorem pd_op3 {c : Nat} {as rest : List Value} (hx : pd_chk (.invokespecial c) c as rest = true) : pd_op (.invokespecial c) = 3 := by
  unfold pd_chk at hx
  simp only [Bool.and_eq_true, beq_iff_eq, Bool.or_eq_true] at hx
  rcases hx.2.2.1 with q | q
  · exact q
  · exact absurd q (by simp only [pd_op]; split <;> decide)
theorem E_run {i : Instr} {c : Nat} {as rest : List Value} (f : pd_fetch mi pc = some (i, np)) (hs : st = as.reverse ++ rest) (hx : pd_chk i c as rest = true) (hr : pd_rcv (pd_op i) c as h = true) {o : pd_Out × pd_H} (hc : Ca c as h o) (hk : match o with | (.inl v, h') => Rn mi np lv (v.toList ++ rest) h' r | (.inr E, h') => pd_catch mi E h' = some r) : Rn mi pc lv st h r := by
  obtain ⟨n1, e1⟩ := hc
  unfold pd_chk at hx
  simp only [Bool.and_eq_true, beq_iff_eq, Bool.or_eq_true] at hx
  obtain ⟨hvk, hw, ho, hn, hb1, hb2⟩ := hx
  subst hs
  have ht : List.take as.length (as.reverse ++ rest) = as.reverse := by rw [← List.length_reverse (as := as)]; simp
  have hd : List.drop as.length (as.reverse ++ rest) = rest := by rw [← List.length_reverse (as := as)]; simp
  have key : ∀ n, pd_go n c 0 (pd_ent (pd_n c) as) [] h = some o → (∀ v h', o = (.inl v, h') → pd_go n mi np lv (v.toList ++ rest) h' = some r) → pd_go (n + 1) mi pc lv (as.reverse ++ rest) h = some r := by
    intro n q1 q2
    rw [pd_run_succ]
    unfold pd_body
    have hcond : (pd_vok i = true ∧ pd_na (pd_op i) (pd_who i) ≤ (as.reverse ++ rest).length ∧ pd_cat ((as.reverse ++ rest).drop (pd_na (pd_op i) (pd_who i))) ≤ 8 ∧ (pd_sl ((as.reverse ++ rest).take (pd_na (pd_op i) (pd_who i))).reverse).length ≤ pd_n (pd_who i) ∧ pd_rcv (pd_op i) (pd_who i) ((as.reverse ++ rest).take (pd_na (pd_op i) (pd_who i))).reverse h = true) := by
      rw [hw, hn, ht, hd, List.reverse_reverse]
      exact ⟨hvk, by simp, Nat.le_of_ble_eq_true hb1, Nat.le_of_ble_eq_true hb2, hr⟩
    simp only [f]
    rcases ho with ho | ho <;>
    · rw [ho] at hcond ⊢
      simp only [if_pos hcond]
      rw [ho] at hn
      rw [hw, hn, ht, hd, List.reverse_reverse, q1]
      obtain ⟨oo, h'⟩ := o
      cases oo with
      | inl v => exact q2 v h' rfl
      | inr E => exact hk
  obtain ⟨oo, h'⟩ := o
  cases oo with
  | inl v =>
    obtain ⟨n2, e2⟩ := hk
    refine ⟨n1 + n2 + 1, key (n1 + n2) (pd_mono' n2 e1) ?_⟩
    intro v' h'' q
    cases q
    rw [Nat.add_comm]
    exact pd_mono' n1 e2
  | inr E =>
    refine ⟨n1 + 1, key n1 e1 ?_⟩
    intro v' h'' q
    cases q
theorem E_c0v {c : Nat} {v : Value} {h' : pd_H} (f : pd_fetch mi pc = some (.invokestatic c, np)) (hx : pd_chk (.invokestatic c) c [] st = true) (hc : Ca c [] h (.inl (some v), h')) (k : Rn mi np lv (v :: st) h' r) : Rn mi pc lv (st) h r := by
  have ho : pd_op (.invokestatic c) = 4 := pd_op4 hx
  exact E_run f rfl hx (by rw [ho]; rfl) hc k
theorem E_c0u {c : Nat} {h' : pd_H} (f : pd_fetch mi pc = some (.invokestatic c, np)) (hx : pd_chk (.invokestatic c) c [] st = true) (hc : Ca c [] h (.inl none, h')) (k : Rn mi np lv st h' r) : Rn mi pc lv (st) h r := by
  have ho : pd_op (.invokestatic c) = 4 := pd_op4 hx
  exact E_run f rfl hx (by rw [ho]; rfl) hc k
theorem E_c0x {c E : Nat} {h' : pd_H} (f : pd_fetch mi pc = some (.invokestatic c, np)) (hx : pd_chk (.invokestatic c) c [] st = true) (hc : Ca c [] h (.inr E, h')) (k : pd_catch mi E h' = some r) : Rn mi pc lv (st) h r := by
  have ho : pd_op (.invokestatic c) = 4 := pd_op4 hx
  exact E_run f rfl hx (by rw [ho]; rfl) hc k
theorem E_c1v {c : Nat} {a1 : Value} {v : Value} {h' : pd_H} (f : pd_fetch mi pc = some (.invokestatic c, np)) (hx : pd_chk (.invokestatic c) c [a1] st = true) (hc : Ca c [a1] h (.inl (some v), h')) (k : Rn mi np lv (v :: st) h' r) : Rn mi pc lv (a1 :: st) h r := by
  have ho : pd_op (.invokestatic c) = 4 := pd_op4 hx
  exact E_run f rfl hx (by rw [ho]; rfl) hc k
theorem E_c1u {c : Nat} {a1 : Value} {h' : pd_H} (f : pd_fetch mi pc = some (.invokestatic c, np)) (hx : pd_chk (.invokestatic c) c [a1] st = true) (hc : Ca c [a1] h (.inl none, h')) (k : Rn mi np lv st h' r) : Rn mi pc lv (a1 :: st) h r := by
  have ho : pd_op (.invokestatic c) = 4 := pd_op4 hx
  exact E_run f rfl hx (by rw [ho]; rfl) hc k
theorem E_c1x {c E : Nat} {a1 : Value} {h' : pd_H} (f : pd_fetch mi pc = some (.invokestatic c, np)) (hx : pd_chk (.invokestatic c) c [a1] st = true) (hc : Ca c [a1] h (.inr E, h')) (k : pd_catch mi E h' = some r) : Rn mi pc lv (a1 :: st) h r := by
  have ho : pd_op (.invokestatic c) = 4 := pd_op4 hx
  exact E_run f rfl hx (by rw [ho]; rfl) hc k
theorem E_v1v {c a ci : Nat} {fs : List Value} {v : Value} {h' : pd_H} (f : pd_fetch mi pc = some (.invokevirtual c, np)) (hg : pd_get h a = ob ci fs) (hx : (pd_chk (.invokevirtual c) c [.ref a] st && ci == pd_o c) = true) (hc : Ca c [.ref a] h (.inl (some v), h')) (k : Rn mi np lv (v :: st) h' r) : Rn mi pc lv (.ref a :: st) h r := by
  simp only [Bool.and_eq_true] at hx
  have ho : pd_op (.invokevirtual c) = 3 := rfl
  exact E_run f rfl hx.1 (by rw [ho]; simp only [pd_rcv, hg, ob]; exact hx.2) hc k
theorem E_v1u {c a ci : Nat} {fs : List Value} {h' : pd_H} (f : pd_fetch mi pc = some (.invokevirtual c, np)) (hg : pd_get h a = ob ci fs) (hx : (pd_chk (.invokevirtual c) c [.ref a] st && ci == pd_o c) = true) (hc : Ca c [.ref a] h (.inl none, h')) (k : Rn mi np lv st h' r) : Rn mi pc lv (.ref a :: st) h r := by
  simp only [Bool.and_eq_true] at hx
  have ho : pd_op (.invokevirtual c) = 3 := rfl
  exact E_run f rfl hx.1 (by rw [ho]; simp only [pd_rcv, hg, ob]; exact hx.2) hc k
theorem E_v1x {c a ci : Nat} {fs : List Value} {E : Nat} {h' : pd_H} (f : pd_fetch mi pc = some (.invokevirtual c, np)) (hg : pd_get h a = ob ci fs) (hx : (pd_chk (.invokevirtual c) c [.ref a] st && ci == pd_o c) = true) (hc : Ca c [.ref a] h (.inr E, h')) (k : pd_catch mi E h' = some r) : Rn mi pc lv (.ref a :: st) h r := by
  simp only [Bool.and_eq_true] at hx
  have ho : pd_op (.invokevirtual c) = 3 := rfl
  exact E_run f rfl hx.1 (by rw [ho]; simp only [pd_rcv, hg, ob]; exact hx.2) hc k
theorem E_s1v {c a ci : Nat} {fs : List Value} {v : Value} {h' : pd_H} (f : pd_fetch mi pc = some (.invokespecial c, np)) (hg : pd_get h a = ob ci fs) (hx : (pd_chk (.invokespecial c) c [.ref a] st && ci == pd_o c) = true) (hc : Ca c [.ref a] h (.inl (some v), h')) (k : Rn mi np lv (v :: st) h' r) : Rn mi pc lv (.ref a :: st) h r := by
  simp only [Bool.and_eq_true] at hx
  have ho : pd_op (.invokespecial c) = 3 := pd_op3 hx.1
  exact E_run f rfl hx.1 (by rw [ho]; simp only [pd_rcv, hg, ob]; exact hx.2) hc k
theorem E_s1u {c a ci : Nat} {fs : List Value} {h' : pd_H} (f : pd_fetch mi pc = some (.invokespecial c, np)) (hg : pd_get h a = ob ci fs) (hx : (pd_chk (.invokespecial c) c [.ref a] st && ci == pd_o c) = true) (hc : Ca c [.ref a] h (.inl none, h')) (k : Rn mi np lv st h' r) : Rn mi pc lv (.ref a :: st) h r := by
  simp only [Bool.and_eq_true] at hx
  have ho : pd_op (.invokespecial c) = 3 := pd_op3 hx.1
  exact E_run f rfl hx.1 (by rw [ho]; simp only [pd_rcv, hg, ob]; exact hx.2) hc k
theorem E_s1x {c a ci : Nat} {fs : List Value} {E : Nat} {h' : pd_H} (f : pd_fetch mi pc = some (.invokespecial c, np)) (hg : pd_get h a = ob ci fs) (hx : (pd_chk (.invokespecial c) c [.ref a] st && ci == pd_o c) = true) (hc : Ca c [.ref a] h (.inr E, h')) (k : pd_catch mi E h' = some r) : Rn mi pc lv (.ref a :: st) h r := by
  simp only [Bool.and_eq_true] at hx
  have ho : pd_op (.invokespecial c) = 3 := pd_op3 hx.1
  exact E_run f rfl hx.1 (by rw [ho]; simp only [pd_rcv, hg, ob]; exact hx.2) hc k
theorem E_c2v {c : Nat} {a1 a2 : Value} {v : Value} {h' : pd_H} (f : pd_fetch mi pc = some (.invokestatic c, np)) (hx : pd_chk (.invokestatic c) c [a1, a2] st = true) (hc : Ca c [a1, a2] h (.inl (some v), h')) (k : Rn mi np lv (v :: st) h' r) : Rn mi pc lv (a2 :: a1 :: st) h r := by
  have ho : pd_op (.invokestatic c) = 4 := pd_op4 hx
  exact E_run f rfl hx (by rw [ho]; rfl) hc k
theorem E_c2u {c : Nat} {a1 a2 : Value} {h' : pd_H} (f : pd_fetch mi pc = some (.invokestatic c, np)) (hx : pd_chk (.invokestatic c) c [a1, a2] st = true) (hc : Ca c [a1, a2] h (.inl none, h')) (k : Rn mi np lv st h' r) : Rn mi pc lv (a2 :: a1 :: st) h r := by
  have ho : pd_op (.invokestatic c) = 4 := pd_op4 hx
  exact E_run f rfl hx (by rw [ho]; rfl) hc k
theorem E_c2x {c E : Nat} {a1 a2 : Value} {h' : pd_H} (f : pd_fetch mi pc = some (.invokestatic c, np)) (hx : pd_chk (.invokestatic c) c [a1, a2] st = true) (hc : Ca c [a1, a2] h (.inr E, h')) (k : pd_catch mi E h' = some r) : Rn mi pc lv (a2 :: a1 :: st) h r := by
  have ho : pd_op (.invokestatic c) = 4 := pd_op4 hx
  exact E_run f rfl hx (by rw [ho]; rfl) hc k
theorem E_v2v {c a ci : Nat} {fs : List Value} {a2 : Value} {v : Value} {h' : pd_H} (f : pd_fetch mi pc = some (.invokevirtual c, np)) (hg : pd_get h a = ob ci fs) (hx : (pd_chk (.invokevirtual c) c [.ref a, a2] st && ci == pd_o c) = true) (hc : Ca c [.ref a, a2] h (.inl (some v), h')) (k : Rn mi np lv (v :: st) h' r) : Rn mi pc lv (a2 :: .ref a :: st) h r := by
  simp only [Bool.and_eq_true] at hx
  have ho : pd_op (.invokevirtual c) = 3 := rfl
  exact E_run f rfl hx.1 (by rw [ho]; simp only [pd_rcv, hg, ob]; exact hx.2) hc k
theorem E_v2u {c a ci : Nat} {fs : List Value} {a2 : Value} {h' : pd_H} (f : pd_fetch mi pc = some (.invokevirtual c, np)) (hg : pd_get h a = ob ci fs) (hx : (pd_chk (.invokevirtual c) c [.ref a, a2] st && ci == pd_o c) = true) (hc : Ca c [.ref a, a2] h (.inl none, h')) (k : Rn mi np lv st h' r) : Rn mi pc lv (a2 :: .ref a :: st) h r := by
  simp only [Bool.and_eq_true] at hx
  have ho : pd_op (.invokevirtual c) = 3 := rfl
  exact E_run f rfl hx.1 (by rw [ho]; simp only [pd_rcv, hg, ob]; exact hx.2) hc k
theorem E_v2x {c a ci : Nat} {fs : List Value} {a2 : Value} {E : Nat} {h' : pd_H} (f : pd_fetch mi pc = some (.invokevirtual c, np)) (hg : pd_get h a = ob ci fs) (hx : (pd_chk (.invokevirtual c) c [.ref a, a2] st && ci == pd_o c) = true) (hc : Ca c [.ref a, a2] h (.inr E, h')) (k : pd_catch mi E h' = some r) : Rn mi pc lv (a2 :: .ref a :: st) h r := by
  simp only [Bool.and_eq_true] at hx
  have ho : pd_op (.invokevirtual c) = 3 := rfl
  exact E_run f rfl hx.1 (by rw [ho]; simp only [pd_rcv, hg, ob]; exact hx.2) hc k
theorem E_s2v {c a ci : Nat} {fs : List Value} {a2 : Value} {v : Value} {h' : pd_H} (f : pd_fetch mi pc = some (.invokespecial c, np)) (hg : pd_get h a = ob ci fs) (hx : (pd_chk (.invokespecial c) c [.ref a, a2] st && ci == pd_o c) = true) (hc : Ca c [.ref a, a2] h (.inl (some v), h')) (k : Rn mi np lv (v :: st) h' r) : Rn mi pc lv (a2 :: .ref a :: st) h r := by
  simp only [Bool.and_eq_true] at hx
  have ho : pd_op (.invokespecial c) = 3 := pd_op3 hx.1
  exact E_run f rfl hx.1 (by rw [ho]; simp only [pd_rcv, hg, ob]; exact hx.2) hc k
theorem E_s2u {c a ci : Nat} {fs : List Value} {a2 : Value} {h' : pd_H} (f : pd_fetch mi pc = some (.invokespecial c, np)) (hg : pd_get h a = ob ci fs) (hx : (pd_chk (.invokespecial c) c [.ref a, a2] st && ci == pd_o c) = true) (hc : Ca c [.ref a, a2] h (.inl none, h')) (k : Rn mi np lv st h' r) : Rn mi pc lv (a2 :: .ref a :: st) h r := by
  simp only [Bool.and_eq_true] at hx
  have ho : pd_op (.invokespecial c) = 3 := pd_op3 hx.1
  exact E_run f rfl hx.1 (by rw [ho]; simp only [pd_rcv, hg, ob]; exact hx.2) hc k
theorem E_s2x {c a ci : Nat} {fs : List Value} {a2 : Value} {E : Nat} {h' : pd_H} (f : pd_fetch mi pc = some (.invokespecial c, np)) (hg : pd_get h a = ob ci fs) (hx : (pd_chk (.invokespecial c) c [.ref a, a2] st && ci == pd_o c) = true) (hc : Ca c [.ref a, a2] h (.inr E, h')) (k : pd_catch mi E h' = some r) : Rn mi pc lv (a2 :: .ref a :: st) h r := by
  simp only [Bool.and_eq_true] at hx
  have ho : pd_op (.invokespecial c) = 3 := pd_op3 hx.1
  exact E_run f rfl hx.1 (by rw [ho]; simp only [pd_rcv, hg, ob]; exact hx.2) hc k
theorem E_c3v {c : Nat} {a1 a2 a3 : Value} {v : Value} {h' : pd_H} (f : pd_fetch mi pc = some (.invokestatic c, np)) (hx : pd_chk (.invokestatic c) c [a1, a2, a3] st = true) (hc : Ca c [a1, a2, a3] h (.inl (some v), h')) (k : Rn mi np lv (v :: st) h' r) : Rn mi pc lv (a3 :: a2 :: a1 :: st) h r := by
  have ho : pd_op (.invokestatic c) = 4 := pd_op4 hx
  exact E_run f rfl hx (by rw [ho]; rfl) hc k
theorem E_c3u {c : Nat} {a1 a2 a3 : Value} {h' : pd_H} (f : pd_fetch mi pc = some (.invokestatic c, np)) (hx : pd_chk (.invokestatic c) c [a1, a2, a3] st = true) (hc : Ca c [a1, a2, a3] h (.inl none, h')) (k : Rn mi np lv st h' r) : Rn mi pc lv (a3 :: a2 :: a1 :: st) h r := by
  have ho : pd_op (.invokestatic c) = 4 := pd_op4 hx
  exact E_run f rfl hx (by rw [ho]; rfl) hc k
theorem E_c3x {c E : Nat} {a1 a2 a3 : Value} {h' : pd_H} (f : pd_fetch mi pc = some (.invokestatic c, np)) (hx : pd_chk (.invokestatic c) c [a1, a2, a3] st = true) (hc : Ca c [a1, a2, a3] h (.inr E, h')) (k : pd_catch mi E h' = some r) : Rn mi pc lv (a3 :: a2 :: a1 :: st) h r := by
  have ho : pd_op (.invokestatic c) = 4 := pd_op4 hx
  exact E_run f rfl hx (by rw [ho]; rfl) hc k
theorem E_v3v {c a ci : Nat} {fs : List Value} {a2 a3 : Value} {v : Value} {h' : pd_H} (f : pd_fetch mi pc = some (.invokevirtual c, np)) (hg : pd_get h a = ob ci fs) (hx : (pd_chk (.invokevirtual c) c [.ref a, a2, a3] st && ci == pd_o c) = true) (hc : Ca c [.ref a, a2, a3] h (.inl (some v), h')) (k : Rn mi np lv (v :: st) h' r) : Rn mi pc lv (a3 :: a2 :: .ref a :: st) h r := by
  simp only [Bool.and_eq_true] at hx
  have ho : pd_op (.invokevirtual c) = 3 := rfl
  exact E_run f rfl hx.1 (by rw [ho]; simp only [pd_rcv, hg, ob]; exact hx.2) hc k
theorem E_v3u {c a ci : Nat} {fs : List Value} {a2 a3 : Value} {h' : pd_H} (f : pd_fetch mi pc = some (.invokevirtual c, np)) (hg : pd_get h a = ob ci fs) (hx : (pd_chk (.invokevirtual c) c [.ref a, a2, a3] st && ci == pd_o c) = true) (hc : Ca c [.ref a, a2, a3] h (.inl none, h')) (k : Rn mi np lv st h' r) : Rn mi pc lv (a3 :: a2 :: .ref a :: st) h r := by
  simp only [Bool.and_eq_true] at hx
  have ho : pd_op (.invokevirtual c) = 3 := rfl
  exact E_run f rfl hx.1 (by rw [ho]; simp only [pd_rcv, hg, ob]; exact hx.2) hc k
theorem E_v3x {c a ci : Nat} {fs : List Value} {a2 a3 : Value} {E : Nat} {h' : pd_H} (f : pd_fetch mi pc = some (.invokevirtual c, np)) (hg : pd_get h a = ob ci fs) (hx : (pd_chk (.invokevirtual c) c [.ref a, a2, a3] st && ci == pd_o c) = true) (hc : Ca c [.ref a, a2, a3] h (.inr E, h')) (k : pd_catch mi E h' = some r) : Rn mi pc lv (a3 :: a2 :: .ref a :: st) h r := by
  simp only [Bool.and_eq_true] at hx
  have ho : pd_op (.invokevirtual c) = 3 := rfl
  exact E_run f rfl hx.1 (by rw [ho]; simp only [pd_rcv, hg, ob]; exact hx.2) hc k
theorem E_s3v {c a ci : Nat} {fs : List Value} {a2 a3 : Value} {v : Value} {h' : pd_H} (f : pd_fetch mi pc = some (.invokespecial c, np)) (hg : pd_get h a = ob ci fs) (hx : (pd_chk (.invokespecial c) c [.ref a, a2, a3] st && ci == pd_o c) = true) (hc : Ca c [.ref a, a2, a3] h (.inl (some v), h')) (k : Rn mi np lv (v :: st) h' r) : Rn mi pc lv (a3 :: a2 :: .ref a :: st) h r := by
  simp only [Bool.and_eq_true] at hx
  have ho : pd_op (.invokespecial c) = 3 := pd_op3 hx.1
  exact E_run f rfl hx.1 (by rw [ho]; simp only [pd_rcv, hg, ob]; exact hx.2) hc k
theorem E_s3u {c a ci : Nat} {fs : List Value} {a2 a3 : Value} {h' : pd_H} (f : pd_fetch mi pc = some (.invokespecial c, np)) (hg : pd_get h a = ob ci fs) (hx : (pd_chk (.invokespecial c) c [.ref a, a2, a3] st && ci == pd_o c) = true) (hc : Ca c [.ref a, a2, a3] h (.inl none, h')) (k : Rn mi np lv st h' r) : Rn mi pc lv (a3 :: a2 :: .ref a :: st) h r := by
  simp only [Bool.and_eq_true] at hx
  have ho : pd_op (.invokespecial c) = 3 := pd_op3 hx.1
  exact E_run f rfl hx.1 (by rw [ho]; simp only [pd_rcv, hg, ob]; exact hx.2) hc k
theorem E_s3x {c a ci : Nat} {fs : List Value} {a2 a3 : Value} {E : Nat} {h' : pd_H} (f : pd_fetch mi pc = some (.invokespecial c, np)) (hg : pd_get h a = ob ci fs) (hx : (pd_chk (.invokespecial c) c [.ref a, a2, a3] st && ci == pd_o c) = true) (hc : Ca c [.ref a, a2, a3] h (.inr E, h')) (k : pd_catch mi E h' = some r) : Rn mi pc lv (a3 :: a2 :: .ref a :: st) h r := by
  simp only [Bool.and_eq_true] at hx
  have ho : pd_op (.invokespecial c) = 3 := pd_op3 hx.1
  exact E_run f rfl hx.1 (by rw [ho]; simp only [pd_rcv, hg, ob]; exact hx.2) hc k
theorem E_c4v {c : Nat} {a1 a2 a3 a4 : Value} {v : Value} {h' : pd_H} (f : pd_fetch mi pc = some (.invokestatic c, np)) (hx : pd_chk (.invokestatic c) c [a1, a2, a3, a4] st = true) (hc : Ca c [a1, a2, a3, a4] h (.inl (some v), h')) (k : Rn mi np lv (v :: st) h' r) : Rn mi pc lv (a4 :: a3 :: a2 :: a1 :: st) h r := by
  have ho : pd_op (.invokestatic c) = 4 := pd_op4 hx
  exact E_run f rfl hx (by rw [ho]; rfl) hc k
theorem E_c4u {c : Nat} {a1 a2 a3 a4 : Value} {h' : pd_H} (f : pd_fetch mi pc = some (.invokestatic c, np)) (hx : pd_chk (.invokestatic c) c [a1, a2, a3, a4] st = true) (hc : Ca c [a1, a2, a3, a4] h (.inl none, h')) (k : Rn mi np lv st h' r) : Rn mi pc lv (a4 :: a3 :: a2 :: a1 :: st) h r := by
  have ho : pd_op (.invokestatic c) = 4 := pd_op4 hx
  exact E_run f rfl hx (by rw [ho]; rfl) hc k
theorem E_c4x {c E : Nat} {a1 a2 a3 a4 : Value} {h' : pd_H} (f : pd_fetch mi pc = some (.invokestatic c, np)) (hx : pd_chk (.invokestatic c) c [a1, a2, a3, a4] st = true) (hc : Ca c [a1, a2, a3, a4] h (.inr E, h')) (k : pd_catch mi E h' = some r) : Rn mi pc lv (a4 :: a3 :: a2 :: a1 :: st) h r := by
  have ho : pd_op (.invokestatic c) = 4 := pd_op4 hx
  exact E_run f rfl hx (by rw [ho]; rfl) hc k
theorem E_v4v {c a ci : Nat} {fs : List Value} {a2 a3 a4 : Value} {v : Value} {h' : pd_H} (f : pd_fetch mi pc = some (.invokevirtual c, np)) (hg : pd_get h a = ob ci fs) (hx : (pd_chk (.invokevirtual c) c [.ref a, a2, a3, a4] st && ci == pd_o c) = true) (hc : Ca c [.ref a, a2, a3, a4] h (.inl (some v), h')) (k : Rn mi np lv (v :: st) h' r) : Rn mi pc lv (a4 :: a3 :: a2 :: .ref a :: st) h r := by
  simp only [Bool.and_eq_true] at hx
  have ho : pd_op (.invokevirtual c) = 3 := rfl
  exact E_run f rfl hx.1 (by rw [ho]; simp only [pd_rcv, hg, ob]; exact hx.2) hc k
theorem E_v4u {c a ci : Nat} {fs : List Value} {a2 a3 a4 : Value} {h' : pd_H} (f : pd_fetch mi pc = some (.invokevirtual c, np)) (hg : pd_get h a = ob ci fs) (hx : (pd_chk (.invokevirtual c) c [.ref a, a2, a3, a4] st && ci == pd_o c) = true) (hc : Ca c [.ref a, a2, a3, a4] h (.inl none, h')) (k : Rn mi np lv st h' r) : Rn mi pc lv (a4 :: a3 :: a2 :: .ref a :: st) h r := by
  simp only [Bool.and_eq_true] at hx
  have ho : pd_op (.invokevirtual c) = 3 := rfl
  exact E_run f rfl hx.1 (by rw [ho]; simp only [pd_rcv, hg, ob]; exact hx.2) hc k
theorem E_v4x {c a ci : Nat} {fs : List Value} {a2 a3 a4 : Value} {E : Nat} {h' : pd_H} (f : pd_fetch mi pc = some (.invokevirtual c, np)) (hg : pd_get h a = ob ci fs) (hx : (pd_chk (.invokevirtual c) c [.ref a, a2, a3, a4] st && ci == pd_o c) = true) (hc : Ca c [.ref a, a2, a3, a4] h (.inr E, h')) (k : pd_catch mi E h' = some r) : Rn mi pc lv (a4 :: a3 :: a2 :: .ref a :: st) h r := by
  simp only [Bool.and_eq_true] at hx
  have ho : pd_op (.invokevirtual c) = 3 := rfl
  exact E_run f rfl hx.1 (by rw [ho]; simp only [pd_rcv, hg, ob]; exact hx.2) hc k
theorem E_s4v {c a ci : Nat} {fs : List Value} {a2 a3 a4 : Value} {v : Value} {h' : pd_H} (f : pd_fetch mi pc = some (.invokespecial c, np)) (hg : pd_get h a = ob ci fs) (hx : (pd_chk (.invokespecial c) c [.ref a, a2, a3, a4] st && ci == pd_o c) = true) (hc : Ca c [.ref a, a2, a3, a4] h (.inl (some v), h')) (k : Rn mi np lv (v :: st) h' r) : Rn mi pc lv (a4 :: a3 :: a2 :: .ref a :: st) h r := by
  simp only [Bool.and_eq_true] at hx
  have ho : pd_op (.invokespecial c) = 3 := pd_op3 hx.1
  exact E_run f rfl hx.1 (by rw [ho]; simp only [pd_rcv, hg, ob]; exact hx.2) hc k
theorem E_s4u {c a ci : Nat} {fs : List Value} {a2 a3 a4 : Value} {h' : pd_H} (f : pd_fetch mi pc = some (.invokespecial c, np)) (hg : pd_get h a = ob ci fs) (hx : (pd_chk (.invokespecial c) c [.ref a, a2, a3, a4] st && ci == pd_o c) = true) (hc : Ca c [.ref a, a2, a3, a4] h (.inl none, h')) (k : Rn mi np lv st h' r) : Rn mi pc lv (a4 :: a3 :: a2 :: .ref a :: st) h r := by
  simp only [Bool.and_eq_true] at hx
  have ho : pd_op (.invokespecial c) = 3 := pd_op3 hx.1
  exact E_run f rfl hx.1 (by rw [ho]; simp only [pd_rcv, hg, ob]; exact hx.2) hc k
theorem E_s4x {c a ci : Nat} {fs : List Value} {a2 a3 a4 : Value} {E : Nat} {h' : pd_H} (f : pd_fetch mi pc = some (.invokespecial c, np)) (hg : pd_get h a = ob ci fs) (hx : (pd_chk (.invokespecial c) c [.ref a, a2, a3, a4] st && ci == pd_o c) = true) (hc : Ca c [.ref a, a2, a3, a4] h (.inr E, h')) (k : pd_catch mi E h' = some r) : Rn mi pc lv (a4 :: a3 :: a2 :: .ref a :: st) h r := by
  simp only [Bool.and_eq_true] at hx
  have ho : pd_op (.invokespecial c) = 3 := pd_op3 hx.1
  exact E_run f rfl hx.1 (by rw [ho]; simp only [pd_rcv, hg, ob]; exact hx.2) hc k
theorem E_c5v {c : Nat} {a1 a2 a3 a4 a5 : Value} {v : Value} {h' : pd_H} (f : pd_fetch mi pc = some (.invokestatic c, np)) (hx : pd_chk (.invokestatic c) c [a1, a2, a3, a4, a5] st = true) (hc : Ca c [a1, a2, a3, a4, a5] h (.inl (some v), h')) (k : Rn mi np lv (v :: st) h' r) : Rn mi pc lv (a5 :: a4 :: a3 :: a2 :: a1 :: st) h r := by
  have ho : pd_op (.invokestatic c) = 4 := pd_op4 hx
  exact E_run f rfl hx (by rw [ho]; rfl) hc k
theorem E_c5u {c : Nat} {a1 a2 a3 a4 a5 : Value} {h' : pd_H} (f : pd_fetch mi pc = some (.invokestatic c, np)) (hx : pd_chk (.invokestatic c) c [a1, a2, a3, a4, a5] st = true) (hc : Ca c [a1, a2, a3, a4, a5] h (.inl none, h')) (k : Rn mi np lv st h' r) : Rn mi pc lv (a5 :: a4 :: a3 :: a2 :: a1 :: st) h r := by
  have ho : pd_op (.invokestatic c) = 4 := pd_op4 hx
  exact E_run f rfl hx (by rw [ho]; rfl) hc k
theorem E_c5x {c E : Nat} {a1 a2 a3 a4 a5 : Value} {h' : pd_H} (f : pd_fetch mi pc = some (.invokestatic c, np)) (hx : pd_chk (.invokestatic c) c [a1, a2, a3, a4, a5] st = true) (hc : Ca c [a1, a2, a3, a4, a5] h (.inr E, h')) (k : pd_catch mi E h' = some r) : Rn mi pc lv (a5 :: a4 :: a3 :: a2 :: a1 :: st) h r := by
  have ho : pd_op (.invokestatic c) = 4 := pd_op4 hx
  exact E_run f rfl hx (by rw [ho]; rfl) hc k
theorem E_v5v {c a ci : Nat} {fs : List Value} {a2 a3 a4 a5 : Value} {v : Value} {h' : pd_H} (f : pd_fetch mi pc = some (.invokevirtual c, np)) (hg : pd_get h a = ob ci fs) (hx : (pd_chk (.invokevirtual c) c [.ref a, a2, a3, a4, a5] st && ci == pd_o c) = true) (hc : Ca c [.ref a, a2, a3, a4, a5] h (.inl (some v), h')) (k : Rn mi np lv (v :: st) h' r) : Rn mi pc lv (a5 :: a4 :: a3 :: a2 :: .ref a :: st) h r := by
  simp only [Bool.and_eq_true] at hx
  have ho : pd_op (.invokevirtual c) = 3 := rfl
  exact E_run f rfl hx.1 (by rw [ho]; simp only [pd_rcv, hg, ob]; exact hx.2) hc k
theorem E_v5u {c a ci : Nat} {fs : List Value} {a2 a3 a4 a5 : Value} {h' : pd_H} (f : pd_fetch mi pc = some (.invokevirtual c, np)) (hg : pd_get h a = ob ci fs) (hx : (pd_chk (.invokevirtual c) c [.ref a, a2, a3, a4, a5] st && ci == pd_o c) = true) (hc : Ca c [.ref a, a2, a3, a4, a5] h (.inl none, h')) (k : Rn mi np lv st h' r) : Rn mi pc lv (a5 :: a4 :: a3 :: a2 :: .ref a :: st) h r := by
  simp only [Bool.and_eq_true] at hx
  have ho : pd_op (.invokevirtual c) = 3 := rfl
  exact E_run f rfl hx.1 (by rw [ho]; simp only [pd_rcv, hg, ob]; exact hx.2) hc k
theorem E_v5x {c a ci : Nat} {fs : List Value} {a2 a3 a4 a5 : Value} {E : Nat} {h' : pd_H} (f : pd_fetch mi pc = some (.invokevirtual c, np)) (hg : pd_get h a = ob ci fs) (hx : (pd_chk (.invokevirtual c) c [.ref a, a2, a3, a4, a5] st && ci == pd_o c) = true) (hc : Ca c [.ref a, a2, a3, a4, a5] h (.inr E, h')) (k : pd_catch mi E h' = some r) : Rn mi pc lv (a5 :: a4 :: a3 :: a2 :: .ref a :: st) h r := by
  simp only [Bool.and_eq_true] at hx
  have ho : pd_op (.invokevirtual c) = 3 := rfl
  exact E_run f rfl hx.1 (by rw [ho]; simp only [pd_rcv, hg, ob]; exact hx.2) hc k
theorem E_s5v {c a ci : Nat} {fs : List Value} {a2 a3 a4 a5 : Value} {v : Value} {h' : pd_H} (f : pd_fetch mi pc = some (.invokespecial c, np)) (hg : pd_get h a = ob ci fs) (hx : (pd_chk (.invokespecial c) c [.ref a, a2, a3, a4, a5] st && ci == pd_o c) = true) (hc : Ca c [.ref a, a2, a3, a4, a5] h (.inl (some v), h')) (k : Rn mi np lv (v :: st) h' r) : Rn mi pc lv (a5 :: a4 :: a3 :: a2 :: .ref a :: st) h r := by
  simp only [Bool.and_eq_true] at hx
  have ho : pd_op (.invokespecial c) = 3 := pd_op3 hx.1
  exact E_run f rfl hx.1 (by rw [ho]; simp only [pd_rcv, hg, ob]; exact hx.2) hc k
theorem E_s5u {c a ci : Nat} {fs : List Value} {a2 a3 a4 a5 : Value} {h' : pd_H} (f : pd_fetch mi pc = some (.invokespecial c, np)) (hg : pd_get h a = ob ci fs) (hx : (pd_chk (.invokespecial c) c [.ref a, a2, a3, a4, a5] st && ci == pd_o c) = true) (hc : Ca c [.ref a, a2, a3, a4, a5] h (.inl none, h')) (k : Rn mi np lv st h' r) : Rn mi pc lv (a5 :: a4 :: a3 :: a2 :: .ref a :: st) h r := by
  simp only [Bool.and_eq_true] at hx
  have ho : pd_op (.invokespecial c) = 3 := pd_op3 hx.1
  exact E_run f rfl hx.1 (by rw [ho]; simp only [pd_rcv, hg, ob]; exact hx.2) hc k
theorem E_s5x {c a ci : Nat} {fs : List Value} {a2 a3 a4 a5 : Value} {E : Nat} {h' : pd_H} (f : pd_fetch mi pc = some (.invokespecial c, np)) (hg : pd_get h a = ob ci fs) (hx : (pd_chk (.invokespecial c) c [.ref a, a2, a3, a4, a5] st && ci == pd_o c) = true) (hc : Ca c [.ref a, a2, a3, a4, a5] h (.inr E, h')) (k : pd_catch mi E h' = some r) : Rn mi pc lv (a5 :: a4 :: a3 :: a2 :: .ref a :: st) h r := by
  simp only [Bool.and_eq_true] at hx
  have ho : pd_op (.invokespecial c) = 3 := pd_op3 hx.1
  exact E_run f rfl hx.1 (by rw [ho]; simp only [pd_rcv, hg, ob]; exact hx.2) hc k
theorem E_c6v {c : Nat} {a1 a2 a3 a4 a5 a6 : Value} {v : Value} {h' : pd_H} (f : pd_fetch mi pc = some (.invokestatic c, np)) (hx : pd_chk (.invokestatic c) c [a1, a2, a3, a4, a5, a6] st = true) (hc : Ca c [a1, a2, a3, a4, a5, a6] h (.inl (some v), h')) (k : Rn mi np lv (v :: st) h' r) : Rn mi pc lv (a6 :: a5 :: a4 :: a3 :: a2 :: a1 :: st) h r := by
  have ho : pd_op (.invokestatic c) = 4 := pd_op4 hx
  exact E_run f rfl hx (by rw [ho]; rfl) hc k
theorem E_c6u {c : Nat} {a1 a2 a3 a4 a5 a6 : Value} {h' : pd_H} (f : pd_fetch mi pc = some (.invokestatic c, np)) (hx : pd_chk (.invokestatic c) c [a1, a2, a3, a4, a5, a6] st = true) (hc : Ca c [a1, a2, a3, a4, a5, a6] h (.inl none, h')) (k : Rn mi np lv st h' r) : Rn mi pc lv (a6 :: a5 :: a4 :: a3 :: a2 :: a1 :: st) h r := by
  have ho : pd_op (.invokestatic c) = 4 := pd_op4 hx
  exact E_run f rfl hx (by rw [ho]; rfl) hc k
theorem E_c6x {c E : Nat} {a1 a2 a3 a4 a5 a6 : Value} {h' : pd_H} (f : pd_fetch mi pc = some (.invokestatic c, np)) (hx : pd_chk (.invokestatic c) c [a1, a2, a3, a4, a5, a6] st = true) (hc : Ca c [a1, a2, a3, a4, a5, a6] h (.inr E, h')) (k : pd_catch mi E h' = some r) : Rn mi pc lv (a6 :: a5 :: a4 :: a3 :: a2 :: a1 :: st) h r := by
  have ho : pd_op (.invokestatic c) = 4 := pd_op4 hx
  exact E_run f rfl hx (by rw [ho]; rfl) hc k
theorem E_v6v {c a ci : Nat} {fs : List Value} {a2 a3 a4 a5 a6 : Value} {v : Value} {h' : pd_H} (f : pd_fetch mi pc = some (.invokevirtual c, np)) (hg : pd_get h a = ob ci fs) (hx : (pd_chk (.invokevirtual c) c [.ref a, a2, a3, a4, a5, a6] st && ci == pd_o c) = true) (hc : Ca c [.ref a, a2, a3, a4, a5, a6] h (.inl (some v), h')) (k : Rn mi np lv (v :: st) h' r) : Rn mi pc lv (a6 :: a5 :: a4 :: a3 :: a2 :: .ref a :: st) h r := by
  simp only [Bool.and_eq_true] at hx
  have ho : pd_op (.invokevirtual c) = 3 := rfl
  exact E_run f rfl hx.1 (by rw [ho]; simp only [pd_rcv, hg, ob]; exact hx.2) hc k
theorem E_v6u {c a ci : Nat} {fs : List Value} {a2 a3 a4 a5 a6 : Value} {h' : pd_H} (f : pd_fetch mi pc = some (.invokevirtual c, np)) (hg : pd_get h a = ob ci fs) (hx : (pd_chk (.invokevirtual c) c [.ref a, a2, a3, a4, a5, a6] st && ci == pd_o c) = true) (hc : Ca c [.ref a, a2, a3, a4, a5, a6] h (.inl none, h')) (k : Rn mi np lv st h' r) : Rn mi pc lv (a6 :: a5 :: a4 :: a3 :: a2 :: .ref a :: st) h r := by
  simp only [Bool.and_eq_true] at hx
  have ho : pd_op (.invokevirtual c) = 3 := rfl
  exact E_run f rfl hx.1 (by rw [ho]; simp only [pd_rcv, hg, ob]; exact hx.2) hc k
theorem E_v6x {c a ci : Nat} {fs : List Value} {a2 a3 a4 a5 a6 : Value} {E : Nat} {h' : pd_H} (f : pd_fetch mi pc = some (.invokevirtual c, np)) (hg : pd_get h a = ob ci fs) (hx : (pd_chk (.invokevirtual c) c [.ref a, a2, a3, a4, a5, a6] st && ci == pd_o c) = true) (hc : Ca c [.ref a, a2, a3, a4, a5, a6] h (.inr E, h')) (k : pd_catch mi E h' = some r) : Rn mi pc lv (a6 :: a5 :: a4 :: a3 :: a2 :: .ref a :: st) h r := by
  simp only [Bool.and_eq_true] at hx
  have ho : pd_op (.invokevirtual c) = 3 := rfl
  exact E_run f rfl hx.1 (by rw [ho]; simp only [pd_rcv, hg, ob]; exact hx.2) hc k
theorem E_s6v {c a ci : Nat} {fs : List Value} {a2 a3 a4 a5 a6 : Value} {v : Value} {h' : pd_H} (f : pd_fetch mi pc = some (.invokespecial c, np)) (hg : pd_get h a = ob ci fs) (hx : (pd_chk (.invokespecial c) c [.ref a, a2, a3, a4, a5, a6] st && ci == pd_o c) = true) (hc : Ca c [.ref a, a2, a3, a4, a5, a6] h (.inl (some v), h')) (k : Rn mi np lv (v :: st) h' r) : Rn mi pc lv (a6 :: a5 :: a4 :: a3 :: a2 :: .ref a :: st) h r := by
  simp only [Bool.and_eq_true] at hx
  have ho : pd_op (.invokespecial c) = 3 := pd_op3 hx.1
  exact E_run f rfl hx.1 (by rw [ho]; simp only [pd_rcv, hg, ob]; exact hx.2) hc k
theorem E_s6u {c a ci : Nat} {fs : List Value} {a2 a3 a4 a5 a6 : Value} {h' : pd_H} (f : pd_fetch mi pc = some (.invokespecial c, np)) (hg : pd_get h a = ob ci fs) (hx : (pd_chk (.invokespecial c) c [.ref a, a2, a3, a4, a5, a6] st && ci == pd_o c) = true) (hc : Ca c [.ref a, a2, a3, a4, a5, a6] h (.inl none, h')) (k : Rn mi np lv st h' r) : Rn mi pc lv (a6 :: a5 :: a4 :: a3 :: a2 :: .ref a :: st) h r := by
  simp only [Bool.and_eq_true] at hx
  have ho : pd_op (.invokespecial c) = 3 := pd_op3 hx.1
  exact E_run f rfl hx.1 (by rw [ho]; simp only [pd_rcv, hg, ob]; exact hx.2) hc k
theorem E_s6x {c a ci : Nat} {fs : List Value} {a2 a3 a4 a5 a6 : Value} {E : Nat} {h' : pd_H} (f : pd_fetch mi pc = some (.invokespecial c, np)) (hg : pd_get h a = ob ci fs) (hx : (pd_chk (.invokespecial c) c [.ref a, a2, a3, a4, a5, a6] st && ci == pd_o c) = true) (hc : Ca c [.ref a, a2, a3, a4, a5, a6] h (.inr E, h')) (k : pd_catch mi E h' = some r) : Rn mi pc lv (a6 :: a5 :: a4 :: a3 :: a2 :: .ref a :: st) h r := by
  simp only [Bool.and_eq_true] at hx
  have ho : pd_op (.invokespecial c) = 3 := pd_op3 hx.1
  exact E_run f rfl hx.1 (by rw [ho]; simp only [pd_rcv, hg, ob]; exact hx.2) hc k
end PDR
