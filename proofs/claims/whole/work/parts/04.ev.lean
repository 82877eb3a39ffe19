/-! The pure machine: heaps as functions from small addresses, methods by number, one step a resolved instruction. -/
abbrev pd_E : Type := (Nat × vp_A) ⊕ (Nat × List Value)
/-- ((cells made, slots made, cells held), contents); address 0 is the law's script -/
abbrev pd_H : Type := (Nat × Nat × Nat) × (Nat → pd_E)
abbrev pd_Out : Type := Option Value ⊕ Nat
def pd_dead : pd_E := .inr (99, [])
def pd_get (h : pd_H) (a : Nat) : pd_E := h.2 a
def pd_put (h : pd_H) (a : Nat) (c : pd_E) : pd_H := (h.1, fun k => if k = a then c else h.2 k)
def pd_thr (h : pd_H) : pd_H := ((h.1.1 + 1, h.1.2.1 + 6, h.1.2.2), h.2)
def pd_new (h : pd_H) (n : Nat) (c : pd_E) : pd_H := ((h.1.1 + 1, h.1.2.1 + n, h.1.2.2 + 1), fun k => if k = h.1.2.2 + 1 then c else h.2 k)
def pd_dum : Value := .retAddr 0
def pd_wide : Value → Bool
  | .long _ => true
  | .double _ => true
  | _ => false
/-- the slot below a stored one loses a wide value -/
def pd_cln (lv : List Value) (k : Nat) : List Value := match k with
  | 0 => lv
  | j + 1 => if pd_wide (lv.getD j pd_dum) then lv.set j pd_dum else lv
def pd_s1 (lv : List Value) (k : Nat) (v : Value) : List Value := (pd_cln lv k).set k v
def pd_s2 (lv : List Value) (k : Nat) (v : Value) : List Value := ((pd_cln lv k).set k v).set (k + 1) pd_dum
def pd_sl : List Value → List Value
  | [] => []
  | v :: vs => if pd_wide v then v :: pd_dum :: pd_sl vs else v :: pd_sl vs
def pd_ent (n : Nat) (vs : List Value) : List Value := pd_sl vs ++ List.replicate (n - (pd_sl vs).length) pd_dum
def pd_cat (st : List Value) : Nat := (st.map fun v => v.category).sum
def pd_lk (l : List (Nat × Nat × Nat)) (o i : Nat) : Option Nat := (l.find? (fun e => e.1 == o && e.2.1 == i)).map (fun e => e.2.2)
def pd_lkZ (l : List (Nat × Nat × Int)) (o i : Nat) : Option Int := (l.find? (fun e => e.1 == o && e.2.1 == i)).map (fun e => e.2.2)
def pd_h (mi : Nat) : List (Nat × Nat × Nat × Nat) := ((pd_HT.find? (fun e => e.1 == mi)).map (fun e => e.2)).getD []
def pd_ct (mi E : Nat) : Option (Nat × Int) := (pd_CT.find? (fun e => e.1 == mi && e.2.1 == E)).map (fun e => e.2.2)
def pd_len : Instr → Nat
  | .iconst _ => 1 | .bipush _ => 2 | .sipush _ => 3 | .lconst _ => 1 | .ldc2_w _ => 3
  | .iload_n _ => 1 | .lload_n _ => 1 | .aload_n _ => 1 | .iload _ => 2 | .lload _ => 2 | .aload _ => 2
  | .istore_n _ => 1 | .lstore_n _ => 1 | .astore_n _ => 1 | .istore _ => 2 | .lstore _ => 2 | .astore _ => 2
  | .iinc _ _ => 3 | .goto _ => 3 | .ifCond _ _ => 3 | .if_icmp _ _ => 3
  | .getfield _ => 3 | .putfield _ => 3 | .invokevirtual _ => 3 | .invokespecial _ => 3 | .invokestatic _ => 3
  | .new _ => 3 | .newarray _ => 2 | .anewarray _ => 3
  | _ => 1
/-- may method mi put into field c (a final one only in its own constructor) -/
def pd_pf (mi c : Nat) : Bool := !(pd_ft (c / 100) (c % 100)).2.2.2 || ((pd_y mi).name == "<init>" && pd_o mi == c / 100)
def pd_room (mi c : Nat) : Bool := decide (pd_fr c + 1 ≤ pd_fr mi) && decide (19 + pd_n c + pd_lo c ≤ pd_lo mi)
def pd_in (mi pc : Nat) : Bool := (pd_h mi).all (fun e => decide (e.1 ≤ pc) && decide (pc < e.2.1))
/-- a call site: the callee's number, its room, the caller's table -/
def pd_call (mi pc c : Nat) : Option Nat := if c < 202 && (pd_room mi c && pd_in mi pc) then some c else none
def pd_tgt (pc : Nat) (o : Int) : Option Int := if 0 ≤ (pc : Int) + o then some ((pc : Int) + o) else none
/-- an instruction with its links resolved: fields as class * 100 + place, methods by number, targets absolute, long constants as jsr -/
def pd_res (mi pc : Nat) (i : Instr) : Option Instr := match i with
  | .iconst n => some (.iconst n)
  | .bipush n => if (Int8.ofInt n).toInt32 = Int32.ofInt n then some (.iconst n) else none
  | .sipush n => if (Int16.ofInt n).toInt32 = Int32.ofInt n then some (.iconst n) else none
  | .lconst n => some (.jsr (n : Nat))
  | .ldc2_w k => (pd_lkZ pd_KL (pd_o mi) k).map .jsr
  | .iload_n k => some (.iload k)
  | .lload_n k => some (.lload k)
  | .aload_n k => some (.aload k)
  | .istore_n k => some (.istore k)
  | .lstore_n k => some (.lstore k)
  | .astore_n k => some (.astore k)
  | .goto o => (pd_tgt pc o).map .goto
  | .ifCond c o => (pd_tgt pc o).map (.ifCond c)
  | .if_icmp c o => (pd_tgt pc o).map (.if_icmp c)
  | .tableswitch d lo hi os => if (d :: os.toList).all (fun o => decide (0 ≤ (pc : Int) + o)) then some (.tableswitch (pc + d) lo hi (os.toList.map (fun o => (pc : Int) + o)).toArray) else none
  | .getfield k => (pd_lk pd_FL (pd_o mi) k).map .getfield
  | .putfield k => (pd_lk pd_FL (pd_o mi) k).bind (fun c => if pd_pf mi c then some (.putfield c) else none)
  | .invokevirtual k => (pd_lk pd_ML (pd_o mi) k).bind (fun c => if pd_st c then none else (pd_call mi pc c).map .invokevirtual)
  | .invokespecial k => match pd_lk pd_ML (pd_o mi) k with
    | some 1000 => if pd_fr mi = 0 ∨ pd_lo mi < 20 then none else some (.invokespecial 1000)
    | some c => if pd_st c || !((pd_y c).name == "<init>") then none else (pd_call mi pc c).map .invokespecial
    | none => (pd_lk pd_NL (pd_o mi) k).bind (fun c => if pd_st c || !((pd_y c).name == "<init>") then none else (pd_call mi pc c).map .invokespecial)
  | .invokestatic k => (pd_lk pd_ML (pd_o mi) k).bind (fun c => if 1001 ≤ c then (if c ≤ 1004 ∧ 1 ≤ pd_fr mi ∧ 40 ≤ pd_lo mi ∧ (c = 1004 → 60 ≤ pd_lo mi) then some (.invokestatic c) else none) else if pd_st c then (pd_call mi pc c).map .invokestatic else none)
  | .new k => match pd_lk pd_XL (pd_o mi) k with
    | some e => if 6 ≤ pd_fr mi ∧ 90 ≤ pd_lo mi ∧ pd_h mi = [] then some (.new (1000 + e)) else none
    | none => (pd_lk pd_CL (pd_o mi) k).map .new
  | .newarray t => if t = .int ∨ t = .long ∨ t = .boolean then some (.newarray t) else none
  | .anewarray k => if pd_lk pd_CL (pd_o mi) k = some 4 then some (.anewarray 4) else none
  | .jsr _ => none
  | i => some i
def pd_ok (mi pc : Nat) (i : Instr) (n : Nat) : Option (Instr × Nat) := match i with
  | .tableswitch _ _ _ _ => (pd_res mi pc i).map (fun j => (j, pc + n))
  | _ => if n = pd_len i then (pd_res mi pc i).map (fun j => (j, pc + n)) else none
/-- the instruction at pc of method mi, resolved, and the next pc -/
def pd_fetch (mi pc : Nat) : Option (Instr × Nat) := match decode (pd_c mi) pc with
  | .ok (i, n) => pd_ok mi pc i n
  | .error _ => none
def pd_cnd (c : ClassFile.Cond) (x y : Int32) : Bool := match c with
  | .eq => decide (x = y)
  | .ne => decide (¬ x = y)
  | .lt => decide (x < y)
  | .ge => decide (y ≤ x)
  | .gt => decide (y < x)
  | .le => decide (x ≤ y)
def pd_fit (ty : FieldType) (v : Value) : Bool := match ty, v with
  | .int, .int _ => true
  | .long, .long _ => true
  | .object _, .ref _ => true
  | .array _, .ref _ => true
  | _, _ => false
def pd_def (ty : FieldType) : Value := match ty with
  | .int => .int 0
  | .long => .long 0
  | _ => .null
abbrev pd_S : Type := Nat × List Value × List Value × pd_H
/-- loads from arrays -/
def pd_ald (k : Nat) (c : pd_E) (i : Int32) : Option Value := match c with
  | .inl (t, n, d) => if i < 0 ∨ n ≤ i.toNatClampNeg then none else (match k, t, d with
    | 0, 0, .inl f => some (.int (f i.toNatClampNeg))
    | 0, 4, .inl f => some (.int (f i.toNatClampNeg))
    | 1, 1, .inr (.inl f) => some (.long (f i.toNatClampNeg))
    | 2, 2, .inl f => some (.int (f i.toNatClampNeg))
    | 3, 3, .inr (.inr (.inr (.inr f))) => (f i.toNatClampNeg).map .ref
    | _, _, _ => none)
  | .inr _ => none
def pd_ast (h : pd_H) (k : Nat) (c : pd_E) (i : Int32) (v : Value) : Option pd_E := match c with
  | .inl (t, n, d) => if i < 0 ∨ n ≤ i.toNatClampNeg then none else (match k, t, d, v with
    | 0, 0, .inl f, .int x => some (.inl (0, n, .inl (upd f i.toNatClampNeg x)))
    | 1, 1, .inr (.inl f), .long x => some (.inl (1, n, .inr (.inl (vp_updL f i.toNatClampNeg x))))
    | 2, 2, .inl f, .int x => some (.inl (2, n, .inl (upd f i.toNatClampNeg (vp_nar .boolean x))))
    | 3, 3, .inr (.inr (.inr (.inr f))), .ref q => (match pd_get h q with
      | .inr (4, _) => some (.inl (3, n, .inr (.inr (.inr (.inr (va_up f i.toNatClampNeg (some q)))))))
      | _ => none)
    | _, _, _, _ => none)
  | .inr _ => none
def pd_bin (i : Instr) (x y : Int32) : Option Int32 := match i with
  | .iadd => some (x + y)
  | .isub => some (x - y)
  | .imul => some (x * y)
  | .iand => some (x &&& y)
  | .ior => some (x ||| y)
  | .ishl => some (x <<< (y &&& 31))
  | .ishr => some (x >>> (y &&& 31))
  | .idiv => if y = 0 then none else some (x / y)
  | .irem => if y = 0 then none else some (x - x / y * y)
  | _ => none
def pd_binL (i : Instr) (x y : Int64) : Option Int64 := match i with
  | .ladd => some (x + y)
  | .lsub => some (x - y)
  | .lmul => some (x * y)
  | .land => some (x &&& y)
  | .lor => some (x ||| y)
  | .ldiv => if y = 0 then none else some (x / y)
  | .lrem => if y = 0 then none else some (x - x / y * y)
  | _ => none
def pd_shL (i : Instr) (x : Int64) (y : Int32) : Option Int64 := match i with
  | .lshl => some (x <<< (y.toInt64 &&& 63))
  | .lushr => some (x.toUInt64 >>> (y.toInt64.toUInt64 &&& Int64.toUInt64 63)).toInt64
  | _ => none
def pd_arr (t : ArrayType) (n : Nat) : Option pd_E := match t with
  | .int => some (.inl (0, n, .inl (fun _ => 0)))
  | .long => some (.inl (1, n, .inr (.inl (fun _ => 0))))
  | .boolean => some (.inl (2, n, .inl (fun _ => 0)))
  | _ => none
def pd_stp (np : Nat) (i : Instr) (lv st : List Value) (h : pd_H) : Option pd_S := match i with
  | .iconst n => some (np, lv, .int (Int32.ofInt n) :: st, h)
  | .jsr n => some (np, lv, .long (Int64.ofInt n) :: st, h)
  | .iload k => (match lv[k]? with | some (.int x) => some (np, lv, .int x :: st, h) | _ => none)
  | .lload k => (match lv[k]? with | some (.long x) => some (np, lv, .long x :: st, h) | _ => none)
  | .aload k => (match lv[k]? with | some (.ref x) => some (np, lv, .ref x :: st, h) | _ => none)
  | .istore k => (match st with | .int x :: r => if k < lv.length then some (np, pd_s1 lv k (.int x), r, h) else none | _ => none)
  | .lstore k => (match st with | .long x :: r => if k + 1 < lv.length then some (np, pd_s2 lv k (.long x), r, h) else none | _ => none)
  | .astore k => (match st with | .ref x :: r => if k < lv.length then some (np, pd_s1 lv k (.ref x), r, h) else none | _ => none)
  | .iinc k n => (match lv[k]? with | some (.int x) => some (np, pd_s1 lv k (.int (x + Int32.ofInt n)), st, h) | _ => none)
  | .goto t => some (t.toNat, lv, st, h)
  | .ifCond c t => (match st with | .int x :: r => some (if pd_cnd c x 0 then t.toNat else np, lv, r, h) | _ => none)
  | .if_icmp c t => (match st with | .int y :: .int x :: r => some (if pd_cnd c x y then t.toNat else np, lv, r, h) | _ => none)
  | .tableswitch d lo hi os => (match st with
    | .int x :: r => if x.toInt < lo ∨ hi < x.toInt then some (d.toNat, lv, r, h) else (match os[(x.toInt - lo).toNat]? with | some o => some (o.toNat, lv, r, h) | none => none)
    | _ => none)
  | .getfield c => (match st with
    | .ref a :: r => (match pd_get h a with
      | .inr (ci, fs) => if ci = c / 100 then (match fs[c % 100]? with | some v => some (np, lv, v :: r, h) | none => none) else none
      | .inl _ => none)
    | _ => none)
  | .putfield c => (match st with
    | v :: .ref a :: r => (match pd_get h a with
      | .inr (ci, fs) => if ci = c / 100 ∧ c % 100 < fs.length ∧ c % 100 < pd_fn ci ∧ pd_fit (pd_ty ci (c % 100)) v = true then some (np, lv, r, pd_put h a (.inr (ci, fs.set (c % 100) v))) else none
      | .inl _ => none)
    | _ => none)
  | .iaload => (match st with | .int i :: .ref a :: r => (pd_ald 0 (pd_get h a) i).map (fun v => (np, lv, v :: r, h)) | _ => none)
  | .laload => (match st with | .int i :: .ref a :: r => (pd_ald 1 (pd_get h a) i).map (fun v => (np, lv, v :: r, h)) | _ => none)
  | .baload => (match st with | .int i :: .ref a :: r => (pd_ald 2 (pd_get h a) i).map (fun v => (np, lv, v :: r, h)) | _ => none)
  | .aaload => (match st with | .int i :: .ref a :: r => (pd_ald 3 (pd_get h a) i).map (fun v => (np, lv, v :: r, h)) | _ => none)
  | .iastore => (match st with | v :: .int i :: .ref a :: r => (pd_ast h 0 (pd_get h a) i v).map (fun c => (np, lv, r, pd_put h a c)) | _ => none)
  | .lastore => (match st with | v :: .int i :: .ref a :: r => (pd_ast h 1 (pd_get h a) i v).map (fun c => (np, lv, r, pd_put h a c)) | _ => none)
  | .bastore => (match st with | v :: .int i :: .ref a :: r => (pd_ast h 2 (pd_get h a) i v).map (fun c => (np, lv, r, pd_put h a c)) | _ => none)
  | .aastore => (match st with | v :: .int i :: .ref a :: r => (pd_ast h 3 (pd_get h a) i v).map (fun c => (np, lv, r, pd_put h a c)) | _ => none)
  | .arraylength => (match st with
    | .ref a :: r => (match pd_get h a with | .inl (_, n, _) => some (np, lv, .int (Int32.ofNat n) :: r, h) | .inr _ => none)
    | _ => none)
  | .newarray t => (match st with
    | .int n :: r => if n < 0 ∨ 10000 < n.toNatClampNeg ∨ h.1.1 ≠ h.1.2.2 then none else (pd_arr t n.toNatClampNeg).map (fun c => (np, lv, .ref (h.1.2.2 + 1) :: r, pd_new h n.toNatClampNeg c))
    | _ => none)
  | .anewarray _ => (match st with
    | .int n :: r => if n < 0 ∨ 10000 < n.toNatClampNeg ∨ h.1.1 ≠ h.1.2.2 then none else some (np, lv, .ref (h.1.2.2 + 1) :: r, pd_new h n.toNatClampNeg (.inl (3, n.toNatClampNeg, .inr (.inr (.inr (.inr (fun _ => none)))))))
    | _ => none)
  | .new ci => if h.1.1 ≠ h.1.2.2 ∨ 7 ≤ ci then none else some (np, lv, .ref (h.1.2.2 + 1) :: st, pd_new h (pd_fn ci) (.inr (ci, (List.range (pd_fn ci)).map (fun k => pd_def (pd_ty ci k)))))
  | .ineg => (match st with | .int x :: r => some (np, lv, .int (-x) :: r, h) | _ => none)
  | .lneg => (match st with | .long x :: r => some (np, lv, .long (-x) :: r, h) | _ => none)
  | .i2l => (match st with | .int x :: r => some (np, lv, .long x.toInt64 :: r, h) | _ => none)
  | .l2i => (match st with | .long x :: r => some (np, lv, .int x.toInt32 :: r, h) | _ => none)
  | .lcmp => (match st with | .long y :: .long x :: r => some (np, lv, .int (lg_cmp x y) :: r, h) | _ => none)
  | .lshl => (match st with | .int y :: .long x :: r => (pd_shL .lshl x y).map (fun z => (np, lv, .long z :: r, h)) | _ => none)
  | .lushr => (match st with | .int y :: .long x :: r => (pd_shL .lushr x y).map (fun z => (np, lv, .long z :: r, h)) | _ => none)
  | .dup => (match st with | v :: r => if v.category = 1 then some (np, lv, v :: v :: r, h) else none | _ => none)
  | .pop => (match st with | v :: r => if v.category = 1 then some (np, lv, r, h) else none | _ => none)
  | .dup2 => (match st with | v :: w :: r => if v.category = 1 ∧ w.category = 1 then some (np, lv, v :: w :: v :: w :: r, h) else none | _ => none)
  | .invokespecial _ => (match st with | .ref _ :: r => if pd_cat r ≤ 8 then some (np, lv, r, h) else none | _ => none)
  | .invokestatic c => (match c, st with
    | 1001, .int y :: .int x :: r => if pd_cat r ≤ 8 then some (np, lv, .int (if y < x then y else x) :: r, h) else none
    | 1002, .long y :: .long x :: r => if pd_cat r ≤ 8 then some (np, lv, .long (if y < x then y else x) :: r, h) else none
    | 1003, .long y :: .long x :: r => if pd_cat r ≤ 8 then some (np, lv, .long (if x < y then y else x) :: r, h) else none
    | 1004, .int n :: .int dp :: .ref d :: .int sp :: .ref a :: r => (match pd_get h a, pd_get h d with
      | .inl (0, n0, .inl f), .inl (0, n1, .inl g) => if n < 0 ∨ dp < 0 ∨ sp < 0 ∨ n0 < sp.toNatClampNeg + n.toNatClampNeg ∨ n1 < dp.toNatClampNeg + n.toNatClampNeg ∨ 8 < pd_cat r then none
          else some (np, lv, r, pd_put h d (.inl (0, n1, .inl (va_cpy f g sp.toNatClampNeg dp.toNatClampNeg n.toNatClampNeg))))
      | _, _ => none)
    | _, _ => none)
  | i => (match st with
    | .int y :: .int x :: r => (pd_bin i x y).map (fun z => (np, lv, .int z :: r, h))
    | .long y :: .long x :: r => (pd_binL i x y).map (fun z => (np, lv, .long z :: r, h))
    | _ => none)
/-- 0 a step, 1 a return, 2 a throw, 3 a call with a receiver, 4 a static call -/
def pd_op : Instr → Nat
  | .ireturn => 1
  | .lreturn => 1
  | .return_ => 1
  | .new c => if 1000 ≤ c then 2 else 0
  | .invokevirtual _ => 3
  | .invokespecial c => if c = 1000 then 0 else 3
  | .invokestatic c => if 1001 ≤ c then 0 else 4
  | _ => 0
def pd_who : Instr → Nat
  | .new c => c - 1000
  | .invokevirtual c => c
  | .invokespecial c => c
  | .invokestatic c => c
  | _ => 0
def pd_nar (mi : Nat) (v : Int32) : Bool := match pd_r mi with
  | some .int => true
  | some ty => decide (narrow ty (.int v) = .int v)
  | none => false
def pd_ret (mi : Nat) (i : Instr) (st : List Value) (h : pd_H) : Option (pd_Out × pd_H) := match i, st with
  | .ireturn, [.int v] => if pd_nar mi v then some (.inl (some (.int v)), h) else none
  | .lreturn, [.long v] => if pd_r mi = some .long then some (.inl (some (.long v)), h) else none
  | .return_, [] => if pd_r mi = none then some (.inl none, h) else none
  | _, _ => none
def pd_catch (mi E : Nat) (h : pd_H) : Option (pd_Out × pd_H) := match pd_ct mi E with
  | some (_, r) => some (.inl (some (.int (Int32.ofInt r))), h)
  | none => if pd_h mi = [] then some (.inr E, h) else none
/-- the receiver is an object of the callee's class -/
def pd_rcv (k c : Nat) (as : List Value) (h : pd_H) : Bool := match k, as with
  | 4, _ => true
  | _, .ref a :: _ => (match pd_get h a with | .inr (ci, _) => ci == pd_o c | .inl _ => false)
  | _, _ => false
def pd_na (k c : Nat) : Nat := if k = 3 then pd_np c + 1 else pd_np c
def pd_run : Nat → Nat → Nat → List Value → List Value → pd_H → Option (pd_Out × pd_H)
  | 0, _, _, _, _, _ => none
  | n + 1, mi, pc, lv, st, h => match pd_fetch mi pc with
    | none => none
    | some (i, np) => match pd_op i with
      | 0 => (match pd_stp np i lv st h with
        | some (pc', lv', st', h') => pd_run n mi pc' lv' st' h'
        | none => none)
      | 1 => pd_ret mi i st h
      | 2 => some (.inr (pd_who i), pd_thr h)
      | k => if pd_na k (pd_who i) ≤ st.length ∧ pd_cat (st.drop (pd_na k (pd_who i))) ≤ 8 ∧ (pd_sl (st.take (pd_na k (pd_who i))).reverse).length ≤ pd_n (pd_who i) ∧ pd_rcv k (pd_who i) (st.take (pd_na k (pd_who i))).reverse h = true then
          (match pd_run n (pd_who i) 0 (pd_ent (pd_n (pd_who i)) (st.take (pd_na k (pd_who i))).reverse) [] h with
          | some (.inl v, h') => pd_run n mi np lv (v.toList ++ st.drop (pd_na k (pd_who i))) h'
          | some (.inr E, h') => pd_catch mi E h'
          | none => none)
        else none
