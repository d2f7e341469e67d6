abbrev ai_H : Type := List (Nat × Nat) × (Nat → Nat → Int32) × (Nat → Nat → Int64) × (Nat → Nat → Option Nat)
abbrev ai_L : Type := List (Option Value)
abbrev ai_O : Type := Option ((Nat × ai_L × List Value × ai_H) ⊕ (Nat × List Value × Nat × List Value) ⊕ Option Value)
def ai_ui (I : Nat → Nat → Int32) (a k : Nat) (v : Int32) : Nat → Nat → Int32 := fun x => if x = a then (fun y => if y = k then v else I a y) else I x
def ai_ul (I : Nat → Nat → Int64) (a k : Nat) (v : Int64) : Nat → Nat → Int64 := fun x => if x = a then (fun y => if y = k then v else I a y) else I x
def ai_ur (I : Nat → Nat → Option Nat) (a k : Nat) (v : Option Nat) : Nat → Nat → Option Nat := fun x => if x = a then (fun y => if y = k then v else I a y) else I x
def ai_row {α : Type} (I : Nat → Nat → α) (a : Nat) (r : Nat → α) : Nat → Nat → α := fun x => if x = a then r else I x
def ai_nx (w k pc : Nat) (ls : ai_L) (st : List Value) (h : ai_H) : ai_O := if w = k then some (.inl (pc + k, ls, st, h)) else none
def ai_br (w pc : Nat) (off : Int) (ls : ai_L) (st : List Value) (h : ai_H) : ai_O := if w = 3 ∧ 0 ≤ (pc : Int) + off then some (.inl (((pc : Int) + off).toNat, ls, st, h)) else none
def ai_i1 (st : List Value) (f : Int32 → List Value → ai_O) : ai_O := match st with
  | .int x :: r => f x r
  | _ => none
def ai_l1 (st : List Value) (f : Int64 → List Value → ai_O) : ai_O := match st with
  | .long x :: r => f x r
  | _ => none
def ai_r1 (st : List Value) (f : Nat → List Value → ai_O) : ai_O := match st with
  | .ref x :: r => f x r
  | _ => none
def ai_i2 (st : List Value) (f : Int32 → Int32 → List Value → ai_O) : ai_O := ai_i1 st fun y r => ai_i1 r fun x r => f x y r
def ai_l2 (st : List Value) (f : Int64 → Int64 → List Value → ai_O) : ai_O := ai_l1 st fun y r => ai_l1 r fun x r => f x y r
def ai_ldi (ls : ai_L) (k : Nat) (f : Int32 → ai_O) : ai_O := match ls[k]? with
  | some (some (.int x)) => f x
  | _ => none
def ai_ldl (ls : ai_L) (k : Nat) (f : Int64 → ai_O) : ai_O := match ls[k]? with
  | some (some (.long x)) => f x
  | _ => none
def ai_lda (ls : ai_L) (k : Nat) (f : Nat → ai_O) : ai_O := match ls[k]? with
  | some (some (.ref x)) => f x
  | _ => none
def ai_kill (ls : ai_L) (i : Nat) : ai_L := match i with
  | 0 => ls
  | j + 1 => match ls[j]? with
    | some (some v) => if v.category = 2 then ls.set j none else ls
    | _ => ls
def ai_s1 (ls : ai_L) (i : Nat) (v : Value) : ai_L := (ai_kill ls i).set i (some v)
def ai_s2 (ls : ai_L) (i : Nat) (v : Value) : ai_L := ((ai_kill ls i).set i (some v)).set (i + 1) none
def ai_o2 {α β : Type} (o : Option α) (f : α → Option β) : Option β := match o with
  | some x => f x
  | none => none
def ai_if {α : Type} (c : Prop) [Decidable c] (o : Option α) : Option α := if c then o else none
def ai_en (args : List Value) (n : Nat) : ai_L :=
  let l := args.flatMap (fun v => if v.category = 2 then [some v, none] else [some v])
  l ++ List.replicate (n - l.length) none
def ai_inb (i : Int32) (n : Nat) : Prop := ¬ (i < 0 ∨ n ≤ i.toNatClampNeg)
def ai_call (y q pc : Nat) (args rest : List Value) : ai_O :=
  ai_if (q < 179 ∧ (rest.map fun v => v.category).sum ≤ 8 ∧ ai_fr q + 1 ≤ ai_fr y ∧ 8 + (ai_mx q + 11) + ai_lo q ≤ ai_lo y ∧ (ai_en args (ai_mx q)).length = ai_mx q) (some (.inr (.inl (q, args, pc + 3, rest))))
def ai_cond (c : ClassFile.Cond) (x y : Int32) : Bool := match c with
  | .eq => decide (x = y)
  | .ne => decide (¬ x = y)
  | .lt => decide (x < y)
  | .ge => decide (y ≤ x)
  | .gt => decide (y < x)
  | .le => decide (x ≤ y)
def ai_xs (X : Option (Nat × (Nat → Int32))) (i : Int32) : Option Int32 := match X with
  | some (n, xs) => if i < 0 ∨ n ≤ i.toNatClampNeg then none else some (xs i.toNatClampNeg)
  | none => none
def ai_op (X : Option (Nat × (Nat → Int32))) (y pc w : Nat) (i : Instr) (ls : ai_L) (st : List Value) (h : ai_H) : ai_O :=
  match i with
  | .aload_n n => ai_lda ls n.val fun a => ai_nx w 1 pc ls (.ref a :: st) h
  | .aload n => ai_lda ls n fun a => ai_nx w 2 pc ls (.ref a :: st) h
  | .iload_n n => ai_ldi ls n.val fun a => ai_nx w 1 pc ls (.int a :: st) h
  | .iload n => ai_ldi ls n fun a => ai_nx w 2 pc ls (.int a :: st) h
  | .lload_n n => ai_ldl ls n.val fun a => ai_nx w 1 pc ls (.long a :: st) h
  | .lload n => ai_ldl ls n fun a => ai_nx w 2 pc ls (.long a :: st) h
  | .astore_n n => ai_r1 st fun a r => ai_if (n.val < ls.length) (ai_nx w 1 pc (ai_s1 ls n.val (.ref a)) r h)
  | .astore n => ai_r1 st fun a r => ai_if (n < ls.length) (ai_nx w 2 pc (ai_s1 ls n (.ref a)) r h)
  | .istore_n n => ai_i1 st fun a r => ai_if (n.val < ls.length) (ai_nx w 1 pc (ai_s1 ls n.val (.int a)) r h)
  | .istore n => ai_i1 st fun a r => ai_if (n < ls.length) (ai_nx w 2 pc (ai_s1 ls n (.int a)) r h)
  | .lstore_n n => ai_l1 st fun a r => ai_if (n.val + 1 < ls.length) (ai_nx w 1 pc (ai_s2 ls n.val (.long a)) r h)
  | .lstore n => ai_l1 st fun a r => ai_if (n + 1 < ls.length) (ai_nx w 2 pc (ai_s2 ls n (.long a)) r h)
  | .iconst n => ai_nx w 1 pc ls (.int (Int32.ofInt n) :: st) h
  | .bipush n => ai_nx w 2 pc ls (.int (Int8.ofInt n).toInt32 :: st) h
  | .sipush n => ai_nx w 3 pc ls (.int (Int16.ofInt n).toInt32 :: st) h
  | .lconst n => ai_nx w 1 pc ls (.long (Int64.ofNat n.val) :: st) h
  | .ldc k => ai_o2 (ai_ki (ai_oc y) k) fun t => ai_nx w 2 pc ls (.int t.2 :: st) h
  | .ldc2_w k => ai_o2 (ai_kl (ai_oc y) k) fun t => ai_nx w 3 pc ls (.long t.2 :: st) h
  | .iadd => ai_i2 st fun a b r => ai_nx w 1 pc ls (.int (a + b) :: r) h
  | .isub => ai_i2 st fun a b r => ai_nx w 1 pc ls (.int (a - b) :: r) h
  | .imul => ai_i2 st fun a b r => ai_nx w 1 pc ls (.int (a * b) :: r) h
  | .iand => ai_i2 st fun a b r => ai_nx w 1 pc ls (.int (a &&& b) :: r) h
  | .ishl => ai_i2 st fun a b r => ai_nx w 1 pc ls (.int (a <<< (b &&& 31)) :: r) h
  | .ishr => ai_i2 st fun a b r => ai_nx w 1 pc ls (.int (a >>> (b &&& 31)) :: r) h
  | .idiv => ai_i2 st fun a b r => ai_if (¬ b = 0) (ai_nx w 1 pc ls (.int (a / b) :: r) h)
  | .irem => ai_i2 st fun a b r => ai_if (¬ b = 0) (ai_nx w 1 pc ls (.int (a - a / b * b) :: r) h)
  | .ineg => ai_i1 st fun a r => ai_nx w 1 pc ls (.int (-a) :: r) h
  | .i2l => ai_i1 st fun a r => ai_nx w 1 pc ls (.long a.toInt64 :: r) h
  | .i2b => ai_i1 st fun a r => ai_nx w 1 pc ls (.int a.toInt8.toInt32 :: r) h
  | .i2s => ai_i1 st fun a r => ai_nx w 1 pc ls (.int a.toInt16.toInt32 :: r) h
  | .l2i => ai_l1 st fun a r => ai_nx w 1 pc ls (.int a.toInt32 :: r) h
  | .ladd => ai_l2 st fun a b r => ai_nx w 1 pc ls (.long (a + b) :: r) h
  | .lmul => ai_l2 st fun a b r => ai_nx w 1 pc ls (.long (a * b) :: r) h
  | .land => ai_l2 st fun a b r => ai_nx w 1 pc ls (.long (a &&& b) :: r) h
  | .lor => ai_l2 st fun a b r => ai_nx w 1 pc ls (.long (a ||| b) :: r) h
  | .lcmp => ai_l2 st fun a b r => ai_nx w 1 pc ls (.int (lg_cmp a b) :: r) h
  | .lshl => ai_i1 st fun b r => ai_l1 r fun a r => ai_nx w 1 pc ls (.long (a <<< (b.toInt64 &&& 63)) :: r) h
  | .lshr => ai_i1 st fun b r => ai_l1 r fun a r => ai_nx w 1 pc ls (.long (a >>> (b.toInt64 &&& 63)) :: r) h
  | .lushr => ai_i1 st fun b r => ai_l1 r fun a r => ai_nx w 1 pc ls (.long (a.toUInt64 >>> (b.toInt64.toUInt64 &&& Int64.toUInt64 63)).toInt64 :: r) h
  | .iinc k n => ai_ldi ls k fun a => ai_if (k < ls.length) (ai_nx w 3 pc (ai_s1 ls k (.int (a + Int32.ofInt n))) st h)
  | .dup => match st with
    | v :: r => ai_if (v.category = 1) (ai_nx w 1 pc ls (v :: v :: r) h)
    | _ => none
  | .dup2 => match st with
    | v :: u :: r => ai_if (v.category = 1 ∧ u.category = 1) (ai_nx w 1 pc ls (v :: u :: v :: u :: r) h)
    | _ => none
  | .pop => match st with
    | v :: r => ai_if (v.category = 1) (ai_nx w 1 pc ls r h)
    | _ => none
  | .ifCond c off => ai_i1 st fun a r => ai_if (0 ≤ (pc : Int) + off) (if ai_cond c a 0 = true then ai_br w pc off ls r h else ai_nx w 3 pc ls r h)
  | .if_icmp c off => ai_i2 st fun a b r => ai_if (0 ≤ (pc : Int) + off) (if ai_cond c a b = true then ai_br w pc off ls r h else ai_nx w 3 pc ls r h)
  | .goto off => ai_br w pc off ls st h
  | .tableswitch dflt lo hi offs => ai_i1 st fun a r =>
    if a.toInt < lo ∨ hi < a.toInt then ai_br 3 pc dflt ls r h
    else ai_o2 offs[(a.toInt - lo).toNat]? fun off => ai_br 3 pc off ls r h
  | .getfield k => ai_r1 st fun a r => ai_o2 (ai_fl (ai_oc y) k) fun t => ai_o2 h.1[a]? fun s =>
    ai_if (a ≠ 0 ∧ s.1 = t.2.1 ∧ ai_oc y < 11) (if ai_fk t.2.1 t.2.2.1 = 2 then ai_o2 (h.2.2.2 a t.2.2.1) fun b => ai_nx w 3 pc ls (.ref b :: r) h
      else ai_nx w 3 pc ls (.int (h.2.1 a t.2.2.1) :: r) h)
  | .putfield k => ai_o2 (ai_fl (ai_oc y) k) fun t =>
    if ai_fk t.2.1 t.2.2.1 = 2 then
      ai_r1 st fun v r => ai_r1 r fun a r => ai_o2 h.1[a]? fun s =>
        ai_if (a ≠ 0 ∧ s.1 = t.2.1 ∧ ai_oc y < 11 ∧ ((ai_F t.2.1 t.2.2.1).2.2.2 = false ∨ (ai_ni y = true ∧ t.2.1 = ai_oc y ∧ t.2.2.2 = false)))
          (ai_nx w 3 pc ls r (h.1, h.2.1, h.2.2.1, ai_ur h.2.2.2 a t.2.2.1 (some v)))
    else
      ai_i1 st fun v r => ai_r1 r fun a r => ai_o2 h.1[a]? fun s =>
        ai_if (a ≠ 0 ∧ s.1 = t.2.1 ∧ ai_oc y < 11 ∧ (ai_F t.2.1 t.2.2.1).2.2.2 = false ∧ (ai_fk t.2.1 t.2.2.1 = 1 → v = 0 ∨ v = 1))
          (ai_nx w 3 pc ls r (h.1, ai_ui h.2.1 a t.2.2.1 v, h.2.2.1, h.2.2.2))
  | .iaload => ai_i1 st fun j r => ai_r1 r fun a r =>
    if a = 0 then ai_o2 (ai_xs X j) fun v => ai_nx w 1 pc ls (.int v :: r) h
    else ai_o2 h.1[a]? fun s => ai_if (s.1 = 100 ∧ ¬ (j < 0 ∨ s.2 ≤ j.toNatClampNeg)) (ai_nx w 1 pc ls (.int (h.2.1 a j.toNatClampNeg) :: r) h)
  | .baload => ai_i1 st fun j r => ai_r1 r fun a r => ai_o2 h.1[a]? fun s =>
    ai_if (a ≠ 0 ∧ (s.1 = 101 ∨ s.1 = 102) ∧ ¬ (j < 0 ∨ s.2 ≤ j.toNatClampNeg)) (ai_nx w 1 pc ls (.int (h.2.1 a j.toNatClampNeg) :: r) h)
  | .laload => ai_i1 st fun j r => ai_r1 r fun a r => ai_o2 h.1[a]? fun s =>
    ai_if (a ≠ 0 ∧ s.1 = 103 ∧ ¬ (j < 0 ∨ s.2 ≤ j.toNatClampNeg)) (ai_nx w 1 pc ls (.long (h.2.2.1 a j.toNatClampNeg) :: r) h)
  | .aaload => ai_i1 st fun j r => ai_r1 r fun a r => ai_o2 h.1[a]? fun s =>
    ai_if (a ≠ 0 ∧ 104 ≤ s.1 ∧ s.1 < 109 ∧ ¬ (j < 0 ∨ s.2 ≤ j.toNatClampNeg)) (ai_o2 (h.2.2.2 a j.toNatClampNeg) fun b => ai_nx w 1 pc ls (.ref b :: r) h)
  | .iastore => ai_i1 st fun v r => ai_i1 r fun j r => ai_r1 r fun a r => ai_o2 h.1[a]? fun s =>
    ai_if (a ≠ 0 ∧ s.1 = 100 ∧ ¬ (j < 0 ∨ s.2 ≤ j.toNatClampNeg)) (ai_nx w 1 pc ls r (h.1, ai_ui h.2.1 a j.toNatClampNeg v, h.2.2.1, h.2.2.2))
  | .bastore => ai_i1 st fun v r => ai_i1 r fun j r => ai_r1 r fun a r => ai_o2 h.1[a]? fun s =>
    if s.1 = 101 then ai_if (a ≠ 0 ∧ ¬ (j < 0 ∨ s.2 ≤ j.toNatClampNeg)) (ai_nx w 1 pc ls r (h.1, ai_ui h.2.1 a j.toNatClampNeg (vp_nar .byte v), h.2.2.1, h.2.2.2))
    else ai_if (a ≠ 0 ∧ s.1 = 102 ∧ ¬ (j < 0 ∨ s.2 ≤ j.toNatClampNeg)) (ai_nx w 1 pc ls r (h.1, ai_ui h.2.1 a j.toNatClampNeg (vp_nar .boolean v), h.2.2.1, h.2.2.2))
  | .lastore => ai_l1 st fun v r => ai_i1 r fun j r => ai_r1 r fun a r => ai_o2 h.1[a]? fun s =>
    ai_if (a ≠ 0 ∧ s.1 = 103 ∧ ¬ (j < 0 ∨ s.2 ≤ j.toNatClampNeg)) (ai_nx w 1 pc ls r (h.1, h.2.1, ai_ul h.2.2.1 a j.toNatClampNeg v, h.2.2.2))
  | .aastore => ai_r1 st fun v r => ai_i1 r fun j r => ai_r1 r fun a r => ai_o2 h.1[a]? fun s => ai_o2 h.1[v]? fun u =>
    ai_if (a ≠ 0 ∧ v ≠ 0 ∧ 104 ≤ s.1 ∧ s.1 < 109 ∧ u.1 = ai_ec (s.1 - 100) ∧ ¬ (j < 0 ∨ s.2 ≤ j.toNatClampNeg)) (ai_nx w 1 pc ls r (h.1, h.2.1, h.2.2.1, ai_ur h.2.2.2 a j.toNatClampNeg (some v)))
  | .arraylength => ai_r1 st fun a r =>
    if a = 0 then (match X with
      | some (n, _) => ai_nx w 1 pc ls (.int (Int32.ofNat n) :: r) h
      | none => none)
    else ai_o2 h.1[a]? fun s => ai_if (100 ≤ s.1 ∧ s.1 < 109) (ai_nx w 1 pc ls (.int (Int32.ofNat s.2) :: r) h)
  | .new k => ai_o2 (ai_cn (ai_oc y) k) fun t => ai_if (ai_oc y < 11) (ai_nx w 3 pc ls (.ref h.1.length :: st)
      (h.1 ++ [(t.2, 0)], ai_row h.2.1 h.1.length (fun _ => 0), h.2.2.1, ai_row h.2.2.2 h.1.length (fun _ => none)))
  | .newarray k => ai_i1 st fun n r =>
    let t : Nat := match k with
      | .int => 100
      | .byte => 101
      | .boolean => 102
      | .long => 103
      | _ => 200
    ai_if (t < 200 ∧ ¬ n < 0 ∧ n.toNatClampNeg ≤ 60000000) (ai_nx w 2 pc ls (.ref h.1.length :: r)
      (h.1 ++ [(t, n.toNatClampNeg)], ai_row h.2.1 h.1.length (fun _ => 0), ai_row h.2.2.1 h.1.length (fun _ => 0), h.2.2.2))
  | .anewarray k => ai_i1 st fun n r => ai_o2 (ai_cn (ai_oc y) k) fun c =>
    let t : Nat := match c.2 with
      | 6 => 104
      | 4 => 105
      | 2 => 106
      | 1 => 107
      | 0 => 108
      | _ => 200
    ai_if (ai_oc y < 11 ∧ t < 200 ∧ ¬ n < 0 ∧ n.toNatClampNeg ≤ 60000000) (ai_nx w 3 pc ls (.ref h.1.length :: r)
      (h.1 ++ [(t, n.toNatClampNeg)], h.2.1, h.2.2.1, ai_row h.2.2.2 h.1.length (fun _ => none)))
  | .invokevirtual k => ai_o2 (ai_ml (ai_oc y) k) fun t => ai_r1 (st.drop (ai_na t.2.1)) fun b r => ai_o2 h.1[b]? fun s =>
    ai_if (w = 3 ∧ ai_oc y < 11 ∧ b ≠ 0 ∧ s.1 = ai_oc t.2.1 ∧ ai_ni t.2.1 = false ∧ ai_na t.2.1 ≤ st.length) (ai_call y t.2.1 pc (.ref b :: (st.take (ai_na t.2.1)).reverse) r)
  | .invokespecial k => ai_o2 (ai_ml (ai_oc y) k) fun t =>
    if t.2.1 = 1000 then ai_r1 st fun _ r => ai_if (ai_oc y < 11 ∧ 1 ≤ ai_fr y ∧ (r.map fun v => v.category).sum + 12 ≤ ai_lo y) (ai_nx w 3 pc ls r h)
    else ai_r1 (st.drop (ai_na t.2.1)) fun b r =>
      ai_if (w = 3 ∧ ai_oc y < 11 ∧ ai_ni t.2.1 = true ∧ ai_na t.2.1 ≤ st.length) (ai_call y t.2.1 pc (.ref b :: (st.take (ai_na t.2.1)).reverse) r)
  | .invokestatic k => ai_o2 (ai_ml (ai_oc y) k) fun t =>
    if t.2.1 = 1001 then ai_i2 st fun a b r => ai_if (ai_oc y < 11 ∧ 1 ≤ ai_fr y ∧ (r.map fun v => v.category).sum + 13 ≤ ai_lo y) (ai_nx w 3 pc ls (.int (if a < b then b else a) :: r) h)
    else if t.2.1 = 1002 then ai_i2 st fun a b r => ai_if (ai_oc y < 11 ∧ 1 ≤ ai_fr y ∧ (r.map fun v => v.category).sum + 13 ≤ ai_lo y) (ai_nx w 3 pc ls (.int (if b < a then b else a) :: r) h)
    else ai_i1 st fun n r => ai_i1 r fun dp r => ai_r1 r fun a r => ai_i1 r fun sp r => ai_r1 r fun a0 r => ai_o2 h.1[a0]? fun s0 => ai_o2 h.1[a]? fun s =>
      ai_if (t.2.1 = 1003 ∧ ai_oc y < 11 ∧ a0 ≠ 0 ∧ a ≠ 0 ∧ s0.1 = s.1 ∧ ¬ sp < 0 ∧ ¬ dp < 0 ∧ ¬ n < 0 ∧ sp.toNatClampNeg + n.toNatClampNeg ≤ s0.2 ∧ dp.toNatClampNeg + n.toNatClampNeg ≤ s.2 ∧ 1 ≤ ai_fr y ∧ (r.map fun v => v.category).sum + 18 ≤ ai_lo y)
        (if s.1 = 100 then ai_nx w 3 pc ls r (h.1, ai_row h.2.1 a (va_cpy (h.2.1 a0) (h.2.1 a) sp.toNatClampNeg dp.toNatClampNeg n.toNatClampNeg), h.2.2.1, h.2.2.2)
         else ai_if (s.1 = 103) (ai_nx w 3 pc ls r (h.1, h.2.1, ai_row h.2.2.1 a (va_cpy (h.2.2.1 a0) (h.2.2.1 a) sp.toNatClampNeg dp.toNatClampNeg n.toNatClampNeg), h.2.2.2)))
  | .ireturn => match st with
    | [.int v] => ai_if (w = 1 ∧ (ai_rc y = 1 ∨ (ai_rc y = 2 ∧ (v = 0 ∨ v = 1)))) (some (.inr (.inr (some (.int v)))))
    | _ => none
  | .lreturn => match st with
    | [.long v] => ai_if (w = 1 ∧ ai_rc y = 3) (some (.inr (.inr (some (.long v)))))
    | _ => none
  | .areturn => match st with
    | [.ref v] => ai_if (w = 1 ∧ ai_rc y = 4) (some (.inr (.inr (some (.ref v)))))
    | _ => none
  | .return_ => match st with
    | [] => ai_if (w = 1 ∧ ai_rc y = 0) (some (.inr (.inr none)))
    | _ => none
  | _ => none
def ai_ss (sh : List (Nat × Nat)) : Nat := (sh.map fun s => if s.1 < 100 then ai_N s.1 else s.2).sum
def ai_run : Nat → Option (Nat × (Nat → Int32)) → Nat → Nat → ai_L → List Value → ai_H → Option (Option Value × ai_H)
  | 0, _, _, _, _, _, _ => none
  | n + 1, X, y, pc, ls, st, h => match decode (ai_b y) pc with
    | .error _ => none
    | .ok (i, w) => match ai_op X y pc w i ls st h with
      | none => none
      | some (.inl (pc', ls', st', h')) => ai_if (h.1.length ≤ h'.1.length ∧ ai_ss h.1 ≤ ai_ss h'.1) (ai_run n X y pc' ls' st' h')
      | some (.inr (.inl (q, args, pc', st'))) => match ai_run n none q 0 (ai_en args (ai_mx q)) [] h with
        | none => none
        | some (r, h') => ai_run n X y pc' ls (r.toList ++ st') h'
      | some (.inr (.inr r)) => some (r, h)
