def ai_gi (y n ci k : Nat) : Bool := match ai_fl (ai_oc y) n with
  | some t => t.2.1 == ci && t.2.2.1 == k && (ai_fk ci k == 2) == false
  | none => false
def ai_gr (y n ci k : Nat) : Bool := match ai_fl (ai_oc y) n with
  | some t => t.2.1 == ci && t.2.2.1 == k && (ai_fk ci k == 2) == true
  | none => false
def ai_pi (y n ci k : Nat) : Bool := match ai_fl (ai_oc y) n with
  | some t => t.2.1 == ci && t.2.2.1 == k && (ai_fk ci k == 2) == false && (ai_F ci k).2.2.2 == false
  | none => false
def ai_pr (y n ci k : Nat) : Bool := match ai_fl (ai_oc y) n with
  | some t => t.2.1 == ci && t.2.2.1 == k && (ai_fk ci k == 2) == true && ((ai_F ci k).2.2.2 == false || (ai_ni y && ci == ai_oc y && t.2.2.2 == false))
  | none => false
def ai_Ev (X : Option (Nat × (Nat → Int32))) (y pc : Nat) (ls : ai_L) (st : List Value) (h : ai_H) (Q : Option Value → ai_H → Prop) : Prop := ∃ n r h1, ai_run n X y pc ls st h = some (r, h1) ∧ Q r h1
theorem ai_run_more : ∀ (n k : Nat) {X : Option (Nat × (Nat → Int32))} {y pc : Nat} {ls : ai_L} {st : List Value} {h : ai_H} {x}, ai_run n X y pc ls st h = some x → ai_run (n + k) X y pc ls st h = some x := by
  intro n
  induction n with
  | zero => intro k X y pc ls st h x hr; cases hr
  | succ n ih =>
    intro k X y pc ls st h x hr
    rw [show n + 1 + k = (n + k) + 1 by omega]
    unfold ai_run at hr ⊢
    cases hd : decode (ai_b y) pc with
    | error e => simp only [hd] at hr; cases hr
    | ok iw =>
      obtain ⟨i, w⟩ := iw
      simp only [hd] at hr ⊢
      cases hop : ai_op X y pc w i ls st h with
      | none => simp only [hop] at hr; cases hr
      | some q =>
        simp only [hop] at hr ⊢
        match q with
        | .inl (pc', ls', st', h') =>
          obtain ⟨g1, g2⟩ := ai_if_s hr
          exact (if_pos g1).trans (ih k g2)
        | .inr (.inl (q, as, pc', st')) =>
          simp only at hr ⊢
          cases hq : ai_run n none q 0 (ai_en as (ai_mx q)) [] h with
          | none => simp only [hq] at hr; cases hr
          | some x =>
            obtain ⟨r2, h2⟩ := x
            simp only [hq] at hr
            rw [ih k hq]
            exact ih k hr
        | .inr (.inr r) => exact hr
theorem ai_if_pos {α : Type} {c : Prop} [Decidable c] {o : Option α} (h : c) : ai_if c o = o := if_pos h
section AEV
variable {X : Option (Nat × (Nat → Int32))} {y pc w : Nat} {ls : ai_L} {st : List Value} {S : List (Nat × Nat)} {I : Nat → Nat → Int32} {L : Nat → Nat → Int64} {F : Nat → Nat → Option Nat} {Q : Option Value → ai_H → Prop}
theorem ai_Ev_step {i : Instr} {h : ai_H} {pc' : Nat} {ls' : ai_L} {st' : List Value} {h' : ai_H} (hd : decode (ai_b y) pc = .ok (i, w)) (hop : ai_op X y pc w i ls st h = some (.inl (pc', ls', st', h'))) (hm : h.1.length ≤ h'.1.length ∧ ai_ss h.1 ≤ ai_ss h'.1) (k : ai_Ev X y pc' ls' st' h' Q) : ai_Ev X y pc ls st h Q := by
  obtain ⟨n, r, h1, hr, hq⟩ := k
  refine ⟨n + 1, r, h1, ?_, hq⟩
  unfold ai_run
  simp only [hd, hop]
  simp [ai_if, hm, hr]
theorem ai_Ev_call {i : Instr} {h : ai_H} {q pc' : Nat} {as rest : List Value} {P : Option Value → ai_H → Prop} (hd : decode (ai_b y) pc = .ok (i, w)) (hop : ai_op X y pc w i ls st h = some (.inr (.inl (q, as, pc', rest)))) (hq : ai_Ev none q 0 (ai_en as (ai_mx q)) [] h P) (k : ∀ r h', P r h' → ai_Ev X y pc' ls (r.toList ++ rest) h' Q) : ai_Ev X y pc ls st h Q := by
  obtain ⟨n, r, h1, hr, hp⟩ := hq
  obtain ⟨n2, r2, h2, hr2, hp2⟩ := k r h1 hp
  refine ⟨(n + n2) + 1, r2, h2, ?_, hp2⟩
  unfold ai_run
  simp only [hd, hop]
  rw [ai_run_more n n2 hr]
  simp only
  rw [Nat.add_comm n n2]
  exact ai_run_more n2 n hr2
theorem ai_Ev_ret {i : Instr} {h : ai_H} {r : Option Value} (hd : decode (ai_b y) pc = .ok (i, w)) (hop : ai_op X y pc w i ls st h = some (.inr (.inr r))) (hq : Q r h) : ai_Ev X y pc ls st h Q := by
  refine ⟨1, r, h, ?_, hq⟩
  unfold ai_run
  simp only [hd, hop]
theorem ai_Ev.imp {h : ai_H} {Q' : Option Value → ai_H → Prop} (k : ai_Ev X y pc ls st h Q) (hi : ∀ r h', Q r h' → Q' r h') : ai_Ev X y pc ls st h Q' := by
  obtain ⟨n, r, h1, hr, hq⟩ := k
  exact ⟨n, r, h1, hr, hi _ _ hq⟩

theorem ev_aload_n (pc2 : Nat) (hp : pc + 1 = pc2) {k : Fin 4} {x : Nat} (hd : decode (ai_b y) pc = .ok (.aload_n k, 1)) (hl : ls[k.val]? = some (some (.ref x))) (hk : ai_Ev X y pc2 ls (.ref x :: st) (S, I, L, F) Q) : ai_Ev X y pc ls st (S, I, L, F) Q := by
  subst hp
  exact ai_Ev_step (h' := (S, I, L, F)) hd (by simp [ai_op, ai_lda, hl, ai_nx]) ⟨Nat.le_refl _, Nat.le_refl _⟩ hk
theorem ev_aload (pc2 : Nat) (hp : pc + 2 = pc2) {k : Nat} {x : Nat} (hd : decode (ai_b y) pc = .ok (.aload k, 2)) (hl : ls[k]? = some (some (.ref x))) (hk : ai_Ev X y pc2 ls (.ref x :: st) (S, I, L, F) Q) : ai_Ev X y pc ls st (S, I, L, F) Q := by
  subst hp
  exact ai_Ev_step (h' := (S, I, L, F)) hd (by simp [ai_op, ai_lda, hl, ai_nx]) ⟨Nat.le_refl _, Nat.le_refl _⟩ hk
theorem ev_iload_n (pc2 : Nat) (hp : pc + 1 = pc2) {k : Fin 4} {x : Int32} (hd : decode (ai_b y) pc = .ok (.iload_n k, 1)) (hl : ls[k.val]? = some (some (.int x))) (hk : ai_Ev X y pc2 ls (.int x :: st) (S, I, L, F) Q) : ai_Ev X y pc ls st (S, I, L, F) Q := by
  subst hp
  exact ai_Ev_step (h' := (S, I, L, F)) hd (by simp [ai_op, ai_ldi, hl, ai_nx]) ⟨Nat.le_refl _, Nat.le_refl _⟩ hk
theorem ev_iload (pc2 : Nat) (hp : pc + 2 = pc2) {k : Nat} {x : Int32} (hd : decode (ai_b y) pc = .ok (.iload k, 2)) (hl : ls[k]? = some (some (.int x))) (hk : ai_Ev X y pc2 ls (.int x :: st) (S, I, L, F) Q) : ai_Ev X y pc ls st (S, I, L, F) Q := by
  subst hp
  exact ai_Ev_step (h' := (S, I, L, F)) hd (by simp [ai_op, ai_ldi, hl, ai_nx]) ⟨Nat.le_refl _, Nat.le_refl _⟩ hk
theorem ev_lload_n (pc2 : Nat) (hp : pc + 1 = pc2) {k : Fin 4} {x : Int64} (hd : decode (ai_b y) pc = .ok (.lload_n k, 1)) (hl : ls[k.val]? = some (some (.long x))) (hk : ai_Ev X y pc2 ls (.long x :: st) (S, I, L, F) Q) : ai_Ev X y pc ls st (S, I, L, F) Q := by
  subst hp
  exact ai_Ev_step (h' := (S, I, L, F)) hd (by simp [ai_op, ai_ldl, hl, ai_nx]) ⟨Nat.le_refl _, Nat.le_refl _⟩ hk
theorem ev_lload (pc2 : Nat) (hp : pc + 2 = pc2) {k : Nat} {x : Int64} (hd : decode (ai_b y) pc = .ok (.lload k, 2)) (hl : ls[k]? = some (some (.long x))) (hk : ai_Ev X y pc2 ls (.long x :: st) (S, I, L, F) Q) : ai_Ev X y pc ls st (S, I, L, F) Q := by
  subst hp
  exact ai_Ev_step (h' := (S, I, L, F)) hd (by simp [ai_op, ai_ldl, hl, ai_nx]) ⟨Nat.le_refl _, Nat.le_refl _⟩ hk
theorem ev_store_i (pc2 : Nat) (hp : pc + 2 = pc2) {i : Instr} {k : Nat} {ls2 : ai_L} {x : Int32} (hd : decode (ai_b y) pc = .ok (i, 2)) (hi : (i = .istore k) ∧ k < ls.length) (hl : ai_s1 ls k (.int x) = ls2) (hk : ai_Ev X y pc2 ls2 st (S, I, L, F) Q) : ai_Ev X y pc ls (.int x :: st) (S, I, L, F) Q := by
  subst hp
  exact ai_Ev_step (h' := (S, I, L, F)) hd (by rw [hi.1]; simp [ai_op, ai_i1, ai_if, hi.2, ai_nx, hl]) ⟨Nat.le_refl _, Nat.le_refl _⟩ hk
theorem ev_store_a (pc2 : Nat) (hp : pc + 2 = pc2) {i : Instr} {k : Nat} {ls2 : ai_L} {x : Nat} (hd : decode (ai_b y) pc = .ok (i, 2)) (hi : (i = .astore k) ∧ k < ls.length) (hl : ai_s1 ls k (.ref x) = ls2) (hk : ai_Ev X y pc2 ls2 st (S, I, L, F) Q) : ai_Ev X y pc ls (.ref x :: st) (S, I, L, F) Q := by
  subst hp
  exact ai_Ev_step (h' := (S, I, L, F)) hd (by rw [hi.1]; simp [ai_op, ai_r1, ai_if, hi.2, ai_nx, hl]) ⟨Nat.le_refl _, Nat.le_refl _⟩ hk
theorem ev_store_l (pc2 : Nat) (hp : pc + 2 = pc2) {i : Instr} {k : Nat} {ls2 : ai_L} {x : Int64} (hd : decode (ai_b y) pc = .ok (i, 2)) (hi : (i = .lstore k) ∧ k + 1 < ls.length) (hl : ai_s2 ls k (.long x) = ls2) (hk : ai_Ev X y pc2 ls2 st (S, I, L, F) Q) : ai_Ev X y pc ls (.long x :: st) (S, I, L, F) Q := by
  subst hp
  exact ai_Ev_step (h' := (S, I, L, F)) hd (by rw [hi.1]; simp [ai_op, ai_l1, ai_if, hi.2, ai_nx, hl]) ⟨Nat.le_refl _, Nat.le_refl _⟩ hk
theorem ev_store_in (pc2 : Nat) (hp : pc + 1 = pc2) {k : Fin 4} {ls2 : ai_L} {x : Int32} (hd : decode (ai_b y) pc = .ok (.istore_n k, 1)) (hi : k.val < ls.length) (hl : ai_s1 ls k.val (.int x) = ls2) (hk : ai_Ev X y pc2 ls2 st (S, I, L, F) Q) : ai_Ev X y pc ls (.int x :: st) (S, I, L, F) Q := by
  subst hp
  exact ai_Ev_step (h' := (S, I, L, F)) hd (by simp [ai_op, ai_i1, ai_if, hi, ai_nx, hl]) ⟨Nat.le_refl _, Nat.le_refl _⟩ hk
theorem ev_store_an (pc2 : Nat) (hp : pc + 1 = pc2) {k : Fin 4} {ls2 : ai_L} {x : Nat} (hd : decode (ai_b y) pc = .ok (.astore_n k, 1)) (hi : k.val < ls.length) (hl : ai_s1 ls k.val (.ref x) = ls2) (hk : ai_Ev X y pc2 ls2 st (S, I, L, F) Q) : ai_Ev X y pc ls (.ref x :: st) (S, I, L, F) Q := by
  subst hp
  exact ai_Ev_step (h' := (S, I, L, F)) hd (by simp [ai_op, ai_r1, ai_if, hi, ai_nx, hl]) ⟨Nat.le_refl _, Nat.le_refl _⟩ hk
theorem ev_store_ln (pc2 : Nat) (hp : pc + 1 = pc2) {k : Fin 4} {ls2 : ai_L} {x : Int64} (hd : decode (ai_b y) pc = .ok (.lstore_n k, 1)) (hi : k.val + 1 < ls.length) (hl : ai_s2 ls k.val (.long x) = ls2) (hk : ai_Ev X y pc2 ls2 st (S, I, L, F) Q) : ai_Ev X y pc ls (.long x :: st) (S, I, L, F) Q := by
  subst hp
  exact ai_Ev_step (h' := (S, I, L, F)) hd (by simp [ai_op, ai_l1, ai_if, hi, ai_nx, hl]) ⟨Nat.le_refl _, Nat.le_refl _⟩ hk
theorem ev_iinc (pc2 : Nat) (hp : pc + 3 = pc2) {k : Nat} {n : Int} {ls2 : ai_L} {x v : Int32} (hd : decode (ai_b y) pc = .ok (.iinc k n, 3)) (hx : ls[k]? = some (some (.int x))) (hi : k < ls.length) (hv : x + Int32.ofInt n = v) (hl : ai_s1 ls k (.int v) = ls2) (hk : ai_Ev X y pc2 ls2 st (S, I, L, F) Q) : ai_Ev X y pc ls st (S, I, L, F) Q := by
  subst hp
  exact ai_Ev_step (h' := (S, I, L, F)) hd (by subst hv; simp only [ai_op, ai_ldi, hx]; refine (ai_if_pos hi).trans ?_; simp [ai_nx, hl]) ⟨Nat.le_refl _, Nat.le_refl _⟩ hk
theorem ev_iconst (pc2 : Nat) (hp : pc + 1 = pc2) {n : Int} {v : Int32} (hd : decode (ai_b y) pc = .ok (.iconst n, 1)) (hv : Int32.ofInt n = v) (hk : ai_Ev X y pc2 ls (.int v :: st) (S, I, L, F) Q) : ai_Ev X y pc ls st (S, I, L, F) Q := by
  subst hp
  exact ai_Ev_step (h' := (S, I, L, F)) hd (by subst hv; simp [ai_op, ai_nx]) ⟨Nat.le_refl _, Nat.le_refl _⟩ hk
theorem ev_bipush (pc2 : Nat) (hp : pc + 2 = pc2) {n : Int} {v : Int32} (hd : decode (ai_b y) pc = .ok (.bipush n, 2)) (hv : (Int8.ofInt n).toInt32 = v) (hk : ai_Ev X y pc2 ls (.int v :: st) (S, I, L, F) Q) : ai_Ev X y pc ls st (S, I, L, F) Q := by
  subst hp
  exact ai_Ev_step (h' := (S, I, L, F)) hd (by subst hv; simp [ai_op, ai_nx]) ⟨Nat.le_refl _, Nat.le_refl _⟩ hk
theorem ev_sipush (pc2 : Nat) (hp : pc + 3 = pc2) {n : Int} {v : Int32} (hd : decode (ai_b y) pc = .ok (.sipush n, 3)) (hv : (Int16.ofInt n).toInt32 = v) (hk : ai_Ev X y pc2 ls (.int v :: st) (S, I, L, F) Q) : ai_Ev X y pc ls st (S, I, L, F) Q := by
  subst hp
  exact ai_Ev_step (h' := (S, I, L, F)) hd (by subst hv; simp [ai_op, ai_nx]) ⟨Nat.le_refl _, Nat.le_refl _⟩ hk
theorem ev_lconst (pc2 : Nat) (hp : pc + 1 = pc2) {n : Fin 2} {v : Int64} (hd : decode (ai_b y) pc = .ok (.lconst n, 1)) (hv : Int64.ofNat n.val = v) (hk : ai_Ev X y pc2 ls (.long v :: st) (S, I, L, F) Q) : ai_Ev X y pc ls st (S, I, L, F) Q := by
  subst hp
  exact ai_Ev_step (h' := (S, I, L, F)) hd (by subst hv; simp [ai_op, ai_nx]) ⟨Nat.le_refl _, Nat.le_refl _⟩ hk
theorem ev_ldc (pc2 : Nat) (hp : pc + 2 = pc2) {n : Nat} {v : Int32} (hd : decode (ai_b y) pc = .ok (.ldc n, 2)) (hv : (ai_ki (ai_oc y) n).map (fun t => t.2) = some v) (hk : ai_Ev X y pc2 ls (.int v :: st) (S, I, L, F) Q) : ai_Ev X y pc ls st (S, I, L, F) Q := by
  subst hp
  exact ai_Ev_step (h' := (S, I, L, F)) hd (by obtain ⟨t, ht, rfl⟩ := Option.map_eq_some_iff.mp hv; simp [ai_op, ai_o2, ht, ai_nx]) ⟨Nat.le_refl _, Nat.le_refl _⟩ hk
theorem ev_ldc2 (pc2 : Nat) (hp : pc + 3 = pc2) {n : Nat} {v : Int64} (hd : decode (ai_b y) pc = .ok (.ldc2_w n, 3)) (hv : (ai_kl (ai_oc y) n).map (fun t => t.2) = some v) (hk : ai_Ev X y pc2 ls (.long v :: st) (S, I, L, F) Q) : ai_Ev X y pc ls st (S, I, L, F) Q := by
  subst hp
  exact ai_Ev_step (h' := (S, I, L, F)) hd (by obtain ⟨t, ht, rfl⟩ := Option.map_eq_some_iff.mp hv; simp [ai_op, ai_o2, ht, ai_nx]) ⟨Nat.le_refl _, Nat.le_refl _⟩ hk
theorem ev_iadd (pc2 : Nat) (hp : pc + 1 = pc2) {a b v : Int32} (hd : decode (ai_b y) pc = .ok (.iadd, 1)) (hv : a + b = v) (hk : ai_Ev X y pc2 ls (.int v :: st) (S, I, L, F) Q) : ai_Ev X y pc ls (.int b :: .int a :: st) (S, I, L, F) Q := by
  subst hp
  exact ai_Ev_step (h' := (S, I, L, F)) hd (by subst hv; simp [ai_op, ai_i2, ai_i1, ai_nx]) ⟨Nat.le_refl _, Nat.le_refl _⟩ hk
theorem ev_isub (pc2 : Nat) (hp : pc + 1 = pc2) {a b v : Int32} (hd : decode (ai_b y) pc = .ok (.isub, 1)) (hv : a - b = v) (hk : ai_Ev X y pc2 ls (.int v :: st) (S, I, L, F) Q) : ai_Ev X y pc ls (.int b :: .int a :: st) (S, I, L, F) Q := by
  subst hp
  exact ai_Ev_step (h' := (S, I, L, F)) hd (by subst hv; simp [ai_op, ai_i2, ai_i1, ai_nx]) ⟨Nat.le_refl _, Nat.le_refl _⟩ hk
theorem ev_imul (pc2 : Nat) (hp : pc + 1 = pc2) {a b v : Int32} (hd : decode (ai_b y) pc = .ok (.imul, 1)) (hv : a * b = v) (hk : ai_Ev X y pc2 ls (.int v :: st) (S, I, L, F) Q) : ai_Ev X y pc ls (.int b :: .int a :: st) (S, I, L, F) Q := by
  subst hp
  exact ai_Ev_step (h' := (S, I, L, F)) hd (by subst hv; simp [ai_op, ai_i2, ai_i1, ai_nx]) ⟨Nat.le_refl _, Nat.le_refl _⟩ hk
theorem ev_iand (pc2 : Nat) (hp : pc + 1 = pc2) {a b v : Int32} (hd : decode (ai_b y) pc = .ok (.iand, 1)) (hv : a &&& b = v) (hk : ai_Ev X y pc2 ls (.int v :: st) (S, I, L, F) Q) : ai_Ev X y pc ls (.int b :: .int a :: st) (S, I, L, F) Q := by
  subst hp
  exact ai_Ev_step (h' := (S, I, L, F)) hd (by subst hv; simp [ai_op, ai_i2, ai_i1, ai_nx]) ⟨Nat.le_refl _, Nat.le_refl _⟩ hk
theorem ev_ishl (pc2 : Nat) (hp : pc + 1 = pc2) {a b v : Int32} (hd : decode (ai_b y) pc = .ok (.ishl, 1)) (hv : a <<< (b &&& 31) = v) (hk : ai_Ev X y pc2 ls (.int v :: st) (S, I, L, F) Q) : ai_Ev X y pc ls (.int b :: .int a :: st) (S, I, L, F) Q := by
  subst hp
  exact ai_Ev_step (h' := (S, I, L, F)) hd (by subst hv; simp [ai_op, ai_i2, ai_i1, ai_nx]) ⟨Nat.le_refl _, Nat.le_refl _⟩ hk
theorem ev_ishr (pc2 : Nat) (hp : pc + 1 = pc2) {a b v : Int32} (hd : decode (ai_b y) pc = .ok (.ishr, 1)) (hv : a >>> (b &&& 31) = v) (hk : ai_Ev X y pc2 ls (.int v :: st) (S, I, L, F) Q) : ai_Ev X y pc ls (.int b :: .int a :: st) (S, I, L, F) Q := by
  subst hp
  exact ai_Ev_step (h' := (S, I, L, F)) hd (by subst hv; simp [ai_op, ai_i2, ai_i1, ai_nx]) ⟨Nat.le_refl _, Nat.le_refl _⟩ hk
theorem ev_idiv (pc2 : Nat) (hp : pc + 1 = pc2) {a b v : Int32} (hd : decode (ai_b y) pc = .ok (.idiv, 1)) (hb : ¬ b = 0) (hv : a / b = v) (hk : ai_Ev X y pc2 ls (.int v :: st) (S, I, L, F) Q) : ai_Ev X y pc ls (.int b :: .int a :: st) (S, I, L, F) Q := by
  subst hp
  exact ai_Ev_step (h' := (S, I, L, F)) hd (by subst hv; simp [ai_op, ai_i2, ai_i1, ai_nx, ai_if, hb]) ⟨Nat.le_refl _, Nat.le_refl _⟩ hk
theorem ev_irem (pc2 : Nat) (hp : pc + 1 = pc2) {a b v : Int32} (hd : decode (ai_b y) pc = .ok (.irem, 1)) (hb : ¬ b = 0) (hv : a - a / b * b = v) (hk : ai_Ev X y pc2 ls (.int v :: st) (S, I, L, F) Q) : ai_Ev X y pc ls (.int b :: .int a :: st) (S, I, L, F) Q := by
  subst hp
  exact ai_Ev_step (h' := (S, I, L, F)) hd (by subst hv; simp [ai_op, ai_i2, ai_i1, ai_nx, ai_if, hb]) ⟨Nat.le_refl _, Nat.le_refl _⟩ hk
theorem ev_ineg (pc2 : Nat) (hp : pc + 1 = pc2) {a v : Int32} (hd : decode (ai_b y) pc = .ok (.ineg, 1)) (hv : -a = v) (hk : ai_Ev X y pc2 ls (.int v :: st) (S, I, L, F) Q) : ai_Ev X y pc ls (.int a :: st) (S, I, L, F) Q := by
  subst hp
  exact ai_Ev_step (h' := (S, I, L, F)) hd (by subst hv; simp [ai_op, ai_i1, ai_nx]) ⟨Nat.le_refl _, Nat.le_refl _⟩ hk
theorem ev_i2b (pc2 : Nat) (hp : pc + 1 = pc2) {a v : Int32} (hd : decode (ai_b y) pc = .ok (.i2b, 1)) (hv : a.toInt8.toInt32 = v) (hk : ai_Ev X y pc2 ls (.int v :: st) (S, I, L, F) Q) : ai_Ev X y pc ls (.int a :: st) (S, I, L, F) Q := by
  subst hp
  exact ai_Ev_step (h' := (S, I, L, F)) hd (by subst hv; simp [ai_op, ai_i1, ai_nx]) ⟨Nat.le_refl _, Nat.le_refl _⟩ hk
theorem ev_i2s (pc2 : Nat) (hp : pc + 1 = pc2) {a v : Int32} (hd : decode (ai_b y) pc = .ok (.i2s, 1)) (hv : a.toInt16.toInt32 = v) (hk : ai_Ev X y pc2 ls (.int v :: st) (S, I, L, F) Q) : ai_Ev X y pc ls (.int a :: st) (S, I, L, F) Q := by
  subst hp
  exact ai_Ev_step (h' := (S, I, L, F)) hd (by subst hv; simp [ai_op, ai_i1, ai_nx]) ⟨Nat.le_refl _, Nat.le_refl _⟩ hk
theorem ev_i2l (pc2 : Nat) (hp : pc + 1 = pc2) {a : Int32} {v : Int64} (hd : decode (ai_b y) pc = .ok (.i2l, 1)) (hv : a.toInt64 = v) (hk : ai_Ev X y pc2 ls (.long v :: st) (S, I, L, F) Q) : ai_Ev X y pc ls (.int a :: st) (S, I, L, F) Q := by
  subst hp
  exact ai_Ev_step (h' := (S, I, L, F)) hd (by subst hv; simp [ai_op, ai_i1, ai_nx]) ⟨Nat.le_refl _, Nat.le_refl _⟩ hk
theorem ev_l2i (pc2 : Nat) (hp : pc + 1 = pc2) {a : Int64} {v : Int32} (hd : decode (ai_b y) pc = .ok (.l2i, 1)) (hv : a.toInt32 = v) (hk : ai_Ev X y pc2 ls (.int v :: st) (S, I, L, F) Q) : ai_Ev X y pc ls (.long a :: st) (S, I, L, F) Q := by
  subst hp
  exact ai_Ev_step (h' := (S, I, L, F)) hd (by subst hv; simp [ai_op, ai_l1, ai_nx]) ⟨Nat.le_refl _, Nat.le_refl _⟩ hk
theorem ev_ladd (pc2 : Nat) (hp : pc + 1 = pc2) {a b v : Int64} (hd : decode (ai_b y) pc = .ok (.ladd, 1)) (hv : a + b = v) (hk : ai_Ev X y pc2 ls (.long v :: st) (S, I, L, F) Q) : ai_Ev X y pc ls (.long b :: .long a :: st) (S, I, L, F) Q := by
  subst hp
  exact ai_Ev_step (h' := (S, I, L, F)) hd (by subst hv; simp [ai_op, ai_l2, ai_l1, ai_nx]) ⟨Nat.le_refl _, Nat.le_refl _⟩ hk
theorem ev_lmul (pc2 : Nat) (hp : pc + 1 = pc2) {a b v : Int64} (hd : decode (ai_b y) pc = .ok (.lmul, 1)) (hv : a * b = v) (hk : ai_Ev X y pc2 ls (.long v :: st) (S, I, L, F) Q) : ai_Ev X y pc ls (.long b :: .long a :: st) (S, I, L, F) Q := by
  subst hp
  exact ai_Ev_step (h' := (S, I, L, F)) hd (by subst hv; simp [ai_op, ai_l2, ai_l1, ai_nx]) ⟨Nat.le_refl _, Nat.le_refl _⟩ hk
theorem ev_land (pc2 : Nat) (hp : pc + 1 = pc2) {a b v : Int64} (hd : decode (ai_b y) pc = .ok (.land, 1)) (hv : a &&& b = v) (hk : ai_Ev X y pc2 ls (.long v :: st) (S, I, L, F) Q) : ai_Ev X y pc ls (.long b :: .long a :: st) (S, I, L, F) Q := by
  subst hp
  exact ai_Ev_step (h' := (S, I, L, F)) hd (by subst hv; simp [ai_op, ai_l2, ai_l1, ai_nx]) ⟨Nat.le_refl _, Nat.le_refl _⟩ hk
theorem ev_lor (pc2 : Nat) (hp : pc + 1 = pc2) {a b v : Int64} (hd : decode (ai_b y) pc = .ok (.lor, 1)) (hv : a ||| b = v) (hk : ai_Ev X y pc2 ls (.long v :: st) (S, I, L, F) Q) : ai_Ev X y pc ls (.long b :: .long a :: st) (S, I, L, F) Q := by
  subst hp
  exact ai_Ev_step (h' := (S, I, L, F)) hd (by subst hv; simp [ai_op, ai_l2, ai_l1, ai_nx]) ⟨Nat.le_refl _, Nat.le_refl _⟩ hk
theorem ev_lcmp (pc2 : Nat) (hp : pc + 1 = pc2) {a b : Int64} {v : Int32} (hd : decode (ai_b y) pc = .ok (.lcmp, 1)) (hv : lg_cmp a b = v) (hk : ai_Ev X y pc2 ls (.int v :: st) (S, I, L, F) Q) : ai_Ev X y pc ls (.long b :: .long a :: st) (S, I, L, F) Q := by
  subst hp
  exact ai_Ev_step (h' := (S, I, L, F)) hd (by subst hv; simp [ai_op, ai_l2, ai_l1, ai_nx]) ⟨Nat.le_refl _, Nat.le_refl _⟩ hk
theorem ev_lshl (pc2 : Nat) (hp : pc + 1 = pc2) {a v : Int64} {b : Int32} (hd : decode (ai_b y) pc = .ok (.lshl, 1)) (hv : a <<< (b.toInt64 &&& 63) = v) (hk : ai_Ev X y pc2 ls (.long v :: st) (S, I, L, F) Q) : ai_Ev X y pc ls (.int b :: .long a :: st) (S, I, L, F) Q := by
  subst hp
  exact ai_Ev_step (h' := (S, I, L, F)) hd (by subst hv; simp [ai_op, ai_l1, ai_i1, ai_nx]) ⟨Nat.le_refl _, Nat.le_refl _⟩ hk
theorem ev_lshr (pc2 : Nat) (hp : pc + 1 = pc2) {a v : Int64} {b : Int32} (hd : decode (ai_b y) pc = .ok (.lshr, 1)) (hv : a >>> (b.toInt64 &&& 63) = v) (hk : ai_Ev X y pc2 ls (.long v :: st) (S, I, L, F) Q) : ai_Ev X y pc ls (.int b :: .long a :: st) (S, I, L, F) Q := by
  subst hp
  exact ai_Ev_step (h' := (S, I, L, F)) hd (by subst hv; simp [ai_op, ai_l1, ai_i1, ai_nx]) ⟨Nat.le_refl _, Nat.le_refl _⟩ hk
theorem ev_lushr (pc2 : Nat) (hp : pc + 1 = pc2) {a v : Int64} {b : Int32} (hd : decode (ai_b y) pc = .ok (.lushr, 1)) (hv : (a.toUInt64 >>> (b.toInt64.toUInt64 &&& Int64.toUInt64 63)).toInt64 = v) (hk : ai_Ev X y pc2 ls (.long v :: st) (S, I, L, F) Q) : ai_Ev X y pc ls (.int b :: .long a :: st) (S, I, L, F) Q := by
  subst hp
  exact ai_Ev_step (h' := (S, I, L, F)) hd (by subst hv; simp [ai_op, ai_l1, ai_i1, ai_nx]) ⟨Nat.le_refl _, Nat.le_refl _⟩ hk
theorem ev_dup (pc2 : Nat) (hp : pc + 1 = pc2) {v : Value} (hd : decode (ai_b y) pc = .ok (.dup, 1)) (hc : v.category = 1) (hk : ai_Ev X y pc2 ls (v :: v :: st) (S, I, L, F) Q) : ai_Ev X y pc ls (v :: st) (S, I, L, F) Q := by
  subst hp
  exact ai_Ev_step (h' := (S, I, L, F)) hd (by simp [ai_op, ai_if, hc, ai_nx]) ⟨Nat.le_refl _, Nat.le_refl _⟩ hk
theorem ev_pop (pc2 : Nat) (hp : pc + 1 = pc2) {v : Value} (hd : decode (ai_b y) pc = .ok (.pop, 1)) (hc : v.category = 1) (hk : ai_Ev X y pc2 ls st (S, I, L, F) Q) : ai_Ev X y pc ls (v :: st) (S, I, L, F) Q := by
  subst hp
  exact ai_Ev_step (h' := (S, I, L, F)) hd (by simp [ai_op, ai_if, hc, ai_nx]) ⟨Nat.le_refl _, Nat.le_refl _⟩ hk
theorem ev_dup2 (pc2 : Nat) (hp : pc + 1 = pc2) {v u : Value} (hd : decode (ai_b y) pc = .ok (.dup2, 1)) (hc : v.category = 1 ∧ u.category = 1) (hk : ai_Ev X y pc2 ls (v :: u :: v :: u :: st) (S, I, L, F) Q) : ai_Ev X y pc ls (v :: u :: st) (S, I, L, F) Q := by
  subst hp
  exact ai_Ev_step (h' := (S, I, L, F)) hd (by simp [ai_op, ai_if, hc, ai_nx]) ⟨Nat.le_refl _, Nat.le_refl _⟩ hk
theorem ev_goto {off : Int} (pc2 : Nat) (hp : (pc : Int) + off = (pc2 : Int)) (hd : decode (ai_b y) pc = .ok (.goto off, 3))  (hk : ai_Ev X y pc2 ls st (S, I, L, F) Q) : ai_Ev X y pc ls st (S, I, L, F) Q := by
  exact ai_Ev_step (h' := (S, I, L, F)) hd (by simp [ai_op, ai_br, hp, Int.natCast_nonneg]) ⟨Nat.le_refl _, Nat.le_refl _⟩ hk
theorem ev_icmp {c : ClassFile.Cond} {off : Int} {a b : Int32} (pc2 pc3 : Nat) (hp : (pc : Int) + off = (pc2 : Int)) (hp3 : pc + 3 = pc3) {P : Prop} (hP : ai_cond c a b = true ↔ P) (hd : decode (ai_b y) pc = .ok (.if_icmp c off, 3)) (kt : P → ai_Ev X y pc2 ls st (S, I, L, F) Q) (kf : ¬ P → ai_Ev X y pc3 ls st (S, I, L, F) Q) : ai_Ev X y pc ls (.int b :: .int a :: st) (S, I, L, F) Q := by
  subst hp3
  by_cases h : ai_cond c a b = true
  · exact ai_Ev_step hd (by simp [ai_op, ai_i2, ai_i1, ai_if, h, ai_br, hp, Int.natCast_nonneg]) ⟨Nat.le_refl _, Nat.le_refl _⟩ (kt (hP.mp h))
  · exact ai_Ev_step hd (by simp [ai_op, ai_i2, ai_i1, ai_if, h, ai_nx, hp, Int.natCast_nonneg]) ⟨Nat.le_refl _, Nat.le_refl _⟩ (kf (fun z => h (hP.mpr z)))
theorem ev_icmp_T {c : ClassFile.Cond} {off : Int} {a b : Int32} (pc2 : Nat) (hp : (pc : Int) + off = (pc2 : Int)) (h : ai_cond c a b = true) (hd : decode (ai_b y) pc = .ok (.if_icmp c off, 3)) (kt : ai_Ev X y pc2 ls st (S, I, L, F) Q) : ai_Ev X y pc ls (.int b :: .int a :: st) (S, I, L, F) Q :=
  ai_Ev_step hd (by simp [ai_op, ai_i2, ai_i1, ai_if, h, ai_br, hp, Int.natCast_nonneg]) ⟨Nat.le_refl _, Nat.le_refl _⟩ kt
theorem ev_icmp_F {c : ClassFile.Cond} {off : Int} {a b : Int32} (pc2 pc3 : Nat) (hp : (pc : Int) + off = (pc2 : Int)) (hp3 : pc + 3 = pc3) (h : ¬ ai_cond c a b = true) (hd : decode (ai_b y) pc = .ok (.if_icmp c off, 3)) (kt : ai_Ev X y pc3 ls st (S, I, L, F) Q) : ai_Ev X y pc ls (.int b :: .int a :: st) (S, I, L, F) Q := by
  subst hp3
  exact ai_Ev_step hd (by simp [ai_op, ai_i2, ai_i1, ai_if, h, ai_nx, hp, Int.natCast_nonneg]) ⟨Nat.le_refl _, Nat.le_refl _⟩ kt
theorem ev_if {c : ClassFile.Cond} {off : Int} {a : Int32} (pc2 pc3 : Nat) (hp : (pc : Int) + off = (pc2 : Int)) (hp3 : pc + 3 = pc3) {P : Prop} (hP : ai_cond c a 0 = true ↔ P) (hd : decode (ai_b y) pc = .ok (.ifCond c off, 3)) (kt : P → ai_Ev X y pc2 ls st (S, I, L, F) Q) (kf : ¬ P → ai_Ev X y pc3 ls st (S, I, L, F) Q) : ai_Ev X y pc ls (.int a :: st) (S, I, L, F) Q := by
  subst hp3
  by_cases h : ai_cond c a 0 = true
  · exact ai_Ev_step hd (by simp [ai_op, ai_i1, ai_if, h, ai_br, hp, Int.natCast_nonneg]) ⟨Nat.le_refl _, Nat.le_refl _⟩ (kt (hP.mp h))
  · exact ai_Ev_step hd (by simp [ai_op, ai_i1, ai_if, h, ai_nx, hp, Int.natCast_nonneg]) ⟨Nat.le_refl _, Nat.le_refl _⟩ (kf (fun z => h (hP.mpr z)))
theorem ev_if_T {c : ClassFile.Cond} {off : Int} {a : Int32} (pc2 : Nat) (hp : (pc : Int) + off = (pc2 : Int)) (h : ai_cond c a 0 = true) (hd : decode (ai_b y) pc = .ok (.ifCond c off, 3)) (kt : ai_Ev X y pc2 ls st (S, I, L, F) Q) : ai_Ev X y pc ls (.int a :: st) (S, I, L, F) Q :=
  ai_Ev_step hd (by simp [ai_op, ai_i1, ai_if, h, ai_br, hp, Int.natCast_nonneg]) ⟨Nat.le_refl _, Nat.le_refl _⟩ kt
theorem ev_if_F {c : ClassFile.Cond} {off : Int} {a : Int32} (pc2 pc3 : Nat) (hp : (pc : Int) + off = (pc2 : Int)) (hp3 : pc + 3 = pc3) (h : ¬ ai_cond c a 0 = true) (hd : decode (ai_b y) pc = .ok (.ifCond c off, 3)) (kt : ai_Ev X y pc3 ls st (S, I, L, F) Q) : ai_Ev X y pc ls (.int a :: st) (S, I, L, F) Q := by
  subst hp3
  exact ai_Ev_step hd (by simp [ai_op, ai_i1, ai_if, h, ai_nx, hp, Int.natCast_nonneg]) ⟨Nat.le_refl _, Nat.le_refl _⟩ kt
theorem ev_geti (pc2 : Nat) (hp : pc + 3 = pc2) {n a : Nat} {sn : Nat} {v : Int32} (ci kk : Nat) (hd : decode (ai_b y) pc = .ok (.getfield n, 3)) (hf : ai_gi y n ci kk = true) (ha : a ≠ 0) (hs : S[a]? = some (ci, sn)) (hv : I a kk = v) (hk : ai_Ev X y pc2 ls (.int v :: st) (S, I, L, F) Q) : ai_Ev X y pc ls (.ref a :: st) (S, I, L, F) Q := by
  subst hp
  exact ai_Ev_step (h' := (S, I, L, F)) hd (by subst hv; unfold ai_gi at hf; split at hf <;> simp at hf; rename_i t ht; obtain ⟨⟨rfl, rfl⟩, h3⟩ := hf; simp [ai_op, ai_r1, ai_o2, ht, hs, ai_if, ha, ai_ocL_lt, h3, ai_nx]) ⟨Nat.le_refl _, Nat.le_refl _⟩ hk
theorem ev_getr (pc2 : Nat) (hp : pc + 3 = pc2) {n a : Nat} {sn : Nat} {b : Nat} (ci kk : Nat) (hd : decode (ai_b y) pc = .ok (.getfield n, 3)) (hf : ai_gr y n ci kk = true) (ha : a ≠ 0) (hs : S[a]? = some (ci, sn)) (hv : F a kk = some b) (hk : ai_Ev X y pc2 ls (.ref b :: st) (S, I, L, F) Q) : ai_Ev X y pc ls (.ref a :: st) (S, I, L, F) Q := by
  subst hp
  exact ai_Ev_step (h' := (S, I, L, F)) hd (by unfold ai_gr at hf; split at hf <;> simp at hf; rename_i t ht; obtain ⟨⟨rfl, rfl⟩, h3⟩ := hf; simp [ai_op, ai_r1, ai_o2, ht, hs, ai_if, ha, ai_ocL_lt, h3, ai_nx, hv]) ⟨Nat.le_refl _, Nat.le_refl _⟩ hk
theorem ev_puti (pc2 : Nat) (hp : pc + 3 = pc2) {n a : Nat} {sn : Nat} {v : Int32} {I2 : Nat → Nat → Int32} (ci kk : Nat) (hd : decode (ai_b y) pc = .ok (.putfield n, 3)) (hf : ai_pi y n ci kk = true) (ha : a ≠ 0) (hs : S[a]? = some (ci, sn)) (hb : ai_fk ci kk = 1 → v = 0 ∨ v = 1) (hI : ai_ui I a kk v = I2) (hk : ai_Ev X y pc2 ls st (S, I2, L, F) Q) : ai_Ev X y pc ls (.int v :: .ref a :: st) (S, I, L, F) Q := by
  subst hp
  exact ai_Ev_step (h' := (S, I2, L, F)) hd (by subst hI; unfold ai_pi at hf; split at hf <;> simp at hf; rename_i t ht; obtain ⟨⟨⟨rfl, rfl⟩, h3⟩, h4⟩ := hf; simp only [ai_op, ai_o2, ht]; rw [if_neg h3]; simp only [ai_i1, ai_r1, hs]; refine (ai_if_pos ⟨ha, by trivial, ai_ocL_lt y, h4, hb⟩).trans ?_; simp [ai_nx]) ⟨Nat.le_refl _, Nat.le_refl _⟩ hk
theorem ev_putr (pc2 : Nat) (hp : pc + 3 = pc2) {n a : Nat} {sn : Nat} {v : Nat} {F2 : Nat → Nat → Option Nat} (ci kk : Nat) (hd : decode (ai_b y) pc = .ok (.putfield n, 3)) (hf : ai_pr y n ci kk = true) (ha : a ≠ 0) (hs : S[a]? = some (ci, sn)) (hI : ai_ur F a kk (some v) = F2) (hk : ai_Ev X y pc2 ls st (S, I, L, F2) Q) : ai_Ev X y pc ls (.ref v :: .ref a :: st) (S, I, L, F) Q := by
  subst hp
  exact ai_Ev_step (h' := (S, I, L, F2)) hd (by subst hI; unfold ai_pr at hf; split at hf <;> simp at hf; rename_i t ht; obtain ⟨⟨⟨rfl, rfl⟩, h3⟩, h4⟩ := hf; simp only [ai_op, ai_o2, ht]; rw [if_pos h3]; simp only [ai_r1, hs]; refine (ai_if_pos ⟨ha, by trivial, ai_ocL_lt y, by rcases h4 with h4 | h4; exact Or.inl h4; exact Or.inr ⟨h4.1.1, h4.1.2, h4.2⟩⟩).trans ?_; simp [ai_nx]) ⟨Nat.le_refl _, Nat.le_refl _⟩ hk
theorem ev_iald (pc2 : Nat) (hp : pc + 1 = pc2) {a n : Nat} {j v : Int32} (hd : decode (ai_b y) pc = .ok (.iaload, 1)) (ha : a ≠ 0) (hs : S[a]? = some (100, n)) (hin : ¬ (j < 0 ∨ n ≤ j.toNatClampNeg)) (hv : I a j.toNatClampNeg = v) (hk : ai_Ev X y pc2 ls (.int v :: st) (S, I, L, F) Q) : ai_Ev X y pc ls (.int j :: .ref a :: st) (S, I, L, F) Q := by
  subst hp
  exact ai_Ev_step (h' := (S, I, L, F)) hd (by subst hv; simp only [ai_op, ai_i1, ai_r1]; rw [if_neg ha]; simp only [ai_o2, hs]; refine (ai_if_pos ⟨by trivial, hin⟩).trans ?_; simp [ai_nx]) ⟨Nat.le_refl _, Nat.le_refl _⟩ hk
theorem ev_bald (pc2 : Nat) (hp : pc + 1 = pc2) {a n t : Nat} {j v : Int32} (hd : decode (ai_b y) pc = .ok (.baload, 1)) (ha : a ≠ 0) (ht : t = 101 ∨ t = 102) (hs : S[a]? = some (t, n)) (hin : ¬ (j < 0 ∨ n ≤ j.toNatClampNeg)) (hv : I a j.toNatClampNeg = v) (hk : ai_Ev X y pc2 ls (.int v :: st) (S, I, L, F) Q) : ai_Ev X y pc ls (.int j :: .ref a :: st) (S, I, L, F) Q := by
  subst hp
  exact ai_Ev_step (h' := (S, I, L, F)) hd (by subst hv; simp only [ai_op, ai_i1, ai_r1, ai_o2, hs]; refine (ai_if_pos ⟨ha, ht, hin⟩).trans ?_; simp [ai_nx]) ⟨Nat.le_refl _, Nat.le_refl _⟩ hk
theorem ev_lald (pc2 : Nat) (hp : pc + 1 = pc2) {a n : Nat} {j : Int32} {v : Int64} (hd : decode (ai_b y) pc = .ok (.laload, 1)) (ha : a ≠ 0) (hs : S[a]? = some (103, n)) (hin : ¬ (j < 0 ∨ n ≤ j.toNatClampNeg)) (hv : L a j.toNatClampNeg = v) (hk : ai_Ev X y pc2 ls (.long v :: st) (S, I, L, F) Q) : ai_Ev X y pc ls (.int j :: .ref a :: st) (S, I, L, F) Q := by
  subst hp
  exact ai_Ev_step (h' := (S, I, L, F)) hd (by subst hv; simp only [ai_op, ai_i1, ai_r1, ai_o2, hs]; refine (ai_if_pos ⟨ha, by trivial, hin⟩).trans ?_; simp [ai_nx]) ⟨Nat.le_refl _, Nat.le_refl _⟩ hk
theorem ev_aald (pc2 : Nat) (hp : pc + 1 = pc2) {a n t b : Nat} {j : Int32} (hd : decode (ai_b y) pc = .ok (.aaload, 1)) (ha : a ≠ 0) (ht : 104 ≤ t ∧ t < 109) (hs : S[a]? = some (t, n)) (hin : ¬ (j < 0 ∨ n ≤ j.toNatClampNeg)) (hv : F a j.toNatClampNeg = some b) (hk : ai_Ev X y pc2 ls (.ref b :: st) (S, I, L, F) Q) : ai_Ev X y pc ls (.int j :: .ref a :: st) (S, I, L, F) Q := by
  subst hp
  exact ai_Ev_step (h' := (S, I, L, F)) hd (by simp only [ai_op, ai_i1, ai_r1, ai_o2, hs]; refine (ai_if_pos ⟨ha, ht.1, ht.2, hin⟩).trans ?_; simp [ai_nx, hv]) ⟨Nat.le_refl _, Nat.le_refl _⟩ hk
theorem ev_iast (pc2 : Nat) (hp : pc + 1 = pc2) {a n : Nat} {j v : Int32} {I2 : Nat → Nat → Int32} (hd : decode (ai_b y) pc = .ok (.iastore, 1)) (ha : a ≠ 0) (hs : S[a]? = some (100, n)) (hin : ¬ (j < 0 ∨ n ≤ j.toNatClampNeg)) (hI : ai_ui I a j.toNatClampNeg v = I2) (hk : ai_Ev X y pc2 ls st (S, I2, L, F) Q) : ai_Ev X y pc ls (.int v :: .int j :: .ref a :: st) (S, I, L, F) Q := by
  subst hp
  exact ai_Ev_step (h' := (S, I2, L, F)) hd (by subst hI; simp only [ai_op, ai_i1, ai_r1, ai_o2, hs]; refine (ai_if_pos ⟨ha, by trivial, hin⟩).trans ?_; simp [ai_nx]) ⟨Nat.le_refl _, Nat.le_refl _⟩ hk
theorem ev_bast (pc2 : Nat) (hp : pc + 1 = pc2) {a n : Nat} {j v u : Int32} {I2 : Nat → Nat → Int32} (hd : decode (ai_b y) pc = .ok (.bastore, 1)) (ha : a ≠ 0) (hs : S[a]? = some (101, n)) (hin : ¬ (j < 0 ∨ n ≤ j.toNatClampNeg)) (hu : vp_nar .byte v = u) (hI : ai_ui I a j.toNatClampNeg u = I2) (hk : ai_Ev X y pc2 ls st (S, I2, L, F) Q) : ai_Ev X y pc ls (.int v :: .int j :: .ref a :: st) (S, I, L, F) Q := by
  subst hp
  exact ai_Ev_step (h' := (S, I2, L, F)) hd (by subst hI; subst hu; simp only [ai_op, ai_i1, ai_r1, ai_o2, hs]; rw [if_pos (by trivial)]; refine (ai_if_pos ⟨ha, hin⟩).trans ?_; simp [ai_nx]) ⟨Nat.le_refl _, Nat.le_refl _⟩ hk
theorem ev_zast (pc2 : Nat) (hp : pc + 1 = pc2) {a n : Nat} {j v u : Int32} {I2 : Nat → Nat → Int32} (hd : decode (ai_b y) pc = .ok (.bastore, 1)) (ha : a ≠ 0) (hs : S[a]? = some (102, n)) (hin : ¬ (j < 0 ∨ n ≤ j.toNatClampNeg)) (hu : vp_nar .boolean v = u) (hI : ai_ui I a j.toNatClampNeg u = I2) (hk : ai_Ev X y pc2 ls st (S, I2, L, F) Q) : ai_Ev X y pc ls (.int v :: .int j :: .ref a :: st) (S, I, L, F) Q := by
  subst hp
  exact ai_Ev_step (h' := (S, I2, L, F)) hd (by subst hI; subst hu; simp only [ai_op, ai_i1, ai_r1, ai_o2, hs]; rw [if_neg (by decide)]; refine (ai_if_pos ⟨ha, by trivial, hin⟩).trans ?_; simp [ai_nx]) ⟨Nat.le_refl _, Nat.le_refl _⟩ hk
theorem ev_last (pc2 : Nat) (hp : pc + 1 = pc2) {a n : Nat} {j : Int32} {v : Int64} {L2 : Nat → Nat → Int64} (hd : decode (ai_b y) pc = .ok (.lastore, 1)) (ha : a ≠ 0) (hs : S[a]? = some (103, n)) (hin : ¬ (j < 0 ∨ n ≤ j.toNatClampNeg)) (hI : ai_ul L a j.toNatClampNeg v = L2) (hk : ai_Ev X y pc2 ls st (S, I, L2, F) Q) : ai_Ev X y pc ls (.long v :: .int j :: .ref a :: st) (S, I, L, F) Q := by
  subst hp
  exact ai_Ev_step (h' := (S, I, L2, F)) hd (by subst hI; simp only [ai_op, ai_i1, ai_l1, ai_r1, ai_o2, hs]; refine (ai_if_pos ⟨ha, by trivial, hin⟩).trans ?_; simp [ai_nx]) ⟨Nat.le_refl _, Nat.le_refl _⟩ hk
theorem ev_aast (pc2 : Nat) (hp : pc + 1 = pc2) {a n t v : Nat} {u : Nat × Nat} {j : Int32} {F2 : Nat → Nat → Option Nat} (hd : decode (ai_b y) pc = .ok (.aastore, 1)) (ha : a ≠ 0) (hv : v ≠ 0) (ht : 104 ≤ t ∧ t < 109) (hs : S[a]? = some (t, n)) (hu : S[v]? = some u) (hc : u.1 = ai_ec (t - 100)) (hin : ¬ (j < 0 ∨ n ≤ j.toNatClampNeg)) (hI : ai_ur F a j.toNatClampNeg (some v) = F2) (hk : ai_Ev X y pc2 ls st (S, I, L, F2) Q) : ai_Ev X y pc ls (.ref v :: .int j :: .ref a :: st) (S, I, L, F) Q := by
  subst hp
  exact ai_Ev_step (h' := (S, I, L, F2)) hd (by subst hI; simp only [ai_op, ai_i1, ai_r1, ai_o2, hs, hu]; refine (ai_if_pos ⟨ha, hv, ht.1, ht.2, hc, hin⟩).trans ?_; simp [ai_nx]) ⟨Nat.le_refl _, Nat.le_refl _⟩ hk
theorem ev_alen (pc2 : Nat) (hp : pc + 1 = pc2) {a n t : Nat} {v : Int32} (hd : decode (ai_b y) pc = .ok (.arraylength, 1)) (ha : a ≠ 0) (ht : 100 ≤ t ∧ t < 109) (hs : S[a]? = some (t, n)) (hv : Int32.ofNat n = v) (hk : ai_Ev X y pc2 ls (.int v :: st) (S, I, L, F) Q) : ai_Ev X y pc ls (.ref a :: st) (S, I, L, F) Q := by
  subst hp
  exact ai_Ev_step (h' := (S, I, L, F)) hd (by subst hv; simp only [ai_op, ai_r1]; rw [if_neg ha]; simp [ai_o2, hs, ai_if, ht, ai_nx]) ⟨Nat.le_refl _, Nat.le_refl _⟩ hk
theorem ev_oinit (pc2 : Nat) (hp : pc + 3 = pc2) {n x : Nat} (hd : decode (ai_b y) pc = .ok (.invokespecial n, 3)) (hm : (ai_ml (ai_oc y) n).map (fun t => t.2.1) = some 1000) (hr : decide (1 ≤ ai_fr y ∧ (st.map fun v => v.category).sum + 12 ≤ ai_lo y) = true) (hk : ai_Ev X y pc2 ls st (S, I, L, F) Q) : ai_Ev X y pc ls (.ref x :: st) (S, I, L, F) Q := by
  subst hp
  exact ai_Ev_step (h' := (S, I, L, F)) hd (by obtain ⟨t, ht, ht2⟩ := Option.map_eq_some_iff.mp hm; simp only [decide_eq_true_eq] at hr; simp [ai_op, ai_o2, ht, ht2, ai_r1, ai_if, ai_ocL_lt, hr, ai_nx]) ⟨Nat.le_refl _, Nat.le_refl _⟩ hk
theorem ev_max (pc2 : Nat) (hp : pc + 3 = pc2) {n : Nat} {a b v : Int32} (hd : decode (ai_b y) pc = .ok (.invokestatic n, 3)) (hm : (ai_ml (ai_oc y) n).map (fun t => t.2.1) = some 1001) (hr : decide (1 ≤ ai_fr y ∧ (st.map fun v => v.category).sum + 13 ≤ ai_lo y) = true) (hv : (if a < b then b else a) = v) (hk : ai_Ev X y pc2 ls (.int v :: st) (S, I, L, F) Q) : ai_Ev X y pc ls (.int b :: .int a :: st) (S, I, L, F) Q := by
  subst hp
  exact ai_Ev_step (h' := (S, I, L, F)) hd (by subst hv; obtain ⟨t, ht, ht2⟩ := Option.map_eq_some_iff.mp hm; simp only [decide_eq_true_eq] at hr; simp [ai_op, ai_o2, ht, ht2, ai_i2, ai_i1, ai_if, ai_ocL_lt, hr, ai_nx]) ⟨Nat.le_refl _, Nat.le_refl _⟩ hk
theorem ev_min (pc2 : Nat) (hp : pc + 3 = pc2) {n : Nat} {a b v : Int32} (hd : decode (ai_b y) pc = .ok (.invokestatic n, 3)) (hm : (ai_ml (ai_oc y) n).map (fun t => t.2.1) = some 1002) (hr : decide (1 ≤ ai_fr y ∧ (st.map fun v => v.category).sum + 13 ≤ ai_lo y) = true) (hv : (if b < a then b else a) = v) (hk : ai_Ev X y pc2 ls (.int v :: st) (S, I, L, F) Q) : ai_Ev X y pc ls (.int b :: .int a :: st) (S, I, L, F) Q := by
  subst hp
  exact ai_Ev_step (h' := (S, I, L, F)) hd (by subst hv; obtain ⟨t, ht, ht2⟩ := Option.map_eq_some_iff.mp hm; simp only [decide_eq_true_eq] at hr; simp [ai_op, ai_o2, ht, ht2, ai_i2, ai_i1, ai_if, ai_ocL_lt, hr, ai_nx]) ⟨Nat.le_refl _, Nat.le_refl _⟩ hk
theorem ev_cpyi (pc2 : Nat) (hp : pc + 3 = pc2) {n : Nat} {a0 a n0 n1 : Nat} {sp dp c : Int32} {I2 : Nat → Nat → Int32} (hd : decode (ai_b y) pc = .ok (.invokestatic n, 3)) (hm : (ai_ml (ai_oc y) n).map (fun t => t.2.1) = some 1003) (hr : decide (1 ≤ ai_fr y ∧ (st.map fun v => v.category).sum + 18 ≤ ai_lo y) = true) (ha0 : a0 ≠ 0) (ha : a ≠ 0) (hs0 : S[a0]? = some (100, n0)) (hs1 : S[a]? = some (100, n1)) (hc : ¬ sp < 0 ∧ ¬ dp < 0 ∧ ¬ c < 0 ∧ sp.toNatClampNeg + c.toNatClampNeg ≤ n0 ∧ dp.toNatClampNeg + c.toNatClampNeg ≤ n1) (hI : ai_row I a (va_cpy (I a0) (I a) sp.toNatClampNeg dp.toNatClampNeg c.toNatClampNeg) = I2) (hk : ai_Ev X y pc2 ls st (S, I2, L, F) Q) : ai_Ev X y pc ls (.int c :: .int dp :: .ref a :: .int sp :: .ref a0 :: st) (S, I, L, F) Q := by
  subst hp
  exact ai_Ev_step (h' := (S, I2, L, F)) hd (by subst hI; obtain ⟨t, ht, ht2⟩ := Option.map_eq_some_iff.mp hm; simp only [decide_eq_true_eq] at hr; simp [ai_op, ai_o2, ht, ht2, ai_i1, ai_r1, hs0, hs1, ai_if, ai_ocL_lt, hr, ha0, ha, hc, ai_nx]) ⟨Nat.le_refl _, Nat.le_refl _⟩ hk
theorem ev_cpyl (pc2 : Nat) (hp : pc + 3 = pc2) {n : Nat} {a0 a n0 n1 : Nat} {sp dp c : Int32} {L2 : Nat → Nat → Int64} (hd : decode (ai_b y) pc = .ok (.invokestatic n, 3)) (hm : (ai_ml (ai_oc y) n).map (fun t => t.2.1) = some 1003) (hr : decide (1 ≤ ai_fr y ∧ (st.map fun v => v.category).sum + 18 ≤ ai_lo y) = true) (ha0 : a0 ≠ 0) (ha : a ≠ 0) (hs0 : S[a0]? = some (103, n0)) (hs1 : S[a]? = some (103, n1)) (hc : ¬ sp < 0 ∧ ¬ dp < 0 ∧ ¬ c < 0 ∧ sp.toNatClampNeg + c.toNatClampNeg ≤ n0 ∧ dp.toNatClampNeg + c.toNatClampNeg ≤ n1) (hI : ai_row L a (va_cpy (L a0) (L a) sp.toNatClampNeg dp.toNatClampNeg c.toNatClampNeg) = L2) (hk : ai_Ev X y pc2 ls st (S, I, L2, F) Q) : ai_Ev X y pc ls (.int c :: .int dp :: .ref a :: .int sp :: .ref a0 :: st) (S, I, L, F) Q := by
  subst hp
  exact ai_Ev_step (h' := (S, I, L2, F)) hd (by subst hI; obtain ⟨t, ht, ht2⟩ := Option.map_eq_some_iff.mp hm; simp only [decide_eq_true_eq] at hr; simp [ai_op, ai_o2, ht, ht2, ai_i1, ai_r1, hs0, hs1, ai_if, ai_ocL_lt, hr, ha0, ha, hc, ai_nx]) ⟨Nat.le_refl _, Nat.le_refl _⟩ hk
def ai_ck (y n q : Nat) (as rest : List Value) : Bool := decide (q < 179 ∧ (rest.map fun v => v.category).sum ≤ 8 ∧ ai_fr q + 1 ≤ ai_fr y ∧ 8 + (ai_mx q + 11) + ai_lo q ≤ ai_lo y ∧ (ai_en as (ai_mx q)).length = ai_mx q) && (match ai_ml (ai_oc y) n with
  | some t => t.2.1 == q && ai_na q + 1 == as.length
  | none => false)
theorem ev_cv0 (pc2 : Nat) (hp : pc + 3 = pc2) {n b : Nat} {ls0 : ai_L} {P : Option Value → ai_H → Prop} (q : Nat) (hd : decode (ai_b y) pc = .ok (.invokevirtual n, 3)) (hc : ai_ck y n q [.ref b] st = true) (hn : ai_ni q = false) (hs : (S[b]?).map Prod.fst = some (ai_oc q)) (hb : b ≠ 0) (he : ai_en [.ref b] (ai_mx q) = ls0) (k1 : ai_Ev none q 0 ls0 [] (S, I, L, F) P) (k : ∀ r h', P r h' → ai_Ev X y pc2 ls (r.toList ++ st) h' Q) : ai_Ev X y pc ls (.ref b :: st) (S, I, L, F) Q := by
  subst hp; subst he
  unfold ai_ck at hc
  simp only [Bool.and_eq_true, decide_eq_true_eq] at hc
  obtain ⟨h1, h2⟩ := hc
  split at h2
  · rename_i t ht
    simp only [Bool.and_eq_true, beq_iff_eq] at h2
    obtain ⟨rfl, h3⟩ := h2
    have h4 : ai_na t.2.1 = 0 := by simpa using h3
    obtain ⟨s1, hs1, hs2⟩ := Option.map_eq_some_iff.mp hs
    refine ai_Ev_call hd ?_ k1 k
    simp only [ai_op, ai_o2, ht, h4]
    rw [show (((.ref b :: st) : List Value).drop 0) = .ref b :: st from rfl, show (((.ref b :: st) : List Value).take 0).reverse = [] from rfl]
    simp only [ai_r1, hs1]
    refine (ai_if_pos ⟨by trivial, ai_ocL_lt y, hb, hs2, hn, by simp only [List.length_cons]; omega⟩).trans ?_
    exact if_pos h1
  · cases h2
theorem ev_ci0 (pc2 : Nat) (hp : pc + 3 = pc2) {n b : Nat} {ls0 : ai_L} {P : Option Value → ai_H → Prop} (q : Nat) (hd : decode (ai_b y) pc = .ok (.invokespecial n, 3)) (hc : ai_ck y n q [.ref b] st = true) (hn : ai_ni q = true) (he : ai_en [.ref b] (ai_mx q) = ls0) (k1 : ai_Ev none q 0 ls0 [] (S, I, L, F) P) (k : ∀ r h', P r h' → ai_Ev X y pc2 ls (r.toList ++ st) h' Q) : ai_Ev X y pc ls (.ref b :: st) (S, I, L, F) Q := by
  subst hp; subst he
  unfold ai_ck at hc
  simp only [Bool.and_eq_true, decide_eq_true_eq] at hc
  obtain ⟨h1, h2⟩ := hc
  split at h2
  · rename_i t ht
    simp only [Bool.and_eq_true, beq_iff_eq] at h2
    obtain ⟨rfl, h3⟩ := h2
    have h4 : ai_na t.2.1 = 0 := by simpa using h3
    refine ai_Ev_call hd ?_ k1 k
    simp only [ai_op, ai_o2, ht, h4]
    rw [if_neg (by omega)]
    rw [show (((.ref b :: st) : List Value).drop 0) = .ref b :: st from rfl, show (((.ref b :: st) : List Value).take 0).reverse = [] from rfl]
    simp only [ai_r1]
    refine (ai_if_pos ⟨by trivial, ai_ocL_lt y, hn, by simp only [List.length_cons]; omega⟩).trans ?_
    exact if_pos h1
  · cases h2
theorem ev_cv1 (pc2 : Nat) (hp : pc + 3 = pc2) {n b : Nat} {x0 : Value} {ls0 : ai_L} {P : Option Value → ai_H → Prop} (q : Nat) (hd : decode (ai_b y) pc = .ok (.invokevirtual n, 3)) (hc : ai_ck y n q [.ref b, x0] st = true) (hn : ai_ni q = false) (hs : (S[b]?).map Prod.fst = some (ai_oc q)) (hb : b ≠ 0) (he : ai_en [.ref b, x0] (ai_mx q) = ls0) (k1 : ai_Ev none q 0 ls0 [] (S, I, L, F) P) (k : ∀ r h', P r h' → ai_Ev X y pc2 ls (r.toList ++ st) h' Q) : ai_Ev X y pc ls (x0 :: .ref b :: st) (S, I, L, F) Q := by
  subst hp; subst he
  unfold ai_ck at hc
  simp only [Bool.and_eq_true, decide_eq_true_eq] at hc
  obtain ⟨h1, h2⟩ := hc
  split at h2
  · rename_i t ht
    simp only [Bool.and_eq_true, beq_iff_eq] at h2
    obtain ⟨rfl, h3⟩ := h2
    have h4 : ai_na t.2.1 = 1 := by simpa using h3
    obtain ⟨s1, hs1, hs2⟩ := Option.map_eq_some_iff.mp hs
    refine ai_Ev_call hd ?_ k1 k
    simp only [ai_op, ai_o2, ht, h4]
    rw [show (((x0 :: .ref b :: st) : List Value).drop 1) = .ref b :: st from rfl, show (((x0 :: .ref b :: st) : List Value).take 1).reverse = [x0] from rfl]
    simp only [ai_r1, hs1]
    refine (ai_if_pos ⟨by trivial, ai_ocL_lt y, hb, hs2, hn, by simp only [List.length_cons]; omega⟩).trans ?_
    exact if_pos h1
  · cases h2
theorem ev_ci1 (pc2 : Nat) (hp : pc + 3 = pc2) {n b : Nat} {x0 : Value} {ls0 : ai_L} {P : Option Value → ai_H → Prop} (q : Nat) (hd : decode (ai_b y) pc = .ok (.invokespecial n, 3)) (hc : ai_ck y n q [.ref b, x0] st = true) (hn : ai_ni q = true) (he : ai_en [.ref b, x0] (ai_mx q) = ls0) (k1 : ai_Ev none q 0 ls0 [] (S, I, L, F) P) (k : ∀ r h', P r h' → ai_Ev X y pc2 ls (r.toList ++ st) h' Q) : ai_Ev X y pc ls (x0 :: .ref b :: st) (S, I, L, F) Q := by
  subst hp; subst he
  unfold ai_ck at hc
  simp only [Bool.and_eq_true, decide_eq_true_eq] at hc
  obtain ⟨h1, h2⟩ := hc
  split at h2
  · rename_i t ht
    simp only [Bool.and_eq_true, beq_iff_eq] at h2
    obtain ⟨rfl, h3⟩ := h2
    have h4 : ai_na t.2.1 = 1 := by simpa using h3
    refine ai_Ev_call hd ?_ k1 k
    simp only [ai_op, ai_o2, ht, h4]
    rw [if_neg (by omega)]
    rw [show (((x0 :: .ref b :: st) : List Value).drop 1) = .ref b :: st from rfl, show (((x0 :: .ref b :: st) : List Value).take 1).reverse = [x0] from rfl]
    simp only [ai_r1]
    refine (ai_if_pos ⟨by trivial, ai_ocL_lt y, hn, by simp only [List.length_cons]; omega⟩).trans ?_
    exact if_pos h1
  · cases h2
theorem ev_cv2 (pc2 : Nat) (hp : pc + 3 = pc2) {n b : Nat} {x0 x1 : Value} {ls0 : ai_L} {P : Option Value → ai_H → Prop} (q : Nat) (hd : decode (ai_b y) pc = .ok (.invokevirtual n, 3)) (hc : ai_ck y n q [.ref b, x0, x1] st = true) (hn : ai_ni q = false) (hs : (S[b]?).map Prod.fst = some (ai_oc q)) (hb : b ≠ 0) (he : ai_en [.ref b, x0, x1] (ai_mx q) = ls0) (k1 : ai_Ev none q 0 ls0 [] (S, I, L, F) P) (k : ∀ r h', P r h' → ai_Ev X y pc2 ls (r.toList ++ st) h' Q) : ai_Ev X y pc ls (x1 :: x0 :: .ref b :: st) (S, I, L, F) Q := by
  subst hp; subst he
  unfold ai_ck at hc
  simp only [Bool.and_eq_true, decide_eq_true_eq] at hc
  obtain ⟨h1, h2⟩ := hc
  split at h2
  · rename_i t ht
    simp only [Bool.and_eq_true, beq_iff_eq] at h2
    obtain ⟨rfl, h3⟩ := h2
    have h4 : ai_na t.2.1 = 2 := by simpa using h3
    obtain ⟨s1, hs1, hs2⟩ := Option.map_eq_some_iff.mp hs
    refine ai_Ev_call hd ?_ k1 k
    simp only [ai_op, ai_o2, ht, h4]
    rw [show (((x1 :: x0 :: .ref b :: st) : List Value).drop 2) = .ref b :: st from rfl, show (((x1 :: x0 :: .ref b :: st) : List Value).take 2).reverse = [x0, x1] from rfl]
    simp only [ai_r1, hs1]
    refine (ai_if_pos ⟨by trivial, ai_ocL_lt y, hb, hs2, hn, by simp only [List.length_cons]; omega⟩).trans ?_
    exact if_pos h1
  · cases h2
theorem ev_ci2 (pc2 : Nat) (hp : pc + 3 = pc2) {n b : Nat} {x0 x1 : Value} {ls0 : ai_L} {P : Option Value → ai_H → Prop} (q : Nat) (hd : decode (ai_b y) pc = .ok (.invokespecial n, 3)) (hc : ai_ck y n q [.ref b, x0, x1] st = true) (hn : ai_ni q = true) (he : ai_en [.ref b, x0, x1] (ai_mx q) = ls0) (k1 : ai_Ev none q 0 ls0 [] (S, I, L, F) P) (k : ∀ r h', P r h' → ai_Ev X y pc2 ls (r.toList ++ st) h' Q) : ai_Ev X y pc ls (x1 :: x0 :: .ref b :: st) (S, I, L, F) Q := by
  subst hp; subst he
  unfold ai_ck at hc
  simp only [Bool.and_eq_true, decide_eq_true_eq] at hc
  obtain ⟨h1, h2⟩ := hc
  split at h2
  · rename_i t ht
    simp only [Bool.and_eq_true, beq_iff_eq] at h2
    obtain ⟨rfl, h3⟩ := h2
    have h4 : ai_na t.2.1 = 2 := by simpa using h3
    refine ai_Ev_call hd ?_ k1 k
    simp only [ai_op, ai_o2, ht, h4]
    rw [if_neg (by omega)]
    rw [show (((x1 :: x0 :: .ref b :: st) : List Value).drop 2) = .ref b :: st from rfl, show (((x1 :: x0 :: .ref b :: st) : List Value).take 2).reverse = [x0, x1] from rfl]
    simp only [ai_r1]
    refine (ai_if_pos ⟨by trivial, ai_ocL_lt y, hn, by simp only [List.length_cons]; omega⟩).trans ?_
    exact if_pos h1
  · cases h2
theorem ev_cv3 (pc2 : Nat) (hp : pc + 3 = pc2) {n b : Nat} {x0 x1 x2 : Value} {ls0 : ai_L} {P : Option Value → ai_H → Prop} (q : Nat) (hd : decode (ai_b y) pc = .ok (.invokevirtual n, 3)) (hc : ai_ck y n q [.ref b, x0, x1, x2] st = true) (hn : ai_ni q = false) (hs : (S[b]?).map Prod.fst = some (ai_oc q)) (hb : b ≠ 0) (he : ai_en [.ref b, x0, x1, x2] (ai_mx q) = ls0) (k1 : ai_Ev none q 0 ls0 [] (S, I, L, F) P) (k : ∀ r h', P r h' → ai_Ev X y pc2 ls (r.toList ++ st) h' Q) : ai_Ev X y pc ls (x2 :: x1 :: x0 :: .ref b :: st) (S, I, L, F) Q := by
  subst hp; subst he
  unfold ai_ck at hc
  simp only [Bool.and_eq_true, decide_eq_true_eq] at hc
  obtain ⟨h1, h2⟩ := hc
  split at h2
  · rename_i t ht
    simp only [Bool.and_eq_true, beq_iff_eq] at h2
    obtain ⟨rfl, h3⟩ := h2
    have h4 : ai_na t.2.1 = 3 := by simpa using h3
    obtain ⟨s1, hs1, hs2⟩ := Option.map_eq_some_iff.mp hs
    refine ai_Ev_call hd ?_ k1 k
    simp only [ai_op, ai_o2, ht, h4]
    rw [show (((x2 :: x1 :: x0 :: .ref b :: st) : List Value).drop 3) = .ref b :: st from rfl, show (((x2 :: x1 :: x0 :: .ref b :: st) : List Value).take 3).reverse = [x0, x1, x2] from rfl]
    simp only [ai_r1, hs1]
    refine (ai_if_pos ⟨by trivial, ai_ocL_lt y, hb, hs2, hn, by simp only [List.length_cons]; omega⟩).trans ?_
    exact if_pos h1
  · cases h2
theorem ev_cv4 (pc2 : Nat) (hp : pc + 3 = pc2) {n b : Nat} {x0 x1 x2 x3 : Value} {ls0 : ai_L} {P : Option Value → ai_H → Prop} (q : Nat) (hd : decode (ai_b y) pc = .ok (.invokevirtual n, 3)) (hc : ai_ck y n q [.ref b, x0, x1, x2, x3] st = true) (hn : ai_ni q = false) (hs : (S[b]?).map Prod.fst = some (ai_oc q)) (hb : b ≠ 0) (he : ai_en [.ref b, x0, x1, x2, x3] (ai_mx q) = ls0) (k1 : ai_Ev none q 0 ls0 [] (S, I, L, F) P) (k : ∀ r h', P r h' → ai_Ev X y pc2 ls (r.toList ++ st) h' Q) : ai_Ev X y pc ls (x3 :: x2 :: x1 :: x0 :: .ref b :: st) (S, I, L, F) Q := by
  subst hp; subst he
  unfold ai_ck at hc
  simp only [Bool.and_eq_true, decide_eq_true_eq] at hc
  obtain ⟨h1, h2⟩ := hc
  split at h2
  · rename_i t ht
    simp only [Bool.and_eq_true, beq_iff_eq] at h2
    obtain ⟨rfl, h3⟩ := h2
    have h4 : ai_na t.2.1 = 4 := by simpa using h3
    obtain ⟨s1, hs1, hs2⟩ := Option.map_eq_some_iff.mp hs
    refine ai_Ev_call hd ?_ k1 k
    simp only [ai_op, ai_o2, ht, h4]
    rw [show (((x3 :: x2 :: x1 :: x0 :: .ref b :: st) : List Value).drop 4) = .ref b :: st from rfl, show (((x3 :: x2 :: x1 :: x0 :: .ref b :: st) : List Value).take 4).reverse = [x0, x1, x2, x3] from rfl]
    simp only [ai_r1, hs1]
    refine (ai_if_pos ⟨by trivial, ai_ocL_lt y, hb, hs2, hn, by simp only [List.length_cons]; omega⟩).trans ?_
    exact if_pos h1
  · cases h2
theorem ev_cv5 (pc2 : Nat) (hp : pc + 3 = pc2) {n b : Nat} {x0 x1 x2 x3 x4 : Value} {ls0 : ai_L} {P : Option Value → ai_H → Prop} (q : Nat) (hd : decode (ai_b y) pc = .ok (.invokevirtual n, 3)) (hc : ai_ck y n q [.ref b, x0, x1, x2, x3, x4] st = true) (hn : ai_ni q = false) (hs : (S[b]?).map Prod.fst = some (ai_oc q)) (hb : b ≠ 0) (he : ai_en [.ref b, x0, x1, x2, x3, x4] (ai_mx q) = ls0) (k1 : ai_Ev none q 0 ls0 [] (S, I, L, F) P) (k : ∀ r h', P r h' → ai_Ev X y pc2 ls (r.toList ++ st) h' Q) : ai_Ev X y pc ls (x4 :: x3 :: x2 :: x1 :: x0 :: .ref b :: st) (S, I, L, F) Q := by
  subst hp; subst he
  unfold ai_ck at hc
  simp only [Bool.and_eq_true, decide_eq_true_eq] at hc
  obtain ⟨h1, h2⟩ := hc
  split at h2
  · rename_i t ht
    simp only [Bool.and_eq_true, beq_iff_eq] at h2
    obtain ⟨rfl, h3⟩ := h2
    have h4 : ai_na t.2.1 = 5 := by simpa using h3
    obtain ⟨s1, hs1, hs2⟩ := Option.map_eq_some_iff.mp hs
    refine ai_Ev_call hd ?_ k1 k
    simp only [ai_op, ai_o2, ht, h4]
    rw [show (((x4 :: x3 :: x2 :: x1 :: x0 :: .ref b :: st) : List Value).drop 5) = .ref b :: st from rfl, show (((x4 :: x3 :: x2 :: x1 :: x0 :: .ref b :: st) : List Value).take 5).reverse = [x0, x1, x2, x3, x4] from rfl]
    simp only [ai_r1, hs1]
    refine (ai_if_pos ⟨by trivial, ai_ocL_lt y, hb, hs2, hn, by simp only [List.length_cons]; omega⟩).trans ?_
    exact if_pos h1
  · cases h2
theorem ev_iret {v : Int32} (hr : ai_rc y = 1 ∨ (ai_rc y = 2 ∧ (v = 0 ∨ v = 1))) (hd : decode (ai_b y) pc = .ok (.ireturn, 1)) (hq : Q (some (.int v)) (S, I, L, F)) : ai_Ev X y pc ls [.int v] (S, I, L, F) Q := ai_Ev_ret hd (by simp [ai_op, ai_if, hr]) hq
theorem ev_lret {v : Int64} (hr : ai_rc y = 3) (hd : decode (ai_b y) pc = .ok (.lreturn, 1)) (hq : Q (some (.long v)) (S, I, L, F)) : ai_Ev X y pc ls [.long v] (S, I, L, F) Q := ai_Ev_ret hd (by simp [ai_op, ai_if, hr]) hq
theorem ev_aret {v : Nat} (hr : ai_rc y = 4) (hd : decode (ai_b y) pc = .ok (.areturn, 1)) (hq : Q (some (.ref v)) (S, I, L, F)) : ai_Ev X y pc ls [.ref v] (S, I, L, F) Q := ai_Ev_ret hd (by simp [ai_op, ai_if, hr]) hq
theorem ev_vret (hr : ai_rc y = 0) (hd : decode (ai_b y) pc = .ok (.return_, 1)) (hq : Q none (S, I, L, F)) : ai_Ev X y pc ls [] (S, I, L, F) Q := ai_Ev_ret hd (by simp [ai_op, ai_if, hr]) hq
end AEV
