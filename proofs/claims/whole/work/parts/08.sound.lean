def ai_NI (o : ai_O) : Prop := ∀ z, o ≠ some (.inr z)
theorem ai_NI_of {o : ai_O} (h : ai_NI o) (z) : o ≠ some (.inr z) := h z
theorem ai_NI_none : ai_NI none := fun z h => by cases h
theorem ai_NI_nx {w k pc : Nat} {ls : ai_L} {st : List Value} {h : ai_H} : ai_NI (ai_nx w k pc ls st h) := fun z e => by
  obtain ⟨-, q⟩ := ai_nx_s e
  cases q
theorem ai_NI_br {w pc : Nat} {off : Int} {ls : ai_L} {st : List Value} {h : ai_H} : ai_NI (ai_br w pc off ls st h) := fun z e => by
  obtain ⟨-, -, q⟩ := ai_br_s e
  cases q
theorem ai_NI_if {c : Prop} [Decidable c] {o : ai_O} (h : ai_NI o) : ai_NI (ai_if c o) := fun z e => h z (ai_if_s e).2
theorem ai_NI_o2 {α : Type} {o : Option α} {f : α → ai_O} (h : ∀ x, ai_NI (f x)) : ai_NI (ai_o2 o f) := fun z e => by
  obtain ⟨x, -, q⟩ := ai_o2_s e
  exact h x z q
theorem ai_NI_i1 {st : List Value} {f : Int32 → List Value → ai_O} (h : ∀ x r, ai_NI (f x r)) : ai_NI (ai_i1 st f) := fun z e => by
  obtain ⟨x, r, -, q⟩ := ai_i1_s e
  exact h x r z q
theorem ai_NI_l1 {st : List Value} {f : Int64 → List Value → ai_O} (h : ∀ x r, ai_NI (f x r)) : ai_NI (ai_l1 st f) := fun z e => by
  obtain ⟨x, r, -, q⟩ := ai_l1_s e
  exact h x r z q
theorem ai_NI_r1 {st : List Value} {f : Nat → List Value → ai_O} (h : ∀ x r, ai_NI (f x r)) : ai_NI (ai_r1 st f) := fun z e => by
  obtain ⟨x, r, -, q⟩ := ai_r1_s e
  exact h x r z q
theorem ai_NI_i2 {st : List Value} {f : Int32 → Int32 → List Value → ai_O} (h : ∀ x y r, ai_NI (f x y r)) : ai_NI (ai_i2 st f) := fun z e => by
  obtain ⟨x, y, r, -, q⟩ := ai_i2_s e
  exact h x y r z q
theorem ai_NI_l2 {st : List Value} {f : Int64 → Int64 → List Value → ai_O} (h : ∀ x y r, ai_NI (f x y r)) : ai_NI (ai_l2 st f) := fun z e => by
  obtain ⟨x, y, r, -, q⟩ := ai_l2_s e
  exact h x y r z q
theorem ai_NI_ldi {ls : ai_L} {k : Nat} {f : Int32 → ai_O} (h : ∀ x, ai_NI (f x)) : ai_NI (ai_ldi ls k f) := fun z e => by
  obtain ⟨x, -, q⟩ := ai_ldi_s e
  exact h x z q
theorem ai_NI_ldl {ls : ai_L} {k : Nat} {f : Int64 → ai_O} (h : ∀ x, ai_NI (f x)) : ai_NI (ai_ldl ls k f) := fun z e => by
  obtain ⟨x, -, q⟩ := ai_ldl_s e
  exact h x z q
theorem ai_NI_lda {ls : ai_L} {k : Nat} {f : Nat → ai_O} (h : ∀ x, ai_NI (f x)) : ai_NI (ai_lda ls k f) := fun z e => by
  obtain ⟨x, -, q⟩ := ai_lda_s e
  exact h x z q
theorem ai_NI_istatic {X : Option (Nat × (Nat → Int32))} {y pc w nn : Nat} {ls : ai_L} {st : List Value} {h : ai_H} (z) : ai_op X y pc w (.invokestatic nn) ls st h ≠ some (.inr z) := by
  exact ai_NI_of (by dsimp only [ai_op]; repeat' (first | exact ai_NI_none | exact ai_NI_nx | exact ai_NI_br | apply ai_NI_if | (apply ai_NI_o2; intro _) | (apply ai_NI_i2; intro _ _ _) | (apply ai_NI_l2; intro _ _ _) | (apply ai_NI_i1; intro _ _) | (apply ai_NI_l1; intro _ _) | (apply ai_NI_r1; intro _ _) | (apply ai_NI_ldi; intro _) | (apply ai_NI_ldl; intro _) | (apply ai_NI_lda; intro _) | split)) _
theorem ai_rc1 : ∀ q, q < 179 → ai_rc q = 1 → ai_rt q = some .int := by decide +kernel
theorem ai_rc2 : ∀ q, q < 179 → ai_rc q = 2 → ai_rt q = some .boolean := by decide +kernel
theorem ai_rc3 : ∀ q, q < 179 → ai_rc q = 3 → ai_rt q = some .long := by decide +kernel
theorem ai_rc4 : ∀ q, q < 179 → ai_rc q = 4 → ai_rt q = some (.object "ManyEyes$Case") := by decide +kernel
theorem ai_rc0 : ∀ q, q < 179 → ai_rc q = 0 → ai_rt q = none := by decide +kernel
section AIR
variable {p : Program} {l : Launch} {e : Env} {R : Room} {s : State} {m : MethodId} {args : Array Value} {below : List Frame} {meth : Method} {c : Code} {Q : State → Prop} {bs B N0 S0 : Nat} {D : va_G} {cA : Nat → ClassId} {y pc pc' w : Nat} {ls ls' : ai_L} {st st' : List Value} {h h' : ai_H} {X : Option (Nat × (Nat → Int32))}
theorem ai_go (C : ai_Cx p s m args meth c R D cA y) (SX : ai_Sx bs B X s) (hsz : s.heap.size = B + N0) (hN1 : 1 ≤ N0) (hN2 : N0 ≤ h.1.length) (hS2 : S0 ≤ ai_ss h.1) (hm : h.1.length ≤ h'.1.length ∧ ai_ss h.1 ≤ ai_ss h'.1) (hc1 : h'.1.length ≤ N0 + R.cells) (hc2 : ai_ss h'.1 ≤ S0 + R.slots) {i : Instr} (hd : decode (ai_b y) pc = .ok (i, w)) (hop : ai_op X y pc w i ls st h = some (.inl (pc', ls', st', h'))) (k : ai_K p l e R s m args below meth c Q bs B N0 S0 D cA y pc' ls' st' h') : ai_K p l e R s m args below meth c Q bs B N0 S0 D cA y pc ls st h := by
  cases i
  case iload_n n => exact ai_g_iload_n C hd hop k
  case iload n => exact ai_g_iload C hd hop k
  case lload_n n => exact ai_g_lload_n C hd hop k
  case lload n => exact ai_g_lload C hd hop k
  case aload_n n => exact ai_g_aload_n C hd hop k
  case aload n => exact ai_g_aload C hd hop k
  case astore_n n => exact ai_g_astore_n C hd hop k
  case astore n => exact ai_g_astore C hd hop k
  case istore_n n => exact ai_g_istore_n C hd hop k
  case istore n => exact ai_g_istore C hd hop k
  case lstore_n n => exact ai_g_lstore_n C hd hop k
  case lstore n => exact ai_g_lstore C hd hop k
  case iconst n => exact ai_g_iconst C hd hop k
  case bipush n => exact ai_g_bipush C hd hop k
  case sipush n => exact ai_g_sipush C hd hop k
  case lconst n => exact ai_g_lconst C hd hop k
  case ldc n => exact ai_g_ldc C hd hop k
  case iadd => exact ai_g_iadd C hd hop k
  case isub => exact ai_g_isub C hd hop k
  case imul => exact ai_g_imul C hd hop k
  case iand => exact ai_g_iand C hd hop k
  case ishl => exact ai_g_ishl C hd hop k
  case ishr => exact ai_g_ishr C hd hop k
  case idiv => exact ai_g_idiv C hd hop k
  case irem => exact ai_g_irem C hd hop k
  case ladd => exact ai_g_ladd C hd hop k
  case lmul => exact ai_g_lmul C hd hop k
  case land => exact ai_g_land C hd hop k
  case lor => exact ai_g_lor C hd hop k
  case lcmp => exact ai_g_lcmp C hd hop k
  case ineg => exact ai_g_ineg C hd hop k
  case i2l => exact ai_g_i2l C hd hop k
  case i2b => exact ai_g_i2b C hd hop k
  case i2s => exact ai_g_i2s C hd hop k
  case l2i => exact ai_g_l2i C hd hop k
  case lshl => exact ai_g_lshl C hd hop k
  case lshr => exact ai_g_lshr C hd hop k
  case lushr => exact ai_g_lushr C hd hop k
  case iinc n v => exact ai_g_iinc C hd hop k
  case dup => exact ai_g_dup C hd hop k
  case pop => exact ai_g_pop C hd hop k
  case dup2 => exact ai_g_dup2 C hd hop k
  case goto o => exact ai_g_goto C hd hop k
  case getfield n => exact ai_g_getfield C hd hop k
  case putfield n => exact ai_g_putfield C hd hop k
  case baload => exact ai_g_baload C hd hop k
  case laload => exact ai_g_laload C hd hop k
  case aaload => exact ai_g_aaload C hd hop k
  case iastore => exact ai_g_iastore C hd hop k
  case lastore => exact ai_g_lastore C hd hop k
  case bastore => exact ai_g_bastore C hd hop k
  case aastore => exact ai_g_aastore C hd hop k
  case ldc2_w n => exact ai_g_ldc2 C hd hop k
  case tableswitch a b c d => exact ai_g_tswitch C hd hop k
  case iaload => exact ai_g_iaload C SX hd hop k
  case arraylength => exact ai_g_arraylength C SX hd hop k
  case ifCond cd off =>
    cases cd
    case eq => exact ai_g_if_eq C hd hop k
    case ne => exact ai_g_if_ne C hd hop k
    case lt => exact ai_g_if_lt C hd hop k
    case ge => exact ai_g_if_ge C hd hop k
    case gt => exact ai_g_if_gt C hd hop k
    case le => exact ai_g_if_le C hd hop k
  case if_icmp cd off =>
    cases cd
    case eq => exact ai_g_icmp_eq C hd hop k
    case ne => exact ai_g_icmp_ne C hd hop k
    case lt => exact ai_g_icmp_lt C hd hop k
    case ge => exact ai_g_icmp_ge C hd hop k
    case gt => exact ai_g_icmp_gt C hd hop k
    case le => exact ai_g_icmp_le C hd hop k
  case new n => exact ai_g_new C hsz hN1 hN2 hS2 hm hc1 hc2 hd hop k
  case newarray n => exact ai_g_newarray C hsz hN1 hN2 hS2 hm hc1 hc2 hd hop k
  case anewarray n => exact ai_g_anewarray C hsz hN1 hN2 hS2 hm hc1 hc2 hd hop k
  case invokestatic n => exact ai_g_istatic C hsz hN1 hN2 hS2 hm hc1 hc2 hd hop k
  case invokespecial n => exact ai_g_ospecial C hd hop k
  case invokevirtual n =>
    obtain ⟨t, ht, h1⟩ := ai_o2_s hop
    obtain ⟨b, r, -, h2⟩ := ai_r1_s h1
    obtain ⟨s1, -, h3⟩ := ai_o2_s h2
    obtain ⟨-, h4⟩ := ai_if_s h3
    obtain ⟨-, h5⟩ := ai_call_s h4
    cases h5
  case ireturn =>
    match st, hop with
    | [.int v], hop =>
      obtain ⟨-, h1⟩ := ai_if_s hop
      cases h1
  case lreturn =>
    match st, hop with
    | [.long v], hop =>
      obtain ⟨-, h1⟩ := ai_if_s hop
      cases h1
  case areturn =>
    match st, hop with
    | [.ref v], hop =>
      obtain ⟨-, h1⟩ := ai_if_s hop
      cases h1
  case return_ =>
    match st, hop with
    | [], hop =>
      obtain ⟨-, h1⟩ := ai_if_s hop
      cases h1
  all_goals exact absurd hop (by simp [ai_op])
theorem ai_mono : ∀ (n : Nat) {X : Option (Nat × (Nat → Int32))} {y pc : Nat} {ls : ai_L} {st : List Value} {h h1 : ai_H} {r : Option Value}, ai_run n X y pc ls st h = some (r, h1) → h.1.length ≤ h1.1.length ∧ ai_ss h.1 ≤ ai_ss h1.1 := by
  intro n
  induction n with
  | zero => intro X y pc ls st h h1 r hr; cases hr
  | succ n ih =>
    intro X y pc ls st h h1 r hr
    unfold ai_run at hr
    split at hr
    · cases hr
    · split at hr
      · cases hr
      · obtain ⟨g1, g2⟩ := ai_if_s hr
        have g3 := ih g2
        exact ⟨Nat.le_trans g1.1 g3.1, Nat.le_trans g1.2 g3.2⟩
      · split at hr
        · cases hr
        · rename_i hq
          have g1 := ih hq
          have g2 := ih hr
          exact ⟨Nat.le_trans g1.1 g2.1, Nat.le_trans g1.2 g2.2⟩
      · cases hr
        exact ⟨Nat.le_refl _, Nat.le_refl _⟩
def ai_Pc (bs B : Nat) (D : va_G) (cA : Nat → ClassId) (as : List Value) (h : ai_H) : Array Value → State → Prop := va_Pc (as.map (ai_rl bs B)) fun U => U.heap.size = B + h.1.length ∧ va_P D ai_cl (ai_w bs B cA h) U.heap ∧ va_K D ai_cl (ai_tys cA) U ∧ ∀ w ∈ ai_T, w.before #[] U = true
def ai_Qc (bs B : Nat) (D : va_G) (cA : Nat → ClassId) (r : Option Value) (h1 : ai_H) : Array Value → State → Outcome → State → Prop := fun _ st o t => o = .returned (r.map (ai_rl bs B)) ∧ va_P D ai_cl (ai_w bs B cA h1) t.heap ∧ va_F (fun q => B < q) st t
def ai_rm (q : Nat) (h h1 : ai_H) : Room := { frames := ai_fr q, cells := h1.1.length - h.1.length, slots := ai_ss h1.1 - ai_ss h.1, locals := ai_lo q }
def ai_cw (q : Nat) : List Jvm.Cond := [Cond.code (ai_y q) (ai_b q) (ai_mx q) (ai_rt q)]
def ai_Met (l : Launch) (bs B : Nat) (D : va_G) (cA : Nat → ClassId) (q : Nat) (as : List Value) (h : ai_H) (r : Option Value) (h1 : ai_H) : Prop := Met l (ai_y q) (ai_cw q) (ai_rm q h h1) (ai_Pc bs B D cA as h) (ai_Qc bs B D cA r h1) (h1.1.length - h.1.length) (ai_ss h1.1 - ai_ss h.1) (fun a => B < a)
theorem ai_word {w : Jvm.Cond} (hw : w ∈ ai_T) {a a' : Array Value} {s U : State} (hW : s.WarmedH U.vm) (hb : w.before a s = true) : w.before a' U = true := by
  have hg : ai_gd w = true := (List.mem_filter.mp hw).2
  unfold ai_gd at hg
  split at hg
  · exact va_Nw.use rfl (va_Nw.warmF hW (va_Nw.of rfl hb))
  · exact va_Nw.use rfl (va_Nw.warmM hW (va_Nw.of rfl hb))
  · exact (va_AO.of hb |>.moved hW.alike).use
  · exact word_at hW (good_of_word hg) hb
theorem ai_blind {as : List Value} : FrameBlind (ai_Pc bs B D cA as h) := by
  intro a U g mk q
  obtain ⟨q0, q1, q2, q3, q4⟩ := q
  exact ⟨q0, q1, q2, va_K.moved (u := U) (U := U.calling g mk a) (Vm.Alike.refl U.vm) q3, fun w hw => ai_word (U := U.calling g mk a) hw (State.WarmedH.refl U) (q4 w hw)⟩
theorem ai_callW {mc ms : Nat} {lm : Array Slot} {st0 rest : List Value} {H : Heap} {locs : List Loc} {cells slots : Nat} {r : Option Value} {as : Array Value} {h1 : ai_H} (hr : va_Run p l e R s m args below meth c H locs cells slots mc ms (F0 m pc lm st0) rest (ai_Qc bs B D cA r h1 as) (fun a => B < a)) (hS : va_S (fun q => B < q) s.heap H locs)
    (kk : ∀ (H1 : Heap) (locs1 : List Loc), va_P D ai_cl (ai_w bs B cA h1) H1 → va_S (fun q => B < q) s.heap H1 locs1 → W p l e R s m args below meth c H1 locs1 (cells + mc) (slots + ms) Q (F0 m (pc + 3) lm ((r.map (ai_rl bs B)).toList ++ rest))) : W p l e R s m args below meth c H locs cells slots Q (F0 m pc lm st0) := by
  intro T hT X
  obtain ⟨v, st₀, t, T', L, h0, X', hL, e1, e2, ⟨hv, hP1, hz, hk⟩, st⟩ := hr T hT X
  cases hv
  rw [h0] at hz hk
  obtain ⟨t2, a1, b1⟩ := kk T'.heap (locs ++ L) (by rw [e1]; exact hP1)
    ⟨Nat.le_trans hS.1 (by rw [e1]; exact hz), fun q h1 h2 => by rw [e1, hk q (Nat.lt_of_lt_of_le h1 hS.1) h2]; exact hS.2.1 q h1 h2, fun q hq => by
      rcases List.mem_append.mp hq with h | h
      · exact hS.2.2 q h
      · exact hL q h⟩ T' rfl X'
  exact ⟨t2, st t2 a1, b1⟩
theorem ai_GoodIn {q : Nat} (hq : q < 179) : GoodIn ai_T (ai_cw q) := by
  intro w hw
  have e : w = Cond.code (ai_y q) (ai_b q) (ai_mx q) (ai_rt q) := List.mem_singleton.mp hw
  subst e
  exact ⟨ai_code_in q hq, Or.inl rfl⟩
theorem ai_mok_s {q : Nat} (hq : q < 179) : Cond.instanceMethod (ai_y q) ∈ ai_T ∧ (ai_ni q = false → Cond.selects (ai_R (ai_oc q)) (ai_y q) (ai_y q) ∈ ai_T) ∧ (ai_y q).cls = ai_R (ai_oc q) ∧ ai_oc q < 10 ∧ (ai_ni q = true → (ai_y q).name = "<init>" ∧ ai_rt q = none) ∧ (parseMethodDescriptor (ai_y q).desc).map (fun d => d.parameters.length) = some (ai_na q) ∧ plainName (ai_y q).cls = true := by
  have h := ai_m_ok q hq
  unfold ai_mok at h
  simp only [Bool.and_eq_true, Bool.or_eq_true, decide_eq_true_eq, Bool.not_eq_true'] at h
  obtain ⟨⟨⟨⟨⟨⟨h1, h2⟩, h3⟩, h4⟩, h5⟩, h6⟩, h7⟩ := h
  refine ⟨ai_has_mem h1, fun z => ?_, h3, h4, fun z => ?_, h6, h7⟩
  · rcases h2 with h2 | h2
    · rw [z] at h2; cases h2
    · exact ai_has_mem h2
  · rcases h5 with h5 | h5
    · rw [z] at h5; cases h5
    · exact h5
theorem ai_nohandle : ∀ q, q < 179 → (ai_y q).cls ≠ "java/lang/invoke/MethodHandle" ∧ (ai_y q).cls ≠ "java/lang/invoke/VarHandle" := by
  intro q hq
  rw [(ai_mok_s hq).2.2.1]
  exact (by decide +kernel : ∀ i, i < 10 → ai_R i ≠ "java/lang/invoke/MethodHandle" ∧ ai_R i ≠ "java/lang/invoke/VarHandle") _ (ai_mok_s hq).2.2.2.1
theorem ai_map_take {st : List Value} {na b : Nat} {r : List Value} (hd : st.drop na = .ref b :: r) : st.map (ai_rl bs B) = ((st.take na).reverse.map (ai_rl bs B)).reverse ++ .ref (ai_ad bs B b) :: r.map (ai_rl bs B) := by
  rw [List.map_reverse, List.reverse_reverse]
  have e := congrArg (List.map (ai_rl bs B)) (List.take_append_drop na st)
  rw [List.map_append, hd] at e
  exact e.symm
theorem ai_call_ok (C : ai_Cx p s m args meth c R D cA y) (hsz : s.heap.size = B + N0) (hN1 : 1 ≤ N0) (hN2 : N0 ≤ h.1.length) (hS2 : S0 ≤ ai_ss h.1) {q : Nat} {as rest : List Value} {r : Option Value} {h1_ : ai_H} (hm : h.1.length ≤ h1_.1.length ∧ ai_ss h.1 ≤ ai_ss h1_.1) (hc1 : h1_.1.length ≤ N0 + R.cells) (hc2 : ai_ss h1_.1 ≤ S0 + R.slots) {i : Instr} (hd : decode (ai_b y) pc = .ok (i, w)) (hop : ai_op X y pc w i ls st h = some (.inr (.inl (q, as, pc', rest)))) (hM : q < 179 → (ai_en as (ai_mx q)).length = ai_mx q → ai_Met l bs B D cA q as h r h1_) (k : ai_K p l e R s m args below meth c Q bs B N0 S0 D cA y pc' ls (r.toList ++ rest) h1_) : ai_K p l e R s m args below meth c Q bs B N0 S0 D cA y pc ls st h := by
  obtain ⟨hx, hb, hml, hown, hts, hK, hni, hfr, hlo⟩ := C
  have hSZ : ∀ (H : Heap) (locs : List Loc) (cells slots : Nat) (g : JFrame), va_P D ai_cl (ai_w bs B cA h) H → va_S (fun q => B < q) s.heap H locs → N0 + cells = h.1.length → (H.size = B + h.1.length → W p l e R s m args below meth c H locs cells slots Q g) → W p l e R s m args below meth c H locs cells slots Q g := by
    intro H locs cells slots g hP hS hN hk T hT X
    have h1 := X.heapSize
    rw [hT] at h1
    have h2 : B + h.1.length ≤ H.size := by
      by_cases hz : h.1.length = 1
      · have := hS.1; omega
      · have h3 : B + (h.1.length - 1) < H.size := (hP _ _ (ai_w_get (a := h.1.length - 1) (by omega) (by omega))).lt
        omega
    exact hk (by omega) T hT X
  cases i
  case invokevirtual n =>
    obtain ⟨t, ht, h1⟩ := ai_o2_s hop
    obtain ⟨b, r1, hdr, h2⟩ := ai_r1_s h1
    obtain ⟨s1, hs1, h3⟩ := ai_o2_s h2
    obtain ⟨⟨rfl, hoc, hb0, hsk, hini, hna⟩, h4⟩ := ai_if_s h3
    obtain ⟨⟨hq, hrs, hf1, hf2, hen⟩, h5⟩ := ai_call_s h4
    cases h5
    obtain ⟨ht1, hw, -⟩ := ai_ml_s ht hoc
    subst ht1
    have hw := hw hq
    obtain ⟨m1, m2, m3, m4, m5, m6, m7⟩ := ai_mok_s hq
    have hM := hM hq hen
    intro lm H locs cells slots hl hP hS hN hZ
    refine hSZ H locs cells slots _ hP hS hN (fun hHs => ?_)
    have he := ai_w_obj (bs := bs) (B := B) (cA := cA) hb0 hs1 (by omega)
    have hrec := va_recv hK hP (ci := s1.1) (q0 := b - 1) (ai_cl_get (by omega)) he
    rw [hsk] at hrec
    refine ai_callW (bs := bs) (D := D) (cA := cA) (h1 := h1_) (r := r) (rest := rest.map (ai_rl bs B)) (mc := h1_.1.length - h.1.length) (ms := ai_ss h1_.1 - ai_ss h.1) (as := (Value.ref (B + b) :: (st.take (ai_na t.2.1)).reverse.map (ai_rl bs B)).toArray) ?_ hS (fun H1 locs1 hP1 hS1 => ?_)
    · unfold ai_mw at hw
      split at hw
      · refine va_runVN (C := ai_R (ai_oc t.2.1)) (As := (st.take (ai_na t.2.1)).reverse.map (ai_rl bs B)) (rest := rest.map (ai_rl bs B)) (Ts := ai_T) (n := ai_na t.2.1) ⟨hx, hb, hml, hown, hts⟩ hM ⟨va_cnB (ai_na t.2.1) hts (ai_GoodIn hq) rfl rfl rfl (va_Nw.of rfl (hts _ hw)) (by rw [m3]; exact hts _ (ai_f_inst _ m4).2) ⟨(ai_nohandle _ hq).1, (ai_nohandle _ hq).2, m6⟩ ⟨by show ai_fr t.2.1 + 1 ≤ R.frames; omega, by show 8 + (ai_mx t.2.1 + 11) + ai_lo t.2.1 ≤ R.locals; omega⟩, hts _ m1, hts _ (m2 hini)⟩ ⟨ai_blind, hrec, fun U hU hW => ⟨?_, by rw [hU]; exact hHs, by rw [hU]; exact hP, va_K.moved hW.alike hK, fun w hw => ai_word hw hW (hts w hw)⟩⟩ rfl ?_ hl.2.1 ?_ ?_ hd ⟨by omega, by omega⟩
        · show _ = (List.map (ai_rl bs B) (.ref b :: _)).toArray
          rw [List.map_cons]
          show _ = (Value.ref (ai_ad bs B b) :: _).toArray
          rw [ai_ad_ne hb0]
        · simp; omega
        · show st.map (ai_rl bs B) = _
          rw [ai_map_take hdr, ai_ad_ne hb0]
        · rw [ai_rl_cats]; show 2 * 0 + _ ≤ 8; omega
      · refine va_runV (C := ai_R (ai_oc t.2.1)) (As := (st.take (ai_na t.2.1)).reverse.map (ai_rl bs B)) (rest := rest.map (ai_rl bs B)) (Ts := ai_T) (n := ai_na t.2.1) ⟨hx, hb, hml, hown, hts⟩ hM ⟨callB_of (ai_na t.2.1) hts (ai_GoodIn hq) rfl rfl rfl (by rw [m3]; exact hts _ (ai_f_inst _ m4).2) (hts _ hw) ⟨(ai_nohandle _ hq).1, (ai_nohandle _ hq).2, m6⟩ ⟨by show ai_fr t.2.1 + 1 ≤ R.frames; omega, by show 8 + (ai_mx t.2.1 + 11) + ai_lo t.2.1 ≤ R.locals; omega⟩, hts _ m1, hts _ (m2 hini)⟩ ⟨ai_blind, hrec, fun U hU hW => ⟨?_, by rw [hU]; exact hHs, by rw [hU]; exact hP, va_K.moved hW.alike hK, fun w hw => ai_word hw hW (hts w hw)⟩⟩ rfl ?_ hl.2.1 ?_ ?_ hd ⟨by omega, by omega⟩
        · show _ = (List.map (ai_rl bs B) (.ref b :: _)).toArray
          rw [List.map_cons]
          show _ = (Value.ref (ai_ad bs B b) :: _).toArray
          rw [ai_ad_ne hb0]
        · simp; omega
        · show st.map (ai_rl bs B) = _
          rw [ai_map_take hdr, ai_ad_ne hb0]
        · rw [ai_rl_cats]; show 2 * 0 + _ ≤ 8; omega
    · have k9 := k lm H1 locs1 (cells + (h1_.1.length - h.1.length)) (slots + (ai_ss h1_.1 - ai_ss h.1)) hl hP1 hS1 (by omega) (by omega)
      rw [List.map_append] at k9
      rwa [show List.map (ai_rl bs B) r.toList = (r.map (ai_rl bs B)).toList by cases r <;> rfl] at k9
  case invokespecial n =>
    obtain ⟨t, ht, h1⟩ := ai_o2_s hop
    by_cases hq0 : t.2.1 = 1000
    · rw [if_pos hq0] at h1
      obtain ⟨a, r1, -, h2⟩ := ai_r1_s h1
      obtain ⟨-, h3⟩ := ai_if_s h2
      obtain ⟨-, h4⟩ := ai_nx_s h3
      cases h4
    rw [if_neg hq0] at h1
    obtain ⟨b, r1, hdr, h2⟩ := ai_r1_s h1
    obtain ⟨⟨rfl, hoc, hini, hna⟩, h4⟩ := ai_if_s h2
    obtain ⟨⟨hq, hrs, hf1, hf2, hen⟩, h5⟩ := ai_call_s h4
    cases h5
    obtain ⟨ht1, hw, -⟩ := ai_ml_s ht hoc
    subst ht1
    have hw := hw hq
    obtain ⟨m1, m2, m3, m4, m5, m6, m7⟩ := ai_mok_s hq
    have hM := hM hq hen
    have hrt := (m5 hini).2
    intro lm H locs cells slots hl hP hS hN hZ
    refine hSZ H locs cells slots _ hP hS hN (fun hHs => ?_)
    have hcw : ai_cw t.2.1 = [Cond.code (ai_y t.2.1) (ai_b t.2.1) (ai_mx t.2.1) none] := by rw [← hrt]; rfl
    refine ai_callW (bs := bs) (D := D) (cA := cA) (h1 := h1_) (r := r) (rest := rest.map (ai_rl bs B)) (mc := h1_.1.length - h.1.length) (ms := ai_ss h1_.1 - ai_ss h.1) (as := (Value.ref (ai_ad bs B b) :: (st.take (ai_na t.2.1)).reverse.map (ai_rl bs B)).toArray) ?_ hS (fun H1 locs1 hP1 hS1 => ?_)
    · unfold ai_mw at hw
      split at hw
      · refine va_runIN (As := (st.take (ai_na t.2.1)).reverse.map (ai_rl bs B)) (rest := rest.map (ai_rl bs B)) (Ts := ai_T) (n := ai_na t.2.1) ⟨hx, hb, hml, hown, hts⟩ hM ⟨va_cnB (ai_na t.2.1) hts (ai_GoodIn hq) hcw rfl rfl (va_Nw.of rfl (hts _ hw)) (by rw [m3]; exact hts _ (ai_f_inst _ m4).2) ⟨(ai_nohandle _ hq).1, (ai_nohandle _ hq).2, m6⟩ ⟨by show ai_fr t.2.1 + 1 ≤ R.frames; omega, by show 8 + (ai_mx t.2.1 + 11) + ai_lo t.2.1 ≤ R.locals; omega⟩, (m5 hini).1, hts _ m1⟩ ⟨ai_blind, fun U hU hW => ⟨rfl, by rw [hU]; exact hHs, by rw [hU]; exact hP, va_K.moved hW.alike hK, fun w hw => ai_word hw hW (hts w hw)⟩⟩ rfl ?_ hl.2.1 (ai_map_take hdr) ?_ hd ⟨by omega, by omega⟩
        · simp; omega
        · rw [ai_rl_cats]; show 2 * 0 + _ ≤ 8; omega
      · refine va_runI (As := (st.take (ai_na t.2.1)).reverse.map (ai_rl bs B)) (rest := rest.map (ai_rl bs B)) (Ts := ai_T) (n := ai_na t.2.1) ⟨hx, hb, hml, hown, hts⟩ hM ⟨callB_of (ai_na t.2.1) hts (ai_GoodIn hq) hcw rfl rfl (by rw [m3]; exact hts _ (ai_f_inst _ m4).2) (hts _ hw) ⟨(ai_nohandle _ hq).1, (ai_nohandle _ hq).2, m6⟩ ⟨by show ai_fr t.2.1 + 1 ≤ R.frames; omega, by show 8 + (ai_mx t.2.1 + 11) + ai_lo t.2.1 ≤ R.locals; omega⟩, (m5 hini).1, hts _ m1⟩ ⟨ai_blind, fun U hU hW => ⟨rfl, by rw [hU]; exact hHs, by rw [hU]; exact hP, va_K.moved hW.alike hK, fun w hw => ai_word hw hW (hts w hw)⟩⟩ rfl ?_ hl.2.1 (ai_map_take hdr) ?_ hd ⟨by omega, by omega⟩
        · simp; omega
        · rw [ai_rl_cats]; show 2 * 0 + _ ≤ 8; omega
    · have k9 := k lm H1 locs1 (cells + (h1_.1.length - h.1.length)) (slots + (ai_ss h1_.1 - ai_ss h.1)) hl hP1 hS1 (by omega) (by omega)
      rw [List.map_append] at k9
      rwa [show List.map (ai_rl bs B) r.toList = (r.map (ai_rl bs B)).toList by cases r <;> rfl] at k9
  case invokestatic n => exact absurd hop (ai_NI_istatic _)
  case ireturn =>
    match st, hop with
    | [.int v], hop =>
      obtain ⟨-, h1⟩ := ai_if_s hop
      cases h1
  case lreturn =>
    match st, hop with
    | [.long v], hop =>
      obtain ⟨-, h1⟩ := ai_if_s hop
      cases h1
  case areturn =>
    match st, hop with
    | [.ref v], hop =>
      obtain ⟨-, h1⟩ := ai_if_s hop
      cases h1
  case return_ =>
    match st, hop with
    | [], hop =>
      obtain ⟨-, h1⟩ := ai_if_s hop
      cases h1
  all_goals exact absurd hop (by exact ai_NI_of (by dsimp only [ai_op]; repeat' (first | exact ai_NI_none | exact ai_NI_nx | exact ai_NI_br | apply ai_NI_if | (apply ai_NI_o2; intro _) | (apply ai_NI_i2; intro _ _ _) | (apply ai_NI_l2; intro _ _ _) | (apply ai_NI_i1; intro _ _) | (apply ai_NI_l1; intro _ _) | (apply ai_NI_r1; intro _ _) | (apply ai_NI_ldi; intro _) | (apply ai_NI_ldl; intro _) | (apply ai_NI_lda; intro _) | split)) _)
def ai_A (l : Launch) (bs B : Nat) (D : va_G) (cA : Nat → ClassId) (n : Nat) : Prop :=
  ∀ (p : Program) (e : Env) (R : Room) (s : State) (m : MethodId) (args : Array Value) (below : List Frame) (meth : Method) (c : Code) (Q : State → Prop) (N0 S0 y : Nat) (X : Option (Nat × (Nat → Int32))) (pc : Nat) (ls : ai_L) (st : List Value) (h : ai_H) (r : Option Value) (hf : ai_H), ai_Cx p s m args meth c R D cA y → ai_Sx bs B X s → s.heap.size = B + N0 → 1 ≤ N0 → N0 ≤ h.1.length → S0 ≤ ai_ss h.1 → hf.1.length ≤ N0 + R.cells → ai_ss hf.1 ≤ S0 + R.slots → ai_run n X y pc ls st h = some (r, hf) →
    (∀ (pc : Nat) (ls : ai_L) (st : List Value) (i : Instr) (w : Nat), decode (ai_b y) pc = .ok (i, w) → ai_op X y pc w i ls st hf = some (.inr (.inr r)) → ai_K p l e R s m args below meth c Q bs B N0 S0 D cA y pc ls st hf) → ai_K p l e R s m args below meth c Q bs B N0 S0 D cA y pc ls st h
def ai_B (l : Launch) (bs B : Nat) (D : va_G) (cA : Nat → ClassId) (n : Nat) : Prop :=
  ∀ (q : Nat) (as : List Value) (h : ai_H) (r : Option Value) (h1 : ai_H), q < 179 → (ai_en as (ai_mx q)).length = ai_mx q → 1 ≤ h.1.length → ai_run n none q 0 (ai_en as (ai_mx q)) [] h = some (r, h1) → ai_Met l bs B D cA q as h r h1
theorem ai_A_succ {n : Nat} (hA : ai_A l bs B D cA n) (hB : ai_B l bs B D cA n) : ai_A l bs B D cA (n + 1) := by
  intro p e R s m args below meth c Q N0 S0 y X pc ls st h r hf C SX hsz hN1 hN2 hS2 hc1 hc2 hr hret
  unfold ai_run at hr
  split at hr
  · cases hr
  · rename_i i w hd
    split at hr
    · cases hr
    · rename_i pc2 ls2 st2 h2 hop
      obtain ⟨g1, g2⟩ := ai_if_s hr
      have g3 := ai_mono n g2
      exact ai_go C SX hsz hN1 hN2 hS2 g1 (by omega) (by omega) hd hop (hA p e R s m args below meth c Q N0 S0 y X pc2 ls2 st2 h2 r hf C SX hsz hN1 (by omega) (by omega) hc1 hc2 g2 hret)
    · rename_i q as pc2 st2 hop
      split at hr
      · cases hr
      · rename_i r2 h2 hq
        have g1 := ai_mono n hq
        have g2 := ai_mono n hr
        refine ai_call_ok C hsz hN1 hN2 hS2 g1 (by omega) (by omega) hd hop (fun z1 z2 => hB q as h r2 h2 z1 z2 (by omega) hq) ?_
        exact hA p e R s m args below meth c Q N0 S0 y X pc2 ls _ h2 r hf C SX hsz hN1 (by omega) (by omega) hc1 hc2 hr hret
    · rename_i r2 hop
      cases hr
      exact hret _ _ _ _ _ hd hop
theorem ai_args_in : ∀ (as : List Value) (i j : Nat) (v : Value), (as.flatMap (fun v => if v.category = 2 then [some v, none] else [some v]))[j]? = some (some v) → (i + j, ai_rl bs B v) ∈ lv_args i (as.map (ai_rl bs B)) := by
  intro as
  induction as with
  | nil => intro i j v h; simp at h
  | cons a t ih =>
    intro i j v h
    rw [List.map_cons]
    unfold lv_args
    rw [ai_rl_cat]
    rw [List.flatMap_cons] at h
    by_cases hc : a.category = 2
    · rw [if_pos hc] at h ⊢
      match j, h with
      | 0, h =>
        cases h
        exact List.mem_cons_self
      | 1, h => cases h
      | j + 2, h =>
        have := ih (i + 2) j v h
        rw [show i + (j + 2) = i + 2 + j by omega]
        exact List.mem_cons_of_mem _ this
    · rw [if_neg hc] at h ⊢
      match j, h with
      | 0, h =>
        cases h
        exact List.mem_cons_self
      | j + 1, h =>
        have := ih (i + 1) j v h
        rw [show i + (j + 1) = i + 1 + j by omega]
        exact List.mem_cons_of_mem _ this
theorem ai_args_len : ∀ (as : List Value), (lg_sl (as.map (ai_rl bs B))).length = (as.flatMap (fun v => if v.category = 2 then [some v, none] else [some v])).length := by
  intro as
  induction as with
  | nil => rfl
  | cons a t ih =>
    unfold lg_sl at ih ⊢
    rw [List.map_cons, List.flatMap_cons, List.flatMap_cons, List.length_append, List.length_append, ih, ai_rl_cat]
    by_cases hc : a.category = 2
    · rw [if_pos hc, if_pos hc]; rfl
    · rw [if_neg hc, if_neg hc]; rfl
theorem ai_entry_LR {as : List Value} {n : Nat} (hn : (ai_en as n).length = n) : ∃ lm, entryFrame m (as.map (ai_rl bs B)).toArray n = F0 m 0 lm [] ∧ ai_LR bs B n lm (ai_en as n) := by
  have hle : (lg_sl (as.map (ai_rl bs B))).length ≤ n := by
    rw [ai_args_len]
    unfold ai_en at hn
    rw [List.length_append] at hn
    omega
  refine ⟨_, lg_entry_eq _ _ _, hn, ?_⟩
  have h9 := lv_entry (as.map (ai_rl bs B)) hle
  refine ⟨h9.1, h9.2.1, fun j v hj => h9.2.2 (j, ai_rl bs B v) ?_⟩
  unfold ai_en at hj
  dsimp only at hj
  by_cases hl : j < (as.flatMap (fun v => if v.category = 2 then [some v, none] else [some v])).length
  · rw [List.getElem?_append_left hl] at hj
    have := ai_args_in (bs := bs) (B := B) as 0 j v hj
    rwa [Nat.zero_add] at this
  · rw [List.getElem?_append_right (by omega)] at hj
    rw [List.getElem?_replicate] at hj
    split at hj <;> cases hj
theorem ai_B_of {n : Nat} (hA : ai_A l bs B D cA n) : ai_B l bs B D cA n := by
  intro q as h r h1 hq hen hN1 hrun
  obtain ⟨m1, m2, m3, m4, m5, m6, m7⟩ := ai_mok_s hq
  have hmo := ai_mono n hrun
  refine Met.ofW (cc := ai_b q) (maxL := ai_mx q) (ret := ai_rt q) m7 rfl ?_
  intro p e s m args below meth c s₁ B' hml hv
  obtain ⟨rfl, hsz, hP, hK, hts⟩ := hv
  have hx := B'.exec
  have hb := B'.bytes
  have hr := B'.returns
  have hown : s.vm.findClass (ai_R (ai_oc q)) = some m.cls := by rw [← m3]; exact findClass_of_methodNamed B'.named
  have hlocks := B'.notSynchronized
  have hin : ai_ni q = true → meth.name = "<init>" := fun z => by
    have := (name_of_methodNamed B'.named B'.method).1
    rw [(m5 z).1] at this
    exact this
  obtain ⟨lm, hlm, hLR⟩ := ai_entry_LR (m := m) (bs := bs) (B := B) hen
  rw [hlm]
  refine hA p e (ai_rm q h h1) s m _ below meth c _ h.1.length (ai_ss h.1) q none 0 _ [] h r h1 ⟨hx, hb, hml, hown, fun w hw => ai_word hw (State.WarmedH.refl s) (hts w hw), hK, hin, Nat.le_refl _, Nat.le_refl _⟩ (fun n xs z => by cases z) hsz hN1 (Nat.le_refl _) (Nat.le_refl _) (by show _ ≤ _ + (h1.1.length - h.1.length); omega) (by show _ ≤ _ + (ai_ss h1.1 - ai_ss h.1); omega) hrun ?_ lm s.heap [] 0 0 hLR hP va_S.rf rfl rfl
  intro pc ls st i w hd hop lm H locs cells slots hl hP hS hN hZ
  have e1 : cells = h1.1.length - h.1.length := by omega
  have e2 : slots = ai_ss h1.1 - ai_ss h.1 := by omega
  subst e1
  subst e2
  have hQ : ∀ t : State, t.heap = H → s.WarmedH t.vm → ai_Qc bs B D cA r h1 (as.map (ai_rl bs B)).toArray s (.returned (r.map (ai_rl bs B))) t := fun t ht _ => ⟨rfl, by rw [ht]; exact hP, hS.F ht⟩
  cases i
  case ireturn =>
    match st, hop with
    | [.int v], hop =>
      obtain ⟨⟨rfl, hc⟩, e9⟩ := ai_if_s hop
      cases e9
      rcases hc with hc | ⟨hc, hv⟩
      · exact W.iret hx hb (by rw [hr]; exact ai_rc1 q hq hc) hQ hS.2.2 hd
      · refine W.zret (ty := .boolean) hx hb (by rw [hr]; exact ai_rc2 q hq hc) ?_ hQ hS.2.2 hd
        rcases hv with rfl | rfl
        · decide
        · decide
  case lreturn =>
    match st, hop with
    | [.long v], hop =>
      obtain ⟨⟨rfl, hc⟩, e9⟩ := ai_if_s hop
      cases e9
      exact W.lret hx hb (by rw [hr]; exact ai_rc3 q hq hc) hQ hS.2.2 hd
  case areturn =>
    match st, hop with
    | [.ref v], hop =>
      obtain ⟨⟨rfl, hc⟩, e9⟩ := ai_if_s hop
      cases e9
      exact W.aret hx hb (by rw [hr]; exact ai_rc4 q hq hc) (Or.inl ⟨_, rfl⟩) (Or.inr ⟨_, rfl⟩) hQ hS.2.2 hd
  case return_ =>
    match st, hop with
    | [], hop =>
      obtain ⟨⟨rfl, hc⟩, e9⟩ := ai_if_s hop
      cases e9
      exact W.vret hx hb (by rw [hr]; exact ai_rc0 q hq hc) hQ hS.2.2 hd
  case invokevirtual n =>
    obtain ⟨t, ht, h1⟩ := ai_o2_s hop
    obtain ⟨b, r, -, h2⟩ := ai_r1_s h1
    obtain ⟨s1, -, h3⟩ := ai_o2_s h2
    obtain ⟨-, h4⟩ := ai_if_s h3
    obtain ⟨-, h5⟩ := ai_call_s h4
    cases h5
  case invokespecial n =>
    obtain ⟨t, ht, h1⟩ := ai_o2_s hop
    by_cases hq0 : t.2.1 = 1000
    · rw [if_pos hq0] at h1
      obtain ⟨a, r1, -, h2⟩ := ai_r1_s h1
      obtain ⟨-, h3⟩ := ai_if_s h2
      obtain ⟨-, h4⟩ := ai_nx_s h3
      cases h4
    · rw [if_neg hq0] at h1
      obtain ⟨b, r1, hdr, h2⟩ := ai_r1_s h1
      obtain ⟨-, h4⟩ := ai_if_s h2
      obtain ⟨-, h5⟩ := ai_call_s h4
      cases h5
  case invokestatic n => exact absurd hop (ai_NI_istatic _)
  all_goals exact absurd hop (by exact ai_NI_of (by dsimp only [ai_op]; repeat' (first | exact ai_NI_none | exact ai_NI_nx | exact ai_NI_br | apply ai_NI_if | (apply ai_NI_o2; intro _) | (apply ai_NI_i2; intro _ _ _) | (apply ai_NI_l2; intro _ _ _) | (apply ai_NI_i1; intro _ _) | (apply ai_NI_l1; intro _ _) | (apply ai_NI_r1; intro _ _) | (apply ai_NI_ldi; intro _) | (apply ai_NI_ldl; intro _) | (apply ai_NI_lda; intro _) | split)) _)
theorem ai_A_all (n : Nat) : ai_A l bs B D cA n := by
  induction n with
  | zero =>
    intro p e R s m args below meth c Q N0 S0 y X pc ls st h r hf C SX hsz hN1 hN2 hS2 hc1 hc2 hr hret
    cases hr
  | succ n ih => exact ai_A_succ ih (ai_B_of ih)
end AIR
