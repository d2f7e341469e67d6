def ai_h0 : ai_H := ([(999, 0)], fun _ _ => 0, fun _ _ => 0, fun _ _ => none)
theorem ai_law_run (L : Nat) (xs : Nat → Int32) (hL : L ≤ 3072) : ∃ (n : Nat) (hf : ai_H), ai_run n (some (L, xs)) 179 0 (ai_en [.ref 0] 4) [] ai_h0 = some (some (.int 1), hf) ∧ hf.1.length ≤ 600001 ∧ ai_ss hf.1 ≤ 7302250 := by
  obtain ⟨n, r, h1, hr, hq1, hq2⟩ := la_run (xs := xs) hL
  refine ⟨n, h1, ?_, ?_, ?_⟩
  · rw [show ai_en [.ref 0] 4 = [some (.ref 0), none, none, none] from rfl]
    unfold ai_h0
    rw [hr, hq1]
    rfl
  · rw [hq2]; exact eS_len
  · rw [hq2]; exact eS_ss
/-! THE CLAIM OUT OF ONE WALK OF THE LAW'S BODY. Your part is whole_start (and what it stands on); all else here is the same for every law, but numbers. -/
def R_law : String := "ManyEyesLaw"
def lw_P (b : Addr) (xs : List Int32) (args : Array Value) (s : State) : Prop := args = #[.ref b] ∧ s.IntsAt b xs ∧ xs.length ≤ 3072 ∧ (Jvm.Cond.and given_1 narrow_1).before args s = true
def lw_Q (_ : Array Value) (s : State) (o : Outcome) (t : State) : Prop := o = .returned (some (.int 1)) ∧ Framed s o t [] 600000 7302250
def lw_Z (below : List Frame) (a : Array Value) (s : State) : State → Prop := fun t => ∃ o, t.status = .running ∧ Ended t below o ∧ lw_Q a s o t
/-- the law's own end, with 1 on the stack, nothing written that was there before, its room as the claim has it -/
theorem lw_ret {p : Program} {l : Launch} {e : Env} {s : State} {m : MethodId} {below : List Frame} {meth : Method} {c : Code} {b : Nat} (hx : p.tables.exec = Jvm.exec) (hb : c.code = code) (hr : meth.sig.returnType = ret) (hlocks : meth.locks = false) {pc : Nat} {H : Heap} {ls : Array Slot} (hdg : decode code pc = .ok (.ireturn, 1)) : W p l e room_1 s m #[Value.ref b] below meth c H [] 600000 7302250 (lw_Z below #[Value.ref b] s) (F0 m pc ls [.int 1]) := by
  intro T hT X
  obtain ⟨fs, hret, hrun, hended, hW, hframe⟩ := X.leave (v := some (.int 1)) (hlocks := hlocks) (fun h => by rw [hr] at h; cases h)
  have hmeth' : T.vm.method? m = some meth := X.method'
  refine ⟨T.setFrames fs, ?_, .returned (some (.int 1)), hrun, hended, rfl, ⟨_, rfl⟩, hW, hframe⟩
  jvm_step X.here [X.here.top, hx, hb, hdg, hmeth', hr, ret, narrow_b1]
  (try refine ⟨rfl, ?_⟩); (try refine ⟨rfl, ?_⟩)
  first | (intro acts; rw [hret _ acts rfl rfl rfl]) | rw [hret _ _ rfl rfl rfl]
  exact Steps.refl _
/-- what holds at the law's entry: the machine, the code, the tables' words (any of lw_tbl by 'hts w (by decide +kernel)'), the script of L ints xs at the cell b, what the Statement gives of the start (any of its parts by flat_of_before) -/
def lw_At (p : Program) (s : State) (m : MethodId) (meth : Method) (c : Code) (b L : Nat) (xs : Nat → Int32) : Prop :=
  p.tables.exec = Jvm.exec ∧ c.code = code ∧ meth.sig.returnType = ret ∧ c.maxLocals = 4 ∧ s.vm.findClass R_law = some m.cls ∧ (∀ w ∈ lw_tbl, w.before #[Value.ref b] s = true) ∧ va_X b L xs s s.heap ∧ b < s.heap.size ∧ meth.locks = false ∧ (Jvm.Cond.and given_1 narrow_1).before #[Value.ref b] s = true
theorem ai_D_ex {args : Array Value} {s : State} (hts : ∀ w ∈ ai_T, w.before args s = true) : ∃ (D : va_G) (cA : Nat → ClassId), va_K D ai_cl (ai_tys cA) s := by
  have h1 : ∀ ci, ∃ (cC : ClassId) (iS : Nat → Nat), ci < 10 → u_Kn s (ai_R ci) (ai_F ci) (ai_N ci) cC iS := by
    intro ci
    by_cases hci : ci < 10
    · obtain ⟨cC, iS, h⟩ := u_known (C := ai_R ci) (T := ai_F ci) (N := ai_N ci) (n := ai_N ci) hts (ai_f_in ci hci) (hts _ (ai_f_inst ci hci).1)
      exact ⟨cC, iS, fun _ => h⟩
    · exact ⟨0, fun _ => 0, fun h => absurd h hci⟩
  have h2 : ∀ t, ∃ c2 : ClassId, t < 9 → ArrOfT s c2 (ai_at t) ∧ va_RA s c2 (ai_at t) := by
    intro t
    by_cases ht : t < 9
    · by_cases h4 : 4 ≤ t
      · obtain ⟨comp, c2, k2, f1, f2, f3, f4, f5⟩ := Cond.arrayOver_spec (hts _ (ai_arr_in.2.2.2.2 t ht h4))
        rw [(ai_at_ec t ht h4).1]
        exact ⟨c2, fun _ => ⟨fun n z => ⟨fun k h => (by cases h), k2, f3, comp, f4⟩, k2, comp, f3, f4, f1, f5⟩⟩
      · have key : ∀ ty : FieldType, Cond.arrayClass ty ∈ ai_T → (∀ C, ty ≠ .object C) → ∃ c2 : ClassId, ArrOfT s c2 ty ∧ va_RA s c2 ty := by
          intro ty hty hne
          obtain ⟨c2, k2, comp, f1, f2, f3⟩ := Cond.arrayClass_spec (hts _ hty)
          refine ⟨c2, fun n z => ⟨fun k h => (by cases h), k2, f2, comp, f3⟩, ?_⟩
          cases ty with
          | object C => exact absurd rfl (hne C)
          | _ => exact f1
        obtain ⟨i1, i2, i3, i4, -⟩ := ai_arr_in
        match t, h4 with
        | 0, _ => obtain ⟨c2, q⟩ := key .int i1 (fun C h => by cases h); exact ⟨c2, fun _ => q⟩
        | 1, _ => obtain ⟨c2, q⟩ := key .byte i2 (fun C h => by cases h); exact ⟨c2, fun _ => q⟩
        | 2, _ => obtain ⟨c2, q⟩ := key .boolean i3 (fun C h => by cases h); exact ⟨c2, fun _ => q⟩
        | 3, _ => obtain ⟨c2, q⟩ := key .long i4 (fun C h => by cases h); exact ⟨c2, fun _ => q⟩
        | n + 4, h4 => exact absurd (by omega) h4
    · exact ⟨0, fun h => absurd h ht⟩
  refine ⟨(fun ci => Classical.choose (h1 ci), fun ci => Classical.choose (Classical.choose_spec (h1 ci))), fun t => Classical.choose (h2 t), ?_, ?_⟩
  · intro ci q hq
    by_cases hci : ci < 10
    · rw [ai_cl_get hci] at hq
      cases hq
      exact Classical.choose_spec (Classical.choose_spec (h1 ci)) hci
    · rw [List.getElem?_eq_none (by unfold ai_cl; simp; omega)] at hq
      cases hq
  · intro t q hq
    by_cases ht : t < 9
    · rw [ai_tys_get ht] at hq
      cases hq
      exact Classical.choose_spec (h2 t) ht
    · rw [List.getElem?_eq_none (by rw [ai_tys_len]; omega)] at hq
      cases hq
set_option maxRecDepth 20000 in
theorem whole_start {p : Program} {e : Env} {s : State} {m : MethodId} {below : List Frame} {meth : Method} {c : Code} (l : Launch) (hflags : l.flags = flags0) {b L : Nat} {xs : Nat → Int32} (hL : L ≤ 3072) (C0 : lw_At p s m meth c b L xs) : W p l e room_1 s m #[Value.ref b] below meth c s.heap [] 0 0 (lw_Z below #[Value.ref b] s) (entryFrame m ([Value.ref b] : List Value).toArray 4) := by
  obtain ⟨hx, hb, hr, hml, hown, hts, hX, hbl, hlocks, hgv⟩ := id C0
  have hts' : ∀ w ∈ ai_T, w.before #[Value.ref b] s = true := fun w hw => hts w (List.mem_filter.mp hw).1
  obtain ⟨D, cA, hK⟩ := ai_D_ex hts'
  obtain ⟨n, hf, hrun, hc1, hc2⟩ := ai_law_run L xs hL
  have hsz : s.heap.size = (s.heap.size - 1) + 1 := by omega
  obtain ⟨lm, hlm, hLR⟩ := ai_entry_LR (m := m) (bs := b) (B := s.heap.size - 1) (as := [.ref 0]) (n := 4) rfl
  rw [show ([Value.ref b] : List Value) = [Value.ref 0].map (ai_rl b (s.heap.size - 1)) from rfl, hlm]
  have hSx : ai_Sx b (s.heap.size - 1) (some (L, xs)) s := fun n ys e => by
    cases e
    exact ⟨hX, hbl, by omega⟩
  refine ai_A_all n p e room_1 s m #[Value.ref b] below meth c (lw_Z below #[Value.ref b] s) 1 0 179 (some (L, xs)) 0 _ [] ai_h0 (some (.int 1)) hf ⟨hx, hb, hml, hown, hts', hK, (fun h => by cases h), by decide, by decide⟩ hSx hsz (Nat.le_refl 1) (Nat.le_refl 1) (Nat.zero_le _) (by show _ ≤ 1 + 600000; omega) (by show _ ≤ 0 + 7302250; omega) hrun ?_ lm s.heap [] 0 0 hLR (fun k q h => by simp [ai_w, ai_h0] at h) va_S.rf rfl rfl
  intro pc ls st i w hd hop lm H locs cells slots hl hP hS hN hZ
  have hi : i = .ireturn ∧ w = 1 ∧ st = [.int 1] := by
    cases i
    case ireturn =>
      match st, hop with
      | [.int v], hop =>
        obtain ⟨⟨rfl, hc⟩, e9⟩ := ai_if_s hop
        cases e9
        exact ⟨rfl, rfl, rfl⟩
    case lreturn =>
      match st, hop with
      | [.long v], hop =>
        obtain ⟨⟨rfl, hc⟩, e9⟩ := ai_if_s hop
        cases e9
    case areturn =>
      match st, hop with
      | [.ref v], hop =>
        obtain ⟨⟨rfl, hc⟩, e9⟩ := ai_if_s hop
        cases e9
    case return_ =>
      match st, hop with
      | [], hop =>
        obtain ⟨⟨rfl, hc⟩, e9⟩ := ai_if_s hop
        cases e9
    case invokevirtual n =>
      obtain ⟨t, ht, h1⟩ := ai_o2_s hop
      obtain ⟨b, r, -, h2⟩ := ai_r1_s h1
      obtain ⟨s1, -, h3⟩ := ai_o2_s h2
      obtain ⟨-, h4⟩ := ai_if_s h3
      obtain ⟨-, h5⟩ := ai_call_s h4
      cases h5
    case invokespecial n =>
      obtain ⟨t, ht, h1⟩ := ai_o2_s hop
      by_cases hq0 : t.2.1 = 1000
      · rw [if_pos hq0] at h1
        obtain ⟨a, r1, -, h2⟩ := ai_r1_s h1
        obtain ⟨-, h3⟩ := ai_if_s h2
        obtain ⟨-, h4⟩ := ai_nx_s h3
        cases h4
      · rw [if_neg hq0] at h1
        obtain ⟨b, r1, hdr, h2⟩ := ai_r1_s h1
        obtain ⟨-, h4⟩ := ai_if_s h2
        obtain ⟨-, h5⟩ := ai_call_s h4
        cases h5
    case invokestatic n => exact absurd hop (ai_NI_istatic _)
    all_goals exact absurd hop (by exact ai_NI_of (by dsimp only [ai_op]; repeat' (first | exact ai_NI_none | exact ai_NI_nx | exact ai_NI_br | apply ai_NI_if | (apply ai_NI_o2; intro _) | (apply ai_NI_i2; intro _ _ _) | (apply ai_NI_l2; intro _ _ _) | (apply ai_NI_i1; intro _ _) | (apply ai_NI_l1; intro _ _) | (apply ai_NI_r1; intro _ _) | (apply ai_NI_ldi; intro _) | (apply ai_NI_ldl; intro _) | (apply ai_NI_lda; intro _) | split)) _)
  obtain ⟨rfl, rfl, rfl⟩ := hi
  refine va_forget (fun q hq => by have := hS.2.2 q hq; show s.heap.size ≤ q.base; omega) ?_
  refine W.widen (k := 600000) (n := 7302250) (by omega) (by omega) ?_
  exact lw_ret hx hb hr hlocks hd
-- ===== YOUR PART ENDS =====
set_option maxHeartbeats 4000000 in
theorem lw_walk (l : Launch) (hflags : l.flags = flags0) (b : Addr) (xs : List Int32) : MetFree l x (headSpec (Jvm.Cond.code x code maxLocals ret :: tables_1) room_1) (lw_P b xs) (fun _ _ _ _ _ => True) lw_Q := by
  refine MetFree.of_bodyS (code := code) (maxLocals := maxLocals) (ret := ret) (by decide) ?_ ?_
  · intro args s m h hn
    obtain ⟨meth, c, h1, h2, h3, h4, h5, h6, -, -⟩ := Cond.code_spec hn (atoms_spec (ws := Jvm.Cond.code x code maxLocals ret :: tables_1) h _ List.mem_cons_self)
    exact ⟨meth, c, h1, h2, h3, h4, h5, h6⟩
  · intro p e s m args below meth c s₁ B hml0 hP _
    obtain ⟨rfl, hx, hbd, hgv⟩ := hP
    obtain ⟨scr, harrAt, hlist, hof, hsmall⟩ := hx
    obtain ⟨hcb, hkn, -, -⟩ := State.arrayAt?_spec harrAt
    have hown : s.vm.findClass R_law = some m.cls := findClass_of_methodNamed B.named
    have hts0 : ∀ c ∈ (Jvm.Cond.code x code maxLocals ret :: tables_1), c.before #[Value.ref b] s = true := atoms_spec (ws := Jvm.Cond.code x code maxLocals ret :: tables_1) B.pre
    have hts : ∀ w ∈ lw_tbl, w.before #[Value.ref b] s = true := k2_hts_sels lw_privs (fun w hw => hts0 w (List.mem_cons_of_mem _ hw)) lw_privs_ok
    have hml : c.maxLocals = 4 := B.maxLocals_eq (hts0 _ List.mem_cons_self)
    have X₀ : Stand p l e room_1 s m #[Value.ref b] below meth c s₁ [] 0 0 := Stand.of_body B
    have hh0 : s₁.heap = s.heap := by rw [B.state]; rfl
    have hsz : scr.slots.size = xs.length := by rw [← Array.length_toList, hlist, List.length_map]
    have hval : ∀ j : Nat, j < xs.length → scr.slots[j]? = some (.int (xs.getD j 0)) := fun j hj => by
      rw [← Array.getElem?_toList, hlist]
      simp [hj]
    have hbl : b < s.heap.size := (Array.getElem?_eq_some_iff.mp hcb).1
    have hX : va_X b xs.length (fun j => xs.getD j 0) s s.heap := ⟨scr, hcb, hof, hkn, hsz, hval⟩
    have K : W p l e room_1 s m #[Value.ref b] below meth c s₁.heap [] 0 0 (lw_Z below #[Value.ref b] s) (entryFrame m ([Value.ref b] : List Value).toArray 4) := by
      rw [hh0]
      exact whole_start l hflags hbd ⟨B.exec, B.bytes, B.returns, hml, hown, hts, hX, hbl, B.notSynchronized, hgv⟩
    obtain ⟨t, a1, o, b1, b2, b3⟩ := K s₁ rfl X₀
    exact ⟨t, o, a1, b1, b2, b3⟩
theorem lw_pre_spec {args : Array Value} {s : State} (h : (Jvm.Cond.and given_1 narrow_1).before args s = true) (hr : rest_1_c.before args s = true) : ∃ (b : Addr) (xs : List Int32), lw_P b xs args s := by
  have hs := flat_of_before _ h
  have hq := flat_of_before _ hr
  have hc : (Cond.count 1).before args s = true := hs _ (by decide +kernel)
  have harr : (Cond.arrayOf (.arg 0) .int).before args s = true := hs _ (by decide +kernel)
  have hle : (Cond.le (.length (.arg 0)) (.int 3072)).before args s = true := hs _ (by decide +kernel)
  have hlen : (Cond.isInt (.length (.arg 0))).before args s = true := hq _ (by decide +kernel)
  have hall : (Cond.all (.arg 0) (.isInt (.elem (.arg 0) (.index 0)))).before args s = true := hq _ (by decide +kernel)
  obtain ⟨b, xs, hb, hx⟩ := State.ints_of_pre rfl harr hlen hall
  have hsm : xs.length < 2 ^ 31 := hx.choose_spec.2.2.2
  have hev : (Term.length (.arg 0)).eval args s none [] s = some (.int xs.length.toInt32) := hx.length_eval hb
  have hv := Cond.le_ints hev (show (Term.int 3072).eval args s none [] s = some (.int 3072) from rfl)
  have hd : xs.length.toInt32 ≤ 3072 := by
    simpa [Cond.before, Cond.holds, hv] using hle
  have hN : xs.length ≤ 3072 := (Int32.ofNat_le_ofNat hsm (by decide)).mp (show Int32.ofNat xs.length ≤ Int32.ofNat 3072 from hd)
  exact ⟨b, xs, Cond.one_arg hc (show args[0]? = some (.ref b) from hb), hx, hN, h⟩
theorem lw_comes (l : Launch) (hflags : l.flags = flags0) : Comes l x (Jvm.Cond.code x code maxLocals ret :: tables_1) room_1 (fun tb e args s => Calls_1 tb e args s ∧ rest_1 tb e args s ∧ Pre_1 tb e args s)
    (fun _ _ args s o t => lw_Q args s o t) := by
  intro p e ha hc hk s m args below hf hfit hheap happ hpre
  obtain ⟨b, xs, hP⟩ := lw_pre_spec hpre.2.2 hpre.2.1
  obtain ⟨k, o, h1, h2, h3, hQ⟩ := lw_walk l hflags b xs p e ha hc hk s m args below hf ((Spec.applies_iff_loose hf).mp happ).1 hP trivial
  exact ⟨k, o, h1, h2, h3, hQ⟩
theorem lw_frame {s t : State} {o : Outcome} {args : Array Value} (h : Framed s o t [] 600000 7302250) :
    Framed s o t (fieldLocs frame_1_writes args s ++ arrayLocs frame_1_arrays args s ++ staticLocs frame_1_statics s) 600000 7302250 := h
theorem lw_limb (L : Cond) (hL : ∀ (args : Array Value) (s t : State), L.after args s (.returned (some (.int 1))) t = true) :
    ArmFor flags0 classFile x code maxLocals ret World_1 tables_1 room_1 Calls_1 rest_1 Pre_1
      (fun tb e a s o t => postC L tb e a s o t ∧ Framed s o t (fieldLocs frame_1_writes a s ++ arrayLocs frame_1_arrays a s ++ staticLocs frame_1_statics s) 600000 7302250) := by
  intro l hflags _ _ p e ha hc hk s m args below hf hfit hheap happ hpre
  obtain ⟨k, o, h1, h2, h3, rfl, hF⟩ := lw_comes l hflags p e ha hc hk s m args below hf hfit hheap happ hpre
  exact ⟨k, _, h1, h2, h3, hL args s _, lw_frame hF⟩
theorem i_vc : Claimed_1_1 ∧ Claimed_1_2 := ⟨lw_limb limb_1_1 (fun args s t => by simp [limb_1_1, Cond.after, Cond.holds, Cond.value]), lw_limb limb_1_2 (fun args s t => Cond.after_iff.mpr (by
  first | (rw [show limb_1_2 = Cond.eq .result (.int 1) from rfl, Cond.eq_ints (x := 1) (y := 1) rfl rfl]; simp; done) | (simp [limb_1_2, Cond.value, Term.eval]; done)))⟩
