theorem ai_cl_get {ci : Nat} (h : ci < 10) : ai_cl[ci]? = some (ai_R ci, ai_F ci, ai_N ci) := by
  unfold ai_cl
  rw [List.getElem?_map, List.getElem?_range h]
  rfl
def ai_tys (cA : Nat → ClassId) : List (ClassId × FieldType) := (List.range 9).map fun t => (cA t, ai_at t)
theorem ai_tys_get {cA : Nat → ClassId} {t : Nat} (h : t < 9) : (ai_tys cA)[t]? = some (cA t, ai_at t) := by
  unfold ai_tys
  rw [List.getElem?_map, List.getElem?_range h]
  rfl
theorem ai_tys_len {cA : Nat → ClassId} : (ai_tys cA).length = 9 := by simp [ai_tys]
theorem ai_dv : ∀ ci, ci < 10 → ∀ k, k < ai_N ci → defaultValue (ai_ty ci k) = if ai_fk ci k = 2 then .null else .int 0 := by decide +kernel
theorem ai_fit_r : ∀ ci, ci < 10 → ∀ k, k < ai_N ci → ai_fk ci k = 2 → (match ai_ty ci k with | .object _ => true | .array _ => true | _ => false) = true := by decide +kernel
theorem ai_fit_i : ∀ ci, ci < 10 → ∀ k, k < ai_N ci → ai_fk ci k ≠ 2 → (ai_ty ci k = .int ∨ (ai_fk ci k = 1 ∧ ai_ty ci k = .boolean)) := by decide +kernel
theorem ai_at_ec : ∀ t, t < 9 → 4 ≤ t → ai_at t = .object (ai_R (ai_ec t)) ∧ ai_ec t < 10 := by decide +kernel
theorem ai_fl_s {oc k : Nat} {t} (h : ai_fl oc k = some t) (ho : oc < 11) : t.1 = k ∧ ai_fw oc t ∈ ai_T ∧ t.2.1 < 10 ∧ t.2.2.1 < ai_N t.2.1 := by
  unfold ai_fl at h
  exact ⟨by simpa using List.find?_some h, ai_fl_in oc ho t (List.mem_of_find?_eq_some h)⟩
theorem ai_cn_s {oc k : Nat} {t} (h : ai_cn oc k = some t) (ho : oc < 11) : t.1 = k ∧ Cond.classLink (ai_R oc) t.1 (ai_R t.2) ∈ ai_T ∧ t.2 < 10 := by
  unfold ai_cn at h
  exact ⟨by simpa using List.find?_some h, ai_cn_in oc ho t (List.mem_of_find?_eq_some h)⟩
theorem ai_ocL_lt : ∀ y, ai_oc y < 11 := by
  intro y
  unfold ai_oc
  by_cases h : y < ai_ocL.length
  · rw [List.getD_eq_getElem?_getD, List.getElem?_eq_getElem h]
    exact (by decide +kernel : ∀ x ∈ ai_ocL, x < 11) _ (List.getElem_mem h)
  · rw [List.getD_eq_getElem?_getD, List.getElem?_eq_none (by omega)]
    decide
def ai_Cx (p : Program) (s : State) (m : MethodId) (args : Array Value) (meth : Method) (c : Code) (R : Room) (D : va_G) (cA : Nat → ClassId) (y : Nat) : Prop :=
  p.tables.exec = Jvm.exec ∧ c.code = ai_b y ∧ c.maxLocals = ai_mx y ∧ s.vm.findClass (ai_R (ai_oc y)) = some m.cls ∧ (∀ w ∈ ai_T, w.before args s = true) ∧ va_K D ai_cl (ai_tys cA) s ∧ (ai_ni y = true → meth.name = "<init>") ∧ ai_fr y ≤ R.frames ∧ ai_lo y ≤ R.locals
def ai_Sx (bs B : Nat) (X : Option (Nat × (Nat → Int32))) (s : State) : Prop := ∀ n xs, X = some (n, xs) → va_X bs n xs s s.heap ∧ bs < s.heap.size ∧ bs ≤ B
def ai_K (p : Program) (l : Launch) (e : Env) (R : Room) (s : State) (m : MethodId) (args : Array Value) (below : List Frame) (meth : Method) (c : Code) (Q : State → Prop) (bs B N0 S0 : Nat) (D : va_G) (cA : Nat → ClassId) (y pc : Nat) (ls : ai_L) (st : List Value) (h : ai_H) : Prop :=
  ∀ (lm : Array Slot) (H : Heap) (locs : List Loc) (cells slots : Nat), ai_LR bs B (ai_mx y) lm ls → va_P D ai_cl (ai_w bs B cA h) H → va_S (fun q => B < q) s.heap H locs → N0 + cells = h.1.length → S0 + slots = ai_ss h.1 → W p l e R s m args below meth c H locs cells slots Q (F0 m pc lm (st.map (ai_rl bs B)))
section AIG
variable {p : Program} {l : Launch} {e : Env} {R : Room} {s : State} {m : MethodId} {args : Array Value} {below : List Frame} {meth : Method} {c : Code} {Q : State → Prop} {bs B N0 S0 : Nat} {D : va_G} {cA : Nat → ClassId} {y pc pc' w : Nat} {ls ls' : ai_L} {st st' : List Value} {h h' : ai_H} {X : Option (Nat × (Nat → Int32))}

theorem ai_g_aload_n {n : Fin 4} (C : ai_Cx p s m args meth c R D cA y) (hd : decode (ai_b y) pc = .ok (.aload_n n, w)) (hop : ai_op X y pc w (.aload_n n) ls st h = some (.inl (pc', ls', st', h'))) (k : ai_K p l e R s m args below meth c Q bs B N0 S0 D cA y pc' ls' st' h') : ai_K p l e R s m args below meth c Q bs B N0 S0 D cA y pc ls st h := by
  obtain ⟨hx, hb, hml, hown, hts, hK, hni, hfr, hlo⟩ := C
  obtain ⟨x, hx1, h1⟩ := ai_lda_s hop
  obtain ⟨rfl, e9⟩ := ai_nx_s h1
  cases e9
  intro lm H locs cells slots hl hP hS hN hZ
  refine lv_aload_n hx hb hd rfl (hl.2.2.2 _ _ hx1) ?_
  exact k _ _ _ _ _ hl hP hS hN hZ

theorem ai_g_aload {n : Nat} (C : ai_Cx p s m args meth c R D cA y) (hd : decode (ai_b y) pc = .ok (.aload n, w)) (hop : ai_op X y pc w (.aload n) ls st h = some (.inl (pc', ls', st', h'))) (k : ai_K p l e R s m args below meth c Q bs B N0 S0 D cA y pc' ls' st' h') : ai_K p l e R s m args below meth c Q bs B N0 S0 D cA y pc ls st h := by
  obtain ⟨hx, hb, hml, hown, hts, hK, hni, hfr, hlo⟩ := C
  obtain ⟨x, hx1, h1⟩ := ai_lda_s hop
  obtain ⟨rfl, e9⟩ := ai_nx_s h1
  cases e9
  intro lm H locs cells slots hl hP hS hN hZ
  refine lv_aload hx hb hd (hl.2.2.2 _ _ hx1) ?_
  exact k _ _ _ _ _ hl hP hS hN hZ

theorem ai_g_iload_n {n : Fin 4} (C : ai_Cx p s m args meth c R D cA y) (hd : decode (ai_b y) pc = .ok (.iload_n n, w)) (hop : ai_op X y pc w (.iload_n n) ls st h = some (.inl (pc', ls', st', h'))) (k : ai_K p l e R s m args below meth c Q bs B N0 S0 D cA y pc' ls' st' h') : ai_K p l e R s m args below meth c Q bs B N0 S0 D cA y pc ls st h := by
  obtain ⟨hx, hb, hml, hown, hts, hK, hni, hfr, hlo⟩ := C
  obtain ⟨x, hx1, h1⟩ := ai_ldi_s hop
  obtain ⟨rfl, e9⟩ := ai_nx_s h1
  cases e9
  intro lm H locs cells slots hl hP hS hN hZ
  refine lv_iload_n hx hb hd rfl (hl.2.2.2 _ _ hx1) ?_
  exact k _ _ _ _ _ hl hP hS hN hZ

theorem ai_g_iload {n : Nat} (C : ai_Cx p s m args meth c R D cA y) (hd : decode (ai_b y) pc = .ok (.iload n, w)) (hop : ai_op X y pc w (.iload n) ls st h = some (.inl (pc', ls', st', h'))) (k : ai_K p l e R s m args below meth c Q bs B N0 S0 D cA y pc' ls' st' h') : ai_K p l e R s m args below meth c Q bs B N0 S0 D cA y pc ls st h := by
  obtain ⟨hx, hb, hml, hown, hts, hK, hni, hfr, hlo⟩ := C
  obtain ⟨x, hx1, h1⟩ := ai_ldi_s hop
  obtain ⟨rfl, e9⟩ := ai_nx_s h1
  cases e9
  intro lm H locs cells slots hl hP hS hN hZ
  refine lv_iload hx hb hd (hl.2.2.2 _ _ hx1) ?_
  exact k _ _ _ _ _ hl hP hS hN hZ

theorem ai_g_lload_n {n : Fin 4} (C : ai_Cx p s m args meth c R D cA y) (hd : decode (ai_b y) pc = .ok (.lload_n n, w)) (hop : ai_op X y pc w (.lload_n n) ls st h = some (.inl (pc', ls', st', h'))) (k : ai_K p l e R s m args below meth c Q bs B N0 S0 D cA y pc' ls' st' h') : ai_K p l e R s m args below meth c Q bs B N0 S0 D cA y pc ls st h := by
  obtain ⟨hx, hb, hml, hown, hts, hK, hni, hfr, hlo⟩ := C
  obtain ⟨x, hx1, h1⟩ := ai_ldl_s hop
  obtain ⟨rfl, e9⟩ := ai_nx_s h1
  cases e9
  intro lm H locs cells slots hl hP hS hN hZ
  refine lv_lload_n hx hb hd rfl (hl.2.2.2 _ _ hx1) ?_
  exact k _ _ _ _ _ hl hP hS hN hZ

theorem ai_g_lload {n : Nat} (C : ai_Cx p s m args meth c R D cA y) (hd : decode (ai_b y) pc = .ok (.lload n, w)) (hop : ai_op X y pc w (.lload n) ls st h = some (.inl (pc', ls', st', h'))) (k : ai_K p l e R s m args below meth c Q bs B N0 S0 D cA y pc' ls' st' h') : ai_K p l e R s m args below meth c Q bs B N0 S0 D cA y pc ls st h := by
  obtain ⟨hx, hb, hml, hown, hts, hK, hni, hfr, hlo⟩ := C
  obtain ⟨x, hx1, h1⟩ := ai_ldl_s hop
  obtain ⟨rfl, e9⟩ := ai_nx_s h1
  cases e9
  intro lm H locs cells slots hl hP hS hN hZ
  refine lv_lload hx hb hd (hl.2.2.2 _ _ hx1) ?_
  exact k _ _ _ _ _ hl hP hS hN hZ

theorem ai_g_astore_n {n : Fin 4} (C : ai_Cx p s m args meth c R D cA y) (hd : decode (ai_b y) pc = .ok (.astore_n n, w)) (hop : ai_op X y pc w (.astore_n n) ls st h = some (.inl (pc', ls', st', h'))) (k : ai_K p l e R s m args below meth c Q bs B N0 S0 D cA y pc' ls' st' h') : ai_K p l e R s m args below meth c Q bs B N0 S0 D cA y pc ls st h := by
  obtain ⟨hx, hb, hml, hown, hts, hK, hni, hfr, hlo⟩ := C
  obtain ⟨x, r, rfl, h1⟩ := ai_r1_s hop
  obtain ⟨hlt, h2⟩ := ai_if_s h1
  obtain ⟨rfl, e9⟩ := ai_nx_s h2
  cases e9
  intro lm H locs cells slots hl hP hS hN hZ
  refine lv_astore_n (lv := ai_lv bs B ls) (nL := ai_mx y) hx hb hd rfl hl.has (by rw [← hl.1]; exact hlt) rfl (fun lm' h9 => ?_)
  exact k _ _ _ _ _ (hl.s1 (v := .ref x) h9) hP hS hN hZ

theorem ai_g_astore {n : Nat} (C : ai_Cx p s m args meth c R D cA y) (hd : decode (ai_b y) pc = .ok (.astore n, w)) (hop : ai_op X y pc w (.astore n) ls st h = some (.inl (pc', ls', st', h'))) (k : ai_K p l e R s m args below meth c Q bs B N0 S0 D cA y pc' ls' st' h') : ai_K p l e R s m args below meth c Q bs B N0 S0 D cA y pc ls st h := by
  obtain ⟨hx, hb, hml, hown, hts, hK, hni, hfr, hlo⟩ := C
  obtain ⟨x, r, rfl, h1⟩ := ai_r1_s hop
  obtain ⟨hlt, h2⟩ := ai_if_s h1
  obtain ⟨rfl, e9⟩ := ai_nx_s h2
  cases e9
  intro lm H locs cells slots hl hP hS hN hZ
  refine lv_astore (lv := ai_lv bs B ls) (nL := ai_mx y) hx hb hd hl.has (by rw [← hl.1]; exact hlt) rfl (fun lm' h9 => ?_)
  exact k _ _ _ _ _ (hl.s1 (v := .ref x) h9) hP hS hN hZ

theorem ai_g_istore_n {n : Fin 4} (C : ai_Cx p s m args meth c R D cA y) (hd : decode (ai_b y) pc = .ok (.istore_n n, w)) (hop : ai_op X y pc w (.istore_n n) ls st h = some (.inl (pc', ls', st', h'))) (k : ai_K p l e R s m args below meth c Q bs B N0 S0 D cA y pc' ls' st' h') : ai_K p l e R s m args below meth c Q bs B N0 S0 D cA y pc ls st h := by
  obtain ⟨hx, hb, hml, hown, hts, hK, hni, hfr, hlo⟩ := C
  obtain ⟨x, r, rfl, h1⟩ := ai_i1_s hop
  obtain ⟨hlt, h2⟩ := ai_if_s h1
  obtain ⟨rfl, e9⟩ := ai_nx_s h2
  cases e9
  intro lm H locs cells slots hl hP hS hN hZ
  refine lv_istore_n (lv := ai_lv bs B ls) (nL := ai_mx y) hx hb hd rfl hl.has (by rw [← hl.1]; exact hlt) rfl (fun lm' h9 => ?_)
  exact k _ _ _ _ _ (hl.s1 (v := .int x) h9) hP hS hN hZ

theorem ai_g_istore {n : Nat} (C : ai_Cx p s m args meth c R D cA y) (hd : decode (ai_b y) pc = .ok (.istore n, w)) (hop : ai_op X y pc w (.istore n) ls st h = some (.inl (pc', ls', st', h'))) (k : ai_K p l e R s m args below meth c Q bs B N0 S0 D cA y pc' ls' st' h') : ai_K p l e R s m args below meth c Q bs B N0 S0 D cA y pc ls st h := by
  obtain ⟨hx, hb, hml, hown, hts, hK, hni, hfr, hlo⟩ := C
  obtain ⟨x, r, rfl, h1⟩ := ai_i1_s hop
  obtain ⟨hlt, h2⟩ := ai_if_s h1
  obtain ⟨rfl, e9⟩ := ai_nx_s h2
  cases e9
  intro lm H locs cells slots hl hP hS hN hZ
  refine lv_istore (lv := ai_lv bs B ls) (nL := ai_mx y) hx hb hd hl.has (by rw [← hl.1]; exact hlt) rfl (fun lm' h9 => ?_)
  exact k _ _ _ _ _ (hl.s1 (v := .int x) h9) hP hS hN hZ

theorem ai_g_lstore_n {n : Fin 4} (C : ai_Cx p s m args meth c R D cA y) (hd : decode (ai_b y) pc = .ok (.lstore_n n, w)) (hop : ai_op X y pc w (.lstore_n n) ls st h = some (.inl (pc', ls', st', h'))) (k : ai_K p l e R s m args below meth c Q bs B N0 S0 D cA y pc' ls' st' h') : ai_K p l e R s m args below meth c Q bs B N0 S0 D cA y pc ls st h := by
  obtain ⟨hx, hb, hml, hown, hts, hK, hni, hfr, hlo⟩ := C
  obtain ⟨x, r, rfl, h1⟩ := ai_l1_s hop
  obtain ⟨hlt, h2⟩ := ai_if_s h1
  obtain ⟨rfl, e9⟩ := ai_nx_s h2
  cases e9
  intro lm H locs cells slots hl hP hS hN hZ
  refine lv_lstore_n (lv := ai_lv bs B ls) (nL := ai_mx y) hx hb hd rfl hl.has (by rw [← hl.1]; exact hlt) rfl (fun lm' h9 => ?_)
  exact k _ _ _ _ _ (hl.s2 (v := .long x) h9) hP hS hN hZ

theorem ai_g_lstore {n : Nat} (C : ai_Cx p s m args meth c R D cA y) (hd : decode (ai_b y) pc = .ok (.lstore n, w)) (hop : ai_op X y pc w (.lstore n) ls st h = some (.inl (pc', ls', st', h'))) (k : ai_K p l e R s m args below meth c Q bs B N0 S0 D cA y pc' ls' st' h') : ai_K p l e R s m args below meth c Q bs B N0 S0 D cA y pc ls st h := by
  obtain ⟨hx, hb, hml, hown, hts, hK, hni, hfr, hlo⟩ := C
  obtain ⟨x, r, rfl, h1⟩ := ai_l1_s hop
  obtain ⟨hlt, h2⟩ := ai_if_s h1
  obtain ⟨rfl, e9⟩ := ai_nx_s h2
  cases e9
  intro lm H locs cells slots hl hP hS hN hZ
  refine lv_lstore (lv := ai_lv bs B ls) (nL := ai_mx y) hx hb hd hl.has (by rw [← hl.1]; exact hlt) rfl (fun lm' h9 => ?_)
  exact k _ _ _ _ _ (hl.s2 (v := .long x) h9) hP hS hN hZ

theorem ai_g_iconst {n : Int} (C : ai_Cx p s m args meth c R D cA y) (hd : decode (ai_b y) pc = .ok (.iconst n, w)) (hop : ai_op X y pc w (.iconst n) ls st h = some (.inl (pc', ls', st', h'))) (k : ai_K p l e R s m args below meth c Q bs B N0 S0 D cA y pc' ls' st' h') : ai_K p l e R s m args below meth c Q bs B N0 S0 D cA y pc ls st h := by
  obtain ⟨hx, hb, hml, hown, hts, hK, hni, hfr, hlo⟩ := C
  obtain ⟨rfl, e9⟩ := ai_nx_s hop
  cases e9
  intro lm H locs cells slots hl hP hS hN hZ
  refine lv_iconst hx hb hd rfl ?_
  exact k _ _ _ _ _ hl hP hS hN hZ

theorem ai_g_bipush {n : Int} (C : ai_Cx p s m args meth c R D cA y) (hd : decode (ai_b y) pc = .ok (.bipush n, w)) (hop : ai_op X y pc w (.bipush n) ls st h = some (.inl (pc', ls', st', h'))) (k : ai_K p l e R s m args below meth c Q bs B N0 S0 D cA y pc' ls' st' h') : ai_K p l e R s m args below meth c Q bs B N0 S0 D cA y pc ls st h := by
  obtain ⟨hx, hb, hml, hown, hts, hK, hni, hfr, hlo⟩ := C
  obtain ⟨rfl, e9⟩ := ai_nx_s hop
  cases e9
  intro lm H locs cells slots hl hP hS hN hZ
  refine lv_bipush hx hb hd rfl ?_
  exact k _ _ _ _ _ hl hP hS hN hZ

theorem ai_g_sipush {n : Int} (C : ai_Cx p s m args meth c R D cA y) (hd : decode (ai_b y) pc = .ok (.sipush n, w)) (hop : ai_op X y pc w (.sipush n) ls st h = some (.inl (pc', ls', st', h'))) (k : ai_K p l e R s m args below meth c Q bs B N0 S0 D cA y pc' ls' st' h') : ai_K p l e R s m args below meth c Q bs B N0 S0 D cA y pc ls st h := by
  obtain ⟨hx, hb, hml, hown, hts, hK, hni, hfr, hlo⟩ := C
  obtain ⟨rfl, e9⟩ := ai_nx_s hop
  cases e9
  intro lm H locs cells slots hl hP hS hN hZ
  refine lv_sipush hx hb hd rfl ?_
  exact k _ _ _ _ _ hl hP hS hN hZ

theorem ai_g_lconst {n : Fin 2} (C : ai_Cx p s m args meth c R D cA y) (hd : decode (ai_b y) pc = .ok (.lconst n, w)) (hop : ai_op X y pc w (.lconst n) ls st h = some (.inl (pc', ls', st', h'))) (k : ai_K p l e R s m args below meth c Q bs B N0 S0 D cA y pc' ls' st' h') : ai_K p l e R s m args below meth c Q bs B N0 S0 D cA y pc ls st h := by
  obtain ⟨hx, hb, hml, hown, hts, hK, hni, hfr, hlo⟩ := C
  obtain ⟨rfl, e9⟩ := ai_nx_s hop
  cases e9
  intro lm H locs cells slots hl hP hS hN hZ
  refine lv_lconst hx hb hd rfl ?_
  exact k _ _ _ _ _ hl hP hS hN hZ

theorem ai_g_ldc {n : Nat} (C : ai_Cx p s m args meth c R D cA y) (hd : decode (ai_b y) pc = .ok (.ldc n, w)) (hop : ai_op X y pc w (.ldc n) ls st h = some (.inl (pc', ls', st', h'))) (k : ai_K p l e R s m args below meth c Q bs B N0 S0 D cA y pc' ls' st' h') : ai_K p l e R s m args below meth c Q bs B N0 S0 D cA y pc ls st h := by
  obtain ⟨hx, hb, hml, hown, hts, hK, hni, hfr, hlo⟩ := C
  obtain ⟨t, ht, h1⟩ := ai_o2_s hop
  obtain ⟨rfl, e9⟩ := ai_nx_s h1
  cases e9
  unfold ai_ki at ht
  have ht1 : t.1 = n := by simpa using List.find?_some ht
  subst ht1
  have hw := ai_ki_in _ (ai_ocL_lt y) t (List.mem_of_find?_eq_some ht)
  intro lm H locs cells slots hl hP hS hN hZ
  refine lv_ldc hx hb hown (hts _ hw) hd ?_
  exact k _ _ _ _ _ hl hP hS hN hZ

theorem ai_g_ldc2 {n : Nat} (C : ai_Cx p s m args meth c R D cA y) (hd : decode (ai_b y) pc = .ok (.ldc2_w n, w)) (hop : ai_op X y pc w (.ldc2_w n) ls st h = some (.inl (pc', ls', st', h'))) (k : ai_K p l e R s m args below meth c Q bs B N0 S0 D cA y pc' ls' st' h') : ai_K p l e R s m args below meth c Q bs B N0 S0 D cA y pc ls st h := by
  obtain ⟨hx, hb, hml, hown, hts, hK, hni, hfr, hlo⟩ := C
  obtain ⟨t, ht, h1⟩ := ai_o2_s hop
  obtain ⟨rfl, e9⟩ := ai_nx_s h1
  cases e9
  unfold ai_kl at ht
  have ht1 : t.1 = n := by simpa using List.find?_some ht
  subst ht1
  have hw := ai_kl_in _ (ai_ocL_lt y) t (List.mem_of_find?_eq_some ht)
  intro lm H locs cells slots hl hP hS hN hZ
  refine lv_ldc2 hx hb hown (hts _ hw) hd ?_
  exact k _ _ _ _ _ hl hP hS hN hZ

theorem ai_g_iadd  (C : ai_Cx p s m args meth c R D cA y) (hd : decode (ai_b y) pc = .ok (.iadd, w)) (hop : ai_op X y pc w (.iadd) ls st h = some (.inl (pc', ls', st', h'))) (k : ai_K p l e R s m args below meth c Q bs B N0 S0 D cA y pc' ls' st' h') : ai_K p l e R s m args below meth c Q bs B N0 S0 D cA y pc ls st h := by
  obtain ⟨hx, hb, hml, hown, hts, hK, hni, hfr, hlo⟩ := C
  obtain ⟨a, b, r, rfl, h1⟩ := ai_i2_s hop
  obtain ⟨rfl, e9⟩ := ai_nx_s h1
  cases e9
  intro lm H locs cells slots hl hP hS hN hZ
  refine lv_iadd hx hb hd ?_
  exact k _ _ _ _ _ hl hP hS hN hZ

theorem ai_g_isub  (C : ai_Cx p s m args meth c R D cA y) (hd : decode (ai_b y) pc = .ok (.isub, w)) (hop : ai_op X y pc w (.isub) ls st h = some (.inl (pc', ls', st', h'))) (k : ai_K p l e R s m args below meth c Q bs B N0 S0 D cA y pc' ls' st' h') : ai_K p l e R s m args below meth c Q bs B N0 S0 D cA y pc ls st h := by
  obtain ⟨hx, hb, hml, hown, hts, hK, hni, hfr, hlo⟩ := C
  obtain ⟨a, b, r, rfl, h1⟩ := ai_i2_s hop
  obtain ⟨rfl, e9⟩ := ai_nx_s h1
  cases e9
  intro lm H locs cells slots hl hP hS hN hZ
  refine lv_isub hx hb hd ?_
  exact k _ _ _ _ _ hl hP hS hN hZ

theorem ai_g_imul  (C : ai_Cx p s m args meth c R D cA y) (hd : decode (ai_b y) pc = .ok (.imul, w)) (hop : ai_op X y pc w (.imul) ls st h = some (.inl (pc', ls', st', h'))) (k : ai_K p l e R s m args below meth c Q bs B N0 S0 D cA y pc' ls' st' h') : ai_K p l e R s m args below meth c Q bs B N0 S0 D cA y pc ls st h := by
  obtain ⟨hx, hb, hml, hown, hts, hK, hni, hfr, hlo⟩ := C
  obtain ⟨a, b, r, rfl, h1⟩ := ai_i2_s hop
  obtain ⟨rfl, e9⟩ := ai_nx_s h1
  cases e9
  intro lm H locs cells slots hl hP hS hN hZ
  refine lv_imul hx hb hd ?_
  exact k _ _ _ _ _ hl hP hS hN hZ

theorem ai_g_iand  (C : ai_Cx p s m args meth c R D cA y) (hd : decode (ai_b y) pc = .ok (.iand, w)) (hop : ai_op X y pc w (.iand) ls st h = some (.inl (pc', ls', st', h'))) (k : ai_K p l e R s m args below meth c Q bs B N0 S0 D cA y pc' ls' st' h') : ai_K p l e R s m args below meth c Q bs B N0 S0 D cA y pc ls st h := by
  obtain ⟨hx, hb, hml, hown, hts, hK, hni, hfr, hlo⟩ := C
  obtain ⟨a, b, r, rfl, h1⟩ := ai_i2_s hop
  obtain ⟨rfl, e9⟩ := ai_nx_s h1
  cases e9
  intro lm H locs cells slots hl hP hS hN hZ
  refine lv_iand hx hb hd ?_
  exact k _ _ _ _ _ hl hP hS hN hZ

theorem ai_g_ishl  (C : ai_Cx p s m args meth c R D cA y) (hd : decode (ai_b y) pc = .ok (.ishl, w)) (hop : ai_op X y pc w (.ishl) ls st h = some (.inl (pc', ls', st', h'))) (k : ai_K p l e R s m args below meth c Q bs B N0 S0 D cA y pc' ls' st' h') : ai_K p l e R s m args below meth c Q bs B N0 S0 D cA y pc ls st h := by
  obtain ⟨hx, hb, hml, hown, hts, hK, hni, hfr, hlo⟩ := C
  obtain ⟨a, b, r, rfl, h1⟩ := ai_i2_s hop
  obtain ⟨rfl, e9⟩ := ai_nx_s h1
  cases e9
  intro lm H locs cells slots hl hP hS hN hZ
  refine lv_ishl hx hb hd ?_
  exact k _ _ _ _ _ hl hP hS hN hZ

theorem ai_g_ishr  (C : ai_Cx p s m args meth c R D cA y) (hd : decode (ai_b y) pc = .ok (.ishr, w)) (hop : ai_op X y pc w (.ishr) ls st h = some (.inl (pc', ls', st', h'))) (k : ai_K p l e R s m args below meth c Q bs B N0 S0 D cA y pc' ls' st' h') : ai_K p l e R s m args below meth c Q bs B N0 S0 D cA y pc ls st h := by
  obtain ⟨hx, hb, hml, hown, hts, hK, hni, hfr, hlo⟩ := C
  obtain ⟨a, b, r, rfl, h1⟩ := ai_i2_s hop
  obtain ⟨rfl, e9⟩ := ai_nx_s h1
  cases e9
  intro lm H locs cells slots hl hP hS hN hZ
  refine lv_ishr hx hb hd ?_
  exact k _ _ _ _ _ hl hP hS hN hZ

theorem ai_g_idiv  (C : ai_Cx p s m args meth c R D cA y) (hd : decode (ai_b y) pc = .ok (.idiv, w)) (hop : ai_op X y pc w (.idiv) ls st h = some (.inl (pc', ls', st', h'))) (k : ai_K p l e R s m args below meth c Q bs B N0 S0 D cA y pc' ls' st' h') : ai_K p l e R s m args below meth c Q bs B N0 S0 D cA y pc ls st h := by
  obtain ⟨hx, hb, hml, hown, hts, hK, hni, hfr, hlo⟩ := C
  obtain ⟨a, b, r, rfl, h1⟩ := ai_i2_s hop
  obtain ⟨hne, h2⟩ := ai_if_s h1
  obtain ⟨rfl, e9⟩ := ai_nx_s h2
  cases e9
  intro lm H locs cells slots hl hP hS hN hZ
  refine lv_idiv hx hb hd hne ?_
  exact k _ _ _ _ _ hl hP hS hN hZ

theorem ai_g_irem  (C : ai_Cx p s m args meth c R D cA y) (hd : decode (ai_b y) pc = .ok (.irem, w)) (hop : ai_op X y pc w (.irem) ls st h = some (.inl (pc', ls', st', h'))) (k : ai_K p l e R s m args below meth c Q bs B N0 S0 D cA y pc' ls' st' h') : ai_K p l e R s m args below meth c Q bs B N0 S0 D cA y pc ls st h := by
  obtain ⟨hx, hb, hml, hown, hts, hK, hni, hfr, hlo⟩ := C
  obtain ⟨a, b, r, rfl, h1⟩ := ai_i2_s hop
  obtain ⟨hne, h2⟩ := ai_if_s h1
  obtain ⟨rfl, e9⟩ := ai_nx_s h2
  cases e9
  intro lm H locs cells slots hl hP hS hN hZ
  refine lv_irem hx hb hd hne ?_
  exact k _ _ _ _ _ hl hP hS hN hZ

theorem ai_g_ladd  (C : ai_Cx p s m args meth c R D cA y) (hd : decode (ai_b y) pc = .ok (.ladd, w)) (hop : ai_op X y pc w (.ladd) ls st h = some (.inl (pc', ls', st', h'))) (k : ai_K p l e R s m args below meth c Q bs B N0 S0 D cA y pc' ls' st' h') : ai_K p l e R s m args below meth c Q bs B N0 S0 D cA y pc ls st h := by
  obtain ⟨hx, hb, hml, hown, hts, hK, hni, hfr, hlo⟩ := C
  obtain ⟨a, b, r, rfl, h1⟩ := ai_l2_s hop
  obtain ⟨rfl, e9⟩ := ai_nx_s h1
  cases e9
  intro lm H locs cells slots hl hP hS hN hZ
  refine lv_ladd hx hb hd ?_
  exact k _ _ _ _ _ hl hP hS hN hZ

theorem ai_g_lmul  (C : ai_Cx p s m args meth c R D cA y) (hd : decode (ai_b y) pc = .ok (.lmul, w)) (hop : ai_op X y pc w (.lmul) ls st h = some (.inl (pc', ls', st', h'))) (k : ai_K p l e R s m args below meth c Q bs B N0 S0 D cA y pc' ls' st' h') : ai_K p l e R s m args below meth c Q bs B N0 S0 D cA y pc ls st h := by
  obtain ⟨hx, hb, hml, hown, hts, hK, hni, hfr, hlo⟩ := C
  obtain ⟨a, b, r, rfl, h1⟩ := ai_l2_s hop
  obtain ⟨rfl, e9⟩ := ai_nx_s h1
  cases e9
  intro lm H locs cells slots hl hP hS hN hZ
  refine lv_lmul hx hb hd ?_
  exact k _ _ _ _ _ hl hP hS hN hZ

theorem ai_g_land  (C : ai_Cx p s m args meth c R D cA y) (hd : decode (ai_b y) pc = .ok (.land, w)) (hop : ai_op X y pc w (.land) ls st h = some (.inl (pc', ls', st', h'))) (k : ai_K p l e R s m args below meth c Q bs B N0 S0 D cA y pc' ls' st' h') : ai_K p l e R s m args below meth c Q bs B N0 S0 D cA y pc ls st h := by
  obtain ⟨hx, hb, hml, hown, hts, hK, hni, hfr, hlo⟩ := C
  obtain ⟨a, b, r, rfl, h1⟩ := ai_l2_s hop
  obtain ⟨rfl, e9⟩ := ai_nx_s h1
  cases e9
  intro lm H locs cells slots hl hP hS hN hZ
  refine lv_land hx hb hd ?_
  exact k _ _ _ _ _ hl hP hS hN hZ

theorem ai_g_lor  (C : ai_Cx p s m args meth c R D cA y) (hd : decode (ai_b y) pc = .ok (.lor, w)) (hop : ai_op X y pc w (.lor) ls st h = some (.inl (pc', ls', st', h'))) (k : ai_K p l e R s m args below meth c Q bs B N0 S0 D cA y pc' ls' st' h') : ai_K p l e R s m args below meth c Q bs B N0 S0 D cA y pc ls st h := by
  obtain ⟨hx, hb, hml, hown, hts, hK, hni, hfr, hlo⟩ := C
  obtain ⟨a, b, r, rfl, h1⟩ := ai_l2_s hop
  obtain ⟨rfl, e9⟩ := ai_nx_s h1
  cases e9
  intro lm H locs cells slots hl hP hS hN hZ
  refine lv_lor hx hb hd ?_
  exact k _ _ _ _ _ hl hP hS hN hZ

theorem ai_g_lcmp  (C : ai_Cx p s m args meth c R D cA y) (hd : decode (ai_b y) pc = .ok (.lcmp, w)) (hop : ai_op X y pc w (.lcmp) ls st h = some (.inl (pc', ls', st', h'))) (k : ai_K p l e R s m args below meth c Q bs B N0 S0 D cA y pc' ls' st' h') : ai_K p l e R s m args below meth c Q bs B N0 S0 D cA y pc ls st h := by
  obtain ⟨hx, hb, hml, hown, hts, hK, hni, hfr, hlo⟩ := C
  obtain ⟨a, b, r, rfl, h1⟩ := ai_l2_s hop
  obtain ⟨rfl, e9⟩ := ai_nx_s h1
  cases e9
  intro lm H locs cells slots hl hP hS hN hZ
  refine W.lcmp hx hb hd ?_
  exact k _ _ _ _ _ hl hP hS hN hZ

theorem ai_g_ineg  (C : ai_Cx p s m args meth c R D cA y) (hd : decode (ai_b y) pc = .ok (.ineg, w)) (hop : ai_op X y pc w (.ineg) ls st h = some (.inl (pc', ls', st', h'))) (k : ai_K p l e R s m args below meth c Q bs B N0 S0 D cA y pc' ls' st' h') : ai_K p l e R s m args below meth c Q bs B N0 S0 D cA y pc ls st h := by
  obtain ⟨hx, hb, hml, hown, hts, hK, hni, hfr, hlo⟩ := C
  obtain ⟨a, r, rfl, h1⟩ := ai_i1_s hop
  obtain ⟨rfl, e9⟩ := ai_nx_s h1
  cases e9
  intro lm H locs cells slots hl hP hS hN hZ
  refine lv_ineg hx hb hd ?_
  exact k _ _ _ _ _ hl hP hS hN hZ

theorem ai_g_i2l  (C : ai_Cx p s m args meth c R D cA y) (hd : decode (ai_b y) pc = .ok (.i2l, w)) (hop : ai_op X y pc w (.i2l) ls st h = some (.inl (pc', ls', st', h'))) (k : ai_K p l e R s m args below meth c Q bs B N0 S0 D cA y pc' ls' st' h') : ai_K p l e R s m args below meth c Q bs B N0 S0 D cA y pc ls st h := by
  obtain ⟨hx, hb, hml, hown, hts, hK, hni, hfr, hlo⟩ := C
  obtain ⟨a, r, rfl, h1⟩ := ai_i1_s hop
  obtain ⟨rfl, e9⟩ := ai_nx_s h1
  cases e9
  intro lm H locs cells slots hl hP hS hN hZ
  refine lv_i2l hx hb hd rfl ?_
  exact k _ _ _ _ _ hl hP hS hN hZ

theorem ai_g_i2b  (C : ai_Cx p s m args meth c R D cA y) (hd : decode (ai_b y) pc = .ok (.i2b, w)) (hop : ai_op X y pc w (.i2b) ls st h = some (.inl (pc', ls', st', h'))) (k : ai_K p l e R s m args below meth c Q bs B N0 S0 D cA y pc' ls' st' h') : ai_K p l e R s m args below meth c Q bs B N0 S0 D cA y pc ls st h := by
  obtain ⟨hx, hb, hml, hown, hts, hK, hni, hfr, hlo⟩ := C
  obtain ⟨a, r, rfl, h1⟩ := ai_i1_s hop
  obtain ⟨rfl, e9⟩ := ai_nx_s h1
  cases e9
  intro lm H locs cells slots hl hP hS hN hZ
  refine lv_i2b hx hb hd rfl ?_
  exact k _ _ _ _ _ hl hP hS hN hZ

theorem ai_g_i2s  (C : ai_Cx p s m args meth c R D cA y) (hd : decode (ai_b y) pc = .ok (.i2s, w)) (hop : ai_op X y pc w (.i2s) ls st h = some (.inl (pc', ls', st', h'))) (k : ai_K p l e R s m args below meth c Q bs B N0 S0 D cA y pc' ls' st' h') : ai_K p l e R s m args below meth c Q bs B N0 S0 D cA y pc ls st h := by
  obtain ⟨hx, hb, hml, hown, hts, hK, hni, hfr, hlo⟩ := C
  obtain ⟨a, r, rfl, h1⟩ := ai_i1_s hop
  obtain ⟨rfl, e9⟩ := ai_nx_s h1
  cases e9
  intro lm H locs cells slots hl hP hS hN hZ
  refine lv_i2s hx hb hd rfl ?_
  exact k _ _ _ _ _ hl hP hS hN hZ

theorem ai_g_l2i  (C : ai_Cx p s m args meth c R D cA y) (hd : decode (ai_b y) pc = .ok (.l2i, w)) (hop : ai_op X y pc w (.l2i) ls st h = some (.inl (pc', ls', st', h'))) (k : ai_K p l e R s m args below meth c Q bs B N0 S0 D cA y pc' ls' st' h') : ai_K p l e R s m args below meth c Q bs B N0 S0 D cA y pc ls st h := by
  obtain ⟨hx, hb, hml, hown, hts, hK, hni, hfr, hlo⟩ := C
  obtain ⟨a, r, rfl, h1⟩ := ai_l1_s hop
  obtain ⟨rfl, e9⟩ := ai_nx_s h1
  cases e9
  intro lm H locs cells slots hl hP hS hN hZ
  refine lv_l2i hx hb hd rfl ?_
  exact k _ _ _ _ _ hl hP hS hN hZ

theorem ai_g_lshl  (C : ai_Cx p s m args meth c R D cA y) (hd : decode (ai_b y) pc = .ok (.lshl, w)) (hop : ai_op X y pc w (.lshl) ls st h = some (.inl (pc', ls', st', h'))) (k : ai_K p l e R s m args below meth c Q bs B N0 S0 D cA y pc' ls' st' h') : ai_K p l e R s m args below meth c Q bs B N0 S0 D cA y pc ls st h := by
  obtain ⟨hx, hb, hml, hown, hts, hK, hni, hfr, hlo⟩ := C
  obtain ⟨b, r1, rfl, h1⟩ := ai_i1_s hop
  obtain ⟨a, r, rfl, h2⟩ := ai_l1_s h1
  obtain ⟨rfl, e9⟩ := ai_nx_s h2
  cases e9
  intro lm H locs cells slots hl hP hS hN hZ
  refine lv_lshl hx hb hd rfl ?_
  exact k _ _ _ _ _ hl hP hS hN hZ

theorem ai_g_lshr  (C : ai_Cx p s m args meth c R D cA y) (hd : decode (ai_b y) pc = .ok (.lshr, w)) (hop : ai_op X y pc w (.lshr) ls st h = some (.inl (pc', ls', st', h'))) (k : ai_K p l e R s m args below meth c Q bs B N0 S0 D cA y pc' ls' st' h') : ai_K p l e R s m args below meth c Q bs B N0 S0 D cA y pc ls st h := by
  obtain ⟨hx, hb, hml, hown, hts, hK, hni, hfr, hlo⟩ := C
  obtain ⟨b, r1, rfl, h1⟩ := ai_i1_s hop
  obtain ⟨a, r, rfl, h2⟩ := ai_l1_s h1
  obtain ⟨rfl, e9⟩ := ai_nx_s h2
  cases e9
  intro lm H locs cells slots hl hP hS hN hZ
  refine lv_lshr hx hb hd rfl ?_
  exact k _ _ _ _ _ hl hP hS hN hZ

theorem ai_g_lushr  (C : ai_Cx p s m args meth c R D cA y) (hd : decode (ai_b y) pc = .ok (.lushr, w)) (hop : ai_op X y pc w (.lushr) ls st h = some (.inl (pc', ls', st', h'))) (k : ai_K p l e R s m args below meth c Q bs B N0 S0 D cA y pc' ls' st' h') : ai_K p l e R s m args below meth c Q bs B N0 S0 D cA y pc ls st h := by
  obtain ⟨hx, hb, hml, hown, hts, hK, hni, hfr, hlo⟩ := C
  obtain ⟨b, r1, rfl, h1⟩ := ai_i1_s hop
  obtain ⟨a, r, rfl, h2⟩ := ai_l1_s h1
  obtain ⟨rfl, e9⟩ := ai_nx_s h2
  cases e9
  intro lm H locs cells slots hl hP hS hN hZ
  refine lv_lushr hx hb hd rfl ?_
  exact k _ _ _ _ _ hl hP hS hN hZ

theorem ai_g_iinc {n : Nat} {v : Int} (C : ai_Cx p s m args meth c R D cA y) (hd : decode (ai_b y) pc = .ok (.iinc n v, w)) (hop : ai_op X y pc w (.iinc n v) ls st h = some (.inl (pc', ls', st', h'))) (k : ai_K p l e R s m args below meth c Q bs B N0 S0 D cA y pc' ls' st' h') : ai_K p l e R s m args below meth c Q bs B N0 S0 D cA y pc ls st h := by
  obtain ⟨hx, hb, hml, hown, hts, hK, hni, hfr, hlo⟩ := C
  obtain ⟨x, hx1, h1⟩ := ai_ldi_s hop
  obtain ⟨hlt, h2⟩ := ai_if_s h1
  obtain ⟨rfl, e9⟩ := ai_nx_s h2
  cases e9
  intro lm H locs cells slots hl hP hS hN hZ
  obtain ⟨j, hj⟩ := List.getElem?_of_mem (ai_lv_mem (bs := bs) (B := B) hx1)
  refine lv_iinc (lv := ai_lv bs B ls) (nL := ai_mx y) hx hb hd hl.has hj rfl (by rw [← hl.1]; exact hlt) rfl (fun lm' h9 => ?_)
  exact k _ _ _ _ _ (hl.s1 (v := .int (x + Int32.ofInt v)) h9) hP hS hN hZ

theorem ai_g_dup  (C : ai_Cx p s m args meth c R D cA y) (hd : decode (ai_b y) pc = .ok (.dup, w)) (hop : ai_op X y pc w (.dup) ls st h = some (.inl (pc', ls', st', h'))) (k : ai_K p l e R s m args below meth c Q bs B N0 S0 D cA y pc' ls' st' h') : ai_K p l e R s m args below meth c Q bs B N0 S0 D cA y pc ls st h := by
  obtain ⟨hx, hb, hml, hown, hts, hK, hni, hfr, hlo⟩ := C
  match st, hop with
  | v :: r, hop =>
    obtain ⟨hc, h1⟩ := ai_if_s hop
    obtain ⟨rfl, e9⟩ := ai_nx_s h1
    cases e9
    intro lm H locs cells slots hl hP hS hN hZ
    refine lv_dup hx hb hd (by rw [ai_rl_cat]; exact hc) ?_
    exact k _ _ _ _ _ hl hP hS hN hZ

theorem ai_g_pop  (C : ai_Cx p s m args meth c R D cA y) (hd : decode (ai_b y) pc = .ok (.pop, w)) (hop : ai_op X y pc w (.pop) ls st h = some (.inl (pc', ls', st', h'))) (k : ai_K p l e R s m args below meth c Q bs B N0 S0 D cA y pc' ls' st' h') : ai_K p l e R s m args below meth c Q bs B N0 S0 D cA y pc ls st h := by
  obtain ⟨hx, hb, hml, hown, hts, hK, hni, hfr, hlo⟩ := C
  match st, hop with
  | v :: r, hop =>
    obtain ⟨hc, h1⟩ := ai_if_s hop
    obtain ⟨rfl, e9⟩ := ai_nx_s h1
    cases e9
    intro lm H locs cells slots hl hP hS hN hZ
    refine lv_pop hx hb hd (by rw [ai_rl_cat]; exact hc) ?_
    exact k _ _ _ _ _ hl hP hS hN hZ

theorem ai_g_dup2  (C : ai_Cx p s m args meth c R D cA y) (hd : decode (ai_b y) pc = .ok (.dup2, w)) (hop : ai_op X y pc w (.dup2) ls st h = some (.inl (pc', ls', st', h'))) (k : ai_K p l e R s m args below meth c Q bs B N0 S0 D cA y pc' ls' st' h') : ai_K p l e R s m args below meth c Q bs B N0 S0 D cA y pc ls st h := by
  obtain ⟨hx, hb, hml, hown, hts, hK, hni, hfr, hlo⟩ := C
  match st, hop with
  | v :: u :: r, hop =>
    obtain ⟨hc, h1⟩ := ai_if_s hop
    obtain ⟨rfl, e9⟩ := ai_nx_s h1
    cases e9
    intro lm H locs cells slots hl hP hS hN hZ
    refine lv_dup2_11 hx hb hd (by rw [ai_rl_cat]; exact hc.1) (by rw [ai_rl_cat]; exact hc.2) ?_
    exact k _ _ _ _ _ hl hP hS hN hZ

theorem ai_g_if_eq {off : Int} (C : ai_Cx p s m args meth c R D cA y) (hd : decode (ai_b y) pc = .ok (.ifCond .eq off, w)) (hop : ai_op X y pc w (.ifCond .eq off) ls st h = some (.inl (pc', ls', st', h'))) (k : ai_K p l e R s m args below meth c Q bs B N0 S0 D cA y pc' ls' st' h') : ai_K p l e R s m args below meth c Q bs B N0 S0 D cA y pc ls st h := by
  obtain ⟨hx, hb, hml, hown, hts, hK, hni, hfr, hlo⟩ := C
  obtain ⟨a, r, rfl, h0⟩ := ai_i1_s hop
  obtain ⟨hge, h1⟩ := ai_if_s h0
  intro lm H locs cells slots hl hP hS hN hZ
  by_cases hc : ai_cond .eq a 0 = true
  · rw [if_pos hc] at h1
    obtain ⟨rfl, ht, e9⟩ := ai_br_s h1
    cases e9
    exact lv_if_eq hx hb hd ht (fun _ => k _ _ _ _ _ hl hP hS hN hZ) (fun hn => absurd (by simpa [ai_cond] using hc) hn)
  · rw [if_neg hc] at h1
    obtain ⟨rfl, e9⟩ := ai_nx_s h1
    cases e9
    exact lv_if_eq (tgt := ((pc : Int) + off).toNat) hx hb hd (Int.toNat_of_nonneg hge).symm (fun hn => absurd (by simpa [ai_cond] using hn) hc) (fun _ => k _ _ _ _ _ hl hP hS hN hZ)

theorem ai_g_if_ne {off : Int} (C : ai_Cx p s m args meth c R D cA y) (hd : decode (ai_b y) pc = .ok (.ifCond .ne off, w)) (hop : ai_op X y pc w (.ifCond .ne off) ls st h = some (.inl (pc', ls', st', h'))) (k : ai_K p l e R s m args below meth c Q bs B N0 S0 D cA y pc' ls' st' h') : ai_K p l e R s m args below meth c Q bs B N0 S0 D cA y pc ls st h := by
  obtain ⟨hx, hb, hml, hown, hts, hK, hni, hfr, hlo⟩ := C
  obtain ⟨a, r, rfl, h0⟩ := ai_i1_s hop
  obtain ⟨hge, h1⟩ := ai_if_s h0
  intro lm H locs cells slots hl hP hS hN hZ
  by_cases hc : ai_cond .ne a 0 = true
  · rw [if_pos hc] at h1
    obtain ⟨rfl, ht, e9⟩ := ai_br_s h1
    cases e9
    exact lv_if_ne hx hb hd ht (fun _ => k _ _ _ _ _ hl hP hS hN hZ) (fun hn => absurd hn (by simpa [ai_cond] using hc))
  · rw [if_neg hc] at h1
    obtain ⟨rfl, e9⟩ := ai_nx_s h1
    cases e9
    exact lv_if_ne (tgt := ((pc : Int) + off).toNat) hx hb hd (Int.toNat_of_nonneg hge).symm (fun hn => absurd (by simpa [ai_cond] using hn) hc) (fun _ => k _ _ _ _ _ hl hP hS hN hZ)

theorem ai_g_if_lt {off : Int} (C : ai_Cx p s m args meth c R D cA y) (hd : decode (ai_b y) pc = .ok (.ifCond .lt off, w)) (hop : ai_op X y pc w (.ifCond .lt off) ls st h = some (.inl (pc', ls', st', h'))) (k : ai_K p l e R s m args below meth c Q bs B N0 S0 D cA y pc' ls' st' h') : ai_K p l e R s m args below meth c Q bs B N0 S0 D cA y pc ls st h := by
  obtain ⟨hx, hb, hml, hown, hts, hK, hni, hfr, hlo⟩ := C
  obtain ⟨a, r, rfl, h0⟩ := ai_i1_s hop
  obtain ⟨hge, h1⟩ := ai_if_s h0
  intro lm H locs cells slots hl hP hS hN hZ
  by_cases hc : ai_cond .lt a 0 = true
  · rw [if_pos hc] at h1
    obtain ⟨rfl, ht, e9⟩ := ai_br_s h1
    cases e9
    exact lv_if_lt hx hb hd ht (fun _ => k _ _ _ _ _ hl hP hS hN hZ) (fun hn => absurd (by simpa [ai_cond] using hc) hn)
  · rw [if_neg hc] at h1
    obtain ⟨rfl, e9⟩ := ai_nx_s h1
    cases e9
    exact lv_if_lt (tgt := ((pc : Int) + off).toNat) hx hb hd (Int.toNat_of_nonneg hge).symm (fun hn => absurd (by simpa [ai_cond] using hn) hc) (fun _ => k _ _ _ _ _ hl hP hS hN hZ)

theorem ai_g_if_ge {off : Int} (C : ai_Cx p s m args meth c R D cA y) (hd : decode (ai_b y) pc = .ok (.ifCond .ge off, w)) (hop : ai_op X y pc w (.ifCond .ge off) ls st h = some (.inl (pc', ls', st', h'))) (k : ai_K p l e R s m args below meth c Q bs B N0 S0 D cA y pc' ls' st' h') : ai_K p l e R s m args below meth c Q bs B N0 S0 D cA y pc ls st h := by
  obtain ⟨hx, hb, hml, hown, hts, hK, hni, hfr, hlo⟩ := C
  obtain ⟨a, r, rfl, h0⟩ := ai_i1_s hop
  obtain ⟨hge, h1⟩ := ai_if_s h0
  intro lm H locs cells slots hl hP hS hN hZ
  by_cases hc : ai_cond .ge a 0 = true
  · rw [if_pos hc] at h1
    obtain ⟨rfl, ht, e9⟩ := ai_br_s h1
    cases e9
    exact lv_if_ge hx hb hd ht (fun _ => k _ _ _ _ _ hl hP hS hN hZ) (fun hn => absurd (by simpa [ai_cond] using hc) hn)
  · rw [if_neg hc] at h1
    obtain ⟨rfl, e9⟩ := ai_nx_s h1
    cases e9
    exact lv_if_ge (tgt := ((pc : Int) + off).toNat) hx hb hd (Int.toNat_of_nonneg hge).symm (fun hn => absurd (by simpa [ai_cond] using hn) hc) (fun _ => k _ _ _ _ _ hl hP hS hN hZ)

theorem ai_g_if_gt {off : Int} (C : ai_Cx p s m args meth c R D cA y) (hd : decode (ai_b y) pc = .ok (.ifCond .gt off, w)) (hop : ai_op X y pc w (.ifCond .gt off) ls st h = some (.inl (pc', ls', st', h'))) (k : ai_K p l e R s m args below meth c Q bs B N0 S0 D cA y pc' ls' st' h') : ai_K p l e R s m args below meth c Q bs B N0 S0 D cA y pc ls st h := by
  obtain ⟨hx, hb, hml, hown, hts, hK, hni, hfr, hlo⟩ := C
  obtain ⟨a, r, rfl, h0⟩ := ai_i1_s hop
  obtain ⟨hge, h1⟩ := ai_if_s h0
  intro lm H locs cells slots hl hP hS hN hZ
  by_cases hc : ai_cond .gt a 0 = true
  · rw [if_pos hc] at h1
    obtain ⟨rfl, ht, e9⟩ := ai_br_s h1
    cases e9
    exact lv_if_gt hx hb hd ht (fun _ => k _ _ _ _ _ hl hP hS hN hZ) (fun hn => absurd (by simpa [ai_cond] using hc) hn)
  · rw [if_neg hc] at h1
    obtain ⟨rfl, e9⟩ := ai_nx_s h1
    cases e9
    exact lv_if_gt (tgt := ((pc : Int) + off).toNat) hx hb hd (Int.toNat_of_nonneg hge).symm (fun hn => absurd (by simpa [ai_cond] using hn) hc) (fun _ => k _ _ _ _ _ hl hP hS hN hZ)

theorem ai_g_if_le {off : Int} (C : ai_Cx p s m args meth c R D cA y) (hd : decode (ai_b y) pc = .ok (.ifCond .le off, w)) (hop : ai_op X y pc w (.ifCond .le off) ls st h = some (.inl (pc', ls', st', h'))) (k : ai_K p l e R s m args below meth c Q bs B N0 S0 D cA y pc' ls' st' h') : ai_K p l e R s m args below meth c Q bs B N0 S0 D cA y pc ls st h := by
  obtain ⟨hx, hb, hml, hown, hts, hK, hni, hfr, hlo⟩ := C
  obtain ⟨a, r, rfl, h0⟩ := ai_i1_s hop
  obtain ⟨hge, h1⟩ := ai_if_s h0
  intro lm H locs cells slots hl hP hS hN hZ
  by_cases hc : ai_cond .le a 0 = true
  · rw [if_pos hc] at h1
    obtain ⟨rfl, ht, e9⟩ := ai_br_s h1
    cases e9
    exact lv_if_le hx hb hd ht (fun _ => k _ _ _ _ _ hl hP hS hN hZ) (fun hn => absurd (by simpa [ai_cond] using hc) hn)
  · rw [if_neg hc] at h1
    obtain ⟨rfl, e9⟩ := ai_nx_s h1
    cases e9
    exact lv_if_le (tgt := ((pc : Int) + off).toNat) hx hb hd (Int.toNat_of_nonneg hge).symm (fun hn => absurd (by simpa [ai_cond] using hn) hc) (fun _ => k _ _ _ _ _ hl hP hS hN hZ)

theorem ai_g_icmp_eq {off : Int} (C : ai_Cx p s m args meth c R D cA y) (hd : decode (ai_b y) pc = .ok (.if_icmp .eq off, w)) (hop : ai_op X y pc w (.if_icmp .eq off) ls st h = some (.inl (pc', ls', st', h'))) (k : ai_K p l e R s m args below meth c Q bs B N0 S0 D cA y pc' ls' st' h') : ai_K p l e R s m args below meth c Q bs B N0 S0 D cA y pc ls st h := by
  obtain ⟨hx, hb, hml, hown, hts, hK, hni, hfr, hlo⟩ := C
  obtain ⟨a, b, r, rfl, h0⟩ := ai_i2_s hop
  obtain ⟨hge, h1⟩ := ai_if_s h0
  intro lm H locs cells slots hl hP hS hN hZ
  by_cases hc : ai_cond .eq a b = true
  · rw [if_pos hc] at h1
    obtain ⟨rfl, ht, e9⟩ := ai_br_s h1
    cases e9
    exact lv_icmp_eq hx hb hd ht (fun _ => k _ _ _ _ _ hl hP hS hN hZ) (fun hn => absurd (by simpa [ai_cond] using hc) hn)
  · rw [if_neg hc] at h1
    obtain ⟨rfl, e9⟩ := ai_nx_s h1
    cases e9
    exact lv_icmp_eq (tgt := ((pc : Int) + off).toNat) hx hb hd (Int.toNat_of_nonneg hge).symm (fun hn => absurd (by simpa [ai_cond] using hn) hc) (fun _ => k _ _ _ _ _ hl hP hS hN hZ)

theorem ai_g_icmp_ne {off : Int} (C : ai_Cx p s m args meth c R D cA y) (hd : decode (ai_b y) pc = .ok (.if_icmp .ne off, w)) (hop : ai_op X y pc w (.if_icmp .ne off) ls st h = some (.inl (pc', ls', st', h'))) (k : ai_K p l e R s m args below meth c Q bs B N0 S0 D cA y pc' ls' st' h') : ai_K p l e R s m args below meth c Q bs B N0 S0 D cA y pc ls st h := by
  obtain ⟨hx, hb, hml, hown, hts, hK, hni, hfr, hlo⟩ := C
  obtain ⟨a, b, r, rfl, h0⟩ := ai_i2_s hop
  obtain ⟨hge, h1⟩ := ai_if_s h0
  intro lm H locs cells slots hl hP hS hN hZ
  by_cases hc : ai_cond .ne a b = true
  · rw [if_pos hc] at h1
    obtain ⟨rfl, ht, e9⟩ := ai_br_s h1
    cases e9
    exact lv_icmp_ne hx hb hd ht (fun _ => k _ _ _ _ _ hl hP hS hN hZ) (fun hn => absurd hn (by simpa [ai_cond] using hc))
  · rw [if_neg hc] at h1
    obtain ⟨rfl, e9⟩ := ai_nx_s h1
    cases e9
    exact lv_icmp_ne (tgt := ((pc : Int) + off).toNat) hx hb hd (Int.toNat_of_nonneg hge).symm (fun hn => absurd (by simpa [ai_cond] using hn) hc) (fun _ => k _ _ _ _ _ hl hP hS hN hZ)

theorem ai_g_icmp_lt {off : Int} (C : ai_Cx p s m args meth c R D cA y) (hd : decode (ai_b y) pc = .ok (.if_icmp .lt off, w)) (hop : ai_op X y pc w (.if_icmp .lt off) ls st h = some (.inl (pc', ls', st', h'))) (k : ai_K p l e R s m args below meth c Q bs B N0 S0 D cA y pc' ls' st' h') : ai_K p l e R s m args below meth c Q bs B N0 S0 D cA y pc ls st h := by
  obtain ⟨hx, hb, hml, hown, hts, hK, hni, hfr, hlo⟩ := C
  obtain ⟨a, b, r, rfl, h0⟩ := ai_i2_s hop
  obtain ⟨hge, h1⟩ := ai_if_s h0
  intro lm H locs cells slots hl hP hS hN hZ
  by_cases hc : ai_cond .lt a b = true
  · rw [if_pos hc] at h1
    obtain ⟨rfl, ht, e9⟩ := ai_br_s h1
    cases e9
    exact lv_icmp_lt hx hb hd ht (fun _ => k _ _ _ _ _ hl hP hS hN hZ) (fun hn => absurd (by simpa [ai_cond] using hc) hn)
  · rw [if_neg hc] at h1
    obtain ⟨rfl, e9⟩ := ai_nx_s h1
    cases e9
    exact lv_icmp_lt (tgt := ((pc : Int) + off).toNat) hx hb hd (Int.toNat_of_nonneg hge).symm (fun hn => absurd (by simpa [ai_cond] using hn) hc) (fun _ => k _ _ _ _ _ hl hP hS hN hZ)

theorem ai_g_icmp_ge {off : Int} (C : ai_Cx p s m args meth c R D cA y) (hd : decode (ai_b y) pc = .ok (.if_icmp .ge off, w)) (hop : ai_op X y pc w (.if_icmp .ge off) ls st h = some (.inl (pc', ls', st', h'))) (k : ai_K p l e R s m args below meth c Q bs B N0 S0 D cA y pc' ls' st' h') : ai_K p l e R s m args below meth c Q bs B N0 S0 D cA y pc ls st h := by
  obtain ⟨hx, hb, hml, hown, hts, hK, hni, hfr, hlo⟩ := C
  obtain ⟨a, b, r, rfl, h0⟩ := ai_i2_s hop
  obtain ⟨hge, h1⟩ := ai_if_s h0
  intro lm H locs cells slots hl hP hS hN hZ
  by_cases hc : ai_cond .ge a b = true
  · rw [if_pos hc] at h1
    obtain ⟨rfl, ht, e9⟩ := ai_br_s h1
    cases e9
    exact lv_icmp_ge hx hb hd ht (fun _ => k _ _ _ _ _ hl hP hS hN hZ) (fun hn => absurd (by simpa [ai_cond] using hc) hn)
  · rw [if_neg hc] at h1
    obtain ⟨rfl, e9⟩ := ai_nx_s h1
    cases e9
    exact lv_icmp_ge (tgt := ((pc : Int) + off).toNat) hx hb hd (Int.toNat_of_nonneg hge).symm (fun hn => absurd (by simpa [ai_cond] using hn) hc) (fun _ => k _ _ _ _ _ hl hP hS hN hZ)

theorem ai_g_icmp_gt {off : Int} (C : ai_Cx p s m args meth c R D cA y) (hd : decode (ai_b y) pc = .ok (.if_icmp .gt off, w)) (hop : ai_op X y pc w (.if_icmp .gt off) ls st h = some (.inl (pc', ls', st', h'))) (k : ai_K p l e R s m args below meth c Q bs B N0 S0 D cA y pc' ls' st' h') : ai_K p l e R s m args below meth c Q bs B N0 S0 D cA y pc ls st h := by
  obtain ⟨hx, hb, hml, hown, hts, hK, hni, hfr, hlo⟩ := C
  obtain ⟨a, b, r, rfl, h0⟩ := ai_i2_s hop
  obtain ⟨hge, h1⟩ := ai_if_s h0
  intro lm H locs cells slots hl hP hS hN hZ
  by_cases hc : ai_cond .gt a b = true
  · rw [if_pos hc] at h1
    obtain ⟨rfl, ht, e9⟩ := ai_br_s h1
    cases e9
    exact lv_icmp_gt hx hb hd ht (fun _ => k _ _ _ _ _ hl hP hS hN hZ) (fun hn => absurd (by simpa [ai_cond] using hc) hn)
  · rw [if_neg hc] at h1
    obtain ⟨rfl, e9⟩ := ai_nx_s h1
    cases e9
    exact lv_icmp_gt (tgt := ((pc : Int) + off).toNat) hx hb hd (Int.toNat_of_nonneg hge).symm (fun hn => absurd (by simpa [ai_cond] using hn) hc) (fun _ => k _ _ _ _ _ hl hP hS hN hZ)

theorem ai_g_icmp_le {off : Int} (C : ai_Cx p s m args meth c R D cA y) (hd : decode (ai_b y) pc = .ok (.if_icmp .le off, w)) (hop : ai_op X y pc w (.if_icmp .le off) ls st h = some (.inl (pc', ls', st', h'))) (k : ai_K p l e R s m args below meth c Q bs B N0 S0 D cA y pc' ls' st' h') : ai_K p l e R s m args below meth c Q bs B N0 S0 D cA y pc ls st h := by
  obtain ⟨hx, hb, hml, hown, hts, hK, hni, hfr, hlo⟩ := C
  obtain ⟨a, b, r, rfl, h0⟩ := ai_i2_s hop
  obtain ⟨hge, h1⟩ := ai_if_s h0
  intro lm H locs cells slots hl hP hS hN hZ
  by_cases hc : ai_cond .le a b = true
  · rw [if_pos hc] at h1
    obtain ⟨rfl, ht, e9⟩ := ai_br_s h1
    cases e9
    exact lv_icmp_le hx hb hd ht (fun _ => k _ _ _ _ _ hl hP hS hN hZ) (fun hn => absurd (by simpa [ai_cond] using hc) hn)
  · rw [if_neg hc] at h1
    obtain ⟨rfl, e9⟩ := ai_nx_s h1
    cases e9
    exact lv_icmp_le (tgt := ((pc : Int) + off).toNat) hx hb hd (Int.toNat_of_nonneg hge).symm (fun hn => absurd (by simpa [ai_cond] using hn) hc) (fun _ => k _ _ _ _ _ hl hP hS hN hZ)

theorem ai_g_goto {off : Int} (C : ai_Cx p s m args meth c R D cA y) (hd : decode (ai_b y) pc = .ok (.goto off, w)) (hop : ai_op X y pc w (.goto off) ls st h = some (.inl (pc', ls', st', h'))) (k : ai_K p l e R s m args below meth c Q bs B N0 S0 D cA y pc' ls' st' h') : ai_K p l e R s m args below meth c Q bs B N0 S0 D cA y pc ls st h := by
  obtain ⟨hx, hb, hml, hown, hts, hK, hni, hfr, hlo⟩ := C
  obtain ⟨rfl, ht, e9⟩ := ai_br_s hop
  cases e9
  intro lm H locs cells slots hl hP hS hN hZ
  refine lv_goto hx hb hd ht ?_
  exact k _ _ _ _ _ hl hP hS hN hZ

theorem ai_g_tswitch {dflt lo hi : Int} {offs : Array Int} (C : ai_Cx p s m args meth c R D cA y) (hd : decode (ai_b y) pc = .ok (.tableswitch dflt lo hi offs, w)) (hop : ai_op X y pc w (.tableswitch dflt lo hi offs) ls st h = some (.inl (pc', ls', st', h'))) (k : ai_K p l e R s m args below meth c Q bs B N0 S0 D cA y pc' ls' st' h') : ai_K p l e R s m args below meth c Q bs B N0 S0 D cA y pc ls st h := by
  obtain ⟨hx, hb, hml, hown, hts, hK, hni, hfr, hlo⟩ := C
  obtain ⟨a, r, rfl, h1⟩ := ai_i1_s hop
  intro lm H locs cells slots hl hP hS hN hZ
  by_cases hc : a.toInt < lo ∨ hi < a.toInt
  · rw [if_pos hc] at h1
    obtain ⟨-, ht, e9⟩ := ai_br_s h1
    cases e9
    exact lv_tableOut hx hb hd hc ht (k _ _ _ _ _ hl hP hS hN hZ)
  · rw [if_neg hc] at h1
    obtain ⟨off, ho, h2⟩ := ai_o2_s h1
    obtain ⟨-, ht, e9⟩ := ai_br_s h2
    cases e9
    exact lv_tableIn hx hb hd (fun z => hc (Or.inl z)) (fun z => hc (Or.inr z)) ho ht (k _ _ _ _ _ hl hP hS hN hZ)

end AIG
