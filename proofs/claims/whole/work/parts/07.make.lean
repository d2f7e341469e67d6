section AIM
variable {p : Program} {l : Launch} {e : Env} {R : Room} {s : State} {m : MethodId} {args : Array Value} {below : List Frame} {meth : Method} {c : Code} {Q : State → Prop} {bs B N0 S0 : Nat} {D : va_G} {cA : Nat → ClassId} {y pc pc' w : Nat} {ls ls' : ai_L} {st st' : List Value} {h h' : ai_H} {X : Option (Nat × (Nat → Int32))}
theorem va_ra_nm {U : State} {c2 : ClassId} {ty : FieldType} (h : va_RA U c2 ty) : U.vm.findClass ("[" ++ ty.toString) = some c2 := by
  cases ty with
  | object C =>
    obtain ⟨kA, comp, h1, h2, h3, h4⟩ := h
    exact h4
  | _ => exact h
theorem ai_arr_cls {t : Nat} {c2 : ClassId} (ht : t < 9) (hK : va_K D ai_cl (ai_tys cA) s) (hK1 : va_K D ai_cl (ai_tys cA ++ [(c2, ai_at t)]) s) : c2 = cA t := by
  have h1 := va_ra_nm (hK.2 t _ (ai_tys_get ht)).2
  have h2 := va_ra_nm (hK1.2 9 (c2, ai_at t) (by rw [List.getElem?_append_right (by rw [ai_tys_len]; exact Nat.le_refl _), ai_tys_len]; rfl)).2
  exact (Option.some.inj (h1.symm.trans h2)).symm
theorem ai_ml_s {oc k : Nat} {t} (h : ai_ml oc k = some t) (ho : oc < 11) : t.1 = k ∧ (t.2.1 < 179 → ai_mw oc t ∈ ai_T) ∧ (179 ≤ t.2.1 → ai_mw2 oc t ∈ ai_T ∧ t.2.1 < 1004) := by
  unfold ai_ml at h
  have hm := List.mem_of_find?_eq_some h
  exact ⟨by simpa using List.find?_some h, fun q => ai_has_mem (ai_ml_in0 oc ho t hm q), fun q => ai_ml_in2 oc ho t hm q⟩

theorem ai_g_new {n : Nat} (C : ai_Cx p s m args meth c R D cA y) (hsz : s.heap.size = B + N0) (hN1 : 1 ≤ N0) (hN2 : N0 ≤ h.1.length) (hS2 : S0 ≤ ai_ss h.1) (hm : h.1.length ≤ h'.1.length ∧ ai_ss h.1 ≤ ai_ss h'.1) (hc1 : h'.1.length ≤ N0 + R.cells) (hc2 : ai_ss h'.1 ≤ S0 + R.slots) (hd : decode (ai_b y) pc = .ok (.new n, w)) (hop : ai_op X y pc w (.new n) ls st h = some (.inl (pc', ls', st', h'))) (k : ai_K p l e R s m args below meth c Q bs B N0 S0 D cA y pc' ls' st' h') : ai_K p l e R s m args below meth c Q bs B N0 S0 D cA y pc ls st h := by
  obtain ⟨hx, hb, hml, hown, hts, hK, hni, hfr, hlo⟩ := C
  obtain ⟨t, ht, h1⟩ := ai_o2_s hop
  obtain ⟨hoc, h2⟩ := ai_if_s h1
  obtain ⟨rfl, e9⟩ := ai_nx_s h2
  cases e9
  obtain ⟨ht1, hw, hci⟩ := ai_cn_s ht hoc
  subst ht1
  obtain ⟨hi1, hi2⟩ := ai_f_inst _ hci
  intro lm H locs cells slots hl hP hS hN hZ
  have hlen : (h.1 ++ [(t.2, 0)]).length = h.1.length + 1 := by simp
  have hss : ai_ss (h.1 ++ [(t.2, 0)]) = ai_ss h.1 + ai_N t.2 := by rw [ai_ss_app]; simp [ai_ss, show t.2 < 100 by omega]
  dsimp only at hc1 hc2
  rw [hlen] at hc1
  rw [hss] at hc2
  refine va_new (D := D) (ci := t.2) (fs := (List.range (ai_N t.2)).map fun k => if ai_fk t.2 k = 2 then .null else .int 0) (C := ai_R t.2) (T := ai_F t.2) (N := ai_N t.2) hx hb hts (ai_f_in _ hci) (ai_ty t.2) (ai_f_ty _ hci) hown (hts _ hw) (hts _ hi1) (hts _ hi2) hK hP ai_w_D hS (fun q hq => by show B < q; omega) (ai_cl_get hci) (fun j hj => by simp [vp_V, List.getD_eq_getElem?_getD, List.getElem?_map, List.getElem?_range hj, ai_dv _ hci _ hj]) (by omega) (by omega) hd (fun q H1 hP1 hD1 hS1 => ?_)
  intro T hT X1
  have hq0 := ai_new_at hP1 hD1 (by omega) (by have hh := X1.heapSize; rw [hT] at hh; omega)
  have had : ai_ad bs B h.1.length = B + h.1.length := ai_ad_ne (by omega)
  have hq : q = ai_ad bs B h.1.length := by rw [had]; exact hq0
  subst hq
  rw [ai_w_push (h' := (h.1 ++ [(t.2, 0)], ai_row h.2.1 h.1.length (fun _ => 0), h.2.2.1, ai_row h.2.2.2 h.1.length (fun _ => none))) (by omega) (by simp) had (by
    rw [ai_e_obj (s := (t.2, 0)) (by simp) (by dsimp only; omega)]
    dsimp only
    refine congrArg (fun z => Sum.inr (t.2, z)) (List.map_congr_left fun j _ => ?_)
    rw [ai_row_eq, ai_row_eq]
    rfl) (fun b hb9 => ai_e_same (by dsimp only; rw [List.getElem?_append_left hb9]) (ai_row_ne (by omega)) rfl (ai_row_ne (by omega)))] at hP1
  exact k _ _ _ _ _ hl hP1 hS1 (by dsimp only; rw [hlen]; omega) (by dsimp only; rw [hss]; omega) T hT X1

theorem ai_g_newarray {a : ArrayType} (C : ai_Cx p s m args meth c R D cA y) (hsz : s.heap.size = B + N0) (hN1 : 1 ≤ N0) (hN2 : N0 ≤ h.1.length) (hS2 : S0 ≤ ai_ss h.1) (hm : h.1.length ≤ h'.1.length ∧ ai_ss h.1 ≤ ai_ss h'.1) (hc1 : h'.1.length ≤ N0 + R.cells) (hc2 : ai_ss h'.1 ≤ S0 + R.slots) (hd : decode (ai_b y) pc = .ok (.newarray a, w)) (hop : ai_op X y pc w (.newarray a) ls st h = some (.inl (pc', ls', st', h'))) (k : ai_K p l e R s m args below meth c Q bs B N0 S0 D cA y pc' ls' st' h') : ai_K p l e R s m args below meth c Q bs B N0 S0 D cA y pc ls st h := by
  obtain ⟨hx, hb, hml, hown, hts, hK, hni, hfr, hlo⟩ := C
  obtain ⟨n, r, rfl, h1⟩ := ai_i1_s hop
  obtain ⟨hin1, hin2, hin3, hin4, -⟩ := ai_arr_in
  cases a
  · obtain ⟨⟨-, hn, hn2⟩, h2⟩ := ai_if_s h1
    obtain ⟨rfl, e9⟩ := ai_nx_s h2
    cases e9
    intro lm H locs cells slots hl hP hS hN hZ
    have hlen : (h.1 ++ [(102, n.toNatClampNeg)]).length = h.1.length + 1 := by simp
    have hss : ai_ss (h.1 ++ [(102, n.toNatClampNeg)]) = ai_ss h.1 + n.toNatClampNeg := by rw [ai_ss_app]; simp [ai_ss]
    dsimp only at hc1 hc2
    rw [hlen] at hc1
    rw [hss] at hc2
    refine va_newa (D := D) (atype := .boolean) (ty := .boolean) (a0 := (n.toNatClampNeg, .inl (fun _ => 0))) hx hb (hts _ hin3) rfl hK hP ai_w_D hS (fun q hq => by show B < q; omega) (fun _ => rfl) hn rfl (by show n.toNatClampNeg * 1 ≤ 536870912; omega) (by omega) (by omega) hd (fun q c2 H1 hK1 hP1 hD1 hS1 => ?_)
    have hc9 : c2 = cA 2 := ai_arr_cls (t := 2) (by omega) hK hK1
    subst hc9
    intro T hT X1
    have hq0 := ai_new_at hP1 hD1 (by omega) (by have hh := X1.heapSize; rw [hT] at hh; omega)
    have had : ai_ad bs B h.1.length = B + h.1.length := ai_ad_ne (by omega)
    have hq : q = ai_ad bs B h.1.length := by rw [had]; exact hq0
    subst hq
    rw [ai_w_push (h' := (h.1 ++ [(102, n.toNatClampNeg)], ai_row h.2.1 h.1.length (fun _ => 0), ai_row h.2.2.1 h.1.length (fun _ => 0), h.2.2.2)) (by omega) (by simp) had (by
      rw [ai_e_arr (s := (102, n.toNatClampNeg)) (by simp) (by dsimp only; omega)]
      dsimp only
      rw [if_pos (by decide), ai_row_eq]) (fun b hb9 => ai_e_same (by dsimp only; rw [List.getElem?_append_left hb9]) (ai_row_ne (by omega)) (ai_row_ne (by omega)) rfl)] at hP1
    exact k _ _ _ _ _ hl hP1 hS1 (by dsimp only; rw [hlen]; omega) (by dsimp only; rw [hss]; omega) T hT X1
  · obtain ⟨⟨hc, -⟩, -⟩ := ai_if_s h1
    exact absurd hc (by decide)
  · obtain ⟨⟨hc, -⟩, -⟩ := ai_if_s h1
    exact absurd hc (by decide)
  · obtain ⟨⟨hc, -⟩, -⟩ := ai_if_s h1
    exact absurd hc (by decide)
  · obtain ⟨⟨-, hn, hn2⟩, h2⟩ := ai_if_s h1
    obtain ⟨rfl, e9⟩ := ai_nx_s h2
    cases e9
    intro lm H locs cells slots hl hP hS hN hZ
    have hlen : (h.1 ++ [(101, n.toNatClampNeg)]).length = h.1.length + 1 := by simp
    have hss : ai_ss (h.1 ++ [(101, n.toNatClampNeg)]) = ai_ss h.1 + n.toNatClampNeg := by rw [ai_ss_app]; simp [ai_ss]
    dsimp only at hc1 hc2
    rw [hlen] at hc1
    rw [hss] at hc2
    refine va_newa (D := D) (atype := .byte) (ty := .byte) (a0 := (n.toNatClampNeg, .inl (fun _ => 0))) hx hb (hts _ hin2) rfl hK hP ai_w_D hS (fun q hq => by show B < q; omega) (fun _ => rfl) hn rfl (by show n.toNatClampNeg * 1 ≤ 536870912; omega) (by omega) (by omega) hd (fun q c2 H1 hK1 hP1 hD1 hS1 => ?_)
    have hc9 : c2 = cA 1 := ai_arr_cls (t := 1) (by omega) hK hK1
    subst hc9
    intro T hT X1
    have hq0 := ai_new_at hP1 hD1 (by omega) (by have hh := X1.heapSize; rw [hT] at hh; omega)
    have had : ai_ad bs B h.1.length = B + h.1.length := ai_ad_ne (by omega)
    have hq : q = ai_ad bs B h.1.length := by rw [had]; exact hq0
    subst hq
    rw [ai_w_push (h' := (h.1 ++ [(101, n.toNatClampNeg)], ai_row h.2.1 h.1.length (fun _ => 0), ai_row h.2.2.1 h.1.length (fun _ => 0), h.2.2.2)) (by omega) (by simp) had (by
      rw [ai_e_arr (s := (101, n.toNatClampNeg)) (by simp) (by dsimp only; omega)]
      dsimp only
      rw [if_pos (by decide), ai_row_eq]) (fun b hb9 => ai_e_same (by dsimp only; rw [List.getElem?_append_left hb9]) (ai_row_ne (by omega)) (ai_row_ne (by omega)) rfl)] at hP1
    exact k _ _ _ _ _ hl hP1 hS1 (by dsimp only; rw [hlen]; omega) (by dsimp only; rw [hss]; omega) T hT X1
  · obtain ⟨⟨hc, -⟩, -⟩ := ai_if_s h1
    exact absurd hc (by decide)
  · obtain ⟨⟨-, hn, hn2⟩, h2⟩ := ai_if_s h1
    obtain ⟨rfl, e9⟩ := ai_nx_s h2
    cases e9
    intro lm H locs cells slots hl hP hS hN hZ
    have hlen : (h.1 ++ [(100, n.toNatClampNeg)]).length = h.1.length + 1 := by simp
    have hss : ai_ss (h.1 ++ [(100, n.toNatClampNeg)]) = ai_ss h.1 + n.toNatClampNeg := by rw [ai_ss_app]; simp [ai_ss]
    dsimp only at hc1 hc2
    rw [hlen] at hc1
    rw [hss] at hc2
    refine va_newa (D := D) (atype := .int) (ty := .int) (a0 := (n.toNatClampNeg, .inl (fun _ => 0))) hx hb (hts _ hin1) rfl hK hP ai_w_D hS (fun q hq => by show B < q; omega) (fun _ => rfl) hn rfl (by show n.toNatClampNeg * 4 ≤ 536870912; omega) (by omega) (by omega) hd (fun q c2 H1 hK1 hP1 hD1 hS1 => ?_)
    have hc9 : c2 = cA 0 := ai_arr_cls (t := 0) (by omega) hK hK1
    subst hc9
    intro T hT X1
    have hq0 := ai_new_at hP1 hD1 (by omega) (by have hh := X1.heapSize; rw [hT] at hh; omega)
    have had : ai_ad bs B h.1.length = B + h.1.length := ai_ad_ne (by omega)
    have hq : q = ai_ad bs B h.1.length := by rw [had]; exact hq0
    subst hq
    rw [ai_w_push (h' := (h.1 ++ [(100, n.toNatClampNeg)], ai_row h.2.1 h.1.length (fun _ => 0), ai_row h.2.2.1 h.1.length (fun _ => 0), h.2.2.2)) (by omega) (by simp) had (by
      rw [ai_e_arr (s := (100, n.toNatClampNeg)) (by simp) (by dsimp only; omega)]
      dsimp only
      rw [if_pos (by decide), ai_row_eq]) (fun b hb9 => ai_e_same (by dsimp only; rw [List.getElem?_append_left hb9]) (ai_row_ne (by omega)) (ai_row_ne (by omega)) rfl)] at hP1
    exact k _ _ _ _ _ hl hP1 hS1 (by dsimp only; rw [hlen]; omega) (by dsimp only; rw [hss]; omega) T hT X1
  · obtain ⟨⟨-, hn, hn2⟩, h2⟩ := ai_if_s h1
    obtain ⟨rfl, e9⟩ := ai_nx_s h2
    cases e9
    intro lm H locs cells slots hl hP hS hN hZ
    have hlen : (h.1 ++ [(103, n.toNatClampNeg)]).length = h.1.length + 1 := by simp
    have hss : ai_ss (h.1 ++ [(103, n.toNatClampNeg)]) = ai_ss h.1 + n.toNatClampNeg := by rw [ai_ss_app]; simp [ai_ss]
    dsimp only at hc1 hc2
    rw [hlen] at hc1
    rw [hss] at hc2
    refine va_newa (D := D) (atype := .long) (ty := .long) (a0 := (n.toNatClampNeg, .inr (.inl (fun _ => 0)))) hx hb (hts _ hin4) rfl hK hP ai_w_D hS (fun q hq => by show B < q; omega) (fun _ => rfl) hn rfl (by show n.toNatClampNeg * 8 ≤ 536870912; omega) (by omega) (by omega) hd (fun q c2 H1 hK1 hP1 hD1 hS1 => ?_)
    have hc9 : c2 = cA 3 := ai_arr_cls (t := 3) (by omega) hK hK1
    subst hc9
    intro T hT X1
    have hq0 := ai_new_at hP1 hD1 (by omega) (by have hh := X1.heapSize; rw [hT] at hh; omega)
    have had : ai_ad bs B h.1.length = B + h.1.length := ai_ad_ne (by omega)
    have hq : q = ai_ad bs B h.1.length := by rw [had]; exact hq0
    subst hq
    rw [ai_w_push (h' := (h.1 ++ [(103, n.toNatClampNeg)], ai_row h.2.1 h.1.length (fun _ => 0), ai_row h.2.2.1 h.1.length (fun _ => 0), h.2.2.2)) (by omega) (by simp) had (by
      rw [ai_e_arr (s := (103, n.toNatClampNeg)) (by simp) (by dsimp only; omega)]
      dsimp only
      rw [if_neg (by decide), if_pos rfl, ai_row_eq]) (fun b hb9 => ai_e_same (by dsimp only; rw [List.getElem?_append_left hb9]) (ai_row_ne (by omega)) (ai_row_ne (by omega)) rfl)] at hP1
    exact k _ _ _ _ _ hl hP1 hS1 (by dsimp only; rw [hlen]; omega) (by dsimp only; rw [hss]; omega) T hT X1

def ai_tc (ci : Nat) : Nat := match ci with
  | 6 => 104
  | 4 => 105
  | 2 => 106
  | 1 => 107
  | 0 => 108
  | _ => 200
theorem ai_tc_ok : ∀ ci, ci < 10 → ai_tc ci < 200 → 104 ≤ ai_tc ci ∧ ai_tc ci < 109 ∧ ai_ec (ai_tc ci - 100) = ci := by decide +kernel
theorem ai_g_anewarray {nn : Nat} (C : ai_Cx p s m args meth c R D cA y) (hsz : s.heap.size = B + N0) (hN1 : 1 ≤ N0) (hN2 : N0 ≤ h.1.length) (hS2 : S0 ≤ ai_ss h.1) (hm : h.1.length ≤ h'.1.length ∧ ai_ss h.1 ≤ ai_ss h'.1) (hc1 : h'.1.length ≤ N0 + R.cells) (hc2 : ai_ss h'.1 ≤ S0 + R.slots) (hd : decode (ai_b y) pc = .ok (.anewarray nn, w)) (hop : ai_op X y pc w (.anewarray nn) ls st h = some (.inl (pc', ls', st', h'))) (k : ai_K p l e R s m args below meth c Q bs B N0 S0 D cA y pc' ls' st' h') : ai_K p l e R s m args below meth c Q bs B N0 S0 D cA y pc ls st h := by
  obtain ⟨hx, hb, hml, hown, hts, hK, hni, hfr, hlo⟩ := C
  obtain ⟨n, r, rfl, h1⟩ := ai_i1_s hop
  obtain ⟨t, ht, h2⟩ := ai_o2_s h1
  obtain ⟨⟨hoc, htc, hn, hn2⟩, h3⟩ := ai_if_s h2
  obtain ⟨rfl, e9⟩ := ai_nx_s h3
  cases e9
  obtain ⟨ht1, hw, hci⟩ := ai_cn_s ht hoc
  subst ht1
  have k : ai_K p l e R s m args below meth c Q bs B N0 S0 D cA y (pc + 3) ls (.ref h.1.length :: r) (h.1 ++ [(ai_tc t.2, n.toNatClampNeg)], h.2.1, h.2.2.1, ai_row h.2.2.2 h.1.length (fun _ => none)) := k
  replace htc : ai_tc t.2 < 200 := htc
  obtain ⟨g1, g2, g3⟩ := ai_tc_ok _ hci htc
  obtain ⟨-, -, -, -, hin5⟩ := ai_arr_in
  have hov := hts _ (hin5 (ai_tc t.2 - 100) (by omega) (by omega))
  rw [g3] at hov
  have hat := (ai_at_ec (ai_tc t.2 - 100) (by omega) (by omega)).1
  rw [g3] at hat
  intro lm H locs cells slots hl hP hS hN hZ
  have hlen : (h.1 ++ [(ai_tc t.2, n.toNatClampNeg)]).length = h.1.length + 1 := by simp
  have hss : ai_ss (h.1 ++ [(ai_tc t.2, n.toNatClampNeg)]) = ai_ss h.1 + n.toNatClampNeg := by rw [ai_ss_app]; simp [ai_ss, show ¬ ai_tc t.2 < 100 by omega]
  replace hc1 : (h.1 ++ [(ai_tc t.2, n.toNatClampNeg)]).length ≤ N0 + R.cells := hc1
  replace hc2 : ai_ss (h.1 ++ [(ai_tc t.2, n.toNatClampNeg)]) ≤ S0 + R.slots := hc2
  rw [hlen] at hc1
  rw [hss] at hc2
  refine va_newq (D := D) (C := ai_R t.2) hx hb hown (hts _ hw) hov hK hP ai_w_D hS (fun q hq => by show B < q; omega) hn rfl (by omega) (by omega) (by omega) hd (fun q c2 H1 hK1 hP1 hD1 hS1 => ?_)
  rw [← hat] at hK1
  have hc9 : c2 = cA (ai_tc t.2 - 100) := ai_arr_cls (by omega) hK hK1
  subst hc9
  intro T hT X1
  have hq0 := ai_new_at hP1 hD1 (by omega) (by have hh := X1.heapSize; rw [hT] at hh; omega)
  have had : ai_ad bs B h.1.length = B + h.1.length := ai_ad_ne (by omega)
  have hq : q = ai_ad bs B h.1.length := by rw [had]; exact hq0
  subst hq
  rw [ai_w_push (h' := (h.1 ++ [(ai_tc t.2, n.toNatClampNeg)], h.2.1, h.2.2.1, ai_row h.2.2.2 h.1.length (fun _ => none))) (by omega) (by simp) had (by
    rw [ai_e_arr (s := (ai_tc t.2, n.toNatClampNeg)) (by simp) (by dsimp only; omega)]
    dsimp only
    rw [if_neg (by omega), if_neg (by omega), ai_row_eq]
    rfl) (fun b hb9 => ai_e_same (by dsimp only; rw [List.getElem?_append_left hb9]) rfl rfl (ai_row_ne (by omega)))] at hP1
  exact k _ _ _ _ _ hl hP1 hS1 (by dsimp only; rw [hlen]; omega) (by dsimp only; rw [hss]; omega) T hT X1

theorem ai_g_ospecial {n : Nat} (C : ai_Cx p s m args meth c R D cA y) (hd : decode (ai_b y) pc = .ok (.invokespecial n, w)) (hop : ai_op X y pc w (.invokespecial n) ls st h = some (.inl (pc', ls', st', h'))) (k : ai_K p l e R s m args below meth c Q bs B N0 S0 D cA y pc' ls' st' h') : ai_K p l e R s m args below meth c Q bs B N0 S0 D cA y pc ls st h := by
  obtain ⟨hx, hb, hml, hown, hts, hK, hni, hfr, hlo⟩ := C
  obtain ⟨t, ht, h1⟩ := ai_o2_s hop
  by_cases hq : t.2.1 = 1000
  · rw [if_pos hq] at h1
    obtain ⟨a, r, rfl, h2⟩ := ai_r1_s h1
    obtain ⟨⟨hoc, hf1, hl1⟩, h3⟩ := ai_if_s h2
    obtain ⟨rfl, e9⟩ := ai_nx_s h3
    cases e9
    obtain ⟨ht1, -, hw⟩ := ai_ml_s ht hoc
    subst ht1
    have hw2 := (hw (by omega)).1
    simp only [ai_mw2, hq] at hw2
    obtain ⟨j1, j2, -⟩ := ai_jdk_in
    intro lm H locs cells slots hl hP hS hN hZ
    refine W.objInit (rest := st'.map (ai_rl bs B)) hx hb hown (hts _ hw2) (hts _ j1) (hts _ j2) rfl (by rw [hml]; exact hl.2.1) rfl hd (by omega) (by rw [ai_rl_cats]; show 2 * 0 + _ + 12 ≤ _; omega) ?_
    exact k _ _ _ _ _ hl hP hS hN hZ
  · rw [if_neg hq] at h1
    obtain ⟨b, r, -, h2⟩ := ai_r1_s h1
    obtain ⟨-, h3⟩ := ai_if_s h2
    obtain ⟨-, h4⟩ := ai_call_s h3
    cases h4

theorem ai_g_istatic {nn : Nat} (C : ai_Cx p s m args meth c R D cA y) (hsz : s.heap.size = B + N0) (hN1 : 1 ≤ N0) (hN2 : N0 ≤ h.1.length) (hS2 : S0 ≤ ai_ss h.1) (hm : h.1.length ≤ h'.1.length ∧ ai_ss h.1 ≤ ai_ss h'.1) (hc1 : h'.1.length ≤ N0 + R.cells) (hc2 : ai_ss h'.1 ≤ S0 + R.slots) (hd : decode (ai_b y) pc = .ok (.invokestatic nn, w)) (hop : ai_op X y pc w (.invokestatic nn) ls st h = some (.inl (pc', ls', st', h'))) (k : ai_K p l e R s m args below meth c Q bs B N0 S0 D cA y pc' ls' st' h') : ai_K p l e R s m args below meth c Q bs B N0 S0 D cA y pc ls st h := by
  obtain ⟨hx, hb, hml, hown, hts, hK, hni, hfr, hlo⟩ := C
  obtain ⟨t, ht, h1⟩ := ai_o2_s hop
  obtain ⟨-, -, j3, j4, j5, j6, j7, j8, j9, j10⟩ := ai_jdk_in
  by_cases hq : t.2.1 = 1001
  · rw [if_pos hq] at h1
    obtain ⟨a, b, r, rfl, h2⟩ := ai_i2_s h1
    obtain ⟨⟨hoc, hf1, hl1⟩, h3⟩ := ai_if_s h2
    obtain ⟨rfl, e9⟩ := ai_nx_s h3
    cases e9
    obtain ⟨ht1, -, hw⟩ := ai_ml_s ht hoc
    subst ht1
    have hw2 := (hw (by omega)).1
    simp only [ai_mw2, hq] at hw2
    intro lm H locs cells slots hl hP hS hN hZ
    refine va_mmax hx hb (by rw [hml]; exact hl.2.1.symm) hown (hts _ hw2) (hts _ j3) (hts _ j5) (hts _ j6) (by omega) (by rw [ai_rl_cats]; omega) (by omega) (by omega) hd ?_
    exact k _ _ _ _ _ hl hP hS hN hZ
  · rw [if_neg hq] at h1
    by_cases hq2 : t.2.1 = 1002
    · rw [if_pos hq2] at h1
      obtain ⟨a, b, r, rfl, h2⟩ := ai_i2_s h1
      obtain ⟨⟨hoc, hf1, hl1⟩, h3⟩ := ai_if_s h2
      obtain ⟨rfl, e9⟩ := ai_nx_s h3
      cases e9
      obtain ⟨ht1, -, hw⟩ := ai_ml_s ht hoc
      subst ht1
      have hw2 := (hw (by omega)).1
      simp only [ai_mw2, hq2] at hw2
      intro lm H locs cells slots hl hP hS hN hZ
      refine va_mmin hx hb (by rw [hml]; exact hl.2.1.symm) hown (hts _ hw2) (hts _ j4) (hts _ j5) (hts _ j7) (by omega) (by rw [ai_rl_cats]; omega) (by omega) (by omega) hd ?_
      exact k _ _ _ _ _ hl hP hS hN hZ
    · rw [if_neg hq2] at h1
      obtain ⟨n, r1, rfl, h2⟩ := ai_i1_s h1
      obtain ⟨dp, r2, rfl, h3⟩ := ai_i1_s h2
      obtain ⟨a, r3, rfl, h4⟩ := ai_r1_s h3
      obtain ⟨sp, r4, rfl, h5⟩ := ai_i1_s h4
      obtain ⟨a0, r, rfl, h6⟩ := ai_r1_s h5
      obtain ⟨s0, hs0, h7⟩ := ai_o2_s h6
      obtain ⟨s1, hs1, h8⟩ := ai_o2_s h7
      obtain ⟨⟨hq3, hoc, ha0, ha, he9, p1, p2, p3, p4, p5, hf1, hl1⟩, h9⟩ := ai_if_s h8
      obtain ⟨ht1, -, hw⟩ := ai_ml_s ht hoc
      subst ht1
      have hw2 := (hw (by omega)).1
      simp only [ai_mw2, hq3] at hw2
      by_cases hk : s1.1 = 100
      · rw [if_pos hk] at h9
        obtain ⟨rfl, e9⟩ := ai_nx_s h9
        cases e9
        intro lm H locs cells slots hl hP hS hN hZ
        show W p l e R s m args below meth c H locs cells slots Q (F0 m pc lm (.int n :: .int dp :: .ref (ai_ad bs B a) :: .int sp :: .ref (ai_ad bs B a0) :: st'.map (ai_rl bs B)))
        rw [ai_ad_ne ha, ai_ad_ne ha0]
        have he0 := ai_w_arr (bs := bs) (B := B) (cA := cA) ha0 hs0 (by omega)
        have he := ai_w_arr (bs := bs) (B := B) (cA := cA) ha hs1 (by omega)
        rw [if_pos (by omega), he9] at he0
        rw [if_pos (by omega)] at he
        refine va_copyi hx hb (by rw [hml]; exact hl.2.1.symm) hown (hts _ hw2) (hts _ j8) (hts _ j9) (hts _ j10) hK hP ai_w_D hS (a0 - 1) (a - 1) 0 0 he0 he (by rw [hk]; exact ai_tys_get (t := 0) (by omega)) (by rw [hk]; exact ai_tys_get (t := 0) (by omega)) rfl p1 p2 p3 p4 p5 (fun _ _ => rfl) (by omega) (by rw [ai_rl_cats]; show _ + (7 + 11) ≤ _; omega) hd (fun H1 locs1 hP1 hD1 hS1 => ?_)
        rw [ai_w_set (h' := (h.1, ai_row h.2.1 a (va_cpy (h.2.1 a0) (h.2.1 a) sp.toNatClampNeg dp.toNatClampNeg n.toNatClampNeg), h.2.2.1, h.2.2.2)) ha (List.getElem?_eq_some_iff.mp hs1).1 rfl (by rw [ai_e_arr (h := (h.1, ai_row h.2.1 a (va_cpy (h.2.1 a0) (h.2.1 a) sp.toNatClampNeg dp.toNatClampNeg n.toNatClampNeg), h.2.2.1, h.2.2.2)) hs1 (by omega), if_pos (by omega)]; dsimp only; rw [ai_row_eq]) (fun b hb9 => ai_e_same rfl (ai_row_ne hb9) rfl rfl)] at hP1
        exact k _ _ _ _ _ hl hP1 hS1 hN hZ
      · rw [if_neg hk] at h9
        obtain ⟨hk, h10⟩ := ai_if_s h9
        obtain ⟨rfl, e9⟩ := ai_nx_s h10
        cases e9
        intro lm H locs cells slots hl hP hS hN hZ
        show W p l e R s m args below meth c H locs cells slots Q (F0 m pc lm (.int n :: .int dp :: .ref (ai_ad bs B a) :: .int sp :: .ref (ai_ad bs B a0) :: st'.map (ai_rl bs B)))
        rw [ai_ad_ne ha, ai_ad_ne ha0]
        have he0 := ai_w_arr (bs := bs) (B := B) (cA := cA) ha0 hs0 (by omega)
        have he := ai_w_arr (bs := bs) (B := B) (cA := cA) ha hs1 (by omega)
        rw [if_neg (by omega), if_pos (by omega), he9] at he0
        rw [if_neg (by omega), if_pos (by omega)] at he
        refine va_copyl hx hb (by rw [hml]; exact hl.2.1.symm) hown (hts _ hw2) (hts _ j8) (hts _ j9) (hts _ j10) hK hP ai_w_D hS (a0 - 1) (a - 1) 3 3 he0 he (by rw [hk]; exact ai_tys_get (t := 3) (by omega)) (by rw [hk]; exact ai_tys_get (t := 3) (by omega)) rfl p1 p2 p3 p4 p5 (fun _ _ => rfl) (by omega) (by rw [ai_rl_cats]; show _ + (7 + 11) ≤ _; omega) hd (fun H1 locs1 hP1 hD1 hS1 => ?_)
        rw [ai_w_set (h' := (h.1, h.2.1, ai_row h.2.2.1 a (va_cpy (h.2.2.1 a0) (h.2.2.1 a) sp.toNatClampNeg dp.toNatClampNeg n.toNatClampNeg), h.2.2.2)) ha (List.getElem?_eq_some_iff.mp hs1).1 rfl (by rw [ai_e_arr (h := (h.1, h.2.1, ai_row h.2.2.1 a (va_cpy (h.2.2.1 a0) (h.2.2.1 a) sp.toNatClampNeg dp.toNatClampNeg n.toNatClampNeg), h.2.2.2)) hs1 (by omega), if_neg (by omega), if_pos (by omega)]; dsimp only; rw [ai_row_eq]) (fun b hb9 => ai_e_same rfl rfl (ai_row_ne hb9) rfl)] at hP1
        exact k _ _ _ _ _ hl hP1 hS1 hN hZ

end AIM
