section AIH
variable {p : Program} {l : Launch} {e : Env} {R : Room} {s : State} {m : MethodId} {args : Array Value} {below : List Frame} {meth : Method} {c : Code} {Q : State → Prop} {bs B N0 S0 : Nat} {D : va_G} {cA : Nat → ClassId} {y pc pc' w : Nat} {ls ls' : ai_L} {st st' : List Value} {h h' : ai_H} {X : Option (Nat × (Nat → Int32))}
theorem ai_w_obj {a : Nat} {s1 : Nat × Nat} (ha : a ≠ 0) (hs : h.1[a]? = some s1) (hk : s1.1 < 100) : (ai_w bs B cA h)[a - 1]? = some (B + a, .inr (s1.1, (List.range (ai_N s1.1)).map fun k => if ai_fk s1.1 k = 2 then va_rf ((h.2.2.2 a k).map (ai_ad bs B)) else .int (h.2.1 a k))) := by
  rw [ai_w_get ha (List.getElem?_eq_some_iff.mp hs).1, ai_e_obj hs hk]
theorem ai_w_arr {a : Nat} {s1 : Nat × Nat} (ha : a ≠ 0) (hs : h.1[a]? = some s1) (hk : 100 ≤ s1.1) : (ai_w bs B cA h)[a - 1]? = some (B + a, .inl (cA (s1.1 - 100), s1.2, if s1.1 < 103 then .inl (h.2.1 a) else if s1.1 = 103 then .inr (.inl (h.2.2.1 a)) else .inr (.inr (.inr (.inr fun k => (h.2.2.2 a k).map (ai_ad bs B)))))) := by
  rw [ai_w_get ha (List.getElem?_eq_some_iff.mp hs).1, ai_e_arr hs hk]
theorem ai_new_at {q : Nat} {e0 : va_E} {H1 : Heap} (hP : va_P D ai_cl (ai_w bs B cA h ++ [(q, e0)]) H1) (hD : va_D (fun q => B < q) (ai_w bs B cA h ++ [(q, e0)])) (h1 : 1 ≤ h.1.length) (hz : H1.size ≤ B + h.1.length + 1) : q = B + h.1.length := by
  have hl : (ai_w bs B cA h ++ [(q, e0)])[h.1.length - 1]? = some (q, e0) := by
    rw [List.getElem?_append_right (by rw [ai_w_len]; exact Nat.le_refl _), ai_w_len]
    simp
  have h2 : q < H1.size := (hP _ _ hl).lt
  have h3 : B < q := hD.2 _ _ hl
  by_cases hq : q < B + h.1.length
  · have h4 : (ai_w bs B cA h ++ [(q, e0)])[q - B - 1]? = some (B + (q - B), ai_e bs B cA h (q - B)) := by
      rw [List.getElem?_append_left (by rw [ai_w_len]; omega)]
      exact ai_w_get (by omega) (by omega)
    have h5 := hD.1 _ _ _ _ hl h4 (by dsimp only; omega)
    omega
  · omega

theorem ai_g_getfield {n : Nat} (C : ai_Cx p s m args meth c R D cA y) (hd : decode (ai_b y) pc = .ok (.getfield n, w)) (hop : ai_op X y pc w (.getfield n) ls st h = some (.inl (pc', ls', st', h'))) (k : ai_K p l e R s m args below meth c Q bs B N0 S0 D cA y pc' ls' st' h') : ai_K p l e R s m args below meth c Q bs B N0 S0 D cA y pc ls st h := by
  obtain ⟨hx, hb, hml, hown, hts, hK, hni, hfr, hlo⟩ := C
  obtain ⟨a, r, rfl, h1⟩ := ai_r1_s hop
  obtain ⟨t, ht, h2⟩ := ai_o2_s h1
  obtain ⟨s1, hs1, h3⟩ := ai_o2_s h2
  obtain ⟨⟨ha, hk, hoc⟩, h4⟩ := ai_if_s h3
  obtain ⟨ht1, hw, hci, hkk⟩ := ai_fl_s ht hoc
  subst ht1
  have he := ai_w_obj (bs := bs) (B := B) (cA := cA) ha hs1 (by omega)
  rw [hk] at he
  by_cases hf : ai_fk t.2.1 t.2.2.1 = 2
  · rw [if_pos hf] at h4
    obtain ⟨b, hv, h5⟩ := ai_o2_s h4
    obtain ⟨rfl, e9⟩ := ai_nx_s h5
    cases e9
    intro lm H locs cells slots hl hP hS hN hZ
    show W p l e R s m args below meth c H locs cells slots Q (F0 m pc lm (.ref (ai_ad bs B a) :: r.map (ai_rl bs B)))
    rw [ai_ad_ne ha]
    unfold ai_fw at hw
    split at hw
    · exact va_getN (D := D) (ci := t.2.1) (v := .ref (ai_ad bs B b)) (C := ai_R t.2.1) (T := ai_F t.2.1) (N := ai_N t.2.1) hx hb hts (ai_f_in _ hci) hown hK hP (a - 1) he (ai_cl_get hci) t.2.2.1 hkk (hts _ hw) (fun _ h9 => by rw [ai_f_own _ hci _ hkk] at h9; exact h9) (by rw [List.getElem?_map, List.getElem?_range hkk]; simp [hf, hv, va_rf]) hd (k _ _ _ _ _ hl hP hS hN hZ)
    · exact va_get (D := D) (ci := t.2.1) (v := .ref (ai_ad bs B b)) (C := ai_R t.2.1) (T := ai_F t.2.1) (N := ai_N t.2.1) hx hb hts (ai_f_in _ hci) hown hK hP (a - 1) he (ai_cl_get hci) t.2.2.1 hkk (hts _ hw) (fun _ h9 => by rw [ai_f_own _ hci _ hkk] at h9; exact h9) (by rw [List.getElem?_map, List.getElem?_range hkk]; simp [hf, hv, va_rf]) hd (k _ _ _ _ _ hl hP hS hN hZ)
  · rw [if_neg hf] at h4
    have hv := True.intro
    obtain ⟨rfl, e9⟩ := ai_nx_s h4
    cases e9
    intro lm H locs cells slots hl hP hS hN hZ
    show W p l e R s m args below meth c H locs cells slots Q (F0 m pc lm (.ref (ai_ad bs B a) :: r.map (ai_rl bs B)))
    rw [ai_ad_ne ha]
    unfold ai_fw at hw
    split at hw
    · exact va_getN (D := D) (ci := t.2.1) (v := .int (h.2.1 a t.2.2.1)) (C := ai_R t.2.1) (T := ai_F t.2.1) (N := ai_N t.2.1) hx hb hts (ai_f_in _ hci) hown hK hP (a - 1) he (ai_cl_get hci) t.2.2.1 hkk (hts _ hw) (fun _ h9 => by rw [ai_f_own _ hci _ hkk] at h9; exact h9) (by rw [List.getElem?_map, List.getElem?_range hkk]; simp [hf, hv, va_rf]) hd (k _ _ _ _ _ hl hP hS hN hZ)
    · exact va_get (D := D) (ci := t.2.1) (v := .int (h.2.1 a t.2.2.1)) (C := ai_R t.2.1) (T := ai_F t.2.1) (N := ai_N t.2.1) hx hb hts (ai_f_in _ hci) hown hK hP (a - 1) he (ai_cl_get hci) t.2.2.1 hkk (hts _ hw) (fun _ h9 => by rw [ai_f_own _ hci _ hkk] at h9; exact h9) (by rw [List.getElem?_map, List.getElem?_range hkk]; simp [hf, hv, va_rf]) hd (k _ _ _ _ _ hl hP hS hN hZ)

theorem ai_g_putfield {n : Nat} (C : ai_Cx p s m args meth c R D cA y) (hd : decode (ai_b y) pc = .ok (.putfield n, w)) (hop : ai_op X y pc w (.putfield n) ls st h = some (.inl (pc', ls', st', h'))) (k : ai_K p l e R s m args below meth c Q bs B N0 S0 D cA y pc' ls' st' h') : ai_K p l e R s m args below meth c Q bs B N0 S0 D cA y pc ls st h := by
  obtain ⟨hx, hb, hml, hown, hts, hK, hni, hfr, hlo⟩ := C
  obtain ⟨t, ht, h2⟩ := ai_o2_s hop
  by_cases hf : ai_fk t.2.1 t.2.2.1 = 2
  · rw [if_pos hf] at h2
    obtain ⟨v, r1, rfl, h3⟩ := ai_r1_s h2
    obtain ⟨a, r, rfl, h4⟩ := ai_r1_s h3
    obtain ⟨s1, hs1, h5⟩ := ai_o2_s h4
    obtain ⟨⟨ha, hk, hoc, hfin⟩, h6⟩ := ai_if_s h5
    obtain ⟨rfl, e9⟩ := ai_nx_s h6
    cases e9
    obtain ⟨ht1, hw, hci, hkk⟩ := ai_fl_s ht hoc
    subst ht1
    have he := ai_w_obj (bs := bs) (B := B) (cA := cA) ha hs1 (by omega)
    rw [hk] at he
    have h7 := ai_fit_r _ hci _ hkk hf
    have hn1 : narrow (ai_ty t.2.1 t.2.2.1) (.ref (ai_ad bs B v)) = .ref (ai_ad bs B v) := by
      split at h7 <;> first | (rename_i q; rw [q]; rfl) | cases h7
    have hn2 : fits (ai_ty t.2.1 t.2.2.1) (.ref (ai_ad bs B v)) = true := by
      split at h7 <;> first | (rename_i q; rw [q]; rfl) | cases h7
    intro lm H locs cells slots hl hP hS hN hZ
    show W p l e R s m args below meth c H locs cells slots Q (F0 m pc lm (.ref (ai_ad bs B v) :: .ref (ai_ad bs B a) :: st'.map (ai_rl bs B)))
    rw [ai_ad_ne (a := a) ha]
    by_cases hz : (ai_F t.2.1 t.2.2.1).2.2.2 = false
    · unfold ai_fw at hw
      split at hw
      · refine va_putN (D := D) (ci := t.2.1) (v := .ref (ai_ad bs B v)) (ty := ai_ty t.2.1 t.2.2.1) (C := ai_R t.2.1) (T := ai_F t.2.1) (N := ai_N t.2.1) hx hb hts (ai_f_in _ hci) (ai_ty t.2.1) (ai_f_ty _ hci) (ai_f_nm _ hci) hown hK hP ai_w_D hS (a - 1) he (ai_cl_get hci) t.2.2.1 hkk (hts _ hw) (fun _ h9 => by rw [ai_f_own _ hci _ hkk] at h9; exact h9) hz (ai_f_ty _ hci _ hkk) hn1 hn2 (by simp; exact hkk) hd (fun H1 locs1 hP1 hD1 hS1 => ?_)
        rw [ai_w_set (h' := (h.1, h.2.1, h.2.2.1, ai_ur h.2.2.2 a t.2.2.1 (some v))) ha (List.getElem?_eq_some_iff.mp hs1).1 rfl (by rw [ai_e_obj (h := (h.1, h.2.1, h.2.2.1, ai_ur h.2.2.2 a t.2.2.1 (some v))) hs1 (by omega), hk]; exact congrArg (fun z => Sum.inr (t.2.1, z)) (ai_setR (by simp [hf, ai_ur, va_rf]) (fun j hj => by simp [ai_ur, hj]))) (fun b hb9 => ai_e_same rfl rfl rfl (ai_ur_ne hb9))] at hP1
        exact k _ _ _ _ _ hl hP1 hS1 hN hZ
      · refine va_put (D := D) (ci := t.2.1) (v := .ref (ai_ad bs B v)) (ty := ai_ty t.2.1 t.2.2.1) (C := ai_R t.2.1) (T := ai_F t.2.1) (N := ai_N t.2.1) hx hb hts (ai_f_in _ hci) (ai_ty t.2.1) (ai_f_ty _ hci) (ai_f_nm _ hci) hown hK hP ai_w_D hS (a - 1) he (ai_cl_get hci) t.2.2.1 hkk (hts _ hw) (fun _ h9 => by rw [ai_f_own _ hci _ hkk] at h9; exact h9) hz (ai_f_ty _ hci _ hkk) hn1 hn2 (by simp; exact hkk) hd (fun H1 locs1 hP1 hD1 hS1 => ?_)
        rw [ai_w_set (h' := (h.1, h.2.1, h.2.2.1, ai_ur h.2.2.2 a t.2.2.1 (some v))) ha (List.getElem?_eq_some_iff.mp hs1).1 rfl (by rw [ai_e_obj (h := (h.1, h.2.1, h.2.2.1, ai_ur h.2.2.2 a t.2.2.1 (some v))) hs1 (by omega), hk]; exact congrArg (fun z => Sum.inr (t.2.1, z)) (ai_setR (by simp [hf, ai_ur, va_rf]) (fun j hj => by simp [ai_ur, hj]))) (fun b hb9 => ai_e_same rfl rfl rfl (ai_ur_ne hb9))] at hP1
        exact k _ _ _ _ _ hl hP1 hS1 hN hZ
    · rcases hfin with hq | ⟨q1, q2, q3⟩
      · exact absurd hq hz
      unfold ai_fw at hw
      rw [q3] at hw
      refine va_putF (D := D) (ci := t.2.1) (v := .ref (ai_ad bs B v)) (ty := ai_ty t.2.1 t.2.2.1) (C := ai_R t.2.1) (T := ai_F t.2.1) (N := ai_N t.2.1) hx hb hts (ai_f_in _ hci) (ai_ty t.2.1) (ai_f_ty _ hci) (ai_f_nm _ hci) hown hK hP ai_w_D hS (a - 1) he (ai_cl_get hci) t.2.2.1 hkk (hts _ hw) (fun _ h9 => by rw [ai_f_own _ hci _ hkk] at h9; exact h9) (by simpa using hz) (hni q1) (by rw [ai_f_own _ hci _ hkk, q2]) (ai_f_ty _ hci _ hkk) hn1 hn2 (by simp; exact hkk) hd (fun H1 locs1 hP1 hD1 hS1 => ?_)
      rw [ai_w_set (h' := (h.1, h.2.1, h.2.2.1, ai_ur h.2.2.2 a t.2.2.1 (some v))) ha (List.getElem?_eq_some_iff.mp hs1).1 rfl (by rw [ai_e_obj (h := (h.1, h.2.1, h.2.2.1, ai_ur h.2.2.2 a t.2.2.1 (some v))) hs1 (by omega), hk]; exact congrArg (fun z => Sum.inr (t.2.1, z)) (ai_setR (by simp [hf, ai_ur, va_rf]) (fun j hj => by simp [ai_ur, hj]))) (fun b hb9 => ai_e_same rfl rfl rfl (ai_ur_ne hb9))] at hP1
      exact k _ _ _ _ _ hl hP1 hS1 hN hZ
  · rw [if_neg hf] at h2
    obtain ⟨v, r1, rfl, h3⟩ := ai_i1_s h2
    obtain ⟨a, r, rfl, h4⟩ := ai_r1_s h3
    obtain ⟨s1, hs1, h5⟩ := ai_o2_s h4
    obtain ⟨⟨ha, hk, hoc, hz, hv⟩, h6⟩ := ai_if_s h5
    obtain ⟨rfl, e9⟩ := ai_nx_s h6
    cases e9
    obtain ⟨ht1, hw, hci, hkk⟩ := ai_fl_s ht hoc
    subst ht1
    have he := ai_w_obj (bs := bs) (B := B) (cA := cA) ha hs1 (by omega)
    rw [hk] at he
    have hn12 : narrow (ai_ty t.2.1 t.2.2.1) (.int v) = .int v ∧ fits (ai_ty t.2.1 t.2.2.1) (.int v) = true := by
      rcases ai_fit_i _ hci _ hkk hf with q | ⟨q1, q⟩
      · rw [q]; exact ⟨rfl, rfl⟩
      · rw [q]
        rcases hv q1 with rfl | rfl
        · exact ⟨by decide, by decide⟩
        · exact ⟨by decide, by decide⟩
    obtain ⟨hn1, hn2⟩ := hn12
    intro lm H locs cells slots hl hP hS hN hZ
    show W p l e R s m args below meth c H locs cells slots Q (F0 m pc lm (.int v :: .ref (ai_ad bs B a) :: st'.map (ai_rl bs B)))
    rw [ai_ad_ne (a := a) ha]
    unfold ai_fw at hw
    split at hw
    · refine va_putN (D := D) (ci := t.2.1) (v := .int v) (ty := ai_ty t.2.1 t.2.2.1) (C := ai_R t.2.1) (T := ai_F t.2.1) (N := ai_N t.2.1) hx hb hts (ai_f_in _ hci) (ai_ty t.2.1) (ai_f_ty _ hci) (ai_f_nm _ hci) hown hK hP ai_w_D hS (a - 1) he (ai_cl_get hci) t.2.2.1 hkk (hts _ hw) (fun _ h9 => by rw [ai_f_own _ hci _ hkk] at h9; exact h9) hz (ai_f_ty _ hci _ hkk) hn1 hn2 (by simp; exact hkk) hd (fun H1 locs1 hP1 hD1 hS1 => ?_)
      rw [ai_w_set (h' := (h.1, ai_ui h.2.1 a t.2.2.1 v, h.2.2.1, h.2.2.2)) ha (List.getElem?_eq_some_iff.mp hs1).1 rfl (by rw [ai_e_obj (h := (h.1, ai_ui h.2.1 a t.2.2.1 v, h.2.2.1, h.2.2.2)) hs1 (by omega), hk]; exact congrArg (fun z => Sum.inr (t.2.1, z)) (ai_setR (by simp [hf, ai_ui, va_rf]) (fun j hj => by simp [ai_ui, hj]))) (fun b hb9 => ai_e_same rfl (ai_ui_ne hb9) rfl rfl)] at hP1
      exact k _ _ _ _ _ hl hP1 hS1 hN hZ
    · refine va_put (D := D) (ci := t.2.1) (v := .int v) (ty := ai_ty t.2.1 t.2.2.1) (C := ai_R t.2.1) (T := ai_F t.2.1) (N := ai_N t.2.1) hx hb hts (ai_f_in _ hci) (ai_ty t.2.1) (ai_f_ty _ hci) (ai_f_nm _ hci) hown hK hP ai_w_D hS (a - 1) he (ai_cl_get hci) t.2.2.1 hkk (hts _ hw) (fun _ h9 => by rw [ai_f_own _ hci _ hkk] at h9; exact h9) hz (ai_f_ty _ hci _ hkk) hn1 hn2 (by simp; exact hkk) hd (fun H1 locs1 hP1 hD1 hS1 => ?_)
      rw [ai_w_set (h' := (h.1, ai_ui h.2.1 a t.2.2.1 v, h.2.2.1, h.2.2.2)) ha (List.getElem?_eq_some_iff.mp hs1).1 rfl (by rw [ai_e_obj (h := (h.1, ai_ui h.2.1 a t.2.2.1 v, h.2.2.1, h.2.2.2)) hs1 (by omega), hk]; exact congrArg (fun z => Sum.inr (t.2.1, z)) (ai_setR (by simp [hf, ai_ui, va_rf]) (fun j hj => by simp [ai_ui, hj]))) (fun b hb9 => ai_e_same rfl (ai_ui_ne hb9) rfl rfl)] at hP1
      exact k _ _ _ _ _ hl hP1 hS1 hN hZ

theorem ai_g_iaload  (C : ai_Cx p s m args meth c R D cA y) (SX : ai_Sx bs B X s) (hd : decode (ai_b y) pc = .ok (.iaload, w)) (hop : ai_op X y pc w (.iaload) ls st h = some (.inl (pc', ls', st', h'))) (k : ai_K p l e R s m args below meth c Q bs B N0 S0 D cA y pc' ls' st' h') : ai_K p l e R s m args below meth c Q bs B N0 S0 D cA y pc ls st h := by
  obtain ⟨hx, hb, hml, hown, hts, hK, hni, hfr, hlo⟩ := C
  obtain ⟨j, r1, rfl, h1⟩ := ai_i1_s hop
  obtain ⟨a, r, rfl, h2⟩ := ai_r1_s h1
  by_cases ha : a = 0
  · rw [if_pos ha] at h2
    subst ha
    obtain ⟨v, hv, h3⟩ := ai_o2_s h2
    obtain ⟨rfl, e9⟩ := ai_nx_s h3
    cases e9
    intro lm H locs cells slots hl hP hS hN hZ
    unfold ai_xs at hv
    split at hv
    · rename_i n xs
      split at hv
      · cases hv
      · rename_i hin
        cases hv
        obtain ⟨g1, g2, g3⟩ := SX n xs rfl
        exact va_sld hx hb g1 g2 (fun z => absurd z (by show ¬ B < bs; omega)) hS hin hd (k _ _ _ _ _ hl hP hS hN hZ)
    · cases hv
  · rw [if_neg ha] at h2
    obtain ⟨s1, hs1, h3⟩ := ai_o2_s h2
    obtain ⟨⟨hk, hin⟩, h4⟩ := ai_if_s h3
    obtain ⟨rfl, e9⟩ := ai_nx_s h4
    cases e9
    have he := ai_w_arr (bs := bs) (B := B) (cA := cA) ha hs1 (by omega)
    rw [if_pos (by omega), hk] at he
    intro lm H locs cells slots hl hP hS hN hZ
    show W p l e R s m args below meth c H locs cells slots Q (F0 m pc lm (.int j :: .ref (ai_ad bs B a) :: r.map (ai_rl bs B)))
    rw [ai_ad_ne ha]
    exact va_iald hx hb hK hP (a - 1) 0 he (ai_tys_get (by omega)) hin hd (k _ _ _ _ _ hl hP hS hN hZ)

theorem ai_g_baload  (C : ai_Cx p s m args meth c R D cA y) (hd : decode (ai_b y) pc = .ok (.baload, w)) (hop : ai_op X y pc w (.baload) ls st h = some (.inl (pc', ls', st', h'))) (k : ai_K p l e R s m args below meth c Q bs B N0 S0 D cA y pc' ls' st' h') : ai_K p l e R s m args below meth c Q bs B N0 S0 D cA y pc ls st h := by
  obtain ⟨hx, hb, hml, hown, hts, hK, hni, hfr, hlo⟩ := C
  obtain ⟨j, r1, rfl, h1⟩ := ai_i1_s hop
  obtain ⟨a, r, rfl, h2⟩ := ai_r1_s h1
  obtain ⟨s1, hs1, h3⟩ := ai_o2_s h2
  obtain ⟨⟨ha, hk, hin⟩, h4⟩ := ai_if_s h3
  obtain ⟨rfl, e9⟩ := ai_nx_s h4
  cases e9
  have he := ai_w_arr (bs := bs) (B := B) (cA := cA) ha hs1 (by omega)
  rw [if_pos (by omega)] at he
  intro lm H locs cells slots hl hP hS hN hZ
  show W p l e R s m args below meth c H locs cells slots Q (F0 m pc lm (.int j :: .ref (ai_ad bs B a) :: r.map (ai_rl bs B)))
  rw [ai_ad_ne ha]
  rcases hk with hk | hk
  · rw [hk] at he
    exact va_bald hx hb hK hP (a - 1) 1 he (ai_tys_get (by omega)) hin hd (k _ _ _ _ _ hl hP hS hN hZ)
  · rw [hk] at he
    exact va_zald hx hb hK hP (a - 1) 2 he (ai_tys_get (by omega)) hin hd (k _ _ _ _ _ hl hP hS hN hZ)

theorem ai_g_laload  (C : ai_Cx p s m args meth c R D cA y) (hd : decode (ai_b y) pc = .ok (.laload, w)) (hop : ai_op X y pc w (.laload) ls st h = some (.inl (pc', ls', st', h'))) (k : ai_K p l e R s m args below meth c Q bs B N0 S0 D cA y pc' ls' st' h') : ai_K p l e R s m args below meth c Q bs B N0 S0 D cA y pc ls st h := by
  obtain ⟨hx, hb, hml, hown, hts, hK, hni, hfr, hlo⟩ := C
  obtain ⟨j, r1, rfl, h1⟩ := ai_i1_s hop
  obtain ⟨a, r, rfl, h2⟩ := ai_r1_s h1
  obtain ⟨s1, hs1, h3⟩ := ai_o2_s h2
  obtain ⟨⟨ha, hk, hin⟩, h4⟩ := ai_if_s h3
  obtain ⟨rfl, e9⟩ := ai_nx_s h4
  cases e9
  have he := ai_w_arr (bs := bs) (B := B) (cA := cA) ha hs1 (by omega)
  rw [if_neg (by omega), if_pos hk, hk] at he
  intro lm H locs cells slots hl hP hS hN hZ
  show W p l e R s m args below meth c H locs cells slots Q (F0 m pc lm (.int j :: .ref (ai_ad bs B a) :: r.map (ai_rl bs B)))
  rw [ai_ad_ne ha]
  exact va_lald hx hb hK hP (a - 1) 3 he (ai_tys_get (by omega)) hin hd (k _ _ _ _ _ hl hP hS hN hZ)

theorem ai_g_aaload  (C : ai_Cx p s m args meth c R D cA y) (hd : decode (ai_b y) pc = .ok (.aaload, w)) (hop : ai_op X y pc w (.aaload) ls st h = some (.inl (pc', ls', st', h'))) (k : ai_K p l e R s m args below meth c Q bs B N0 S0 D cA y pc' ls' st' h') : ai_K p l e R s m args below meth c Q bs B N0 S0 D cA y pc ls st h := by
  obtain ⟨hx, hb, hml, hown, hts, hK, hni, hfr, hlo⟩ := C
  obtain ⟨j, r1, rfl, h1⟩ := ai_i1_s hop
  obtain ⟨a, r, rfl, h2⟩ := ai_r1_s h1
  obtain ⟨s1, hs1, h3⟩ := ai_o2_s h2
  obtain ⟨⟨ha, hk, hk2, hin⟩, h4⟩ := ai_if_s h3
  obtain ⟨b, hv, h5⟩ := ai_o2_s h4
  obtain ⟨rfl, e9⟩ := ai_nx_s h5
  cases e9
  have he := ai_w_arr (bs := bs) (B := B) (cA := cA) ha hs1 (by omega)
  rw [if_neg (by omega), if_neg (by omega)] at he
  intro lm H locs cells slots hl hP hS hN hZ
  show W p l e R s m args below meth c H locs cells slots Q (F0 m pc lm (.int j :: .ref (ai_ad bs B a) :: r.map (ai_rl bs B)))
  rw [ai_ad_ne ha]
  have hty := ai_tys_get (cA := cA) (t := s1.1 - 100) (by omega)
  rw [(ai_at_ec (s1.1 - 100) (by omega) (by omega)).1] at hty
  refine va_aldq hx hb hK hP (a - 1) (s1.1 - 100) he hty hin hd ?_
  rw [hv]
  exact k _ _ _ _ _ hl hP hS hN hZ

theorem ai_g_iastore  (C : ai_Cx p s m args meth c R D cA y) (hd : decode (ai_b y) pc = .ok (.iastore, w)) (hop : ai_op X y pc w (.iastore) ls st h = some (.inl (pc', ls', st', h'))) (k : ai_K p l e R s m args below meth c Q bs B N0 S0 D cA y pc' ls' st' h') : ai_K p l e R s m args below meth c Q bs B N0 S0 D cA y pc ls st h := by
  obtain ⟨hx, hb, hml, hown, hts, hK, hni, hfr, hlo⟩ := C
  obtain ⟨v, r2, rfl, h0⟩ := ai_i1_s hop
  obtain ⟨j, r1, rfl, h1⟩ := ai_i1_s h0
  obtain ⟨a, r, rfl, h2⟩ := ai_r1_s h1
  obtain ⟨s1, hs1, h3⟩ := ai_o2_s h2
  obtain ⟨⟨ha, hk, hin⟩, h4⟩ := ai_if_s h3
  obtain ⟨rfl, e9⟩ := ai_nx_s h4
  cases e9
  have he := ai_w_arr (bs := bs) (B := B) (cA := cA) ha hs1 (by omega)
  rw [if_pos (by omega), hk] at he
  intro lm H locs cells slots hl hP hS hN hZ
  show W p l e R s m args below meth c H locs cells slots Q (F0 m pc lm (.int v :: .int j :: .ref (ai_ad bs B a) :: st'.map (ai_rl bs B)))
  rw [ai_ad_ne ha]
  refine va_iast hx hb hK hP ai_w_D hS (a - 1) 0 he (ai_tys_get (by omega)) hin hd (fun H1 locs1 hP1 hD1 hS1 => ?_)
  rw [ai_w_set (h' := (h.1, ai_ui h.2.1 a j.toNatClampNeg v, h.2.2.1, h.2.2.2)) ha (List.getElem?_eq_some_iff.mp hs1).1 rfl (by rw [ai_e_arr (h := (h.1, ai_ui h.2.1 a j.toNatClampNeg v, h.2.2.1, h.2.2.2)) hs1 (by omega), if_pos (by omega), hk]; dsimp only; rw [ai_ui_eq]) (fun b hb9 => ai_e_same rfl (ai_ui_ne hb9) rfl rfl)] at hP1
  exact k _ _ _ _ _ hl hP1 hS1 hN hZ

theorem ai_g_lastore  (C : ai_Cx p s m args meth c R D cA y) (hd : decode (ai_b y) pc = .ok (.lastore, w)) (hop : ai_op X y pc w (.lastore) ls st h = some (.inl (pc', ls', st', h'))) (k : ai_K p l e R s m args below meth c Q bs B N0 S0 D cA y pc' ls' st' h') : ai_K p l e R s m args below meth c Q bs B N0 S0 D cA y pc ls st h := by
  obtain ⟨hx, hb, hml, hown, hts, hK, hni, hfr, hlo⟩ := C
  obtain ⟨v, r2, rfl, h0⟩ := ai_l1_s hop
  obtain ⟨j, r1, rfl, h1⟩ := ai_i1_s h0
  obtain ⟨a, r, rfl, h2⟩ := ai_r1_s h1
  obtain ⟨s1, hs1, h3⟩ := ai_o2_s h2
  obtain ⟨⟨ha, hk, hin⟩, h4⟩ := ai_if_s h3
  obtain ⟨rfl, e9⟩ := ai_nx_s h4
  cases e9
  have he := ai_w_arr (bs := bs) (B := B) (cA := cA) ha hs1 (by omega)
  rw [if_neg (by omega), if_pos hk, hk] at he
  intro lm H locs cells slots hl hP hS hN hZ
  show W p l e R s m args below meth c H locs cells slots Q (F0 m pc lm (.long v :: .int j :: .ref (ai_ad bs B a) :: st'.map (ai_rl bs B)))
  rw [ai_ad_ne ha]
  refine va_last hx hb hK hP ai_w_D hS (a - 1) 3 he (ai_tys_get (by omega)) hin hd (fun H1 locs1 hP1 hD1 hS1 => ?_)
  rw [ai_w_set (h' := (h.1, h.2.1, ai_ul h.2.2.1 a j.toNatClampNeg v, h.2.2.2)) ha (List.getElem?_eq_some_iff.mp hs1).1 rfl (by rw [ai_e_arr (h := (h.1, h.2.1, ai_ul h.2.2.1 a j.toNatClampNeg v, h.2.2.2)) hs1 (by omega), if_neg (by omega), if_pos hk, hk]; dsimp only; rw [ai_ul_eq]) (fun b hb9 => ai_e_same rfl rfl (ai_ul_ne hb9) rfl)] at hP1
  exact k _ _ _ _ _ hl hP1 hS1 hN hZ

theorem ai_g_bastore  (C : ai_Cx p s m args meth c R D cA y) (hd : decode (ai_b y) pc = .ok (.bastore, w)) (hop : ai_op X y pc w (.bastore) ls st h = some (.inl (pc', ls', st', h'))) (k : ai_K p l e R s m args below meth c Q bs B N0 S0 D cA y pc' ls' st' h') : ai_K p l e R s m args below meth c Q bs B N0 S0 D cA y pc ls st h := by
  obtain ⟨hx, hb, hml, hown, hts, hK, hni, hfr, hlo⟩ := C
  obtain ⟨v, r2, rfl, h0⟩ := ai_i1_s hop
  obtain ⟨j, r1, rfl, h1⟩ := ai_i1_s h0
  obtain ⟨a, r, rfl, h2⟩ := ai_r1_s h1
  obtain ⟨s1, hs1, h3⟩ := ai_o2_s h2
  by_cases hk : s1.1 = 101
  · rw [if_pos hk] at h3
    obtain ⟨⟨ha, hin⟩, h4⟩ := ai_if_s h3
    obtain ⟨rfl, e9⟩ := ai_nx_s h4
    cases e9
    have he := ai_w_arr (bs := bs) (B := B) (cA := cA) ha hs1 (by omega)
    rw [if_pos (by omega), hk] at he
    intro lm H locs cells slots hl hP hS hN hZ
    show W p l e R s m args below meth c H locs cells slots Q (F0 m pc lm (.int v :: .int j :: .ref (ai_ad bs B a) :: st'.map (ai_rl bs B)))
    rw [ai_ad_ne ha]
    refine va_bast hx hb hK hP ai_w_D hS (a - 1) 1 he (ai_tys_get (by omega)) hin hd (fun H1 locs1 hP1 hD1 hS1 => ?_)
    rw [ai_w_set (h' := (h.1, ai_ui h.2.1 a j.toNatClampNeg (vp_nar .byte v), h.2.2.1, h.2.2.2)) ha (List.getElem?_eq_some_iff.mp hs1).1 rfl (by rw [ai_e_arr (h := (h.1, ai_ui h.2.1 a j.toNatClampNeg (vp_nar .byte v), h.2.2.1, h.2.2.2)) hs1 (by omega), if_pos (by omega), hk]; dsimp only; rw [ai_ui_eq]) (fun b hb9 => ai_e_same rfl (ai_ui_ne hb9) rfl rfl)] at hP1
    exact k _ _ _ _ _ hl hP1 hS1 hN hZ
  · rw [if_neg hk] at h3
    obtain ⟨⟨ha, hk, hin⟩, h4⟩ := ai_if_s h3
    obtain ⟨rfl, e9⟩ := ai_nx_s h4
    cases e9
    have he := ai_w_arr (bs := bs) (B := B) (cA := cA) ha hs1 (by omega)
    rw [if_pos (by omega), hk] at he
    intro lm H locs cells slots hl hP hS hN hZ
    show W p l e R s m args below meth c H locs cells slots Q (F0 m pc lm (.int v :: .int j :: .ref (ai_ad bs B a) :: st'.map (ai_rl bs B)))
    rw [ai_ad_ne ha]
    refine va_zast hx hb hK hP ai_w_D hS (a - 1) 2 he (ai_tys_get (by omega)) hin hd (fun H1 locs1 hP1 hD1 hS1 => ?_)
    rw [ai_w_set (h' := (h.1, ai_ui h.2.1 a j.toNatClampNeg (vp_nar .boolean v), h.2.2.1, h.2.2.2)) ha (List.getElem?_eq_some_iff.mp hs1).1 rfl (by rw [ai_e_arr (h := (h.1, ai_ui h.2.1 a j.toNatClampNeg (vp_nar .boolean v), h.2.2.1, h.2.2.2)) hs1 (by omega), if_pos (by omega), hk]; dsimp only; rw [ai_ui_eq]) (fun b hb9 => ai_e_same rfl (ai_ui_ne hb9) rfl rfl)] at hP1
    exact k _ _ _ _ _ hl hP1 hS1 hN hZ

theorem ai_g_aastore  (C : ai_Cx p s m args meth c R D cA y) (hd : decode (ai_b y) pc = .ok (.aastore, w)) (hop : ai_op X y pc w (.aastore) ls st h = some (.inl (pc', ls', st', h'))) (k : ai_K p l e R s m args below meth c Q bs B N0 S0 D cA y pc' ls' st' h') : ai_K p l e R s m args below meth c Q bs B N0 S0 D cA y pc ls st h := by
  obtain ⟨hx, hb, hml, hown, hts, hK, hni, hfr, hlo⟩ := C
  obtain ⟨v, r2, rfl, h0⟩ := ai_r1_s hop
  obtain ⟨j, r1, rfl, h1⟩ := ai_i1_s h0
  obtain ⟨a, r, rfl, h2⟩ := ai_r1_s h1
  obtain ⟨s1, hs1, h3⟩ := ai_o2_s h2
  obtain ⟨s2, hs2, h4⟩ := ai_o2_s h3
  obtain ⟨⟨ha, hv0, hk, hk2, hec, hin⟩, h5⟩ := ai_if_s h4
  obtain ⟨rfl, e9⟩ := ai_nx_s h5
  cases e9
  have hat := ai_at_ec (s1.1 - 100) (by omega) (by omega)
  have he := ai_w_arr (bs := bs) (B := B) (cA := cA) ha hs1 (by omega)
  rw [if_neg (by omega), if_neg (by omega)] at he
  have he2 := ai_w_obj (bs := bs) (B := B) (cA := cA) hv0 hs2 (by omega)
  intro lm H locs cells slots hl hP hS hN hZ
  show W p l e R s m args below meth c H locs cells slots Q (F0 m pc lm (.ref (ai_ad bs B v) :: .int j :: .ref (ai_ad bs B a) :: st'.map (ai_rl bs B)))
  rw [ai_ad_ne ha, ai_ad_ne hv0]
  have hty := ai_tys_get (cA := cA) (t := s1.1 - 100) (by omega)
  rw [hat.1, ← hec] at hty
  refine va_astq hx hb hK hP ai_w_D hS (a - 1) (s1.1 - 100) (v - 1) s2.1 (r := (ai_R s2.1, ai_F s2.1, ai_N s2.1)) he hty he2 (ai_cl_get (by omega)) hin hd (fun H1 locs1 hP1 hD1 hS1 => ?_)
  rw [ai_w_set (h' := (h.1, h.2.1, h.2.2.1, ai_ur h.2.2.2 a j.toNatClampNeg (some v))) ha (List.getElem?_eq_some_iff.mp hs1).1 rfl (by
    rw [ai_e_arr (h := (h.1, h.2.1, h.2.2.1, ai_ur h.2.2.2 a j.toNatClampNeg (some v))) hs1 (by omega), if_neg (by omega), if_neg (by omega)]
    refine congrArg (fun z => Sum.inl (cA (s1.1 - 100), s1.2, Sum.inr (Sum.inr (Sum.inr (Sum.inr z))))) ?_
    funext i
    dsimp only
    rw [ai_ur_eq]
    simp only [va_up]
    split
    · rw [Option.map_some, ai_ad_ne hv0]
    · rfl) (fun b hb9 => ai_e_same rfl rfl rfl (ai_ur_ne hb9))] at hP1
  exact k _ _ _ _ _ hl hP1 hS1 hN hZ

theorem ai_g_arraylength  (C : ai_Cx p s m args meth c R D cA y) (SX : ai_Sx bs B X s) (hd : decode (ai_b y) pc = .ok (.arraylength, w)) (hop : ai_op X y pc w (.arraylength) ls st h = some (.inl (pc', ls', st', h'))) (k : ai_K p l e R s m args below meth c Q bs B N0 S0 D cA y pc' ls' st' h') : ai_K p l e R s m args below meth c Q bs B N0 S0 D cA y pc ls st h := by
  obtain ⟨hx, hb, hml, hown, hts, hK, hni, hfr, hlo⟩ := C
  obtain ⟨a, r, rfl, h1⟩ := ai_r1_s hop
  by_cases ha : a = 0
  · rw [if_pos ha] at h1
    subst ha
    split at h1
    · rename_i n xs
      obtain ⟨rfl, e9⟩ := ai_nx_s h1
      cases e9
      intro lm H locs cells slots hl hP hS hN hZ
      obtain ⟨g1, g2, g3⟩ := SX n xs rfl
      exact va_slen hx hb g1 g2 (fun z => absurd z (by show ¬ B < bs; omega)) hS hd (k _ _ _ _ _ hl hP hS hN hZ)
    · cases h1
  · rw [if_neg ha] at h1
    obtain ⟨s1, hs1, h3⟩ := ai_o2_s h1
    obtain ⟨hk, h4⟩ := ai_if_s h3
    obtain ⟨rfl, e9⟩ := ai_nx_s h4
    cases e9
    have he := ai_w_arr (bs := bs) (B := B) (cA := cA) ha hs1 (by omega)
    intro lm H locs cells slots hl hP hS hN hZ
    show W p l e R s m args below meth c H locs cells slots Q (F0 m pc lm (.ref (ai_ad bs B a) :: r.map (ai_rl bs B)))
    rw [ai_ad_ne ha]
    exact va_alen hx hb hK hP (a - 1) (s1.1 - 100) he (ai_tys_get (by omega)) rfl hd (k _ _ _ _ _ hl hP hS hN hZ)

end AIH
