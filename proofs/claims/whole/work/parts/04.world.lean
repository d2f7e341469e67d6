def ai_ad (bs B a : Nat) : Nat := if a = 0 then bs else B + a
def ai_rl (bs B : Nat) (v : Value) : Value := match v with
  | .ref a => .ref (ai_ad bs B a)
  | v => v
theorem ai_ad_ne {bs B a : Nat} (h : a ≠ 0) : ai_ad bs B a = B + a := by simp [ai_ad, h]
theorem ai_ad_0 {bs B : Nat} : ai_ad bs B 0 = bs := by simp [ai_ad]
theorem ai_rl_cat (bs B : Nat) (v : Value) : (ai_rl bs B v).category = v.category := by cases v <;> rfl
theorem ai_rl_cats (bs B : Nat) (r : List Value) : ((r.map (ai_rl bs B)).map fun v => v.category) = r.map fun v => v.category := by
  rw [List.map_map]
  exact List.map_congr_left fun v _ => ai_rl_cat bs B v
theorem ai_i1_s {st : List Value} {f : Int32 → List Value → ai_O} {o} (h : ai_i1 st f = some o) : ∃ x r, st = .int x :: r ∧ f x r = some o := by
  unfold ai_i1 at h
  split at h
  · exact ⟨_, _, rfl, h⟩
  · cases h
theorem ai_l1_s {st : List Value} {f : Int64 → List Value → ai_O} {o} (h : ai_l1 st f = some o) : ∃ x r, st = .long x :: r ∧ f x r = some o := by
  unfold ai_l1 at h
  split at h
  · exact ⟨_, _, rfl, h⟩
  · cases h
theorem ai_r1_s {st : List Value} {f : Nat → List Value → ai_O} {o} (h : ai_r1 st f = some o) : ∃ x r, st = .ref x :: r ∧ f x r = some o := by
  unfold ai_r1 at h
  split at h
  · exact ⟨_, _, rfl, h⟩
  · cases h
theorem ai_i2_s {st : List Value} {f : Int32 → Int32 → List Value → ai_O} {o} (h : ai_i2 st f = some o) : ∃ x y r, st = .int y :: .int x :: r ∧ f x y r = some o := by
  obtain ⟨y, r1, rfl, h1⟩ := ai_i1_s h
  obtain ⟨x, r, rfl, h2⟩ := ai_i1_s h1
  exact ⟨x, y, r, rfl, h2⟩
theorem ai_l2_s {st : List Value} {f : Int64 → Int64 → List Value → ai_O} {o} (h : ai_l2 st f = some o) : ∃ x y r, st = .long y :: .long x :: r ∧ f x y r = some o := by
  obtain ⟨y, r1, rfl, h1⟩ := ai_l1_s h
  obtain ⟨x, r, rfl, h2⟩ := ai_l1_s h1
  exact ⟨x, y, r, rfl, h2⟩
theorem ai_ldi_s {ls : ai_L} {k : Nat} {f : Int32 → ai_O} {o} (h : ai_ldi ls k f = some o) : ∃ x, ls[k]? = some (some (.int x)) ∧ f x = some o := by
  unfold ai_ldi at h
  split at h
  · rename_i x e
    exact ⟨x, e, h⟩
  · cases h
theorem ai_ldl_s {ls : ai_L} {k : Nat} {f : Int64 → ai_O} {o} (h : ai_ldl ls k f = some o) : ∃ x, ls[k]? = some (some (.long x)) ∧ f x = some o := by
  unfold ai_ldl at h
  split at h
  · rename_i x e
    exact ⟨x, e, h⟩
  · cases h
theorem ai_lda_s {ls : ai_L} {k : Nat} {f : Nat → ai_O} {o} (h : ai_lda ls k f = some o) : ∃ x, ls[k]? = some (some (.ref x)) ∧ f x = some o := by
  unfold ai_lda at h
  split at h
  · rename_i x e
    exact ⟨x, e, h⟩
  · cases h
theorem ai_nx_s {w k pc : Nat} {ls : ai_L} {st : List Value} {h : ai_H} {o} (e : ai_nx w k pc ls st h = some o) : w = k ∧ o = .inl (pc + k, ls, st, h) := by
  unfold ai_nx at e
  split at e
  · rename_i q
    exact ⟨q, (Option.some.inj e).symm⟩
  · cases e
theorem ai_br_s {w pc : Nat} {off : Int} {ls : ai_L} {st : List Value} {h : ai_H} {o} (e : ai_br w pc off ls st h = some o) : w = 3 ∧ (pc : Int) + off = ((((pc : Int) + off).toNat : Nat) : Int) ∧ o = .inl (((pc : Int) + off).toNat, ls, st, h) := by
  unfold ai_br at e
  split at e
  · rename_i q
    exact ⟨q.1, (Int.toNat_of_nonneg q.2).symm, (Option.some.inj e).symm⟩
  · cases e
theorem ai_if_s {α : Type} {c : Prop} [Decidable c] {o : Option α} {b : α} (e : ai_if c o = some b) : c ∧ o = some b := by
  unfold ai_if at e
  split at e
  · rename_i q
    exact ⟨q, e⟩
  · cases e
theorem ai_o2_s {α β : Type} {o : Option α} {f : α → Option β} {b : β} (e : ai_o2 o f = some b) : ∃ x, o = some x ∧ f x = some b := by
  unfold ai_o2 at e
  split at e
  · exact ⟨_, rfl, e⟩
  · cases e
theorem ai_call_s {y q pc : Nat} {args rest : List Value} {o} (e : ai_call y q pc args rest = some o) : (q < 179 ∧ (rest.map fun v => v.category).sum ≤ 8 ∧ ai_fr q + 1 ≤ ai_fr y ∧ 8 + (ai_mx q + 11) + ai_lo q ≤ ai_lo y ∧ (ai_en args (ai_mx q)).length = ai_mx q) ∧ o = .inr (.inl (q, args, pc + 3, rest)) := by
  obtain ⟨h1, h2⟩ := ai_if_s e
  exact ⟨h1, (Option.some.inj h2).symm⟩
-- locals
def ai_LR (bs B n : Nat) (lm : Array Slot) (ls : ai_L) : Prop := ls.length = n ∧ lm.size = n ∧ lv_wf lm ∧ ∀ (j : Nat) (v : Value), ls[j]? = some (some v) → lm[j]? = some (.val (ai_rl bs B v))
def ai_lv (bs B : Nat) (ls : ai_L) : List (Nat × Value) := (List.range ls.length).filterMap fun j => match ls[j]? with
  | some (some v) => some (j, ai_rl bs B v)
  | _ => none
theorem ai_lv_mem {bs B : Nat} {ls : ai_L} {j : Nat} {v : Value} (h : ls[j]? = some (some v)) : (j, ai_rl bs B v) ∈ ai_lv bs B ls := by
  refine List.mem_filterMap.mpr ⟨j, List.mem_range.mpr (List.getElem?_eq_some_iff.mp h).1, ?_⟩
  rw [h]
theorem ai_lv_inv {bs B : Nat} {ls : ai_L} {q : Nat × Value} (h : q ∈ ai_lv bs B ls) : ∃ v, ls[q.1]? = some (some v) ∧ q.2 = ai_rl bs B v := by
  obtain ⟨j, -, e⟩ := List.mem_filterMap.mp h
  split at e
  · rename_i v hv
    cases e
    exact ⟨v, hv, rfl⟩
  · cases e
theorem ai_LR.has {bs B n : Nat} {lm : Array Slot} {ls : ai_L} (h : ai_LR bs B n lm ls) : lv_has lm n (ai_lv bs B ls) := by
  refine ⟨h.2.1, h.2.2.1, fun q hq => ?_⟩
  obtain ⟨v, h1, h2⟩ := ai_lv_inv hq
  rw [h2]
  exact h.2.2.2 _ _ h1
theorem ai_kill_get {ls : ai_L} {i j : Nat} {w : Value} (h : (ai_kill ls i)[j]? = some (some w)) : ls[j]? = some (some w) ∧ ¬ (j + 1 = i ∧ w.category = 2) := by
  unfold ai_kill at h
  split at h
  · exact ⟨h, by omega⟩
  · rename_i k
    split at h
    · rename_i v hv
      split at h
      · rename_i hc
        by_cases e : k = j
        · subst e
          rw [List.getElem?_set] at h
          simp at h
        · rw [List.getElem?_set_ne e] at h
          exact ⟨h, by omega⟩
      · rename_i hc
        refine ⟨h, fun q => hc ?_⟩
        have e : j = k := by omega
        subst e
        rw [hv] at h
        cases h
        exact q.2
    · rename_i hn
      refine ⟨h, fun q => ?_⟩
      have e : j = k := by omega
      subst e
      exact hn w h
theorem ai_kill_len (ls : ai_L) (i : Nat) : (ai_kill ls i).length = ls.length := by
  unfold ai_kill
  split
  · rfl
  · split
    · split
      · exact List.length_set
      · rfl
    · rfl
theorem ai_LR.s1 {bs B n : Nat} {lm lm' : Array Slot} {ls : ai_L} {i : Nat} {v : Value} (h : ai_LR bs B n lm ls)
    (h2 : lv_has lm' n ((i, ai_rl bs B v) :: (ai_lv bs B ls).filter (fun q => !(q.1 == i) && !(q.1 + 1 == i && q.2.category == 2)))) : ai_LR bs B n lm' (ai_s1 ls i v) := by
  refine ⟨by rw [ai_s1, List.length_set, ai_kill_len]; exact h.1, h2.1, h2.2.1, fun j w hj => ?_⟩
  refine h2.2.2 (j, ai_rl bs B w) ?_
  unfold ai_s1 at hj
  by_cases e : i = j
  · subst e
    rw [List.getElem?_set] at hj
    simp at hj
    rw [← hj.2]
    exact List.mem_cons_self
  · rw [List.getElem?_set_ne e] at hj
    obtain ⟨g1, g2⟩ := ai_kill_get hj
    refine List.mem_cons_of_mem _ (List.mem_filter.mpr ⟨ai_lv_mem g1, ?_⟩)
    rw [ai_rl_cat]
    have e' : ¬ j = i := fun z => e z.symm
    by_cases c1 : j + 1 = i
    · have c2 : ¬ w.category = 2 := fun z => g2 ⟨c1, z⟩
      simp [e', c2]
    · simp [e', c1]
theorem ai_LR.s2 {bs B n : Nat} {lm lm' : Array Slot} {ls : ai_L} {i : Nat} {v : Value} (h : ai_LR bs B n lm ls)
    (h2 : lv_has lm' n ((i, ai_rl bs B v) :: (ai_lv bs B ls).filter (fun q => !(q.1 == i) && (!(q.1 == i + 1) && !(q.1 + 1 == i && q.2.category == 2))))) : ai_LR bs B n lm' (ai_s2 ls i v) := by
  refine ⟨by rw [ai_s2, List.length_set, List.length_set, ai_kill_len]; exact h.1, h2.1, h2.2.1, fun j w hj => ?_⟩
  refine h2.2.2 (j, ai_rl bs B w) ?_
  unfold ai_s2 at hj
  by_cases e2 : i + 1 = j
  · subst e2
    rw [List.getElem?_set] at hj
    simp at hj
  · rw [List.getElem?_set_ne e2] at hj
    by_cases e : i = j
    · subst e
      rw [List.getElem?_set] at hj
      simp at hj
      rw [← hj.2]
      exact List.mem_cons_self
    · rw [List.getElem?_set_ne e] at hj
      obtain ⟨g1, g2⟩ := ai_kill_get hj
      refine List.mem_cons_of_mem _ (List.mem_filter.mpr ⟨ai_lv_mem g1, ?_⟩)
      rw [ai_rl_cat]
      have e' : ¬ j = i := fun z => e z.symm
      have e2' : ¬ j = i + 1 := fun z => e2 z.symm
      by_cases c1 : j + 1 = i
      · have c2 : ¬ w.category = 2 := fun z => g2 ⟨c1, z⟩
        simp [e', e2', c2]
      · simp [e', e2', c1]
-- the cells
def ai_e (bs B : Nat) (cA : Nat → ClassId) (h : ai_H) (a : Nat) : va_E := match h.1[a]? with
  | some s => if s.1 < 100 then .inr (s.1, (List.range (ai_N s.1)).map fun k => if ai_fk s.1 k = 2 then va_rf ((h.2.2.2 a k).map (ai_ad bs B)) else .int (h.2.1 a k))
    else .inl (cA (s.1 - 100), s.2, if s.1 < 103 then .inl (h.2.1 a) else if s.1 = 103 then .inr (.inl (h.2.2.1 a)) else .inr (.inr (.inr (.inr fun k => (h.2.2.2 a k).map (ai_ad bs B)))))
  | none => .inr (0, [])
def ai_w (bs B : Nat) (cA : Nat → ClassId) (h : ai_H) : va_W := (List.range (h.1.length - 1)).map fun i => (B + (i + 1), ai_e bs B cA h (i + 1))
theorem ai_w_get {bs B : Nat} {cA : Nat → ClassId} {h : ai_H} {a : Nat} (h0 : a ≠ 0) (hl : a < h.1.length) : (ai_w bs B cA h)[a - 1]? = some (B + a, ai_e bs B cA h a) := by
  unfold ai_w
  rw [List.getElem?_map, List.getElem?_range (by omega)]
  show some (B + (a - 1 + 1), ai_e bs B cA h (a - 1 + 1)) = _
  rw [show a - 1 + 1 = a by omega]
theorem ai_w_inv {bs B : Nat} {cA : Nat → ClassId} {h : ai_H} {i : Nat} {q : Nat × va_E} (e : (ai_w bs B cA h)[i]? = some q) : i + 1 < h.1.length ∧ q = (B + (i + 1), ai_e bs B cA h (i + 1)) := by
  unfold ai_w at e
  rw [List.getElem?_map] at e
  by_cases hi : i < h.1.length - 1
  · rw [List.getElem?_range hi] at e
    exact ⟨by omega, (Option.some.inj e).symm⟩
  · rw [List.getElem?_eq_none (by simp; omega)] at e
    cases e
theorem ai_w_D {bs B : Nat} {cA : Nat → ClassId} {h : ai_H} : va_D (fun q => B < q) (ai_w bs B cA h) := by
  refine ⟨fun i j p q hi hj e => ?_, fun k q hk => ?_⟩
  · obtain ⟨-, rfl⟩ := ai_w_inv hi
    obtain ⟨-, rfl⟩ := ai_w_inv hj
    dsimp only at e
    omega
  · obtain ⟨-, rfl⟩ := ai_w_inv hk
    show B < B + (k + 1)
    omega
theorem ai_w_len {bs B : Nat} {cA : Nat → ClassId} {h : ai_H} : (ai_w bs B cA h).length = h.1.length - 1 := by simp [ai_w]
theorem ai_w_set {bs B : Nat} {cA : Nat → ClassId} {h h' : ai_H} {a : Nat} {e : va_E} (h0 : a ≠ 0) (hl : a < h.1.length) (hs : h'.1.length = h.1.length) (he : e = ai_e bs B cA h' a) (hr : ∀ b, b ≠ a → ai_e bs B cA h' b = ai_e bs B cA h b) : (ai_w bs B cA h).set (a - 1) (B + a, e) = ai_w bs B cA h' := by
  subst he
  apply List.ext_getElem?
  intro i
  by_cases hi : i + 1 < h.1.length
  · rw [show (ai_w bs B cA h')[i]? = some (B + (i + 1), ai_e bs B cA h' (i + 1)) from ai_w_get (a := i + 1) (by omega) (by omega)]
    by_cases e : a - 1 = i
    · subst e
      rw [List.getElem?_set_self (by rw [ai_w_len]; omega), show a - 1 + 1 = a by omega]
    · rw [List.getElem?_set_ne e, show (ai_w bs B cA h)[i]? = some (B + (i + 1), ai_e bs B cA h (i + 1)) from ai_w_get (a := i + 1) (by omega) (by omega), hr (i + 1) (by omega)]
  · rw [List.getElem?_eq_none (by rw [List.length_set, ai_w_len]; omega), List.getElem?_eq_none (by rw [ai_w_len]; omega)]
theorem ai_w_push {bs B : Nat} {cA : Nat → ClassId} {h h' : ai_H} {e : va_E} {q : Nat} (h1 : 1 ≤ h.1.length) (hs : h'.1.length = h.1.length + 1) (hq : q = B + h.1.length) (he : e = ai_e bs B cA h' h.1.length) (hr : ∀ b, b < h.1.length → ai_e bs B cA h' b = ai_e bs B cA h b) : ai_w bs B cA h ++ [(q, e)] = ai_w bs B cA h' := by
  subst he; subst hq
  apply List.ext_getElem?
  intro i
  by_cases hi : i + 1 < h.1.length
  · rw [List.getElem?_append_left (by rw [ai_w_len]; omega), show (ai_w bs B cA h)[i]? = some (B + (i + 1), ai_e bs B cA h (i + 1)) from ai_w_get (a := i + 1) (by omega) (by omega), show (ai_w bs B cA h')[i]? = some (B + (i + 1), ai_e bs B cA h' (i + 1)) from ai_w_get (a := i + 1) (by omega) (by omega), hr (i + 1) hi]
  · rw [List.getElem?_append_right (by rw [ai_w_len]; omega), ai_w_len]
    by_cases hi2 : i + 1 = h.1.length
    · rw [show i - (h.1.length - 1) = 0 by omega, show (ai_w bs B cA h')[i]? = some (B + (i + 1), ai_e bs B cA h' (i + 1)) from ai_w_get (a := i + 1) (by omega) (by omega), hi2]
      rfl
    · rw [List.getElem?_eq_none (l := ai_w bs B cA h') (by rw [ai_w_len]; omega)]
      rw [List.getElem?_eq_none (by simp; omega)]
theorem ai_e_obj {bs B : Nat} {cA : Nat → ClassId} {h : ai_H} {a : Nat} {s : Nat × Nat} (hs : h.1[a]? = some s) (hk : s.1 < 100) : ai_e bs B cA h a = .inr (s.1, (List.range (ai_N s.1)).map fun k => if ai_fk s.1 k = 2 then va_rf ((h.2.2.2 a k).map (ai_ad bs B)) else .int (h.2.1 a k)) := by
  simp [ai_e, hs, hk]
theorem ai_e_arr {bs B : Nat} {cA : Nat → ClassId} {h : ai_H} {a : Nat} {s : Nat × Nat} (hs : h.1[a]? = some s) (hk : 100 ≤ s.1) : ai_e bs B cA h a = .inl (cA (s.1 - 100), s.2, if s.1 < 103 then .inl (h.2.1 a) else if s.1 = 103 then .inr (.inl (h.2.2.1 a)) else .inr (.inr (.inr (.inr fun k => (h.2.2.2 a k).map (ai_ad bs B))))) := by
  simp [ai_e, hs, show ¬ s.1 < 100 by omega]
theorem ai_e_same {bs B : Nat} {cA : Nat → ClassId} {h h' : ai_H} {b : Nat} (h1 : h'.1[b]? = h.1[b]?) (h2 : h'.2.1 b = h.2.1 b) (h3 : h'.2.2.1 b = h.2.2.1 b) (h4 : h'.2.2.2 b = h.2.2.2 b) : ai_e bs B cA h' b = ai_e bs B cA h b := by
  simp only [ai_e, h1, h2, h3, h4]
theorem ai_ui_ne {I : Nat → Nat → Int32} {a k b : Nat} {v : Int32} (h : b ≠ a) : ai_ui I a k v b = I b := by simp [ai_ui, h]
theorem ai_ui_eq {I : Nat → Nat → Int32} {a k : Nat} {v : Int32} : ai_ui I a k v a = upd (I a) k v := by funext j; simp [ai_ui, upd]
theorem ai_ul_ne {I : Nat → Nat → Int64} {a k b : Nat} {v : Int64} (h : b ≠ a) : ai_ul I a k v b = I b := by simp [ai_ul, h]
theorem ai_ul_eq {I : Nat → Nat → Int64} {a k : Nat} {v : Int64} : ai_ul I a k v a = vp_updL (I a) k v := by funext j; simp [ai_ul, vp_updL]
theorem ai_ur_ne {I : Nat → Nat → Option Nat} {a k b : Nat} {v : Option Nat} (h : b ≠ a) : ai_ur I a k v b = I b := by simp [ai_ur, h]
theorem ai_ur_eq {I : Nat → Nat → Option Nat} {a k : Nat} {v : Option Nat} : ai_ur I a k v a = va_up (I a) k v := by funext j; simp [ai_ur, va_up]
theorem ai_row_ne {α : Type} {I : Nat → Nat → α} {a b : Nat} {r : Nat → α} (h : b ≠ a) : ai_row I a r b = I b := by simp [ai_row, h]
theorem ai_row_eq {α : Type} {I : Nat → Nat → α} {a : Nat} {r : Nat → α} : ai_row I a r a = r := by simp [ai_row]
theorem ai_setR {N : Nat} {f g : Nat → Value} {k : Nat} {v : Value} (h1 : g k = v) (h2 : ∀ j, j ≠ k → g j = f j) : ((List.range N).map f).set k v = (List.range N).map g := by
  apply List.ext_getElem?
  intro i
  by_cases e : k = i
  · subst e
    rw [List.getElem?_set]
    by_cases hk : k < N
    · simp [hk, h1]
    · simp [hk]
  · rw [List.getElem?_set_ne e, List.getElem?_map, List.getElem?_map]
    by_cases hi : i < N
    · rw [List.getElem?_range hi]
      show some (f i) = some (g i)
      rw [h2 i (fun z => e z.symm)]
    · rw [List.getElem?_eq_none (by simp; omega)]
      rfl
theorem ai_ss_app (a b : List (Nat × Nat)) : ai_ss (a ++ b) = ai_ss a + ai_ss b := by simp [ai_ss]
