section XANS
variable {S : List (Nat × Nat)} {F : Nat → Nat → Option Nat} {L : Nat → Nat → Int64} {I : Nat → Nat → Int32} {σ : ai_S}
theorem iv_take (hV : ai_IV σ) {j t q a k : Nat} (hj : j < σ.nJ) (hl : σ.lf j = false) (ht : t < σ.nT) (hq : q < σ.nQ) (ha : a < σ.an q) (hk : k < 3) : ai_IV (σ.take j (5 * t + q) (1 + 4 * k + a)) := by
  refine ⟨hV.nT, hV.nQ, hV.nJ, hV.mk, hV.lk, hV.hs, hV.st, hV.ch, hV.hd, hV.sz, hV.an, hV.pa, hV.tr, hV.ag, ?_, hV.lf, hV.sd, hV.sa, hV.sz0, hV.sl⟩
  · intro x c hc h0
    have hnQ := hV.nQ
    have han := hV.an q hq
    by_cases e : x = j ∧ c = 5 * t + q
    · obtain ⟨rfl, rfl⟩ := e
      have e2 : (σ.take x (5 * t + q) (1 + 4 * k + a)).gv x (5 * t + q) = 1 + 4 * k + a := by rw [take_gv, if_pos ⟨rfl, rfl⟩]
      refine ⟨hj, hl, ?_, ?_, ?_, ?_⟩
      · show (5 * t + q) / 5 < σ.nT
        omega
      · show (5 * t + q) % 5 < σ.nQ
        omega
      · show (σ.take x (5 * t + q) (1 + 4 * k + a)).said x (5 * t + q) < σ.an ((5 * t + q) % 5)
        unfold ai_S.said
        rw [e2, show (5 * t + q) % 5 = q by omega]
        omega
      · rw [e2]; omega
    · have e2 : (σ.take j (5 * t + q) (1 + 4 * k + a)).gv x c = σ.gv x c := by rw [take_gv, if_neg e]
      rw [e2] at h0
      have h1 := hV.gv x c hc h0
      refine ⟨h1.1, h1.2.1, h1.2.2.1, h1.2.2.2.1, ?_, ?_⟩
      · show (σ.take j (5 * t + q) (1 + 4 * k + a)).said x c < σ.an (c % 5)
        rw [said_of e2]; exact h1.2.2.2.2.1
      · rw [e2]; exact h1.2.2.2.2.2
theorem iv_leave (hV : ai_IV σ) {j : Nat} (hj : j < σ.nJ) : ai_IV (σ.leave j) := by
  refine ⟨hV.nT, hV.nQ, hV.nJ, hV.mk, hV.lk, hV.hs, hV.st, hV.ch, hV.hd, hV.sz, hV.an, hV.pa, hV.tr, hV.ag, ?_, ?_, hV.sd, hV.sa, hV.sz0, hV.sl⟩
  · intro x c hc h0
    by_cases e : x = j
    · exact absurd (by rw [leave_gv, if_pos e]) h0
    · have e2 : (σ.leave j).gv x c = σ.gv x c := by rw [leave_gv, if_neg e]
      rw [e2] at h0
      have h1 := hV.gv x c hc h0
      refine ⟨h1.1, ?_, h1.2.2.1, h1.2.2.2.1, ?_, ?_⟩
      · show (decide (x = j) || σ.lf x) = false
        rw [h1.2.1]; simp [e]
      · show (σ.leave j).said x c < σ.an (c % 5)
        rw [said_of e2]; exact h1.2.2.2.2.1
      · rw [e2]; exact h1.2.2.2.2.2
  · intro x h
    have h1 : (decide (x = j) || σ.lf x) = true := h
    by_cases e : x = j
    · subst e; exact hj
    · rw [decide_eq_false e] at h1; exact hV.lf x h1
theorem kindB_lt {j : Nat} {z : Int32} : σ.kindB j z < 3 := by
  unfold ai_S.kindB
  by_cases h : z < nI σ.hs
  · rw [c_T h]; omega
  · rw [c_F h]
    by_cases h2 : σ.sr j < nI 20
    · rw [c_T h2]; omega
    · rw [c_F h2]; omega
theorem given_take {j c g x : Nat} (hc : c < 200) (h0 : σ.gv j c = 0) (hg : g ≠ 0) : (σ.take j c g).given x = if x = j then σ.given x + 1 else σ.given x := by
  unfold ai_S.given
  by_cases e : x = j
  · subst e
    rw [if_pos rfl, qn_one (p := fun d => !(σ.gv x d == 0)) (c := c) (fun d hd => by show (!((σ.take x c g).gv x d == 0)) = _; rw [take_gv, if_neg (by omega)]) (by show (!(σ.gv x c == 0)) = false; rw [h0]; rfl), if_pos hc, take_gv, if_pos ⟨rfl, rfl⟩]
    simp [hg, ai_qb]
  · rw [if_neg e]
    exact qn_cong (fun d _ => by rw [take_gv, if_neg (by omega)])
def ai_tk (I I2 : Nat → Nat → Int32) (j c : Nat) (v1 v2 v3 : Int32) : Prop := I2 = ai_ui (ai_ui (ai_ui I (76 + 4 * j) 1 v1) (76 + 4 * j) 2 v2) (172 + 2 * c + 1) j v3
theorem tk_oth {I I2 : Nat → Nat → Int32} {j c : Nat} {v1 v2 v3 : Int32} (h : ai_tk I I2 j c v1 v2 v3) {a k : Nat} (h1 : ¬ (a = 76 + 4 * j ∧ (k = 1 ∨ k = 2))) (h2 : ¬ (a = 172 + 2 * c + 1 ∧ k = j)) : I2 a k = I a k := by
  unfold ai_tk at h
  obtain ⟨A, hA⟩ : ∃ z, z = ai_ui I (76 + 4 * j) 1 v1 := ⟨_, rfl⟩
  obtain ⟨B, hB⟩ : ∃ z, z = ai_ui A (76 + 4 * j) 2 v2 := ⟨_, rfl⟩
  rw [← hA, ← hB] at h
  rw [ui_other h (by omega), ui_other hB (by omega), ui_other hA (by omega)]
theorem tk_1 {I I2 : Nat → Nat → Int32} {j c : Nat} {v1 v2 v3 : Int32} (h : ai_tk I I2 j c v1 v2 v3) (hj : j < 24) : I2 (76 + 4 * j) 1 = v1 := by
  unfold ai_tk at h
  obtain ⟨A, hA⟩ : ∃ z, z = ai_ui I (76 + 4 * j) 1 v1 := ⟨_, rfl⟩
  obtain ⟨B, hB⟩ : ∃ z, z = ai_ui A (76 + 4 * j) 2 v2 := ⟨_, rfl⟩
  rw [← hA, ← hB] at h
  rw [ui_row h (by omega), ui_other hB (by omega)]; exact ui_same hA
theorem tk_2 {I I2 : Nat → Nat → Int32} {j c : Nat} {v1 v2 v3 : Int32} (h : ai_tk I I2 j c v1 v2 v3) (hj : j < 24) : I2 (76 + 4 * j) 2 = v2 := by
  unfold ai_tk at h
  obtain ⟨B, hB⟩ : ∃ z, z = ai_ui (ai_ui I (76 + 4 * j) 1 v1) (76 + 4 * j) 2 v2 := ⟨_, rfl⟩
  rw [← hB] at h
  rw [ui_row h (by omega)]; exact ui_same hB
theorem ro_take (hX : ai_RX σ I L) {j c g : Nat} (hj : j < 24) (hc : c < 200) (h0 : σ.gv j c = 0) (hg : g ≠ 0) {I2 : Nat → Nat → Int32} (h : ai_tk I I2 j c (nI (σ.given j + 1)) (σ.sr j + nI 1) (nI g)) : ai_RO (σ.take j c g) I2 L := by
  refine ⟨?_, ?_, ?_, ?_, ?_, ?_, ?_, ?_, ?_, ?_, ?_, ?_, ?_, ?_, ?_, ?_, ?_, ?_, ?_, ?_, ?_, ?_, ?_, ?_, ?_⟩
  · rw [tk_oth h (by omega) (by omega)]; exact hX.nT
  · rw [tk_oth h (by omega) (by omega)]; exact hX.nQ
  · rw [tk_oth h (by omega) (by omega)]; exact hX.nJ
  · rw [tk_oth h (by omega) (by omega)]; exact hX.mk
  · rw [tk_oth h (by omega) (by omega)]; exact hX.lk
  · rw [tk_oth h (by omega) (by omega)]; exact hX.hs
  · rw [tk_oth h (by omega) (by omega)]; exact hX.st
  · intro i g0; rw [tk_oth h (by omega) (by omega)]; exact hX.ch i g0
  · intro i g0; rw [tk_oth h (by omega) (by omega)]; exact hX.rf i g0
  · intro s g0; rw [tk_oth h (by omega) (by omega)]; exact hX.wr s g0
  · intro s g0; rw [tk_oth h (by omega) (by omega)]; exact hX.jd s g0
  · intro s g0 g1; rw [tk_oth h (by omega) (by omega)]; exact hX.so s g0 g1
  · intro s g0; rw [tk_oth h (by omega) (by omega)]; exact hX.sz s g0
  · exact hX.el
  · intro q g0 g1; rw [tk_oth h (by omega) (by omega)]; exact hX.an q g0 g1
  · intro q g0 g1 g2; rw [tk_oth h (by omega) (by omega)]; exact hX.pa q g0 g1 g2
  · intro q g0 g1 g2; rw [tk_oth h (by omega) (by omega)]; exact hX.wa q g0 g1 g2
  · intro j g0; rw [tk_oth h (by omega) (by omega)]; exact hX.lf j g0
  · intro x hx
    rw [given_take hc h0 hg]
    by_cases e : x = j
    · subst e; rw [if_pos rfl]; exact tk_1 h hj
    · rw [if_neg e, tk_oth h (by omega) (by omega)]; exact hX.gn x hx
  · intro x hx
    show I2 (76 + 4 * x) 2 = if x = j then σ.sr x + nI 1 else σ.sr x
    by_cases e : x = j
    · subst e; rw [if_pos rfl]; exact tk_2 h hj
    · rw [if_neg e, tk_oth h (by omega) (by omega)]; exact hX.sr x hx
  · intro j q a b g0 g1 g2 g3; rw [tk_oth h (by omega) (by omega)]; exact hX.sd j q a b g0 g1 g2 g3
  · intro j q b g0 g1 g2; rw [tk_oth h (by omega) (by omega)]; exact hX.sa j q b g0 g1 g2
  · intro c g0; rw [tk_oth h (by omega) (by omega)]; exact hX.tr c g0
  · intro c g0; rw [tk_oth h (by omega) (by omega)]; exact hX.ag c g0
  · intro x y hx hy
    rw [take_gv]
    by_cases e : y = j ∧ x = c
    · obtain ⟨rfl, rfl⟩ := e; rw [if_pos ⟨rfl, rfl⟩]; exact ui_same h
    · rw [if_neg e, tk_oth h (by omega) (by omega)]; exact hX.nt x y hx hy
theorem alc (hX : ai_RX σ I L) : ∀ y x, x < y → y < 24 → σ.lf x = false → σ.lf y = false → I (76 + 4 * y + 1) x = ai_al σ y x := hX.al
theorem J_end (hV : ai_IV σ) {j c g : Nat} (hc : c < 200) (hj : j < σ.nJ) (h0 : σ.gv j c = 0) (hJ : ai_J σ (σ.take j c g) j σ.nJ I) : ∀ y x, x < y → y < 24 → (σ.take j c g).lf x = false → (σ.take j c g).lf y = false → I (76 + 4 * y + 1) x = ai_al (σ.take j c g) y x := by
  intro y x h1 h2 h3 h4
  rw [hJ y x h1 h2 h3 h4]
  by_cases e : (y = j ∧ x < σ.nJ) ∨ (x = j ∧ y < σ.nJ)
  · rw [if_pos e]
  · rw [if_neg e]
    by_cases e1 : y = j
    · exact (al_nomeet (k := x) hc (by omega) h0 (Or.inl ⟨e1, rfl⟩) (by rw [not_fair0 (gv_hi hV hc (by omega))]; simp)).symm
    · by_cases e2 : x = j
      · exact (al_nomeet (k := y) hc e1 h0 (Or.inr ⟨rfl, e2⟩) (by rw [not_fair0 (gv_hi hV hc (by omega))]; simp)).symm
      · exact (al_other e1 e2).symm
theorem al_hasty {j c g : Nat} (hc : c < 200) (h0 : σ.gv j c = 0) (hg : 4 < g) {y x : Nat} (hyx : x < y) : (σ.take j c g).same y x = σ.same y x ∧ (σ.take j c g).diff y x = σ.diff y x := by
  have hf : (σ.take j c g).fair j c = false := by unfold ai_S.fair; rw [take_gv, if_pos ⟨rfl, rfl⟩]; exact decide_eq_false (by omega)
  by_cases e1 : y = j
  · have h := pair_take (g := g) (k := x) hc (by omega) h0 (y := y) (x := x) (Or.inl ⟨e1, rfl⟩)
    rw [hf] at h
    exact ⟨by rw [h.1]; simp [ai_qb], by rw [h.2]; simp⟩
  · by_cases e2 : x = j
    · have h := pair_take (g := g) (k := y) hc (by omega) h0 (y := y) (x := x) (Or.inr ⟨rfl, e2⟩)
      rw [hf] at h
      exact ⟨by rw [h.1]; simp [ai_qb], by rw [h.2]; simp⟩
    · exact al_of (fun d _ => by rw [take_gv, if_neg (by omega)]) (fun d _ => by rw [take_gv, if_neg (by omega)])
theorem ql_cong {p q : Nat → Bool} : ∀ {n : Nat}, (∀ k, k < n → p k = q k) → ai_ql p n = ai_ql q n := by
  intro n
  induction n with
  | zero => intro _; rfl
  | succ n ih =>
    intro h
    show (if ai_ql p n = 0 then (if p n = true then n + 1 else 0) else ai_ql p n) = (if ai_ql q n = 0 then (if q n = true then n + 1 else 0) else ai_ql q n)
    rw [ih (fun k hk => h k (by omega)), h n (by omega)]
theorem cop_hasty {j c g : Nat} (hc : c < 200) (h0 : σ.gv j c = 0) (hg : 4 < g) (x : Nat) : (σ.take j c g).cop x = σ.cop x := by
  rw [cop_eq, cop_eq]
  have e : ai_ql ((σ.take j c g).pc x) x = ai_ql (σ.pc x) x := ql_cong (fun k hk => by
    have h := al_hasty (σ := σ) (g := g) hc h0 hg hk
    unfold ai_S.pc ai_S.cpy
    rw [h.1, h.2]
    rfl)
  rw [e]
  rfl
theorem rx_hasty (hX : ai_RX σ I L) {j c g : Nat} (hj : j < 24) (hc : c < 200) (h0 : σ.gv j c = 0) (hg : 4 < g) {I2 : Nat → Nat → Int32} (h : ai_tk I I2 j c (nI (σ.given j + 1)) (σ.sr j + nI 1) (nI g)) : ai_RX (σ.take j c g) I2 L :=
  rx_of (ro_take hX hj hc h0 (by omega) h) (fun x hx => by rw [tk_oth h (by omega) (by omega), cop_hasty hc h0 hg]; exact hX.og x hx) (fun y x h1 h2 h3 h4 => by
    rw [tk_oth h (by omega) (by omega), hX.al y x h1 h2 h3 h4]
    have h9 := al_hasty (σ := σ) (g := g) hc h0 hg h1
    unfold ai_al; rw [h9.1, h9.2])
theorem x_takeN (G : ai_G S F) (hX : ai_RX σ I L) (hV : ai_IV σ) {j t q a : Nat} {z5 : Int32} (hj : j < σ.nJ) (hl : σ.lf j = false) (ht : t < σ.nT) (hq : q < σ.nQ) (ha : a < σ.an q) (h0 : σ.gv j (5 * t + q) = 0) : ai_Ev none 93 0 [some (.ref 1), some (.int (nI j)), some (.int (nI t)), some (.int (nI q)), some (.int (nI a)), some (.int z5), none, none, none] [] (S, I, L, F) (ai_Py S F L (fun v I2 => v = nI (σ.kindB j z5) ∧ ai_RX (σ.take j (5 * t + q) (1 + 4 * σ.kindB j z5 + a)) I2 L ∧ ∀ a, 572 ≤ a → I2 a = I a)) := by
  have hnT := hV.nT
  have hnQ := hV.nQ
  have hnJ := hV.nJ
  have hc : 5 * t + q < 200 := by omega
  have han := hV.an q hq
  refine ev_aload_n 1 rfl d93_0 rfl ?_
  refine ev_getr 4 rfl 8 2 d93_1 rfl (by omega) (G.1 _ _ (rfl : ai_sp 1 = (8, 0)) (by decide) (by decide)) (G.2 _ _ _ (rfl : ai_rf 1 2 = some 4)) ?_
  refine ev_iload_n 5 rfl d93_4 rfl ?_
  refine ev_aald_n 6 rfl d93_5 (by omega) (by decide) (G.1 _ _ (rfl : ai_sp 4 = (106, 24)) (by decide) (by decide)) (by omega) (by decide) (G.2 _ _ _ (rf_judge (by omega))) ?_
  refine ev_store_a 8 rfl d93_6 ⟨rfl, Nat.le_of_ble_eq_true rfl⟩ rfl ?_
  show ai_Ev _ _ _ [some (.ref 1), some (.int (nI j)), some (.int (nI t)), some (.int (nI q)), some (.int (nI a)), some (.int z5), some (.ref (76 + 4 * j)), none, none] _ _ _
  refine ev_iconst (v := nI 0) 9 rfl d93_8 (by decide) ?_
  refine ev_store_i 11 rfl d93_9 ⟨rfl, Nat.le_of_ble_eq_true rfl⟩ rfl ?_
  show ai_Ev _ _ _ [some (.ref 1), some (.int (nI j)), some (.int (nI t)), some (.int (nI q)), some (.int (nI a)), some (.int z5), some (.ref (76 + 4 * j)), some (.int (nI 0)), none] _ _ _
  refine ev_iload 13 rfl d93_11 rfl ?_
  refine ev_aload_n 14 rfl d93_13 rfl ?_
  refine ev_geti (v := nI σ.hs) 17 rfl 8 9 d93_14 rfl (by omega) (G.1 _ _ (rfl : ai_sp 1 = (8, 0)) (by decide) (by decide)) hX.hs ?_
  refine ev_icmp 26 20 (by decide) rfl cz_ge d93_17 (fun hc_17 => ?_) (fun hc_17 => ?_)
  · have hb1 : ¬ z5 < nI σ.hs := Int32.not_lt.mpr hc_17
    refine ev_aload 28 rfl d93_26 rfl ?_
    refine ev_geti (v := σ.sr j) 31 rfl 2 2 d93_28 rfl (by omega) (G.1 _ _ (sp_judge (by omega)) (by omega) (by omega)) (hX.sr _ (by omega)) ?_
    refine ev_bipush (v := nI 20) 33 rfl d93_31 (by decide) ?_
    refine ev_icmp 39 36 (by decide) rfl cz_lt d93_33 (fun hc_33 => ?_) (fun hc_33 => ?_)
    · have hkB : σ.kindB j z5 = 0 := by unfold ai_S.kindB; rw [c_F hb1, c_T hc_33]
      refine ev_aload 41 rfl d93_39 rfl ?_
      refine ev_dup 42 rfl d93_41 rfl ?_
      refine ev_geti (v := nI (σ.given j)) 45 rfl 2 1 d93_42 rfl (by omega) (G.1 _ _ (sp_judge (by omega)) (by omega) (by omega)) (hX.gn _ (by omega)) ?_
      refine ev_iconst (v := nI 1) 46 rfl d93_45 (by decide) ?_
      refine ev_iadd (v := nI ((σ.given j) + 1)) 47 rfl d93_46 (nI_add _ _) ?_
      obtain ⟨I_1, hI_1⟩ : ∃ z, z = ai_ui I (76 + 4 * j) 1 (nI ((σ.given j) + 1)) := ⟨_, rfl⟩
      refine ev_puti (I2 := I_1) 50 rfl 2 1 d93_47 rfl (by omega) (G.1 _ _ (sp_judge (by omega)) (by omega) (by omega)) (fun h => absurd h (by decide)) hI_1.symm ?_
      refine ev_aload 52 rfl d93_50 rfl ?_
      refine ev_dup 53 rfl d93_52 rfl ?_
      refine ev_geti (v := σ.sr j) 56 rfl 2 2 d93_53 rfl (by omega) (G.1 _ _ (sp_judge (by omega)) (by omega) (by omega)) (by rw [ui_other hI_1 (by omega)]; exact hX.sr j (by omega)) ?_
      refine ev_iconst (v := nI 1) 57 rfl d93_56 (by decide) ?_
      refine ev_iadd 58 rfl d93_57 rfl ?_
      obtain ⟨I_2, hI_2⟩ : ∃ z, z = ai_ui I_1 (76 + 4 * j) 2 ((σ.sr j) + (nI 1)) := ⟨_, rfl⟩
      refine ev_puti (I2 := I_2) 61 rfl 2 2 d93_58 rfl (by omega) (G.1 _ _ (sp_judge (by omega)) (by omega) (by omega)) (fun h => absurd h (by decide)) hI_2.symm ?_
      refine ev_aload_n 62 rfl d93_61 rfl ?_
      refine ev_iload_n 63 rfl d93_62 rfl ?_
      refine ev_iload_n 64 rfl d93_63 rfl ?_
      refine ev_cp2 67 rfl 89 d93_64 rfl rfl (by rw [G.1 _ _ (rfl : ai_sp 1 = (8, 0)) (by decide) (by decide)]; rfl) (by omega) rfl (x_caseOf G (t := t) (q := q) (by omega) (by omega)) ?_
      refine ev_store_a 69 rfl d93_67 ⟨rfl, Nat.le_of_ble_eq_true rfl⟩ rfl ?_
      show ai_Ev _ _ _ [some (.ref 1), some (.int (nI j)), some (.int (nI t)), some (.int (nI q)), some (.int (nI a)), some (.int z5), some (.ref (76 + 4 * j)), some (.int (nI 0)), some (.ref (172 + 2 * (5 * t + q)))] _ _ _
      refine ev_aload 71 rfl d93_69 rfl ?_
      refine ev_iload_n 72 rfl d93_71 rfl ?_
      refine ev_iload 74 rfl d93_72 rfl ?_
      refine ev_iload 76 rfl d93_74 rfl ?_
      refine ev_cu3 79 rfl 17 d93_76 rfl rfl (by rw [G.1 _ _ (sp_case (by omega)) (by omega) (by omega)]; rfl) (by omega) rfl (k_note G hc (by omega) (by omega) (by omega)) (fun I_3 hr_76 => ?_)
      have htk : ai_tk I I_3 j (5 * t + q) (nI (σ.given j + 1)) (σ.sr j + nI 1) (nI (1 + 4 * 0 + a)) := by unfold ai_tk; rw [hr_76, hI_2, hI_1]
      refine ev_iload 81 rfl d93_79 rfl ?_
      refine ev_if_F 95 84 (by decide) rfl (by decide) d93_81 ?_
      have hO3 := ro_take hX (by omega) hc h0 (by omega) htk
      have hal3 : ∀ y x, x < y → y < 24 → σ.lf x = false → σ.lf y = false → I_3 (76 + 4 * y + 1) x = ai_al σ y x := fun y x h1 h2 h3 h4 => by rw [tk_oth htk (by omega) (by omega)]; exact hX.al y x h1 h2 h3 h4
      refine ev_aload_n 85 rfl d93_84 rfl ?_
      refine ev_aload 87 rfl d93_85 rfl ?_
      refine ev_iload_n 88 rfl d93_87 rfl ?_
      refine ev_cu2 91 rfl 94 d93_88 rfl rfl (by rw [G.1 _ _ (rfl : ai_sp 1 = (8, 0)) (by decide) (by decide)]; rfl) (by omega) rfl (x_compare G hV hj hc (g := 1 + 4 * 0 + a) (by omega) h0 hl hO3 hal3) (fun I_4 hr_88 => ?_)
      obtain ⟨hJ4, hf4⟩ := hr_88
      have hO4 := ro_fL hO3 hf4
      have hal4 := J_end hV hc hj h0 hJ4
      refine ev_aload_n 92 rfl d93_91 rfl ?_
      refine ev_cu0 95 rfl 95 d93_92 rfl rfl (by rw [G.1 _ _ (rfl : ai_sp 1 = (8, 0)) (by decide) (by decide)]; rfl) (by omega) rfl (x_findOriginals (σ := σ.take j (5 * t + q) (1 + 4 * 0 + a)) G hnJ hO4 hal4) (fun I_5 hr_92 => ?_)
      obtain ⟨hog5, hhi5, hf5⟩ := hr_92
      have hX5 : ai_RX (σ.take j (5 * t + q) (1 + 4 * 0 + a)) I_5 L := rx_found hO4 hf5 hal4 hog5 (fun x h1 h2 => by
        have hx9 : σ.nJ ≤ x := h1
        rw [hhi5 x hx9, hf4 _ (by omega), tk_oth htk (by omega) (by omega), cop_hi (fun d hd => by rw [take_gv, if_neg (by omega)]; exact gv_hi hV hd hx9)]
        have h9 := hX.og x h2
        rw [cop_hi (fun d hd => gv_hi hV hd hx9)] at h9
        exact h9)
      refine ev_iload 97 rfl d93_95 rfl ?_
      refine ev_iret (Or.inl rfl) d93_97 ?_
      exact ⟨_, _, rfl, rfl, by rw [hkB], by rw [hkB]; exact hX5, fun a9 ha9 => by funext x9; rw [hf5 _ _ (by omega), hf4 _ (by omega), tk_oth htk (by omega) (by omega)]⟩
    · have hkB : σ.kindB j z5 = 2 := by unfold ai_S.kindB; rw [c_F hb1, c_F hc_33]
      refine ev_iconst (v := nI 2) 37 rfl d93_36 (by decide) ?_
      refine ev_store_i 39 rfl d93_37 ⟨rfl, Nat.le_of_ble_eq_true rfl⟩ rfl ?_
      show ai_Ev _ _ _ [some (.ref 1), some (.int (nI j)), some (.int (nI t)), some (.int (nI q)), some (.int (nI a)), some (.int z5), some (.ref (76 + 4 * j)), some (.int (nI 2)), none] _ _ _
      refine ev_aload 41 rfl d93_39 rfl ?_
      refine ev_dup 42 rfl d93_41 rfl ?_
      refine ev_geti (v := nI (σ.given j)) 45 rfl 2 1 d93_42 rfl (by omega) (G.1 _ _ (sp_judge (by omega)) (by omega) (by omega)) (hX.gn _ (by omega)) ?_
      refine ev_iconst (v := nI 1) 46 rfl d93_45 (by decide) ?_
      refine ev_iadd (v := nI ((σ.given j) + 1)) 47 rfl d93_46 (nI_add _ _) ?_
      obtain ⟨I_1, hI_1⟩ : ∃ z, z = ai_ui I (76 + 4 * j) 1 (nI ((σ.given j) + 1)) := ⟨_, rfl⟩
      refine ev_puti (I2 := I_1) 50 rfl 2 1 d93_47 rfl (by omega) (G.1 _ _ (sp_judge (by omega)) (by omega) (by omega)) (fun h => absurd h (by decide)) hI_1.symm ?_
      refine ev_aload 52 rfl d93_50 rfl ?_
      refine ev_dup 53 rfl d93_52 rfl ?_
      refine ev_geti (v := σ.sr j) 56 rfl 2 2 d93_53 rfl (by omega) (G.1 _ _ (sp_judge (by omega)) (by omega) (by omega)) (by rw [ui_other hI_1 (by omega)]; exact hX.sr j (by omega)) ?_
      refine ev_iconst (v := nI 1) 57 rfl d93_56 (by decide) ?_
      refine ev_iadd 58 rfl d93_57 rfl ?_
      obtain ⟨I_2, hI_2⟩ : ∃ z, z = ai_ui I_1 (76 + 4 * j) 2 ((σ.sr j) + (nI 1)) := ⟨_, rfl⟩
      refine ev_puti (I2 := I_2) 61 rfl 2 2 d93_58 rfl (by omega) (G.1 _ _ (sp_judge (by omega)) (by omega) (by omega)) (fun h => absurd h (by decide)) hI_2.symm ?_
      refine ev_aload_n 62 rfl d93_61 rfl ?_
      refine ev_iload_n 63 rfl d93_62 rfl ?_
      refine ev_iload_n 64 rfl d93_63 rfl ?_
      refine ev_cp2 67 rfl 89 d93_64 rfl rfl (by rw [G.1 _ _ (rfl : ai_sp 1 = (8, 0)) (by decide) (by decide)]; rfl) (by omega) rfl (x_caseOf G (t := t) (q := q) (by omega) (by omega)) ?_
      refine ev_store_a 69 rfl d93_67 ⟨rfl, Nat.le_of_ble_eq_true rfl⟩ rfl ?_
      show ai_Ev _ _ _ [some (.ref 1), some (.int (nI j)), some (.int (nI t)), some (.int (nI q)), some (.int (nI a)), some (.int z5), some (.ref (76 + 4 * j)), some (.int (nI 2)), some (.ref (172 + 2 * (5 * t + q)))] _ _ _
      refine ev_aload 71 rfl d93_69 rfl ?_
      refine ev_iload_n 72 rfl d93_71 rfl ?_
      refine ev_iload 74 rfl d93_72 rfl ?_
      refine ev_iload 76 rfl d93_74 rfl ?_
      refine ev_cu3 79 rfl 17 d93_76 rfl rfl (by rw [G.1 _ _ (sp_case (by omega)) (by omega) (by omega)]; rfl) (by omega) rfl (k_note G hc (by omega) (by omega) (by omega)) (fun I_3 hr_76 => ?_)
      have htk : ai_tk I I_3 j (5 * t + q) (nI (σ.given j + 1)) (σ.sr j + nI 1) (nI (1 + 4 * 2 + a)) := by unfold ai_tk; rw [hr_76, hI_2, hI_1]
      refine ev_iload 81 rfl d93_79 rfl ?_
      refine ev_if_T 95 (by decide) (by decide) d93_81 ?_
      refine ev_iload 97 rfl d93_95 rfl ?_
      refine ev_iret (Or.inl rfl) d93_97 ?_
      exact ⟨_, _, rfl, rfl, by rw [hkB], by rw [hkB]; exact rx_hasty hX (by omega) hc h0 (by omega) htk, fun a9 ha9 => by funext x9; rw [tk_oth htk (by omega) (by omega)]⟩
  · have hkB : σ.kindB j z5 = 1 := by unfold ai_S.kindB; rw [c_T (Int32.not_le.mp hc_17)]
    refine ev_iconst (v := nI 1) 21 rfl d93_20 (by decide) ?_
    refine ev_store_i 23 rfl d93_21 ⟨rfl, Nat.le_of_ble_eq_true rfl⟩ rfl ?_
    show ai_Ev _ _ _ [some (.ref 1), some (.int (nI j)), some (.int (nI t)), some (.int (nI q)), some (.int (nI a)), some (.int z5), some (.ref (76 + 4 * j)), some (.int (nI 1)), none] _ _ _
    refine ev_goto 39 (by decide) d93_23 ?_
    refine ev_aload 41 rfl d93_39 rfl ?_
    refine ev_dup 42 rfl d93_41 rfl ?_
    refine ev_geti (v := nI (σ.given j)) 45 rfl 2 1 d93_42 rfl (by omega) (G.1 _ _ (sp_judge (by omega)) (by omega) (by omega)) (hX.gn _ (by omega)) ?_
    refine ev_iconst (v := nI 1) 46 rfl d93_45 (by decide) ?_
    refine ev_iadd (v := nI ((σ.given j) + 1)) 47 rfl d93_46 (nI_add _ _) ?_
    obtain ⟨I_1, hI_1⟩ : ∃ z, z = ai_ui I (76 + 4 * j) 1 (nI ((σ.given j) + 1)) := ⟨_, rfl⟩
    refine ev_puti (I2 := I_1) 50 rfl 2 1 d93_47 rfl (by omega) (G.1 _ _ (sp_judge (by omega)) (by omega) (by omega)) (fun h => absurd h (by decide)) hI_1.symm ?_
    refine ev_aload 52 rfl d93_50 rfl ?_
    refine ev_dup 53 rfl d93_52 rfl ?_
    refine ev_geti (v := σ.sr j) 56 rfl 2 2 d93_53 rfl (by omega) (G.1 _ _ (sp_judge (by omega)) (by omega) (by omega)) (by rw [ui_other hI_1 (by omega)]; exact hX.sr j (by omega)) ?_
    refine ev_iconst (v := nI 1) 57 rfl d93_56 (by decide) ?_
    refine ev_iadd 58 rfl d93_57 rfl ?_
    obtain ⟨I_2, hI_2⟩ : ∃ z, z = ai_ui I_1 (76 + 4 * j) 2 ((σ.sr j) + (nI 1)) := ⟨_, rfl⟩
    refine ev_puti (I2 := I_2) 61 rfl 2 2 d93_58 rfl (by omega) (G.1 _ _ (sp_judge (by omega)) (by omega) (by omega)) (fun h => absurd h (by decide)) hI_2.symm ?_
    refine ev_aload_n 62 rfl d93_61 rfl ?_
    refine ev_iload_n 63 rfl d93_62 rfl ?_
    refine ev_iload_n 64 rfl d93_63 rfl ?_
    refine ev_cp2 67 rfl 89 d93_64 rfl rfl (by rw [G.1 _ _ (rfl : ai_sp 1 = (8, 0)) (by decide) (by decide)]; rfl) (by omega) rfl (x_caseOf G (t := t) (q := q) (by omega) (by omega)) ?_
    refine ev_store_a 69 rfl d93_67 ⟨rfl, Nat.le_of_ble_eq_true rfl⟩ rfl ?_
    show ai_Ev _ _ _ [some (.ref 1), some (.int (nI j)), some (.int (nI t)), some (.int (nI q)), some (.int (nI a)), some (.int z5), some (.ref (76 + 4 * j)), some (.int (nI 1)), some (.ref (172 + 2 * (5 * t + q)))] _ _ _
    refine ev_aload 71 rfl d93_69 rfl ?_
    refine ev_iload_n 72 rfl d93_71 rfl ?_
    refine ev_iload 74 rfl d93_72 rfl ?_
    refine ev_iload 76 rfl d93_74 rfl ?_
    refine ev_cu3 79 rfl 17 d93_76 rfl rfl (by rw [G.1 _ _ (sp_case (by omega)) (by omega) (by omega)]; rfl) (by omega) rfl (k_note G hc (by omega) (by omega) (by omega)) (fun I_3 hr_76 => ?_)
    have htk : ai_tk I I_3 j (5 * t + q) (nI (σ.given j + 1)) (σ.sr j + nI 1) (nI (1 + 4 * 1 + a)) := by unfold ai_tk; rw [hr_76, hI_2, hI_1]
    refine ev_iload 81 rfl d93_79 rfl ?_
    refine ev_if_T 95 (by decide) (by decide) d93_81 ?_
    refine ev_iload 97 rfl d93_95 rfl ?_
    refine ev_iret (Or.inl rfl) d93_97 ?_
    exact ⟨_, _, rfl, rfl, by rw [hkB], by rw [hkB]; exact rx_hasty hX (by omega) hc h0 (by omega) htk, fun a9 ha9 => by funext x9; rw [tk_oth htk (by omega) (by omega)]⟩
end XANS
