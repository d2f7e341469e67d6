section XANS2
variable {S : List (Nat × Nat)} {F : Nat → Nat → Option Nat} {L : Nat → Nat → Int64} {I : Nat → Nat → Int32} {σ : ai_S}
theorem x_takeZ (G : ai_G S F) (hX : ai_RX σ I L) (hV : ai_IV σ) {z1 z2 z3 z4 z5 : Int32} (h : σ.ar z1 z2 z3 z4 z5 = 0) : ai_Ev none 93 0 [some (.ref 1), some (.int z1), some (.int z2), some (.int z3), some (.int z4), some (.int z5), none, none, none] [] (S, I, L, F) (ai_Py S F L (fun v I2 => v = nI (σ.kindB (ai_nn z1) z5) ∧ ai_RX (σ.took z1 z2 z3 z4 z5) I2 L ∧ ∀ a, 572 ≤ a → I2 a = I a)) := by
  have hnT := hV.nT
  have hnQ := hV.nQ
  have hnJ := hV.nJ
  obtain ⟨j, t, q, a, rfl, rfl, rfl, rfl, hj, hl, ht, hq, ha, h5, h0⟩ := ar_0 h hnT hnQ hnJ
  have han := hV.an q hq
  have h1 := x_takeN (S := S) (F := F) (L := L) (z5 := z5) G hX hV hj hl ht hq ha h0
  unfold ai_S.took
  rw [nn_I (show j < 2147483648 by omega), nn_I (show t < 2147483648 by omega), nn_I (show q < 2147483648 by omega), nn_I (show a < 2147483648 by omega)]
  exact h1
theorem iv_took (hV : ai_IV σ) {z1 z2 z3 z4 z5 : Int32} (h : σ.ar z1 z2 z3 z4 z5 = 0) : ai_IV (σ.took z1 z2 z3 z4 z5) := by
  have hnT := hV.nT
  have hnQ := hV.nQ
  have hnJ := hV.nJ
  obtain ⟨j, t, q, a, rfl, rfl, rfl, rfl, hj, hl, ht, hq, ha, h5, h0⟩ := ar_0 h hnT hnQ hnJ
  have han := hV.an q hq
  unfold ai_S.took
  rw [nn_I (show j < 2147483648 by omega), nn_I (show t < 2147483648 by omega), nn_I (show q < 2147483648 by omega), nn_I (show a < 2147483648 by omega)]
  exact iv_take hV hj hl ht hq ha kindB_lt
theorem x_answer (G : ai_G S F) (hX : ai_RX σ I L) (hV : ai_IV σ) {z1 : Int32} {z2 : Int32} {z3 : Int32} {z4 : Int32} {z5 : Int32} : ai_Ev none 64 0 [some (.ref 1), some (.int z1), some (.int z2), some (.int z3), some (.int z4), some (.int z5), none] [] (S, I, L, F) (ai_PX S F I L (o_answer σ z1 z2 z3 z4 z5)) := by
  have hnT := hV.nT
  have hnQ := hV.nQ
  have hnJ := hV.nJ
  unfold o_answer
  refine ev_aload_n 1 rfl d64_0 rfl ?_
  refine ev_iload_n 2 rfl d64_1 rfl ?_
  refine ev_iload_n 3 rfl d64_2 rfl ?_
  refine ev_iload_n 4 rfl d64_3 rfl ?_
  refine ev_iload 6 rfl d64_4 rfl ?_
  refine ev_iload 8 rfl d64_6 rfl ?_
  refine ev_cp5 11 rfl 92 d64_8 rfl rfl (by rw [G.1 _ _ (rfl : ai_sp 1 = (8, 0)) (by decide) (by decide)]; rfl) (by omega) rfl (x_answerRefusal G hX hV) ?_
  refine ev_store_i 13 rfl d64_11 ⟨rfl, Nat.le_of_ble_eq_true rfl⟩ rfl ?_
  show ai_Ev _ _ _ [some (.ref 1), some (.int z1), some (.int z2), some (.int z3), some (.int z4), some (.int z5), some (.int (-(nI (σ.ar z1 z2 z3 z4 z5))))] _ _ _
  refine ev_iload 15 rfl d64_13 rfl ?_
  refine ev_if 25 18 (by decide) rfl cz_eq d64_15 (fun hc_15 => ?_) (fun hc_15 => ?_)
  · have hc9 : (σ.ar z1 z2 z3 z4 z5) = 0 := (neg0 (by have := ar_le (σ := σ) (z1 := z1) (z2 := z2) (z3 := z3) (z4 := z4) (z5 := z5); omega)).mp hc_15
    rw [c_T hc9]
    try rw [c_T hc_15]
    refine ev_aload_n 26 rfl d64_25 rfl ?_
    refine ev_iload_n 27 rfl d64_26 rfl ?_
    refine ev_iload_n 28 rfl d64_27 rfl ?_
    refine ev_iload_n 29 rfl d64_28 rfl ?_
    refine ev_iload 31 rfl d64_29 rfl ?_
    refine ev_iload 33 rfl d64_31 rfl ?_
    refine ev_cy5 36 rfl 93 d64_33 rfl rfl (by rw [G.1 _ _ (rfl : ai_sp 1 = (8, 0)) (by decide) (by decide)]; rfl) (by omega) rfl (x_takeZ G hX hV hc9) (fun v_2 I_1 hr_33 => ?_)
    obtain ⟨rfl, hX2, hf2⟩ := hr_33
    refine ev_iret (Or.inl rfl) d64_36 ?_
    exact ⟨_, _, rfl, rfl, hX2, fun a ha => ⟨hf2 a ha, rfl⟩⟩
  · have hc9 : ¬ (σ.ar z1 z2 z3 z4 z5) = 0 := fun q => hc_15 ((neg0 (by omega)).mpr q)
    rw [c_F hc9]
    try rw [c_F hc_15]
    refine ev_aload_n 19 rfl d64_18 rfl ?_
    refine ev_iload 21 rfl d64_19 rfl ?_
    refine ev_cy1 24 rfl 90 d64_21 rfl rfl (by rw [G.1 _ _ (rfl : ai_sp 1 = (8, 0)) (by decide) (by decide)]; rfl) (by omega) rfl (x_refuse (I := I) (L := L) (S := S) (F := F) G (k := (σ.ar z1 z2 z3 z4 z5)) (by have := ar_le (σ := σ) (z1 := z1) (z2 := z2) (z3 := z3) (z4 := z4) (z5 := z5); omega)) (fun v_2 I_1 hr_21 => ?_)
    refine ev_iret (Or.inl rfl) d64_24 ?_
    exact px_ref hX (by have := ar_le (σ := σ) (z1 := z1) (z2 := z2) (z3 := z3) (z4 := z4) (z5 := z5); omega) hr_21
theorem x_ans_loop (G : ai_G S F) {I0 : Nat → Nat → Int32} {s : Nat} {zz zr : Int32} (hs : s < 8) : ∀ (k : Nat) (σ : ai_S) (n : Nat) (I : Nat → Nat → Int32) (u6 u7 u8 u9 u10 : Option Value), ai_IV σ → n + k = 21 → ai_RX σ I L → (∀ a, 572 ≤ a → I a = I0 a) → ai_Ev none 65 29 [some (.ref 1), some (.int zz), some (.int zr), some (.ref (55 + 2 * s)), some (.int (nI n)), some (.int (nI (5 * n))), u6, u7, u8, u9, u10] [] (S, I, L, F) (ai_Py S F L (fun v I2 => v = nI (ai_ago k σ s n).2 ∧ ai_RX (ai_ago k σ s n).1 I2 L ∧ ∀ a, 572 ≤ a → I2 a = I0 a)) := by
  intro k
  induction k with
  | zero =>
    intro σ n I u6 u7 u8 u9 u10 hV hz hX hf
    refine ev_aload_n 30 rfl d65_29 rfl ?_
    refine ev_iload 32 rfl d65_30 rfl ?_
    refine ev_iconst (v := nI 5) 33 rfl d65_32 (by decide) ?_
    refine ev_cb2 36 rfl 48 d65_33 rfl rfl (by rw [G.1 _ _ (sp_shelf (by omega)) (by omega) (by omega)]; rfl) (by omega) rfl (h_range G (by omega) (hV.sz s (by omega)) (hX.sz s (by omega)) (by omega) (by omega)) (fun hq_33 => ?_) (fun hq_33 => ?_)
    · exfalso
      have := hV.sz s (by omega)
      omega
    · refine ev_if_T 141 (by decide) (by decide) d65_36 ?_
      have hstop : ai_ago 0 σ s n = (σ, n) := rfl
      refine ev_iload 143 rfl d65_141 rfl ?_
      refine ev_iret (Or.inl rfl) d65_143 ?_
      rw [hstop]
      exact ⟨_, _, rfl, rfl, rfl, hX, hf⟩
  | succ k ih =>
    intro σ n I u6 u7 u8 u9 u10 hV hz hX hf
    have hsz := hV.sz s hs
    refine ev_aload_n 30 rfl d65_29 rfl ?_
    refine ev_iload 32 rfl d65_30 rfl ?_
    refine ev_iconst (v := nI 5) 33 rfl d65_32 (by decide) ?_
    refine ev_cb2 36 rfl 48 d65_33 rfl rfl (by rw [G.1 _ _ (sp_shelf (by omega)) (by omega) (by omega)]; rfl) (by omega) rfl (h_range G (by omega) (hV.sz s (by omega)) (hX.sz s (by omega)) (by omega) (by omega)) (fun hq_33 => ?_) (fun hq_33 => ?_)
    · refine ev_if_F 141 39 (by decide) rfl (by decide) d65_36 ?_
      refine ev_aload_n 40 rfl d65_39 rfl ?_
      refine ev_getr 43 rfl 6 4 d65_40 rfl (by omega) (G.1 _ _ (sp_shelf (by omega)) (by omega) (by omega)) (G.2 _ _ _ (rf_elems (by omega))) ?_
      refine ev_iload 45 rfl d65_43 rfl ?_
      refine ev_lald_n (v := σ.el s (5 * n + 0)) 46 rfl d65_45 (by omega) (G.1 _ _ (sp_elems (by omega)) (by omega) (by omega)) (by omega) (by decide) (hX.el s (by omega) _ (by omega)) ?_
      refine ev_l2i 47 rfl d65_46 rfl ?_
      refine ev_store_i 49 rfl d65_47 ⟨rfl, Nat.le_of_ble_eq_true rfl⟩ rfl ?_
      show ai_Ev _ _ _ [some (.ref 1), some (.int zz), some (.int zr), some (.ref (55 + 2 * s)), some (.int (nI n)), some (.int (nI (5 * n))), some (.int ((σ.el s (5 * n + 0)).toInt32)), u7, u8, u9, u10] _ _ _
      refine ev_aload_n 50 rfl d65_49 rfl ?_
      refine ev_getr 53 rfl 6 4 d65_50 rfl (by omega) (G.1 _ _ (sp_shelf (by omega)) (by omega) (by omega)) (G.2 _ _ _ (rf_elems (by omega))) ?_
      refine ev_iload 55 rfl d65_53 rfl ?_
      refine ev_iconst (v := nI 1) 56 rfl d65_55 (by decide) ?_
      refine ev_iadd (v := nI ((5 * n) + 1)) 57 rfl d65_56 (nI_add _ _) ?_
      refine ev_lald_n (v := σ.el s (5 * n + 1)) 58 rfl d65_57 (by omega) (G.1 _ _ (sp_elems (by omega)) (by omega) (by omega)) (by omega) (by decide) (hX.el s (by omega) _ (by omega)) ?_
      refine ev_l2i 59 rfl d65_58 rfl ?_
      refine ev_store_i 61 rfl d65_59 ⟨rfl, Nat.le_of_ble_eq_true rfl⟩ rfl ?_
      show ai_Ev _ _ _ [some (.ref 1), some (.int zz), some (.int zr), some (.ref (55 + 2 * s)), some (.int (nI n)), some (.int (nI (5 * n))), some (.int ((σ.el s (5 * n + 0)).toInt32)), some (.int ((σ.el s (5 * n + 1)).toInt32)), u8, u9, u10] _ _ _
      refine ev_aload_n 62 rfl d65_61 rfl ?_
      refine ev_getr 65 rfl 6 4 d65_62 rfl (by omega) (G.1 _ _ (sp_shelf (by omega)) (by omega) (by omega)) (G.2 _ _ _ (rf_elems (by omega))) ?_
      refine ev_iload 67 rfl d65_65 rfl ?_
      refine ev_iconst (v := nI 2) 68 rfl d65_67 (by decide) ?_
      refine ev_iadd (v := nI ((5 * n) + 2)) 69 rfl d65_68 (nI_add _ _) ?_
      refine ev_lald_n (v := σ.el s (5 * n + 2)) 70 rfl d65_69 (by omega) (G.1 _ _ (sp_elems (by omega)) (by omega) (by omega)) (by omega) (by decide) (hX.el s (by omega) _ (by omega)) ?_
      refine ev_l2i 71 rfl d65_70 rfl ?_
      refine ev_store_i 73 rfl d65_71 ⟨rfl, Nat.le_of_ble_eq_true rfl⟩ rfl ?_
      show ai_Ev _ _ _ [some (.ref 1), some (.int zz), some (.int zr), some (.ref (55 + 2 * s)), some (.int (nI n)), some (.int (nI (5 * n))), some (.int ((σ.el s (5 * n + 0)).toInt32)), some (.int ((σ.el s (5 * n + 1)).toInt32)), some (.int ((σ.el s (5 * n + 2)).toInt32)), u9, u10] _ _ _
      refine ev_aload_n 74 rfl d65_73 rfl ?_
      refine ev_getr 77 rfl 6 4 d65_74 rfl (by omega) (G.1 _ _ (sp_shelf (by omega)) (by omega) (by omega)) (G.2 _ _ _ (rf_elems (by omega))) ?_
      refine ev_iload 79 rfl d65_77 rfl ?_
      refine ev_iconst (v := nI 3) 80 rfl d65_79 (by decide) ?_
      refine ev_iadd (v := nI ((5 * n) + 3)) 81 rfl d65_80 (nI_add _ _) ?_
      refine ev_lald_n (v := σ.el s (5 * n + 3)) 82 rfl d65_81 (by omega) (G.1 _ _ (sp_elems (by omega)) (by omega) (by omega)) (by omega) (by decide) (hX.el s (by omega) _ (by omega)) ?_
      refine ev_l2i 83 rfl d65_82 rfl ?_
      refine ev_store_i 85 rfl d65_83 ⟨rfl, Nat.le_of_ble_eq_true rfl⟩ rfl ?_
      show ai_Ev _ _ _ [some (.ref 1), some (.int zz), some (.int zr), some (.ref (55 + 2 * s)), some (.int (nI n)), some (.int (nI (5 * n))), some (.int ((σ.el s (5 * n + 0)).toInt32)), some (.int ((σ.el s (5 * n + 1)).toInt32)), some (.int ((σ.el s (5 * n + 2)).toInt32)), some (.int ((σ.el s (5 * n + 3)).toInt32)), u10] _ _ _
      refine ev_aload_n 86 rfl d65_85 rfl ?_
      refine ev_getr 89 rfl 6 4 d65_86 rfl (by omega) (G.1 _ _ (sp_shelf (by omega)) (by omega) (by omega)) (G.2 _ _ _ (rf_elems (by omega))) ?_
      refine ev_iload 91 rfl d65_89 rfl ?_
      refine ev_iconst (v := nI 4) 92 rfl d65_91 (by decide) ?_
      refine ev_iadd (v := nI ((5 * n) + 4)) 93 rfl d65_92 (nI_add _ _) ?_
      refine ev_lald_n (v := σ.el s (5 * n + 4)) 94 rfl d65_93 (by omega) (G.1 _ _ (sp_elems (by omega)) (by omega) (by omega)) (by omega) (by decide) (hX.el s (by omega) _ (by omega)) ?_
      refine ev_l2i 95 rfl d65_94 rfl ?_
      refine ev_store_i 97 rfl d65_95 ⟨rfl, Nat.le_of_ble_eq_true rfl⟩ rfl ?_
      show ai_Ev _ _ _ [some (.ref 1), some (.int zz), some (.int zr), some (.ref (55 + 2 * s)), some (.int (nI n)), some (.int (nI (5 * n))), some (.int ((σ.el s (5 * n + 0)).toInt32)), some (.int ((σ.el s (5 * n + 1)).toInt32)), some (.int ((σ.el s (5 * n + 2)).toInt32)), some (.int ((σ.el s (5 * n + 3)).toInt32)), some (.int ((σ.el s (5 * n + 4)).toInt32))] _ _ _
      refine ev_aload_n 98 rfl d65_97 rfl ?_
      refine ev_iload 100 rfl d65_98 rfl ?_
      refine ev_iload 102 rfl d65_100 rfl ?_
      refine ev_iload 104 rfl d65_102 rfl ?_
      refine ev_iload 106 rfl d65_104 rfl ?_
      refine ev_iload 108 rfl d65_106 rfl ?_
      refine ev_cp5 111 rfl 92 d65_108 rfl rfl (by rw [G.1 _ _ (rfl : ai_sp 1 = (8, 0)) (by decide) (by decide)]; rfl) (by omega) rfl (show ai_Ev none 92 0 _ [] (S, I, L, F) (ai_Pp S F I L (.int (-(nI (σ.ar (σ.e5 s n 0) (σ.e5 s n 1) (σ.e5 s n 2) (σ.e5 s n 3) (σ.e5 s n 4)))))) from x_answerRefusal G hX hV) ?_
      refine ev_if 117 114 (by decide) rfl cz_eq d65_111 (fun hc_111 => ?_) (fun hc_111 => ?_)
      · have hc9 : (σ.ar (σ.e5 s n 0) (σ.e5 s n 1) (σ.e5 s n 2) (σ.e5 s n 3) (σ.e5 s n 4)) = 0 := (neg0 (by have := ar_le (σ := σ) (z1 := (σ.e5 s n 0)) (z2 := (σ.e5 s n 1)) (z3 := (σ.e5 s n 2)) (z4 := (σ.e5 s n 3)) (z5 := (σ.e5 s n 4)); omega)).mp hc_111
        refine ev_aload_n 118 rfl d65_117 rfl ?_
        refine ev_iload 120 rfl d65_118 rfl ?_
        refine ev_iload 122 rfl d65_120 rfl ?_
        refine ev_iload 124 rfl d65_122 rfl ?_
        refine ev_iload 126 rfl d65_124 rfl ?_
        refine ev_iload 128 rfl d65_126 rfl ?_
        refine ev_cy5 131 rfl 93 d65_128 rfl rfl (by rw [G.1 _ _ (rfl : ai_sp 1 = (8, 0)) (by decide) (by decide)]; rfl) (by omega) rfl (show ai_Ev none 93 0 _ [] (S, I, L, F) _ from x_takeZ (z1 := (σ.e5 s n 0)) (z2 := (σ.e5 s n 1)) (z3 := (σ.e5 s n 2)) (z4 := (σ.e5 s n 3)) (z5 := (σ.e5 s n 4)) G hX hV hc9) (fun v_2 I_1 hr_128 => ?_)
        obtain ⟨-, hX2, hf2⟩ := hr_128
        refine ev_pop 132 rfl d65_131 rfl ?_
        refine ev_iinc (v := nI (n + 1)) 135 rfl d65_132 rfl (Nat.le_of_ble_eq_true rfl) (nI_add _ 1) rfl ?_
        show ai_Ev _ _ _ [some (.ref 1), some (.int zz), some (.int zr), some (.ref (55 + 2 * s)), some (.int (nI (n + 1))), some (.int (nI (5 * n))), some (.int ((σ.el s (5 * n + 0)).toInt32)), some (.int ((σ.el s (5 * n + 1)).toInt32)), some (.int ((σ.el s (5 * n + 2)).toInt32)), some (.int ((σ.el s (5 * n + 3)).toInt32)), some (.int ((σ.el s (5 * n + 4)).toInt32))] _ _ _
        refine ev_iinc (v := nI (5 * (n + 1))) 138 rfl d65_135 rfl (Nat.le_of_ble_eq_true rfl) (by rw [show nI (5 * (n + 1)) = nI (5 * n + 5) from rfl]; exact nI_add _ 5) rfl ?_
        show ai_Ev _ _ _ [some (.ref 1), some (.int zz), some (.int zr), some (.ref (55 + 2 * s)), some (.int (nI (n + 1))), some (.int (nI (5 * (n + 1)))), some (.int ((σ.el s (5 * n + 0)).toInt32)), some (.int ((σ.el s (5 * n + 1)).toInt32)), some (.int ((σ.el s (5 * n + 2)).toInt32)), some (.int ((σ.el s (5 * n + 3)).toInt32)), some (.int ((σ.el s (5 * n + 4)).toInt32))] _ _ _
        refine ev_goto 29 (by decide) d65_138 ?_
        have e8 : ai_ago (k + 1) σ s n = ai_ago k (σ.took (σ.e5 s n 0) (σ.e5 s n 1) (σ.e5 s n 2) (σ.e5 s n 3) (σ.e5 s n 4)) s (n + 1) := c_T ⟨by omega, hc9⟩
        rw [e8]
        exact ih (σ.took (σ.e5 s n 0) (σ.e5 s n 1) (σ.e5 s n 2) (σ.e5 s n 3) (σ.e5 s n 4)) (n + 1) _ _ _ _ _ _ (iv_took hV hc9) (by omega) hX2 (fun a ha => (hf2 a ha).trans (hf a ha))
      · have hc9 : ¬ (σ.ar (σ.e5 s n 0) (σ.e5 s n 1) (σ.e5 s n 2) (σ.e5 s n 3) (σ.e5 s n 4)) = 0 := fun q => hc_111 ((neg0 (by have := ar_le (σ := σ) (z1 := (σ.e5 s n 0)) (z2 := (σ.e5 s n 1)) (z3 := (σ.e5 s n 2)) (z4 := (σ.e5 s n 3)) (z5 := (σ.e5 s n 4)); omega)).mpr q)
        have hstop : ai_ago (k + 1) σ s n = (σ, n) := c_F (fun h => hc9 h.2)
        refine ev_goto 141 (by decide) d65_114 ?_
        refine ev_iload 143 rfl d65_141 rfl ?_
        refine ev_iret (Or.inl rfl) d65_143 ?_
        rw [hstop]
        exact ⟨_, _, rfl, rfl, rfl, hX, hf⟩
    · have hstop : ai_ago (k + 1) σ s n = (σ, n) := c_F (fun h => hq_33 (by omega))
      refine ev_if_T 141 (by decide) (by decide) d65_36 ?_
      refine ev_iload 143 rfl d65_141 rfl ?_
      refine ev_iret (Or.inl rfl) d65_143 ?_
      rw [hstop]
      exact ⟨_, _, rfl, rfl, rfl, hX, hf⟩
theorem x_answers (G : ai_G S F) (hX : ai_RX σ I L) (hV : ai_IV σ) {z1 : Int32} : ai_Ev none 65 0 [some (.ref 1), some (.int z1), none, none, none, none, none, none, none, none, none] [] (S, I, L, F) (ai_PX S F I L (o_answers σ z1)) := by
  have hnT := hV.nT
  have hnQ := hV.nQ
  have hnJ := hV.nJ
  unfold o_answers
  refine ev_aload_n 1 rfl d65_0 rfl ?_
  refine ev_iload_n 2 rfl d65_1 rfl ?_
  refine ev_cp1 5 rfl 91 d65_2 rfl rfl (by rw [G.1 _ _ (rfl : ai_sp 1 = (8, 0)) (by decide) (by decide)]; rfl) (by omega) rfl (x_rowRefusal G hX hV) ?_
  refine ev_store_in 6 rfl d65_5 (Nat.le_of_ble_eq_true rfl) rfl ?_
  show ai_Ev _ _ _ [some (.ref 1), some (.int z1), some (.int (-(nI (σ.rr z1)))), none, none, none, none, none, none, none, none] _ _ _
  refine ev_iload_n 7 rfl d65_6 rfl ?_
  refine ev_if 16 10 (by decide) rfl cz_eq d65_7 (fun hc_7 => ?_) (fun hc_7 => ?_)
  · have hc9 : σ.rr z1 = 0 := (neg0 (by have := rr_le (σ := σ) (z := z1); omega)).mp hc_7
    rw [c_T hc9]
    obtain ⟨s, hs, rfl, hd⟩ := rr_0 hc9
    simp only [nn_I (show s < 2147483648 by omega)]
    try rw [c_T hc_7]
    refine ev_aload_n 17 rfl d65_16 rfl ?_
    refine ev_getr 20 rfl 8 0 d65_17 rfl (by omega) (G.1 _ _ (rfl : ai_sp 1 = (8, 0)) (by decide) (by decide)) (G.2 _ _ _ (rfl : ai_rf 1 0 = some 2)) ?_
    refine ev_iload_n 21 rfl d65_20 rfl ?_
    refine ev_aald_n 22 rfl d65_21 (by omega) (by decide) (G.1 _ _ (rfl : ai_sp 2 = (104, 8)) (by decide) (by decide)) (by omega) (by decide) (G.2 _ _ _ (rf_shelf (by omega))) ?_
    refine ev_store_an 23 rfl d65_22 (Nat.le_of_ble_eq_true rfl) rfl ?_
    show ai_Ev _ _ _ [some (.ref 1), some (.int (nI s)), some (.int (-(nI (σ.rr (nI s))))), some (.ref (55 + 2 * s)), none, none, none, none, none, none, none] _ _ _
    refine ev_iconst (v := nI 0) 24 rfl d65_23 (by decide) ?_
    refine ev_store_i 26 rfl d65_24 ⟨rfl, Nat.le_of_ble_eq_true rfl⟩ rfl ?_
    show ai_Ev _ _ _ [some (.ref 1), some (.int (nI s)), some (.int (-(nI (σ.rr (nI s))))), some (.ref (55 + 2 * s)), some (.int (nI 0)), none, none, none, none, none, none] _ _ _
    refine ev_iconst (v := nI 0) 27 rfl d65_26 (by decide) ?_
    refine ev_store_i 29 rfl d65_27 ⟨rfl, Nat.le_of_ble_eq_true rfl⟩ rfl ?_
    show ai_Ev _ _ _ [some (.ref 1), some (.int (nI s)), some (.int (-(nI (σ.rr (nI s))))), some (.ref (55 + 2 * s)), some (.int (nI 0)), some (.int (nI 0)), none, none, none, none, none] _ _ _
    refine (x_ans_loop G (s := s) (zz := nI s) (zr := -(nI (σ.rr (nI s)))) (by omega) 21 σ 0 I _ _ _ _ _ hV (by omega) hX (fun _ _ => rfl)).imp ?_
    rintro r h' ⟨v, I9, rfl, rfl, rfl, h8, h9⟩
    exact ⟨I9, L, rfl, rfl, h8, fun a ha => ⟨h9 a ha, rfl⟩⟩
  · have hc9 : ¬ σ.rr z1 = 0 := fun q => hc_7 ((neg0 (by omega)).mpr q)
    rw [c_F hc9]
    try rw [c_F hc_7]
    refine ev_aload_n 11 rfl d65_10 rfl ?_
    refine ev_iload_n 12 rfl d65_11 rfl ?_
    refine ev_cy1 15 rfl 90 d65_12 rfl rfl (by rw [G.1 _ _ (rfl : ai_sp 1 = (8, 0)) (by decide) (by decide)]; rfl) (by omega) rfl (x_refuse (I := I) (L := L) (S := S) (F := F) G (k := (σ.rr z1)) (by have := rr_le (σ := σ) (z := z1); omega)) (fun v_2 I_1 hr_12 => ?_)
    refine ev_iret (Or.inl rfl) d65_15 ?_
    exact px_ref hX (by have := rr_le (σ := σ) (z := z1); omega) hr_12
def ai_fE (j : Nat) (I I2 : Nat → Nat → Int32) : Prop := ∀ a k, (a < 172 ∨ 572 ≤ a ∨ a % 2 = 0 ∨ k ≠ j) → I2 a k = I a k
theorem given_leave {j x : Nat} : (σ.leave j).given x = if x = j then 0 else σ.given x := by
  unfold ai_S.given
  by_cases e : x = j
  · subst e
    rw [if_pos rfl]
    exact qn_none (fun d _ => by rw [leave_gv, if_pos rfl]; rfl)
  · rw [if_neg e]
    exact qn_cong (fun d _ => by rw [leave_gv, if_neg e])
theorem ui2_oth {I I2 : Nat → Nat → Int32} {a k b l : Nat} {v u : Int32} (h : I2 = ai_ui (ai_ui I a k v) b l u) {x y : Nat} (h1 : x ≠ a ∨ y ≠ k) (h2 : x ≠ b ∨ y ≠ l) : I2 x y = I x y := by
  obtain ⟨A, hA⟩ : ∃ z, z = ai_ui I a k v := ⟨_, rfl⟩
  rw [← hA] at h
  rw [ui_other h h2, ui_other hA h1]
theorem ro_leave (hX : ai_RX σ I L) {j : Nat} (hj : j < 24) {I1 I2 : Nat → Nat → Int32} (h1 : I1 = ai_ui (ai_ui I (76 + 4 * j) 0 (nI 1)) (76 + 4 * j) 1 (nI 0)) (h2 : ai_fE j I1 I2) (hz : ∀ c, c < 200 → I2 (172 + 2 * c + 1) j = nI 0) : ai_RO (σ.leave j) I2 L := by
  refine ⟨?_, ?_, ?_, ?_, ?_, ?_, ?_, ?_, ?_, ?_, ?_, ?_, ?_, ?_, ?_, ?_, ?_, ?_, ?_, ?_, ?_, ?_, ?_, ?_, ?_⟩
  · rw [h2 _ _ (by omega), ui2_oth h1 (by omega) (by omega)]; exact hX.nT
  · rw [h2 _ _ (by omega), ui2_oth h1 (by omega) (by omega)]; exact hX.nQ
  · rw [h2 _ _ (by omega), ui2_oth h1 (by omega) (by omega)]; exact hX.nJ
  · rw [h2 _ _ (by omega), ui2_oth h1 (by omega) (by omega)]; exact hX.mk
  · rw [h2 _ _ (by omega), ui2_oth h1 (by omega) (by omega)]; exact hX.lk
  · rw [h2 _ _ (by omega), ui2_oth h1 (by omega) (by omega)]; exact hX.hs
  · rw [h2 _ _ (by omega), ui2_oth h1 (by omega) (by omega)]; exact hX.st
  · intro i g0; rw [h2 _ _ (by omega), ui2_oth h1 (by omega) (by omega)]; exact hX.ch i g0
  · intro i g0; rw [h2 _ _ (by omega), ui2_oth h1 (by omega) (by omega)]; exact hX.rf i g0
  · intro s g0; rw [h2 _ _ (by omega), ui2_oth h1 (by omega) (by omega)]; exact hX.wr s g0
  · intro s g0; rw [h2 _ _ (by omega), ui2_oth h1 (by omega) (by omega)]; exact hX.jd s g0
  · intro s g0 g1; rw [h2 _ _ (by omega), ui2_oth h1 (by omega) (by omega)]; exact hX.so s g0 g1
  · intro s g0; rw [h2 _ _ (by omega), ui2_oth h1 (by omega) (by omega)]; exact hX.sz s g0
  · exact hX.el
  · intro q g0 g1; rw [h2 _ _ (by omega), ui2_oth h1 (by omega) (by omega)]; exact hX.an q g0 g1
  · intro q g0 g1 g2; rw [h2 _ _ (by omega), ui2_oth h1 (by omega) (by omega)]; exact hX.pa q g0 g1 g2
  · intro q g0 g1 g2; rw [h2 _ _ (by omega), ui2_oth h1 (by omega) (by omega)]; exact hX.wa q g0 g1 g2
  · intro x hx
    rw [h2 _ _ (by omega)]
    show I1 (76 + 4 * x) 0 = nI (ai_qb (decide (x = j) || σ.lf x))
    by_cases e : x = j
    · subst e; rw [h1]; simp [ai_ui, ai_qb]
    · rw [ui2_oth h1 (by omega) (by omega), decide_eq_false e]; exact hX.lf x hx
  · intro x hx
    rw [h2 _ _ (by omega), given_leave]
    by_cases e : x = j
    · subst e; rw [if_pos rfl, h1]; simp [ai_ui]
    · rw [if_neg e, ui2_oth h1 (by omega) (by omega)]; exact hX.gn x hx
  · intro j g0; rw [h2 _ _ (by omega), ui2_oth h1 (by omega) (by omega)]; exact hX.sr j g0
  · intro j q a b g0 g1 g2 g3; rw [h2 _ _ (by omega), ui2_oth h1 (by omega) (by omega)]; exact hX.sd j q a b g0 g1 g2 g3
  · intro j q b g0 g1 g2; rw [h2 _ _ (by omega), ui2_oth h1 (by omega) (by omega)]; exact hX.sa j q b g0 g1 g2
  · intro c g0; rw [h2 _ _ (by omega), ui2_oth h1 (by omega) (by omega)]; exact hX.tr c g0
  · intro c g0; rw [h2 _ _ (by omega), ui2_oth h1 (by omega) (by omega)]; exact hX.ag c g0
  · intro c x hc hx
    rw [leave_gv]
    by_cases e : x = j
    · subst e; rw [if_pos rfl]; exact hz c hc
    · rw [if_neg e, h2 _ _ (by omega), ui2_oth h1 (by omega) (by omega)]; exact hX.nt c x hc hx
theorem al_leave {j y x : Nat} (hy : (σ.leave j).lf y = false) (hx : (σ.leave j).lf x = false) : ai_al (σ.leave j) y x = ai_al σ y x ∧ σ.lf y = false ∧ σ.lf x = false := by
  have h1 : (decide (y = j) || σ.lf y) = false := hy
  have h2 : (decide (x = j) || σ.lf x) = false := hx
  rw [Bool.or_eq_false_iff] at h1 h2
  have e1 : ¬ y = j := of_decide_eq_false h1.1
  have e2 : ¬ x = j := of_decide_eq_false h2.1
  have h := al_of (σ2 := σ.leave j) (σ := σ) (y := y) (x := x) (fun d _ => by rw [leave_gv, if_neg e2]) (fun d _ => by rw [leave_gv, if_neg e1])
  exact ⟨by unfold ai_al; rw [h.1, h.2], h1.2, h2.2⟩
theorem x_leave_loop (G : ai_G S F) {I0 I1 : Nat → Nat → Int32} (hX : ai_RX σ I0 L) (hV : ai_IV σ) {j : Nat} (hj : j < σ.nJ) (h1I : I1 = ai_ui (ai_ui I0 (76 + 4 * j) 0 (nI 1)) (76 + 4 * j) 1 (nI 0)) : ∀ (z k : Nat) (I : Nat → Nat → Int32), k + z = 200 → ai_fE j I1 I → (∀ c, c < k → I (172 + 2 * c + 1) j = nI 0) → ai_Ev none 67 46 [some (.ref 1), some (.int (nI j)), some (.int (nI (σ.given j))), some (.int (nI k))] [] (S, I, L, F) (ai_PX S F I0 L (σ.leave j, nI (σ.given j))) := by
  have hnT := hV.nT
  have hnQ := hV.nQ
  have hnJ := hV.nJ
  intro z
  induction z with
  | zero =>
    intro k I hz hE hz0
    have e9 : k = 200 := by omega
    subst e9
    have hO := ro_leave hX (by omega) h1I hE hz0
    have hal : ∀ y x, x < y → y < 24 → (σ.leave j).lf x = false → (σ.leave j).lf y = false → I (76 + 4 * y + 1) x = ai_al (σ.leave j) y x := fun y x h1 h2 h3 h4 => by
      have h9 := al_leave h4 h3
      rw [h9.1, hE _ _ (by omega), ui2_oth h1I (by omega) (by omega)]
      exact hX.al y x h1 h2 h9.2.2 h9.2.1
    refine ev_iload_n 47 rfl d67_46 rfl ?_
    refine ev_aload_n 48 rfl d67_47 rfl ?_
    refine ev_getr 51 rfl 8 3 d67_48 rfl (by omega) (G.1 _ _ (rfl : ai_sp 1 = (8, 0)) (by decide) (by decide)) (G.2 _ _ _ (rfl : ai_rf 1 3 = some 5)) ?_
    refine ev_alen (v := nI 200) 52 rfl d67_51 (by omega) (by decide) (G.1 _ _ (rfl : ai_sp 5 = (107, 200)) (by decide) (by decide)) rfl ?_
    refine ev_icmp_T 71 (by decide) (by decide) d67_52 ?_
    refine ev_aload_n 72 rfl d67_71 rfl ?_
    refine ev_cu0 75 rfl 95 d67_72 rfl rfl (by rw [G.1 _ _ (rfl : ai_sp 1 = (8, 0)) (by decide) (by decide)]; rfl) (by omega) rfl (x_findOriginals (σ := σ.leave j) G hnJ hO hal) (fun I_1 hr_72 => ?_)
    obtain ⟨hog5, hhi5, hf5⟩ := hr_72
    have hX5 : ai_RX (σ.leave j) I_1 L := rx_found hO hf5 hal hog5 (fun x h1 h2 => by
      have hx9 : σ.nJ ≤ x := h1
      rw [hhi5 x hx9, hE _ _ (by omega), ui2_oth h1I (by omega) (by omega), cop_hi (fun d hd => by rw [leave_gv, if_neg (by omega)]; exact gv_hi hV hd hx9)]
      have h9 := hX.og x h2
      rw [cop_hi (fun d hd => gv_hi hV hd hx9)] at h9
      exact h9)
    refine ev_iload_n 76 rfl d67_75 rfl ?_
    refine ev_iret (Or.inl rfl) d67_76 ?_
    exact ⟨_, _, rfl, rfl, hX5, fun a ha => ⟨by funext x9; rw [hf5 _ _ (by omega), hE _ _ (by omega), ui2_oth h1I (by omega) (by omega)], rfl⟩⟩
  | succ z ih =>
    intro k I hz hE hz0
    refine ev_iload_n 47 rfl d67_46 rfl ?_
    refine ev_aload_n 48 rfl d67_47 rfl ?_
    refine ev_getr 51 rfl 8 3 d67_48 rfl (by omega) (G.1 _ _ (rfl : ai_sp 1 = (8, 0)) (by decide) (by decide)) (G.2 _ _ _ (rfl : ai_rf 1 3 = some 5)) ?_
    refine ev_alen (v := nI 200) 52 rfl d67_51 (by omega) (by decide) (G.1 _ _ (rfl : ai_sp 5 = (107, 200)) (by decide) (by decide)) rfl ?_
    refine ev_icmp 71 55 (by decide) rfl (cn_ge (by omega) (by omega)) d67_52 (fun hc_52 => absurd hc_52 (by omega)) (fun hc_52 => ?_)
    refine ev_aload_n 56 rfl d67_55 rfl ?_
    refine ev_getr 59 rfl 8 3 d67_56 rfl (by omega) (G.1 _ _ (rfl : ai_sp 1 = (8, 0)) (by decide) (by decide)) (G.2 _ _ _ (rfl : ai_rf 1 3 = some 5)) ?_
    refine ev_iload_n 60 rfl d67_59 rfl ?_
    refine ev_aald_n 61 rfl d67_60 (by omega) (by decide) (G.1 _ _ (rfl : ai_sp 5 = (107, 200)) (by decide) (by decide)) (by omega) (by decide) (G.2 _ _ _ (rf_case (by omega))) ?_
    refine ev_iload_n 62 rfl d67_61 rfl ?_
    refine ev_cu1 65 rfl 18 d67_62 rfl rfl (by rw [G.1 _ _ (sp_case (by omega)) (by omega) (by omega)]; rfl) (by omega) rfl (k_erase G (by omega) (by omega)) (fun I_1 hr_62 => ?_)
    refine ev_iinc (v := nI (k + 1)) 68 rfl d67_65 rfl (Nat.le_of_ble_eq_true rfl) (nI_add _ 1) rfl ?_
    show ai_Ev _ _ _ [some (.ref 1), some (.int (nI j)), some (.int (nI (σ.given j))), some (.int (nI (k + 1)))] _ _ _
    refine ev_goto 46 (by decide) d67_68 ?_
    refine ih (k + 1) _ (by omega) (fun a x ha => (ui_other hr_62 (by omega)).trans (hE a x ha)) (fun c hc => ?_)
    by_cases e : c = k
    · subst e; exact ui_same hr_62
    · rw [ui_other hr_62 (by omega)]; exact hz0 c (by omega)
theorem x_leave (G : ai_G S F) (hX : ai_RX σ I L) (hV : ai_IV σ) {z1 : Int32} : ai_Ev none 67 0 [some (.ref 1), some (.int z1), none, none] [] (S, I, L, F) (ai_PX S F I L (o_leave σ z1)) := by
  have hnT := hV.nT
  have hnQ := hV.nQ
  have hnJ := hV.nJ
  unfold o_leave
  refine ev_aload_n 1 rfl d67_0 rfl ?_
  refine ev_iload_n 2 rfl d67_1 rfl ?_
  refine ev_cb1 5 rfl 85 d67_2 rfl rfl (by rw [G.1 _ _ (rfl : ai_sp 1 = (8, 0)) (by decide) (by decide)]; rfl) (by omega) rfl (x_isJ G hX hV) (fun hq_2 => ?_) (fun hq_2 => ?_)
  · try rw [c_T hq_2]
    obtain ⟨j, hj, hjl, rfl⟩ := hq_2
    refine ev_if_T 14 (by decide) (by decide) d67_5 ?_
    simp only [nn_I (show j < 2147483648 by omega)]
    refine ev_aload_n 15 rfl d67_14 rfl ?_
    refine ev_getr 18 rfl 8 2 d67_15 rfl (by omega) (G.1 _ _ (rfl : ai_sp 1 = (8, 0)) (by decide) (by decide)) (G.2 _ _ _ (rfl : ai_rf 1 2 = some 4)) ?_
    refine ev_iload_n 19 rfl d67_18 rfl ?_
    refine ev_aald_n 20 rfl d67_19 (by omega) (by decide) (G.1 _ _ (rfl : ai_sp 4 = (106, 24)) (by decide) (by decide)) (by omega) (by decide) (G.2 _ _ _ (rf_judge (by omega))) ?_
    refine ev_geti (v := nI (σ.given j)) 23 rfl 2 1 d67_20 rfl (by omega) (G.1 _ _ (sp_judge (by omega)) (by omega) (by omega)) (hX.gn _ (by omega)) ?_
    refine ev_store_in 24 rfl d67_23 (Nat.le_of_ble_eq_true rfl) rfl ?_
    show ai_Ev _ _ _ [some (.ref 1), some (.int (nI j)), some (.int (nI (σ.given j))), none] _ _ _
    refine ev_aload_n 25 rfl d67_24 rfl ?_
    refine ev_getr 28 rfl 8 2 d67_25 rfl (by omega) (G.1 _ _ (rfl : ai_sp 1 = (8, 0)) (by decide) (by decide)) (G.2 _ _ _ (rfl : ai_rf 1 2 = some 4)) ?_
    refine ev_iload_n 29 rfl d67_28 rfl ?_
    refine ev_aald_n 30 rfl d67_29 (by omega) (by decide) (G.1 _ _ (rfl : ai_sp 4 = (106, 24)) (by decide) (by decide)) (by omega) (by decide) (G.2 _ _ _ (rf_judge (by omega))) ?_
    refine ev_iconst (v := nI 1) 31 rfl d67_30 (by decide) ?_
    obtain ⟨I_1, hI_1⟩ : ∃ z, z = ai_ui I (76 + 4 * j) 0 (nI 1) := ⟨_, rfl⟩
    refine ev_puti (I2 := I_1) 34 rfl 2 0 d67_31 rfl (by omega) (G.1 _ _ (sp_judge (by omega)) (by omega) (by omega)) (fun _ => Or.inr (by decide)) hI_1.symm ?_
    refine ev_aload_n 35 rfl d67_34 rfl ?_
    refine ev_getr 38 rfl 8 2 d67_35 rfl (by omega) (G.1 _ _ (rfl : ai_sp 1 = (8, 0)) (by decide) (by decide)) (G.2 _ _ _ (rfl : ai_rf 1 2 = some 4)) ?_
    refine ev_iload_n 39 rfl d67_38 rfl ?_
    refine ev_aald_n 40 rfl d67_39 (by omega) (by decide) (G.1 _ _ (rfl : ai_sp 4 = (106, 24)) (by decide) (by decide)) (by omega) (by decide) (G.2 _ _ _ (rf_judge (by omega))) ?_
    refine ev_iconst (v := nI 0) 41 rfl d67_40 (by decide) ?_
    obtain ⟨I_2, hI_2⟩ : ∃ z, z = ai_ui I_1 (76 + 4 * j) 1 (nI 0) := ⟨_, rfl⟩
    refine ev_puti (I2 := I_2) 44 rfl 2 1 d67_41 rfl (by omega) (G.1 _ _ (sp_judge (by omega)) (by omega) (by omega)) (fun h => absurd h (by decide)) hI_2.symm ?_
    refine ev_iconst (v := nI 0) 45 rfl d67_44 (by decide) ?_
    refine ev_store_in 46 rfl d67_45 (Nat.le_of_ble_eq_true rfl) rfl ?_
    show ai_Ev _ _ _ [some (.ref 1), some (.int (nI j)), some (.int (nI (σ.given j))), some (.int (nI 0))] _ _ _
    exact x_leave_loop G hX hV (by omega) (by rw [hI_2, hI_1]) 200 0 _ (by omega) (fun _ _ _ => rfl) (fun c hc => absurd hc (by omega))
  · try rw [c_F hq_2]
    refine ev_if_F 14 8 (by decide) rfl (by decide) d67_5 ?_
    refine ev_aload_n 9 rfl d67_8 rfl ?_
    refine ev_iconst (v := (-1)) 10 rfl d67_9 (by decide) ?_
    refine ev_cy1 13 rfl 90 d67_10 rfl rfl (by rw [G.1 _ _ (rfl : ai_sp 1 = (8, 0)) (by decide) (by decide)]; rfl) (by omega) rfl (show ai_Ev none 90 0 [some (.ref 1), some (.int (-1)), none] [] (S, I, L, F) _ from by rw [show ((-1) : Int32) = -(nI 1) by decide]; exact x_refuse (I := I) (L := L) (S := S) (F := F) G (k := 1) (by omega)) (fun v_2 I_1 hr_10 => ?_)
    refine ev_iret (Or.inl rfl) d67_13 ?_
    exact px_ref hX (by omega) hr_10
end XANS2
