section XPUB
variable {S : List (Nat × Nat)} {F : Nat → Nat → Option Nat} {L : Nat → Nat → Int64} {I : Nat → Nat → Int32} {σ : ai_S}
theorem x_things (G : ai_G S F) (hX : ai_RX σ I L) (hV : ai_IV σ) {z1 : Int32} : ai_Ev none 61 0 [some (.ref 1), some (.int z1)] [] (S, I, L, F) (ai_PX S F I L (o_things σ z1)) := by
  have hnT := hV.nT
  have hnQ := hV.nQ
  have hnJ := hV.nJ
  unfold o_things
  refine ev_iload_n 1 rfl d61_0 rfl ?_
  refine ev_if 11 4 (by decide) rfl cz_ge d61_1 (fun hc_1 => ?_) (fun hc_1 => ?_)
  · rw [c_F (Int32.not_lt.mpr hc_1)]
    try rw [c_T hc_1]
    obtain ⟨n, hn, rfl⟩ := nn_nI ( hc_1)
    refine ev_iload_n 12 rfl d61_11 rfl ?_
    refine ev_bipush (v := nI 40) 14 rfl d61_12 (by decide) ?_
    refine ev_aload_n 15 rfl d61_14 rfl ?_
    refine ev_geti (v := nI σ.nT) 18 rfl 8 4 d61_15 rfl (by omega) (G.1 _ _ (rfl : ai_sp 1 = (8, 0)) (by decide) (by decide)) hX.nT ?_
    refine ev_isub (v := nI (40 - σ.nT)) 19 rfl d61_18 (pk_sub (by omega)) ?_
    refine ev_icmp 29 22 (by decide) rfl (cn_le (by omega) (by omega)) d61_19 (fun hc_19 => ?_) (fun hc_19 => ?_)
    · rw [c_T (is_T (by omega))]
      simp only [nn_I (show n < 2147483648 by omega)]
      try rw [c_T hc_19]
      refine ev_aload_n 30 rfl d61_29 rfl ?_
      refine ev_dup 31 rfl d61_30 rfl ?_
      refine ev_geti (v := nI σ.nT) 34 rfl 8 4 d61_31 rfl (by omega) (G.1 _ _ (rfl : ai_sp 1 = (8, 0)) (by decide) (by decide)) hX.nT ?_
      refine ev_iload_n 35 rfl d61_34 rfl ?_
      refine ev_iadd (v := nI (σ.nT + n)) 36 rfl d61_35 (nI_add _ _) ?_
      obtain ⟨I_1, hI_1⟩ : ∃ z, z = ai_ui I 1 4 (nI (σ.nT + n)) := ⟨_, rfl⟩
      refine ev_puti (I2 := I_1) 39 rfl 8 4 d61_36 rfl (by omega) (G.1 _ _ (rfl : ai_sp 1 = (8, 0)) (by decide) (by decide)) (fun h => absurd h (by decide)) hI_1.symm ?_
      refine ev_aload_n 40 rfl d61_39 rfl ?_
      refine ev_geti (v := nI (σ.nT + n)) 43 rfl 8 4 d61_40 rfl (by omega) (G.1 _ _ (rfl : ai_sp 1 = (8, 0)) (by decide) (by decide)) (ui_same hI_1) ?_
      refine ev_iret (Or.inl rfl) d61_43 ?_
      exact ⟨_, _, rfl, rfl, rx_things hX hI_1, fun a ha => ⟨by rw [ui_row hI_1 (by omega)], rfl⟩⟩
    · rw [c_F (is_F (by omega) (by omega) (by omega))]
      try rw [c_F hc_19]
      refine ev_aload_n 23 rfl d61_22 rfl ?_
      refine ev_bipush (v := (-7)) 25 rfl d61_23 (by decide) ?_
      refine ev_cy1 28 rfl 90 d61_25 rfl rfl (by rw [G.1 _ _ (rfl : ai_sp 1 = (8, 0)) (by decide) (by decide)]; rfl) (by omega) rfl (show ai_Ev none 90 0 [some (.ref 1), some (.int (-7)), none] [] (S, I, L, F) _ from by rw [show ((-7) : Int32) = -(nI 7) by decide]; exact x_refuse (I := I) (L := L) (S := S) (F := F) G (k := 7) (by omega)) (fun v_2 I_1 hr_25 => ?_)
      refine ev_iret (Or.inl rfl) d61_28 ?_
      exact px_ref hX (by omega) hr_25
  · rw [c_T (Int32.not_le.mp hc_1)]
    try rw [c_F hc_1]
    refine ev_aload_n 5 rfl d61_4 rfl ?_
    refine ev_bipush (v := (-4)) 7 rfl d61_5 (by decide) ?_
    refine ev_cy1 10 rfl 90 d61_7 rfl rfl (by rw [G.1 _ _ (rfl : ai_sp 1 = (8, 0)) (by decide) (by decide)]; rfl) (by omega) rfl (show ai_Ev none 90 0 [some (.ref 1), some (.int (-4)), none] [] (S, I, L, F) _ from by rw [show ((-4) : Int32) = -(nI 4) by decide]; exact x_refuse (I := I) (L := L) (S := S) (F := F) G (k := 4) (by omega)) (fun v_2 I_1 hr_7 => ?_)
    refine ev_iret (Or.inl rfl) d61_10 ?_
    exact px_ref hX (by omega) hr_7
theorem x_judge (G : ai_G S F) (hX : ai_RX σ I L) (hV : ai_IV σ)  : ai_Ev none 62 0 [some (.ref 1)] [] (S, I, L, F) (ai_PX S F I L (o_judge σ)) := by
  have hnT := hV.nT
  have hnQ := hV.nQ
  have hnJ := hV.nJ
  unfold o_judge
  refine ev_aload_n 1 rfl d62_0 rfl ?_
  refine ev_geti (v := nI σ.nJ) 4 rfl 8 6 d62_1 rfl (by omega) (G.1 _ _ (rfl : ai_sp 1 = (8, 0)) (by decide) (by decide)) hX.nJ ?_
  refine ev_bipush (v := nI 24) 6 rfl d62_4 (by decide) ?_
  refine ev_icmp 16 9 (by decide) rfl (cn_lt (by omega) (by omega)) d62_6 (fun hc_6 => ?_) (fun hc_6 => ?_)
  · try rw [c_T hc_6]
    refine ev_aload_n 17 rfl d62_16 rfl ?_
    refine ev_dup 18 rfl d62_17 rfl ?_
    refine ev_geti (v := nI σ.nJ) 21 rfl 8 6 d62_18 rfl (by omega) (G.1 _ _ (rfl : ai_sp 1 = (8, 0)) (by decide) (by decide)) hX.nJ ?_
    refine ev_iconst (v := nI 1) 22 rfl d62_21 (by decide) ?_
    refine ev_iadd (v := nI (σ.nJ + 1)) 23 rfl d62_22 (nI_add _ _) ?_
    obtain ⟨I_1, hI_1⟩ : ∃ z, z = ai_ui I 1 6 (nI (σ.nJ + 1)) := ⟨_, rfl⟩
    refine ev_puti (I2 := I_1) 26 rfl 8 6 d62_23 rfl (by omega) (G.1 _ _ (rfl : ai_sp 1 = (8, 0)) (by decide) (by decide)) (fun h => absurd h (by decide)) hI_1.symm ?_
    refine ev_aload_n 27 rfl d62_26 rfl ?_
    refine ev_geti (v := nI (σ.nJ + 1)) 30 rfl 8 6 d62_27 rfl (by omega) (G.1 _ _ (rfl : ai_sp 1 = (8, 0)) (by decide) (by decide)) (ui_same hI_1) ?_
    refine ev_iconst (v := nI 1) 31 rfl d62_30 (by decide) ?_
    refine ev_isub (v := nI σ.nJ) 32 rfl d62_31 (by rw [pk_sub (by omega)]; rfl) ?_
    refine ev_iret (Or.inl rfl) d62_32 ?_
    exact ⟨_, _, rfl, rfl, rx_judge hX hI_1, fun a ha => ⟨by rw [ui_row hI_1 (by omega)], rfl⟩⟩
  · try rw [c_F hc_6]
    refine ev_aload_n 10 rfl d62_9 rfl ?_
    refine ev_bipush (v := (-7)) 12 rfl d62_10 (by decide) ?_
    refine ev_cy1 15 rfl 90 d62_12 rfl rfl (by rw [G.1 _ _ (rfl : ai_sp 1 = (8, 0)) (by decide) (by decide)]; rfl) (by omega) rfl (show ai_Ev none 90 0 [some (.ref 1), some (.int (-7)), none] [] (S, I, L, F) _ from by rw [show ((-7) : Int32) = -(nI 7) by decide]; exact x_refuse (I := I) (L := L) (S := S) (F := F) G (k := 7) (by omega)) (fun v_2 I_1 hr_12 => ?_)
    refine ev_iret (Or.inl rfl) d62_15 ?_
    exact px_ref hX (by omega) hr_12
theorem x_holds (G : ai_G S F) (hX : ai_RX σ I L) (hV : ai_IV σ) {z1 : Int32} : ai_Ev none 58 0 [some (.ref 1), some (.int z1), none] [] (S, I, L, F) (ai_PX S F I L (o_holds σ z1)) := by
  have hnT := hV.nT
  have hnQ := hV.nQ
  have hnJ := hV.nJ
  unfold o_holds
  refine ev_aload_n 1 rfl d58_0 rfl ?_
  refine ev_iload_n 2 rfl d58_1 rfl ?_
  refine ev_cb1 5 rfl 84 d58_2 rfl rfl (by rw [G.1 _ _ (rfl : ai_sp 1 = (8, 0)) (by decide) (by decide)]; rfl) (by omega) rfl (x_isShelf G hX hV) (fun hq_2 => ?_) (fun hq_2 => ?_)
  · try rw [c_T hq_2]
    obtain ⟨s, hs, rfl⟩ := hq_2
    refine ev_if_T 10 (by decide) (by decide) d58_5 ?_
    simp only [nn_I (show s < 2147483648 by omega)]
    refine ev_aload_n 11 rfl d58_10 rfl ?_
    refine ev_getr 14 rfl 8 0 d58_11 rfl (by omega) (G.1 _ _ (rfl : ai_sp 1 = (8, 0)) (by decide) (by decide)) (G.2 _ _ _ (rfl : ai_rf 1 0 = some 2)) ?_
    refine ev_iload_n 15 rfl d58_14 rfl ?_
    refine ev_aald_n 16 rfl d58_15 (by omega) (by decide) (G.1 _ _ (rfl : ai_sp 2 = (104, 8)) (by decide) (by decide)) (by omega) (by decide) (G.2 _ _ _ (rf_shelf (by omega))) ?_
    refine ev_store_an 17 rfl d58_16 (Nat.le_of_ble_eq_true rfl) rfl ?_
    show ai_Ev _ _ _ [some (.ref 1), some (.int (nI s)), some (.ref (55 + 2 * s))] _ _ _
    refine ev_aload_n 18 rfl d58_17 rfl ?_
    refine ev_cb0 21 rfl 46 d58_18 rfl rfl (by rw [G.1 _ _ (sp_shelf (by omega)) (by omega) (by omega)]; rfl) (by omega) rfl (x_holdsR G hX hV (by omega)) (fun hq_18 => ?_) (fun hq_18 => ?_)
    · try rw [c_T hq_18]
      refine ev_if_F 32 24 (by decide) rfl (by decide) d58_21 ?_
      refine ev_bipush (v := nI 100) 26 rfl d58_24 (by decide) ?_
      refine ev_aload_n 27 rfl d58_26 rfl ?_
      refine ev_geti (v := nI (σ.hd s - 101)) 30 rfl 6 2 d58_27 rfl (by omega) (G.1 _ _ (sp_shelf (by omega)) (by omega) (by omega)) (hX.so _ (by omega) (by omega)) ?_
      refine ev_iadd (v := nI (100 + (σ.hd s - 101))) 31 rfl d58_30 (nI_add _ _) ?_
      refine ev_iret (Or.inl rfl) d58_31 ?_
      rw [show nI (σ.hd s) - 1 = nI (100 + (σ.hd s - 101)) by rw [nM_pos (by omega)]; congr 1; omega]
      exact px_same hX
    · try rw [c_F hq_18]
      refine ev_if_T 32 (by decide) (by decide) d58_21 ?_
      refine ev_aload_n 33 rfl d58_32 rfl ?_
      refine ev_geti (v := nI (if 100 < σ.hd s then 0 else σ.hd s) - 1) 36 rfl 6 1 d58_33 rfl (by omega) (G.1 _ _ (sp_shelf (by omega)) (by omega) (by omega)) (hX.jd _ (by omega)) ?_
      refine ev_iret (Or.inl rfl) d58_36 ?_
      rw [if_neg hq_18]
      exact px_same hX
  · try rw [c_F hq_2]
    refine ev_if_F 10 8 (by decide) rfl (by decide) d58_5 ?_
    refine ev_iconst (v := (-1)) 9 rfl d58_8 (by decide) ?_
    refine ev_iret (Or.inl rfl) d58_9 ?_
    exact px_same hX
def ai_PL (S : List (Nat × Nat)) (F : Nat → Nat → Option Nat) (I : Nat → Nat → Int32) (L : Nat → Nat → Int64) (σ : ai_S) (v : Int64) : Option Value → ai_H → Prop := fun r h => ∃ I2 L2, r = some (.long v) ∧ h = (S, I2, L2, F) ∧ ai_RX σ I2 L2 ∧ ∀ a, 572 ≤ a → I2 a = I a ∧ L2 a = L a
theorem pl_same (hX : ai_RX σ I L) {v : Int64} : ai_PL S F I L σ v (some (.long v)) (S, I, L, F) := ⟨I, L, rfl, rfl, hX, fun _ _ => ⟨rfl, rfl⟩⟩
def ai_PB (S : List (Nat × Nat)) (F : Nat → Nat → Option Nat) (I : Nat → Nat → Int32) (L : Nat → Nat → Int64) (σ : ai_S) (P : Prop) : Option Value → ai_H → Prop := fun r h => ∃ I2 L2, ((P ∧ r = some (.int (nI 1))) ∨ (¬ P ∧ r = some (.int (nI 0)))) ∧ h = (S, I2, L2, F) ∧ ai_RX σ I2 L2 ∧ ∀ a, 572 ≤ a → I2 a = I a ∧ L2 a = L a
theorem rng_1 {z : Nat} {i : Int32} (hz : z ≤ 100) (h : ai_rng z i (nI 1)) : ∃ k, i = nI k ∧ k < z := by
  obtain ⟨x, y, h1, h2, h3⟩ := h
  have e : 1 = y := (nI_eq (by omega) (by omega)).mp h2
  exact ⟨x, h1, by omega⟩
theorem x_element (G : ai_G S F) (hX : ai_RX σ I L) (hV : ai_IV σ) {z1 : Int32} {z2 : Int32} : ai_Ev none 56 0 [some (.ref 1), some (.int z1), some (.int z2)] [] (S, I, L, F) (ai_PL S F I L σ (o_element σ z1 z2)) := by
  have hnT := hV.nT
  have hnQ := hV.nQ
  have hnJ := hV.nJ
  unfold o_element
  refine ev_aload_n 1 rfl d56_0 rfl ?_
  refine ev_iload_n 2 rfl d56_1 rfl ?_
  refine ev_cb1 5 rfl 84 d56_2 rfl rfl (by rw [G.1 _ _ (rfl : ai_sp 1 = (8, 0)) (by decide) (by decide)]; rfl) (by omega) rfl (x_isShelf G hX hV) (fun hq_2 => ?_) (fun hq_2 => ?_)
  · try rw [c_T hq_2]
    obtain ⟨s, hs, rfl⟩ := hq_2
    refine ev_if_F 34 8 (by decide) rfl (by decide) d56_5 ?_
    simp only [nn_I (show s < 2147483648 by omega)]
    have hsz := hV.sz s hs
    refine ev_aload_n 9 rfl d56_8 rfl ?_
    refine ev_getr 12 rfl 8 0 d56_9 rfl (by omega) (G.1 _ _ (rfl : ai_sp 1 = (8, 0)) (by decide) (by decide)) (G.2 _ _ _ (rfl : ai_rf 1 0 = some 2)) ?_
    refine ev_iload_n 13 rfl d56_12 rfl ?_
    refine ev_aald_n 14 rfl d56_13 (by omega) (by decide) (G.1 _ _ (rfl : ai_sp 2 = (104, 8)) (by decide) (by decide)) (by omega) (by decide) (G.2 _ _ _ (rf_shelf (by omega))) ?_
    refine ev_cb0 17 rfl 46 d56_14 rfl rfl (by rw [G.1 _ _ (sp_shelf (by omega)) (by omega) (by omega)]; rfl) (by omega) rfl (x_holdsR G hX hV (by omega)) (fun hq_14 => ?_) (fun hq_14 => ?_)
    · try rw [c_T hq_14]
      refine ev_if_F 34 20 (by decide) rfl (by decide) d56_17 ?_
      refine ev_aload_n 21 rfl d56_20 rfl ?_
      refine ev_getr 24 rfl 8 0 d56_21 rfl (by omega) (G.1 _ _ (rfl : ai_sp 1 = (8, 0)) (by decide) (by decide)) (G.2 _ _ _ (rfl : ai_rf 1 0 = some 2)) ?_
      refine ev_iload_n 25 rfl d56_24 rfl ?_
      refine ev_aald_n 26 rfl d56_25 (by omega) (by decide) (G.1 _ _ (rfl : ai_sp 2 = (104, 8)) (by decide) (by decide)) (by omega) (by decide) (G.2 _ _ _ (rf_shelf (by omega))) ?_
      refine ev_iload_n 27 rfl d56_26 rfl ?_
      refine ev_iconst (v := nI 1) 28 rfl d56_27 (by decide) ?_
      refine ev_cb2 31 rfl 48 d56_28 rfl rfl (by rw [G.1 _ _ (sp_shelf (by omega)) (by omega) (by omega)]; rfl) (by omega) rfl (h_rng G (by omega) (hV.sz _ (by omega)) (hX.sz _ (by omega))) (fun hq_28 => ?_) (fun hq_28 => ?_)
      · try rw [c_T hq_28]
        obtain ⟨i, rfl, hi⟩ := rng_1 hsz hq_28
        simp only [nn_I (show i < 2147483648 by omega)]
        refine ev_if_T 36 (by decide) (by decide) d56_31 ?_
        refine ev_aload_n 37 rfl d56_36 rfl ?_
        refine ev_getr 40 rfl 8 0 d56_37 rfl (by omega) (G.1 _ _ (rfl : ai_sp 1 = (8, 0)) (by decide) (by decide)) (G.2 _ _ _ (rfl : ai_rf 1 0 = some 2)) ?_
        refine ev_iload_n 41 rfl d56_40 rfl ?_
        refine ev_aald_n 42 rfl d56_41 (by omega) (by decide) (G.1 _ _ (rfl : ai_sp 2 = (104, 8)) (by decide) (by decide)) (by omega) (by decide) (G.2 _ _ _ (rf_shelf (by omega))) ?_
        refine ev_getr 45 rfl 6 4 d56_42 rfl (by omega) (G.1 _ _ (sp_shelf (by omega)) (by omega) (by omega)) (G.2 _ _ _ (rf_elems (by omega))) ?_
        refine ev_iload_n 46 rfl d56_45 rfl ?_
        refine ev_lald_n (v := σ.el s i) 47 rfl d56_46 (by omega) (G.1 _ _ (sp_elems (by omega)) (by omega) (by omega)) (by omega) (by decide) (hX.el _ (by omega) _ (by omega)) ?_
        refine ev_lret rfl d56_47 ?_
        exact pl_same hX
      · try rw [c_F hq_28]
        refine ev_if_F 36 34 (by decide) rfl (by decide) d56_31 ?_
        refine ev_lconst (v := lN 0) 35 rfl d56_34 (by decide) ?_
        refine ev_lret rfl d56_35 ?_
        exact pl_same hX
    · try rw [c_F hq_14]
      refine ev_if_T 34 (by decide) (by decide) d56_17 ?_
      refine ev_lconst (v := lN 0) 35 rfl d56_34 (by decide) ?_
      refine ev_lret rfl d56_35 ?_
      exact pl_same hX
  · try rw [c_F hq_2]
    refine ev_if_T 34 (by decide) (by decide) d56_5 ?_
    refine ev_lconst (v := lN 0) 35 rfl d56_34 (by decide) ?_
    refine ev_lret rfl d56_35 ?_
    exact pl_same hX
theorem x_countsIn (G : ai_G S F) (hX : ai_RX σ I L) (hV : ai_IV σ) {z1 : Int32} : ai_Ev none 59 0 [some (.ref 1), some (.int z1)] [] (S, I, L, F) (ai_PX S F I L (o_countsIn σ z1)) := by
  have hnT := hV.nT
  have hnQ := hV.nQ
  have hnJ := hV.nJ
  unfold o_countsIn
  refine ev_aload_n 1 rfl d59_0 rfl ?_
  refine ev_iload_n 2 rfl d59_1 rfl ?_
  refine ev_cb1 5 rfl 84 d59_2 rfl rfl (by rw [G.1 _ _ (rfl : ai_sp 1 = (8, 0)) (by decide) (by decide)]; rfl) (by omega) rfl (x_isShelf G hX hV) (fun hq_2 => ?_) (fun hq_2 => ?_)
  · try rw [c_T hq_2]
    obtain ⟨s, hs, rfl⟩ := hq_2
    refine ev_if_T 14 (by decide) (by decide) d59_5 ?_
    simp only [nn_I (show s < 2147483648 by omega)]
    refine ev_aload_n 15 rfl d59_14 rfl ?_
    refine ev_getr 18 rfl 8 0 d59_15 rfl (by omega) (G.1 _ _ (rfl : ai_sp 1 = (8, 0)) (by decide) (by decide)) (G.2 _ _ _ (rfl : ai_rf 1 0 = some 2)) ?_
    refine ev_iload_n 19 rfl d59_18 rfl ?_
    refine ev_aald_n 20 rfl d59_19 (by omega) (by decide) (G.1 _ _ (rfl : ai_sp 2 = (104, 8)) (by decide) (by decide)) (by omega) (by decide) (G.2 _ _ _ (rf_shelf (by omega))) ?_
    refine ev_cb0 23 rfl 46 d59_20 rfl rfl (by rw [G.1 _ _ (sp_shelf (by omega)) (by omega) (by omega)]; rfl) (by omega) rfl (x_holdsR G hX hV (by omega)) (fun hq_20 => ?_) (fun hq_20 => ?_)
    · try rw [c_T hq_20]
      refine ev_if_F 33 26 (by decide) rfl (by decide) d59_23 ?_
      refine ev_aload_n 27 rfl d59_26 rfl ?_
      refine ev_bipush (v := (-2)) 29 rfl d59_27 (by decide) ?_
      refine ev_cy1 32 rfl 90 d59_29 rfl rfl (by rw [G.1 _ _ (rfl : ai_sp 1 = (8, 0)) (by decide) (by decide)]; rfl) (by omega) rfl (show ai_Ev none 90 0 [some (.ref 1), some (.int (-2)), none] [] (S, I, L, F) _ from by rw [show ((-2) : Int32) = -(nI 2) by decide]; exact x_refuse (I := I) (L := L) (S := S) (F := F) G (k := 2) (by omega)) (fun v_2 I_1 hr_29 => ?_)
      refine ev_iret (Or.inl rfl) d59_32 ?_
      exact px_ref hX (by omega) hr_29
    · try rw [c_F hq_20]
      refine ev_if_T 33 (by decide) (by decide) d59_23 ?_
      refine ev_aload_n 34 rfl d59_33 rfl ?_
      refine ev_getr 37 rfl 8 0 d59_34 rfl (by omega) (G.1 _ _ (rfl : ai_sp 1 = (8, 0)) (by decide) (by decide)) (G.2 _ _ _ (rfl : ai_rf 1 0 = some 2)) ?_
      refine ev_iload_n 38 rfl d59_37 rfl ?_
      refine ev_aald_n 39 rfl d59_38 (by omega) (by decide) (G.1 _ _ (rfl : ai_sp 2 = (104, 8)) (by decide) (by decide)) (by omega) (by decide) (G.2 _ _ _ (rf_shelf (by omega))) ?_
      refine ev_cb0 42 rfl 47 d59_39 rfl rfl (by rw [G.1 _ _ (sp_shelf (by omega)) (by omega) (by omega)]; rfl) (by omega) rfl (x_holdsJ G hX hV (by omega)) (fun hq_39 => ?_) (fun hq_39 => ?_)
      · try rw [c_T hq_39]
        refine ev_if_T 52 (by decide) (by decide) d59_42 ?_
        refine ev_aload_n 53 rfl d59_52 rfl ?_
        refine ev_aload_n 54 rfl d59_53 rfl ?_
        refine ev_getr 57 rfl 8 0 d59_54 rfl (by omega) (G.1 _ _ (rfl : ai_sp 1 = (8, 0)) (by decide) (by decide)) (G.2 _ _ _ (rfl : ai_rf 1 0 = some 2)) ?_
        refine ev_iload_n 58 rfl d59_57 rfl ?_
        refine ev_aald_n 59 rfl d59_58 (by omega) (by decide) (G.1 _ _ (rfl : ai_sp 2 = (104, 8)) (by decide) (by decide)) (by omega) (by decide) (G.2 _ _ _ (rf_shelf (by omega))) ?_
        refine ev_geti (v := nI (σ.hd s - 1)) 62 rfl 6 1 d59_59 rfl (by omega) (G.1 _ _ (sp_shelf (by omega)) (by omega) (by omega)) ((hX.jd _ (by omega)).trans (by rw [if_neg (by omega)]; exact nM_pos (by omega))) ?_
        refine ev_cp1 65 rfl 99 d59_62 rfl rfl (by rw [G.1 _ _ (rfl : ai_sp 1 = (8, 0)) (by decide) (by decide)]; rfl) (by omega) rfl (x_countOf G hX hV (by have := hV.hd s hs; omega)) ?_
        refine ev_iret (Or.inl rfl) d59_65 ?_
        exact px_same hX
      · try rw [c_F hq_39]
        refine ev_if_F 52 45 (by decide) rfl (by decide) d59_42 ?_
        refine ev_aload_n 46 rfl d59_45 rfl ?_
        refine ev_bipush (v := (-3)) 48 rfl d59_46 (by decide) ?_
        refine ev_cy1 51 rfl 90 d59_48 rfl rfl (by rw [G.1 _ _ (rfl : ai_sp 1 = (8, 0)) (by decide) (by decide)]; rfl) (by omega) rfl (show ai_Ev none 90 0 [some (.ref 1), some (.int (-3)), none] [] (S, I, L, F) _ from by rw [show ((-3) : Int32) = -(nI 3) by decide]; exact x_refuse (I := I) (L := L) (S := S) (F := F) G (k := 3) (by omega)) (fun v_2 I_1 hr_48 => ?_)
        refine ev_iret (Or.inl rfl) d59_51 ?_
        exact px_ref hX (by omega) hr_48
  · try rw [c_F hq_2]
    refine ev_if_F 14 8 (by decide) rfl (by decide) d59_5 ?_
    refine ev_aload_n 9 rfl d59_8 rfl ?_
    refine ev_iconst (v := (-1)) 10 rfl d59_9 (by decide) ?_
    refine ev_cy1 13 rfl 90 d59_10 rfl rfl (by rw [G.1 _ _ (rfl : ai_sp 1 = (8, 0)) (by decide) (by decide)]; rfl) (by omega) rfl (show ai_Ev none 90 0 [some (.ref 1), some (.int (-1)), none] [] (S, I, L, F) _ from by rw [show ((-1) : Int32) = -(nI 1) by decide]; exact x_refuse (I := I) (L := L) (S := S) (F := F) G (k := 1) (by omega)) (fun v_2 I_1 hr_10 => ?_)
    refine ev_iret (Or.inl rfl) d59_13 ?_
    exact px_ref hX (by omega) hr_10
theorem x_rest (G : ai_G S F) (hX : ai_RX σ I L) (hV : ai_IV σ) {z1 : Int32} : ai_Ev none 66 0 [some (.ref 1), some (.int z1)] [] (S, I, L, F) (ai_PX S F I L (o_rest σ z1)) := by
  have hnT := hV.nT
  have hnQ := hV.nQ
  have hnJ := hV.nJ
  unfold o_rest
  refine ev_aload_n 1 rfl d66_0 rfl ?_
  refine ev_iload_n 2 rfl d66_1 rfl ?_
  refine ev_cb1 5 rfl 85 d66_2 rfl rfl (by rw [G.1 _ _ (rfl : ai_sp 1 = (8, 0)) (by decide) (by decide)]; rfl) (by omega) rfl (x_isJ G hX hV) (fun hq_2 => ?_) (fun hq_2 => ?_)
  · try rw [c_T hq_2]
    obtain ⟨j, hj, hjl, rfl⟩ := hq_2
    refine ev_if_T 14 (by decide) (by decide) d66_5 ?_
    simp only [nn_I (show j < 2147483648 by omega)]
    refine ev_aload_n 15 rfl d66_14 rfl ?_
    refine ev_getr 18 rfl 8 2 d66_15 rfl (by omega) (G.1 _ _ (rfl : ai_sp 1 = (8, 0)) (by decide) (by decide)) (G.2 _ _ _ (rfl : ai_rf 1 2 = some 4)) ?_
    refine ev_iload_n 19 rfl d66_18 rfl ?_
    refine ev_aald_n 20 rfl d66_19 (by omega) (by decide) (G.1 _ _ (rfl : ai_sp 4 = (106, 24)) (by decide) (by decide)) (by omega) (by decide) (G.2 _ _ _ (rf_judge (by omega))) ?_
    refine ev_iconst (v := nI 0) 21 rfl d66_20 (by decide) ?_
    obtain ⟨I_1, hI_1⟩ : ∃ z, z = ai_ui I (76 + 4 * j) 2 (nI 0) := ⟨_, rfl⟩
    refine ev_puti (I2 := I_1) 24 rfl 2 2 d66_21 rfl (by omega) (G.1 _ _ (sp_judge (by omega)) (by omega) (by omega)) (fun h => absurd h (by decide)) hI_1.symm ?_
    refine ev_iconst (v := nI 1) 25 rfl d66_24 (by decide) ?_
    refine ev_iret (Or.inl rfl) d66_25 ?_
    exact ⟨_, _, rfl, rfl, rx_rest hX (by omega) hI_1, fun a ha => ⟨by rw [ui_row hI_1 (by omega)], rfl⟩⟩
  · try rw [c_F hq_2]
    refine ev_if_F 14 8 (by decide) rfl (by decide) d66_5 ?_
    refine ev_aload_n 9 rfl d66_8 rfl ?_
    refine ev_iconst (v := (-1)) 10 rfl d66_9 (by decide) ?_
    refine ev_cy1 13 rfl 90 d66_10 rfl rfl (by rw [G.1 _ _ (rfl : ai_sp 1 = (8, 0)) (by decide) (by decide)]; rfl) (by omega) rfl (show ai_Ev none 90 0 [some (.ref 1), some (.int (-1)), none] [] (S, I, L, F) _ from by rw [show ((-1) : Int32) = -(nI 1) by decide]; exact x_refuse (I := I) (L := L) (S := S) (F := F) G (k := 1) (by omega)) (fun v_2 I_1 hr_10 => ?_)
    refine ev_iret (Or.inl rfl) d66_13 ?_
    exact px_ref hX (by omega) hr_10
theorem x_changed (G : ai_G S F) (hX : ai_RX σ I L) (hV : ai_IV σ) {z1 : Int32} : ai_Ev none 73 0 [some (.ref 1), some (.int z1)] [] (S, I, L, F) (ai_PX S F I L (o_changed σ z1)) := by
  have hnT := hV.nT
  have hnQ := hV.nQ
  have hnJ := hV.nJ
  unfold o_changed
  have hst := hV.st
  refine ev_iload_n 1 rfl d73_0 rfl ?_
  refine ev_if 30 4 (by decide) rfl cz_lt d73_1 (fun hc_1 => ?_) (fun hc_1 => ?_)
  · rw [c_F (is_L (by omega) hc_1)]
    try rw [c_T hc_1]
    refine ev_iconst (v := (-1)) 31 rfl d73_30 (by decide) ?_
    refine ev_iret (Or.inl rfl) d73_31 ?_
    exact px_same hX
  · try rw [c_F hc_1]
    obtain ⟨i, hi, rfl⟩ := nn_nI (nl_le hc_1)
    refine ev_iload_n 5 rfl d73_4 rfl ?_
    refine ev_aload_n 6 rfl d73_5 rfl ?_
    refine ev_geti (v := nI σ.st) 9 rfl 8 11 d73_6 rfl (by omega) (G.1 _ _ (rfl : ai_sp 1 = (8, 0)) (by decide) (by decide)) hX.st ?_
    refine ev_icmp 30 12 (by decide) rfl (cn_ge (by omega) (by omega)) d73_9 (fun hc_9 => ?_) (fun hc_9 => ?_)
    · rw [c_F (is_F (by omega) (by omega) (by omega))]
      try rw [c_T hc_9]
      refine ev_iconst (v := (-1)) 31 rfl d73_30 (by decide) ?_
      refine ev_iret (Or.inl rfl) d73_31 ?_
      exact px_same hX
    · rw [c_T (is_T (by omega))]
      simp only [nn_I (show i < 2147483648 by omega)]
      try rw [c_F hc_9]
      refine ev_iload_n 13 rfl d73_12 rfl ?_
      refine ev_aload_n 14 rfl d73_13 rfl ?_
      refine ev_getr 17 rfl 8 10 d73_14 rfl (by omega) (G.1 _ _ (rfl : ai_sp 1 = (8, 0)) (by decide) (by decide)) (G.2 _ _ _ (rfl : ai_rf 1 10 = some 6)) ?_
      refine ev_alen (v := nI 30) 18 rfl d73_17 (by omega) (by decide) (G.1 _ _ (rfl : ai_sp 6 = (100, 30)) (by decide) (by decide)) rfl ?_
      refine ev_icmp 30 21 (by decide) rfl (cn_ge (by omega) (by omega)) d73_18 (fun hc_18 => absurd hc_18 (by omega)) (fun hc_18 => ?_)
      refine ev_aload_n 22 rfl d73_21 rfl ?_
      refine ev_getr 25 rfl 8 10 d73_22 rfl (by omega) (G.1 _ _ (rfl : ai_sp 1 = (8, 0)) (by decide) (by decide)) (G.2 _ _ _ (rfl : ai_rf 1 10 = some 6)) ?_
      refine ev_iload_n 26 rfl d73_25 rfl ?_
      refine ev_iald_n (v := nI (σ.ch i)) 27 rfl d73_26 (by omega) (G.1 _ _ (rfl : ai_sp 6 = (100, 30)) (by decide) (by decide)) (by omega) (by decide) (hX.ch _ (by omega)) ?_
      refine ev_goto 31 (by decide) d73_27 ?_
      refine ev_iret (Or.inl rfl) d73_31 ?_
      exact px_same hX
theorem x_agreed (G : ai_G S F) (hX : ai_RX σ I L) (hV : ai_IV σ) {z1 : Int32} {z2 : Int32} : ai_Ev none 74 0 [some (.ref 1), some (.int z1), some (.int z2)] [] (S, I, L, F) (ai_PX S F I L (o_agreed σ z1 z2)) := by
  have hnT := hV.nT
  have hnQ := hV.nQ
  have hnJ := hV.nJ
  unfold o_agreed
  refine ev_aload_n 1 rfl d74_0 rfl ?_
  refine ev_iload_n 2 rfl d74_1 rfl ?_
  refine ev_iload_n 3 rfl d74_2 rfl ?_
  refine ev_cb2 6 rfl 88 d74_3 rfl rfl (by rw [G.1 _ _ (rfl : ai_sp 1 = (8, 0)) (by decide) (by decide)]; rfl) (by omega) rfl (x_isCase G hX hV) (fun hq_3 => ?_) (fun hq_3 => ?_)
  · try rw [c_T hq_3]
    obtain ⟨t, q, ht, hq, rfl, rfl⟩ := hq_3
    refine ev_if_F 21 9 (by decide) rfl (by decide) d74_6 ?_
    simp only [nn_I (show t < 2147483648 by omega)]
    simp only [nn_I (show q < 2147483648 by omega)]
    refine ev_aload_n 10 rfl d74_9 rfl ?_
    refine ev_iload_n 11 rfl d74_10 rfl ?_
    refine ev_iload_n 12 rfl d74_11 rfl ?_
    refine ev_cp2 15 rfl 89 d74_12 rfl rfl (by rw [G.1 _ _ (rfl : ai_sp 1 = (8, 0)) (by decide) (by decide)]; rfl) (by omega) rfl (x_caseOf G (t := t) (q := q) (by omega) (by omega)) ?_
    refine ev_geti (v := nI (σ.ag (5 * t + q)) - 1) 18 rfl 1 1 d74_15 rfl (by omega) (G.1 _ _ (sp_case (by omega)) (by omega) (by omega)) (hX.ag _ (by omega)) ?_
    refine ev_goto 22 (by decide) d74_18 ?_
    refine ev_iret (Or.inl rfl) d74_22 ?_
    exact px_same hX
  · try rw [c_F hq_3]
    refine ev_if_T 21 (by decide) (by decide) d74_6 ?_
    refine ev_iconst (v := (-1)) 22 rfl d74_21 (by decide) ?_
    refine ev_iret (Or.inl rfl) d74_22 ?_
    exact px_same hX
theorem x_looks (G : ai_G S F) (hX : ai_RX σ I L) (hV : ai_IV σ) {z1 : Int32} {z2 : Int32} : ai_Ev none 71 0 [some (.ref 1), some (.int z1), some (.int z2)] [] (S, I, L, F) (ai_PX S F I L (o_looks σ z1 z2)) := by
  have hnT := hV.nT
  have hnQ := hV.nQ
  have hnJ := hV.nJ
  unfold o_looks
  refine ev_aload_n 1 rfl d71_0 rfl ?_
  refine ev_iload_n 2 rfl d71_1 rfl ?_
  refine ev_iload_n 3 rfl d71_2 rfl ?_
  refine ev_cb2 6 rfl 88 d71_3 rfl rfl (by rw [G.1 _ _ (rfl : ai_sp 1 = (8, 0)) (by decide) (by decide)]; rfl) (by omega) rfl (x_isCase G hX hV) (fun hq_3 => ?_) (fun hq_3 => ?_)
  · try rw [c_T hq_3]
    obtain ⟨t, q, ht, hq, rfl, rfl⟩ := hq_3
    refine ev_if_F 22 9 (by decide) rfl (by decide) d71_6 ?_
    simp only [nn_I (show t < 2147483648 by omega)]
    simp only [nn_I (show q < 2147483648 by omega)]
    refine ev_aload_n 10 rfl d71_9 rfl ?_
    refine ev_aload_n 11 rfl d71_10 rfl ?_
    refine ev_iload_n 12 rfl d71_11 rfl ?_
    refine ev_iload_n 13 rfl d71_12 rfl ?_
    refine ev_cp2 16 rfl 89 d71_13 rfl rfl (by rw [G.1 _ _ (rfl : ai_sp 1 = (8, 0)) (by decide) (by decide)]; rfl) (by omega) rfl (x_caseOf G (t := t) (q := q) (by omega) (by omega)) ?_
    refine ev_cp1 19 rfl 98 d71_16 rfl rfl (by rw [G.1 _ _ (rfl : ai_sp 1 = (8, 0)) (by decide) (by decide)]; rfl) (by omega) rfl (x_countAt G hX hV (by omega)) ?_
    refine ev_goto 23 (by decide) d71_19 ?_
    refine ev_iret (Or.inl rfl) d71_23 ?_
    exact px_same hX
  · try rw [c_F hq_3]
    refine ev_if_T 22 (by decide) (by decide) d71_6 ?_
    refine ev_iconst (v := (-1)) 23 rfl d71_22 (by decide) ?_
    refine ev_iret (Or.inl rfl) d71_23 ?_
    exact px_same hX
theorem x_copied (G : ai_G S F) (hX : ai_RX σ I L) (hV : ai_IV σ) {z1 : Int32} : ai_Ev none 70 0 [some (.ref 1), some (.int z1)] [] (S, I, L, F) (ai_PX S F I L (o_copied σ z1)) := by
  have hnT := hV.nT
  have hnQ := hV.nQ
  have hnJ := hV.nJ
  unfold o_copied
  refine ev_aload_n 1 rfl d70_0 rfl ?_
  refine ev_iload_n 2 rfl d70_1 rfl ?_
  refine ev_cb1 5 rfl 85 d70_2 rfl rfl (by rw [G.1 _ _ (rfl : ai_sp 1 = (8, 0)) (by decide) (by decide)]; rfl) (by omega) rfl (x_isJ G hX hV) (fun hq_2 => ?_) (fun hq_2 => ?_)
  · try rw [c_T hq_2]
    obtain ⟨j, hj, hjl, rfl⟩ := hq_2
    refine ev_if_F 20 8 (by decide) rfl (by decide) d70_5 ?_
    simp only [nn_I (show j < 2147483648 by omega)]
    refine ev_aload_n 9 rfl d70_8 rfl ?_
    refine ev_getr 12 rfl 8 2 d70_9 rfl (by omega) (G.1 _ _ (rfl : ai_sp 1 = (8, 0)) (by decide) (by decide)) (G.2 _ _ _ (rfl : ai_rf 1 2 = some 4)) ?_
    refine ev_iload_n 13 rfl d70_12 rfl ?_
    refine ev_aald_n 14 rfl d70_13 (by omega) (by decide) (G.1 _ _ (rfl : ai_sp 4 = (106, 24)) (by decide) (by decide)) (by omega) (by decide) (G.2 _ _ _ (rf_judge (by omega))) ?_
    refine ev_geti (v := nI (σ.cop j) - 1) 17 rfl 2 3 d70_14 rfl (by omega) (G.1 _ _ (sp_judge (by omega)) (by omega) (by omega)) (hX.og _ (by omega)) ?_
    refine ev_goto 21 (by decide) d70_17 ?_
    refine ev_iret (Or.inl rfl) d70_21 ?_
    exact px_same hX
  · try rw [c_F hq_2]
    refine ev_if_T 20 (by decide) (by decide) d70_5 ?_
    refine ev_iconst (v := (-1)) 21 rfl d70_20 (by decide) ?_
    refine ev_iret (Or.inl rfl) d70_21 ?_
    exact px_same hX
theorem x_how (G : ai_G S F) (hX : ai_RX σ I L) (hV : ai_IV σ) {z1 : Int32} {z2 : Int32} {z3 : Int32} : ai_Ev none 69 0 [some (.ref 1), some (.int z1), some (.int z2), some (.int z3), none, none] [] (S, I, L, F) (ai_PX S F I L (o_how σ z1 z2 z3)) := by
  have hnT := hV.nT
  have hnQ := hV.nQ
  have hnJ := hV.nJ
  unfold o_how
  refine ev_aload_n 1 rfl d69_0 rfl ?_
  refine ev_iload_n 2 rfl d69_1 rfl ?_
  refine ev_cb1 5 rfl 85 d69_2 rfl rfl (by rw [G.1 _ _ (rfl : ai_sp 1 = (8, 0)) (by decide) (by decide)]; rfl) (by omega) rfl (x_isJ G hX hV) (fun hq_2 => ?_) (fun hq_2 => ?_)
  · try rw [c_T hq_2]
    obtain ⟨j, hj, hjl, rfl⟩ := hq_2
    refine ev_if_F 17 8 (by decide) rfl (by decide) d69_5 ?_
    simp only [nn_I (show j < 2147483648 by omega)]
    refine ev_aload_n 9 rfl d69_8 rfl ?_
    refine ev_iload_n 10 rfl d69_9 rfl ?_
    refine ev_iload_n 11 rfl d69_10 rfl ?_
    refine ev_cb2 14 rfl 88 d69_11 rfl rfl (by rw [G.1 _ _ (rfl : ai_sp 1 = (8, 0)) (by decide) (by decide)]; rfl) (by omega) rfl (x_isCase G hX hV) (fun hq_11 => ?_) (fun hq_11 => ?_)
    · try rw [c_T hq_11]
      obtain ⟨t, q, ht, hq, rfl, rfl⟩ := hq_11
      refine ev_if_T 19 (by decide) (by decide) d69_14 ?_
      simp only [nn_I (show t < 2147483648 by omega)]
      simp only [nn_I (show q < 2147483648 by omega)]
      have hkd := kd_le hV (j := j) (c := 5 * t + q) (by omega)
      refine ev_aload_n 20 rfl d69_19 rfl ?_
      refine ev_iload_n 21 rfl d69_20 rfl ?_
      refine ev_iload_n 22 rfl d69_21 rfl ?_
      refine ev_cp2 25 rfl 89 d69_22 rfl rfl (by rw [G.1 _ _ (rfl : ai_sp 1 = (8, 0)) (by decide) (by decide)]; rfl) (by omega) rfl (x_caseOf G (t := t) (q := q) (by omega) (by omega)) ?_
      refine ev_store_a 27 rfl d69_25 ⟨rfl, Nat.le_of_ble_eq_true rfl⟩ rfl ?_
      show ai_Ev _ _ _ [some (.ref 1), some (.int (nI j)), some (.int (nI t)), some (.int (nI q)), some (.ref (172 + 2 * (5 * t + q))), none] _ _ _
      refine ev_aload 29 rfl d69_27 rfl ?_
      refine ev_iload_n 30 rfl d69_29 rfl ?_
      refine ev_cp1 33 rfl 15 d69_30 rfl rfl (by rw [G.1 _ _ (sp_case (by omega)) (by omega) (by omega)]; rfl) (by omega) rfl (x_kind G hX hV (by omega) (by omega)) ?_
      refine ev_store_i 35 rfl d69_33 ⟨rfl, Nat.le_of_ble_eq_true rfl⟩ rfl ?_
      show ai_Ev _ _ _ [some (.ref 1), some (.int (nI j)), some (.int (nI t)), some (.int (nI q)), some (.ref (172 + 2 * (5 * t + q))), some (.int (nI (σ.kd j (5 * t + q)) - 1))] _ _ _
      refine ev_iload 37 rfl d69_35 rfl ?_
      refine ev_if 52 40 (by decide) rfl (cq0_ne (by omega)) d69_37 (fun hc_37 => ?_) (fun hc_37 => ?_)
      · rw [c_F (fun h9 => absurd h9.1 hc_37)]
        try rw [c_T hc_37]
        refine ev_iload 54 rfl d69_52 rfl ?_
        refine ev_iret (Or.inl rfl) d69_54 ?_
        exact px_same hX
      · try rw [c_F hc_37]
        refine ev_aload_n 41 rfl d69_40 rfl ?_
        refine ev_aload 43 rfl d69_41 rfl ?_
        refine ev_iload_n 44 rfl d69_43 rfl ?_
        refine ev_cb2 47 rfl 97 d69_44 rfl rfl (by rw [G.1 _ _ (rfl : ai_sp 1 = (8, 0)) (by decide) (by decide)]; rfl) (by omega) rfl (x_counting G hX hV (by omega) (by omega)) (fun hq_44 => ?_) (fun hq_44 => ?_)
        · rw [c_F (fun h9 => absurd hq_44 h9.2)]
          refine ev_if_T 52 (by decide) (by decide) d69_47 ?_
          refine ev_iload 54 rfl d69_52 rfl ?_
          refine ev_iret (Or.inl rfl) d69_54 ?_
          exact px_same hX
        · rw [c_T ⟨(by omega), hq_44⟩]
          refine ev_if_F 52 50 (by decide) rfl (by decide) d69_47 ?_
          refine ev_iconst (v := nI 3) 51 rfl d69_50 (by decide) ?_
          refine ev_iret (Or.inl rfl) d69_51 ?_
          exact px_same hX
    · try rw [c_F hq_11]
      refine ev_if_F 19 17 (by decide) rfl (by decide) d69_14 ?_
      refine ev_iconst (v := (-1)) 18 rfl d69_17 (by decide) ?_
      refine ev_iret (Or.inl rfl) d69_18 ?_
      exact px_same hX
  · try rw [c_F hq_2]
    refine ev_if_T 17 (by decide) (by decide) d69_5 ?_
    refine ev_iconst (v := (-1)) 18 rfl d69_17 (by decide) ?_
    refine ev_iret (Or.inl rfl) d69_18 ?_
    exact px_same hX
theorem x_top (G : ai_G S F) (hX : ai_RX σ I L) (hV : ai_IV σ) {z1 : Int32} {z2 : Int32} {z3 : Int32} {z4 : Int32} : ai_Ev none 75 0 [some (.ref 1), some (.int z1), some (.int z2), some (.int z3), some (.int z4)] [] (S, I, L, F) (ai_PX S F I L (o_top σ z1 z2 z3 z4)) := by
  have hnT := hV.nT
  have hnQ := hV.nQ
  have hnJ := hV.nJ
  unfold o_top
  refine ev_aload_n 1 rfl d75_0 rfl ?_
  refine ev_iload_n 2 rfl d75_1 rfl ?_
  refine ev_cb1 5 rfl 85 d75_2 rfl rfl (by rw [G.1 _ _ (rfl : ai_sp 1 = (8, 0)) (by decide) (by decide)]; rfl) (by omega) rfl (x_isJ G hX hV) (fun hq_2 => ?_) (fun hq_2 => ?_)
  · try rw [c_T hq_2]
    obtain ⟨j, hj, hjl, rfl⟩ := hq_2
    refine ev_if_F 27 8 (by decide) rfl (by decide) d75_5 ?_
    simp only [nn_I (show j < 2147483648 by omega)]
    refine ev_aload_n 9 rfl d75_8 rfl ?_
    refine ev_iload_n 10 rfl d75_9 rfl ?_
    refine ev_iload_n 11 rfl d75_10 rfl ?_
    refine ev_cb2 14 rfl 87 d75_11 rfl rfl (by rw [G.1 _ _ (rfl : ai_sp 1 = (8, 0)) (by decide) (by decide)]; rfl) (by omega) rfl (x_isAnswer G hX hV) (fun hq_11 => ?_) (fun hq_11 => ?_)
    · try rw [c_T hq_11]
      obtain ⟨q, a, hq, ha, rfl, rfl⟩ := hq_11
      refine ev_if_F 27 17 (by decide) rfl (by decide) d75_14 ?_
      have han := hV.an q hq
      simp only [nn_I (show q < 2147483648 by omega)]
      simp only [nn_I (show a < 2147483648 by omega)]
      refine ev_aload_n 18 rfl d75_17 rfl ?_
      refine ev_iload_n 19 rfl d75_18 rfl ?_
      refine ev_iload 21 rfl d75_19 rfl ?_
      refine ev_cb2 24 rfl 87 d75_21 rfl rfl (by rw [G.1 _ _ (rfl : ai_sp 1 = (8, 0)) (by decide) (by decide)]; rfl) (by omega) rfl (x_isAnswerN G hX hV (by omega)) (fun hq_21 => ?_) (fun hq_21 => ?_)
      · try rw [c_T hq_21]
        obtain ⟨b, hb, rfl⟩ := hq_21
        refine ev_if_T 29 (by decide) (by decide) d75_24 ?_
        simp only [nn_I (show b < 2147483648 by omega)]
        refine ev_aload_n 30 rfl d75_29 rfl ?_
        refine ev_getr 33 rfl 8 2 d75_30 rfl (by omega) (G.1 _ _ (rfl : ai_sp 1 = (8, 0)) (by decide) (by decide)) (G.2 _ _ _ (rfl : ai_rf 1 2 = some 4)) ?_
        refine ev_iload_n 34 rfl d75_33 rfl ?_
        refine ev_aald_n 35 rfl d75_34 (by omega) (by decide) (G.1 _ _ (rfl : ai_sp 4 = (106, 24)) (by decide) (by decide)) (by omega) (by decide) (G.2 _ _ _ (rf_judge (by omega))) ?_
        refine ev_iload_n 36 rfl d75_35 rfl ?_
        refine ev_iload_n 37 rfl d75_36 rfl ?_
        refine ev_iload 39 rfl d75_37 rfl ?_
        refine ev_cp3 42 rfl 24 d75_39 rfl rfl (by rw [G.1 _ _ (sp_judge (by omega)) (by omega) (by omega)]; rfl) (by omega) rfl (j_top G (by omega) (v := σ.sd j q a b) (by omega) (by omega) (by omega) (by have := (hV.sl j q a b).1; omega) (hX.sd j q a b (by omega) (by omega) (by omega) (by omega))) ?_
        refine ev_iret (Or.inl rfl) d75_42 ?_
        exact px_same hX
      · try rw [c_F hq_21]
        refine ev_if_F 29 27 (by decide) rfl (by decide) d75_24 ?_
        refine ev_iconst (v := nI 0) 28 rfl d75_27 (by decide) ?_
        refine ev_iret (Or.inl rfl) d75_28 ?_
        exact px_same hX
    · try rw [c_F hq_11]
      refine ev_if_T 27 (by decide) (by decide) d75_14 ?_
      refine ev_iconst (v := nI 0) 28 rfl d75_27 (by decide) ?_
      refine ev_iret (Or.inl rfl) d75_28 ?_
      exact px_same hX
  · try rw [c_F hq_2]
    refine ev_if_T 27 (by decide) (by decide) d75_5 ?_
    refine ev_iconst (v := nI 0) 28 rfl d75_27 (by decide) ?_
    refine ev_iret (Or.inl rfl) d75_28 ?_
    exact px_same hX
theorem x_bottom (G : ai_G S F) (hX : ai_RX σ I L) (hV : ai_IV σ) {z1 : Int32} {z2 : Int32} {z3 : Int32} : ai_Ev none 76 0 [some (.ref 1), some (.int z1), some (.int z2), some (.int z3)] [] (S, I, L, F) (ai_PX S F I L (o_bottom σ z1 z2 z3)) := by
  have hnT := hV.nT
  have hnQ := hV.nQ
  have hnJ := hV.nJ
  unfold o_bottom
  refine ev_aload_n 1 rfl d76_0 rfl ?_
  refine ev_iload_n 2 rfl d76_1 rfl ?_
  refine ev_cb1 5 rfl 85 d76_2 rfl rfl (by rw [G.1 _ _ (rfl : ai_sp 1 = (8, 0)) (by decide) (by decide)]; rfl) (by omega) rfl (x_isJ G hX hV) (fun hq_2 => ?_) (fun hq_2 => ?_)
  · try rw [c_T hq_2]
    obtain ⟨j, hj, hjl, rfl⟩ := hq_2
    refine ev_if_F 17 8 (by decide) rfl (by decide) d76_5 ?_
    simp only [nn_I (show j < 2147483648 by omega)]
    refine ev_aload_n 9 rfl d76_8 rfl ?_
    refine ev_iload_n 10 rfl d76_9 rfl ?_
    refine ev_iload_n 11 rfl d76_10 rfl ?_
    refine ev_cb2 14 rfl 87 d76_11 rfl rfl (by rw [G.1 _ _ (rfl : ai_sp 1 = (8, 0)) (by decide) (by decide)]; rfl) (by omega) rfl (x_isAnswer G hX hV) (fun hq_11 => ?_) (fun hq_11 => ?_)
    · try rw [c_T hq_11]
      obtain ⟨q, a, hq, ha, rfl, rfl⟩ := hq_11
      refine ev_if_T 19 (by decide) (by decide) d76_14 ?_
      have han := hV.an q hq
      simp only [nn_I (show q < 2147483648 by omega)]
      simp only [nn_I (show a < 2147483648 by omega)]
      refine ev_aload_n 20 rfl d76_19 rfl ?_
      refine ev_getr 23 rfl 8 2 d76_20 rfl (by omega) (G.1 _ _ (rfl : ai_sp 1 = (8, 0)) (by decide) (by decide)) (G.2 _ _ _ (rfl : ai_rf 1 2 = some 4)) ?_
      refine ev_iload_n 24 rfl d76_23 rfl ?_
      refine ev_aald_n 25 rfl d76_24 (by omega) (by decide) (G.1 _ _ (rfl : ai_sp 4 = (106, 24)) (by decide) (by decide)) (by omega) (by decide) (G.2 _ _ _ (rf_judge (by omega))) ?_
      refine ev_iload_n 26 rfl d76_25 rfl ?_
      refine ev_iload_n 27 rfl d76_26 rfl ?_
      refine ev_aload_n 28 rfl d76_27 rfl ?_
      refine ev_getr 31 rfl 8 1 d76_28 rfl (by omega) (G.1 _ _ (rfl : ai_sp 1 = (8, 0)) (by decide) (by decide)) (G.2 _ _ _ (rfl : ai_rf 1 1 = some 3)) ?_
      refine ev_iload_n 32 rfl d76_31 rfl ?_
      refine ev_aald_n 33 rfl d76_32 (by omega) (by decide) (G.1 _ _ (rfl : ai_sp 3 = (105, 5)) (by decide) (by decide)) (by omega) (by decide) (G.2 _ _ _ (rf_question (by omega))) ?_
      refine ev_geti (v := nI (σ.an q)) 36 rfl 4 0 d76_33 rfl (by omega) (G.1 _ _ (sp_question (by omega)) (by omega) (by omega)) (hX.an _ (by omega) (by omega)) ?_
      refine ev_cp3 39 rfl 25 d76_36 rfl rfl (by rw [G.1 _ _ (sp_judge (by omega)) (by omega) (by omega)]; rfl) (by omega) rfl (j_bottom G (by omega) (u := σ.sa j q a) (n := σ.an q) (by omega) (by omega) (by have := (hV.sl j q 0 a).2; omega) (hX.sa j q a (by omega) (by omega) (by omega))) ?_
      refine ev_iret (Or.inl rfl) d76_39 ?_
      exact px_same hX
    · try rw [c_F hq_11]
      refine ev_if_F 19 17 (by decide) rfl (by decide) d76_14 ?_
      refine ev_iconst (v := nI 0) 18 rfl d76_17 (by decide) ?_
      refine ev_iret (Or.inl rfl) d76_18 ?_
      exact px_same hX
  · try rw [c_F hq_2]
    refine ev_if_T 17 (by decide) (by decide) d76_5 ?_
    refine ev_iconst (v := nI 0) 18 rfl d76_17 (by decide) ?_
    refine ev_iret (Or.inl rfl) d76_18 ?_
    exact px_same hX
theorem x_know (G : ai_G S F) (hX : ai_RX σ I L) (hV : ai_IV σ) {z1 z2 z3 : Int32} : ai_Ev none 63 0 [some (.ref 1), some (.int z1), some (.int z2), some (.int z3)] [] (S, I, L, F) (ai_PX S F I L (o_know σ z1 z2 z3)) := by
  have hnT := hV.nT
  have hnQ := hV.nQ
  have hnJ := hV.nJ
  unfold o_know
  by_cases h3 : z3 = -1
  · subst h3
    refine ev_aload_n 1 rfl d63_0 rfl ?_
    refine ev_iload_n 2 rfl d63_1 rfl ?_
    refine ev_iload_n 3 rfl d63_2 rfl ?_
    refine ev_cb2 6 rfl 88 d63_3 rfl rfl (by rw [G.1 _ _ (rfl : ai_sp 1 = (8, 0)) (by decide) (by decide)]; rfl) (by omega) rfl (x_isCase G hX hV) (fun hq_3 => ?_) (fun hq_3 => ?_)
    · try rw [c_T hq_3]
      obtain ⟨t, q, ht, hq, rfl, rfl⟩ := hq_3
      refine ev_if_T 15 (by decide) (by decide) d63_6 ?_
      simp only [nn_I (show t < 2147483648 by omega)]
      simp only [nn_I (show q < 2147483648 by omega)]
      have han := hV.an q hq
      refine ev_iload_n 16 rfl d63_15 rfl ?_
      refine ev_iconst (v := (-1)) 17 rfl d63_16 (by decide) ?_
      refine ev_icmp_T 36 (by decide) (by decide) d63_17 ?_
      rw [c_T trivial]
      refine ev_aload_n 37 rfl d63_36 rfl ?_
      refine ev_iload_n 38 rfl d63_37 rfl ?_
      refine ev_iload_n 39 rfl d63_38 rfl ?_
      refine ev_cp2 42 rfl 89 d63_39 rfl rfl (by rw [G.1 _ _ (rfl : ai_sp 1 = (8, 0)) (by decide) (by decide)]; rfl) (by omega) rfl (x_caseOf G (t := t) (q := q) (by omega) (by omega)) ?_
      refine ev_iload_n 43 rfl d63_42 rfl ?_
      obtain ⟨I_1, hI_1⟩ : ∃ z, z = ai_ui I (172 + 2 * (5 * t + q)) 0 (-1) := ⟨_, rfl⟩
      refine ev_puti (I2 := I_1) 46 rfl 1 0 d63_43 rfl (by omega) (G.1 _ _ (sp_case (by omega)) (by omega) (by omega)) (fun h => absurd h (by decide)) hI_1.symm ?_
      refine ev_iconst (v := nI 1) 47 rfl d63_46 (by decide) ?_
      refine ev_iret (Or.inl rfl) d63_47 ?_
      exact ⟨_, _, rfl, rfl, rx_know hX (by omega) (by rw [hI_1, nM_z]), fun a ha => ⟨by rw [ui_row hI_1 (by omega)], rfl⟩⟩
    · try rw [c_F hq_3]
      refine ev_if_F 15 9 (by decide) rfl (by decide) d63_6 ?_
      refine ev_aload_n 10 rfl d63_9 rfl ?_
      refine ev_iconst (v := (-1)) 11 rfl d63_10 (by decide) ?_
      refine ev_cy1 14 rfl 90 d63_11 rfl rfl (by rw [G.1 _ _ (rfl : ai_sp 1 = (8, 0)) (by decide) (by decide)]; rfl) (by omega) rfl (show ai_Ev none 90 0 [some (.ref 1), some (.int (-1)), none] [] (S, I, L, F) _ from by rw [show ((-1) : Int32) = -(nI 1) by decide]; exact x_refuse (I := I) (L := L) (S := S) (F := F) G (k := 1) (by omega)) (fun v_2 I_1 hr_11 => ?_)
      refine ev_iret (Or.inl rfl) d63_14 ?_
      exact px_ref hX (by omega) hr_11
  · skip
    refine ev_aload_n 1 rfl d63_0 rfl ?_
    refine ev_iload_n 2 rfl d63_1 rfl ?_
    refine ev_iload_n 3 rfl d63_2 rfl ?_
    refine ev_cb2 6 rfl 88 d63_3 rfl rfl (by rw [G.1 _ _ (rfl : ai_sp 1 = (8, 0)) (by decide) (by decide)]; rfl) (by omega) rfl (x_isCase G hX hV) (fun hq_3 => ?_) (fun hq_3 => ?_)
    · try rw [c_T hq_3]
      obtain ⟨t, q, ht, hq, rfl, rfl⟩ := hq_3
      refine ev_if_T 15 (by decide) (by decide) d63_6 ?_
      simp only [nn_I (show t < 2147483648 by omega)]
      simp only [nn_I (show q < 2147483648 by omega)]
      have han := hV.an q hq
      refine ev_iload_n 16 rfl d63_15 rfl ?_
      refine ev_iconst (v := (-1)) 17 rfl d63_16 (by decide) ?_
      refine ev_icmp 36 20 (by decide) rfl cz_eq d63_17 (fun hc_17 => ?_) (fun hc_17 => ?_)
      · exact absurd hc_17 h3
      · rw [c_F hc_17]
        try rw [c_F hc_17]
        refine ev_aload_n 21 rfl d63_20 rfl ?_
        refine ev_iload_n 22 rfl d63_21 rfl ?_
        refine ev_iload_n 23 rfl d63_22 rfl ?_
        refine ev_cb2 26 rfl 87 d63_23 rfl rfl (by rw [G.1 _ _ (rfl : ai_sp 1 = (8, 0)) (by decide) (by decide)]; rfl) (by omega) rfl (x_isAnswerN G hX hV (by omega)) (fun hq_23 => ?_) (fun hq_23 => ?_)
        · try rw [c_T hq_23]
          obtain ⟨b, hb, rfl⟩ := hq_23
          refine ev_if_T 36 (by decide) (by decide) d63_26 ?_
          simp only [nn_I (show b < 2147483648 by omega)]
          refine ev_aload_n 37 rfl d63_36 rfl ?_
          refine ev_iload_n 38 rfl d63_37 rfl ?_
          refine ev_iload_n 39 rfl d63_38 rfl ?_
          refine ev_cp2 42 rfl 89 d63_39 rfl rfl (by rw [G.1 _ _ (rfl : ai_sp 1 = (8, 0)) (by decide) (by decide)]; rfl) (by omega) rfl (x_caseOf G (t := t) (q := q) (by omega) (by omega)) ?_
          refine ev_iload_n 43 rfl d63_42 rfl ?_
          obtain ⟨I_1, hI_1⟩ : ∃ z, z = ai_ui I (172 + 2 * (5 * t + q)) 0 (nI b) := ⟨_, rfl⟩
          refine ev_puti (I2 := I_1) 46 rfl 1 0 d63_43 rfl (by omega) (G.1 _ _ (sp_case (by omega)) (by omega) (by omega)) (fun h => absurd h (by decide)) hI_1.symm ?_
          refine ev_iconst (v := nI 1) 47 rfl d63_46 (by decide) ?_
          refine ev_iret (Or.inl rfl) d63_47 ?_
          exact ⟨_, _, rfl, rfl, rx_know hX (by omega) (by rw [hI_1, nM_succ]), fun a ha => ⟨by rw [ui_row hI_1 (by omega)], rfl⟩⟩
        · try rw [c_F hq_23]
          refine ev_if_F 36 29 (by decide) rfl (by decide) d63_26 ?_
          refine ev_aload_n 30 rfl d63_29 rfl ?_
          refine ev_bipush (v := (-6)) 32 rfl d63_30 (by decide) ?_
          refine ev_cy1 35 rfl 90 d63_32 rfl rfl (by rw [G.1 _ _ (rfl : ai_sp 1 = (8, 0)) (by decide) (by decide)]; rfl) (by omega) rfl (show ai_Ev none 90 0 [some (.ref 1), some (.int (-6)), none] [] (S, I, L, F) _ from by rw [show ((-6) : Int32) = -(nI 6) by decide]; exact x_refuse (I := I) (L := L) (S := S) (F := F) G (k := 6) (by omega)) (fun v_2 I_1 hr_32 => ?_)
          refine ev_iret (Or.inl rfl) d63_35 ?_
          exact px_ref hX (by omega) hr_32
    · try rw [c_F hq_3]
      refine ev_if_F 15 9 (by decide) rfl (by decide) d63_6 ?_
      refine ev_aload_n 10 rfl d63_9 rfl ?_
      refine ev_iconst (v := (-1)) 11 rfl d63_10 (by decide) ?_
      refine ev_cy1 14 rfl 90 d63_11 rfl rfl (by rw [G.1 _ _ (rfl : ai_sp 1 = (8, 0)) (by decide) (by decide)]; rfl) (by omega) rfl (show ai_Ev none 90 0 [some (.ref 1), some (.int (-1)), none] [] (S, I, L, F) _ from by rw [show ((-1) : Int32) = -(nI 1) by decide]; exact x_refuse (I := I) (L := L) (S := S) (F := F) G (k := 1) (by omega)) (fun v_2 I_1 hr_11 => ?_)
      refine ev_iret (Or.inl rfl) d63_14 ?_
      exact px_ref hX (by omega) hr_11
theorem mlt {n : Nat} (h : n ≤ 24) : (-1 : Int32) < nI n := by
  have := (by decide +kernel : ∀ n, n < 25 → (-1 : Int32) < nI n); exact this n (by omega)
theorem lt_m1 {z : Int32} (h : ¬ z = -1) (h2 : ¬ (0 : Int32) ≤ z) : z < -1 := by
  have h3 : ¬ (0 : Int) ≤ z.toInt := fun q => h2 (Int32.le_iff_toInt_le.mpr q)
  have h4 : ¬ z.toInt = -1 := fun q => h (Int32.toInt_inj.mp q)
  exact Int32.lt_iff_toInt_lt.mpr (by show z.toInt < -1; omega)
theorem x_show (G : ai_G S F) (hX : ai_RX σ I L) (hV : ai_IV σ) {z1 z2 : Int32} : ai_Ev none 57 0 [some (.ref 1), some (.int z1), some (.int z2)] [] (S, I, L, F) (ai_PX S F I L (o_show σ z1 z2)) := by
  have hnT := hV.nT
  have hnQ := hV.nQ
  have hnJ := hV.nJ
  unfold o_show
  by_cases h2 : z2 = -1
  · subst h2
    refine ev_aload_n 1 rfl d57_0 rfl ?_
    refine ev_iload_n 2 rfl d57_1 rfl ?_
    refine ev_cb1 5 rfl 84 d57_2 rfl rfl (by rw [G.1 _ _ (rfl : ai_sp 1 = (8, 0)) (by decide) (by decide)]; rfl) (by omega) rfl (x_isShelf G hX hV) (fun hq_2 => ?_) (fun hq_2 => ?_)
    · try rw [c_T hq_2]
      obtain ⟨s, hs, rfl⟩ := hq_2
      refine ev_if_F 21 8 (by decide) rfl (by decide) d57_5 ?_
      simp only [nn_I (show s < 2147483648 by omega)]
      rw [c_T trivial]
      refine ev_iload_n 9 rfl d57_8 rfl ?_
      refine ev_iconst (v := (-1)) 10 rfl d57_9 (by decide) ?_
      refine ev_icmp_F 21 13 (by decide) rfl (by decide) d57_10 ?_
      refine ev_iload_n 14 rfl d57_13 rfl ?_
      refine ev_aload_n 15 rfl d57_14 rfl ?_
      refine ev_geti (v := nI σ.nJ) 18 rfl 8 6 d57_15 rfl (by omega) (G.1 _ _ (rfl : ai_sp 1 = (8, 0)) (by decide) (by decide)) hX.nJ ?_
      refine ev_icmp 27 21 (by decide) rfl cz_lt d57_18 (fun hc_18 => ?_) (fun hc_18 => ?_)
      · try rw [c_T hc_18]
        refine ev_iload_n 28 rfl d57_27 rfl ?_
        refine ev_iconst (v := (-1)) 29 rfl d57_28 (by decide) ?_
        refine ev_icmp_F 43 32 (by decide) rfl (by decide) d57_29 ?_
        refine ev_aload_n 33 rfl d57_32 rfl ?_
        refine ev_getr 36 rfl 8 0 d57_33 rfl (by omega) (G.1 _ _ (rfl : ai_sp 1 = (8, 0)) (by decide) (by decide)) (G.2 _ _ _ (rfl : ai_rf 1 0 = some 2)) ?_
        refine ev_iload_n 37 rfl d57_36 rfl ?_
        refine ev_aald_n 38 rfl d57_37 (by omega) (by decide) (G.1 _ _ (rfl : ai_sp 2 = (104, 8)) (by decide) (by decide)) (by omega) (by decide) (G.2 _ _ _ (rf_shelf (by omega))) ?_
        refine ev_cu0 41 rfl 43 d57_38 rfl rfl (by rw [G.1 _ _ (sp_shelf (by omega)) (by omega) (by omega)]; rfl) (by omega) rfl (h_nothing G (by omega)) (fun I_1 hr_38 => ?_)
        refine ev_iconst (v := nI 0) 42 rfl d57_41 (by decide) ?_
        refine ev_iret (Or.inl rfl) d57_42 ?_
        exact ⟨_, _, rfl, rfl, rx_hold hX hs (by omega) hr_38, fun a ha => ⟨by rw [ui2_row hr_38 (by omega) (by omega)], rfl⟩⟩
      · exact absurd (mlt hnJ) hc_18
    · try rw [c_F hq_2]
      refine ev_if_T 21 (by decide) (by decide) d57_5 ?_
      refine ev_aload_n 22 rfl d57_21 rfl ?_
      refine ev_iconst (v := (-1)) 23 rfl d57_22 (by decide) ?_
      refine ev_cy1 26 rfl 90 d57_23 rfl rfl (by rw [G.1 _ _ (rfl : ai_sp 1 = (8, 0)) (by decide) (by decide)]; rfl) (by omega) rfl (show ai_Ev none 90 0 [some (.ref 1), some (.int (-1)), none] [] (S, I, L, F) _ from by rw [show ((-1) : Int32) = -(nI 1) by decide]; exact x_refuse (I := I) (L := L) (S := S) (F := F) G (k := 1) (by omega)) (fun v_2 I_1 hr_23 => ?_)
      refine ev_iret (Or.inl rfl) d57_26 ?_
      exact px_ref hX (by omega) hr_23
  · by_cases h3 : (0 : Int32) ≤ z2
    · obtain ⟨j, hj, rfl⟩ := nn_nI h3
      refine ev_aload_n 1 rfl d57_0 rfl ?_
      refine ev_iload_n 2 rfl d57_1 rfl ?_
      refine ev_cb1 5 rfl 84 d57_2 rfl rfl (by rw [G.1 _ _ (rfl : ai_sp 1 = (8, 0)) (by decide) (by decide)]; rfl) (by omega) rfl (x_isShelf G hX hV) (fun hq_2 => ?_) (fun hq_2 => ?_)
      · try rw [c_T hq_2]
        obtain ⟨s, hs, rfl⟩ := hq_2
        refine ev_if_F 21 8 (by decide) rfl (by decide) d57_5 ?_
        simp only [nn_I (show s < 2147483648 by omega)]
        rw [c_F h2]
        refine ev_iload_n 9 rfl d57_8 rfl ?_
        refine ev_iconst (v := (-1)) 10 rfl d57_9 (by decide) ?_
        refine ev_icmp_F 21 13 (by decide) rfl (n1_lt (by omega)) d57_10 ?_
        refine ev_iload_n 14 rfl d57_13 rfl ?_
        refine ev_aload_n 15 rfl d57_14 rfl ?_
        refine ev_geti (v := nI σ.nJ) 18 rfl 8 6 d57_15 rfl (by omega) (G.1 _ _ (rfl : ai_sp 1 = (8, 0)) (by decide) (by decide)) hX.nJ ?_
        refine ev_icmp 27 21 (by decide) rfl (cn_lt (by omega) (by omega)) d57_18 (fun hc_18 => ?_) (fun hc_18 => ?_)
        · rw [c_T (is_T (by omega))]
          simp only [nn_I (show j < 2147483648 by omega)]
          try rw [c_T hc_18]
          refine ev_iload_n 28 rfl d57_27 rfl ?_
          refine ev_iconst (v := (-1)) 29 rfl d57_28 (by decide) ?_
          refine ev_icmp_T 43 (by decide) (n1_ne (by omega)) d57_29 ?_
          refine ev_aload_n 44 rfl d57_43 rfl ?_
          refine ev_getr 47 rfl 8 0 d57_44 rfl (by omega) (G.1 _ _ (rfl : ai_sp 1 = (8, 0)) (by decide) (by decide)) (G.2 _ _ _ (rfl : ai_rf 1 0 = some 2)) ?_
          refine ev_iload_n 48 rfl d57_47 rfl ?_
          refine ev_aald_n 49 rfl d57_48 (by omega) (by decide) (G.1 _ _ (rfl : ai_sp 2 = (104, 8)) (by decide) (by decide)) (by omega) (by decide) (G.2 _ _ _ (rf_shelf (by omega))) ?_
          refine ev_iload_n 50 rfl d57_49 rfl ?_
          refine ev_cu1 53 rfl 44 d57_50 rfl rfl (by rw [G.1 _ _ (sp_shelf (by omega)) (by omega) (by omega)]; rfl) (by omega) rfl (h_judge G (by omega)) (fun I_1 hr_50 => ?_)
          refine ev_iconst (v := nI 1) 54 rfl d57_53 (by decide) ?_
          refine ev_iret (Or.inl rfl) d57_54 ?_
          exact ⟨_, _, rfl, rfl, rx_hold (d := j + 1) hX hs (by omega) (by rw [nM_succ]; exact hr_50), fun a ha => ⟨by rw [ui2_row hr_50 (by omega) (by omega)], rfl⟩⟩
        · rw [c_F (is_F (by omega) (by omega) (by omega))]
          try rw [c_F hc_18]
          refine ev_aload_n 22 rfl d57_21 rfl ?_
          refine ev_iconst (v := (-1)) 23 rfl d57_22 (by decide) ?_
          refine ev_cy1 26 rfl 90 d57_23 rfl rfl (by rw [G.1 _ _ (rfl : ai_sp 1 = (8, 0)) (by decide) (by decide)]; rfl) (by omega) rfl (show ai_Ev none 90 0 [some (.ref 1), some (.int (-1)), none] [] (S, I, L, F) _ from by rw [show ((-1) : Int32) = -(nI 1) by decide]; exact x_refuse (I := I) (L := L) (S := S) (F := F) G (k := 1) (by omega)) (fun v_2 I_1 hr_23 => ?_)
          refine ev_iret (Or.inl rfl) d57_26 ?_
          exact px_ref hX (by omega) hr_23
      · try rw [c_F hq_2]
        refine ev_if_T 21 (by decide) (by decide) d57_5 ?_
        refine ev_aload_n 22 rfl d57_21 rfl ?_
        refine ev_iconst (v := (-1)) 23 rfl d57_22 (by decide) ?_
        refine ev_cy1 26 rfl 90 d57_23 rfl rfl (by rw [G.1 _ _ (rfl : ai_sp 1 = (8, 0)) (by decide) (by decide)]; rfl) (by omega) rfl (show ai_Ev none 90 0 [some (.ref 1), some (.int (-1)), none] [] (S, I, L, F) _ from by rw [show ((-1) : Int32) = -(nI 1) by decide]; exact x_refuse (I := I) (L := L) (S := S) (F := F) G (k := 1) (by omega)) (fun v_2 I_1 hr_23 => ?_)
        refine ev_iret (Or.inl rfl) d57_26 ?_
        exact px_ref hX (by omega) hr_23
    · have h4 := lt_m1 h2 h3
      refine ev_aload_n 1 rfl d57_0 rfl ?_
      refine ev_iload_n 2 rfl d57_1 rfl ?_
      refine ev_cb1 5 rfl 84 d57_2 rfl rfl (by rw [G.1 _ _ (rfl : ai_sp 1 = (8, 0)) (by decide) (by decide)]; rfl) (by omega) rfl (x_isShelf G hX hV) (fun hq_2 => ?_) (fun hq_2 => ?_)
      · try rw [c_T hq_2]
        obtain ⟨s, hs, rfl⟩ := hq_2
        refine ev_if_F 21 8 (by decide) rfl (by decide) d57_5 ?_
        simp only [nn_I (show s < 2147483648 by omega)]
        rw [c_F h2, c_F (is_neg (by omega) h3)]
        refine ev_iload_n 9 rfl d57_8 rfl ?_
        refine ev_iconst (v := (-1)) 10 rfl d57_9 (by decide) ?_
        refine ev_icmp 21 13 (by decide) rfl cz_lt d57_10 (fun hc_10 => ?_) (fun hc_10 => ?_)
        · try rw [c_T hc_10]
          refine ev_aload_n 22 rfl d57_21 rfl ?_
          refine ev_iconst (v := (-1)) 23 rfl d57_22 (by decide) ?_
          refine ev_cy1 26 rfl 90 d57_23 rfl rfl (by rw [G.1 _ _ (rfl : ai_sp 1 = (8, 0)) (by decide) (by decide)]; rfl) (by omega) rfl (show ai_Ev none 90 0 [some (.ref 1), some (.int (-1)), none] [] (S, I, L, F) _ from by rw [show ((-1) : Int32) = -(nI 1) by decide]; exact x_refuse (I := I) (L := L) (S := S) (F := F) G (k := 1) (by omega)) (fun v_2 I_1 hr_23 => ?_)
          refine ev_iret (Or.inl rfl) d57_26 ?_
          exact px_ref hX (by omega) hr_23
        · exact absurd h4 hc_10
      · try rw [c_F hq_2]
        refine ev_if_T 21 (by decide) (by decide) d57_5 ?_
        refine ev_aload_n 22 rfl d57_21 rfl ?_
        refine ev_iconst (v := (-1)) 23 rfl d57_22 (by decide) ?_
        refine ev_cy1 26 rfl 90 d57_23 rfl rfl (by rw [G.1 _ _ (rfl : ai_sp 1 = (8, 0)) (by decide) (by decide)]; rfl) (by omega) rfl (show ai_Ev none 90 0 [some (.ref 1), some (.int (-1)), none] [] (S, I, L, F) _ from by rw [show ((-1) : Int32) = -(nI 1) by decide]; exact x_refuse (I := I) (L := L) (S := S) (F := F) G (k := 1) (by omega)) (fun v_2 I_1 hr_23 => ?_)
        refine ev_iret (Or.inl rfl) d57_26 ?_
        exact px_ref hX (by omega) hr_23
end XPUB
