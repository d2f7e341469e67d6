section XPUB2
variable {S : List (Nat × Nat)} {F : Nat → Nat → Option Nat} {L : Nat → Nat → Int64} {I : Nat → Nat → Int32} {σ : ai_S}
theorem neg_lt {z : Int32} {k : Nat} (hk : k < 2147483648) (h : ¬ (0 : Int32) ≤ z) : z < nI k := by
  have h3 : ¬ (0 : Int) ≤ z.toInt := fun q => h (Int32.le_iff_toInt_le.mpr q)
  have e : (nI k).toInt = (k : Int) := Int32.toInt_ofNat_of_lt (by omega)
  exact Int32.lt_iff_toInt_lt.mpr (by rw [e]; omega)
theorem rng_n {z n : Nat} {i : Int32} (hn : n < 2147483648) (hz : z ≤ 100) (h : ai_rng z i (nI n)) : ∃ k, i = nI k ∧ k + n ≤ z := by
  obtain ⟨x, y, h1, h2, h3⟩ := h
  have e : n = y := (nI_eq (by omega) (by omega)).mp h2
  exact ⟨x, h1, by omega⟩
theorem rng_1' {z : Nat} {i : Int32} (hz : z ≤ 100) (h : ai_rng z i (nI 1)) : ∃ k, i = nI k ∧ k < z := by
  obtain ⟨k, h1, h2⟩ := rng_n (by omega) hz h
  exact ⟨k, h1, by omega⟩
theorem h_row_loop (G : ai_G S F) {s so n : Nat} (hs : s < 8) (hn : n ≤ 100) (h3 : I (55 + 2 * s) 3 = nI n) {L0 : Nat → Nat → Int64} : ∀ (z k : Nat) (L : Nat → Nat → Int64), k + z = n → (∀ i, i < k → L (55 + 2 * s + 1) i = lN 0) → (∀ x, x ≠ (55 + 2 * s + 1) → L x = L0 x) → ai_Ev none 45 30 [some (.ref (55 + 2 * s)), some (.int (nI so)), some (.int (nI n)), some (.int (nI k))] [] (S, I, L, F) (ai_Pv S F (fun I2 L2 => I2 = I ∧ (∀ i, i < n → L2 (55 + 2 * s + 1) i = lN 0) ∧ ∀ x, x ≠ (55 + 2 * s + 1) → L2 x = L0 x)) := by
  intro z
  induction z with
  | zero =>
    intro k L hz hz0 hL
    refine ev_iload_n 31 rfl d45_30 rfl ?_
    refine ev_aload_n 32 rfl d45_31 rfl ?_
    refine ev_geti (v := nI n) 35 rfl 6 3 d45_32 rfl (by omega) (G.1 _ _ (sp_shelf (by omega)) (by omega) (by omega)) h3 ?_
    refine ev_icmp 51 38 (by decide) rfl (cn_ge (by omega) (by omega)) d45_35 (fun hc_35 => ?_) (fun hc_35 => absurd hc_35 (by omega))
    refine ev_vret rfl d45_51 ?_
    exact ⟨rfl, _, _, rfl, rfl, fun i hi => hz0 i (by omega), hL⟩
  | succ z ih =>
    intro k L hz hz0 hL
    refine ev_iload_n 31 rfl d45_30 rfl ?_
    refine ev_aload_n 32 rfl d45_31 rfl ?_
    refine ev_geti (v := nI n) 35 rfl 6 3 d45_32 rfl (by omega) (G.1 _ _ (sp_shelf (by omega)) (by omega) (by omega)) h3 ?_
    refine ev_icmp 51 38 (by decide) rfl (cn_ge (by omega) (by omega)) d45_35 (fun hc_35 => absurd hc_35 (by omega)) (fun hc_35 => ?_)
    refine ev_aload_n 39 rfl d45_38 rfl ?_
    refine ev_getr 42 rfl 6 4 d45_39 rfl (by omega) (G.1 _ _ (sp_shelf (by omega)) (by omega) (by omega)) (G.2 _ _ _ (rf_elems (by omega))) ?_
    refine ev_iload_n 43 rfl d45_42 rfl ?_
    refine ev_lconst (v := lN 0) 44 rfl d45_43 (by decide) ?_
    obtain ⟨L_1, hL_1⟩ : ∃ z, z = ai_ul L (55 + 2 * s + 1) k 0 := ⟨_, rfl⟩
    refine ev_last_n (L2 := L_1) 45 rfl d45_44 (by omega) (G.1 _ _ (sp_elems (by omega)) (by omega) (by omega)) (by omega) (by decide) hL_1.symm ?_
    refine ev_iinc (v := nI (k + 1)) 48 rfl d45_45 rfl (Nat.le_of_ble_eq_true rfl) (nI_add _ 1) rfl ?_
    show ai_Ev _ _ _ [some (.ref (55 + 2 * s)), some (.int (nI so)), some (.int (nI n)), some (.int (nI (k + 1)))] _ _ _
    refine ev_goto 30 (by decide) d45_48 ?_
    refine ih (k + 1) L_1 (by omega) ?_ ?_
    · intro i hi
      by_cases e : i = k
      · subst e; rw [hL_1]; simp [ai_ul]; rfl
      · have h9 := hz0 i (by omega)
        rw [← h9, hL_1]; simp [ai_ul, e]
    · intro x hx
      rw [ul_row hL_1 hx]; exact hL x hx
theorem h_row (G : ai_G S F) {s so n : Nat} (hs : s < 8) (hn : n ≤ 100) : ai_Ev none 45 0 [some (.ref (55 + 2 * s)), some (.int (nI so)), some (.int (nI n)), none] [] (S, I, L, F) (ai_Pv S F (fun I2 L2 => I2 = ai_ui (ai_ui (ai_ui (ai_ui I (55 + 2 * s) 0 (nI 1)) (55 + 2 * s) 1 (-1)) (55 + 2 * s) 2 (nI so)) (55 + 2 * s) 3 (nI n) ∧ (∀ i, i < n → L2 (55 + 2 * s + 1) i = lN 0) ∧ ∀ x, x ≠ (55 + 2 * s + 1) → L2 x = L x)) := by
  refine ev_aload_n 1 rfl d45_0 rfl ?_
  refine ev_iconst (v := nI 1) 2 rfl d45_1 (by decide) ?_
  obtain ⟨I_1, hI_1⟩ : ∃ z, z = ai_ui I (55 + 2 * s) 0 (nI 1) := ⟨_, rfl⟩
  refine ev_puti (I2 := I_1) 5 rfl 6 0 d45_2 rfl (by omega) (G.1 _ _ (sp_shelf (by omega)) (by omega) (by omega)) (fun _ => Or.inr (by decide)) hI_1.symm ?_
  refine ev_aload_n 6 rfl d45_5 rfl ?_
  refine ev_iconst (v := (-1)) 7 rfl d45_6 (by decide) ?_
  obtain ⟨I_2, hI_2⟩ : ∃ z, z = ai_ui I_1 (55 + 2 * s) 1 (-1) := ⟨_, rfl⟩
  refine ev_puti (I2 := I_2) 10 rfl 6 1 d45_7 rfl (by omega) (G.1 _ _ (sp_shelf (by omega)) (by omega) (by omega)) (fun h => absurd h (by decide)) hI_2.symm ?_
  refine ev_aload_n 11 rfl d45_10 rfl ?_
  refine ev_iload_n 12 rfl d45_11 rfl ?_
  obtain ⟨I_3, hI_3⟩ : ∃ z, z = ai_ui I_2 (55 + 2 * s) 2 (nI so) := ⟨_, rfl⟩
  refine ev_puti (I2 := I_3) 15 rfl 6 2 d45_12 rfl (by omega) (G.1 _ _ (sp_shelf (by omega)) (by omega) (by omega)) (fun h => absurd h (by decide)) hI_3.symm ?_
  refine ev_aload_n 16 rfl d45_15 rfl ?_
  refine ev_iload_n 17 rfl d45_16 rfl ?_
  refine ev_aload_n 18 rfl d45_17 rfl ?_
  refine ev_getr 21 rfl 6 4 d45_18 rfl (by omega) (G.1 _ _ (sp_shelf (by omega)) (by omega) (by omega)) (G.2 _ _ _ (rf_elems (by omega))) ?_
  refine ev_alen (v := nI 100) 22 rfl d45_21 (by omega) (by decide) (G.1 _ _ (sp_elems (by omega)) (by omega) (by omega)) rfl ?_
  refine ev_min (v := nI n) 25 rfl d45_22 rfl rfl (if_neg (fun h => absurd ((nI_ltI (by decide) (by omega)).mp h) (by omega))) ?_
  obtain ⟨I_4, hI_4⟩ : ∃ z, z = ai_ui I_3 (55 + 2 * s) 3 (nI n) := ⟨_, rfl⟩
  refine ev_puti (I2 := I_4) 28 rfl 6 3 d45_25 rfl (by omega) (G.1 _ _ (sp_shelf (by omega)) (by omega) (by omega)) (fun h => absurd h (by decide)) hI_4.symm ?_
  refine ev_iconst (v := nI 0) 29 rfl d45_28 (by decide) ?_
  refine ev_store_in 30 rfl d45_29 (Nat.le_of_ble_eq_true rfl) rfl ?_
  show ai_Ev _ _ _ [some (.ref (55 + 2 * s)), some (.int (nI so)), some (.int (nI n)), some (.int (nI 0))] _ _ _
  refine (h_row_loop G hs hn (ui_same hI_4) n 0 L (by omega) (fun i hi => absurd hi (by omega)) (fun _ _ => rfl)).imp ?_
  rintro r h' ⟨h1, I9, L9, h2, h3, h4⟩
  subst h3
  exact ⟨h1, _, _, h2, by rw [hI_4, hI_3, hI_2, hI_1], h4⟩
theorem h_put (G : ai_G S F) {s so i : Nat} {v : Int64} (hs : s < 8) (hso : so < 4) (hi : i < 100) (h2 : I (55 + 2 * s) 2 = nI so) : ai_Ev none 49 0 [some (.ref (55 + 2 * s)), some (.int (nI i)), some (.long v), none] [] (S, I, L, F) (ai_Pv S F (fun I2 L2 => I2 = I ∧ L2 = ai_ul L (55 + 2 * s + 1) i (ai_cut so v))) := by
  refine ev_aload_n 1 rfl d49_0 rfl ?_
  refine ev_geti (v := nI so) 4 rfl 6 2 d49_1 rfl (by omega) (G.1 _ _ (sp_shelf (by omega)) (by omega) (by omega)) h2 ?_
  refine ev_switch 70 (by decide) d49_4 (by decide) (fun hs_4 => ?_) (fun k9 hk9 hs_4 => ?_)
  · have e3 : so = 3 := by
      by_cases q : so < 3
      · exact absurd ⟨so, q, rfl⟩ hs_4
      · omega
    refine ev_aload_n 71 rfl d49_70 rfl ?_
    refine ev_getr 74 rfl 6 4 d49_71 rfl (by omega) (G.1 _ _ (sp_shelf (by omega)) (by omega) (by omega)) (G.2 _ _ _ (rf_elems (by omega))) ?_
    refine ev_iload_n 75 rfl d49_74 rfl ?_
    refine ev_lload_n 76 rfl d49_75 rfl ?_
    obtain ⟨L_1, hL_1⟩ : ∃ z, z = ai_ul L (55 + 2 * s + 1) i v := ⟨_, rfl⟩
    refine ev_last_n (L2 := L_1) 77 rfl d49_76 (by omega) (G.1 _ _ (sp_elems (by omega)) (by omega) (by omega)) (by omega) (by decide) hL_1.symm ?_
    refine ev_vret rfl d49_77 ?_
    subst e3
    exact ⟨rfl, _, _, rfl, rfl, hL_1⟩
  · have hk8 : k9 = 0 ∨ k9 = 1 ∨ k9 = 2 := by have h9 : k9 < 3 := hk9; omega
    rcases hk8 with rfl | rfl | rfl
    · refine ⟨32, rfl, ?_⟩
      have e3 : so = 0 := (nI_eq (by omega) (by omega)).mp hs_4
      refine ev_aload_n 33 rfl d49_32 rfl ?_
      refine ev_getr 36 rfl 6 4 d49_33 rfl (by omega) (G.1 _ _ (sp_shelf (by omega)) (by omega) (by omega)) (G.2 _ _ _ (rf_elems (by omega))) ?_
      refine ev_iload_n 37 rfl d49_36 rfl ?_
      refine ev_lload_n 38 rfl d49_37 rfl ?_
      refine ev_l2i 39 rfl d49_38 rfl ?_
      refine ev_i2b 40 rfl d49_39 rfl ?_
      refine ev_i2l 41 rfl d49_40 rfl ?_
      obtain ⟨L_1, hL_1⟩ : ∃ z, z = ai_ul L (55 + 2 * s + 1) i ((((v).toInt32).toInt8.toInt32).toInt64) := ⟨_, rfl⟩
      refine ev_last_n (L2 := L_1) 42 rfl d49_41 (by omega) (G.1 _ _ (sp_elems (by omega)) (by omega) (by omega)) (by omega) (by decide) hL_1.symm ?_
      refine ev_goto 77 (by decide) d49_42 ?_
      refine ev_vret rfl d49_77 ?_
      subst e3
      exact ⟨rfl, _, _, rfl, rfl, hL_1⟩
    · refine ⟨45, rfl, ?_⟩
      have e3 : so = 1 := (nI_eq (by omega) (by omega)).mp hs_4
      refine ev_aload_n 46 rfl d49_45 rfl ?_
      refine ev_getr 49 rfl 6 4 d49_46 rfl (by omega) (G.1 _ _ (sp_shelf (by omega)) (by omega) (by omega)) (G.2 _ _ _ (rf_elems (by omega))) ?_
      refine ev_iload_n 50 rfl d49_49 rfl ?_
      refine ev_lload_n 51 rfl d49_50 rfl ?_
      refine ev_l2i 52 rfl d49_51 rfl ?_
      refine ev_i2s 53 rfl d49_52 rfl ?_
      refine ev_i2l 54 rfl d49_53 rfl ?_
      obtain ⟨L_1, hL_1⟩ : ∃ z, z = ai_ul L (55 + 2 * s + 1) i ((((v).toInt32).toInt16.toInt32).toInt64) := ⟨_, rfl⟩
      refine ev_last_n (L2 := L_1) 55 rfl d49_54 (by omega) (G.1 _ _ (sp_elems (by omega)) (by omega) (by omega)) (by omega) (by decide) hL_1.symm ?_
      refine ev_goto 77 (by decide) d49_55 ?_
      refine ev_vret rfl d49_77 ?_
      subst e3
      exact ⟨rfl, _, _, rfl, rfl, hL_1⟩
    · refine ⟨58, rfl, ?_⟩
      have e3 : so = 2 := (nI_eq (by omega) (by omega)).mp hs_4
      refine ev_aload_n 59 rfl d49_58 rfl ?_
      refine ev_getr 62 rfl 6 4 d49_59 rfl (by omega) (G.1 _ _ (sp_shelf (by omega)) (by omega) (by omega)) (G.2 _ _ _ (rf_elems (by omega))) ?_
      refine ev_iload_n 63 rfl d49_62 rfl ?_
      refine ev_lload_n 64 rfl d49_63 rfl ?_
      refine ev_l2i 65 rfl d49_64 rfl ?_
      refine ev_i2l 66 rfl d49_65 rfl ?_
      obtain ⟨L_1, hL_1⟩ : ∃ z, z = ai_ul L (55 + 2 * s + 1) i (((v).toInt32).toInt64) := ⟨_, rfl⟩
      refine ev_last_n (L2 := L_1) 67 rfl d49_66 (by omega) (G.1 _ _ (sp_elems (by omega)) (by omega) (by omega)) (by omega) (by decide) hL_1.symm ?_
      refine ev_goto 77 (by decide) d49_67 ?_
      refine ev_vret rfl d49_77 ?_
      subst e3
      exact ⟨rfl, _, _, rfl, rfl, hL_1⟩
theorem x_row (G : ai_G S F) (hX : ai_RX σ I L) (hV : ai_IV σ) {z1 : Int32} {z2 : Int32} {z3 : Int32} : ai_Ev none 53 0 [some (.ref 1), some (.int z1), some (.int z2), some (.int z3)] [] (S, I, L, F) (ai_PX S F I L (o_row σ z1 z2 z3)) := by
  have hnT := hV.nT
  have hnQ := hV.nQ
  have hnJ := hV.nJ
  unfold o_row
  refine ev_aload_n 1 rfl d53_0 rfl ?_
  refine ev_iload_n 2 rfl d53_1 rfl ?_
  refine ev_cb1 5 rfl 84 d53_2 rfl rfl (by rw [G.1 _ _ (rfl : ai_sp 1 = (8, 0)) (by decide) (by decide)]; rfl) (by omega) rfl (x_isShelf G hX hV) (fun hq_2 => ?_) (fun hq_2 => ?_)
  · try rw [c_T hq_2]
    obtain ⟨s, hs, rfl⟩ := hq_2
    refine ev_if_T 14 (by decide) (by decide) d53_5 ?_
    refine ev_iload_n 15 rfl d53_14 rfl ?_
    refine ev_if 25 18 (by decide) rfl cz_ge d53_15 (fun hc_15 => ?_) (fun hc_15 => ?_)
    · rw [c_F (Int32.not_lt.mpr hc_15)]
      try rw [c_T hc_15]
      obtain ⟨n, hn, rfl⟩ := nn_nI ( hc_15)
      refine ev_iload_n 26 rfl d53_25 rfl ?_
      refine ev_if 34 29 (by decide) rfl cz_lt d53_26 (fun hc_26 => ?_) (fun hc_26 => ?_)
      · rw [c_F (is_L (by omega) hc_26)]
        try rw [c_T hc_26]
        refine ev_aload_n 35 rfl d53_34 rfl ?_
        refine ev_bipush (v := (-6)) 37 rfl d53_35 (by decide) ?_
        refine ev_cy1 40 rfl 90 d53_37 rfl rfl (by rw [G.1 _ _ (rfl : ai_sp 1 = (8, 0)) (by decide) (by decide)]; rfl) (by omega) rfl (show ai_Ev none 90 0 [some (.ref 1), some (.int (-6)), none] [] (S, I, L, F) _ from by rw [show ((-6) : Int32) = -(nI 6) by decide]; exact x_refuse (I := I) (L := L) (S := S) (F := F) G (k := 6) (by omega)) (fun v_2 I_1 hr_37 => ?_)
        refine ev_iret (Or.inl rfl) d53_40 ?_
        exact px_ref hX (by omega) hr_37
      · try rw [c_F hc_26]
        obtain ⟨so, hso, rfl⟩ := nn_nI (nl_le hc_26)
        refine ev_iload_n 30 rfl d53_29 rfl ?_
        refine ev_iconst (v := nI 3) 31 rfl d53_30 (by decide) ?_
        refine ev_icmp 41 34 (by decide) rfl (cn_le (by omega) (by omega)) d53_31 (fun hc_31 => ?_) (fun hc_31 => ?_)
        · rw [c_T (is_T (by omega))]
          try rw [c_T hc_31]
          refine ev_iload_n 42 rfl d53_41 rfl ?_
          refine ev_bipush (v := nI 100) 44 rfl d53_42 (by decide) ?_
          refine ev_icmp 54 47 (by decide) rfl (cn_le (by omega) (by omega)) d53_44 (fun hc_44 => ?_) (fun hc_44 => ?_)
          · rw [c_T (is_T (by omega))]
            simp only [nn_I (show s < 2147483648 by omega)]
            simp only [nn_I (show so < 2147483648 by omega)]
            simp only [nn_I (show n < 2147483648 by omega)]
            try rw [c_T hc_44]
            refine ev_aload_n 55 rfl d53_54 rfl ?_
            refine ev_getr 58 rfl 8 0 d53_55 rfl (by omega) (G.1 _ _ (rfl : ai_sp 1 = (8, 0)) (by decide) (by decide)) (G.2 _ _ _ (rfl : ai_rf 1 0 = some 2)) ?_
            refine ev_iload_n 59 rfl d53_58 rfl ?_
            refine ev_aald_n 60 rfl d53_59 (by omega) (by decide) (G.1 _ _ (rfl : ai_sp 2 = (104, 8)) (by decide) (by decide)) (by omega) (by decide) (G.2 _ _ _ (rf_shelf (by omega))) ?_
            refine ev_iload_n 61 rfl d53_60 rfl ?_
            refine ev_iload_n 62 rfl d53_61 rfl ?_
            refine ev_cw2 65 rfl 45 d53_62 rfl rfl (by rw [G.1 _ _ (sp_shelf (by omega)) (by omega) (by omega)]; rfl) (by omega) rfl (h_row G (by omega) (by omega)) (fun I_1 L_2 hr_62 => ?_)
            obtain ⟨hr1, hr2, hr3⟩ := hr_62
            refine ev_iconst (v := nI 1) 66 rfl d53_65 (by decide) ?_
            refine ev_iret (Or.inl rfl) d53_66 ?_
            exact ⟨_, _, rfl, rfl, rx_row hX hs (by omega) (by omega) hr1 hr2 hr3, fun a ha => ⟨row_row hr1 (by omega), hr3 _ (by omega)⟩⟩
          · rw [c_F (is_F (by omega) (by omega) (by omega))]
            try rw [c_F hc_44]
            refine ev_aload_n 48 rfl d53_47 rfl ?_
            refine ev_bipush (v := (-7)) 50 rfl d53_48 (by decide) ?_
            refine ev_cy1 53 rfl 90 d53_50 rfl rfl (by rw [G.1 _ _ (rfl : ai_sp 1 = (8, 0)) (by decide) (by decide)]; rfl) (by omega) rfl (show ai_Ev none 90 0 [some (.ref 1), some (.int (-7)), none] [] (S, I, L, F) _ from by rw [show ((-7) : Int32) = -(nI 7) by decide]; exact x_refuse (I := I) (L := L) (S := S) (F := F) G (k := 7) (by omega)) (fun v_2 I_1 hr_50 => ?_)
            refine ev_iret (Or.inl rfl) d53_53 ?_
            exact px_ref hX (by omega) hr_50
        · rw [c_F (is_F (by omega) (by omega) (by omega))]
          try rw [c_F hc_31]
          refine ev_aload_n 35 rfl d53_34 rfl ?_
          refine ev_bipush (v := (-6)) 37 rfl d53_35 (by decide) ?_
          refine ev_cy1 40 rfl 90 d53_37 rfl rfl (by rw [G.1 _ _ (rfl : ai_sp 1 = (8, 0)) (by decide) (by decide)]; rfl) (by omega) rfl (show ai_Ev none 90 0 [some (.ref 1), some (.int (-6)), none] [] (S, I, L, F) _ from by rw [show ((-6) : Int32) = -(nI 6) by decide]; exact x_refuse (I := I) (L := L) (S := S) (F := F) G (k := 6) (by omega)) (fun v_2 I_1 hr_37 => ?_)
          refine ev_iret (Or.inl rfl) d53_40 ?_
          exact px_ref hX (by omega) hr_37
    · rw [c_T (Int32.not_le.mp hc_15)]
      try rw [c_F hc_15]
      refine ev_aload_n 19 rfl d53_18 rfl ?_
      refine ev_bipush (v := (-4)) 21 rfl d53_19 (by decide) ?_
      refine ev_cy1 24 rfl 90 d53_21 rfl rfl (by rw [G.1 _ _ (rfl : ai_sp 1 = (8, 0)) (by decide) (by decide)]; rfl) (by omega) rfl (show ai_Ev none 90 0 [some (.ref 1), some (.int (-4)), none] [] (S, I, L, F) _ from by rw [show ((-4) : Int32) = -(nI 4) by decide]; exact x_refuse (I := I) (L := L) (S := S) (F := F) G (k := 4) (by omega)) (fun v_2 I_1 hr_21 => ?_)
      refine ev_iret (Or.inl rfl) d53_24 ?_
      exact px_ref hX (by omega) hr_21
  · try rw [c_F hq_2]
    refine ev_if_F 14 8 (by decide) rfl (by decide) d53_5 ?_
    refine ev_aload_n 9 rfl d53_8 rfl ?_
    refine ev_iconst (v := (-1)) 10 rfl d53_9 (by decide) ?_
    refine ev_cy1 13 rfl 90 d53_10 rfl rfl (by rw [G.1 _ _ (rfl : ai_sp 1 = (8, 0)) (by decide) (by decide)]; rfl) (by omega) rfl (show ai_Ev none 90 0 [some (.ref 1), some (.int (-1)), none] [] (S, I, L, F) _ from by rw [show ((-1) : Int32) = -(nI 1) by decide]; exact x_refuse (I := I) (L := L) (S := S) (F := F) G (k := 1) (by omega)) (fun v_2 I_1 hr_10 => ?_)
    refine ev_iret (Or.inl rfl) d53_13 ?_
    exact px_ref hX (by omega) hr_10
theorem x_set (G : ai_G S F) (hX : ai_RX σ I L) (hV : ai_IV σ) {z1 : Int32} {z2 : Int32} {v : Int64} : ai_Ev none 54 0 [some (.ref 1), some (.int z1), some (.int z2), some (.long v), none, none] [] (S, I, L, F) (ai_PX S F I L (o_set σ z1 z2 v)) := by
  have hnT := hV.nT
  have hnQ := hV.nQ
  have hnJ := hV.nJ
  unfold o_set
  refine ev_aload_n 1 rfl d54_0 rfl ?_
  refine ev_iload_n 2 rfl d54_1 rfl ?_
  refine ev_cp1 5 rfl 91 d54_2 rfl rfl (by rw [G.1 _ _ (rfl : ai_sp 1 = (8, 0)) (by decide) (by decide)]; rfl) (by omega) rfl (x_rowRefusal G hX hV) ?_
  refine ev_store_i 7 rfl d54_5 ⟨rfl, Nat.le_of_ble_eq_true rfl⟩ rfl ?_
  show ai_Ev _ _ _ [some (.ref 1), some (.int z1), some (.int z2), some (.long v), none, some (.int (-(nI (σ.rr z1))))] _ _ _
  refine ev_iload 9 rfl d54_7 rfl ?_
  refine ev_if 19 12 (by decide) rfl cz_eq d54_9 (fun hc_9 => ?_) (fun hc_9 => ?_)
  · have hc9 : σ.rr z1 = 0 := (neg0 (by have := rr_le (σ := σ) (z := z1); omega)).mp hc_9
    rw [c_T hc9]
    obtain ⟨s, hs, rfl, hd⟩ := rr_0 hc9
    have hsz := hV.sz s hs
    simp only [nn_I (show s < 2147483648 by omega)]
    try rw [c_T hc_9]
    refine ev_aload_n 20 rfl d54_19 rfl ?_
    refine ev_getr 23 rfl 8 0 d54_20 rfl (by omega) (G.1 _ _ (rfl : ai_sp 1 = (8, 0)) (by decide) (by decide)) (G.2 _ _ _ (rfl : ai_rf 1 0 = some 2)) ?_
    refine ev_iload_n 24 rfl d54_23 rfl ?_
    refine ev_aald_n 25 rfl d54_24 (by omega) (by decide) (G.1 _ _ (rfl : ai_sp 2 = (104, 8)) (by decide) (by decide)) (by omega) (by decide) (G.2 _ _ _ (rf_shelf (by omega))) ?_
    refine ev_iload_n 26 rfl d54_25 rfl ?_
    refine ev_iconst (v := nI 1) 27 rfl d54_26 (by decide) ?_
    refine ev_cb2 30 rfl 48 d54_27 rfl rfl (by rw [G.1 _ _ (sp_shelf (by omega)) (by omega) (by omega)]; rfl) (by omega) rfl (h_rng G (by omega) (hV.sz _ (by omega)) (hX.sz _ (by omega))) (fun hq_27 => ?_) (fun hq_27 => ?_)
    · try rw [c_T hq_27]
      obtain ⟨i, rfl, hi⟩ := rng_1' hsz hq_27
      simp only [nn_I (show i < 2147483648 by omega)]
      refine ev_if_T 40 (by decide) (by decide) d54_30 ?_
      refine ev_aload_n 41 rfl d54_40 rfl ?_
      refine ev_getr 44 rfl 8 0 d54_41 rfl (by omega) (G.1 _ _ (rfl : ai_sp 1 = (8, 0)) (by decide) (by decide)) (G.2 _ _ _ (rfl : ai_rf 1 0 = some 2)) ?_
      refine ev_iload_n 45 rfl d54_44 rfl ?_
      refine ev_aald_n 46 rfl d54_45 (by omega) (by decide) (G.1 _ _ (rfl : ai_sp 2 = (104, 8)) (by decide) (by decide)) (by omega) (by decide) (G.2 _ _ _ (rf_shelf (by omega))) ?_
      refine ev_iload_n 47 rfl d54_46 rfl ?_
      refine ev_lload_n 48 rfl d54_47 rfl ?_
      refine ev_cw2 51 rfl 49 d54_48 rfl rfl (by rw [G.1 _ _ (sp_shelf (by omega)) (by omega) (by omega)]; rfl) (by omega) rfl (h_put G (so := σ.hd s - 101) (by omega) (by have := hV.hd s hs; omega) (by omega) (hX.so s hs hd)) (fun I_1 L_2 hr_48 => ?_)
      obtain ⟨hr1, hr2⟩ := hr_48
      subst hr1
      refine ev_iconst (v := nI 1) 52 rfl d54_51 (by decide) ?_
      refine ev_iret (Or.inl rfl) d54_52 ?_
      refine ⟨_, _, rfl, rfl, rx_L hX (σ2 := σ.put s i v) rfl ?_, fun a ha => ⟨rfl, ul_row hr2 (by omega)⟩⟩
      intro x hx k hk
      show L_2 (55 + 2 * x + 1) k = (if x = s ∧ k = i then ai_cut (σ.hd s - 101) v else σ.el x k)
      by_cases e : x = s
      · subst e
        rw [hr2]
        by_cases e2 : k = i
        · subst e2; simp [ai_ul]
        · simp [ai_ul, e2]; exact hX.el x hx k hk
      · rw [if_neg (fun q => e q.1), ul_row hr2 (by omega)]; exact hX.el x hx k hk
    · try rw [c_F hq_27]
      refine ev_if_F 40 33 (by decide) rfl (by decide) d54_30 ?_
      refine ev_aload_n 34 rfl d54_33 rfl ?_
      refine ev_bipush (v := (-5)) 36 rfl d54_34 (by decide) ?_
      refine ev_cy1 39 rfl 90 d54_36 rfl rfl (by rw [G.1 _ _ (rfl : ai_sp 1 = (8, 0)) (by decide) (by decide)]; rfl) (by omega) rfl (show ai_Ev none 90 0 [some (.ref 1), some (.int (-5)), none] [] (S, I, L, F) _ from by rw [show ((-5) : Int32) = -(nI 5) by decide]; exact x_refuse (I := I) (L := L) (S := S) (F := F) G (k := 5) (by omega)) (fun v_2 I_1 hr_36 => ?_)
      refine ev_iret (Or.inl rfl) d54_39 ?_
      exact px_ref hX (by omega) hr_36
  · have hc9 : ¬ σ.rr z1 = 0 := fun q => hc_9 ((neg0 (by omega)).mpr q)
    rw [c_F hc9]
    try rw [c_F hc_9]
    refine ev_aload_n 13 rfl d54_12 rfl ?_
    refine ev_iload 15 rfl d54_13 rfl ?_
    refine ev_cy1 18 rfl 90 d54_15 rfl rfl (by rw [G.1 _ _ (rfl : ai_sp 1 = (8, 0)) (by decide) (by decide)]; rfl) (by omega) rfl (x_refuse (I := I) (L := L) (S := S) (F := F) G (k := (σ.rr z1)) (by have := rr_le (σ := σ) (z := z1); omega)) (fun v_2 I_1 hr_15 => ?_)
    refine ev_iret (Or.inl rfl) d54_18 ?_
    exact px_ref hX (by have := rr_le (σ := σ) (z := z1); omega) hr_15
theorem x_copy (G : ai_G S F) (hX : ai_RX σ I L) (hV : ai_IV σ) {z1 : Int32} {z2 : Int32} {z3 : Int32} {z4 : Int32} {z5 : Int32} : ai_Ev none 55 0 [some (.ref 1), some (.int z1), some (.int z2), some (.int z3), some (.int z4), some (.int z5), none, none] [] (S, I, L, F) (ai_PX S F I L (o_copy σ z1 z2 z3 z4 z5)) := by
  have hnT := hV.nT
  have hnQ := hV.nQ
  have hnJ := hV.nJ
  unfold o_copy
  refine ev_aload_n 1 rfl d55_0 rfl ?_
  refine ev_iload_n 2 rfl d55_1 rfl ?_
  refine ev_cb1 5 rfl 84 d55_2 rfl rfl (by rw [G.1 _ _ (rfl : ai_sp 1 = (8, 0)) (by decide) (by decide)]; rfl) (by omega) rfl (x_isShelf G hX hV) (fun hq_2 => ?_) (fun hq_2 => ?_)
  · obtain ⟨p, hp, rfl⟩ := hq_2
    refine ev_if_F 16 8 (by decide) rfl (by decide) d55_5 ?_
    refine ev_aload_n 9 rfl d55_8 rfl ?_
    refine ev_iload_n 10 rfl d55_9 rfl ?_
    refine ev_cb1 13 rfl 84 d55_10 rfl rfl (by rw [G.1 _ _ (rfl : ai_sp 1 = (8, 0)) (by decide) (by decide)]; rfl) (by omega) rfl (x_isShelf G hX hV) (fun hq_10 => ?_) (fun hq_10 => ?_)
    · obtain ⟨q, hq, rfl⟩ := hq_10
      rw [c_T ⟨is_T hp, is_T hq⟩]
      have hszp := hV.sz p hp
      have hszq := hV.sz q hq
      have hhp := hV.hd p hp
      have hhq := hV.hd q hq
      simp only [nn_I (show p < 2147483648 by omega)]
      simp only [nn_I (show q < 2147483648 by omega)]
      refine ev_if_T 22 (by decide) (by decide) d55_13 ?_
      refine ev_aload_n 23 rfl d55_22 rfl ?_
      refine ev_getr 26 rfl 8 0 d55_23 rfl (by omega) (G.1 _ _ (rfl : ai_sp 1 = (8, 0)) (by decide) (by decide)) (G.2 _ _ _ (rfl : ai_rf 1 0 = some 2)) ?_
      refine ev_iload_n 27 rfl d55_26 rfl ?_
      refine ev_aald_n 28 rfl d55_27 (by omega) (by decide) (G.1 _ _ (rfl : ai_sp 2 = (104, 8)) (by decide) (by decide)) (by omega) (by decide) (G.2 _ _ _ (rf_shelf (by omega))) ?_
      refine ev_store_a 30 rfl d55_28 ⟨rfl, Nat.le_of_ble_eq_true rfl⟩ rfl ?_
      show ai_Ev _ _ _ [some (.ref 1), some (.int (nI p)), some (.int (nI q)), some (.int z3), some (.int z4), some (.int z5), some (.ref (55 + 2 * p)), none] _ _ _
      refine ev_aload_n 31 rfl d55_30 rfl ?_
      refine ev_getr 34 rfl 8 0 d55_31 rfl (by omega) (G.1 _ _ (rfl : ai_sp 1 = (8, 0)) (by decide) (by decide)) (G.2 _ _ _ (rfl : ai_rf 1 0 = some 2)) ?_
      refine ev_iload_n 35 rfl d55_34 rfl ?_
      refine ev_aald_n 36 rfl d55_35 (by omega) (by decide) (G.1 _ _ (rfl : ai_sp 2 = (104, 8)) (by decide) (by decide)) (by omega) (by decide) (G.2 _ _ _ (rf_shelf (by omega))) ?_
      refine ev_store_a 38 rfl d55_36 ⟨rfl, Nat.le_of_ble_eq_true rfl⟩ rfl ?_
      show ai_Ev _ _ _ [some (.ref 1), some (.int (nI p)), some (.int (nI q)), some (.int z3), some (.int z4), some (.int z5), some (.ref (55 + 2 * p)), some (.ref (55 + 2 * q))] _ _ _
      refine ev_aload 40 rfl d55_38 rfl ?_
      refine ev_cb0 43 rfl 47 d55_40 rfl rfl (by rw [G.1 _ _ (sp_shelf (by omega)) (by omega) (by omega)]; rfl) (by omega) rfl (x_holdsJ G hX hV (by omega)) (fun hq_40 => ?_) (fun hq_40 => ?_)
      · rw [c_T (Or.inl (show σ.pers p from hq_40))]
        refine ev_if_T 54 (by decide) (by decide) d55_43 ?_
        refine ev_aload_n 55 rfl d55_54 rfl ?_
        refine ev_bipush (v := (-2)) 57 rfl d55_55 (by decide) ?_
        refine ev_cy1 60 rfl 90 d55_57 rfl rfl (by rw [G.1 _ _ (rfl : ai_sp 1 = (8, 0)) (by decide) (by decide)]; rfl) (by omega) rfl (show ai_Ev none 90 0 [some (.ref 1), some (.int (-2)), none] [] (S, I, L, F) _ from by rw [show ((-2) : Int32) = -(nI 2) by decide]; exact x_refuse (I := I) (L := L) (S := S) (F := F) G (k := 2) (by omega)) (fun v_2 I_1 hr_57 => ?_)
        refine ev_iret (Or.inl rfl) d55_60 ?_
        exact px_ref hX (by omega) hr_57
      · refine ev_if_F 54 46 (by decide) rfl (by decide) d55_43 ?_
        refine ev_aload 48 rfl d55_46 rfl ?_
        refine ev_cb0 51 rfl 47 d55_48 rfl rfl (by rw [G.1 _ _ (sp_shelf (by omega)) (by omega) (by omega)]; rfl) (by omega) rfl (x_holdsJ G hX hV (by omega)) (fun hq_48 => ?_) (fun hq_48 => ?_)
        · rw [c_T (Or.inr (Or.inl (show σ.pers q from hq_48)))]
          refine ev_if_F 61 54 (by decide) rfl (by decide) d55_51 ?_
          refine ev_aload_n 55 rfl d55_54 rfl ?_
          refine ev_bipush (v := (-2)) 57 rfl d55_55 (by decide) ?_
          refine ev_cy1 60 rfl 90 d55_57 rfl rfl (by rw [G.1 _ _ (rfl : ai_sp 1 = (8, 0)) (by decide) (by decide)]; rfl) (by omega) rfl (show ai_Ev none 90 0 [some (.ref 1), some (.int (-2)), none] [] (S, I, L, F) _ from by rw [show ((-2) : Int32) = -(nI 2) by decide]; exact x_refuse (I := I) (L := L) (S := S) (F := F) G (k := 2) (by omega)) (fun v_2 I_1 hr_57 => ?_)
          refine ev_iret (Or.inl rfl) d55_60 ?_
          exact px_ref hX (by omega) hr_57
        · refine ev_if_T 61 (by decide) (by decide) d55_51 ?_
          refine ev_aload 63 rfl d55_61 rfl ?_
          refine ev_cb0 66 rfl 46 d55_63 rfl rfl (by rw [G.1 _ _ (sp_shelf (by omega)) (by omega) (by omega)]; rfl) (by omega) rfl (x_holdsR G hX hV (by omega)) (fun hq_63 => ?_) (fun hq_63 => ?_)
          · refine ev_if_F 97 69 (by decide) rfl (by decide) d55_66 ?_
            refine ev_aload 71 rfl d55_69 rfl ?_
            refine ev_cb0 74 rfl 46 d55_71 rfl rfl (by rw [G.1 _ _ (sp_shelf (by omega)) (by omega) (by omega)]; rfl) (by omega) rfl (x_holdsR G hX hV (by omega)) (fun hq_71 => ?_) (fun hq_71 => ?_)
            · refine ev_if_F 97 77 (by decide) rfl (by decide) d55_74 ?_
              refine ev_aload 79 rfl d55_77 rfl ?_
              refine ev_geti (v := nI (σ.hd p - 101)) 82 rfl 6 2 d55_79 rfl (by omega) (G.1 _ _ (sp_shelf (by omega)) (by omega) (by omega)) (hX.so _ (by omega) (by omega)) ?_
              refine ev_aload 84 rfl d55_82 rfl ?_
              refine ev_geti (v := nI (σ.hd q - 101)) 87 rfl 6 2 d55_84 rfl (by omega) (G.1 _ _ (sp_shelf (by omega)) (by omega) (by omega)) (hX.so _ (by omega) (by omega)) ?_
              refine ev_icmp 97 90 (by decide) rfl (cn_eq (by omega) (by omega)) d55_87 (fun hc_87 => ?_) (fun hc_87 => ?_)
              · rw [c_F (by unfold ai_S.pers; omega)]
                refine ev_aload 99 rfl d55_97 rfl ?_
                refine ev_cb0 102 rfl 46 d55_99 rfl rfl (by rw [G.1 _ _ (sp_shelf (by omega)) (by omega) (by omega)]; rfl) (by omega) rfl (x_holdsR G hX hV (by omega)) (fun hq_99 => ?_) (fun hq_99 => ?_)
                · refine ev_if_F 113 105 (by decide) rfl (by decide) d55_102 ?_
                  refine ev_aload 107 rfl d55_105 rfl ?_
                  refine ev_cb0 110 rfl 46 d55_107 rfl rfl (by rw [G.1 _ _ (sp_shelf (by omega)) (by omega) (by omega)]; rfl) (by omega) rfl (x_holdsR G hX hV (by omega)) (fun hq_107 => ?_) (fun hq_107 => ?_)
                  · rw [c_T ⟨hq_99, hq_107⟩]
                    refine ev_if_T 120 (by decide) (by decide) d55_110 ?_
                    refine ev_iload 122 rfl d55_120 rfl ?_
                    refine ev_if 132 125 (by decide) rfl cz_ge d55_122 (fun hc_122 => ?_) (fun hc_122 => ?_)
                    · rw [c_F (Int32.not_lt.mpr hc_122)]
                      obtain ⟨n, hn, rfl⟩ := nn_nI ( hc_122)
                      refine ev_aload 134 rfl d55_132 rfl ?_
                      refine ev_iload_n 135 rfl d55_134 rfl ?_
                      refine ev_iload 137 rfl d55_135 rfl ?_
                      refine ev_cb2 140 rfl 48 d55_137 rfl rfl (by rw [G.1 _ _ (sp_shelf (by omega)) (by omega) (by omega)]; rfl) (by omega) rfl (h_rng G (by omega) (by omega) (hX.sz _ (by omega))) (fun hq_137 => ?_) (fun hq_137 => ?_)
                      · have hq_137c := hq_137
                        obtain ⟨i, rfl, hi⟩ := rng_n (by omega) (by omega) hq_137
                        refine ev_if_F 155 143 (by decide) rfl (by decide) d55_140 ?_
                        refine ev_aload 145 rfl d55_143 rfl ?_
                        refine ev_iload 147 rfl d55_145 rfl ?_
                        refine ev_iload 149 rfl d55_147 rfl ?_
                        refine ev_cb2 152 rfl 48 d55_149 rfl rfl (by rw [G.1 _ _ (sp_shelf (by omega)) (by omega) (by omega)]; rfl) (by omega) rfl (h_rng G (by omega) (by omega) (hX.sz _ (by omega))) (fun hq_149 => ?_) (fun hq_149 => ?_)
                        · have hq_149c := hq_149
                          rw [c_T ⟨hq_137c, hq_149c⟩]
                          obtain ⟨j, rfl, hj⟩ := rng_n (by omega) (by omega) hq_149
                          refine ev_if_T 162 (by decide) (by decide) d55_152 ?_
                          simp only [nn_I (show i < 2147483648 by omega)]
                          simp only [nn_I (show j < 2147483648 by omega)]
                          simp only [nn_I (show n < 2147483648 by omega)]
                          refine ev_aload 164 rfl d55_162 rfl ?_
                          refine ev_getr 167 rfl 6 4 d55_164 rfl (by omega) (G.1 _ _ (sp_shelf (by omega)) (by omega) (by omega)) (G.2 _ _ _ (rf_elems (by omega))) ?_
                          refine ev_iload_n 168 rfl d55_167 rfl ?_
                          refine ev_aload 170 rfl d55_168 rfl ?_
                          refine ev_getr 173 rfl 6 4 d55_170 rfl (by omega) (G.1 _ _ (sp_shelf (by omega)) (by omega) (by omega)) (G.2 _ _ _ (rf_elems (by omega))) ?_
                          refine ev_iload 175 rfl d55_173 rfl ?_
                          refine ev_iload 177 rfl d55_175 rfl ?_
                          obtain ⟨L_1, hL_1⟩ : ∃ z, z = ai_row L (55 + 2 * q + 1) (va_cpy (L (55 + 2 * p + 1)) (L (55 + 2 * q + 1)) i j n) := ⟨_, rfl⟩
                          refine ev_cpyl (L2 := L_1) 180 rfl d55_177 rfl rfl (by omega) (by omega) (G.1 _ _ (sp_elems (by omega)) (by omega) (by omega)) (G.1 _ _ (sp_elems (by omega)) (by omega) (by omega)) ⟨nI_pos (by omega), nI_pos (by omega), nI_pos (by omega), by rw [nI_clamp (by omega), nI_clamp (by omega)]; omega, by rw [nI_clamp (by omega), nI_clamp (by omega)]; omega⟩ (by first | (rw [nI_clamp (by omega), nI_clamp (by omega), nI_clamp (by omega)]; exact hL_1.symm) | (rw [nI_clamp (by omega), nI_clamp (by omega)]; exact hL_1.symm) | (rw [nI_clamp (by omega)]; exact hL_1.symm)) ?_
                          refine ev_iconst (v := nI 1) 181 rfl d55_180 (by decide) ?_
                          refine ev_iret (Or.inl rfl) d55_181 ?_
                          refine ⟨_, _, rfl, rfl, rx_L hX (σ2 := σ.copy p q i j n) rfl ?_, fun a ha => ⟨rfl, by rw [hL_1]; unfold ai_row; rw [if_neg (by omega)]⟩⟩
                          intro x hx k hk
                          show L_1 (55 + 2 * x + 1) k = (if x = q ∧ j ≤ k ∧ k < j + n then σ.el p (i + (k - j)) else σ.el x k)
                          rw [hL_1]
                          unfold ai_row
                          by_cases e : x = q
                          · subst e
                            rw [if_pos rfl]
                            unfold va_cpy
                            by_cases e2 : j ≤ k ∧ k < j + n
                            · rw [if_pos e2, if_pos ⟨rfl, e2⟩]; exact hX.el p hp _ (by omega)
                            · rw [if_neg e2, if_neg (fun q => e2 q.2)]; exact hX.el x hx k hk
                          · rw [if_neg (by omega), if_neg (fun q => e q.1)]; exact hX.el x hx k hk
                        · rw [c_F (fun h9 => hq_149 h9.2)]
                          refine ev_if_F 162 155 (by decide) rfl (by decide) d55_152 ?_
                          refine ev_aload_n 156 rfl d55_155 rfl ?_
                          refine ev_bipush (v := (-5)) 158 rfl d55_156 (by decide) ?_
                          refine ev_cy1 161 rfl 90 d55_158 rfl rfl (by rw [G.1 _ _ (rfl : ai_sp 1 = (8, 0)) (by decide) (by decide)]; rfl) (by omega) rfl (show ai_Ev none 90 0 [some (.ref 1), some (.int (-5)), none] [] (S, I, L, F) _ from by rw [show ((-5) : Int32) = -(nI 5) by decide]; exact x_refuse (I := I) (L := L) (S := S) (F := F) G (k := 5) (by omega)) (fun v_2 I_1 hr_158 => ?_)
                          refine ev_iret (Or.inl rfl) d55_161 ?_
                          exact px_ref hX (by omega) hr_158
                      · rw [c_F (fun h9 => hq_137 h9.1)]
                        refine ev_if_T 155 (by decide) (by decide) d55_140 ?_
                        refine ev_aload_n 156 rfl d55_155 rfl ?_
                        refine ev_bipush (v := (-5)) 158 rfl d55_156 (by decide) ?_
                        refine ev_cy1 161 rfl 90 d55_158 rfl rfl (by rw [G.1 _ _ (rfl : ai_sp 1 = (8, 0)) (by decide) (by decide)]; rfl) (by omega) rfl (show ai_Ev none 90 0 [some (.ref 1), some (.int (-5)), none] [] (S, I, L, F) _ from by rw [show ((-5) : Int32) = -(nI 5) by decide]; exact x_refuse (I := I) (L := L) (S := S) (F := F) G (k := 5) (by omega)) (fun v_2 I_1 hr_158 => ?_)
                        refine ev_iret (Or.inl rfl) d55_161 ?_
                        exact px_ref hX (by omega) hr_158
                    · rw [c_T (Int32.not_le.mp hc_122)]
                      refine ev_aload_n 126 rfl d55_125 rfl ?_
                      refine ev_bipush (v := (-4)) 128 rfl d55_126 (by decide) ?_
                      refine ev_cy1 131 rfl 90 d55_128 rfl rfl (by rw [G.1 _ _ (rfl : ai_sp 1 = (8, 0)) (by decide) (by decide)]; rfl) (by omega) rfl (show ai_Ev none 90 0 [some (.ref 1), some (.int (-4)), none] [] (S, I, L, F) _ from by rw [show ((-4) : Int32) = -(nI 4) by decide]; exact x_refuse (I := I) (L := L) (S := S) (F := F) G (k := 4) (by omega)) (fun v_2 I_1 hr_128 => ?_)
                      refine ev_iret (Or.inl rfl) d55_131 ?_
                      exact px_ref hX (by omega) hr_128
                  · rw [c_F (fun h9 => hq_107 h9.2)]
                    refine ev_if_F 120 113 (by decide) rfl (by decide) d55_110 ?_
                    refine ev_aload_n 114 rfl d55_113 rfl ?_
                    refine ev_bipush (v := (-3)) 116 rfl d55_114 (by decide) ?_
                    refine ev_cy1 119 rfl 90 d55_116 rfl rfl (by rw [G.1 _ _ (rfl : ai_sp 1 = (8, 0)) (by decide) (by decide)]; rfl) (by omega) rfl (show ai_Ev none 90 0 [some (.ref 1), some (.int (-3)), none] [] (S, I, L, F) _ from by rw [show ((-3) : Int32) = -(nI 3) by decide]; exact x_refuse (I := I) (L := L) (S := S) (F := F) G (k := 3) (by omega)) (fun v_2 I_1 hr_116 => ?_)
                    refine ev_iret (Or.inl rfl) d55_119 ?_
                    exact px_ref hX (by omega) hr_116
                · rw [c_F (fun h9 => hq_99 h9.1)]
                  refine ev_if_T 113 (by decide) (by decide) d55_102 ?_
                  refine ev_aload_n 114 rfl d55_113 rfl ?_
                  refine ev_bipush (v := (-3)) 116 rfl d55_114 (by decide) ?_
                  refine ev_cy1 119 rfl 90 d55_116 rfl rfl (by rw [G.1 _ _ (rfl : ai_sp 1 = (8, 0)) (by decide) (by decide)]; rfl) (by omega) rfl (show ai_Ev none 90 0 [some (.ref 1), some (.int (-3)), none] [] (S, I, L, F) _ from by rw [show ((-3) : Int32) = -(nI 3) by decide]; exact x_refuse (I := I) (L := L) (S := S) (F := F) G (k := 3) (by omega)) (fun v_2 I_1 hr_116 => ?_)
                  refine ev_iret (Or.inl rfl) d55_119 ?_
                  exact px_ref hX (by omega) hr_116
              · rw [c_T (Or.inr (Or.inr ⟨by omega, by omega, by omega⟩))]
                refine ev_aload_n 91 rfl d55_90 rfl ?_
                refine ev_bipush (v := (-2)) 93 rfl d55_91 (by decide) ?_
                refine ev_cy1 96 rfl 90 d55_93 rfl rfl (by rw [G.1 _ _ (rfl : ai_sp 1 = (8, 0)) (by decide) (by decide)]; rfl) (by omega) rfl (show ai_Ev none 90 0 [some (.ref 1), some (.int (-2)), none] [] (S, I, L, F) _ from by rw [show ((-2) : Int32) = -(nI 2) by decide]; exact x_refuse (I := I) (L := L) (S := S) (F := F) G (k := 2) (by omega)) (fun v_2 I_1 hr_93 => ?_)
                refine ev_iret (Or.inl rfl) d55_96 ?_
                exact px_ref hX (by omega) hr_93
            · refine ev_if_T 97 (by decide) (by decide) d55_74 ?_
              rw [c_F (by unfold ai_S.pers; omega)]
              refine ev_aload 99 rfl d55_97 rfl ?_
              refine ev_cb0 102 rfl 46 d55_99 rfl rfl (by rw [G.1 _ _ (sp_shelf (by omega)) (by omega) (by omega)]; rfl) (by omega) rfl (x_holdsR G hX hV (by omega)) (fun hq_99 => ?_) (fun hq_99 => ?_)
              · refine ev_if_F 113 105 (by decide) rfl (by decide) d55_102 ?_
                refine ev_aload 107 rfl d55_105 rfl ?_
                refine ev_cb0 110 rfl 46 d55_107 rfl rfl (by rw [G.1 _ _ (sp_shelf (by omega)) (by omega) (by omega)]; rfl) (by omega) rfl (x_holdsR G hX hV (by omega)) (fun hq_107 => ?_) (fun hq_107 => ?_)
                · rw [c_T ⟨hq_99, hq_107⟩]
                  refine ev_if_T 120 (by decide) (by decide) d55_110 ?_
                  refine ev_iload 122 rfl d55_120 rfl ?_
                  refine ev_if 132 125 (by decide) rfl cz_ge d55_122 (fun hc_122 => ?_) (fun hc_122 => ?_)
                  · rw [c_F (Int32.not_lt.mpr hc_122)]
                    obtain ⟨n, hn, rfl⟩ := nn_nI ( hc_122)
                    refine ev_aload 134 rfl d55_132 rfl ?_
                    refine ev_iload_n 135 rfl d55_134 rfl ?_
                    refine ev_iload 137 rfl d55_135 rfl ?_
                    refine ev_cb2 140 rfl 48 d55_137 rfl rfl (by rw [G.1 _ _ (sp_shelf (by omega)) (by omega) (by omega)]; rfl) (by omega) rfl (h_rng G (by omega) (by omega) (hX.sz _ (by omega))) (fun hq_137 => ?_) (fun hq_137 => ?_)
                    · have hq_137c := hq_137
                      obtain ⟨i, rfl, hi⟩ := rng_n (by omega) (by omega) hq_137
                      refine ev_if_F 155 143 (by decide) rfl (by decide) d55_140 ?_
                      refine ev_aload 145 rfl d55_143 rfl ?_
                      refine ev_iload 147 rfl d55_145 rfl ?_
                      refine ev_iload 149 rfl d55_147 rfl ?_
                      refine ev_cb2 152 rfl 48 d55_149 rfl rfl (by rw [G.1 _ _ (sp_shelf (by omega)) (by omega) (by omega)]; rfl) (by omega) rfl (h_rng G (by omega) (by omega) (hX.sz _ (by omega))) (fun hq_149 => ?_) (fun hq_149 => ?_)
                      · have hq_149c := hq_149
                        rw [c_T ⟨hq_137c, hq_149c⟩]
                        obtain ⟨j, rfl, hj⟩ := rng_n (by omega) (by omega) hq_149
                        refine ev_if_T 162 (by decide) (by decide) d55_152 ?_
                        simp only [nn_I (show i < 2147483648 by omega)]
                        simp only [nn_I (show j < 2147483648 by omega)]
                        simp only [nn_I (show n < 2147483648 by omega)]
                        refine ev_aload 164 rfl d55_162 rfl ?_
                        refine ev_getr 167 rfl 6 4 d55_164 rfl (by omega) (G.1 _ _ (sp_shelf (by omega)) (by omega) (by omega)) (G.2 _ _ _ (rf_elems (by omega))) ?_
                        refine ev_iload_n 168 rfl d55_167 rfl ?_
                        refine ev_aload 170 rfl d55_168 rfl ?_
                        refine ev_getr 173 rfl 6 4 d55_170 rfl (by omega) (G.1 _ _ (sp_shelf (by omega)) (by omega) (by omega)) (G.2 _ _ _ (rf_elems (by omega))) ?_
                        refine ev_iload 175 rfl d55_173 rfl ?_
                        refine ev_iload 177 rfl d55_175 rfl ?_
                        obtain ⟨L_1, hL_1⟩ : ∃ z, z = ai_row L (55 + 2 * q + 1) (va_cpy (L (55 + 2 * p + 1)) (L (55 + 2 * q + 1)) i j n) := ⟨_, rfl⟩
                        refine ev_cpyl (L2 := L_1) 180 rfl d55_177 rfl rfl (by omega) (by omega) (G.1 _ _ (sp_elems (by omega)) (by omega) (by omega)) (G.1 _ _ (sp_elems (by omega)) (by omega) (by omega)) ⟨nI_pos (by omega), nI_pos (by omega), nI_pos (by omega), by rw [nI_clamp (by omega), nI_clamp (by omega)]; omega, by rw [nI_clamp (by omega), nI_clamp (by omega)]; omega⟩ (by first | (rw [nI_clamp (by omega), nI_clamp (by omega), nI_clamp (by omega)]; exact hL_1.symm) | (rw [nI_clamp (by omega), nI_clamp (by omega)]; exact hL_1.symm) | (rw [nI_clamp (by omega)]; exact hL_1.symm)) ?_
                        refine ev_iconst (v := nI 1) 181 rfl d55_180 (by decide) ?_
                        refine ev_iret (Or.inl rfl) d55_181 ?_
                        refine ⟨_, _, rfl, rfl, rx_L hX (σ2 := σ.copy p q i j n) rfl ?_, fun a ha => ⟨rfl, by rw [hL_1]; unfold ai_row; rw [if_neg (by omega)]⟩⟩
                        intro x hx k hk
                        show L_1 (55 + 2 * x + 1) k = (if x = q ∧ j ≤ k ∧ k < j + n then σ.el p (i + (k - j)) else σ.el x k)
                        rw [hL_1]
                        unfold ai_row
                        by_cases e : x = q
                        · subst e
                          rw [if_pos rfl]
                          unfold va_cpy
                          by_cases e2 : j ≤ k ∧ k < j + n
                          · rw [if_pos e2, if_pos ⟨rfl, e2⟩]; exact hX.el p hp _ (by omega)
                          · rw [if_neg e2, if_neg (fun q => e2 q.2)]; exact hX.el x hx k hk
                        · rw [if_neg (by omega), if_neg (fun q => e q.1)]; exact hX.el x hx k hk
                      · rw [c_F (fun h9 => hq_149 h9.2)]
                        refine ev_if_F 162 155 (by decide) rfl (by decide) d55_152 ?_
                        refine ev_aload_n 156 rfl d55_155 rfl ?_
                        refine ev_bipush (v := (-5)) 158 rfl d55_156 (by decide) ?_
                        refine ev_cy1 161 rfl 90 d55_158 rfl rfl (by rw [G.1 _ _ (rfl : ai_sp 1 = (8, 0)) (by decide) (by decide)]; rfl) (by omega) rfl (show ai_Ev none 90 0 [some (.ref 1), some (.int (-5)), none] [] (S, I, L, F) _ from by rw [show ((-5) : Int32) = -(nI 5) by decide]; exact x_refuse (I := I) (L := L) (S := S) (F := F) G (k := 5) (by omega)) (fun v_2 I_1 hr_158 => ?_)
                        refine ev_iret (Or.inl rfl) d55_161 ?_
                        exact px_ref hX (by omega) hr_158
                    · rw [c_F (fun h9 => hq_137 h9.1)]
                      refine ev_if_T 155 (by decide) (by decide) d55_140 ?_
                      refine ev_aload_n 156 rfl d55_155 rfl ?_
                      refine ev_bipush (v := (-5)) 158 rfl d55_156 (by decide) ?_
                      refine ev_cy1 161 rfl 90 d55_158 rfl rfl (by rw [G.1 _ _ (rfl : ai_sp 1 = (8, 0)) (by decide) (by decide)]; rfl) (by omega) rfl (show ai_Ev none 90 0 [some (.ref 1), some (.int (-5)), none] [] (S, I, L, F) _ from by rw [show ((-5) : Int32) = -(nI 5) by decide]; exact x_refuse (I := I) (L := L) (S := S) (F := F) G (k := 5) (by omega)) (fun v_2 I_1 hr_158 => ?_)
                      refine ev_iret (Or.inl rfl) d55_161 ?_
                      exact px_ref hX (by omega) hr_158
                  · rw [c_T (Int32.not_le.mp hc_122)]
                    refine ev_aload_n 126 rfl d55_125 rfl ?_
                    refine ev_bipush (v := (-4)) 128 rfl d55_126 (by decide) ?_
                    refine ev_cy1 131 rfl 90 d55_128 rfl rfl (by rw [G.1 _ _ (rfl : ai_sp 1 = (8, 0)) (by decide) (by decide)]; rfl) (by omega) rfl (show ai_Ev none 90 0 [some (.ref 1), some (.int (-4)), none] [] (S, I, L, F) _ from by rw [show ((-4) : Int32) = -(nI 4) by decide]; exact x_refuse (I := I) (L := L) (S := S) (F := F) G (k := 4) (by omega)) (fun v_2 I_1 hr_128 => ?_)
                    refine ev_iret (Or.inl rfl) d55_131 ?_
                    exact px_ref hX (by omega) hr_128
                · rw [c_F (fun h9 => hq_107 h9.2)]
                  refine ev_if_F 120 113 (by decide) rfl (by decide) d55_110 ?_
                  refine ev_aload_n 114 rfl d55_113 rfl ?_
                  refine ev_bipush (v := (-3)) 116 rfl d55_114 (by decide) ?_
                  refine ev_cy1 119 rfl 90 d55_116 rfl rfl (by rw [G.1 _ _ (rfl : ai_sp 1 = (8, 0)) (by decide) (by decide)]; rfl) (by omega) rfl (show ai_Ev none 90 0 [some (.ref 1), some (.int (-3)), none] [] (S, I, L, F) _ from by rw [show ((-3) : Int32) = -(nI 3) by decide]; exact x_refuse (I := I) (L := L) (S := S) (F := F) G (k := 3) (by omega)) (fun v_2 I_1 hr_116 => ?_)
                  refine ev_iret (Or.inl rfl) d55_119 ?_
                  exact px_ref hX (by omega) hr_116
              · rw [c_F (fun h9 => hq_99 h9.1)]
                refine ev_if_T 113 (by decide) (by decide) d55_102 ?_
                refine ev_aload_n 114 rfl d55_113 rfl ?_
                refine ev_bipush (v := (-3)) 116 rfl d55_114 (by decide) ?_
                refine ev_cy1 119 rfl 90 d55_116 rfl rfl (by rw [G.1 _ _ (rfl : ai_sp 1 = (8, 0)) (by decide) (by decide)]; rfl) (by omega) rfl (show ai_Ev none 90 0 [some (.ref 1), some (.int (-3)), none] [] (S, I, L, F) _ from by rw [show ((-3) : Int32) = -(nI 3) by decide]; exact x_refuse (I := I) (L := L) (S := S) (F := F) G (k := 3) (by omega)) (fun v_2 I_1 hr_116 => ?_)
                refine ev_iret (Or.inl rfl) d55_119 ?_
                exact px_ref hX (by omega) hr_116
          · refine ev_if_T 97 (by decide) (by decide) d55_66 ?_
            rw [c_F (by unfold ai_S.pers; omega)]
            refine ev_aload 99 rfl d55_97 rfl ?_
            refine ev_cb0 102 rfl 46 d55_99 rfl rfl (by rw [G.1 _ _ (sp_shelf (by omega)) (by omega) (by omega)]; rfl) (by omega) rfl (x_holdsR G hX hV (by omega)) (fun hq_99 => ?_) (fun hq_99 => ?_)
            · refine ev_if_F 113 105 (by decide) rfl (by decide) d55_102 ?_
              refine ev_aload 107 rfl d55_105 rfl ?_
              refine ev_cb0 110 rfl 46 d55_107 rfl rfl (by rw [G.1 _ _ (sp_shelf (by omega)) (by omega) (by omega)]; rfl) (by omega) rfl (x_holdsR G hX hV (by omega)) (fun hq_107 => ?_) (fun hq_107 => ?_)
              · rw [c_T ⟨hq_99, hq_107⟩]
                refine ev_if_T 120 (by decide) (by decide) d55_110 ?_
                refine ev_iload 122 rfl d55_120 rfl ?_
                refine ev_if 132 125 (by decide) rfl cz_ge d55_122 (fun hc_122 => ?_) (fun hc_122 => ?_)
                · rw [c_F (Int32.not_lt.mpr hc_122)]
                  obtain ⟨n, hn, rfl⟩ := nn_nI ( hc_122)
                  refine ev_aload 134 rfl d55_132 rfl ?_
                  refine ev_iload_n 135 rfl d55_134 rfl ?_
                  refine ev_iload 137 rfl d55_135 rfl ?_
                  refine ev_cb2 140 rfl 48 d55_137 rfl rfl (by rw [G.1 _ _ (sp_shelf (by omega)) (by omega) (by omega)]; rfl) (by omega) rfl (h_rng G (by omega) (by omega) (hX.sz _ (by omega))) (fun hq_137 => ?_) (fun hq_137 => ?_)
                  · have hq_137c := hq_137
                    obtain ⟨i, rfl, hi⟩ := rng_n (by omega) (by omega) hq_137
                    refine ev_if_F 155 143 (by decide) rfl (by decide) d55_140 ?_
                    refine ev_aload 145 rfl d55_143 rfl ?_
                    refine ev_iload 147 rfl d55_145 rfl ?_
                    refine ev_iload 149 rfl d55_147 rfl ?_
                    refine ev_cb2 152 rfl 48 d55_149 rfl rfl (by rw [G.1 _ _ (sp_shelf (by omega)) (by omega) (by omega)]; rfl) (by omega) rfl (h_rng G (by omega) (by omega) (hX.sz _ (by omega))) (fun hq_149 => ?_) (fun hq_149 => ?_)
                    · have hq_149c := hq_149
                      rw [c_T ⟨hq_137c, hq_149c⟩]
                      obtain ⟨j, rfl, hj⟩ := rng_n (by omega) (by omega) hq_149
                      refine ev_if_T 162 (by decide) (by decide) d55_152 ?_
                      simp only [nn_I (show i < 2147483648 by omega)]
                      simp only [nn_I (show j < 2147483648 by omega)]
                      simp only [nn_I (show n < 2147483648 by omega)]
                      refine ev_aload 164 rfl d55_162 rfl ?_
                      refine ev_getr 167 rfl 6 4 d55_164 rfl (by omega) (G.1 _ _ (sp_shelf (by omega)) (by omega) (by omega)) (G.2 _ _ _ (rf_elems (by omega))) ?_
                      refine ev_iload_n 168 rfl d55_167 rfl ?_
                      refine ev_aload 170 rfl d55_168 rfl ?_
                      refine ev_getr 173 rfl 6 4 d55_170 rfl (by omega) (G.1 _ _ (sp_shelf (by omega)) (by omega) (by omega)) (G.2 _ _ _ (rf_elems (by omega))) ?_
                      refine ev_iload 175 rfl d55_173 rfl ?_
                      refine ev_iload 177 rfl d55_175 rfl ?_
                      obtain ⟨L_1, hL_1⟩ : ∃ z, z = ai_row L (55 + 2 * q + 1) (va_cpy (L (55 + 2 * p + 1)) (L (55 + 2 * q + 1)) i j n) := ⟨_, rfl⟩
                      refine ev_cpyl (L2 := L_1) 180 rfl d55_177 rfl rfl (by omega) (by omega) (G.1 _ _ (sp_elems (by omega)) (by omega) (by omega)) (G.1 _ _ (sp_elems (by omega)) (by omega) (by omega)) ⟨nI_pos (by omega), nI_pos (by omega), nI_pos (by omega), by rw [nI_clamp (by omega), nI_clamp (by omega)]; omega, by rw [nI_clamp (by omega), nI_clamp (by omega)]; omega⟩ (by first | (rw [nI_clamp (by omega), nI_clamp (by omega), nI_clamp (by omega)]; exact hL_1.symm) | (rw [nI_clamp (by omega), nI_clamp (by omega)]; exact hL_1.symm) | (rw [nI_clamp (by omega)]; exact hL_1.symm)) ?_
                      refine ev_iconst (v := nI 1) 181 rfl d55_180 (by decide) ?_
                      refine ev_iret (Or.inl rfl) d55_181 ?_
                      refine ⟨_, _, rfl, rfl, rx_L hX (σ2 := σ.copy p q i j n) rfl ?_, fun a ha => ⟨rfl, by rw [hL_1]; unfold ai_row; rw [if_neg (by omega)]⟩⟩
                      intro x hx k hk
                      show L_1 (55 + 2 * x + 1) k = (if x = q ∧ j ≤ k ∧ k < j + n then σ.el p (i + (k - j)) else σ.el x k)
                      rw [hL_1]
                      unfold ai_row
                      by_cases e : x = q
                      · subst e
                        rw [if_pos rfl]
                        unfold va_cpy
                        by_cases e2 : j ≤ k ∧ k < j + n
                        · rw [if_pos e2, if_pos ⟨rfl, e2⟩]; exact hX.el p hp _ (by omega)
                        · rw [if_neg e2, if_neg (fun q => e2 q.2)]; exact hX.el x hx k hk
                      · rw [if_neg (by omega), if_neg (fun q => e q.1)]; exact hX.el x hx k hk
                    · rw [c_F (fun h9 => hq_149 h9.2)]
                      refine ev_if_F 162 155 (by decide) rfl (by decide) d55_152 ?_
                      refine ev_aload_n 156 rfl d55_155 rfl ?_
                      refine ev_bipush (v := (-5)) 158 rfl d55_156 (by decide) ?_
                      refine ev_cy1 161 rfl 90 d55_158 rfl rfl (by rw [G.1 _ _ (rfl : ai_sp 1 = (8, 0)) (by decide) (by decide)]; rfl) (by omega) rfl (show ai_Ev none 90 0 [some (.ref 1), some (.int (-5)), none] [] (S, I, L, F) _ from by rw [show ((-5) : Int32) = -(nI 5) by decide]; exact x_refuse (I := I) (L := L) (S := S) (F := F) G (k := 5) (by omega)) (fun v_2 I_1 hr_158 => ?_)
                      refine ev_iret (Or.inl rfl) d55_161 ?_
                      exact px_ref hX (by omega) hr_158
                  · rw [c_F (fun h9 => hq_137 h9.1)]
                    refine ev_if_T 155 (by decide) (by decide) d55_140 ?_
                    refine ev_aload_n 156 rfl d55_155 rfl ?_
                    refine ev_bipush (v := (-5)) 158 rfl d55_156 (by decide) ?_
                    refine ev_cy1 161 rfl 90 d55_158 rfl rfl (by rw [G.1 _ _ (rfl : ai_sp 1 = (8, 0)) (by decide) (by decide)]; rfl) (by omega) rfl (show ai_Ev none 90 0 [some (.ref 1), some (.int (-5)), none] [] (S, I, L, F) _ from by rw [show ((-5) : Int32) = -(nI 5) by decide]; exact x_refuse (I := I) (L := L) (S := S) (F := F) G (k := 5) (by omega)) (fun v_2 I_1 hr_158 => ?_)
                    refine ev_iret (Or.inl rfl) d55_161 ?_
                    exact px_ref hX (by omega) hr_158
                · rw [c_T (Int32.not_le.mp hc_122)]
                  refine ev_aload_n 126 rfl d55_125 rfl ?_
                  refine ev_bipush (v := (-4)) 128 rfl d55_126 (by decide) ?_
                  refine ev_cy1 131 rfl 90 d55_128 rfl rfl (by rw [G.1 _ _ (rfl : ai_sp 1 = (8, 0)) (by decide) (by decide)]; rfl) (by omega) rfl (show ai_Ev none 90 0 [some (.ref 1), some (.int (-4)), none] [] (S, I, L, F) _ from by rw [show ((-4) : Int32) = -(nI 4) by decide]; exact x_refuse (I := I) (L := L) (S := S) (F := F) G (k := 4) (by omega)) (fun v_2 I_1 hr_128 => ?_)
                  refine ev_iret (Or.inl rfl) d55_131 ?_
                  exact px_ref hX (by omega) hr_128
              · rw [c_F (fun h9 => hq_107 h9.2)]
                refine ev_if_F 120 113 (by decide) rfl (by decide) d55_110 ?_
                refine ev_aload_n 114 rfl d55_113 rfl ?_
                refine ev_bipush (v := (-3)) 116 rfl d55_114 (by decide) ?_
                refine ev_cy1 119 rfl 90 d55_116 rfl rfl (by rw [G.1 _ _ (rfl : ai_sp 1 = (8, 0)) (by decide) (by decide)]; rfl) (by omega) rfl (show ai_Ev none 90 0 [some (.ref 1), some (.int (-3)), none] [] (S, I, L, F) _ from by rw [show ((-3) : Int32) = -(nI 3) by decide]; exact x_refuse (I := I) (L := L) (S := S) (F := F) G (k := 3) (by omega)) (fun v_2 I_1 hr_116 => ?_)
                refine ev_iret (Or.inl rfl) d55_119 ?_
                exact px_ref hX (by omega) hr_116
            · rw [c_F (fun h9 => hq_99 h9.1)]
              refine ev_if_T 113 (by decide) (by decide) d55_102 ?_
              refine ev_aload_n 114 rfl d55_113 rfl ?_
              refine ev_bipush (v := (-3)) 116 rfl d55_114 (by decide) ?_
              refine ev_cy1 119 rfl 90 d55_116 rfl rfl (by rw [G.1 _ _ (rfl : ai_sp 1 = (8, 0)) (by decide) (by decide)]; rfl) (by omega) rfl (show ai_Ev none 90 0 [some (.ref 1), some (.int (-3)), none] [] (S, I, L, F) _ from by rw [show ((-3) : Int32) = -(nI 3) by decide]; exact x_refuse (I := I) (L := L) (S := S) (F := F) G (k := 3) (by omega)) (fun v_2 I_1 hr_116 => ?_)
              refine ev_iret (Or.inl rfl) d55_119 ?_
              exact px_ref hX (by omega) hr_116
    · rw [c_F (fun h9 => hq_10 h9.2)]
      refine ev_if_F 22 16 (by decide) rfl (by decide) d55_13 ?_
      refine ev_aload_n 17 rfl d55_16 rfl ?_
      refine ev_iconst (v := (-1)) 18 rfl d55_17 (by decide) ?_
      refine ev_cy1 21 rfl 90 d55_18 rfl rfl (by rw [G.1 _ _ (rfl : ai_sp 1 = (8, 0)) (by decide) (by decide)]; rfl) (by omega) rfl (show ai_Ev none 90 0 [some (.ref 1), some (.int (-1)), none] [] (S, I, L, F) _ from by rw [show ((-1) : Int32) = -(nI 1) by decide]; exact x_refuse (I := I) (L := L) (S := S) (F := F) G (k := 1) (by omega)) (fun v_2 I_1 hr_18 => ?_)
      refine ev_iret (Or.inl rfl) d55_21 ?_
      exact px_ref hX (by omega) hr_18
  · rw [c_F (fun h9 => hq_2 h9.1)]
    refine ev_if_T 16 (by decide) (by decide) d55_5 ?_
    refine ev_aload_n 17 rfl d55_16 rfl ?_
    refine ev_iconst (v := (-1)) 18 rfl d55_17 (by decide) ?_
    refine ev_cy1 21 rfl 90 d55_18 rfl rfl (by rw [G.1 _ _ (rfl : ai_sp 1 = (8, 0)) (by decide) (by decide)]; rfl) (by omega) rfl (show ai_Ev none 90 0 [some (.ref 1), some (.int (-1)), none] [] (S, I, L, F) _ from by rw [show ((-1) : Int32) = -(nI 1) by decide]; exact x_refuse (I := I) (L := L) (S := S) (F := F) G (k := 1) (by omega)) (fun v_2 I_1 hr_18 => ?_)
    refine ev_iret (Or.inl rfl) d55_21 ?_
    exact px_ref hX (by omega) hr_18
theorem x_question (G : ai_G S F) (hX : ai_RX σ I L) (hV : ai_IV σ) {z1 z2 z3 : Int32} : ai_Ev none 60 0 [some (.ref 1), some (.int z1), some (.int z2), some (.int z3), none, none] [] (S, I, L, F) (ai_PX S F I L (o_question σ z1 z2 z3)) := by
  have hnT := hV.nT
  have hnQ := hV.nQ
  have hnJ := hV.nJ
  unfold o_question
  by_cases h0 : σ.nQ = 0
  · rw [c_T (Or.inl h0)]
    by_cases hn : (0 : Int32) ≤ z1
    · obtain ⟨n, hnn, rfl⟩ := nn_nI hn
      by_cases hp : z2 = -1
      · subst hp
        refine ev_aload_n 1 rfl d60_0 rfl ?_
        refine ev_geti (v := nI σ.nQ) 4 rfl 8 5 d60_1 rfl (by omega) (G.1 _ _ (rfl : ai_sp 1 = (8, 0)) (by decide) (by decide)) hX.nQ ?_
        refine ev_if 11 7 (by decide) rfl (c0_ne (by omega)) d60_4 (fun hc_4 => absurd hc_4 (by omega)) (fun hc_4 => ?_)
        refine ev_iconst (v := nI 1) 8 rfl d60_7 (by decide) ?_
        refine ev_goto 12 (by decide) d60_8 ?_
        refine ev_store_i 14 rfl d60_12 ⟨rfl, Nat.le_of_ble_eq_true rfl⟩ rfl ?_
        show ai_Ev _ _ _ [some (.ref 1), some (.int (nI n)), some (.int (-1)), some (.int z3), some (.int (nI 1)), none] _ _ _
        refine ev_iload 16 rfl d60_14 rfl ?_
        refine ev_if_T 33 (by decide) (by decide) d60_16 ?_
        refine ev_iload_n 34 rfl d60_33 rfl ?_
        refine ev_iconst (v := nI 2) 35 rfl d60_34 (by decide) ?_
        refine ev_icmp 43 38 (by decide) rfl (cn_lt (by omega) (by omega)) d60_35 (fun hc_35 => ?_) (fun hc_35 => ?_)
        · rw [c_F (fun h9 => h9.2 (is_T (by omega)))]
          try rw [c_T hc_35]
          refine ev_aload_n 44 rfl d60_43 rfl ?_
          refine ev_bipush (v := (-6)) 46 rfl d60_44 (by decide) ?_
          refine ev_cy1 49 rfl 90 d60_46 rfl rfl (by rw [G.1 _ _ (rfl : ai_sp 1 = (8, 0)) (by decide) (by decide)]; rfl) (by omega) rfl (show ai_Ev none 90 0 [some (.ref 1), some (.int (-6)), none] [] (S, I, L, F) _ from by rw [show ((-6) : Int32) = -(nI 6) by decide]; exact x_refuse (I := I) (L := L) (S := S) (F := F) G (k := 6) (by omega)) (fun v_2 I_1 hr_46 => ?_)
          refine ev_iret (Or.inl rfl) d60_49 ?_
          exact px_ref hX (by omega) hr_46
        · try rw [c_F hc_35]
          refine ev_iload_n 39 rfl d60_38 rfl ?_
          refine ev_iconst (v := nI 4) 40 rfl d60_39 (by decide) ?_
          refine ev_icmp 50 43 (by decide) rfl (cn_le (by omega) (by omega)) d60_40 (fun hc_40 => ?_) (fun hc_40 => ?_)
          · rw [c_T ⟨is_T (by omega), is_F (by omega) (by omega) (by omega)⟩]
            rw [c_T (Or.inl ⟨h0, rfl⟩)]
            try rw [c_T hc_40]
            refine ev_iload 52 rfl d60_50 rfl ?_
            refine ev_if_F 63 55 (by decide) rfl (by decide) d60_52 ?_
            refine ev_iload_n 56 rfl d60_55 rfl ?_
            refine ev_iconst (v := (-1)) 57 rfl d60_56 (by decide) ?_
            refine ev_icmp_T 79 (by decide) (by decide) d60_57 ?_
            refine ev_aload_n 80 rfl d60_79 rfl ?_
            refine ev_geti (v := nI σ.nQ) 83 rfl 8 5 d60_80 rfl (by omega) (G.1 _ _ (rfl : ai_sp 1 = (8, 0)) (by decide) (by decide)) hX.nQ ?_
            refine ev_iconst (v := nI 5) 84 rfl d60_83 (by decide) ?_
            refine ev_icmp 94 87 (by decide) rfl (cn_lt (by omega) (by omega)) d60_84 (fun hc_84 => ?_) (fun hc_84 => ?_)
            · try rw [c_T hc_84]
              simp only [nn_I (show n < 2147483648 by omega)]
              refine ev_aload_n 95 rfl d60_94 rfl ?_
              refine ev_getr 98 rfl 8 1 d60_95 rfl (by omega) (G.1 _ _ (rfl : ai_sp 1 = (8, 0)) (by decide) (by decide)) (G.2 _ _ _ (rfl : ai_rf 1 1 = some 3)) ?_
              refine ev_aload_n 99 rfl d60_98 rfl ?_
              refine ev_geti (v := nI σ.nQ) 102 rfl 8 5 d60_99 rfl (by omega) (G.1 _ _ (rfl : ai_sp 1 = (8, 0)) (by decide) (by decide)) hX.nQ ?_
              refine ev_aald_n 103 rfl d60_102 (by omega) (by decide) (G.1 _ _ (rfl : ai_sp 3 = (105, 5)) (by decide) (by decide)) (by omega) (by decide) (G.2 _ _ _ (rf_question (by omega))) ?_
              refine ev_store_a 105 rfl d60_103 ⟨rfl, Nat.le_of_ble_eq_true rfl⟩ rfl ?_
              show ai_Ev _ _ _ [some (.ref 1), some (.int (nI n)), some (.int (-1)), some (.int z3), some (.int (nI 1)), some (.ref (71 + σ.nQ))] _ _ _
              refine ev_aload 107 rfl d60_105 rfl ?_
              refine ev_iload_n 108 rfl d60_107 rfl ?_
              obtain ⟨I_1, hI_1⟩ : ∃ z, z = ai_ui I (71 + σ.nQ) 0 (nI n) := ⟨_, rfl⟩
              refine ev_puti (I2 := I_1) 111 rfl 4 0 d60_108 rfl (by omega) (G.1 _ _ (sp_question (by omega)) (by omega) (by omega)) (fun h => absurd h (by decide)) hI_1.symm ?_
              refine ev_aload 113 rfl d60_111 rfl ?_
              refine ev_iload_n 114 rfl d60_113 rfl ?_
              obtain ⟨I_2, hI_2⟩ : ∃ z, z = ai_ui I_1 (71 + σ.nQ) 1 (-1) := ⟨_, rfl⟩
              refine ev_puti (I2 := I_2) 117 rfl 4 1 d60_114 rfl (by omega) (G.1 _ _ (sp_question (by omega)) (by omega) (by omega)) (fun h => absurd h (by decide)) hI_2.symm ?_
              refine ev_aload 119 rfl d60_117 rfl ?_
              refine ev_iload_n 120 rfl d60_119 rfl ?_
              obtain ⟨I_3, hI_3⟩ : ∃ z, z = ai_ui I_2 (71 + σ.nQ) 2 z3 := ⟨_, rfl⟩
              refine ev_puti (I2 := I_3) 123 rfl 4 2 d60_120 rfl (by omega) (G.1 _ _ (sp_question (by omega)) (by omega) (by omega)) (fun h => absurd h (by decide)) hI_3.symm ?_
              refine ev_aload_n 124 rfl d60_123 rfl ?_
              refine ev_dup 125 rfl d60_124 rfl ?_
              refine ev_geti (v := nI σ.nQ) 128 rfl 8 5 d60_125 rfl (by omega) (G.1 _ _ (rfl : ai_sp 1 = (8, 0)) (by decide) (by decide)) (by rw [ui_other hI_3 (by omega), ui_other hI_2 (by omega), ui_other hI_1 (by omega)]; exact hX.nQ) ?_
              refine ev_iconst (v := nI 1) 129 rfl d60_128 (by decide) ?_
              refine ev_iadd (v := nI (σ.nQ + 1)) 130 rfl d60_129 (nI_add _ _) ?_
              obtain ⟨I_4, hI_4⟩ : ∃ z, z = ai_ui I_3 1 5 (nI (σ.nQ + 1)) := ⟨_, rfl⟩
              refine ev_puti (I2 := I_4) 133 rfl 8 5 d60_130 rfl (by omega) (G.1 _ _ (rfl : ai_sp 1 = (8, 0)) (by decide) (by decide)) (fun h => absurd h (by decide)) hI_4.symm ?_
              refine ev_aload_n 134 rfl d60_133 rfl ?_
              refine ev_geti (v := nI (σ.nQ + 1)) 137 rfl 8 5 d60_134 rfl (by omega) (G.1 _ _ (rfl : ai_sp 1 = (8, 0)) (by decide) (by decide)) (ui_same hI_4) ?_
              refine ev_iconst (v := nI 1) 138 rfl d60_137 (by decide) ?_
              refine ev_isub (v := nI σ.nQ) 139 rfl d60_138 (by rw [pk_sub (by omega)]; rfl) ?_
              refine ev_iret (Or.inl rfl) d60_139 ?_
              exact ⟨_, _, rfl, rfl, rx_quest (p := ai_nn (-1)) (w := ai_nn z3) hX (by omega) (fun h9 => absurd h9 (by omega)) (by rw [hI_4, hI_3, hI_2, hI_1]), fun a ha => ⟨by rw [ui_row hI_4 (by omega), ui_row hI_3 (by omega), ui_row hI_2 (by omega), ui_row hI_1 (by omega)], rfl⟩⟩
            · try rw [c_F hc_84]
              refine ev_aload_n 88 rfl d60_87 rfl ?_
              refine ev_bipush (v := (-7)) 90 rfl d60_88 (by decide) ?_
              refine ev_cy1 93 rfl 90 d60_90 rfl rfl (by rw [G.1 _ _ (rfl : ai_sp 1 = (8, 0)) (by decide) (by decide)]; rfl) (by omega) rfl (show ai_Ev none 90 0 [some (.ref 1), some (.int (-7)), none] [] (S, I, L, F) _ from by rw [show ((-7) : Int32) = -(nI 7) by decide]; exact x_refuse (I := I) (L := L) (S := S) (F := F) G (k := 7) (by omega)) (fun v_2 I_1 hr_90 => ?_)
              refine ev_iret (Or.inl rfl) d60_93 ?_
              exact px_ref hX (by omega) hr_90
          · rw [c_F (fun h9 => is_F (by omega) (by omega) (by omega) h9.1)]
            try rw [c_F hc_40]
            refine ev_aload_n 44 rfl d60_43 rfl ?_
            refine ev_bipush (v := (-6)) 46 rfl d60_44 (by decide) ?_
            refine ev_cy1 49 rfl 90 d60_46 rfl rfl (by rw [G.1 _ _ (rfl : ai_sp 1 = (8, 0)) (by decide) (by decide)]; rfl) (by omega) rfl (show ai_Ev none 90 0 [some (.ref 1), some (.int (-6)), none] [] (S, I, L, F) _ from by rw [show ((-6) : Int32) = -(nI 6) by decide]; exact x_refuse (I := I) (L := L) (S := S) (F := F) G (k := 6) (by omega)) (fun v_2 I_1 hr_46 => ?_)
            refine ev_iret (Or.inl rfl) d60_49 ?_
            exact px_ref hX (by omega) hr_46
      · skip
        refine ev_aload_n 1 rfl d60_0 rfl ?_
        refine ev_geti (v := nI σ.nQ) 4 rfl 8 5 d60_1 rfl (by omega) (G.1 _ _ (rfl : ai_sp 1 = (8, 0)) (by decide) (by decide)) hX.nQ ?_
        refine ev_if 11 7 (by decide) rfl (c0_ne (by omega)) d60_4 (fun hc_4 => absurd hc_4 (by omega)) (fun hc_4 => ?_)
        refine ev_iconst (v := nI 1) 8 rfl d60_7 (by decide) ?_
        refine ev_goto 12 (by decide) d60_8 ?_
        refine ev_store_i 14 rfl d60_12 ⟨rfl, Nat.le_of_ble_eq_true rfl⟩ rfl ?_
        show ai_Ev _ _ _ [some (.ref 1), some (.int (nI n)), some (.int z2), some (.int z3), some (.int (nI 1)), none] _ _ _
        refine ev_iload 16 rfl d60_14 rfl ?_
        refine ev_if_T 33 (by decide) (by decide) d60_16 ?_
        refine ev_iload_n 34 rfl d60_33 rfl ?_
        refine ev_iconst (v := nI 2) 35 rfl d60_34 (by decide) ?_
        refine ev_icmp 43 38 (by decide) rfl (cn_lt (by omega) (by omega)) d60_35 (fun hc_35 => ?_) (fun hc_35 => ?_)
        · rw [c_F (fun h9 => h9.2 (is_T (by omega)))]
          try rw [c_T hc_35]
          refine ev_aload_n 44 rfl d60_43 rfl ?_
          refine ev_bipush (v := (-6)) 46 rfl d60_44 (by decide) ?_
          refine ev_cy1 49 rfl 90 d60_46 rfl rfl (by rw [G.1 _ _ (rfl : ai_sp 1 = (8, 0)) (by decide) (by decide)]; rfl) (by omega) rfl (show ai_Ev none 90 0 [some (.ref 1), some (.int (-6)), none] [] (S, I, L, F) _ from by rw [show ((-6) : Int32) = -(nI 6) by decide]; exact x_refuse (I := I) (L := L) (S := S) (F := F) G (k := 6) (by omega)) (fun v_2 I_1 hr_46 => ?_)
          refine ev_iret (Or.inl rfl) d60_49 ?_
          exact px_ref hX (by omega) hr_46
        · try rw [c_F hc_35]
          refine ev_iload_n 39 rfl d60_38 rfl ?_
          refine ev_iconst (v := nI 4) 40 rfl d60_39 (by decide) ?_
          refine ev_icmp 50 43 (by decide) rfl (cn_le (by omega) (by omega)) d60_40 (fun hc_40 => ?_) (fun hc_40 => ?_)
          · rw [c_T ⟨is_T (by omega), is_F (by omega) (by omega) (by omega)⟩]
            try rw [c_T hc_40]
            refine ev_iload 52 rfl d60_50 rfl ?_
            refine ev_if_F 63 55 (by decide) rfl (by decide) d60_52 ?_
            refine ev_iload_n 56 rfl d60_55 rfl ?_
            refine ev_iconst (v := (-1)) 57 rfl d60_56 (by decide) ?_
            refine ev_icmp 79 60 (by decide) rfl cz_eq d60_57 (fun hc_57 => ?_) (fun hc_57 => ?_)
            · exact absurd hc_57 hp
            · rw [c_F (fun h9 => h9.elim (fun h8 => hc_57 h8.2) (fun h8 => h8.1 h0))]
              try rw [c_F hc_57]
              refine ev_goto 72 (by decide) d60_60 ?_
              refine ev_aload_n 73 rfl d60_72 rfl ?_
              refine ev_bipush (v := (-6)) 75 rfl d60_73 (by decide) ?_
              refine ev_cy1 78 rfl 90 d60_75 rfl rfl (by rw [G.1 _ _ (rfl : ai_sp 1 = (8, 0)) (by decide) (by decide)]; rfl) (by omega) rfl (show ai_Ev none 90 0 [some (.ref 1), some (.int (-6)), none] [] (S, I, L, F) _ from by rw [show ((-6) : Int32) = -(nI 6) by decide]; exact x_refuse (I := I) (L := L) (S := S) (F := F) G (k := 6) (by omega)) (fun v_2 I_1 hr_75 => ?_)
              refine ev_iret (Or.inl rfl) d60_78 ?_
              exact px_ref hX (by omega) hr_75
          · rw [c_F (fun h9 => is_F (by omega) (by omega) (by omega) h9.1)]
            try rw [c_F hc_40]
            refine ev_aload_n 44 rfl d60_43 rfl ?_
            refine ev_bipush (v := (-6)) 46 rfl d60_44 (by decide) ?_
            refine ev_cy1 49 rfl 90 d60_46 rfl rfl (by rw [G.1 _ _ (rfl : ai_sp 1 = (8, 0)) (by decide) (by decide)]; rfl) (by omega) rfl (show ai_Ev none 90 0 [some (.ref 1), some (.int (-6)), none] [] (S, I, L, F) _ from by rw [show ((-6) : Int32) = -(nI 6) by decide]; exact x_refuse (I := I) (L := L) (S := S) (F := F) G (k := 6) (by omega)) (fun v_2 I_1 hr_46 => ?_)
            refine ev_iret (Or.inl rfl) d60_49 ?_
            exact px_ref hX (by omega) hr_46
    · skip
      refine ev_aload_n 1 rfl d60_0 rfl ?_
      refine ev_geti (v := nI σ.nQ) 4 rfl 8 5 d60_1 rfl (by omega) (G.1 _ _ (rfl : ai_sp 1 = (8, 0)) (by decide) (by decide)) hX.nQ ?_
      refine ev_if 11 7 (by decide) rfl (c0_ne (by omega)) d60_4 (fun hc_4 => absurd hc_4 (by omega)) (fun hc_4 => ?_)
      refine ev_iconst (v := nI 1) 8 rfl d60_7 (by decide) ?_
      refine ev_goto 12 (by decide) d60_8 ?_
      refine ev_store_i 14 rfl d60_12 ⟨rfl, Nat.le_of_ble_eq_true rfl⟩ rfl ?_
      show ai_Ev _ _ _ [some (.ref 1), some (.int z1), some (.int z2), some (.int z3), some (.int (nI 1)), none] _ _ _
      refine ev_iload 16 rfl d60_14 rfl ?_
      refine ev_if_T 33 (by decide) (by decide) d60_16 ?_
      refine ev_iload_n 34 rfl d60_33 rfl ?_
      refine ev_iconst (v := nI 2) 35 rfl d60_34 (by decide) ?_
      refine ev_icmp 43 38 (by decide) rfl cz_lt d60_35 (fun hc_35 => ?_) (fun hc_35 => ?_)
      · rw [c_F (fun h9 => is_neg (by omega) hn h9.1)]
        try rw [c_T hc_35]
        refine ev_aload_n 44 rfl d60_43 rfl ?_
        refine ev_bipush (v := (-6)) 46 rfl d60_44 (by decide) ?_
        refine ev_cy1 49 rfl 90 d60_46 rfl rfl (by rw [G.1 _ _ (rfl : ai_sp 1 = (8, 0)) (by decide) (by decide)]; rfl) (by omega) rfl (show ai_Ev none 90 0 [some (.ref 1), some (.int (-6)), none] [] (S, I, L, F) _ from by rw [show ((-6) : Int32) = -(nI 6) by decide]; exact x_refuse (I := I) (L := L) (S := S) (F := F) G (k := 6) (by omega)) (fun v_2 I_1 hr_46 => ?_)
        refine ev_iret (Or.inl rfl) d60_49 ?_
        exact px_ref hX (by omega) hr_46
      · exact absurd (neg_lt (by omega) hn) hc_35
  · by_cases hn : (0 : Int32) ≤ z1
    · obtain ⟨n, hnn, rfl⟩ := nn_nI hn
      refine ev_aload_n 1 rfl d60_0 rfl ?_
      refine ev_geti (v := nI σ.nQ) 4 rfl 8 5 d60_1 rfl (by omega) (G.1 _ _ (rfl : ai_sp 1 = (8, 0)) (by decide) (by decide)) hX.nQ ?_
      refine ev_if 11 7 (by decide) rfl (c0_ne (by omega)) d60_4 (fun hc_4 => ?_) (fun hc_4 => absurd hc_4 (by omega))
      refine ev_iconst (v := nI 0) 12 rfl d60_11 (by decide) ?_
      refine ev_store_i 14 rfl d60_12 ⟨rfl, Nat.le_of_ble_eq_true rfl⟩ rfl ?_
      show ai_Ev _ _ _ [some (.ref 1), some (.int (nI n)), some (.int z2), some (.int z3), some (.int (nI 0)), none] _ _ _
      refine ev_iload 16 rfl d60_14 rfl ?_
      refine ev_if_F 33 19 (by decide) rfl (by decide) d60_16 ?_
      refine ev_aload_n 20 rfl d60_19 rfl ?_
      refine ev_iload_n 21 rfl d60_20 rfl ?_
      refine ev_cb1 24 rfl 86 d60_21 rfl rfl (by rw [G.1 _ _ (rfl : ai_sp 1 = (8, 0)) (by decide) (by decide)]; rfl) (by omega) rfl (x_isQuestion G hX hV) (fun hq_21 => ?_) (fun hq_21 => ?_)
      · rw [c_T (Or.inr hq_21)]
        obtain ⟨p, hp, rfl⟩ := hq_21
        refine ev_if_T 33 (by decide) (by decide) d60_24 ?_
        refine ev_iload_n 34 rfl d60_33 rfl ?_
        refine ev_iconst (v := nI 2) 35 rfl d60_34 (by decide) ?_
        refine ev_icmp 43 38 (by decide) rfl (cn_lt (by omega) (by omega)) d60_35 (fun hc_35 => ?_) (fun hc_35 => ?_)
        · rw [c_F (fun h9 => h9.2 (is_T (by omega)))]
          try rw [c_T hc_35]
          refine ev_aload_n 44 rfl d60_43 rfl ?_
          refine ev_bipush (v := (-6)) 46 rfl d60_44 (by decide) ?_
          refine ev_cy1 49 rfl 90 d60_46 rfl rfl (by rw [G.1 _ _ (rfl : ai_sp 1 = (8, 0)) (by decide) (by decide)]; rfl) (by omega) rfl (show ai_Ev none 90 0 [some (.ref 1), some (.int (-6)), none] [] (S, I, L, F) _ from by rw [show ((-6) : Int32) = -(nI 6) by decide]; exact x_refuse (I := I) (L := L) (S := S) (F := F) G (k := 6) (by omega)) (fun v_2 I_1 hr_46 => ?_)
          refine ev_iret (Or.inl rfl) d60_49 ?_
          exact px_ref hX (by omega) hr_46
        · try rw [c_F hc_35]
          refine ev_iload_n 39 rfl d60_38 rfl ?_
          refine ev_iconst (v := nI 4) 40 rfl d60_39 (by decide) ?_
          refine ev_icmp 50 43 (by decide) rfl (cn_le (by omega) (by omega)) d60_40 (fun hc_40 => ?_) (fun hc_40 => ?_)
          · rw [c_T ⟨is_T (by omega), is_F (by omega) (by omega) (by omega)⟩]
            try rw [c_T hc_40]
            refine ev_iload 52 rfl d60_50 rfl ?_
            refine ev_if_T 63 (by decide) (by decide) d60_52 ?_
            refine ev_aload_n 64 rfl d60_63 rfl ?_
            refine ev_iload_n 65 rfl d60_64 rfl ?_
            refine ev_iload_n 66 rfl d60_65 rfl ?_
            refine ev_cb2 69 rfl 87 d60_66 rfl rfl (by rw [G.1 _ _ (rfl : ai_sp 1 = (8, 0)) (by decide) (by decide)]; rfl) (by omega) rfl (x_isAnswerN G hX hV (by omega)) (fun hq_66 => ?_) (fun hq_66 => ?_)
            · have hpa := hV.an p hp
              obtain ⟨w, hw, rfl⟩ := hq_66
              rw [c_T (Or.inr ⟨h0, ⟨p, w, hp, hw, rfl, rfl⟩⟩)]
              
              refine ev_if_T 79 (by decide) (by decide) d60_69 ?_
              refine ev_aload_n 80 rfl d60_79 rfl ?_
              refine ev_geti (v := nI σ.nQ) 83 rfl 8 5 d60_80 rfl (by omega) (G.1 _ _ (rfl : ai_sp 1 = (8, 0)) (by decide) (by decide)) hX.nQ ?_
              refine ev_iconst (v := nI 5) 84 rfl d60_83 (by decide) ?_
              refine ev_icmp 94 87 (by decide) rfl (cn_lt (by omega) (by omega)) d60_84 (fun hc_84 => ?_) (fun hc_84 => ?_)
              · try rw [c_T hc_84]
                simp only [nn_I (show n < 2147483648 by omega)]
                have hpa2 := hV.an p hp
                simp only [nn_I (show p < 2147483648 by omega)]
                simp only [nn_I (show w < 2147483648 by omega)]
                refine ev_aload_n 95 rfl d60_94 rfl ?_
                refine ev_getr 98 rfl 8 1 d60_95 rfl (by omega) (G.1 _ _ (rfl : ai_sp 1 = (8, 0)) (by decide) (by decide)) (G.2 _ _ _ (rfl : ai_rf 1 1 = some 3)) ?_
                refine ev_aload_n 99 rfl d60_98 rfl ?_
                refine ev_geti (v := nI σ.nQ) 102 rfl 8 5 d60_99 rfl (by omega) (G.1 _ _ (rfl : ai_sp 1 = (8, 0)) (by decide) (by decide)) hX.nQ ?_
                refine ev_aald_n 103 rfl d60_102 (by omega) (by decide) (G.1 _ _ (rfl : ai_sp 3 = (105, 5)) (by decide) (by decide)) (by omega) (by decide) (G.2 _ _ _ (rf_question (by omega))) ?_
                refine ev_store_a 105 rfl d60_103 ⟨rfl, Nat.le_of_ble_eq_true rfl⟩ rfl ?_
                show ai_Ev _ _ _ [some (.ref 1), some (.int (nI n)), some (.int (nI p)), some (.int (nI w)), some (.int (nI 0)), some (.ref (71 + σ.nQ))] _ _ _
                refine ev_aload 107 rfl d60_105 rfl ?_
                refine ev_iload_n 108 rfl d60_107 rfl ?_
                obtain ⟨I_1, hI_1⟩ : ∃ z, z = ai_ui I (71 + σ.nQ) 0 (nI n) := ⟨_, rfl⟩
                refine ev_puti (I2 := I_1) 111 rfl 4 0 d60_108 rfl (by omega) (G.1 _ _ (sp_question (by omega)) (by omega) (by omega)) (fun h => absurd h (by decide)) hI_1.symm ?_
                refine ev_aload 113 rfl d60_111 rfl ?_
                refine ev_iload_n 114 rfl d60_113 rfl ?_
                obtain ⟨I_2, hI_2⟩ : ∃ z, z = ai_ui I_1 (71 + σ.nQ) 1 (nI p) := ⟨_, rfl⟩
                refine ev_puti (I2 := I_2) 117 rfl 4 1 d60_114 rfl (by omega) (G.1 _ _ (sp_question (by omega)) (by omega) (by omega)) (fun h => absurd h (by decide)) hI_2.symm ?_
                refine ev_aload 119 rfl d60_117 rfl ?_
                refine ev_iload_n 120 rfl d60_119 rfl ?_
                obtain ⟨I_3, hI_3⟩ : ∃ z, z = ai_ui I_2 (71 + σ.nQ) 2 (nI w) := ⟨_, rfl⟩
                refine ev_puti (I2 := I_3) 123 rfl 4 2 d60_120 rfl (by omega) (G.1 _ _ (sp_question (by omega)) (by omega) (by omega)) (fun h => absurd h (by decide)) hI_3.symm ?_
                refine ev_aload_n 124 rfl d60_123 rfl ?_
                refine ev_dup 125 rfl d60_124 rfl ?_
                refine ev_geti (v := nI σ.nQ) 128 rfl 8 5 d60_125 rfl (by omega) (G.1 _ _ (rfl : ai_sp 1 = (8, 0)) (by decide) (by decide)) (by rw [ui_other hI_3 (by omega), ui_other hI_2 (by omega), ui_other hI_1 (by omega)]; exact hX.nQ) ?_
                refine ev_iconst (v := nI 1) 129 rfl d60_128 (by decide) ?_
                refine ev_iadd (v := nI (σ.nQ + 1)) 130 rfl d60_129 (nI_add _ _) ?_
                obtain ⟨I_4, hI_4⟩ : ∃ z, z = ai_ui I_3 1 5 (nI (σ.nQ + 1)) := ⟨_, rfl⟩
                refine ev_puti (I2 := I_4) 133 rfl 8 5 d60_130 rfl (by omega) (G.1 _ _ (rfl : ai_sp 1 = (8, 0)) (by decide) (by decide)) (fun h => absurd h (by decide)) hI_4.symm ?_
                refine ev_aload_n 134 rfl d60_133 rfl ?_
                refine ev_geti (v := nI (σ.nQ + 1)) 137 rfl 8 5 d60_134 rfl (by omega) (G.1 _ _ (rfl : ai_sp 1 = (8, 0)) (by decide) (by decide)) (ui_same hI_4) ?_
                refine ev_iconst (v := nI 1) 138 rfl d60_137 (by decide) ?_
                refine ev_isub (v := nI σ.nQ) 139 rfl d60_138 (by rw [pk_sub (by omega)]; rfl) ?_
                refine ev_iret (Or.inl rfl) d60_139 ?_
                exact ⟨_, _, rfl, rfl, rx_quest (p := p) (w := w) hX (by omega) (fun _ => ⟨rfl, rfl⟩) (by rw [hI_4, hI_3, hI_2, hI_1]), fun a ha => ⟨by rw [ui_row hI_4 (by omega), ui_row hI_3 (by omega), ui_row hI_2 (by omega), ui_row hI_1 (by omega)], rfl⟩⟩
              · try rw [c_F hc_84]
                refine ev_aload_n 88 rfl d60_87 rfl ?_
                refine ev_bipush (v := (-7)) 90 rfl d60_88 (by decide) ?_
                refine ev_cy1 93 rfl 90 d60_90 rfl rfl (by rw [G.1 _ _ (rfl : ai_sp 1 = (8, 0)) (by decide) (by decide)]; rfl) (by omega) rfl (show ai_Ev none 90 0 [some (.ref 1), some (.int (-7)), none] [] (S, I, L, F) _ from by rw [show ((-7) : Int32) = -(nI 7) by decide]; exact x_refuse (I := I) (L := L) (S := S) (F := F) G (k := 7) (by omega)) (fun v_2 I_1 hr_90 => ?_)
                refine ev_iret (Or.inl rfl) d60_93 ?_
                exact px_ref hX (by omega) hr_90
            · rw [c_F (fun h9 => h9.elim (fun h8 => h0 h8.1) (fun ⟨_, p2, w2, h1, h2, h3, h4⟩ => by
                have e := (nI_eq (by omega) (by have := hV.nQ; omega)).mp h3
                subst e; exact hq_66 ⟨w2, h2, h4⟩))]
              refine ev_if_F 79 72 (by decide) rfl (by decide) d60_69 ?_
              refine ev_aload_n 73 rfl d60_72 rfl ?_
              refine ev_bipush (v := (-6)) 75 rfl d60_73 (by decide) ?_
              refine ev_cy1 78 rfl 90 d60_75 rfl rfl (by rw [G.1 _ _ (rfl : ai_sp 1 = (8, 0)) (by decide) (by decide)]; rfl) (by omega) rfl (show ai_Ev none 90 0 [some (.ref 1), some (.int (-6)), none] [] (S, I, L, F) _ from by rw [show ((-6) : Int32) = -(nI 6) by decide]; exact x_refuse (I := I) (L := L) (S := S) (F := F) G (k := 6) (by omega)) (fun v_2 I_1 hr_75 => ?_)
              refine ev_iret (Or.inl rfl) d60_78 ?_
              exact px_ref hX (by omega) hr_75
          · rw [c_F (fun h9 => is_F (by omega) (by omega) (by omega) h9.1)]
            try rw [c_F hc_40]
            refine ev_aload_n 44 rfl d60_43 rfl ?_
            refine ev_bipush (v := (-6)) 46 rfl d60_44 (by decide) ?_
            refine ev_cy1 49 rfl 90 d60_46 rfl rfl (by rw [G.1 _ _ (rfl : ai_sp 1 = (8, 0)) (by decide) (by decide)]; rfl) (by omega) rfl (show ai_Ev none 90 0 [some (.ref 1), some (.int (-6)), none] [] (S, I, L, F) _ from by rw [show ((-6) : Int32) = -(nI 6) by decide]; exact x_refuse (I := I) (L := L) (S := S) (F := F) G (k := 6) (by omega)) (fun v_2 I_1 hr_46 => ?_)
            refine ev_iret (Or.inl rfl) d60_49 ?_
            exact px_ref hX (by omega) hr_46
      · rw [c_F (fun h9 => h9.elim h0 hq_21)]
        refine ev_if_F 33 27 (by decide) rfl (by decide) d60_24 ?_
        refine ev_aload_n 28 rfl d60_27 rfl ?_
        refine ev_iconst (v := (-1)) 29 rfl d60_28 (by decide) ?_
        refine ev_cy1 32 rfl 90 d60_29 rfl rfl (by rw [G.1 _ _ (rfl : ai_sp 1 = (8, 0)) (by decide) (by decide)]; rfl) (by omega) rfl (show ai_Ev none 90 0 [some (.ref 1), some (.int (-1)), none] [] (S, I, L, F) _ from by rw [show ((-1) : Int32) = -(nI 1) by decide]; exact x_refuse (I := I) (L := L) (S := S) (F := F) G (k := 1) (by omega)) (fun v_2 I_1 hr_29 => ?_)
        refine ev_iret (Or.inl rfl) d60_32 ?_
        exact px_ref hX (by omega) hr_29
    · skip
      refine ev_aload_n 1 rfl d60_0 rfl ?_
      refine ev_geti (v := nI σ.nQ) 4 rfl 8 5 d60_1 rfl (by omega) (G.1 _ _ (rfl : ai_sp 1 = (8, 0)) (by decide) (by decide)) hX.nQ ?_
      refine ev_if 11 7 (by decide) rfl (c0_ne (by omega)) d60_4 (fun hc_4 => ?_) (fun hc_4 => absurd hc_4 (by omega))
      refine ev_iconst (v := nI 0) 12 rfl d60_11 (by decide) ?_
      refine ev_store_i 14 rfl d60_12 ⟨rfl, Nat.le_of_ble_eq_true rfl⟩ rfl ?_
      show ai_Ev _ _ _ [some (.ref 1), some (.int z1), some (.int z2), some (.int z3), some (.int (nI 0)), none] _ _ _
      refine ev_iload 16 rfl d60_14 rfl ?_
      refine ev_if_F 33 19 (by decide) rfl (by decide) d60_16 ?_
      refine ev_aload_n 20 rfl d60_19 rfl ?_
      refine ev_iload_n 21 rfl d60_20 rfl ?_
      refine ev_cb1 24 rfl 86 d60_21 rfl rfl (by rw [G.1 _ _ (rfl : ai_sp 1 = (8, 0)) (by decide) (by decide)]; rfl) (by omega) rfl (x_isQuestion G hX hV) (fun hq_21 => ?_) (fun hq_21 => ?_)
      · rw [c_T (Or.inr hq_21)]
        obtain ⟨p, hp, rfl⟩ := hq_21
        refine ev_if_T 33 (by decide) (by decide) d60_24 ?_
        refine ev_iload_n 34 rfl d60_33 rfl ?_
        refine ev_iconst (v := nI 2) 35 rfl d60_34 (by decide) ?_
        refine ev_icmp 43 38 (by decide) rfl cz_lt d60_35 (fun hc_35 => ?_) (fun hc_35 => ?_)
        · rw [c_F (fun h9 => is_neg (by omega) hn h9.1)]
          try rw [c_T hc_35]
          refine ev_aload_n 44 rfl d60_43 rfl ?_
          refine ev_bipush (v := (-6)) 46 rfl d60_44 (by decide) ?_
          refine ev_cy1 49 rfl 90 d60_46 rfl rfl (by rw [G.1 _ _ (rfl : ai_sp 1 = (8, 0)) (by decide) (by decide)]; rfl) (by omega) rfl (show ai_Ev none 90 0 [some (.ref 1), some (.int (-6)), none] [] (S, I, L, F) _ from by rw [show ((-6) : Int32) = -(nI 6) by decide]; exact x_refuse (I := I) (L := L) (S := S) (F := F) G (k := 6) (by omega)) (fun v_2 I_1 hr_46 => ?_)
          refine ev_iret (Or.inl rfl) d60_49 ?_
          exact px_ref hX (by omega) hr_46
        · exact absurd (neg_lt (by omega) hn) hc_35
      · rw [c_F (fun h9 => h9.elim h0 hq_21)]
        refine ev_if_F 33 27 (by decide) rfl (by decide) d60_24 ?_
        refine ev_aload_n 28 rfl d60_27 rfl ?_
        refine ev_iconst (v := (-1)) 29 rfl d60_28 (by decide) ?_
        refine ev_cy1 32 rfl 90 d60_29 rfl rfl (by rw [G.1 _ _ (rfl : ai_sp 1 = (8, 0)) (by decide) (by decide)]; rfl) (by omega) rfl (show ai_Ev none 90 0 [some (.ref 1), some (.int (-1)), none] [] (S, I, L, F) _ from by rw [show ((-1) : Int32) = -(nI 1) by decide]; exact x_refuse (I := I) (L := L) (S := S) (F := F) G (k := 1) (by omega)) (fun v_2 I_1 hr_29 => ?_)
        refine ev_iret (Or.inl rfl) d60_32 ?_
        exact px_ref hX (by omega) hr_29
theorem x_bar (G : ai_G S F) (hX : ai_RX σ I L) (hV : ai_IV σ) {z1 z2 : Int32} : ai_Ev none 68 0 [some (.ref 1), some (.int z1), some (.int z2)] [] (S, I, L, F) (ai_PX S F I L (o_bar σ z1 z2)) := by
  have hnT := hV.nT
  have hnQ := hV.nQ
  have hnJ := hV.nJ
  unfold o_bar
  by_cases hn : (0 : Int32) ≤ z2
  · obtain ⟨n, hnn, rfl⟩ := nn_nI hn
    refine ev_iload_n 1 rfl d68_0 rfl ?_
    refine ev_if 23 4 (by decide) rfl cz_ne d68_1 (fun hc_1 => ?_) (fun hc_1 => ?_)
    · rw [c_F (fun h9 => hc_1 h9.1)]
      refine ev_iload_n 24 rfl d68_23 rfl ?_
      refine ev_iconst (v := nI 1) 25 rfl d68_24 (by decide) ?_
      refine ev_icmp 46 28 (by decide) rfl cz_ne d68_25 (fun hc_25 => ?_) (fun hc_25 => ?_)
      · rw [c_F (fun h9 => hc_25 h9.1)]
        refine ev_iload_n 47 rfl d68_46 rfl ?_
        refine ev_iconst (v := nI 2) 48 rfl d68_47 (by decide) ?_
        refine ev_icmp 68 51 (by decide) rfl cz_ne d68_48 (fun hc_48 => ?_) (fun hc_48 => ?_)
        · rw [c_F (fun h9 => hc_48 h9.1)]
          try rw [c_F (fun h => absurd h.1 (by decide))]
          try rw [c_F (fun h => absurd h.1 (by decide))]
          refine ev_aload_n 69 rfl d68_68 rfl ?_
          refine ev_bipush (v := (-6)) 71 rfl d68_69 (by decide) ?_
          refine ev_cy1 74 rfl 90 d68_71 rfl rfl (by rw [G.1 _ _ (rfl : ai_sp 1 = (8, 0)) (by decide) (by decide)]; rfl) (by omega) rfl (show ai_Ev none 90 0 [some (.ref 1), some (.int (-6)), none] [] (S, I, L, F) _ from by rw [show ((-6) : Int32) = -(nI 6) by decide]; exact x_refuse (I := I) (L := L) (S := S) (F := F) G (k := 6) (by omega)) (fun v_2 I_1 hr_71 => ?_)
          refine ev_iret (Or.inl rfl) d68_74 ?_
          exact px_ref hX (by omega) hr_71
        · have e1 : z1 = nI 2 := Classical.not_not.mp hc_48
          subst e1
          refine ev_iload_n 52 rfl d68_51 rfl ?_
          refine ev_if_F 68 55 (by decide) rfl (c0_ltF (by omega)) d68_52 ?_
          refine ev_iload_n 56 rfl d68_55 rfl ?_
          refine ev_bipush (v := nI 100) 58 rfl d68_56 (by decide) ?_
          refine ev_icmp 68 61 (by decide) rfl (cn_gt (by omega) (by omega)) d68_58 (fun hc_58 => ?_) (fun hc_58 => ?_)
          · rw [c_F (fun h9 => is_F (by omega) (by omega) (by omega) h9.2)]
            try rw [c_F (fun h => absurd h.1 (by decide))]
            try rw [c_F (fun h => absurd h.1 (by decide))]
            refine ev_aload_n 69 rfl d68_68 rfl ?_
            refine ev_bipush (v := (-6)) 71 rfl d68_69 (by decide) ?_
            refine ev_cy1 74 rfl 90 d68_71 rfl rfl (by rw [G.1 _ _ (rfl : ai_sp 1 = (8, 0)) (by decide) (by decide)]; rfl) (by omega) rfl (show ai_Ev none 90 0 [some (.ref 1), some (.int (-6)), none] [] (S, I, L, F) _ from by rw [show ((-6) : Int32) = -(nI 6) by decide]; exact x_refuse (I := I) (L := L) (S := S) (F := F) G (k := 6) (by omega)) (fun v_2 I_1 hr_71 => ?_)
            refine ev_iret (Or.inl rfl) d68_74 ?_
            exact px_ref hX (by omega) hr_71
          · rw [c_T ⟨rfl, is_T (by omega)⟩]
            simp only [nn_I (show n < 2147483648 by omega)]
            refine ev_aload_n 62 rfl d68_61 rfl ?_
            refine ev_iload_n 63 rfl d68_62 rfl ?_
            obtain ⟨I_1, hI_1⟩ : ∃ z, z = ai_ui I 1 9 (nI n) := ⟨_, rfl⟩
            refine ev_puti (I2 := I_1) 66 rfl 8 9 d68_63 rfl (by omega) (G.1 _ _ (rfl : ai_sp 1 = (8, 0)) (by decide) (by decide)) (fun h => absurd h (by decide)) hI_1.symm ?_
            refine ev_iconst (v := nI 1) 67 rfl d68_66 (by decide) ?_
            refine ev_iret (Or.inl rfl) d68_67 ?_
            exact ⟨_, _, rfl, rfl, rx_haste hX hI_1, fun a ha => ⟨by rw [ui_row hI_1 (by omega)], rfl⟩⟩
      · have e1 : z1 = nI 1 := Classical.not_not.mp hc_25
        subst e1
        refine ev_iload_n 29 rfl d68_28 rfl ?_
        refine ev_iconst (v := nI 1) 30 rfl d68_29 (by decide) ?_
        refine ev_icmp 46 33 (by decide) rfl (cn_lt (by omega) (by omega)) d68_30 (fun hc_30 => ?_) (fun hc_30 => ?_)
        · rw [c_F (fun h9 => h9.2.2 (by rw [show n = 0 by omega]))]
          refine ev_iload_n 47 rfl d68_46 rfl ?_
          refine ev_iconst (v := nI 2) 48 rfl d68_47 (by decide) ?_
          refine ev_icmp_T 68 (by decide) (by decide) d68_48 ?_
          try rw [c_F (fun h => absurd h.1 (by decide))]
          try rw [c_F (fun h => absurd h.1 (by decide))]
          refine ev_aload_n 69 rfl d68_68 rfl ?_
          refine ev_bipush (v := (-6)) 71 rfl d68_69 (by decide) ?_
          refine ev_cy1 74 rfl 90 d68_71 rfl rfl (by rw [G.1 _ _ (rfl : ai_sp 1 = (8, 0)) (by decide) (by decide)]; rfl) (by omega) rfl (show ai_Ev none 90 0 [some (.ref 1), some (.int (-6)), none] [] (S, I, L, F) _ from by rw [show ((-6) : Int32) = -(nI 6) by decide]; exact x_refuse (I := I) (L := L) (S := S) (F := F) G (k := 6) (by omega)) (fun v_2 I_1 hr_71 => ?_)
          refine ev_iret (Or.inl rfl) d68_74 ?_
          exact px_ref hX (by omega) hr_71
        · refine ev_iload_n 34 rfl d68_33 rfl ?_
          refine ev_bipush (v := nI 24) 36 rfl d68_34 (by decide) ?_
          refine ev_icmp 46 39 (by decide) rfl (cn_gt (by omega) (by omega)) d68_36 (fun hc_36 => ?_) (fun hc_36 => ?_)
          · rw [c_F (fun h9 => is_F (by omega) (by omega) (by omega) h9.2.1)]
            refine ev_iload_n 47 rfl d68_46 rfl ?_
            refine ev_iconst (v := nI 2) 48 rfl d68_47 (by decide) ?_
            refine ev_icmp_T 68 (by decide) (by decide) d68_48 ?_
            try rw [c_F (fun h => absurd h.1 (by decide))]
            try rw [c_F (fun h => absurd h.1 (by decide))]
            refine ev_aload_n 69 rfl d68_68 rfl ?_
            refine ev_bipush (v := (-6)) 71 rfl d68_69 (by decide) ?_
            refine ev_cy1 74 rfl 90 d68_71 rfl rfl (by rw [G.1 _ _ (rfl : ai_sp 1 = (8, 0)) (by decide) (by decide)]; rfl) (by omega) rfl (show ai_Ev none 90 0 [some (.ref 1), some (.int (-6)), none] [] (S, I, L, F) _ from by rw [show ((-6) : Int32) = -(nI 6) by decide]; exact x_refuse (I := I) (L := L) (S := S) (F := F) G (k := 6) (by omega)) (fun v_2 I_1 hr_71 => ?_)
            refine ev_iret (Or.inl rfl) d68_74 ?_
            exact px_ref hX (by omega) hr_71
          · rw [c_T ⟨rfl, is_T (by omega), (fun h9 => by have := (nI_eq (by omega) (by omega)).mp h9; omega)⟩]
            simp only [nn_I (show n < 2147483648 by omega)]
            refine ev_aload_n 40 rfl d68_39 rfl ?_
            refine ev_iload_n 41 rfl d68_40 rfl ?_
            obtain ⟨I_1, hI_1⟩ : ∃ z, z = ai_ui I 1 8 (nI n) := ⟨_, rfl⟩
            refine ev_puti (I2 := I_1) 44 rfl 8 8 d68_41 rfl (by omega) (G.1 _ _ (rfl : ai_sp 1 = (8, 0)) (by decide) (by decide)) (fun h => absurd h (by decide)) hI_1.symm ?_
            refine ev_iconst (v := nI 1) 45 rfl d68_44 (by decide) ?_
            refine ev_iret (Or.inl rfl) d68_45 ?_
            exact ⟨_, _, rfl, rfl, rx_look hX hI_1, fun a ha => ⟨by rw [ui_row hI_1 (by omega)], rfl⟩⟩
    · have e1 : z1 = nI 0 := Classical.not_not.mp hc_1
      subst e1
      refine ev_iload_n 5 rfl d68_4 rfl ?_
      refine ev_iconst (v := nI 1) 6 rfl d68_5 (by decide) ?_
      refine ev_icmp 23 9 (by decide) rfl (cn_lt (by omega) (by omega)) d68_6 (fun hc_6 => ?_) (fun hc_6 => ?_)
      · rw [c_F (fun h9 => h9.2.2 (by rw [show n = 0 by omega]))]
        refine ev_iload_n 24 rfl d68_23 rfl ?_
        refine ev_iconst (v := nI 1) 25 rfl d68_24 (by decide) ?_
        refine ev_icmp_T 46 (by decide) (by decide) d68_25 ?_
        refine ev_iload_n 47 rfl d68_46 rfl ?_
        refine ev_iconst (v := nI 2) 48 rfl d68_47 (by decide) ?_
        refine ev_icmp_T 68 (by decide) (by decide) d68_48 ?_
        try rw [c_F (fun h => absurd h.1 (by decide))]
        try rw [c_F (fun h => absurd h.1 (by decide))]
        refine ev_aload_n 69 rfl d68_68 rfl ?_
        refine ev_bipush (v := (-6)) 71 rfl d68_69 (by decide) ?_
        refine ev_cy1 74 rfl 90 d68_71 rfl rfl (by rw [G.1 _ _ (rfl : ai_sp 1 = (8, 0)) (by decide) (by decide)]; rfl) (by omega) rfl (show ai_Ev none 90 0 [some (.ref 1), some (.int (-6)), none] [] (S, I, L, F) _ from by rw [show ((-6) : Int32) = -(nI 6) by decide]; exact x_refuse (I := I) (L := L) (S := S) (F := F) G (k := 6) (by omega)) (fun v_2 I_1 hr_71 => ?_)
        refine ev_iret (Or.inl rfl) d68_74 ?_
        exact px_ref hX (by omega) hr_71
      · refine ev_iload_n 10 rfl d68_9 rfl ?_
        refine ev_sipush (v := nI 1000) 13 rfl d68_10 (by decide) ?_
        refine ev_icmp 23 16 (by decide) rfl (cn_gt (by omega) (by omega)) d68_13 (fun hc_13 => ?_) (fun hc_13 => ?_)
        · rw [c_F (fun h9 => is_F (by omega) (by omega) (by omega) h9.2.1)]
          refine ev_iload_n 24 rfl d68_23 rfl ?_
          refine ev_iconst (v := nI 1) 25 rfl d68_24 (by decide) ?_
          refine ev_icmp_T 46 (by decide) (by decide) d68_25 ?_
          refine ev_iload_n 47 rfl d68_46 rfl ?_
          refine ev_iconst (v := nI 2) 48 rfl d68_47 (by decide) ?_
          refine ev_icmp_T 68 (by decide) (by decide) d68_48 ?_
          try rw [c_F (fun h => absurd h.1 (by decide))]
          try rw [c_F (fun h => absurd h.1 (by decide))]
          refine ev_aload_n 69 rfl d68_68 rfl ?_
          refine ev_bipush (v := (-6)) 71 rfl d68_69 (by decide) ?_
          refine ev_cy1 74 rfl 90 d68_71 rfl rfl (by rw [G.1 _ _ (rfl : ai_sp 1 = (8, 0)) (by decide) (by decide)]; rfl) (by omega) rfl (show ai_Ev none 90 0 [some (.ref 1), some (.int (-6)), none] [] (S, I, L, F) _ from by rw [show ((-6) : Int32) = -(nI 6) by decide]; exact x_refuse (I := I) (L := L) (S := S) (F := F) G (k := 6) (by omega)) (fun v_2 I_1 hr_71 => ?_)
          refine ev_iret (Or.inl rfl) d68_74 ?_
          exact px_ref hX (by omega) hr_71
        · rw [c_T ⟨rfl, is_T (by omega), (fun h9 => by have := (nI_eq (by omega) (by omega)).mp h9; omega)⟩]
          simp only [nn_I (show n < 2147483648 by omega)]
          refine ev_aload_n 17 rfl d68_16 rfl ?_
          refine ev_iload_n 18 rfl d68_17 rfl ?_
          obtain ⟨I_1, hI_1⟩ : ∃ z, z = ai_ui I 1 7 (nI n) := ⟨_, rfl⟩
          refine ev_puti (I2 := I_1) 21 rfl 8 7 d68_18 rfl (by omega) (G.1 _ _ (rfl : ai_sp 1 = (8, 0)) (by decide) (by decide)) (fun h => absurd h (by decide)) hI_1.symm ?_
          refine ev_iconst (v := nI 1) 22 rfl d68_21 (by decide) ?_
          refine ev_iret (Or.inl rfl) d68_22 ?_
          exact ⟨_, _, rfl, rfl, rx_mark hX hI_1, fun a ha => ⟨by rw [ui_row hI_1 (by omega)], rfl⟩⟩
  · skip
    refine ev_iload_n 1 rfl d68_0 rfl ?_
    refine ev_if 23 4 (by decide) rfl cz_ne d68_1 (fun hc_1 => ?_) (fun hc_1 => ?_)
    · rw [c_F (fun h9 => hc_1 h9.1)]
      refine ev_iload_n 24 rfl d68_23 rfl ?_
      refine ev_iconst (v := nI 1) 25 rfl d68_24 (by decide) ?_
      refine ev_icmp 46 28 (by decide) rfl cz_ne d68_25 (fun hc_25 => ?_) (fun hc_25 => ?_)
      · rw [c_F (fun h9 => hc_25 h9.1)]
        refine ev_iload_n 47 rfl d68_46 rfl ?_
        refine ev_iconst (v := nI 2) 48 rfl d68_47 (by decide) ?_
        refine ev_icmp 68 51 (by decide) rfl cz_ne d68_48 (fun hc_48 => ?_) (fun hc_48 => ?_)
        · rw [c_F (fun h9 => hc_48 h9.1)]
          try rw [c_F (fun h => absurd h.1 (by decide))]
          try rw [c_F (fun h => absurd h.1 (by decide))]
          refine ev_aload_n 69 rfl d68_68 rfl ?_
          refine ev_bipush (v := (-6)) 71 rfl d68_69 (by decide) ?_
          refine ev_cy1 74 rfl 90 d68_71 rfl rfl (by rw [G.1 _ _ (rfl : ai_sp 1 = (8, 0)) (by decide) (by decide)]; rfl) (by omega) rfl (show ai_Ev none 90 0 [some (.ref 1), some (.int (-6)), none] [] (S, I, L, F) _ from by rw [show ((-6) : Int32) = -(nI 6) by decide]; exact x_refuse (I := I) (L := L) (S := S) (F := F) G (k := 6) (by omega)) (fun v_2 I_1 hr_71 => ?_)
          refine ev_iret (Or.inl rfl) d68_74 ?_
          exact px_ref hX (by omega) hr_71
        · have e1 : z1 = nI 2 := Classical.not_not.mp hc_48
          subst e1
          refine ev_iload_n 52 rfl d68_51 rfl ?_
          refine ev_if 68 55 (by decide) rfl cz_lt d68_52 (fun hc_52 => ?_) (fun hc_52 => ?_)
          · rw [c_F (fun h9 => is_neg (by omega) hn h9.2)]
            try rw [c_F (fun h => absurd h.1 (by decide))]
            try rw [c_F (fun h => absurd h.1 (by decide))]
            refine ev_aload_n 69 rfl d68_68 rfl ?_
            refine ev_bipush (v := (-6)) 71 rfl d68_69 (by decide) ?_
            refine ev_cy1 74 rfl 90 d68_71 rfl rfl (by rw [G.1 _ _ (rfl : ai_sp 1 = (8, 0)) (by decide) (by decide)]; rfl) (by omega) rfl (show ai_Ev none 90 0 [some (.ref 1), some (.int (-6)), none] [] (S, I, L, F) _ from by rw [show ((-6) : Int32) = -(nI 6) by decide]; exact x_refuse (I := I) (L := L) (S := S) (F := F) G (k := 6) (by omega)) (fun v_2 I_1 hr_71 => ?_)
            refine ev_iret (Or.inl rfl) d68_74 ?_
            exact px_ref hX (by omega) hr_71
          · exact absurd (Int32.not_lt.mp hc_52) hn
      · have e1 : z1 = nI 1 := Classical.not_not.mp hc_25
        subst e1
        refine ev_iload_n 29 rfl d68_28 rfl ?_
        refine ev_iconst (v := nI 1) 30 rfl d68_29 (by decide) ?_
        refine ev_icmp 46 33 (by decide) rfl cz_lt d68_30 (fun hc_30 => ?_) (fun hc_30 => ?_)
        · rw [c_F (fun h9 => is_neg (by omega) hn h9.2.1)]
          refine ev_iload_n 47 rfl d68_46 rfl ?_
          refine ev_iconst (v := nI 2) 48 rfl d68_47 (by decide) ?_
          refine ev_icmp_T 68 (by decide) (by decide) d68_48 ?_
          try rw [c_F (fun h => absurd h.1 (by decide))]
          try rw [c_F (fun h => absurd h.1 (by decide))]
          refine ev_aload_n 69 rfl d68_68 rfl ?_
          refine ev_bipush (v := (-6)) 71 rfl d68_69 (by decide) ?_
          refine ev_cy1 74 rfl 90 d68_71 rfl rfl (by rw [G.1 _ _ (rfl : ai_sp 1 = (8, 0)) (by decide) (by decide)]; rfl) (by omega) rfl (show ai_Ev none 90 0 [some (.ref 1), some (.int (-6)), none] [] (S, I, L, F) _ from by rw [show ((-6) : Int32) = -(nI 6) by decide]; exact x_refuse (I := I) (L := L) (S := S) (F := F) G (k := 6) (by omega)) (fun v_2 I_1 hr_71 => ?_)
          refine ev_iret (Or.inl rfl) d68_74 ?_
          exact px_ref hX (by omega) hr_71
        · exact absurd (neg_lt (by omega) hn) hc_30
    · have e1 : z1 = nI 0 := Classical.not_not.mp hc_1
      subst e1
      refine ev_iload_n 5 rfl d68_4 rfl ?_
      refine ev_iconst (v := nI 1) 6 rfl d68_5 (by decide) ?_
      refine ev_icmp 23 9 (by decide) rfl cz_lt d68_6 (fun hc_6 => ?_) (fun hc_6 => ?_)
      · rw [c_F (fun h9 => is_neg (by omega) hn h9.2.1)]
        refine ev_iload_n 24 rfl d68_23 rfl ?_
        refine ev_iconst (v := nI 1) 25 rfl d68_24 (by decide) ?_
        refine ev_icmp_T 46 (by decide) (by decide) d68_25 ?_
        refine ev_iload_n 47 rfl d68_46 rfl ?_
        refine ev_iconst (v := nI 2) 48 rfl d68_47 (by decide) ?_
        refine ev_icmp_T 68 (by decide) (by decide) d68_48 ?_
        try rw [c_F (fun h => absurd h.1 (by decide))]
        try rw [c_F (fun h => absurd h.1 (by decide))]
        refine ev_aload_n 69 rfl d68_68 rfl ?_
        refine ev_bipush (v := (-6)) 71 rfl d68_69 (by decide) ?_
        refine ev_cy1 74 rfl 90 d68_71 rfl rfl (by rw [G.1 _ _ (rfl : ai_sp 1 = (8, 0)) (by decide) (by decide)]; rfl) (by omega) rfl (show ai_Ev none 90 0 [some (.ref 1), some (.int (-6)), none] [] (S, I, L, F) _ from by rw [show ((-6) : Int32) = -(nI 6) by decide]; exact x_refuse (I := I) (L := L) (S := S) (F := F) G (k := 6) (by omega)) (fun v_2 I_1 hr_71 => ?_)
        refine ev_iret (Or.inl rfl) d68_74 ?_
        exact px_ref hX (by omega) hr_71
      · exact absurd (neg_lt (by omega) hn) hc_6
end XPUB2
