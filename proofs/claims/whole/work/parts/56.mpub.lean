section MPUB
variable {S : List (Nat × Nat)} {F : Nat → Nat → Option Nat} {L : Nat → Nat → Int64} {I : Nat → Nat → Int32} {σ : ai_S}
theorem m_things (G : ai_G S F) (hM : ai_RM σ I L) (hV : ai_IV σ) {z1 : Int32} : ai_Ev none 131 0 [some (.ref 572), some (.int z1)] [] (S, I, L, F) (ai_PM S F I L (o_things σ z1)) := by
  have hnT := hV.nT
  have hnQ := hV.nQ
  have hnJ := hV.nJ
  unfold o_things
  refine ev_iload_n 1 rfl d131_0 rfl ?_
  refine ev_if 11 4 (by decide) rfl cz_ge d131_1 (fun hc_1 => ?_) (fun hc_1 => ?_)
  · rw [c_F (Int32.not_lt.mpr hc_1)]
    try rw [c_T hc_1]
    obtain ⟨n, hn, rfl⟩ := nn_nI ( hc_1)
    refine ev_iload_n 12 rfl d131_11 rfl ?_
    refine ev_bipush (v := nI 40) 14 rfl d131_12 (by decide) ?_
    refine ev_aload_n 15 rfl d131_14 rfl ?_
    refine ev_geti (v := nI σ.nT) 18 rfl 9 5 d131_15 rfl (by omega) (G.1 _ _ (rfl : ai_sp 572 = (9, 0)) (by decide) (by decide)) hM.nT ?_
    refine ev_isub (v := nI (40 - σ.nT)) 19 rfl d131_18 (pk_sub (by omega)) ?_
    refine ev_icmp 29 22 (by decide) rfl (cn_le (by omega) (by omega)) d131_19 (fun hc_19 => ?_) (fun hc_19 => ?_)
    · rw [c_T (is_T (by omega))]
      simp only [nn_I (show n < 2147483648 by omega)]
      try rw [c_T hc_19]
      refine ev_aload_n 30 rfl d131_29 rfl ?_
      refine ev_dup 31 rfl d131_30 rfl ?_
      refine ev_geti (v := nI σ.nT) 34 rfl 9 5 d131_31 rfl (by omega) (G.1 _ _ (rfl : ai_sp 572 = (9, 0)) (by decide) (by decide)) hM.nT ?_
      refine ev_iload_n 35 rfl d131_34 rfl ?_
      refine ev_iadd (v := nI (σ.nT + n)) 36 rfl d131_35 (nI_add _ _) ?_
      obtain ⟨I_1, hI_1⟩ : ∃ z, z = ai_ui I 572 5 (nI (σ.nT + n)) := ⟨_, rfl⟩
      refine ev_puti (I2 := I_1) 39 rfl 9 5 d131_36 rfl (by omega) (G.1 _ _ (rfl : ai_sp 572 = (9, 0)) (by decide) (by decide)) (fun h => absurd h (by decide)) hI_1.symm ?_
      refine ev_aload_n 40 rfl d131_39 rfl ?_
      refine ev_geti (v := nI (σ.nT + n)) 43 rfl 9 5 d131_40 rfl (by omega) (G.1 _ _ (rfl : ai_sp 572 = (9, 0)) (by decide) (by decide)) (ui_same hI_1) ?_
      refine ev_iret (Or.inl rfl) d131_43 ?_
      exact ⟨_, _, rfl, rfl, rm_things hM hI_1, fun a ha => ⟨by rw [ui_row hI_1 (by omega)], rfl⟩⟩
    · rw [c_F (is_F (by omega) (by omega) (by omega))]
      try rw [c_F hc_19]
      refine ev_aload_n 23 rfl d131_22 rfl ?_
      refine ev_bipush (v := (-7)) 25 rfl d131_23 (by decide) ?_
      refine ev_cy1 28 rfl 115 d131_25 rfl rfl (by rw [G.1 _ _ (rfl : ai_sp 572 = (9, 0)) (by decide) (by decide)]; rfl) (by omega) rfl (show ai_Ev none 115 0 [some (.ref 572), some (.int (-7))] [] (S, I, L, F) _ from by rw [show ((-7) : Int32) = -(nI 7) by decide]; exact m_refuse (I := I) (L := L) (S := S) (F := F) G (k := 7) (by omega)) (fun v_2 I_1 hr_25 => ?_)
      refine ev_iret (Or.inl rfl) d131_28 ?_
      exact pm_ref hM (by omega) hr_25
  · rw [c_T (Int32.not_le.mp hc_1)]
    try rw [c_F hc_1]
    refine ev_aload_n 5 rfl d131_4 rfl ?_
    refine ev_bipush (v := (-4)) 7 rfl d131_5 (by decide) ?_
    refine ev_cy1 10 rfl 115 d131_7 rfl rfl (by rw [G.1 _ _ (rfl : ai_sp 572 = (9, 0)) (by decide) (by decide)]; rfl) (by omega) rfl (show ai_Ev none 115 0 [some (.ref 572), some (.int (-4))] [] (S, I, L, F) _ from by rw [show ((-4) : Int32) = -(nI 4) by decide]; exact m_refuse (I := I) (L := L) (S := S) (F := F) G (k := 4) (by omega)) (fun v_2 I_1 hr_7 => ?_)
    refine ev_iret (Or.inl rfl) d131_10 ?_
    exact pm_ref hM (by omega) hr_7
theorem m_judge (G : ai_G S F) (hM : ai_RM σ I L) (hV : ai_IV σ)  : ai_Ev none 132 0 [some (.ref 572)] [] (S, I, L, F) (ai_PM S F I L (o_judge σ)) := by
  have hnT := hV.nT
  have hnQ := hV.nQ
  have hnJ := hV.nJ
  unfold o_judge
  refine ev_aload_n 1 rfl d132_0 rfl ?_
  refine ev_geti (v := nI σ.nJ) 4 rfl 9 7 d132_1 rfl (by omega) (G.1 _ _ (rfl : ai_sp 572 = (9, 0)) (by decide) (by decide)) hM.nJ ?_
  refine ev_bipush (v := nI 24) 6 rfl d132_4 (by decide) ?_
  refine ev_icmp 16 9 (by decide) rfl (cn_ne (by omega) (by omega)) d132_6 (fun hc_6 => ?_) (fun hc_6 => ?_)
  · rw [c_T (show σ.nJ < 24 by omega)]
    try rw [c_T hc_6]
    refine ev_aload_n 17 rfl d132_16 rfl ?_
    refine ev_dup 18 rfl d132_17 rfl ?_
    refine ev_geti (v := nI σ.nJ) 21 rfl 9 7 d132_18 rfl (by omega) (G.1 _ _ (rfl : ai_sp 572 = (9, 0)) (by decide) (by decide)) hM.nJ ?_
    refine ev_iconst (v := nI 1) 22 rfl d132_21 (by decide) ?_
    refine ev_iadd (v := nI (σ.nJ + 1)) 23 rfl d132_22 (nI_add _ _) ?_
    obtain ⟨I_1, hI_1⟩ : ∃ z, z = ai_ui I 572 7 (nI (σ.nJ + 1)) := ⟨_, rfl⟩
    refine ev_puti (I2 := I_1) 26 rfl 9 7 d132_23 rfl (by omega) (G.1 _ _ (rfl : ai_sp 572 = (9, 0)) (by decide) (by decide)) (fun h => absurd h (by decide)) hI_1.symm ?_
    refine ev_aload_n 27 rfl d132_26 rfl ?_
    refine ev_iconst (v := nI 1) 28 rfl d132_27 (by decide) ?_
    obtain ⟨I_2, hI_2⟩ : ∃ z, z = ai_ui I_1 572 20 (nI 1) := ⟨_, rfl⟩
    refine ev_puti (I2 := I_2) 31 rfl 9 20 d132_28 rfl (by omega) (G.1 _ _ (rfl : ai_sp 572 = (9, 0)) (by decide) (by decide)) (fun _ => Or.inr (by decide)) hI_2.symm ?_
    refine ev_aload_n 32 rfl d132_31 rfl ?_
    refine ev_geti (v := nI (σ.nJ + 1)) 35 rfl 9 7 d132_32 rfl (by omega) (G.1 _ _ (rfl : ai_sp 572 = (9, 0)) (by decide) (by decide)) (by rw [ui_other hI_2 (by omega)]; exact ui_same hI_1) ?_
    refine ev_iconst (v := nI 1) 36 rfl d132_35 (by decide) ?_
    refine ev_isub (v := nI σ.nJ) 37 rfl d132_36 (by rw [pk_sub (by omega)]; rfl) ?_
    refine ev_iret (Or.inl rfl) d132_37 ?_
    exact ⟨_, _, rfl, rfl, rm_judge hM (by rw [hI_2, hI_1]), fun a ha => ⟨by rw [ui_row hI_2 (by omega), ui_row hI_1 (by omega)], rfl⟩⟩
  · rw [c_F (show ¬ σ.nJ < 24 by omega)]
    try rw [c_F hc_6]
    refine ev_aload_n 10 rfl d132_9 rfl ?_
    refine ev_bipush (v := (-7)) 12 rfl d132_10 (by decide) ?_
    refine ev_cy1 15 rfl 115 d132_12 rfl rfl (by rw [G.1 _ _ (rfl : ai_sp 572 = (9, 0)) (by decide) (by decide)]; rfl) (by omega) rfl (show ai_Ev none 115 0 [some (.ref 572), some (.int (-7))] [] (S, I, L, F) _ from by rw [show ((-7) : Int32) = -(nI 7) by decide]; exact m_refuse (I := I) (L := L) (S := S) (F := F) G (k := 7) (by omega)) (fun v_2 I_1 hr_12 => ?_)
    refine ev_iret (Or.inl rfl) d132_15 ?_
    exact pm_ref hM (by omega) hr_12
theorem m_holds (G : ai_G S F) (hM : ai_RM σ I L) (hV : ai_IV σ) {z1 : Int32} : ai_Ev none 124 0 [some (.ref 572), some (.int z1)] [] (S, I, L, F) (ai_PM S F I L (o_holds σ z1)) := by
  have hnT := hV.nT
  have hnQ := hV.nQ
  have hnJ := hV.nJ
  unfold o_holds
  refine ev_aload_n 1 rfl d124_0 rfl ?_
  refine ev_iload_n 2 rfl d124_1 rfl ?_
  refine ev_cb1 5 rfl 116 d124_2 rfl rfl (by rw [G.1 _ _ (rfl : ai_sp 572 = (9, 0)) (by decide) (by decide)]; rfl) (by omega) rfl (m_isShelf G) (fun hq_2 => ?_) (fun hq_2 => ?_)
  · try rw [c_T hq_2]
    obtain ⟨s, hs, rfl⟩ := hq_2
    refine ev_if_F 17 8 (by decide) rfl (by decide) d124_5 ?_
    simp only [nn_I (show s < 2147483648 by omega)]
    refine ev_aload_n 9 rfl d124_8 rfl ?_
    refine ev_getr 12 rfl 9 1 d124_9 rfl (by omega) (G.1 _ _ (rfl : ai_sp 572 = (9, 0)) (by decide) (by decide)) (G.2 _ _ _ (rfl : ai_rf 572 1 = some 574)) ?_
    refine ev_iload_n 13 rfl d124_12 rfl ?_
    refine ev_iald_n (v := nI (σ.hd s) - 1) 14 rfl d124_13 (by omega) (G.1 _ _ (rfl : ai_sp 574 = (100, 8)) (by decide) (by decide)) (by omega) (by decide) (hM.hd _ (by omega)) ?_
    refine ev_goto 18 (by decide) d124_14 ?_
    refine ev_iret (Or.inl rfl) d124_18 ?_
    exact pm_same hM
  · try rw [c_F hq_2]
    refine ev_if_T 17 (by decide) (by decide) d124_5 ?_
    refine ev_iconst (v := (-1)) 18 rfl d124_17 (by decide) ?_
    refine ev_iret (Or.inl rfl) d124_18 ?_
    exact pm_same hM
theorem m_rest (G : ai_G S F) (hM : ai_RM σ I L) (hV : ai_IV σ) {z1 : Int32} : ai_Ev none 139 0 [some (.ref 572), some (.int z1)] [] (S, I, L, F) (ai_PM S F I L (o_rest σ z1)) := by
  have hnT := hV.nT
  have hnQ := hV.nQ
  have hnJ := hV.nJ
  unfold o_rest
  refine ev_aload_n 1 rfl d139_0 rfl ?_
  refine ev_iload_n 2 rfl d139_1 rfl ?_
  refine ev_cb1 5 rfl 128 d139_2 rfl rfl (by rw [G.1 _ _ (rfl : ai_sp 572 = (9, 0)) (by decide) (by decide)]; rfl) (by omega) rfl (m_isJ G hM hV) (fun hq_2 => ?_) (fun hq_2 => ?_)
  · try rw [c_T hq_2]
    obtain ⟨j, hj, hjl, rfl⟩ := hq_2
    refine ev_if_T 14 (by decide) (by decide) d139_5 ?_
    simp only [nn_I (show j < 2147483648 by omega)]
    refine ev_aload_n 15 rfl d139_14 rfl ?_
    refine ev_getr 18 rfl 9 14 d139_15 rfl (by omega) (G.1 _ _ (rfl : ai_sp 572 = (9, 0)) (by decide) (by decide)) (G.2 _ _ _ (rfl : ai_rf 572 14 = some 584)) ?_
    refine ev_iload_n 19 rfl d139_18 rfl ?_
    refine ev_iconst (v := nI 0) 20 rfl d139_19 (by decide) ?_
    obtain ⟨I_1, hI_1⟩ : ∃ z, z = ai_ui I 584 j (nI 0) := ⟨_, rfl⟩
    refine ev_iast_n (I2 := I_1) 21 rfl d139_20 (by omega) (G.1 _ _ (rfl : ai_sp 584 = (100, 24)) (by decide) (by decide)) (by omega) (by decide) hI_1.symm ?_
    refine ev_iconst (v := nI 1) 22 rfl d139_21 (by decide) ?_
    refine ev_iret (Or.inl rfl) d139_22 ?_
    exact ⟨_, _, rfl, rfl, rm_rest hM (by omega) hI_1, fun a ha => ⟨by rw [ui_row hI_1 (by omega)], rfl⟩⟩
  · try rw [c_F hq_2]
    refine ev_if_F 14 8 (by decide) rfl (by decide) d139_5 ?_
    refine ev_aload_n 9 rfl d139_8 rfl ?_
    refine ev_iconst (v := (-1)) 10 rfl d139_9 (by decide) ?_
    refine ev_cy1 13 rfl 115 d139_10 rfl rfl (by rw [G.1 _ _ (rfl : ai_sp 572 = (9, 0)) (by decide) (by decide)]; rfl) (by omega) rfl (show ai_Ev none 115 0 [some (.ref 572), some (.int (-1))] [] (S, I, L, F) _ from by rw [show ((-1) : Int32) = -(nI 1) by decide]; exact m_refuse (I := I) (L := L) (S := S) (F := F) G (k := 1) (by omega)) (fun v_2 I_1 hr_10 => ?_)
    refine ev_iret (Or.inl rfl) d139_13 ?_
    exact pm_ref hM (by omega) hr_10
theorem m_changed (G : ai_G S F) (hM : ai_RM σ I L) (hV : ai_IV σ) {z1 : Int32} : ai_Ev none 161 0 [some (.ref 572), some (.int z1)] [] (S, I, L, F) (ai_PM S F I L (o_changed σ z1)) := by
  have hnT := hV.nT
  have hnQ := hV.nQ
  have hnJ := hV.nJ
  unfold o_changed
  have hst := hV.st
  refine ev_aload_n 1 rfl d161_0 rfl ?_
  refine ev_iload_n 2 rfl d161_1 rfl ?_
  refine ev_iconst (v := nI 0) 3 rfl d161_2 (by decide) ?_
  refine ev_aload_n 4 rfl d161_3 rfl ?_
  refine ev_geti (v := nI σ.st) 7 rfl 9 29 d161_4 rfl (by omega) (G.1 _ _ (rfl : ai_sp 572 = (9, 0)) (by decide) (by decide)) hM.st ?_
  refine ev_iconst (v := nI 1) 8 rfl d161_7 (by decide) ?_
  refine ev_isub (v := nI σ.st - 1) 9 rfl d161_8 rfl ?_
  refine ev_cb3 12 rfl 114 d161_9 rfl rfl (by rw [G.1 _ _ (rfl : ai_sp 572 = (9, 0)) (by decide) (by decide)]; rfl) (by omega) rfl (pb_iff (in_is (n := σ.st) rfl (by omega)) (m_in G)) (fun hq_9 => ?_) (fun hq_9 => ?_)
  · try rw [c_T hq_9]
    obtain ⟨i, hi, rfl⟩ := hq_9
    refine ev_if_F 24 15 (by decide) rfl (by decide) d161_12 ?_
    simp only [nn_I (show i < 2147483648 by omega)]
    refine ev_aload_n 16 rfl d161_15 rfl ?_
    refine ev_getr 19 rfl 9 28 d161_16 rfl (by omega) (G.1 _ _ (rfl : ai_sp 572 = (9, 0)) (by decide) (by decide)) (G.2 _ _ _ (rfl : ai_rf 572 28 = some 594)) ?_
    refine ev_iload_n 20 rfl d161_19 rfl ?_
    refine ev_iald_n (v := nI (σ.ch i)) 21 rfl d161_20 (by omega) (G.1 _ _ (rfl : ai_sp 594 = (100, 30)) (by decide) (by decide)) (by omega) (by decide) (hM.ch _ (by omega)) ?_
    refine ev_goto 25 (by decide) d161_21 ?_
    refine ev_iret (Or.inl rfl) d161_25 ?_
    exact pm_same hM
  · try rw [c_F hq_9]
    refine ev_if_T 24 (by decide) (by decide) d161_12 ?_
    refine ev_iconst (v := (-1)) 25 rfl d161_24 (by decide) ?_
    refine ev_iret (Or.inl rfl) d161_25 ?_
    exact pm_same hM
theorem m_agreed (G : ai_G S F) (hM : ai_RM σ I L) (hV : ai_IV σ) {z1 : Int32} {z2 : Int32} : ai_Ev none 162 0 [some (.ref 572), some (.int z1), some (.int z2)] [] (S, I, L, F) (ai_PM S F I L (o_agreed σ z1 z2)) := by
  have hnT := hV.nT
  have hnQ := hV.nQ
  have hnJ := hV.nJ
  unfold o_agreed
  refine ev_aload_n 1 rfl d162_0 rfl ?_
  refine ev_iload_n 2 rfl d162_1 rfl ?_
  refine ev_iload_n 3 rfl d162_2 rfl ?_
  refine ev_cb2 6 rfl 129 d162_3 rfl rfl (by rw [G.1 _ _ (rfl : ai_sp 572 = (9, 0)) (by decide) (by decide)]; rfl) (by omega) rfl (m_isCase G hM hV) (fun hq_3 => ?_) (fun hq_3 => ?_)
  · try rw [c_T hq_3]
    obtain ⟨t, q, ht, hq, rfl, rfl⟩ := hq_3
    refine ev_if_F 22 9 (by decide) rfl (by decide) d162_6 ?_
    simp only [nn_I (show t < 2147483648 by omega)]
    simp only [nn_I (show q < 2147483648 by omega)]
    refine ev_aload_n 10 rfl d162_9 rfl ?_
    refine ev_getr 13 rfl 9 12 d162_10 rfl (by omega) (G.1 _ _ (rfl : ai_sp 572 = (9, 0)) (by decide) (by decide)) (G.2 _ _ _ (rfl : ai_rf 572 12 = some 582)) ?_
    refine ev_iconst (v := nI 5) 14 rfl d162_13 (by decide) ?_
    refine ev_iload_n 15 rfl d162_14 rfl ?_
    refine ev_imul (v := nI (5 * t)) 16 rfl d162_15 (pk_mul _ _) ?_
    refine ev_iload_n 17 rfl d162_16 rfl ?_
    refine ev_iadd (v := nI ((5 * t) + q)) 18 rfl d162_17 (nI_add _ _) ?_
    refine ev_iald_n (v := nI (σ.ag ((5 * t) + q)) - 1) 19 rfl d162_18 (by omega) (G.1 _ _ (rfl : ai_sp 582 = (100, 200)) (by decide) (by decide)) (by omega) (by decide) (hM.ag _ (by omega) (by omega)) ?_
    refine ev_goto 23 (by decide) d162_19 ?_
    refine ev_iret (Or.inl rfl) d162_23 ?_
    exact pm_same hM
  · try rw [c_F hq_3]
    refine ev_if_T 22 (by decide) (by decide) d162_6 ?_
    refine ev_iconst (v := (-1)) 23 rfl d162_22 (by decide) ?_
    refine ev_iret (Or.inl rfl) d162_23 ?_
    exact pm_same hM
theorem m_top (G : ai_G S F) (hM : ai_RM σ I L) (hV : ai_IV σ) {z1 : Int32} {z2 : Int32} {z3 : Int32} {z4 : Int32} : ai_Ev none 164 0 [some (.ref 572), some (.int z1), some (.int z2), some (.int z3), some (.int z4)] [] (S, I, L, F) (ai_PM S F I L (o_top σ z1 z2 z3 z4)) := by
  have hnT := hV.nT
  have hnQ := hV.nQ
  have hnJ := hV.nJ
  unfold o_top
  refine ev_aload_n 1 rfl d164_0 rfl ?_
  refine ev_iload_n 2 rfl d164_1 rfl ?_
  refine ev_cb1 5 rfl 128 d164_2 rfl rfl (by rw [G.1 _ _ (rfl : ai_sp 572 = (9, 0)) (by decide) (by decide)]; rfl) (by omega) rfl (m_isJ G hM hV) (fun hq_2 => ?_) (fun hq_2 => ?_)
  · try rw [c_T hq_2]
    obtain ⟨j, hj, hjl, rfl⟩ := hq_2
    refine ev_if_F 42 8 (by decide) rfl (by decide) d164_5 ?_
    simp only [nn_I (show j < 2147483648 by omega)]
    refine ev_aload_n 9 rfl d164_8 rfl ?_
    refine ev_iload_n 10 rfl d164_9 rfl ?_
    refine ev_iconst (v := nI 0) 11 rfl d164_10 (by decide) ?_
    refine ev_aload_n 12 rfl d164_11 rfl ?_
    refine ev_geti (v := nI σ.nQ) 15 rfl 9 6 d164_12 rfl (by omega) (G.1 _ _ (rfl : ai_sp 572 = (9, 0)) (by decide) (by decide)) hM.nQ ?_
    refine ev_iconst (v := nI 1) 16 rfl d164_15 (by decide) ?_
    refine ev_isub (v := nI σ.nQ - 1) 17 rfl d164_16 rfl ?_
    refine ev_cb3 20 rfl 114 d164_17 rfl rfl (by rw [G.1 _ _ (rfl : ai_sp 572 = (9, 0)) (by decide) (by decide)]; rfl) (by omega) rfl (pb_iff (in_is (n := σ.nQ) rfl (by omega)) (m_in G)) (fun hq_17 => ?_) (fun hq_17 => ?_)
    · obtain ⟨q, hq, rfl⟩ := hq_17
      have han := hV.an q hq
      have hiA := fun z => isAN (σ := σ) (z := z) hq hnQ
      refine ev_if_F 42 23 (by decide) rfl (by decide) d164_20 ?_
      refine ev_aload_n 24 rfl d164_23 rfl ?_
      refine ev_iload_n 25 rfl d164_24 rfl ?_
      refine ev_iload_n 26 rfl d164_25 rfl ?_
      refine ev_cb2 29 rfl 163 d164_26 rfl rfl (by rw [G.1 _ _ (rfl : ai_sp 572 = (9, 0)) (by decide) (by decide)]; rfl) (by omega) rfl (m_isAnswer G hM hV (by omega)) (fun hq_26 => ?_) (fun hq_26 => ?_)
      · rw [c_T ((hiA _).mpr hq_26)]
        obtain ⟨a, ha, rfl⟩ := hq_26
        refine ev_if_F 42 32 (by decide) rfl (by decide) d164_29 ?_
        simp only [nn_I (show q < 2147483648 by omega)]
        simp only [nn_I (show a < 2147483648 by omega)]
        refine ev_aload_n 33 rfl d164_32 rfl ?_
        refine ev_iload_n 34 rfl d164_33 rfl ?_
        refine ev_iload 36 rfl d164_34 rfl ?_
        refine ev_cb2 39 rfl 163 d164_36 rfl rfl (by rw [G.1 _ _ (rfl : ai_sp 572 = (9, 0)) (by decide) (by decide)]; rfl) (by omega) rfl (m_isAnswer G hM hV (by omega)) (fun hq_36 => ?_) (fun hq_36 => ?_)
        · try rw [c_T hq_36]
          obtain ⟨b, hb, rfl⟩ := hq_36
          refine ev_if_T 44 (by decide) (by decide) d164_39 ?_
          simp only [nn_I (show b < 2147483648 by omega)]
          refine ev_aload_n 45 rfl d164_44 rfl ?_
          refine ev_getr 48 rfl 9 24 d164_45 rfl (by omega) (G.1 _ _ (rfl : ai_sp 572 = (9, 0)) (by decide) (by decide)) (G.2 _ _ _ (rfl : ai_rf 572 24 = some 590)) ?_
          refine ev_aload_n 49 rfl d164_48 rfl ?_
          refine ev_iload_n 50 rfl d164_49 rfl ?_
          refine ev_iload_n 51 rfl d164_50 rfl ?_
          refine ev_iload_n 52 rfl d164_51 rfl ?_
          refine ev_iload 54 rfl d164_52 rfl ?_
          refine ev_cp4 57 rfl 125 d164_54 rfl rfl (by rw [G.1 _ _ (rfl : ai_sp 572 = (9, 0)) (by decide) (by decide)]; rfl) (by omega) rfl (m_topAt G) ?_
          refine ev_iald_n (v := nI (σ.top j q a b)) 58 rfl d164_57 (by omega) (G.1 _ _ (rfl : ai_sp 590 = (100, 1920)) (by decide) (by decide)) (by omega) (by decide) (hM.tp j q a b (by omega) (by omega) (by omega) (by omega)) ?_
          refine ev_iret (Or.inl rfl) d164_58 ?_
          exact pm_same hM
        · try rw [c_F hq_36]
          refine ev_if_F 44 42 (by decide) rfl (by decide) d164_39 ?_
          refine ev_iconst (v := nI 0) 43 rfl d164_42 (by decide) ?_
          refine ev_iret (Or.inl rfl) d164_43 ?_
          exact pm_same hM
      · rw [c_F (fun h9 => hq_26 ((hiA _).mp h9))]
        refine ev_if_T 42 (by decide) (by decide) d164_29 ?_
        refine ev_iconst (v := nI 0) 43 rfl d164_42 (by decide) ?_
        refine ev_iret (Or.inl rfl) d164_43 ?_
        exact pm_same hM
    · rw [c_F (fun ⟨q, a, h1, h2, h3, h4⟩ => hq_17 ⟨q, h1, h3⟩)]
      refine ev_if_T 42 (by decide) (by decide) d164_20 ?_
      refine ev_iconst (v := nI 0) 43 rfl d164_42 (by decide) ?_
      refine ev_iret (Or.inl rfl) d164_43 ?_
      exact pm_same hM
  · try rw [c_F hq_2]
    refine ev_if_T 42 (by decide) (by decide) d164_5 ?_
    refine ev_iconst (v := nI 0) 43 rfl d164_42 (by decide) ?_
    refine ev_iret (Or.inl rfl) d164_43 ?_
    exact pm_same hM
theorem m_bottom (G : ai_G S F) (hM : ai_RM σ I L) (hV : ai_IV σ) {z1 : Int32} {z2 : Int32} {z3 : Int32} : ai_Ev none 165 0 [some (.ref 572), some (.int z1), some (.int z2), some (.int z3)] [] (S, I, L, F) (ai_PM S F I L (o_bottom σ z1 z2 z3)) := by
  have hnT := hV.nT
  have hnQ := hV.nQ
  have hnJ := hV.nJ
  unfold o_bottom
  refine ev_aload_n 1 rfl d165_0 rfl ?_
  refine ev_iload_n 2 rfl d165_1 rfl ?_
  refine ev_cb1 5 rfl 128 d165_2 rfl rfl (by rw [G.1 _ _ (rfl : ai_sp 572 = (9, 0)) (by decide) (by decide)]; rfl) (by omega) rfl (m_isJ G hM hV) (fun hq_2 => ?_) (fun hq_2 => ?_)
  · try rw [c_T hq_2]
    obtain ⟨j, hj, hjl, rfl⟩ := hq_2
    refine ev_if_F 47 8 (by decide) rfl (by decide) d165_5 ?_
    simp only [nn_I (show j < 2147483648 by omega)]
    refine ev_aload_n 9 rfl d165_8 rfl ?_
    refine ev_iload_n 10 rfl d165_9 rfl ?_
    refine ev_iconst (v := nI 0) 11 rfl d165_10 (by decide) ?_
    refine ev_aload_n 12 rfl d165_11 rfl ?_
    refine ev_geti (v := nI σ.nQ) 15 rfl 9 6 d165_12 rfl (by omega) (G.1 _ _ (rfl : ai_sp 572 = (9, 0)) (by decide) (by decide)) hM.nQ ?_
    refine ev_iconst (v := nI 1) 16 rfl d165_15 (by decide) ?_
    refine ev_isub (v := nI σ.nQ - 1) 17 rfl d165_16 rfl ?_
    refine ev_cb3 20 rfl 114 d165_17 rfl rfl (by rw [G.1 _ _ (rfl : ai_sp 572 = (9, 0)) (by decide) (by decide)]; rfl) (by omega) rfl (pb_iff (in_is (n := σ.nQ) rfl (by omega)) (m_in G)) (fun hq_17 => ?_) (fun hq_17 => ?_)
    · obtain ⟨q, hq, rfl⟩ := hq_17
      have han := hV.an q hq
      have hiA := fun z => isAN (σ := σ) (z := z) hq hnQ
      refine ev_if_F 47 23 (by decide) rfl (by decide) d165_20 ?_
      refine ev_aload_n 24 rfl d165_23 rfl ?_
      refine ev_iload_n 25 rfl d165_24 rfl ?_
      refine ev_iload_n 26 rfl d165_25 rfl ?_
      refine ev_cb2 29 rfl 163 d165_26 rfl rfl (by rw [G.1 _ _ (rfl : ai_sp 572 = (9, 0)) (by decide) (by decide)]; rfl) (by omega) rfl (m_isAnswer G hM hV (by omega)) (fun hq_26 => ?_) (fun hq_26 => ?_)
      · rw [c_T ((hiA _).mpr hq_26)]
        obtain ⟨a, ha, rfl⟩ := hq_26
        refine ev_if_F 47 32 (by decide) rfl (by decide) d165_29 ?_
        simp only [nn_I (show q < 2147483648 by omega)]
        simp only [nn_I (show a < 2147483648 by omega)]
        refine ev_aload_n 33 rfl d165_32 rfl ?_
        refine ev_getr 36 rfl 9 25 d165_33 rfl (by omega) (G.1 _ _ (rfl : ai_sp 572 = (9, 0)) (by decide) (by decide)) (G.2 _ _ _ (rfl : ai_rf 572 25 = some 591)) ?_
        refine ev_aload_n 37 rfl d165_36 rfl ?_
        refine ev_iload_n 38 rfl d165_37 rfl ?_
        refine ev_iload_n 39 rfl d165_38 rfl ?_
        refine ev_iload_n 40 rfl d165_39 rfl ?_
        refine ev_cp3 43 rfl 126 d165_40 rfl rfl (by rw [G.1 _ _ (rfl : ai_sp 572 = (9, 0)) (by decide) (by decide)]; rfl) (by omega) rfl (m_botAt G) ?_
        refine ev_iald_n (v := nI (σ.bot j q a)) 44 rfl d165_43 (by omega) (G.1 _ _ (rfl : ai_sp 591 = (100, 480)) (by decide) (by decide)) (by omega) (by decide) (hM.bt j q a (by omega) (by omega) (by omega)) ?_
        refine ev_goto 48 (by decide) d165_44 ?_
        refine ev_iret (Or.inl rfl) d165_48 ?_
        exact pm_same hM
      · rw [c_F (fun h9 => hq_26 ((hiA _).mp h9))]
        refine ev_if_T 47 (by decide) (by decide) d165_29 ?_
        refine ev_iconst (v := nI 0) 48 rfl d165_47 (by decide) ?_
        refine ev_iret (Or.inl rfl) d165_48 ?_
        exact pm_same hM
    · rw [c_F (fun ⟨q, a, h1, h2, h3, h4⟩ => hq_17 ⟨q, h1, h3⟩)]
      refine ev_if_T 47 (by decide) (by decide) d165_20 ?_
      refine ev_iconst (v := nI 0) 48 rfl d165_47 (by decide) ?_
      refine ev_iret (Or.inl rfl) d165_48 ?_
      exact pm_same hM
  · try rw [c_F hq_2]
    refine ev_if_T 47 (by decide) (by decide) d165_5 ?_
    refine ev_iconst (v := nI 0) 48 rfl d165_47 (by decide) ?_
    refine ev_iret (Or.inl rfl) d165_48 ?_
    exact pm_same hM
theorem m_know (G : ai_G S F) (hM : ai_RM σ I L) (hV : ai_IV σ) {z1 z2 z3 : Int32} : ai_Ev none 133 0 [some (.ref 572), some (.int z1), some (.int z2), some (.int z3)] [] (S, I, L, F) (ai_PM S F I L (o_know σ z1 z2 z3)) := by
  have hnT := hV.nT
  have hnQ := hV.nQ
  have hnJ := hV.nJ
  unfold o_know
  by_cases h3 : z3 = -1
  · subst h3
    refine ev_aload_n 1 rfl d133_0 rfl ?_
    refine ev_iload_n 2 rfl d133_1 rfl ?_
    refine ev_iload_n 3 rfl d133_2 rfl ?_
    refine ev_cb2 6 rfl 129 d133_3 rfl rfl (by rw [G.1 _ _ (rfl : ai_sp 572 = (9, 0)) (by decide) (by decide)]; rfl) (by omega) rfl (m_isCase G hM hV) (fun hq_3 => ?_) (fun hq_3 => ?_)
    · try rw [c_T hq_3]
      obtain ⟨t, q, ht, hq, rfl, rfl⟩ := hq_3
      refine ev_if_T 15 (by decide) (by decide) d133_6 ?_
      simp only [nn_I (show t < 2147483648 by omega)]
      simp only [nn_I (show q < 2147483648 by omega)]
      have han := hV.an q hq
      refine ev_aload_n 16 rfl d133_15 rfl ?_
      refine ev_iload_n 17 rfl d133_16 rfl ?_
      refine ev_iconst (v := (-1)) 18 rfl d133_17 (by decide) ?_
      refine ev_aload_n 19 rfl d133_18 rfl ?_
      refine ev_getr 22 rfl 9 8 d133_19 rfl (by omega) (G.1 _ _ (rfl : ai_sp 572 = (9, 0)) (by decide) (by decide)) (G.2 _ _ _ (rfl : ai_rf 572 8 = some 578)) ?_
      refine ev_iload_n 23 rfl d133_22 rfl ?_
      refine ev_iald_n (v := nI (σ.an q)) 24 rfl d133_23 (by omega) (G.1 _ _ (rfl : ai_sp 578 = (100, 5)) (by decide) (by decide)) (by omega) (by decide) (hM.an _ (by omega)) ?_
      refine ev_iconst (v := nI 1) 25 rfl d133_24 (by decide) ?_
      refine ev_isub (v := nI (σ.an q) - 1) 26 rfl d133_25 rfl ?_
      refine ev_cb3 29 rfl 114 d133_26 rfl rfl (by rw [G.1 _ _ (rfl : ai_sp 572 = (9, 0)) (by decide) (by decide)]; rfl) (by omega) rfl (pb_iff (in_m1 (n := σ.an q) rfl (by omega)) (m_in G)) (fun hq_26 => ?_) (fun hq_26 => ?_)
      · rw [c_T trivial]
        refine ev_if_T 39 (by decide) (by decide) d133_29 ?_
        refine ev_aload_n 40 rfl d133_39 rfl ?_
        refine ev_getr 43 rfl 9 11 d133_40 rfl (by omega) (G.1 _ _ (rfl : ai_sp 572 = (9, 0)) (by decide) (by decide)) (G.2 _ _ _ (rfl : ai_rf 572 11 = some 581)) ?_
        refine ev_iconst (v := nI 5) 44 rfl d133_43 (by decide) ?_
        refine ev_iload_n 45 rfl d133_44 rfl ?_
        refine ev_imul (v := nI (5 * t)) 46 rfl d133_45 (pk_mul _ _) ?_
        refine ev_iload_n 47 rfl d133_46 rfl ?_
        refine ev_iadd (v := nI ((5 * t) + q)) 48 rfl d133_47 (nI_add _ _) ?_
        refine ev_iload_n 49 rfl d133_48 rfl ?_
        obtain ⟨I_1, hI_1⟩ : ∃ z, z = ai_ui I 581 ((5 * t) + q) (-1) := ⟨_, rfl⟩
        refine ev_iast_n (I2 := I_1) 50 rfl d133_49 (by omega) (G.1 _ _ (rfl : ai_sp 581 = (100, 200)) (by decide) (by decide)) (by omega) (by decide) hI_1.symm ?_
        refine ev_iconst (v := nI 1) 51 rfl d133_50 (by decide) ?_
        refine ev_iret (Or.inl rfl) d133_51 ?_
        exact ⟨_, _, rfl, rfl, rm_know hM (by omega) (by rw [hI_1, nM_z]), fun a ha => ⟨by rw [ui_row hI_1 (by omega)], rfl⟩⟩
      · exact absurd (Or.inl rfl) hq_26
    · try rw [c_F hq_3]
      refine ev_if_F 15 9 (by decide) rfl (by decide) d133_6 ?_
      refine ev_aload_n 10 rfl d133_9 rfl ?_
      refine ev_iconst (v := (-1)) 11 rfl d133_10 (by decide) ?_
      refine ev_cy1 14 rfl 115 d133_11 rfl rfl (by rw [G.1 _ _ (rfl : ai_sp 572 = (9, 0)) (by decide) (by decide)]; rfl) (by omega) rfl (show ai_Ev none 115 0 [some (.ref 572), some (.int (-1))] [] (S, I, L, F) _ from by rw [show ((-1) : Int32) = -(nI 1) by decide]; exact m_refuse (I := I) (L := L) (S := S) (F := F) G (k := 1) (by omega)) (fun v_2 I_1 hr_11 => ?_)
      refine ev_iret (Or.inl rfl) d133_14 ?_
      exact pm_ref hM (by omega) hr_11
  · skip
    refine ev_aload_n 1 rfl d133_0 rfl ?_
    refine ev_iload_n 2 rfl d133_1 rfl ?_
    refine ev_iload_n 3 rfl d133_2 rfl ?_
    refine ev_cb2 6 rfl 129 d133_3 rfl rfl (by rw [G.1 _ _ (rfl : ai_sp 572 = (9, 0)) (by decide) (by decide)]; rfl) (by omega) rfl (m_isCase G hM hV) (fun hq_3 => ?_) (fun hq_3 => ?_)
    · try rw [c_T hq_3]
      obtain ⟨t, q, ht, hq, rfl, rfl⟩ := hq_3
      refine ev_if_T 15 (by decide) (by decide) d133_6 ?_
      simp only [nn_I (show t < 2147483648 by omega)]
      simp only [nn_I (show q < 2147483648 by omega)]
      have han := hV.an q hq
      refine ev_aload_n 16 rfl d133_15 rfl ?_
      refine ev_iload_n 17 rfl d133_16 rfl ?_
      refine ev_iconst (v := (-1)) 18 rfl d133_17 (by decide) ?_
      refine ev_aload_n 19 rfl d133_18 rfl ?_
      refine ev_getr 22 rfl 9 8 d133_19 rfl (by omega) (G.1 _ _ (rfl : ai_sp 572 = (9, 0)) (by decide) (by decide)) (G.2 _ _ _ (rfl : ai_rf 572 8 = some 578)) ?_
      refine ev_iload_n 23 rfl d133_22 rfl ?_
      refine ev_iald_n (v := nI (σ.an q)) 24 rfl d133_23 (by omega) (G.1 _ _ (rfl : ai_sp 578 = (100, 5)) (by decide) (by decide)) (by omega) (by decide) (hM.an _ (by omega)) ?_
      refine ev_iconst (v := nI 1) 25 rfl d133_24 (by decide) ?_
      refine ev_isub (v := nI (σ.an q) - 1) 26 rfl d133_25 rfl ?_
      refine ev_cb3 29 rfl 114 d133_26 rfl rfl (by rw [G.1 _ _ (rfl : ai_sp 572 = (9, 0)) (by decide) (by decide)]; rfl) (by omega) rfl (pb_iff (in_m1 (n := σ.an q) rfl (by omega)) (m_in G)) (fun hq_26 => ?_) (fun hq_26 => ?_)
      · have hb9 := Or.resolve_left hq_26 h3
        rw [c_F h3, c_T hb9]
        obtain ⟨b, hb, rfl⟩ := hb9
        simp only [nn_I (show b < 2147483648 by omega)]
        refine ev_if_T 39 (by decide) (by decide) d133_29 ?_
        refine ev_aload_n 40 rfl d133_39 rfl ?_
        refine ev_getr 43 rfl 9 11 d133_40 rfl (by omega) (G.1 _ _ (rfl : ai_sp 572 = (9, 0)) (by decide) (by decide)) (G.2 _ _ _ (rfl : ai_rf 572 11 = some 581)) ?_
        refine ev_iconst (v := nI 5) 44 rfl d133_43 (by decide) ?_
        refine ev_iload_n 45 rfl d133_44 rfl ?_
        refine ev_imul (v := nI (5 * t)) 46 rfl d133_45 (pk_mul _ _) ?_
        refine ev_iload_n 47 rfl d133_46 rfl ?_
        refine ev_iadd (v := nI ((5 * t) + q)) 48 rfl d133_47 (nI_add _ _) ?_
        refine ev_iload_n 49 rfl d133_48 rfl ?_
        obtain ⟨I_1, hI_1⟩ : ∃ z, z = ai_ui I 581 ((5 * t) + q) (nI b) := ⟨_, rfl⟩
        refine ev_iast_n (I2 := I_1) 50 rfl d133_49 (by omega) (G.1 _ _ (rfl : ai_sp 581 = (100, 200)) (by decide) (by decide)) (by omega) (by decide) hI_1.symm ?_
        refine ev_iconst (v := nI 1) 51 rfl d133_50 (by decide) ?_
        refine ev_iret (Or.inl rfl) d133_51 ?_
        exact ⟨_, _, rfl, rfl, rm_know hM (by omega) (by rw [hI_1, nM_succ]), fun a ha => ⟨by rw [ui_row hI_1 (by omega)], rfl⟩⟩
      · rw [c_F h3, c_F (fun h9 => hq_26 (Or.inr h9))]
        refine ev_if_F 39 32 (by decide) rfl (by decide) d133_29 ?_
        refine ev_aload_n 33 rfl d133_32 rfl ?_
        refine ev_bipush (v := (-6)) 35 rfl d133_33 (by decide) ?_
        refine ev_cy1 38 rfl 115 d133_35 rfl rfl (by rw [G.1 _ _ (rfl : ai_sp 572 = (9, 0)) (by decide) (by decide)]; rfl) (by omega) rfl (show ai_Ev none 115 0 [some (.ref 572), some (.int (-6))] [] (S, I, L, F) _ from by rw [show ((-6) : Int32) = -(nI 6) by decide]; exact m_refuse (I := I) (L := L) (S := S) (F := F) G (k := 6) (by omega)) (fun v_2 I_1 hr_35 => ?_)
        refine ev_iret (Or.inl rfl) d133_38 ?_
        exact pm_ref hM (by omega) hr_35
    · try rw [c_F hq_3]
      refine ev_if_F 15 9 (by decide) rfl (by decide) d133_6 ?_
      refine ev_aload_n 10 rfl d133_9 rfl ?_
      refine ev_iconst (v := (-1)) 11 rfl d133_10 (by decide) ?_
      refine ev_cy1 14 rfl 115 d133_11 rfl rfl (by rw [G.1 _ _ (rfl : ai_sp 572 = (9, 0)) (by decide) (by decide)]; rfl) (by omega) rfl (show ai_Ev none 115 0 [some (.ref 572), some (.int (-1))] [] (S, I, L, F) _ from by rw [show ((-1) : Int32) = -(nI 1) by decide]; exact m_refuse (I := I) (L := L) (S := S) (F := F) G (k := 1) (by omega)) (fun v_2 I_1 hr_11 => ?_)
      refine ev_iret (Or.inl rfl) d133_14 ?_
      exact pm_ref hM (by omega) hr_11
theorem m_show (G : ai_G S F) (hM : ai_RM σ I L) (hV : ai_IV σ) {z1 z2 : Int32} : ai_Ev none 123 0 [some (.ref 572), some (.int z1), some (.int z2)] [] (S, I, L, F) (ai_PM S F I L (o_show σ z1 z2)) := by
  have hnT := hV.nT
  have hnQ := hV.nQ
  have hnJ := hV.nJ
  unfold o_show
  by_cases h2 : z2 = -1
  · subst h2
    refine ev_aload_n 1 rfl d123_0 rfl ?_
    refine ev_iload_n 2 rfl d123_1 rfl ?_
    refine ev_cb1 5 rfl 116 d123_2 rfl rfl (by rw [G.1 _ _ (rfl : ai_sp 572 = (9, 0)) (by decide) (by decide)]; rfl) (by omega) rfl (m_isShelf G) (fun hq_2 => ?_) (fun hq_2 => ?_)
    · try rw [c_T hq_2]
      obtain ⟨s, hs, rfl⟩ := hq_2
      refine ev_if_F 28 8 (by decide) rfl (by decide) d123_5 ?_
      simp only [nn_I (show s < 2147483648 by omega)]
      rw [c_T trivial]
      refine ev_iload_n 9 rfl d123_8 rfl ?_
      refine ev_iconst (v := (-1)) 10 rfl d123_9 (by decide) ?_
      refine ev_icmp_T 34 (by decide) (by decide) d123_10 ?_
      refine ev_aload_n 35 rfl d123_34 rfl ?_
      refine ev_getr 38 rfl 9 1 d123_35 rfl (by omega) (G.1 _ _ (rfl : ai_sp 572 = (9, 0)) (by decide) (by decide)) (G.2 _ _ _ (rfl : ai_rf 572 1 = some 574)) ?_
      refine ev_iload_n 39 rfl d123_38 rfl ?_
      refine ev_iload_n 40 rfl d123_39 rfl ?_
      obtain ⟨I_1, hI_1⟩ : ∃ z, z = ai_ui I 574 s (-1) := ⟨_, rfl⟩
      refine ev_iast_n (I2 := I_1) 41 rfl d123_40 (by omega) (G.1 _ _ (rfl : ai_sp 574 = (100, 8)) (by decide) (by decide)) (by omega) (by decide) hI_1.symm ?_
      refine ev_iload_n 42 rfl d123_41 rfl ?_
      refine ev_iconst (v := (-1)) 43 rfl d123_42 (by decide) ?_
      refine ev_icmp_F 50 46 (by decide) rfl (by decide) d123_43 ?_
      refine ev_iconst (v := nI 0) 47 rfl d123_46 (by decide) ?_
      refine ev_goto 51 (by decide) d123_47 ?_
      refine ev_iret (Or.inl rfl) d123_51 ?_
      exact ⟨_, _, rfl, rfl, rm_hold (d := 0) hM (by omega) (by rw [hI_1, nM_z]), fun a ha => ⟨by rw [ui_row hI_1 (by omega)], rfl⟩⟩
    · try rw [c_F hq_2]
      refine ev_if_T 28 (by decide) (by decide) d123_5 ?_
      refine ev_aload_n 29 rfl d123_28 rfl ?_
      refine ev_iconst (v := (-1)) 30 rfl d123_29 (by decide) ?_
      refine ev_cy1 33 rfl 115 d123_30 rfl rfl (by rw [G.1 _ _ (rfl : ai_sp 572 = (9, 0)) (by decide) (by decide)]; rfl) (by omega) rfl (show ai_Ev none 115 0 [some (.ref 572), some (.int (-1))] [] (S, I, L, F) _ from by rw [show ((-1) : Int32) = -(nI 1) by decide]; exact m_refuse (I := I) (L := L) (S := S) (F := F) G (k := 1) (by omega)) (fun v_2 I_1 hr_30 => ?_)
      refine ev_iret (Or.inl rfl) d123_33 ?_
      exact pm_ref hM (by omega) hr_30
  · skip
    refine ev_aload_n 1 rfl d123_0 rfl ?_
    refine ev_iload_n 2 rfl d123_1 rfl ?_
    refine ev_cb1 5 rfl 116 d123_2 rfl rfl (by rw [G.1 _ _ (rfl : ai_sp 572 = (9, 0)) (by decide) (by decide)]; rfl) (by omega) rfl (m_isShelf G) (fun hq_2 => ?_) (fun hq_2 => ?_)
    · try rw [c_T hq_2]
      obtain ⟨s, hs, rfl⟩ := hq_2
      refine ev_if_F 28 8 (by decide) rfl (by decide) d123_5 ?_
      simp only [nn_I (show s < 2147483648 by omega)]
      rw [c_F h2]
      refine ev_iload_n 9 rfl d123_8 rfl ?_
      refine ev_iconst (v := (-1)) 10 rfl d123_9 (by decide) ?_
      refine ev_icmp 34 13 (by decide) rfl cz_eq d123_10 (fun hc_10 => ?_) (fun hc_10 => ?_)
      · exact absurd hc_10 h2
      · try rw [c_F hc_10]
        refine ev_aload_n 14 rfl d123_13 rfl ?_
        refine ev_iload_n 15 rfl d123_14 rfl ?_
        refine ev_iconst (v := nI 0) 16 rfl d123_15 (by decide) ?_
        refine ev_aload_n 17 rfl d123_16 rfl ?_
        refine ev_geti (v := nI σ.nJ) 20 rfl 9 7 d123_17 rfl (by omega) (G.1 _ _ (rfl : ai_sp 572 = (9, 0)) (by decide) (by decide)) hM.nJ ?_
        refine ev_iconst (v := nI 1) 21 rfl d123_20 (by decide) ?_
        refine ev_isub (v := nI σ.nJ - 1) 22 rfl d123_21 rfl ?_
        refine ev_cb3 25 rfl 114 d123_22 rfl rfl (by rw [G.1 _ _ (rfl : ai_sp 572 = (9, 0)) (by decide) (by decide)]; rfl) (by omega) rfl (pb_iff (in_is (n := σ.nJ) rfl (by omega)) (m_in G)) (fun hq_22 => ?_) (fun hq_22 => ?_)
        · try rw [c_T hq_22]
          obtain ⟨j, hj, rfl⟩ := hq_22
          refine ev_if_T 34 (by decide) (by decide) d123_25 ?_
          simp only [nn_I (show j < 2147483648 by omega)]
          refine ev_aload_n 35 rfl d123_34 rfl ?_
          refine ev_getr 38 rfl 9 1 d123_35 rfl (by omega) (G.1 _ _ (rfl : ai_sp 572 = (9, 0)) (by decide) (by decide)) (G.2 _ _ _ (rfl : ai_rf 572 1 = some 574)) ?_
          refine ev_iload_n 39 rfl d123_38 rfl ?_
          refine ev_iload_n 40 rfl d123_39 rfl ?_
          obtain ⟨I_1, hI_1⟩ : ∃ z, z = ai_ui I 574 s (nI j) := ⟨_, rfl⟩
          refine ev_iast_n (I2 := I_1) 41 rfl d123_40 (by omega) (G.1 _ _ (rfl : ai_sp 574 = (100, 8)) (by decide) (by decide)) (by omega) (by decide) hI_1.symm ?_
          refine ev_iload_n 42 rfl d123_41 rfl ?_
          refine ev_iconst (v := (-1)) 43 rfl d123_42 (by decide) ?_
          refine ev_icmp_T 50 (by decide) (n1_ne (by omega)) d123_43 ?_
          refine ev_iconst (v := nI 1) 51 rfl d123_50 (by decide) ?_
          refine ev_iret (Or.inl rfl) d123_51 ?_
          exact ⟨_, _, rfl, rfl, rm_hold (d := j + 1) hM (by omega) (by rw [hI_1, nM_succ]), fun a ha => ⟨by rw [ui_row hI_1 (by omega)], rfl⟩⟩
        · try rw [c_F hq_22]
          refine ev_if_F 34 28 (by decide) rfl (by decide) d123_25 ?_
          refine ev_aload_n 29 rfl d123_28 rfl ?_
          refine ev_iconst (v := (-1)) 30 rfl d123_29 (by decide) ?_
          refine ev_cy1 33 rfl 115 d123_30 rfl rfl (by rw [G.1 _ _ (rfl : ai_sp 572 = (9, 0)) (by decide) (by decide)]; rfl) (by omega) rfl (show ai_Ev none 115 0 [some (.ref 572), some (.int (-1))] [] (S, I, L, F) _ from by rw [show ((-1) : Int32) = -(nI 1) by decide]; exact m_refuse (I := I) (L := L) (S := S) (F := F) G (k := 1) (by omega)) (fun v_2 I_1 hr_30 => ?_)
          refine ev_iret (Or.inl rfl) d123_33 ?_
          exact pm_ref hM (by omega) hr_30
    · try rw [c_F hq_2]
      refine ev_if_T 28 (by decide) (by decide) d123_5 ?_
      refine ev_aload_n 29 rfl d123_28 rfl ?_
      refine ev_iconst (v := (-1)) 30 rfl d123_29 (by decide) ?_
      refine ev_cy1 33 rfl 115 d123_30 rfl rfl (by rw [G.1 _ _ (rfl : ai_sp 572 = (9, 0)) (by decide) (by decide)]; rfl) (by omega) rfl (show ai_Ev none 115 0 [some (.ref 572), some (.int (-1))] [] (S, I, L, F) _ from by rw [show ((-1) : Int32) = -(nI 1) by decide]; exact m_refuse (I := I) (L := L) (S := S) (F := F) G (k := 1) (by omega)) (fun v_2 I_1 hr_30 => ?_)
      refine ev_iret (Or.inl rfl) d123_33 ?_
      exact pm_ref hM (by omega) hr_30
theorem rng_is {z : Nat} {i : Int32} (hz : z ≤ 100) : ai_rng z i (nI 1) ↔ ai_is z i := by
  constructor
  · intro h; obtain ⟨k, h1, h2⟩ := rng_1' hz h; exact ⟨k, h2, h1⟩
  · rintro ⟨k, h1, rfl⟩; exact ⟨k, 1, rfl, rfl, by omega⟩
theorem m_element (G : ai_G S F) (hM : ai_RM σ I L) (hV : ai_IV σ) {z1 : Int32} {z2 : Int32} : ai_Ev none 122 0 [some (.ref 572), some (.int z1), some (.int z2)] [] (S, I, L, F) (ai_PML S F I L σ (o_element σ z1 z2)) := by
  have hnT := hV.nT
  have hnQ := hV.nQ
  have hnJ := hV.nJ
  unfold o_element
  refine ev_aload_n 1 rfl d122_0 rfl ?_
  refine ev_iload_n 2 rfl d122_1 rfl ?_
  refine ev_cb1 5 rfl 116 d122_2 rfl rfl (by rw [G.1 _ _ (rfl : ai_sp 572 = (9, 0)) (by decide) (by decide)]; rfl) (by omega) rfl (m_isShelf G) (fun hq_2 => ?_) (fun hq_2 => ?_)
  · try rw [c_T hq_2]
    obtain ⟨s, hs, rfl⟩ := hq_2
    refine ev_if_F 47 8 (by decide) rfl (by decide) d122_5 ?_
    simp only [nn_I (show s < 2147483648 by omega)]
    have hsz := hV.sz s hs
    refine ev_aload_n 9 rfl d122_8 rfl ?_
    refine ev_iload_n 10 rfl d122_9 rfl ?_
    refine ev_cb1 13 rfl 117 d122_10 rfl rfl (by rw [G.1 _ _ (rfl : ai_sp 572 = (9, 0)) (by decide) (by decide)]; rfl) (by omega) rfl (m_hasRow G hM hV (by omega)) (fun hq_10 => ?_) (fun hq_10 => ?_)
    · try rw [c_T hq_10]
      refine ev_if_F 47 16 (by decide) rfl (by decide) d122_13 ?_
      refine ev_aload_n 17 rfl d122_16 rfl ?_
      refine ev_iload_n 18 rfl d122_17 rfl ?_
      refine ev_iconst (v := nI 0) 19 rfl d122_18 (by decide) ?_
      refine ev_aload_n 20 rfl d122_19 rfl ?_
      refine ev_getr 23 rfl 9 2 d122_20 rfl (by omega) (G.1 _ _ (rfl : ai_sp 572 = (9, 0)) (by decide) (by decide)) (G.2 _ _ _ (rfl : ai_rf 572 2 = some 575)) ?_
      refine ev_iload_n 24 rfl d122_23 rfl ?_
      refine ev_iald_n (v := nI (σ.sz s)) 25 rfl d122_24 (by omega) (G.1 _ _ (rfl : ai_sp 575 = (100, 8)) (by decide) (by decide)) (by omega) (by decide) (hM.sz _ (by omega)) ?_
      refine ev_iconst (v := nI 1) 26 rfl d122_25 (by decide) ?_
      refine ev_isub (v := nI (σ.sz s) - 1) 27 rfl d122_26 rfl ?_
      refine ev_cb3 30 rfl 114 d122_27 rfl rfl (by rw [G.1 _ _ (rfl : ai_sp 572 = (9, 0)) (by decide) (by decide)]; rfl) (by omega) rfl (pb_iff (in_is (n := σ.sz s) rfl (by omega)) (m_in G)) (fun hq_27 => ?_) (fun hq_27 => ?_)
      · rw [c_T ((rng_is hsz).mpr hq_27)]
        obtain ⟨i, hi, rfl⟩ := hq_27
        simp only [nn_I (show i < 2147483648 by omega)]
        refine ev_if_F 47 33 (by decide) rfl (by decide) d122_30 ?_
        refine ev_aload_n 34 rfl d122_33 rfl ?_
        refine ev_getr 37 rfl 9 3 d122_34 rfl (by omega) (G.1 _ _ (rfl : ai_sp 572 = (9, 0)) (by decide) (by decide)) (G.2 _ _ _ (rfl : ai_rf 572 3 = some 576)) ?_
        refine ev_bipush (v := nI 100) 39 rfl d122_37 (by decide) ?_
        refine ev_iload_n 40 rfl d122_39 rfl ?_
        refine ev_imul (v := nI (100 * s)) 41 rfl d122_40 (pk_mul _ _) ?_
        refine ev_iload_n 42 rfl d122_41 rfl ?_
        refine ev_iadd (v := nI ((100 * s) + i)) 43 rfl d122_42 (nI_add _ _) ?_
        refine ev_lald_n (v := σ.el s i) 44 rfl d122_43 (by omega) (G.1 _ _ (rfl : ai_sp 576 = (103, 800)) (by decide) (by decide)) (by omega) (by decide) (hM.el s (by omega) i (by omega)) ?_
        refine ev_goto 48 (by decide) d122_44 ?_
        refine ev_lret rfl d122_48 ?_
        exact pml_same hM
      · rw [c_F (fun h9 => hq_27 ((rng_is hsz).mp h9))]
        refine ev_if_T 47 (by decide) (by decide) d122_30 ?_
        refine ev_lconst (v := lN 0) 48 rfl d122_47 (by decide) ?_
        refine ev_lret rfl d122_48 ?_
        exact pml_same hM
    · try rw [c_F hq_10]
      refine ev_if_T 47 (by decide) (by decide) d122_13 ?_
      refine ev_lconst (v := lN 0) 48 rfl d122_47 (by decide) ?_
      refine ev_lret rfl d122_48 ?_
      exact pml_same hM
  · try rw [c_F hq_2]
    refine ev_if_T 47 (by decide) (by decide) d122_5 ?_
    refine ev_lconst (v := lN 0) 48 rfl d122_47 (by decide) ?_
    refine ev_lret rfl d122_48 ?_
    exact pml_same hM
theorem m_cut (G : ai_G S F) {so : Nat} {v : Int64} (hso : so < 4) : ai_Ev none 118 0 [some (.ref 572), some (.int (nI so)), some (.long v), none] [] (S, I, L, F) (ai_Pp S F I L (.long (ai_cut so v))) := by
  refine ev_iload_n 1 rfl d118_0 rfl ?_
  refine ev_if 11 4 (by decide) rfl (c0_ne (by omega)) d118_1 (fun hc_1 => ?_) (fun hc_1 => ?_)
  · refine ev_iload_n 12 rfl d118_11 rfl ?_
    refine ev_iconst (v := nI 1) 13 rfl d118_12 (by decide) ?_
    refine ev_icmp 23 16 (by decide) rfl (cn_ne (by omega) (by omega)) d118_13 (fun hc_13 => ?_) (fun hc_13 => ?_)
    · refine ev_iload_n 24 rfl d118_23 rfl ?_
      refine ev_iconst (v := nI 2) 25 rfl d118_24 (by decide) ?_
      refine ev_icmp 34 28 (by decide) rfl (cn_ne (by omega) (by omega)) d118_25 (fun hc_25 => ?_) (fun hc_25 => ?_)
      · refine ev_lload_n 35 rfl d118_34 rfl ?_
        refine ev_lret rfl d118_35 ?_
        exact ⟨by unfold ai_cut; first | rw [if_pos (by omega)] | rw [if_neg (by omega), if_pos (by omega)] | rw [if_neg (by omega), if_neg (by omega), if_pos (by omega)] | rw [if_neg (by omega), if_neg (by omega), if_neg (by omega)], rfl⟩
      · refine ev_lload_n 29 rfl d118_28 rfl ?_
        refine ev_l2i 30 rfl d118_29 rfl ?_
        refine ev_i2l 31 rfl d118_30 rfl ?_
        refine ev_goto 35 (by decide) d118_31 ?_
        refine ev_lret rfl d118_35 ?_
        exact ⟨by unfold ai_cut; first | rw [if_pos (by omega)] | rw [if_neg (by omega), if_pos (by omega)] | rw [if_neg (by omega), if_neg (by omega), if_pos (by omega)] | rw [if_neg (by omega), if_neg (by omega), if_neg (by omega)], rfl⟩
    · refine ev_lload_n 17 rfl d118_16 rfl ?_
      refine ev_l2i 18 rfl d118_17 rfl ?_
      refine ev_i2s 19 rfl d118_18 rfl ?_
      refine ev_i2l 20 rfl d118_19 rfl ?_
      refine ev_goto 35 (by decide) d118_20 ?_
      refine ev_lret rfl d118_35 ?_
      exact ⟨by unfold ai_cut; first | rw [if_pos (by omega)] | rw [if_neg (by omega), if_pos (by omega)] | rw [if_neg (by omega), if_neg (by omega), if_pos (by omega)] | rw [if_neg (by omega), if_neg (by omega), if_neg (by omega)], rfl⟩
  · refine ev_lload_n 5 rfl d118_4 rfl ?_
    refine ev_l2i 6 rfl d118_5 rfl ?_
    refine ev_i2b 7 rfl d118_6 rfl ?_
    refine ev_i2l 8 rfl d118_7 rfl ?_
    refine ev_goto 35 (by decide) d118_8 ?_
    refine ev_lret rfl d118_35 ?_
    exact ⟨by unfold ai_cut; first | rw [if_pos (by omega)] | rw [if_neg (by omega), if_pos (by omega)] | rw [if_neg (by omega), if_neg (by omega), if_pos (by omega)] | rw [if_neg (by omega), if_neg (by omega), if_neg (by omega)], rfl⟩
theorem hsub (a : Nat) : nI 100 + nI a - nI 100 = nI a := by rw [Int32.add_comm]; exact Int32.add_sub_cancel _ _
theorem ul_other {I I2 : Nat → Nat → Int64} {a k : Nat} {v : Int64} (h : I2 = ai_ul I a k v) {x j : Nat} (hx : x ≠ a ∨ j ≠ k) : I2 x j = I x j := by
  rw [h]; unfold ai_ul
  by_cases e : x = a
  · subst e; rw [if_pos rfl]; exact if_neg (by omega)
  · rw [if_neg e]
theorem m_set (G : ai_G S F) (hM : ai_RM σ I L) (hV : ai_IV σ) {z1 : Int32} {z2 : Int32} {v : Int64} : ai_Ev none 120 0 [some (.ref 572), some (.int z1), some (.int z2), some (.long v), none] [] (S, I, L, F) (ai_PM S F I L (o_set σ z1 z2 v)) := by
  have hnT := hV.nT
  have hnQ := hV.nQ
  have hnJ := hV.nJ
  unfold o_set
  refine ev_aload_n 1 rfl d120_0 rfl ?_
  refine ev_iload_n 2 rfl d120_1 rfl ?_
  refine ev_cb1 5 rfl 116 d120_2 rfl rfl (by rw [G.1 _ _ (rfl : ai_sp 572 = (9, 0)) (by decide) (by decide)]; rfl) (by omega) rfl (m_isShelf G) (fun hq_2 => ?_) (fun hq_2 => ?_)
  · obtain ⟨s, hs, rfl⟩ := hq_2
    have hsz := hV.sz s hs
    have hhd := hV.hd s hs
    refine ev_if_T 14 (by decide) (by decide) d120_5 ?_
    refine ev_aload_n 15 rfl d120_14 rfl ?_
    refine ev_getr 18 rfl 9 1 d120_15 rfl (by omega) (G.1 _ _ (rfl : ai_sp 572 = (9, 0)) (by decide) (by decide)) (G.2 _ _ _ (rfl : ai_rf 572 1 = some 574)) ?_
    refine ev_iload_n 19 rfl d120_18 rfl ?_
    refine ev_iald_n (v := nI (σ.hd s) - 1) 20 rfl d120_19 (by omega) (G.1 _ _ (rfl : ai_sp 574 = (100, 8)) (by decide) (by decide)) (by omega) (by decide) (hM.hd _ (by omega)) ?_
    refine ev_if 38 23 (by decide) rfl (cq0_lt (by omega)) d120_20 (fun hc_20 => ?_) (fun hc_20 => ?_)
    · refine ev_aload_n 39 rfl d120_38 rfl ?_
      refine ev_getr 42 rfl 9 1 d120_39 rfl (by omega) (G.1 _ _ (rfl : ai_sp 572 = (9, 0)) (by decide) (by decide)) (G.2 _ _ _ (rfl : ai_rf 572 1 = some 574)) ?_
      refine ev_iload_n 43 rfl d120_42 rfl ?_
      refine ev_iald_n (v := nI (σ.hd s) - 1) 44 rfl d120_43 (by omega) (G.1 _ _ (rfl : ai_sp 574 = (100, 8)) (by decide) (by decide)) (by omega) (by decide) (hM.hd _ (by omega)) ?_
      refine ev_if 54 47 (by decide) rfl (cq0_ge (by omega)) d120_44 (fun hc_44 => ?_) (fun hc_44 => ?_)
      · have e2 : σ.rr (nI s) = 0 := by rw [rr_T hs, if_neg (by omega), if_pos (by omega)]
        rw [e2, c_T rfl]
        simp only [nn_I (show s < 2147483648 by omega)]
        refine ev_aload_n 55 rfl d120_54 rfl ?_
        refine ev_iload_n 56 rfl d120_55 rfl ?_
        refine ev_iconst (v := nI 0) 57 rfl d120_56 (by decide) ?_
        refine ev_aload_n 58 rfl d120_57 rfl ?_
        refine ev_getr 61 rfl 9 2 d120_58 rfl (by omega) (G.1 _ _ (rfl : ai_sp 572 = (9, 0)) (by decide) (by decide)) (G.2 _ _ _ (rfl : ai_rf 572 2 = some 575)) ?_
        refine ev_iload_n 62 rfl d120_61 rfl ?_
        refine ev_iald_n (v := nI (σ.sz s)) 63 rfl d120_62 (by omega) (G.1 _ _ (rfl : ai_sp 575 = (100, 8)) (by decide) (by decide)) (by omega) (by decide) (hM.sz _ (by omega)) ?_
        refine ev_iconst (v := nI 1) 64 rfl d120_63 (by decide) ?_
        refine ev_isub (v := nI (σ.sz s) - 1) 65 rfl d120_64 rfl ?_
        refine ev_cb3 68 rfl 114 d120_65 rfl rfl (by rw [G.1 _ _ (rfl : ai_sp 572 = (9, 0)) (by decide) (by decide)]; rfl) (by omega) rfl (pb_iff (in_is (n := σ.sz s) rfl (by omega)) (m_in G)) (fun hq_65 => ?_) (fun hq_65 => ?_)
        · rw [c_T ((rng_is hsz).mpr hq_65)]
          obtain ⟨i, hi, rfl⟩ := hq_65
          simp only [nn_I (show i < 2147483648 by omega)]
          refine ev_if_T 78 (by decide) (by decide) d120_68 ?_
          refine ev_aload_n 79 rfl d120_78 rfl ?_
          refine ev_getr 82 rfl 9 3 d120_79 rfl (by omega) (G.1 _ _ (rfl : ai_sp 572 = (9, 0)) (by decide) (by decide)) (G.2 _ _ _ (rfl : ai_rf 572 3 = some 576)) ?_
          refine ev_bipush (v := nI 100) 84 rfl d120_82 (by decide) ?_
          refine ev_iload_n 85 rfl d120_84 rfl ?_
          refine ev_imul (v := nI (100 * s)) 86 rfl d120_85 (pk_mul _ _) ?_
          refine ev_iload_n 87 rfl d120_86 rfl ?_
          refine ev_iadd (v := nI ((100 * s) + i)) 88 rfl d120_87 (nI_add _ _) ?_
          refine ev_aload_n 89 rfl d120_88 rfl ?_
          refine ev_aload_n 90 rfl d120_89 rfl ?_
          refine ev_getr 93 rfl 9 1 d120_90 rfl (by omega) (G.1 _ _ (rfl : ai_sp 572 = (9, 0)) (by decide) (by decide)) (G.2 _ _ _ (rfl : ai_rf 572 1 = some 574)) ?_
          refine ev_iload_n 94 rfl d120_93 rfl ?_
          refine ev_iald_n (v := nI (σ.hd s) - 1) 95 rfl d120_94 (by omega) (G.1 _ _ (rfl : ai_sp 574 = (100, 8)) (by decide) (by decide)) (by omega) (by decide) (hM.hd _ (by omega)) ?_
          refine ev_bipush (v := nI 100) 97 rfl d120_95 (by decide) ?_
          refine ev_isub (v := nI (σ.hd s - 101)) 98 rfl d120_97 (by rw [show nI (σ.hd s) - 1 = nI (100 + (σ.hd s - 101)) by rw [nM_pos (by omega)]; congr 1; omega, ← nI_add]; exact hsub _) ?_
          refine ev_lload_n 99 rfl d120_98 rfl ?_
          refine ev_cp2 102 rfl 118 d120_99 rfl rfl (by rw [G.1 _ _ (rfl : ai_sp 572 = (9, 0)) (by decide) (by decide)]; rfl) (by omega) rfl (m_cut G (by omega)) ?_
          obtain ⟨L_1, hL_1⟩ : ∃ z, z = ai_ul L 576 ((100 * s) + i) (ai_cut (σ.hd s - 101) v) := ⟨_, rfl⟩
          refine ev_last_n (L2 := L_1) 103 rfl d120_102 (by omega) (G.1 _ _ (rfl : ai_sp 576 = (103, 800)) (by decide) (by decide)) (by omega) (by decide) hL_1.symm ?_
          refine ev_iconst (v := nI 1) 104 rfl d120_103 (by decide) ?_
          refine ev_iret (Or.inl rfl) d120_104 ?_
          refine ⟨_, _, rfl, rfl, rm_L hM (σ2 := σ.put s i v) rfl ?_, fun a ha => ⟨rfl, ul_row hL_1 (by omega)⟩⟩
          intro x hx k hk
          show L_1 576 (100 * x + k) = (if x = s ∧ k = i then ai_cut (σ.hd s - 101) v else σ.el x k)
          have hk9 := hV.sz x hx
          by_cases e : x = s ∧ k = i
          · obtain ⟨rfl, rfl⟩ := e; rw [if_pos ⟨rfl, rfl⟩, hL_1]; simp [ai_ul]
          · rw [if_neg e, ul_other hL_1 (by omega)]; exact hM.el x hx k hk
        · rw [c_F (fun h9 => hq_65 ((rng_is hsz).mp h9))]
          refine ev_if_F 78 71 (by decide) rfl (by decide) d120_68 ?_
          refine ev_aload_n 72 rfl d120_71 rfl ?_
          refine ev_bipush (v := (-5)) 74 rfl d120_72 (by decide) ?_
          refine ev_cy1 77 rfl 115 d120_74 rfl rfl (by rw [G.1 _ _ (rfl : ai_sp 572 = (9, 0)) (by decide) (by decide)]; rfl) (by omega) rfl (show ai_Ev none 115 0 [some (.ref 572), some (.int (-5))] [] (S, I, L, F) _ from by rw [show ((-5) : Int32) = -(nI 5) by decide]; exact m_refuse (I := I) (L := L) (S := S) (F := F) G (k := 5) (by omega)) (fun v_2 I_1 hr_74 => ?_)
          refine ev_iret (Or.inl rfl) d120_77 ?_
          exact pm_ref hM (by omega) hr_74
      · have e2 : σ.rr (nI s) = 3 := by rw [rr_T hs, if_pos (by omega)]
        rw [e2, c_F (by decide)]
        refine ev_aload_n 48 rfl d120_47 rfl ?_
        refine ev_bipush (v := (-3)) 50 rfl d120_48 (by decide) ?_
        refine ev_cy1 53 rfl 115 d120_50 rfl rfl (by rw [G.1 _ _ (rfl : ai_sp 572 = (9, 0)) (by decide) (by decide)]; rfl) (by omega) rfl (show ai_Ev none 115 0 [some (.ref 572), some (.int (-3))] [] (S, I, L, F) _ from by rw [show ((-3) : Int32) = -(nI 3) by decide]; exact m_refuse (I := I) (L := L) (S := S) (F := F) G (k := 3) (by omega)) (fun v_2 I_1 hr_50 => ?_)
        refine ev_iret (Or.inl rfl) d120_53 ?_
        exact pm_ref hM (by omega) hr_50
    · refine ev_aload_n 24 rfl d120_23 rfl ?_
      refine ev_iload_n 25 rfl d120_24 rfl ?_
      refine ev_cb1 28 rfl 117 d120_25 rfl rfl (by rw [G.1 _ _ (rfl : ai_sp 572 = (9, 0)) (by decide) (by decide)]; rfl) (by omega) rfl (m_hasRow G hM hV (by omega)) (fun hq_25 => ?_) (fun hq_25 => ?_)
      · refine ev_if_T 38 (by decide) (by decide) d120_28 ?_
        refine ev_aload_n 39 rfl d120_38 rfl ?_
        refine ev_getr 42 rfl 9 1 d120_39 rfl (by omega) (G.1 _ _ (rfl : ai_sp 572 = (9, 0)) (by decide) (by decide)) (G.2 _ _ _ (rfl : ai_rf 572 1 = some 574)) ?_
        refine ev_iload_n 43 rfl d120_42 rfl ?_
        refine ev_iald_n (v := nI (σ.hd s) - 1) 44 rfl d120_43 (by omega) (G.1 _ _ (rfl : ai_sp 574 = (100, 8)) (by decide) (by decide)) (by omega) (by decide) (hM.hd _ (by omega)) ?_
        refine ev_if 54 47 (by decide) rfl (cq0_ge (by omega)) d120_44 (fun hc_44 => ?_) (fun hc_44 => ?_)
        · have e2 : σ.rr (nI s) = 0 := by rw [rr_T hs, if_neg (by omega), if_pos (by omega)]
          rw [e2, c_T rfl]
          simp only [nn_I (show s < 2147483648 by omega)]
          refine ev_aload_n 55 rfl d120_54 rfl ?_
          refine ev_iload_n 56 rfl d120_55 rfl ?_
          refine ev_iconst (v := nI 0) 57 rfl d120_56 (by decide) ?_
          refine ev_aload_n 58 rfl d120_57 rfl ?_
          refine ev_getr 61 rfl 9 2 d120_58 rfl (by omega) (G.1 _ _ (rfl : ai_sp 572 = (9, 0)) (by decide) (by decide)) (G.2 _ _ _ (rfl : ai_rf 572 2 = some 575)) ?_
          refine ev_iload_n 62 rfl d120_61 rfl ?_
          refine ev_iald_n (v := nI (σ.sz s)) 63 rfl d120_62 (by omega) (G.1 _ _ (rfl : ai_sp 575 = (100, 8)) (by decide) (by decide)) (by omega) (by decide) (hM.sz _ (by omega)) ?_
          refine ev_iconst (v := nI 1) 64 rfl d120_63 (by decide) ?_
          refine ev_isub (v := nI (σ.sz s) - 1) 65 rfl d120_64 rfl ?_
          refine ev_cb3 68 rfl 114 d120_65 rfl rfl (by rw [G.1 _ _ (rfl : ai_sp 572 = (9, 0)) (by decide) (by decide)]; rfl) (by omega) rfl (pb_iff (in_is (n := σ.sz s) rfl (by omega)) (m_in G)) (fun hq_65 => ?_) (fun hq_65 => ?_)
          · rw [c_T ((rng_is hsz).mpr hq_65)]
            obtain ⟨i, hi, rfl⟩ := hq_65
            simp only [nn_I (show i < 2147483648 by omega)]
            refine ev_if_T 78 (by decide) (by decide) d120_68 ?_
            refine ev_aload_n 79 rfl d120_78 rfl ?_
            refine ev_getr 82 rfl 9 3 d120_79 rfl (by omega) (G.1 _ _ (rfl : ai_sp 572 = (9, 0)) (by decide) (by decide)) (G.2 _ _ _ (rfl : ai_rf 572 3 = some 576)) ?_
            refine ev_bipush (v := nI 100) 84 rfl d120_82 (by decide) ?_
            refine ev_iload_n 85 rfl d120_84 rfl ?_
            refine ev_imul (v := nI (100 * s)) 86 rfl d120_85 (pk_mul _ _) ?_
            refine ev_iload_n 87 rfl d120_86 rfl ?_
            refine ev_iadd (v := nI ((100 * s) + i)) 88 rfl d120_87 (nI_add _ _) ?_
            refine ev_aload_n 89 rfl d120_88 rfl ?_
            refine ev_aload_n 90 rfl d120_89 rfl ?_
            refine ev_getr 93 rfl 9 1 d120_90 rfl (by omega) (G.1 _ _ (rfl : ai_sp 572 = (9, 0)) (by decide) (by decide)) (G.2 _ _ _ (rfl : ai_rf 572 1 = some 574)) ?_
            refine ev_iload_n 94 rfl d120_93 rfl ?_
            refine ev_iald_n (v := nI (σ.hd s) - 1) 95 rfl d120_94 (by omega) (G.1 _ _ (rfl : ai_sp 574 = (100, 8)) (by decide) (by decide)) (by omega) (by decide) (hM.hd _ (by omega)) ?_
            refine ev_bipush (v := nI 100) 97 rfl d120_95 (by decide) ?_
            refine ev_isub (v := nI (σ.hd s - 101)) 98 rfl d120_97 (by rw [show nI (σ.hd s) - 1 = nI (100 + (σ.hd s - 101)) by rw [nM_pos (by omega)]; congr 1; omega, ← nI_add]; exact hsub _) ?_
            refine ev_lload_n 99 rfl d120_98 rfl ?_
            refine ev_cp2 102 rfl 118 d120_99 rfl rfl (by rw [G.1 _ _ (rfl : ai_sp 572 = (9, 0)) (by decide) (by decide)]; rfl) (by omega) rfl (m_cut G (by omega)) ?_
            obtain ⟨L_1, hL_1⟩ : ∃ z, z = ai_ul L 576 ((100 * s) + i) (ai_cut (σ.hd s - 101) v) := ⟨_, rfl⟩
            refine ev_last_n (L2 := L_1) 103 rfl d120_102 (by omega) (G.1 _ _ (rfl : ai_sp 576 = (103, 800)) (by decide) (by decide)) (by omega) (by decide) hL_1.symm ?_
            refine ev_iconst (v := nI 1) 104 rfl d120_103 (by decide) ?_
            refine ev_iret (Or.inl rfl) d120_104 ?_
            refine ⟨_, _, rfl, rfl, rm_L hM (σ2 := σ.put s i v) rfl ?_, fun a ha => ⟨rfl, ul_row hL_1 (by omega)⟩⟩
            intro x hx k hk
            show L_1 576 (100 * x + k) = (if x = s ∧ k = i then ai_cut (σ.hd s - 101) v else σ.el x k)
            have hk9 := hV.sz x hx
            by_cases e : x = s ∧ k = i
            · obtain ⟨rfl, rfl⟩ := e; rw [if_pos ⟨rfl, rfl⟩, hL_1]; simp [ai_ul]
            · rw [if_neg e, ul_other hL_1 (by omega)]; exact hM.el x hx k hk
          · rw [c_F (fun h9 => hq_65 ((rng_is hsz).mp h9))]
            refine ev_if_F 78 71 (by decide) rfl (by decide) d120_68 ?_
            refine ev_aload_n 72 rfl d120_71 rfl ?_
            refine ev_bipush (v := (-5)) 74 rfl d120_72 (by decide) ?_
            refine ev_cy1 77 rfl 115 d120_74 rfl rfl (by rw [G.1 _ _ (rfl : ai_sp 572 = (9, 0)) (by decide) (by decide)]; rfl) (by omega) rfl (show ai_Ev none 115 0 [some (.ref 572), some (.int (-5))] [] (S, I, L, F) _ from by rw [show ((-5) : Int32) = -(nI 5) by decide]; exact m_refuse (I := I) (L := L) (S := S) (F := F) G (k := 5) (by omega)) (fun v_2 I_1 hr_74 => ?_)
            refine ev_iret (Or.inl rfl) d120_77 ?_
            exact pm_ref hM (by omega) hr_74
        · have e2 : σ.rr (nI s) = 3 := by rw [rr_T hs, if_pos (by omega)]
          rw [e2, c_F (by decide)]
          refine ev_aload_n 48 rfl d120_47 rfl ?_
          refine ev_bipush (v := (-3)) 50 rfl d120_48 (by decide) ?_
          refine ev_cy1 53 rfl 115 d120_50 rfl rfl (by rw [G.1 _ _ (rfl : ai_sp 572 = (9, 0)) (by decide) (by decide)]; rfl) (by omega) rfl (show ai_Ev none 115 0 [some (.ref 572), some (.int (-3))] [] (S, I, L, F) _ from by rw [show ((-3) : Int32) = -(nI 3) by decide]; exact m_refuse (I := I) (L := L) (S := S) (F := F) G (k := 3) (by omega)) (fun v_2 I_1 hr_50 => ?_)
          refine ev_iret (Or.inl rfl) d120_53 ?_
          exact pm_ref hM (by omega) hr_50
      · have e2 : σ.rr (nI s) = 2 := by rw [rr_T hs, if_neg (by omega), if_neg (by omega)]
        rw [e2, c_F (by decide)]
        
        refine ev_if_F 38 31 (by decide) rfl (by decide) d120_28 ?_
        refine ev_aload_n 32 rfl d120_31 rfl ?_
        refine ev_bipush (v := (-2)) 34 rfl d120_32 (by decide) ?_
        refine ev_cy1 37 rfl 115 d120_34 rfl rfl (by rw [G.1 _ _ (rfl : ai_sp 572 = (9, 0)) (by decide) (by decide)]; rfl) (by omega) rfl (show ai_Ev none 115 0 [some (.ref 572), some (.int (-2))] [] (S, I, L, F) _ from by rw [show ((-2) : Int32) = -(nI 2) by decide]; exact m_refuse (I := I) (L := L) (S := S) (F := F) G (k := 2) (by omega)) (fun v_2 I_1 hr_34 => ?_)
        refine ev_iret (Or.inl rfl) d120_37 ?_
        exact pm_ref hM (by omega) hr_34
  · rw [rr_F hq_2, c_F (by decide)]
    refine ev_if_F 14 8 (by decide) rfl (by decide) d120_5 ?_
    refine ev_aload_n 9 rfl d120_8 rfl ?_
    refine ev_iconst (v := (-1)) 10 rfl d120_9 (by decide) ?_
    refine ev_cy1 13 rfl 115 d120_10 rfl rfl (by rw [G.1 _ _ (rfl : ai_sp 572 = (9, 0)) (by decide) (by decide)]; rfl) (by omega) rfl (show ai_Ev none 115 0 [some (.ref 572), some (.int (-1))] [] (S, I, L, F) _ from by rw [show ((-1) : Int32) = -(nI 1) by decide]; exact m_refuse (I := I) (L := L) (S := S) (F := F) G (k := 1) (by omega)) (fun v_2 I_1 hr_10 => ?_)
    refine ev_iret (Or.inl rfl) d120_13 ?_
    exact pm_ref hM (by omega) hr_10
theorem m_row_loop (G : ai_G S F) {L0 : Nat → Nat → Int64} {I0 : Nat → Nat → Int32} (hM : ai_RM σ I0 L0) (hV : ai_IV σ) {s so n : Nat} (hs : s < 8) (hn : n ≤ 100) (hI : I = ai_ui (ai_ui I0 574 s (nI (100 + so))) 575 s (nI n)) : ∀ (z k : Nat) (L : Nat → Nat → Int64), k + z = 100 → (∀ i, i < k → L 576 (100 * s + i) = lN 0) → (∀ x, ¬ (100 * s ≤ x ∧ x < 100 * s + 100) → L 576 x = L0 576 x) → (∀ a, a ≠ 576 → L a = L0 a) → ai_Ev none 119 75 [some (.ref 572), some (.int (nI s)), some (.int (nI so)), some (.int (nI n)), some (.int (nI k))] [] (S, I, L, F) (ai_PM S F I0 L0 (σ.row s so n, nI 1)) := by
  intro z
  induction z with
  | zero =>
    intro k L hz hz0 hL hLo
    have e9 : k = 100 := by omega
    subst e9
    refine ev_iload 77 rfl d119_75 rfl ?_
    refine ev_bipush (v := nI 100) 79 rfl d119_77 (by decide) ?_
    refine ev_icmp_T 101 (by decide) (by decide) d119_79 ?_
    refine ev_iconst (v := nI 1) 102 rfl d119_101 (by decide) ?_
    refine ev_iret (Or.inl rfl) d119_102 ?_
    exact ⟨_, _, rfl, rfl, rm_row hM hs hn hI (fun i hi => hz0 i hi) hL hV.sz, fun a ha => ⟨by rw [ui2_row hI (by omega) (by omega)], hLo a (by omega)⟩⟩
  | succ z ih =>
    intro k L hz hz0 hL hLo
    refine ev_iload 77 rfl d119_75 rfl ?_
    refine ev_bipush (v := nI 100) 79 rfl d119_77 (by decide) ?_
    refine ev_icmp 101 82 (by decide) rfl (cn_ge (by omega) (by omega)) d119_79 (fun hc_79 => absurd hc_79 (by omega)) (fun hc_79 => ?_)
    refine ev_aload_n 83 rfl d119_82 rfl ?_
    refine ev_getr 86 rfl 9 3 d119_83 rfl (by omega) (G.1 _ _ (rfl : ai_sp 572 = (9, 0)) (by decide) (by decide)) (G.2 _ _ _ (rfl : ai_rf 572 3 = some 576)) ?_
    refine ev_bipush (v := nI 100) 88 rfl d119_86 (by decide) ?_
    refine ev_iload_n 89 rfl d119_88 rfl ?_
    refine ev_imul (v := nI (100 * s)) 90 rfl d119_89 (pk_mul _ _) ?_
    refine ev_iload 92 rfl d119_90 rfl ?_
    refine ev_iadd (v := nI ((100 * s) + k)) 93 rfl d119_92 (nI_add _ _) ?_
    refine ev_lconst (v := lN 0) 94 rfl d119_93 (by decide) ?_
    obtain ⟨L_1, hL_1⟩ : ∃ z, z = ai_ul L 576 ((100 * s) + k) 0 := ⟨_, rfl⟩
    refine ev_last_n (L2 := L_1) 95 rfl d119_94 (by omega) (G.1 _ _ (rfl : ai_sp 576 = (103, 800)) (by decide) (by decide)) (by omega) (by decide) hL_1.symm ?_
    refine ev_iinc (v := nI (k + 1)) 98 rfl d119_95 rfl (Nat.le_of_ble_eq_true rfl) (nI_add _ 1) rfl ?_
    show ai_Ev _ _ _ [some (.ref 572), some (.int (nI s)), some (.int (nI so)), some (.int (nI n)), some (.int (nI (k + 1)))] _ _ _
    refine ev_goto 75 (by decide) d119_98 ?_
    refine ih (k + 1) _ (by omega) (fun i hi => ?_) (fun x hx => by rw [ul_other hL_1 (by omega)]; exact hL x hx) (fun a ha => by rw [ul_row hL_1 ha]; exact hLo a ha)
    by_cases e : i = k
    · subst e; rw [hL_1]; simp [ai_ul]; rfl
    · rw [ul_other hL_1 (by omega)]; exact hz0 i (by omega)
theorem m_row (G : ai_G S F) (hM : ai_RM σ I L) (hV : ai_IV σ) {z1 : Int32} {z2 : Int32} {z3 : Int32} : ai_Ev none 119 0 [some (.ref 572), some (.int z1), some (.int z2), some (.int z3), none] [] (S, I, L, F) (ai_PM S F I L (o_row σ z1 z2 z3)) := by
  have hnT := hV.nT
  have hnQ := hV.nQ
  have hnJ := hV.nJ
  unfold o_row
  refine ev_aload_n 1 rfl d119_0 rfl ?_
  refine ev_iload_n 2 rfl d119_1 rfl ?_
  refine ev_cb1 5 rfl 116 d119_2 rfl rfl (by rw [G.1 _ _ (rfl : ai_sp 572 = (9, 0)) (by decide) (by decide)]; rfl) (by omega) rfl (m_isShelf G) (fun hq_2 => ?_) (fun hq_2 => ?_)
  · try rw [c_T hq_2]
    obtain ⟨s, hs, rfl⟩ := hq_2
    refine ev_if_T 14 (by decide) (by decide) d119_5 ?_
    refine ev_iload_n 15 rfl d119_14 rfl ?_
    refine ev_if 25 18 (by decide) rfl cz_ge d119_15 (fun hc_15 => ?_) (fun hc_15 => ?_)
    · rw [c_F (Int32.not_lt.mpr hc_15)]
      try rw [c_T hc_15]
      obtain ⟨n, hn, rfl⟩ := nn_nI ( hc_15)
      refine ev_aload_n 26 rfl d119_25 rfl ?_
      refine ev_iload_n 27 rfl d119_26 rfl ?_
      refine ev_iconst (v := nI 0) 28 rfl d119_27 (by decide) ?_
      refine ev_iconst (v := nI 3) 29 rfl d119_28 (by decide) ?_
      refine ev_cb3 32 rfl 114 d119_29 rfl rfl (by rw [G.1 _ _ (rfl : ai_sp 572 = (9, 0)) (by decide) (by decide)]; rfl) (by omega) rfl (pb_iff (in_is (n := 4) (by decide) (by omega)) (m_in G)) (fun hq_29 => ?_) (fun hq_29 => ?_)
      · try rw [c_T hq_29]
        obtain ⟨so, hso, rfl⟩ := hq_29
        refine ev_if_T 42 (by decide) (by decide) d119_32 ?_
        refine ev_iload_n 43 rfl d119_42 rfl ?_
        refine ev_bipush (v := nI 100) 45 rfl d119_43 (by decide) ?_
        refine ev_icmp 55 48 (by decide) rfl (cn_le (by omega) (by omega)) d119_45 (fun hc_45 => ?_) (fun hc_45 => ?_)
        · rw [c_T (is_T (by omega))]
          simp only [nn_I (show s < 2147483648 by omega)]
          simp only [nn_I (show so < 2147483648 by omega)]
          simp only [nn_I (show n < 2147483648 by omega)]
          try rw [c_T hc_45]
          refine ev_aload_n 56 rfl d119_55 rfl ?_
          refine ev_getr 59 rfl 9 1 d119_56 rfl (by omega) (G.1 _ _ (rfl : ai_sp 572 = (9, 0)) (by decide) (by decide)) (G.2 _ _ _ (rfl : ai_rf 572 1 = some 574)) ?_
          refine ev_iload_n 60 rfl d119_59 rfl ?_
          refine ev_bipush (v := nI 100) 62 rfl d119_60 (by decide) ?_
          refine ev_iload_n 63 rfl d119_62 rfl ?_
          refine ev_iadd (v := nI (100 + so)) 64 rfl d119_63 (nI_add _ _) ?_
          obtain ⟨I_1, hI_1⟩ : ∃ z, z = ai_ui I 574 s (nI (100 + so)) := ⟨_, rfl⟩
          refine ev_iast_n (I2 := I_1) 65 rfl d119_64 (by omega) (G.1 _ _ (rfl : ai_sp 574 = (100, 8)) (by decide) (by decide)) (by omega) (by decide) hI_1.symm ?_
          refine ev_aload_n 66 rfl d119_65 rfl ?_
          refine ev_getr 69 rfl 9 2 d119_66 rfl (by omega) (G.1 _ _ (rfl : ai_sp 572 = (9, 0)) (by decide) (by decide)) (G.2 _ _ _ (rfl : ai_rf 572 2 = some 575)) ?_
          refine ev_iload_n 70 rfl d119_69 rfl ?_
          refine ev_iload_n 71 rfl d119_70 rfl ?_
          obtain ⟨I_2, hI_2⟩ : ∃ z, z = ai_ui I_1 575 s (nI n) := ⟨_, rfl⟩
          refine ev_iast_n (I2 := I_2) 72 rfl d119_71 (by omega) (G.1 _ _ (rfl : ai_sp 575 = (100, 8)) (by decide) (by decide)) (by omega) (by decide) hI_2.symm ?_
          refine ev_iconst (v := nI 0) 73 rfl d119_72 (by decide) ?_
          refine ev_store_i 75 rfl d119_73 ⟨rfl, Nat.le_of_ble_eq_true rfl⟩ rfl ?_
          show ai_Ev _ _ _ [some (.ref 572), some (.int (nI s)), some (.int (nI so)), some (.int (nI n)), some (.int (nI 0))] _ _ _
          exact m_row_loop G hM hV (by omega) (by omega) (by rw [hI_2, hI_1]) 100 0 L (by omega) (fun i hi => absurd hi (by omega)) (fun _ _ => rfl) (fun _ _ => rfl)
        · rw [c_F (is_F (by omega) (by omega) (by omega))]
          try rw [c_F hc_45]
          refine ev_aload_n 49 rfl d119_48 rfl ?_
          refine ev_bipush (v := (-7)) 51 rfl d119_49 (by decide) ?_
          refine ev_cy1 54 rfl 115 d119_51 rfl rfl (by rw [G.1 _ _ (rfl : ai_sp 572 = (9, 0)) (by decide) (by decide)]; rfl) (by omega) rfl (show ai_Ev none 115 0 [some (.ref 572), some (.int (-7))] [] (S, I, L, F) _ from by rw [show ((-7) : Int32) = -(nI 7) by decide]; exact m_refuse (I := I) (L := L) (S := S) (F := F) G (k := 7) (by omega)) (fun v_2 I_1 hr_51 => ?_)
          refine ev_iret (Or.inl rfl) d119_54 ?_
          exact pm_ref hM (by omega) hr_51
      · try rw [c_F hq_29]
        refine ev_if_F 42 35 (by decide) rfl (by decide) d119_32 ?_
        refine ev_aload_n 36 rfl d119_35 rfl ?_
        refine ev_bipush (v := (-6)) 38 rfl d119_36 (by decide) ?_
        refine ev_cy1 41 rfl 115 d119_38 rfl rfl (by rw [G.1 _ _ (rfl : ai_sp 572 = (9, 0)) (by decide) (by decide)]; rfl) (by omega) rfl (show ai_Ev none 115 0 [some (.ref 572), some (.int (-6))] [] (S, I, L, F) _ from by rw [show ((-6) : Int32) = -(nI 6) by decide]; exact m_refuse (I := I) (L := L) (S := S) (F := F) G (k := 6) (by omega)) (fun v_2 I_1 hr_38 => ?_)
        refine ev_iret (Or.inl rfl) d119_41 ?_
        exact pm_ref hM (by omega) hr_38
    · rw [c_T (Int32.not_le.mp hc_15)]
      try rw [c_F hc_15]
      refine ev_aload_n 19 rfl d119_18 rfl ?_
      refine ev_bipush (v := (-4)) 21 rfl d119_19 (by decide) ?_
      refine ev_cy1 24 rfl 115 d119_21 rfl rfl (by rw [G.1 _ _ (rfl : ai_sp 572 = (9, 0)) (by decide) (by decide)]; rfl) (by omega) rfl (show ai_Ev none 115 0 [some (.ref 572), some (.int (-4))] [] (S, I, L, F) _ from by rw [show ((-4) : Int32) = -(nI 4) by decide]; exact m_refuse (I := I) (L := L) (S := S) (F := F) G (k := 4) (by omega)) (fun v_2 I_1 hr_21 => ?_)
      refine ev_iret (Or.inl rfl) d119_24 ?_
      exact pm_ref hM (by omega) hr_21
  · try rw [c_F hq_2]
    refine ev_if_F 14 8 (by decide) rfl (by decide) d119_5 ?_
    refine ev_aload_n 9 rfl d119_8 rfl ?_
    refine ev_iconst (v := (-1)) 10 rfl d119_9 (by decide) ?_
    refine ev_cy1 13 rfl 115 d119_10 rfl rfl (by rw [G.1 _ _ (rfl : ai_sp 572 = (9, 0)) (by decide) (by decide)]; rfl) (by omega) rfl (show ai_Ev none 115 0 [some (.ref 572), some (.int (-1))] [] (S, I, L, F) _ from by rw [show ((-1) : Int32) = -(nI 1) by decide]; exact m_refuse (I := I) (L := L) (S := S) (F := F) G (k := 1) (by omega)) (fun v_2 I_1 hr_10 => ?_)
    refine ev_iret (Or.inl rfl) d119_13 ?_
    exact pm_ref hM (by omega) hr_10
theorem m_bar (G : ai_G S F) (hM : ai_RM σ I L) (hV : ai_IV σ) {z1 z2 : Int32} : ai_Ev none 141 0 [some (.ref 572), some (.int z1), some (.int z2), none] [] (S, I, L, F) (ai_PM S F I L (o_bar σ z1 z2)) := by
  have hnT := hV.nT
  have hnQ := hV.nQ
  have hnJ := hV.nJ
  unfold o_bar
  refine ev_iload_n 1 rfl d141_0 rfl ?_
  refine ev_if 16 4 (by decide) rfl cz_ne d141_1 (fun hc_1 => ?_) (fun hc_1 => ?_)
  · refine ev_iload_n 17 rfl d141_16 rfl ?_
    refine ev_iconst (v := nI 1) 18 rfl d141_17 (by decide) ?_
    refine ev_icmp 32 21 (by decide) rfl cz_ne d141_18 (fun hc_18 => ?_) (fun hc_18 => ?_)
    · refine ev_iload_n 33 rfl d141_32 rfl ?_
      refine ev_iconst (v := nI 2) 34 rfl d141_33 (by decide) ?_
      refine ev_icmp 52 37 (by decide) rfl cz_ne d141_34 (fun hc_34 => ?_) (fun hc_34 => ?_)
      · rw [c_F (fun h9 => hc_1 h9.1), c_F (fun h9 => hc_18 h9.1), c_F (fun h9 => hc_34 h9.1)]
        refine ev_iconst (v := nI 0) 53 rfl d141_52 (by decide) ?_
        refine ev_store_in 54 rfl d141_53 (Nat.le_of_ble_eq_true rfl) rfl ?_
        show ai_Ev _ _ _ [some (.ref 572), some (.int z1), some (.int z2), some (.int (nI 0))] _ _ _
        refine ev_iload_n 55 rfl d141_54 rfl ?_
        refine ev_if_F 65 58 (by decide) rfl (by decide) d141_55 ?_
        refine ev_aload_n 59 rfl d141_58 rfl ?_
        refine ev_bipush (v := (-6)) 61 rfl d141_59 (by decide) ?_
        refine ev_cy1 64 rfl 115 d141_61 rfl rfl (by rw [G.1 _ _ (rfl : ai_sp 572 = (9, 0)) (by decide) (by decide)]; rfl) (by omega) rfl (show ai_Ev none 115 0 [some (.ref 572), some (.int (-6))] [] (S, I, L, F) _ from by rw [show ((-6) : Int32) = -(nI 6) by decide]; exact m_refuse (I := I) (L := L) (S := S) (F := F) G (k := 6) (by omega)) (fun v_2 I_1 hr_61 => ?_)
        refine ev_iret (Or.inl rfl) d141_64 ?_
        exact pm_ref hM (by omega) hr_61
      · have e1 : z1 = nI 2 := Classical.not_not.mp hc_34
        subst e1
        refine ev_aload_n 38 rfl d141_37 rfl ?_
        refine ev_iload_n 39 rfl d141_38 rfl ?_
        refine ev_iconst (v := nI 0) 40 rfl d141_39 (by decide) ?_
        refine ev_bipush (v := nI 100) 42 rfl d141_40 (by decide) ?_
        refine ev_cb3 45 rfl 114 d141_42 rfl rfl (by rw [G.1 _ _ (rfl : ai_sp 572 = (9, 0)) (by decide) (by decide)]; rfl) (by omega) rfl (pb_iff (in_is (n := 101) (by decide) (by omega)) (m_in G)) (fun hq_42 => ?_) (fun hq_42 => ?_)
        · rw [c_F (fun h => absurd h.1 (by decide)), c_F (fun h => absurd h.1 (by decide)), c_T ⟨rfl, hq_42⟩]
          obtain ⟨n, hn, rfl⟩ := hq_42
          simp only [nn_I (show n < 2147483648 by omega)]
          refine ev_if_F 52 48 (by decide) rfl (by decide) d141_45 ?_
          refine ev_iconst (v := nI 1) 49 rfl d141_48 (by decide) ?_
          refine ev_goto 53 (by decide) d141_49 ?_
          refine ev_store_in 54 rfl d141_53 (Nat.le_of_ble_eq_true rfl) rfl ?_
          show ai_Ev _ _ _ [some (.ref 572), some (.int (nI 2)), some (.int (nI n)), some (.int (nI 1))] _ _ _
          refine ev_iload_n 55 rfl d141_54 rfl ?_
          refine ev_if_T 65 (by decide) (by decide) d141_55 ?_
          
          refine ev_iload_n 66 rfl d141_65 rfl ?_
          refine ev_if_T 74 (by decide) (by decide) d141_66 ?_
          refine ev_iload_n 75 rfl d141_74 rfl ?_
          refine ev_iconst (v := nI 1) 76 rfl d141_75 (by decide) ?_
          refine ev_icmp_T 84 (by decide) (by decide) d141_76 ?_
          refine ev_iload_n 85 rfl d141_84 rfl ?_
          refine ev_iconst (v := nI 2) 86 rfl d141_85 (by decide) ?_
          refine ev_icmp_F 94 89 (by decide) rfl (by decide) d141_86 ?_
          refine ev_aload_n 90 rfl d141_89 rfl ?_
          refine ev_iload_n 91 rfl d141_90 rfl ?_
          obtain ⟨I_1, hI_1⟩ : ∃ z, z = ai_ui I 572 23 (nI n) := ⟨_, rfl⟩
          refine ev_puti (I2 := I_1) 94 rfl 9 23 d141_91 rfl (by omega) (G.1 _ _ (rfl : ai_sp 572 = (9, 0)) (by decide) (by decide)) (fun h => absurd h (by decide)) hI_1.symm ?_
          refine ev_iconst (v := nI 1) 95 rfl d141_94 (by decide) ?_
          refine ev_iret (Or.inl rfl) d141_95 ?_
          exact ⟨_, _, rfl, rfl, rm_haste hM hI_1, fun a ha => ⟨by rw [ui_row hI_1 (by omega)], rfl⟩⟩
        · rw [c_F (fun h => absurd h.1 (by decide)), c_F (fun h => absurd h.1 (by decide)), c_F (fun h9 => hq_42 h9.2)]
          refine ev_if_T 52 (by decide) (by decide) d141_45 ?_
          refine ev_iconst (v := nI 0) 53 rfl d141_52 (by decide) ?_
          refine ev_store_in 54 rfl d141_53 (Nat.le_of_ble_eq_true rfl) rfl ?_
          show ai_Ev _ _ _ [some (.ref 572), some (.int (nI 2)), some (.int z2), some (.int (nI 0))] _ _ _
          refine ev_iload_n 55 rfl d141_54 rfl ?_
          refine ev_if_F 65 58 (by decide) rfl (by decide) d141_55 ?_
          refine ev_aload_n 59 rfl d141_58 rfl ?_
          refine ev_bipush (v := (-6)) 61 rfl d141_59 (by decide) ?_
          refine ev_cy1 64 rfl 115 d141_61 rfl rfl (by rw [G.1 _ _ (rfl : ai_sp 572 = (9, 0)) (by decide) (by decide)]; rfl) (by omega) rfl (show ai_Ev none 115 0 [some (.ref 572), some (.int (-6))] [] (S, I, L, F) _ from by rw [show ((-6) : Int32) = -(nI 6) by decide]; exact m_refuse (I := I) (L := L) (S := S) (F := F) G (k := 6) (by omega)) (fun v_2 I_1 hr_61 => ?_)
          refine ev_iret (Or.inl rfl) d141_64 ?_
          exact pm_ref hM (by omega) hr_61
    · have e1 : z1 = nI 1 := Classical.not_not.mp hc_18
      subst e1
      refine ev_aload_n 22 rfl d141_21 rfl ?_
      refine ev_iload_n 23 rfl d141_22 rfl ?_
      refine ev_iconst (v := nI 1) 24 rfl d141_23 (by decide) ?_
      refine ev_bipush (v := nI 24) 26 rfl d141_24 (by decide) ?_
      refine ev_cb3 29 rfl 114 d141_26 rfl rfl (by rw [G.1 _ _ (rfl : ai_sp 572 = (9, 0)) (by decide) (by decide)]; rfl) (by omega) rfl (pb_iff (in_1 (n := 25) (by decide) (by omega)) (m_in G)) (fun hq_26 => ?_) (fun hq_26 => ?_)
      · rw [c_F (fun h => absurd h.1 (by decide)), c_T ⟨rfl, hq_26⟩]
        obtain ⟨n, hn, rfl⟩ := hq_26.1
        simp only [nn_I (show n < 2147483648 by omega)]
        refine ev_goto 53 (by decide) d141_29 ?_
        refine ev_store_in 54 rfl d141_53 (Nat.le_of_ble_eq_true rfl) rfl ?_
        show ai_Ev _ _ _ [some (.ref 572), some (.int (nI 1)), some (.int (nI n)), some (.int (nI 1))] _ _ _
        refine ev_iload_n 55 rfl d141_54 rfl ?_
        refine ev_if_T 65 (by decide) (by decide) d141_55 ?_
        
        refine ev_iload_n 66 rfl d141_65 rfl ?_
        refine ev_if_T 74 (by decide) (by decide) d141_66 ?_
        refine ev_iload_n 75 rfl d141_74 rfl ?_
        refine ev_iconst (v := nI 1) 76 rfl d141_75 (by decide) ?_
        refine ev_icmp_F 84 79 (by decide) rfl (by decide) d141_76 ?_
        refine ev_aload_n 80 rfl d141_79 rfl ?_
        refine ev_iload_n 81 rfl d141_80 rfl ?_
        obtain ⟨I_1, hI_1⟩ : ∃ z, z = ai_ui I 572 22 (nI n) := ⟨_, rfl⟩
        refine ev_puti (I2 := I_1) 84 rfl 9 22 d141_81 rfl (by omega) (G.1 _ _ (rfl : ai_sp 572 = (9, 0)) (by decide) (by decide)) (fun h => absurd h (by decide)) hI_1.symm ?_
        refine ev_iload_n 85 rfl d141_84 rfl ?_
        refine ev_iconst (v := nI 2) 86 rfl d141_85 (by decide) ?_
        refine ev_icmp_T 94 (by decide) (by decide) d141_86 ?_
        refine ev_iconst (v := nI 1) 95 rfl d141_94 (by decide) ?_
        refine ev_iret (Or.inl rfl) d141_95 ?_
        exact ⟨_, _, rfl, rfl, rm_look hM hI_1, fun a ha => ⟨by rw [ui_row hI_1 (by omega)], rfl⟩⟩
      · rw [c_F (fun h => absurd h.1 (by decide)), c_F (fun h9 => hq_26 h9.2), c_F (fun h => absurd h.1 (by decide))]
        refine ev_goto 53 (by decide) d141_29 ?_
        refine ev_store_in 54 rfl d141_53 (Nat.le_of_ble_eq_true rfl) rfl ?_
        show ai_Ev _ _ _ [some (.ref 572), some (.int (nI 1)), some (.int z2), some (.int (nI 0))] _ _ _
        refine ev_iload_n 55 rfl d141_54 rfl ?_
        refine ev_if_F 65 58 (by decide) rfl (by decide) d141_55 ?_
        refine ev_aload_n 59 rfl d141_58 rfl ?_
        refine ev_bipush (v := (-6)) 61 rfl d141_59 (by decide) ?_
        refine ev_cy1 64 rfl 115 d141_61 rfl rfl (by rw [G.1 _ _ (rfl : ai_sp 572 = (9, 0)) (by decide) (by decide)]; rfl) (by omega) rfl (show ai_Ev none 115 0 [some (.ref 572), some (.int (-6))] [] (S, I, L, F) _ from by rw [show ((-6) : Int32) = -(nI 6) by decide]; exact m_refuse (I := I) (L := L) (S := S) (F := F) G (k := 6) (by omega)) (fun v_2 I_1 hr_61 => ?_)
        refine ev_iret (Or.inl rfl) d141_64 ?_
        exact pm_ref hM (by omega) hr_61
  · have e1 : z1 = nI 0 := Classical.not_not.mp hc_1
    subst e1
    refine ev_aload_n 5 rfl d141_4 rfl ?_
    refine ev_iload_n 6 rfl d141_5 rfl ?_
    refine ev_iconst (v := nI 1) 7 rfl d141_6 (by decide) ?_
    refine ev_sipush (v := nI 1000) 10 rfl d141_7 (by decide) ?_
    refine ev_cb3 13 rfl 114 d141_10 rfl rfl (by rw [G.1 _ _ (rfl : ai_sp 572 = (9, 0)) (by decide) (by decide)]; rfl) (by omega) rfl (pb_iff (in_1 (n := 1001) (by decide) (by omega)) (m_in G)) (fun hq_10 => ?_) (fun hq_10 => ?_)
    · rw [c_T ⟨rfl, hq_10⟩]
      obtain ⟨n, hn, rfl⟩ := hq_10.1
      simp only [nn_I (show n < 2147483648 by omega)]
      refine ev_goto 53 (by decide) d141_13 ?_
      refine ev_store_in 54 rfl d141_53 (Nat.le_of_ble_eq_true rfl) rfl ?_
      show ai_Ev _ _ _ [some (.ref 572), some (.int (nI 0)), some (.int (nI n)), some (.int (nI 1))] _ _ _
      refine ev_iload_n 55 rfl d141_54 rfl ?_
      refine ev_if_T 65 (by decide) (by decide) d141_55 ?_
      
      refine ev_iload_n 66 rfl d141_65 rfl ?_
      refine ev_if_F 74 69 (by decide) rfl (by decide) d141_66 ?_
      refine ev_aload_n 70 rfl d141_69 rfl ?_
      refine ev_iload_n 71 rfl d141_70 rfl ?_
      obtain ⟨I_1, hI_1⟩ : ∃ z, z = ai_ui I 572 21 (nI n) := ⟨_, rfl⟩
      refine ev_puti (I2 := I_1) 74 rfl 9 21 d141_71 rfl (by omega) (G.1 _ _ (rfl : ai_sp 572 = (9, 0)) (by decide) (by decide)) (fun h => absurd h (by decide)) hI_1.symm ?_
      refine ev_iload_n 75 rfl d141_74 rfl ?_
      refine ev_iconst (v := nI 1) 76 rfl d141_75 (by decide) ?_
      refine ev_icmp_T 84 (by decide) (by decide) d141_76 ?_
      refine ev_iload_n 85 rfl d141_84 rfl ?_
      refine ev_iconst (v := nI 2) 86 rfl d141_85 (by decide) ?_
      refine ev_icmp_T 94 (by decide) (by decide) d141_86 ?_
      refine ev_iconst (v := nI 1) 95 rfl d141_94 (by decide) ?_
      refine ev_iret (Or.inl rfl) d141_95 ?_
      exact ⟨_, _, rfl, rfl, rm_mark hM hI_1, fun a ha => ⟨by rw [ui_row hI_1 (by omega)], rfl⟩⟩
    · rw [c_F (fun h9 => hq_10 h9.2), c_F (fun h => absurd h.1 (by decide)), c_F (fun h => absurd h.1 (by decide))]
      refine ev_goto 53 (by decide) d141_13 ?_
      refine ev_store_in 54 rfl d141_53 (Nat.le_of_ble_eq_true rfl) rfl ?_
      show ai_Ev _ _ _ [some (.ref 572), some (.int (nI 0)), some (.int z2), some (.int (nI 0))] _ _ _
      refine ev_iload_n 55 rfl d141_54 rfl ?_
      refine ev_if_F 65 58 (by decide) rfl (by decide) d141_55 ?_
      refine ev_aload_n 59 rfl d141_58 rfl ?_
      refine ev_bipush (v := (-6)) 61 rfl d141_59 (by decide) ?_
      refine ev_cy1 64 rfl 115 d141_61 rfl rfl (by rw [G.1 _ _ (rfl : ai_sp 572 = (9, 0)) (by decide) (by decide)]; rfl) (by omega) rfl (show ai_Ev none 115 0 [some (.ref 572), some (.int (-6))] [] (S, I, L, F) _ from by rw [show ((-6) : Int32) = -(nI 6) by decide]; exact m_refuse (I := I) (L := L) (S := S) (F := F) G (k := 6) (by omega)) (fun v_2 I_1 hr_61 => ?_)
      refine ev_iret (Or.inl rfl) d141_64 ?_
      exact pm_ref hM (by omega) hr_61
end MPUB
