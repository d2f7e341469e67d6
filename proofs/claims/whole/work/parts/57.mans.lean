section MANS
variable {S : List (Nat × Nat)} {F : Nat → Nat → Option Nat} {L : Nat → Nat → Int64} {I : Nat → Nat → Int32} {σ : ai_S}
theorem kind_of {σ2 : ai_S} {j c : Nat} (h : σ2.gv j c = σ.gv j c) : σ2.kind j c = σ.kind j c := by unfold ai_S.kind; rw [h]
theorem rm_leave (hX : ai_RM σ I L) {I2 : Nat → Nat → Int32} {j : Nat} (hj : j < 24) (h : I2 = ai_ui (ai_ui I 583 j (nI 1)) 572 20 (nI 1)) : ai_RM (σ.leave j) I2 L := by
  refine ⟨?_, ?_, ?_, ?_, ?_, ?_, ?_, ?_, ?_, ?_, ?_, ?_, ?_, ?_, ?_, ?_, ?_, ?_, ?_, ?_, ?_, ?_, ?_, ?_, ?_⟩
  · intro i h0; rw [ui2_oth h (by omega) (by omega)]; exact hX.rf i h0
  · intro s h0; rw [ui2_oth h (by omega) (by omega)]; exact hX.hd s h0
  · intro s h0; rw [ui2_oth h (by omega) (by omega)]; exact hX.sz s h0
  · exact hX.el
  · rw [ui2_oth h (by omega) (by omega)]; exact hX.nT
  · rw [ui2_oth h (by omega) (by omega)]; exact hX.nQ
  · rw [ui2_oth h (by omega) (by omega)]; exact hX.nJ
  · intro q h0; rw [ui2_oth h (by omega) (by omega)]; exact hX.an q h0
  · intro q h0 h1; rw [ui2_oth h (by omega) (by omega)]; exact hX.pa q h0 h1
  · intro q h0 h1; rw [ui2_oth h (by omega) (by omega)]; exact hX.wa q h0 h1
  · intro c h0 h1; rw [ui2_oth h (by omega) (by omega)]; exact hX.tr c h0 h1
  · intro c h0 h1; rw [ui2_oth h (by omega) (by omega)]; exact hX.ag c h0 h1
  · intro x hx
    show I2 583 x = nI (ai_qb (decide (x = j) || σ.lf x))
    by_cases e : x = j
    · subst e; rw [h]; simp [ai_ui, ai_qb]
    · rw [ui2_oth h (by omega) (by omega), decide_eq_false e]; exact hX.lf x hx
  · intro j h0; rw [ui2_oth h (by omega) (by omega)]; exact hX.sr j h0
  · intro x hx hl
    have h1 : (decide (x = j) || σ.lf x) = false := hl
    rw [Bool.or_eq_false_iff] at h1
    have e1 : ¬ x = j := of_decide_eq_false h1.1
    rw [given_leave, if_neg e1, ui2_oth h (by omega) (by omega)]
    exact hX.gn x hx h1.2
  · intro x c hx hc hl hq
    have h1 : (decide (x = j) || σ.lf x) = false := hl
    rw [Bool.or_eq_false_iff] at h1
    have e1 : ¬ x = j := of_decide_eq_false h1.1
    have e2 : (σ.leave j).gv x c = σ.gv x c := by rw [leave_gv, if_neg e1]
    rw [e2, said_of e2, ui2_oth h (by omega) (by omega)]
    exact hX.gv x c hx hc h1.2 hq
  · intro x c hx hc hl hq h0
    have h1 : (decide (x = j) || σ.lf x) = false := hl
    rw [Bool.or_eq_false_iff] at h1
    have e1 : ¬ x = j := of_decide_eq_false h1.1
    have e2 : (σ.leave j).gv x c = σ.gv x c := by rw [leave_gv, if_neg e1]
    rw [e2] at h0
    rw [kind_of e2, ui2_oth h (by omega) (by omega)]
    exact hX.mn x c hx hc h1.2 hq h0
  · exact Or.inl (ui_same h)
  · rw [ui2_oth h (by omega) (by omega)]; exact hX.mk
  · rw [ui2_oth h (by omega) (by omega)]; exact hX.lk
  · rw [ui2_oth h (by omega) (by omega)]; exact hX.hs
  · intro j q a b h0 h1 h2 h3; rw [ui2_oth h (by omega) (by omega)]; exact hX.tp j q a b h0 h1 h2 h3
  · intro j q b h0 h1 h2; rw [ui2_oth h (by omega) (by omega)]; exact hX.bt j q b h0 h1 h2
  · intro i h0; rw [ui2_oth h (by omega) (by omega)]; exact hX.ch i h0
  · rw [ui2_oth h (by omega) (by omega)]; exact hX.st
theorem m_leave (G : ai_G S F) (hM : ai_RM σ I L) (hV : ai_IV σ) {z1 : Int32} : ai_Ev none 140 0 [some (.ref 572), some (.int z1)] [] (S, I, L, F) (ai_PM S F I L (o_leave σ z1)) := by
  have hnT := hV.nT
  have hnQ := hV.nQ
  have hnJ := hV.nJ
  unfold o_leave
  refine ev_aload_n 1 rfl d140_0 rfl ?_
  refine ev_iload_n 2 rfl d140_1 rfl ?_
  refine ev_cb1 5 rfl 128 d140_2 rfl rfl (by rw [G.1 _ _ (rfl : ai_sp 572 = (9, 0)) (by decide) (by decide)]; rfl) (by omega) rfl (m_isJ G hM hV) (fun hq_2 => ?_) (fun hq_2 => ?_)
  · try rw [c_T hq_2]
    obtain ⟨j, hj, hjl, rfl⟩ := hq_2
    refine ev_if_T 14 (by decide) (by decide) d140_5 ?_
    simp only [nn_I (show j < 2147483648 by omega)]
    refine ev_aload_n 15 rfl d140_14 rfl ?_
    refine ev_getr 18 rfl 9 13 d140_15 rfl (by omega) (G.1 _ _ (rfl : ai_sp 572 = (9, 0)) (by decide) (by decide)) (G.2 _ _ _ (rfl : ai_rf 572 13 = some 583)) ?_
    refine ev_iload_n 19 rfl d140_18 rfl ?_
    refine ev_iconst (v := nI 1) 20 rfl d140_19 (by decide) ?_
    obtain ⟨I_1, hI_1⟩ : ∃ z, z = ai_ui I 583 j (nI 1) := ⟨_, rfl⟩
    refine ev_zast_n (I2 := I_1) 21 rfl d140_20 (by omega) (G.1 _ _ (rfl : ai_sp 583 = (102, 24)) (by decide) (by decide)) (by omega) (by decide) (by decide) hI_1.symm ?_
    refine ev_aload_n 22 rfl d140_21 rfl ?_
    refine ev_iconst (v := nI 1) 23 rfl d140_22 (by decide) ?_
    obtain ⟨I_2, hI_2⟩ : ∃ z, z = ai_ui I_1 572 20 (nI 1) := ⟨_, rfl⟩
    refine ev_puti (I2 := I_2) 26 rfl 9 20 d140_23 rfl (by omega) (G.1 _ _ (rfl : ai_sp 572 = (9, 0)) (by decide) (by decide)) (fun _ => Or.inr (by decide)) hI_2.symm ?_
    refine ev_aload_n 27 rfl d140_26 rfl ?_
    refine ev_getr 30 rfl 9 15 d140_27 rfl (by omega) (G.1 _ _ (rfl : ai_sp 572 = (9, 0)) (by decide) (by decide)) (G.2 _ _ _ (rfl : ai_rf 572 15 = some 585)) ?_
    refine ev_iload_n 31 rfl d140_30 rfl ?_
    refine ev_iald_n (v := nI (σ.given j)) 32 rfl d140_31 (by omega) (G.1 _ _ (rfl : ai_sp 585 = (100, 24)) (by decide) (by decide)) (by omega) (by decide) (by rw [ui_row hI_2 (by omega), ui_row hI_1 (by omega)]; exact hM.gn j (by omega) hjl) ?_
    refine ev_iret (Or.inl rfl) d140_32 ?_
    exact ⟨_, _, rfl, rfl, rm_leave hM (by omega) (by rw [hI_2, hI_1]), fun a ha => ⟨by rw [ui_row hI_2 (by omega), ui_row hI_1 (by omega)], rfl⟩⟩
  · try rw [c_F hq_2]
    refine ev_if_F 14 8 (by decide) rfl (by decide) d140_5 ?_
    refine ev_aload_n 9 rfl d140_8 rfl ?_
    refine ev_iconst (v := (-1)) 10 rfl d140_9 (by decide) ?_
    refine ev_cy1 13 rfl 115 d140_10 rfl rfl (by rw [G.1 _ _ (rfl : ai_sp 572 = (9, 0)) (by decide) (by decide)]; rfl) (by omega) rfl (show ai_Ev none 115 0 [some (.ref 572), some (.int (-1))] [] (S, I, L, F) _ from by rw [show ((-1) : Int32) = -(nI 1) by decide]; exact m_refuse (I := I) (L := L) (S := S) (F := F) G (k := 1) (by omega)) (fun v_2 I_1 hr_10 => ?_)
    refine ev_iret (Or.inl rfl) d140_13 ?_
    exact pm_ref hM (by omega) hr_10
def ai_t5 (I I2 : Nat → Nat → Int32) (j x : Nat) (v1 v2 v3 v4 : Int32) : Prop := I2 = ai_ui (ai_ui (ai_ui (ai_ui (ai_ui I 586 x v1) 587 x v2) 584 j v3) 585 j v4) 572 20 (nI 1)
theorem t5_oth {I I2 : Nat → Nat → Int32} {j x : Nat} {v1 v2 v3 v4 : Int32} (h : ai_t5 I I2 j x v1 v2 v3 v4) {a k : Nat} (h1 : ¬ ((a = 586 ∨ a = 587) ∧ k = x)) (h2 : ¬ ((a = 584 ∨ a = 585) ∧ k = j)) (h3 : ¬ (a = 572 ∧ k = 20)) : I2 a k = I a k := by
  unfold ai_t5 at h
  obtain ⟨A, hA⟩ : ∃ z, z = ai_ui I 586 x v1 := ⟨_, rfl⟩
  obtain ⟨B, hB⟩ : ∃ z, z = ai_ui A 587 x v2 := ⟨_, rfl⟩
  obtain ⟨C, hC⟩ : ∃ z, z = ai_ui B 584 j v3 := ⟨_, rfl⟩
  obtain ⟨D, hD⟩ : ∃ z, z = ai_ui C 585 j v4 := ⟨_, rfl⟩
  rw [← hA, ← hB, ← hC, ← hD] at h
  rw [ui_other h (by omega), ui_other hD (by omega), ui_other hC (by omega), ui_other hB (by omega), ui_other hA (by omega)]
theorem t5_v {I I2 : Nat → Nat → Int32} {j x : Nat} {v1 v2 v3 v4 : Int32} (h : ai_t5 I I2 j x v1 v2 v3 v4) : I2 586 x = v1 ∧ I2 587 x = v2 ∧ I2 584 j = v3 ∧ I2 585 j = v4 ∧ I2 572 20 = nI 1 := by
  unfold ai_t5 at h
  rw [h]; simp [ai_ui]
theorem rm_take (hX : ai_RM σ I L) {I2 : Nat → Nat → Int32} {j t q a k : Nat} (hj : j < 24) (ht : t < 40) (hq5 : q < 5) (ha : a < 4) (hk : k < 3) (h0 : σ.gv j (5 * t + q) = 0) (hl : σ.lf j = false) (h : ai_t5 I I2 j (200 * j + (5 * t + q)) (nI a) (nI k) (σ.sr j + nI 1) (nI (σ.given j + 1))) : ai_RM (σ.take j (5 * t + q) (1 + 4 * k + a)) I2 L := by
  refine ⟨?_, ?_, ?_, ?_, ?_, ?_, ?_, ?_, ?_, ?_, ?_, ?_, ?_, ?_, ?_, ?_, ?_, ?_, ?_, ?_, ?_, ?_, ?_, ?_, ?_⟩
  · intro i h0; rw [t5_oth h (by omega) (by omega) (by omega)]; exact hX.rf i h0
  · intro s h0; rw [t5_oth h (by omega) (by omega) (by omega)]; exact hX.hd s h0
  · intro s h0; rw [t5_oth h (by omega) (by omega) (by omega)]; exact hX.sz s h0
  · exact hX.el
  · rw [t5_oth h (by omega) (by omega) (by omega)]; exact hX.nT
  · rw [t5_oth h (by omega) (by omega) (by omega)]; exact hX.nQ
  · rw [t5_oth h (by omega) (by omega) (by omega)]; exact hX.nJ
  · intro q h0; rw [t5_oth h (by omega) (by omega) (by omega)]; exact hX.an q h0
  · intro q h0 h1; rw [t5_oth h (by omega) (by omega) (by omega)]; exact hX.pa q h0 h1
  · intro q h0 h1; rw [t5_oth h (by omega) (by omega) (by omega)]; exact hX.wa q h0 h1
  · intro c h0 h1; rw [t5_oth h (by omega) (by omega) (by omega)]; exact hX.tr c h0 h1
  · intro c h0 h1; rw [t5_oth h (by omega) (by omega) (by omega)]; exact hX.ag c h0 h1
  · intro j h0; rw [t5_oth h (by omega) (by omega) (by omega)]; exact hX.lf j h0
  · intro x hx
    show I2 584 x = if x = j then σ.sr x + nI 1 else σ.sr x
    by_cases e : x = j
    · subst e; rw [if_pos rfl]; exact (t5_v h).2.2.1
    · rw [if_neg e, t5_oth h (by omega) (by omega) (by omega)]; exact hX.sr x hx
  · intro x hx hlx
    rw [given_take (by omega) h0 (by omega)]
    by_cases e : x = j
    · subst e; rw [if_pos rfl]; exact (t5_v h).2.2.2.1
    · rw [if_neg e, t5_oth h (by omega) (by omega) (by omega)]; exact hX.gn x hx hlx
  · intro x c hx hc hlx hqx
    by_cases e : x = j ∧ c = 5 * t + q
    · obtain ⟨rfl, rfl⟩ := e
      have e2 : (σ.take x (5 * t + q) (1 + 4 * k + a)).gv x (5 * t + q) = 1 + 4 * k + a := by rw [take_gv, if_pos ⟨rfl, rfl⟩]
      rw [if_neg (by omega), (t5_v h).1]
      unfold ai_S.said
      rw [e2]; congr 1; omega
    · have e2 : (σ.take j (5 * t + q) (1 + 4 * k + a)).gv x c = σ.gv x c := by rw [take_gv, if_neg e]
      rw [e2, said_of e2, t5_oth h (by omega) (by omega) (by omega)]
      exact hX.gv x c hx hc hlx hqx
  · intro x c hx hc hlx hqx hg0
    by_cases e : x = j ∧ c = 5 * t + q
    · obtain ⟨rfl, rfl⟩ := e
      have e2 : (σ.take x (5 * t + q) (1 + 4 * k + a)).gv x (5 * t + q) = 1 + 4 * k + a := by rw [take_gv, if_pos ⟨rfl, rfl⟩]
      rw [(t5_v h).2.1]
      unfold ai_S.kind
      rw [e2]; congr 1; omega
    · have e2 : (σ.take j (5 * t + q) (1 + 4 * k + a)).gv x c = σ.gv x c := by rw [take_gv, if_neg e]
      rw [e2] at hg0
      rw [kind_of e2, t5_oth h (by omega) (by omega) (by omega)]
      exact hX.mn x c hx hc hlx hqx hg0
  · exact Or.inl (t5_v h).2.2.2.2
  · rw [t5_oth h (by omega) (by omega) (by omega)]; exact hX.mk
  · rw [t5_oth h (by omega) (by omega) (by omega)]; exact hX.lk
  · rw [t5_oth h (by omega) (by omega) (by omega)]; exact hX.hs
  · intro j q a b h0 h1 h2 h3; rw [t5_oth h (by omega) (by omega) (by omega)]; exact hX.tp j q a b h0 h1 h2 h3
  · intro j q b h0 h1 h2; rw [t5_oth h (by omega) (by omega) (by omega)]; exact hX.bt j q b h0 h1 h2
  · intro i h0; rw [t5_oth h (by omega) (by omega) (by omega)]; exact hX.ch i h0
  · rw [t5_oth h (by omega) (by omega) (by omega)]; exact hX.st
theorem m_give (G : ai_G S F) (hM : ai_RM σ I L) (hV : ai_IV σ) {j t q a : Nat} {z5 : Int32} (hj : j < σ.nJ) (hl : σ.lf j = false) (ht : t < σ.nT) (hq : q < σ.nQ) (ha : a < σ.an q) (h0 : σ.gv j (5 * t + q) = 0) : ai_Ev none 136 0 [some (.ref 572), some (.int (nI j)), some (.int (nI t)), some (.int (nI q)), some (.int (nI a)), some (.int z5), none] [] (S, I, L, F) (ai_Py S F L (fun v I2 => v = nI (σ.kindB j z5) ∧ ai_RM (σ.take j (5 * t + q) (1 + 4 * σ.kindB j z5 + a)) I2 L ∧ ∀ a, a < 572 → I2 a = I a)) := by
  have hnT := hV.nT
  have hnQ := hV.nQ
  have hnJ := hV.nJ
  have han := hV.an q hq
  refine ev_sipush (v := nI 200) 3 rfl d136_0 (by decide) ?_
  refine ev_iload_n 4 rfl d136_3 rfl ?_
  refine ev_imul (v := nI (200 * j)) 5 rfl d136_4 (pk_mul _ _) ?_
  refine ev_iconst (v := nI 5) 6 rfl d136_5 (by decide) ?_
  refine ev_iload_n 7 rfl d136_6 rfl ?_
  refine ev_imul (v := nI (5 * t)) 8 rfl d136_7 (pk_mul _ _) ?_
  refine ev_iadd (v := nI ((200 * j) + (5 * t))) 9 rfl d136_8 (nI_add _ _) ?_
  refine ev_iload_n 10 rfl d136_9 rfl ?_
  refine ev_iadd (v := nI (((200 * j) + (5 * t)) + q)) 11 rfl d136_10 (nI_add _ _) ?_
  refine ev_store_i 13 rfl d136_11 ⟨rfl, Nat.le_of_ble_eq_true rfl⟩ rfl ?_
  show ai_Ev _ _ _ [some (.ref 572), some (.int (nI j)), some (.int (nI t)), some (.int (nI q)), some (.int (nI a)), some (.int z5), some (.int (nI (((200 * j) + (5 * t)) + q)))] _ _ _
  refine ev_aload_n 14 rfl d136_13 rfl ?_
  refine ev_getr 17 rfl 9 16 d136_14 rfl (by omega) (G.1 _ _ (rfl : ai_sp 572 = (9, 0)) (by decide) (by decide)) (G.2 _ _ _ (rfl : ai_rf 572 16 = some 586)) ?_
  refine ev_iload 19 rfl d136_17 rfl ?_
  refine ev_iload 21 rfl d136_19 rfl ?_
  obtain ⟨I_1, hI_1⟩ : ∃ z, z = ai_ui I 586 (((200 * j) + (5 * t)) + q) (nI a) := ⟨_, rfl⟩
  refine ev_iast_n (I2 := I_1) 22 rfl d136_21 (by omega) (G.1 _ _ (rfl : ai_sp 586 = (100, 4800)) (by decide) (by decide)) (by omega) (by decide) hI_1.symm ?_
  refine ev_aload_n 23 rfl d136_22 rfl ?_
  refine ev_getr 26 rfl 9 17 d136_23 rfl (by omega) (G.1 _ _ (rfl : ai_sp 572 = (9, 0)) (by decide) (by decide)) (G.2 _ _ _ (rfl : ai_rf 572 17 = some 587)) ?_
  refine ev_iload 28 rfl d136_26 rfl ?_
  refine ev_iload 30 rfl d136_28 rfl ?_
  refine ev_aload_n 31 rfl d136_30 rfl ?_
  refine ev_geti (v := nI σ.hs) 34 rfl 9 23 d136_31 rfl (by omega) (G.1 _ _ (rfl : ai_sp 572 = (9, 0)) (by decide) (by decide)) (by rw [ui_row hI_1 (by omega)]; exact hM.hs) ?_
  refine ev_icmp 41 37 (by decide) rfl cz_ge d136_34 (fun hc_34 => ?_) (fun hc_34 => ?_)
  · have hb1 : ¬ z5 < nI σ.hs := Int32.not_lt.mpr hc_34
    refine ev_aload_n 42 rfl d136_41 rfl ?_
    refine ev_getr 45 rfl 9 14 d136_42 rfl (by omega) (G.1 _ _ (rfl : ai_sp 572 = (9, 0)) (by decide) (by decide)) (G.2 _ _ _ (rfl : ai_rf 572 14 = some 584)) ?_
    refine ev_iload_n 46 rfl d136_45 rfl ?_
    refine ev_iald_n (v := σ.sr j) 47 rfl d136_46 (by omega) (G.1 _ _ (rfl : ai_sp 584 = (100, 24)) (by decide) (by decide)) (by omega) (by decide) (by rw [ui_row hI_1 (by omega)]; exact hM.sr j (by omega)) ?_
    refine ev_bipush (v := nI 20) 49 rfl d136_47 (by decide) ?_
    refine ev_icmp 56 52 (by decide) rfl cz_lt d136_49 (fun hc_49 => ?_) (fun hc_49 => ?_)
    · have hkB : σ.kindB j z5 = 0 := by unfold ai_S.kindB; rw [c_F hb1, c_T hc_49]
      refine ev_iconst (v := nI 0) 57 rfl d136_56 (by decide) ?_
      
      obtain ⟨I_2, hI_2⟩ : ∃ z, z = ai_ui I_1 587 (((200 * j) + (5 * t)) + q) (nI 0) := ⟨_, rfl⟩
      refine ev_iast_n (I2 := I_2) 58 rfl d136_57 (by omega) (G.1 _ _ (rfl : ai_sp 587 = (100, 4800)) (by decide) (by decide)) (by omega) (by decide) hI_2.symm ?_
      refine ev_aload_n 59 rfl d136_58 rfl ?_
      refine ev_getr 62 rfl 9 14 d136_59 rfl (by omega) (G.1 _ _ (rfl : ai_sp 572 = (9, 0)) (by decide) (by decide)) (G.2 _ _ _ (rfl : ai_rf 572 14 = some 584)) ?_
      refine ev_iload_n 63 rfl d136_62 rfl ?_
      refine ev_dup2 64 rfl d136_63 ⟨rfl, rfl⟩ ?_
      refine ev_iald_n (v := σ.sr j) 65 rfl d136_64 (by omega) (G.1 _ _ (rfl : ai_sp 584 = (100, 24)) (by decide) (by decide)) (by omega) (by decide) (by rw [ui_row hI_2 (by omega), ui_row hI_1 (by omega)]; exact hM.sr j (by omega)) ?_
      refine ev_iconst (v := nI 1) 66 rfl d136_65 (by decide) ?_
      refine ev_iadd 67 rfl d136_66 rfl ?_
      obtain ⟨I_3, hI_3⟩ : ∃ z, z = ai_ui I_2 584 j ((σ.sr j) + (nI 1)) := ⟨_, rfl⟩
      refine ev_iast_n (I2 := I_3) 68 rfl d136_67 (by omega) (G.1 _ _ (rfl : ai_sp 584 = (100, 24)) (by decide) (by decide)) (by omega) (by decide) hI_3.symm ?_
      refine ev_aload_n 69 rfl d136_68 rfl ?_
      refine ev_getr 72 rfl 9 15 d136_69 rfl (by omega) (G.1 _ _ (rfl : ai_sp 572 = (9, 0)) (by decide) (by decide)) (G.2 _ _ _ (rfl : ai_rf 572 15 = some 585)) ?_
      refine ev_iload_n 73 rfl d136_72 rfl ?_
      refine ev_dup2 74 rfl d136_73 ⟨rfl, rfl⟩ ?_
      refine ev_iald_n (v := nI (σ.given j)) 75 rfl d136_74 (by omega) (G.1 _ _ (rfl : ai_sp 585 = (100, 24)) (by decide) (by decide)) (by omega) (by decide) (by rw [ui_row hI_3 (by omega), ui_row hI_2 (by omega), ui_row hI_1 (by omega)]; exact hM.gn j (by omega) hl) ?_
      refine ev_iconst (v := nI 1) 76 rfl d136_75 (by decide) ?_
      refine ev_iadd (v := nI ((σ.given j) + 1)) 77 rfl d136_76 (nI_add _ _) ?_
      obtain ⟨I_4, hI_4⟩ : ∃ z, z = ai_ui I_3 585 j (nI ((σ.given j) + 1)) := ⟨_, rfl⟩
      refine ev_iast_n (I2 := I_4) 78 rfl d136_77 (by omega) (G.1 _ _ (rfl : ai_sp 585 = (100, 24)) (by decide) (by decide)) (by omega) (by decide) hI_4.symm ?_
      refine ev_aload_n 79 rfl d136_78 rfl ?_
      refine ev_iconst (v := nI 1) 80 rfl d136_79 (by decide) ?_
      obtain ⟨I_5, hI_5⟩ : ∃ z, z = ai_ui I_4 572 20 (nI 1) := ⟨_, rfl⟩
      refine ev_puti (I2 := I_5) 83 rfl 9 20 d136_80 rfl (by omega) (G.1 _ _ (rfl : ai_sp 572 = (9, 0)) (by decide) (by decide)) (fun _ => Or.inr (by decide)) hI_5.symm ?_
      refine ev_aload_n 84 rfl d136_83 rfl ?_
      refine ev_getr 87 rfl 9 17 d136_84 rfl (by omega) (G.1 _ _ (rfl : ai_sp 572 = (9, 0)) (by decide) (by decide)) (G.2 _ _ _ (rfl : ai_rf 572 17 = some 587)) ?_
      refine ev_iload 89 rfl d136_87 rfl ?_
      refine ev_iald_n (v := nI 0) 90 rfl d136_89 (by omega) (G.1 _ _ (rfl : ai_sp 587 = (100, 4800)) (by decide) (by decide)) (by omega) (by decide) (by rw [ui_row hI_5 (by omega), ui_row hI_4 (by omega), ui_row hI_3 (by omega)]; exact ui_same hI_2) ?_
      refine ev_iret (Or.inl rfl) d136_90 ?_
      have h5 : ai_t5 I I_5 j (200 * j + (5 * t + q)) (nI a) (nI 0) (σ.sr j + nI 1) (nI (σ.given j + 1)) := by unfold ai_t5; rw [hI_5, hI_4, hI_3, hI_2, hI_1, show 200 * j + 5 * t + q = 200 * j + (5 * t + q) by omega]
      exact ⟨_, _, rfl, rfl, by rw [hkB], by rw [hkB]; exact rm_take hM (by omega) (by omega) (by omega) (by omega) (by omega) h0 hl h5, fun a9 ha9 => by rw [ui_row hI_5 (by omega), ui_row hI_4 (by omega), ui_row hI_3 (by omega), ui_row hI_2 (by omega), ui_row hI_1 (by omega)]⟩
    · have hkB : σ.kindB j z5 = 2 := by unfold ai_S.kindB; rw [c_F hb1, c_F hc_49]
      refine ev_iconst (v := nI 2) 53 rfl d136_52 (by decide) ?_
      refine ev_goto 57 (by decide) d136_53 ?_
      
      obtain ⟨I_2, hI_2⟩ : ∃ z, z = ai_ui I_1 587 (((200 * j) + (5 * t)) + q) (nI 2) := ⟨_, rfl⟩
      refine ev_iast_n (I2 := I_2) 58 rfl d136_57 (by omega) (G.1 _ _ (rfl : ai_sp 587 = (100, 4800)) (by decide) (by decide)) (by omega) (by decide) hI_2.symm ?_
      refine ev_aload_n 59 rfl d136_58 rfl ?_
      refine ev_getr 62 rfl 9 14 d136_59 rfl (by omega) (G.1 _ _ (rfl : ai_sp 572 = (9, 0)) (by decide) (by decide)) (G.2 _ _ _ (rfl : ai_rf 572 14 = some 584)) ?_
      refine ev_iload_n 63 rfl d136_62 rfl ?_
      refine ev_dup2 64 rfl d136_63 ⟨rfl, rfl⟩ ?_
      refine ev_iald_n (v := σ.sr j) 65 rfl d136_64 (by omega) (G.1 _ _ (rfl : ai_sp 584 = (100, 24)) (by decide) (by decide)) (by omega) (by decide) (by rw [ui_row hI_2 (by omega), ui_row hI_1 (by omega)]; exact hM.sr j (by omega)) ?_
      refine ev_iconst (v := nI 1) 66 rfl d136_65 (by decide) ?_
      refine ev_iadd 67 rfl d136_66 rfl ?_
      obtain ⟨I_3, hI_3⟩ : ∃ z, z = ai_ui I_2 584 j ((σ.sr j) + (nI 1)) := ⟨_, rfl⟩
      refine ev_iast_n (I2 := I_3) 68 rfl d136_67 (by omega) (G.1 _ _ (rfl : ai_sp 584 = (100, 24)) (by decide) (by decide)) (by omega) (by decide) hI_3.symm ?_
      refine ev_aload_n 69 rfl d136_68 rfl ?_
      refine ev_getr 72 rfl 9 15 d136_69 rfl (by omega) (G.1 _ _ (rfl : ai_sp 572 = (9, 0)) (by decide) (by decide)) (G.2 _ _ _ (rfl : ai_rf 572 15 = some 585)) ?_
      refine ev_iload_n 73 rfl d136_72 rfl ?_
      refine ev_dup2 74 rfl d136_73 ⟨rfl, rfl⟩ ?_
      refine ev_iald_n (v := nI (σ.given j)) 75 rfl d136_74 (by omega) (G.1 _ _ (rfl : ai_sp 585 = (100, 24)) (by decide) (by decide)) (by omega) (by decide) (by rw [ui_row hI_3 (by omega), ui_row hI_2 (by omega), ui_row hI_1 (by omega)]; exact hM.gn j (by omega) hl) ?_
      refine ev_iconst (v := nI 1) 76 rfl d136_75 (by decide) ?_
      refine ev_iadd (v := nI ((σ.given j) + 1)) 77 rfl d136_76 (nI_add _ _) ?_
      obtain ⟨I_4, hI_4⟩ : ∃ z, z = ai_ui I_3 585 j (nI ((σ.given j) + 1)) := ⟨_, rfl⟩
      refine ev_iast_n (I2 := I_4) 78 rfl d136_77 (by omega) (G.1 _ _ (rfl : ai_sp 585 = (100, 24)) (by decide) (by decide)) (by omega) (by decide) hI_4.symm ?_
      refine ev_aload_n 79 rfl d136_78 rfl ?_
      refine ev_iconst (v := nI 1) 80 rfl d136_79 (by decide) ?_
      obtain ⟨I_5, hI_5⟩ : ∃ z, z = ai_ui I_4 572 20 (nI 1) := ⟨_, rfl⟩
      refine ev_puti (I2 := I_5) 83 rfl 9 20 d136_80 rfl (by omega) (G.1 _ _ (rfl : ai_sp 572 = (9, 0)) (by decide) (by decide)) (fun _ => Or.inr (by decide)) hI_5.symm ?_
      refine ev_aload_n 84 rfl d136_83 rfl ?_
      refine ev_getr 87 rfl 9 17 d136_84 rfl (by omega) (G.1 _ _ (rfl : ai_sp 572 = (9, 0)) (by decide) (by decide)) (G.2 _ _ _ (rfl : ai_rf 572 17 = some 587)) ?_
      refine ev_iload 89 rfl d136_87 rfl ?_
      refine ev_iald_n (v := nI 2) 90 rfl d136_89 (by omega) (G.1 _ _ (rfl : ai_sp 587 = (100, 4800)) (by decide) (by decide)) (by omega) (by decide) (by rw [ui_row hI_5 (by omega), ui_row hI_4 (by omega), ui_row hI_3 (by omega)]; exact ui_same hI_2) ?_
      refine ev_iret (Or.inl rfl) d136_90 ?_
      have h5 : ai_t5 I I_5 j (200 * j + (5 * t + q)) (nI a) (nI 2) (σ.sr j + nI 1) (nI (σ.given j + 1)) := by unfold ai_t5; rw [hI_5, hI_4, hI_3, hI_2, hI_1, show 200 * j + 5 * t + q = 200 * j + (5 * t + q) by omega]
      exact ⟨_, _, rfl, rfl, by rw [hkB], by rw [hkB]; exact rm_take hM (by omega) (by omega) (by omega) (by omega) (by omega) h0 hl h5, fun a9 ha9 => by rw [ui_row hI_5 (by omega), ui_row hI_4 (by omega), ui_row hI_3 (by omega), ui_row hI_2 (by omega), ui_row hI_1 (by omega)]⟩
  · have hkB : σ.kindB j z5 = 1 := by unfold ai_S.kindB; rw [c_T (Int32.not_le.mp hc_34)]
    refine ev_iconst (v := nI 1) 38 rfl d136_37 (by decide) ?_
    refine ev_goto 57 (by decide) d136_38 ?_
    
    obtain ⟨I_2, hI_2⟩ : ∃ z, z = ai_ui I_1 587 (((200 * j) + (5 * t)) + q) (nI 1) := ⟨_, rfl⟩
    refine ev_iast_n (I2 := I_2) 58 rfl d136_57 (by omega) (G.1 _ _ (rfl : ai_sp 587 = (100, 4800)) (by decide) (by decide)) (by omega) (by decide) hI_2.symm ?_
    refine ev_aload_n 59 rfl d136_58 rfl ?_
    refine ev_getr 62 rfl 9 14 d136_59 rfl (by omega) (G.1 _ _ (rfl : ai_sp 572 = (9, 0)) (by decide) (by decide)) (G.2 _ _ _ (rfl : ai_rf 572 14 = some 584)) ?_
    refine ev_iload_n 63 rfl d136_62 rfl ?_
    refine ev_dup2 64 rfl d136_63 ⟨rfl, rfl⟩ ?_
    refine ev_iald_n (v := σ.sr j) 65 rfl d136_64 (by omega) (G.1 _ _ (rfl : ai_sp 584 = (100, 24)) (by decide) (by decide)) (by omega) (by decide) (by rw [ui_row hI_2 (by omega), ui_row hI_1 (by omega)]; exact hM.sr j (by omega)) ?_
    refine ev_iconst (v := nI 1) 66 rfl d136_65 (by decide) ?_
    refine ev_iadd 67 rfl d136_66 rfl ?_
    obtain ⟨I_3, hI_3⟩ : ∃ z, z = ai_ui I_2 584 j ((σ.sr j) + (nI 1)) := ⟨_, rfl⟩
    refine ev_iast_n (I2 := I_3) 68 rfl d136_67 (by omega) (G.1 _ _ (rfl : ai_sp 584 = (100, 24)) (by decide) (by decide)) (by omega) (by decide) hI_3.symm ?_
    refine ev_aload_n 69 rfl d136_68 rfl ?_
    refine ev_getr 72 rfl 9 15 d136_69 rfl (by omega) (G.1 _ _ (rfl : ai_sp 572 = (9, 0)) (by decide) (by decide)) (G.2 _ _ _ (rfl : ai_rf 572 15 = some 585)) ?_
    refine ev_iload_n 73 rfl d136_72 rfl ?_
    refine ev_dup2 74 rfl d136_73 ⟨rfl, rfl⟩ ?_
    refine ev_iald_n (v := nI (σ.given j)) 75 rfl d136_74 (by omega) (G.1 _ _ (rfl : ai_sp 585 = (100, 24)) (by decide) (by decide)) (by omega) (by decide) (by rw [ui_row hI_3 (by omega), ui_row hI_2 (by omega), ui_row hI_1 (by omega)]; exact hM.gn j (by omega) hl) ?_
    refine ev_iconst (v := nI 1) 76 rfl d136_75 (by decide) ?_
    refine ev_iadd (v := nI ((σ.given j) + 1)) 77 rfl d136_76 (nI_add _ _) ?_
    obtain ⟨I_4, hI_4⟩ : ∃ z, z = ai_ui I_3 585 j (nI ((σ.given j) + 1)) := ⟨_, rfl⟩
    refine ev_iast_n (I2 := I_4) 78 rfl d136_77 (by omega) (G.1 _ _ (rfl : ai_sp 585 = (100, 24)) (by decide) (by decide)) (by omega) (by decide) hI_4.symm ?_
    refine ev_aload_n 79 rfl d136_78 rfl ?_
    refine ev_iconst (v := nI 1) 80 rfl d136_79 (by decide) ?_
    obtain ⟨I_5, hI_5⟩ : ∃ z, z = ai_ui I_4 572 20 (nI 1) := ⟨_, rfl⟩
    refine ev_puti (I2 := I_5) 83 rfl 9 20 d136_80 rfl (by omega) (G.1 _ _ (rfl : ai_sp 572 = (9, 0)) (by decide) (by decide)) (fun _ => Or.inr (by decide)) hI_5.symm ?_
    refine ev_aload_n 84 rfl d136_83 rfl ?_
    refine ev_getr 87 rfl 9 17 d136_84 rfl (by omega) (G.1 _ _ (rfl : ai_sp 572 = (9, 0)) (by decide) (by decide)) (G.2 _ _ _ (rfl : ai_rf 572 17 = some 587)) ?_
    refine ev_iload 89 rfl d136_87 rfl ?_
    refine ev_iald_n (v := nI 1) 90 rfl d136_89 (by omega) (G.1 _ _ (rfl : ai_sp 587 = (100, 4800)) (by decide) (by decide)) (by omega) (by decide) (by rw [ui_row hI_5 (by omega), ui_row hI_4 (by omega), ui_row hI_3 (by omega)]; exact ui_same hI_2) ?_
    refine ev_iret (Or.inl rfl) d136_90 ?_
    have h5 : ai_t5 I I_5 j (200 * j + (5 * t + q)) (nI a) (nI 1) (σ.sr j + nI 1) (nI (σ.given j + 1)) := by unfold ai_t5; rw [hI_5, hI_4, hI_3, hI_2, hI_1, show 200 * j + 5 * t + q = 200 * j + (5 * t + q) by omega]
    exact ⟨_, _, rfl, rfl, by rw [hkB], by rw [hkB]; exact rm_take hM (by omega) (by omega) (by omega) (by omega) (by omega) h0 hl h5, fun a9 ha9 => by rw [ui_row hI_5 (by omega), ui_row hI_4 (by omega), ui_row hI_3 (by omega), ui_row hI_2 (by omega), ui_row hI_1 (by omega)]⟩
theorem m_giveZ (G : ai_G S F) (hM : ai_RM σ I L) (hV : ai_IV σ) {z1 z2 z3 z4 z5 : Int32} (h : σ.ar z1 z2 z3 z4 z5 = 0) : ai_Ev none 136 0 [some (.ref 572), some (.int z1), some (.int z2), some (.int z3), some (.int z4), some (.int z5), none] [] (S, I, L, F) (ai_Py S F L (fun v I2 => v = nI (σ.kindB (ai_nn z1) z5) ∧ ai_RM (σ.took z1 z2 z3 z4 z5) I2 L ∧ ∀ a, a < 572 → I2 a = I a)) := by
  have hnT := hV.nT
  have hnQ := hV.nQ
  have hnJ := hV.nJ
  obtain ⟨j, t, q, a, rfl, rfl, rfl, rfl, hj, hl, ht, hq, ha, h5, h0⟩ := ar_0 h hnT hnQ hnJ
  have han := hV.an q hq
  have h1 := m_give (S := S) (F := F) (L := L) (z5 := z5) G hM hV hj hl ht hq ha h0
  unfold ai_S.took
  rw [nn_I (show j < 2147483648 by omega), nn_I (show t < 2147483648 by omega), nn_I (show q < 2147483648 by omega), nn_I (show a < 2147483648 by omega)]
  exact h1
theorem ar_1 {z1 z2 z3 z4 z5 : Int32} (h : ¬ (σ.isJ z1 ∧ σ.isC z2 z3)) : σ.ar z1 z2 z3 z4 z5 = 1 := by
  unfold ai_S.ar
  by_cases h1 : σ.isJ z1
  · rw [c_T h1, c_F (fun h2 => h ⟨h1, h2⟩)]
  · rw [c_F h1]
theorem m_isGood (G : ai_G S F) (hM : ai_RM σ I L) (hV : ai_IV σ) {z1 z2 z3 z4 z5 : Int32} (h : σ.isJ z1 ∧ σ.isC z2 z3) : ai_Ev none 135 0 [some (.ref 572), some (.int z1), some (.int z2), some (.int z3), some (.int z4), some (.int z5)] [] (S, I, L, F) (ai_Pb S F I L ((σ.ar z1 z2 z3 z4 z5) = 0)) := by
  have hnT := hV.nT
  have hnQ := hV.nQ
  have hnJ := hV.nJ
  unfold ai_S.ar
  rw [c_T h.1, c_T h.2]
  obtain ⟨⟨j, hj, hl, rfl⟩, t, q, ht, hq, rfl, rfl⟩ := h
  have han := hV.an q hq
  simp only [nn_I (show j < 2147483648 by omega)]
  simp only [nn_I (show t < 2147483648 by omega)]
  simp only [nn_I (show q < 2147483648 by omega)]
  refine ev_aload_n 1 rfl d135_0 rfl ?_
  refine ev_iload 3 rfl d135_1 rfl ?_
  refine ev_iconst (v := nI 0) 4 rfl d135_3 (by decide) ?_
  refine ev_aload_n 5 rfl d135_4 rfl ?_
  refine ev_getr 8 rfl 9 8 d135_5 rfl (by omega) (G.1 _ _ (rfl : ai_sp 572 = (9, 0)) (by decide) (by decide)) (G.2 _ _ _ (rfl : ai_rf 572 8 = some 578)) ?_
  refine ev_iload_n 9 rfl d135_8 rfl ?_
  refine ev_iald_n (v := nI (σ.an q)) 10 rfl d135_9 (by omega) (G.1 _ _ (rfl : ai_sp 578 = (100, 5)) (by decide) (by decide)) (by omega) (by decide) (hM.an _ (by omega)) ?_
  refine ev_iconst (v := nI 1) 11 rfl d135_10 (by decide) ?_
  refine ev_isub (v := nI (σ.an q) - 1) 12 rfl d135_11 rfl ?_
  refine ev_cb3 15 rfl 114 d135_12 rfl rfl (by rw [G.1 _ _ (rfl : ai_sp 572 = (9, 0)) (by decide) (by decide)]; rfl) (by omega) rfl (pb_iff (in_is (n := σ.an q) rfl (by omega)) (m_in G)) (fun hq_12 => ?_) (fun hq_12 => ?_)
  · rw [c_T hq_12]
    refine ev_if_F 47 18 (by decide) rfl (by decide) d135_15 ?_
    refine ev_iload 20 rfl d135_18 rfl ?_
    refine ev_if 47 23 (by decide) rfl cz_lt d135_20 (fun hc_20 => ?_) (fun hc_20 => ?_)
    · rw [c_T hc_20]
      refine ev_iconst (v := nI 0) 48 rfl d135_47 (by decide) ?_
      refine ev_iret (Or.inr ⟨rfl, Or.inl (by decide)⟩) d135_48 ?_
      exact ⟨Or.inr ⟨by omega, rfl⟩, rfl⟩
    · rw [c_F hc_20]
      refine ev_aload_n 24 rfl d135_23 rfl ?_
      refine ev_getr 27 rfl 9 16 d135_24 rfl (by omega) (G.1 _ _ (rfl : ai_sp 572 = (9, 0)) (by decide) (by decide)) (G.2 _ _ _ (rfl : ai_rf 572 16 = some 586)) ?_
      refine ev_sipush (v := nI 200) 30 rfl d135_27 (by decide) ?_
      refine ev_iload_n 31 rfl d135_30 rfl ?_
      refine ev_imul (v := nI (200 * j)) 32 rfl d135_31 (pk_mul _ _) ?_
      refine ev_iconst (v := nI 5) 33 rfl d135_32 (by decide) ?_
      refine ev_iload_n 34 rfl d135_33 rfl ?_
      refine ev_imul (v := nI (5 * t)) 35 rfl d135_34 (pk_mul _ _) ?_
      refine ev_iadd (v := nI ((200 * j) + (5 * t))) 36 rfl d135_35 (nI_add _ _) ?_
      refine ev_iload_n 37 rfl d135_36 rfl ?_
      refine ev_iadd (v := nI (((200 * j) + (5 * t)) + q)) 38 rfl d135_37 (nI_add _ _) ?_
      have hsy := sy_le (σ := σ) (j := j) (c := 5 * t + q)
      refine ev_iald_n (v := nI (σ.sy j (5 * t + q)) - 1) 39 rfl d135_38 (by omega) (G.1 _ _ (rfl : ai_sp 586 = (100, 4800)) (by decide) (by decide)) (by omega) (by decide) (rm_gv hM (j := j) (c := 5 * t + q) (by omega) (by omega) (by omega) hl (by omega)) ?_
      refine ev_iconst (v := (-1)) 40 rfl d135_39 (by decide) ?_
      refine ev_icmp 47 43 (by decide) rfl (cq_ne (by omega)) d135_40 (fun hc_40 => ?_) (fun hc_40 => ?_)
      · rw [c_T (fun h9 => hc_40 (sy_0.mpr h9))]
        refine ev_iconst (v := nI 0) 48 rfl d135_47 (by decide) ?_
        refine ev_iret (Or.inr ⟨rfl, Or.inl (by decide)⟩) d135_48 ?_
        exact ⟨Or.inr ⟨by omega, rfl⟩, rfl⟩
      · rw [c_F (fun h9 => h9 (sy_0.mp (by omega)))]
        refine ev_iconst (v := nI 1) 44 rfl d135_43 (by decide) ?_
        refine ev_goto 48 (by decide) d135_44 ?_
        refine ev_iret (Or.inr ⟨rfl, Or.inr (by decide)⟩) d135_48 ?_
        exact ⟨Or.inl ⟨rfl, rfl⟩, rfl⟩
  · rw [c_F hq_12]
    refine ev_if_T 47 (by decide) (by decide) d135_15 ?_
    refine ev_iconst (v := nI 0) 48 rfl d135_47 (by decide) ?_
    refine ev_iret (Or.inr ⟨rfl, Or.inl (by decide)⟩) d135_48 ?_
    exact ⟨Or.inr ⟨by omega, rfl⟩, rfl⟩
theorem ar_6 {z1 z2 z3 z4 z5 : Int32} (h : σ.isJ z1 ∧ σ.isC z2 z3) (h2 : ¬ σ.ar z1 z2 z3 z4 z5 = 0) : σ.ar z1 z2 z3 z4 z5 = 6 := by
  unfold ai_S.ar at h2 ⊢
  rw [c_T h.1, c_T h.2] at h2 ⊢
  by_cases h3 : ai_is (σ.an (ai_nn z3)) z4
  · rw [c_T h3] at h2 ⊢
    by_cases h4 : z5 < 0
    · rw [c_T h4]
    · rw [c_F h4] at h2 ⊢
      by_cases h5 : σ.gv (ai_nn z1) (5 * ai_nn z2 + ai_nn z3) ≠ 0
      · rw [c_T h5]
      · rw [c_F h5] at h2; exact absurd rfl h2
  · rw [c_F h3]
theorem m_answer (G : ai_G S F) (hM : ai_RM σ I L) (hV : ai_IV σ) {z1 : Int32} {z2 : Int32} {z3 : Int32} {z4 : Int32} {z5 : Int32} : ai_Ev none 137 0 [some (.ref 572), some (.int z1), some (.int z2), some (.int z3), some (.int z4), some (.int z5), none] [] (S, I, L, F) (ai_PM S F I L (o_answer σ z1 z2 z3 z4 z5)) := by
  have hnT := hV.nT
  have hnQ := hV.nQ
  have hnJ := hV.nJ
  unfold o_answer
  refine ev_aload_n 1 rfl d137_0 rfl ?_
  refine ev_iload_n 2 rfl d137_1 rfl ?_
  refine ev_iload_n 3 rfl d137_2 rfl ?_
  refine ev_iload_n 4 rfl d137_3 rfl ?_
  refine ev_cb3 7 rfl 134 d137_4 rfl rfl (by rw [G.1 _ _ (rfl : ai_sp 572 = (9, 0)) (by decide) (by decide)]; rfl) (by omega) rfl (m_wouldBe G hM hV) (fun hq_4 => ?_) (fun hq_4 => ?_)
  · have hw9 := hq_4
    refine ev_if_T 16 (by decide) (by decide) d137_7 ?_
    refine ev_aload_n 17 rfl d137_16 rfl ?_
    refine ev_iload_n 18 rfl d137_17 rfl ?_
    refine ev_iload_n 19 rfl d137_18 rfl ?_
    refine ev_iload_n 20 rfl d137_19 rfl ?_
    refine ev_iload 22 rfl d137_20 rfl ?_
    refine ev_iload 24 rfl d137_22 rfl ?_
    refine ev_cb5 27 rfl 135 d137_24 rfl rfl (by rw [G.1 _ _ (rfl : ai_sp 572 = (9, 0)) (by decide) (by decide)]; rfl) (by omega) rfl (m_isGood G hM hV hw9) (fun hq_24 => ?_) (fun hq_24 => ?_)
    · rw [c_T hq_24]
      refine ev_if_T 37 (by decide) (by decide) d137_27 ?_
      refine ev_aload_n 38 rfl d137_37 rfl ?_
      refine ev_iload_n 39 rfl d137_38 rfl ?_
      refine ev_iload_n 40 rfl d137_39 rfl ?_
      refine ev_iload_n 41 rfl d137_40 rfl ?_
      refine ev_iload 43 rfl d137_41 rfl ?_
      refine ev_iload 45 rfl d137_43 rfl ?_
      refine ev_cy5 48 rfl 136 d137_45 rfl rfl (by rw [G.1 _ _ (rfl : ai_sp 572 = (9, 0)) (by decide) (by decide)]; rfl) (by omega) rfl (m_giveZ G hM hV hq_24) (fun v_2 I_1 hr_45 => ?_)
      obtain ⟨rfl, hM2, hf2⟩ := hr_45
      have hkl := kindB_lt (σ := σ) (j := ai_nn z1) (z := z5)
      refine ev_store_i 50 rfl d137_48 ⟨rfl, Nat.le_of_ble_eq_true rfl⟩ rfl ?_
      show ai_Ev _ _ _ [some (.ref 572), some (.int z1), some (.int z2), some (.int z3), some (.int z4), some (.int z5), some (.int (nI (σ.kindB (ai_nn z1) z5)))] _ _ _
      refine ev_iload 52 rfl d137_50 rfl ?_
      refine ev_if 59 55 (by decide) rfl (c0_ne (by omega)) d137_52 (fun hc_52 => ?_) (fun hc_52 => ?_)
      · try rw [c_T hc_52]
        refine ev_iload 61 rfl d137_59 rfl ?_
        refine ev_iret (Or.inl rfl) d137_61 ?_
        exact ⟨_, _, rfl, rfl, hM2, fun a ha => ⟨hf2 a ha, rfl⟩⟩
      · try rw [c_F hc_52]
        refine ev_iconst (v := nI 0) 56 rfl d137_55 (by decide) ?_
        refine ev_goto 61 (by decide) d137_56 ?_
        refine ev_iret (Or.inl rfl) d137_61 ?_
        rw [show σ.kindB (ai_nn z1) z5 = 0 by omega]
        exact ⟨_, _, rfl, rfl, hM2, fun a ha => ⟨hf2 a ha, rfl⟩⟩
    · have e6 : (σ.ar z1 z2 z3 z4 z5) = 6 := ar_6 hw9 hq_24
      rw [e6, c_F (by decide)]
      refine ev_if_F 37 30 (by decide) rfl (by decide) d137_27 ?_
      refine ev_aload_n 31 rfl d137_30 rfl ?_
      refine ev_bipush (v := (-6)) 33 rfl d137_31 (by decide) ?_
      refine ev_cy1 36 rfl 115 d137_33 rfl rfl (by rw [G.1 _ _ (rfl : ai_sp 572 = (9, 0)) (by decide) (by decide)]; rfl) (by omega) rfl (show ai_Ev none 115 0 [some (.ref 572), some (.int (-6))] [] (S, I, L, F) _ from by rw [show ((-6) : Int32) = -(nI 6) by decide]; exact m_refuse (I := I) (L := L) (S := S) (F := F) G (k := 6) (by omega)) (fun v_2 I_1 hr_33 => ?_)
      refine ev_iret (Or.inl rfl) d137_36 ?_
      exact pm_ref hM (by omega) hr_33
  · have e6 : (σ.ar z1 z2 z3 z4 z5) = 1 := ar_1 hq_4
    rw [e6, c_F (by decide)]
    refine ev_if_F 16 10 (by decide) rfl (by decide) d137_7 ?_
    refine ev_aload_n 11 rfl d137_10 rfl ?_
    refine ev_iconst (v := (-1)) 12 rfl d137_11 (by decide) ?_
    refine ev_cy1 15 rfl 115 d137_12 rfl rfl (by rw [G.1 _ _ (rfl : ai_sp 572 = (9, 0)) (by decide) (by decide)]; rfl) (by omega) rfl (show ai_Ev none 115 0 [some (.ref 572), some (.int (-1))] [] (S, I, L, F) _ from by rw [show ((-1) : Int32) = -(nI 1) by decide]; exact m_refuse (I := I) (L := L) (S := S) (F := F) G (k := 1) (by omega)) (fun v_2 I_1 hr_12 => ?_)
    refine ev_iret (Or.inl rfl) d137_15 ?_
    exact pm_ref hM (by omega) hr_12
theorem rm_el (hM : ai_RM σ I L) {s x i : Nat} (hi : i = 100 * s + x) (hs : s < 8) (hx : x < σ.sz s) : L 576 i = σ.el s x := by subst hi; exact hM.el s hs x hx
theorem m_ans_loop (G : ai_G S F) {I0 : Nat → Nat → Int32} {s : Nat} (hs : s < 8) : ∀ (k : Nat) (σ : ai_S) (n : Nat) (I : Nat → Nat → Int32) (u4 u5 u6 u7 u8 u9 u10 : Option Value), ai_IV σ → n + k = 21 → ai_RM σ I L → (∀ a, a < 572 → I a = I0 a) → ai_Ev none 138 58 [some (.ref 572), some (.int (nI s)), some (.int (nI n)), some (.int (nI 1)), u4, u5, u6, u7, u8, u9, u10] [] (S, I, L, F) (ai_Py S F L (fun v I2 => v = nI (ai_ago k σ s n).2 ∧ ai_RM (ai_ago k σ s n).1 I2 L ∧ ∀ a, a < 572 → I2 a = I0 a)) := by
  intro k
  induction k with
  | zero =>
    intro σ n I u4 u5 u6 u7 u8 u9 u10 hV hz hM hf
    have hsz := hV.sz s hs
    refine ev_iload_n 59 rfl d138_58 rfl ?_
    refine ev_if_F 209 62 (by decide) rfl (by decide) d138_59 ?_
    refine ev_iconst (v := nI 5) 63 rfl d138_62 (by decide) ?_
    refine ev_iload_n 64 rfl d138_63 rfl ?_
    refine ev_imul (v := nI (5 * n)) 65 rfl d138_64 (pk_mul _ _) ?_
    refine ev_iconst (v := nI 5) 66 rfl d138_65 (by decide) ?_
    refine ev_iadd (v := nI ((5 * n) + 5)) 67 rfl d138_66 (nI_add _ _) ?_
    refine ev_aload_n 68 rfl d138_67 rfl ?_
    refine ev_getr 71 rfl 9 2 d138_68 rfl (by omega) (G.1 _ _ (rfl : ai_sp 572 = (9, 0)) (by decide) (by decide)) (G.2 _ _ _ (rfl : ai_rf 572 2 = some 575)) ?_
    refine ev_iload_n 72 rfl d138_71 rfl ?_
    refine ev_iald_n (v := nI (σ.sz s)) 73 rfl d138_72 (by omega) (G.1 _ _ (rfl : ai_sp 575 = (100, 8)) (by decide) (by decide)) (by omega) (by decide) (hM.sz _ (by omega)) ?_
    refine ev_icmp 209 76 (by decide) rfl (cn_gt (by omega) (by omega)) d138_73 (fun hc_73 => ?_) (fun hc_73 => ?_)
    · have hstop : ai_ago 0 σ s n = (σ, n) := rfl
      refine ev_iload_n 210 rfl d138_209 rfl ?_
      refine ev_iret (Or.inl rfl) d138_210 ?_
      rw [hstop]
      exact ⟨_, _, rfl, rfl, rfl, hM, hf⟩
    · exfalso
      omega
  | succ k ih =>
    intro σ n I u4 u5 u6 u7 u8 u9 u10 hV hz hM hf
    have hsz := hV.sz s hs
    refine ev_iload_n 59 rfl d138_58 rfl ?_
    refine ev_if_F 209 62 (by decide) rfl (by decide) d138_59 ?_
    refine ev_iconst (v := nI 5) 63 rfl d138_62 (by decide) ?_
    refine ev_iload_n 64 rfl d138_63 rfl ?_
    refine ev_imul (v := nI (5 * n)) 65 rfl d138_64 (pk_mul _ _) ?_
    refine ev_iconst (v := nI 5) 66 rfl d138_65 (by decide) ?_
    refine ev_iadd (v := nI ((5 * n) + 5)) 67 rfl d138_66 (nI_add _ _) ?_
    refine ev_aload_n 68 rfl d138_67 rfl ?_
    refine ev_getr 71 rfl 9 2 d138_68 rfl (by omega) (G.1 _ _ (rfl : ai_sp 572 = (9, 0)) (by decide) (by decide)) (G.2 _ _ _ (rfl : ai_rf 572 2 = some 575)) ?_
    refine ev_iload_n 72 rfl d138_71 rfl ?_
    refine ev_iald_n (v := nI (σ.sz s)) 73 rfl d138_72 (by omega) (G.1 _ _ (rfl : ai_sp 575 = (100, 8)) (by decide) (by decide)) (by omega) (by decide) (hM.sz _ (by omega)) ?_
    refine ev_icmp 209 76 (by decide) rfl (cn_gt (by omega) (by omega)) d138_73 (fun hc_73 => ?_) (fun hc_73 => ?_)
    · have hstop : ai_ago (k + 1) σ s n = (σ, n) := c_F (fun h => by omega)
      refine ev_iload_n 210 rfl d138_209 rfl ?_
      refine ev_iret (Or.inl rfl) d138_210 ?_
      rw [hstop]
      exact ⟨_, _, rfl, rfl, rfl, hM, hf⟩
    · refine ev_bipush (v := nI 100) 78 rfl d138_76 (by decide) ?_
      refine ev_iload_n 79 rfl d138_78 rfl ?_
      refine ev_imul (v := nI (100 * s)) 80 rfl d138_79 (pk_mul _ _) ?_
      refine ev_iconst (v := nI 5) 81 rfl d138_80 (by decide) ?_
      refine ev_iload_n 82 rfl d138_81 rfl ?_
      refine ev_imul (v := nI (5 * n)) 83 rfl d138_82 (pk_mul _ _) ?_
      refine ev_iadd (v := nI ((100 * s) + (5 * n))) 84 rfl d138_83 (nI_add _ _) ?_
      refine ev_store_i 86 rfl d138_84 ⟨rfl, Nat.le_of_ble_eq_true rfl⟩ rfl ?_
      show ai_Ev _ _ _ [some (.ref 572), some (.int (nI s)), some (.int (nI n)), some (.int (nI 1)), some (.int (nI ((100 * s) + (5 * n)))), u5, u6, u7, u8, u9, u10] _ _ _
      refine ev_aload_n 87 rfl d138_86 rfl ?_
      refine ev_getr 90 rfl 9 3 d138_87 rfl (by omega) (G.1 _ _ (rfl : ai_sp 572 = (9, 0)) (by decide) (by decide)) (G.2 _ _ _ (rfl : ai_rf 572 3 = some 576)) ?_
      refine ev_iload 92 rfl d138_90 rfl ?_
      refine ev_lald_n (v := σ.el s (5 * n + 0)) 93 rfl d138_92 (by omega) (G.1 _ _ (rfl : ai_sp 576 = (103, 800)) (by decide) (by decide)) (by omega) (by decide) (rm_el hM (x := 5 * n + 0) (by omega) (by omega) (by omega)) ?_
      refine ev_l2i 94 rfl d138_93 rfl ?_
      refine ev_store_i 96 rfl d138_94 ⟨rfl, Nat.le_of_ble_eq_true rfl⟩ rfl ?_
      show ai_Ev _ _ _ [some (.ref 572), some (.int (nI s)), some (.int (nI n)), some (.int (nI 1)), some (.int (nI ((100 * s) + (5 * n)))), some (.int ((σ.el s (5 * n + 0)).toInt32)), u6, u7, u8, u9, u10] _ _ _
      refine ev_aload_n 97 rfl d138_96 rfl ?_
      refine ev_getr 100 rfl 9 3 d138_97 rfl (by omega) (G.1 _ _ (rfl : ai_sp 572 = (9, 0)) (by decide) (by decide)) (G.2 _ _ _ (rfl : ai_rf 572 3 = some 576)) ?_
      refine ev_iload 102 rfl d138_100 rfl ?_
      refine ev_iconst (v := nI 1) 103 rfl d138_102 (by decide) ?_
      refine ev_iadd (v := nI (((100 * s) + (5 * n)) + 1)) 104 rfl d138_103 (nI_add _ _) ?_
      refine ev_lald_n (v := σ.el s (5 * n + 1)) 105 rfl d138_104 (by omega) (G.1 _ _ (rfl : ai_sp 576 = (103, 800)) (by decide) (by decide)) (by omega) (by decide) (rm_el hM (x := 5 * n + 1) (by omega) (by omega) (by omega)) ?_
      refine ev_l2i 106 rfl d138_105 rfl ?_
      refine ev_store_i 108 rfl d138_106 ⟨rfl, Nat.le_of_ble_eq_true rfl⟩ rfl ?_
      show ai_Ev _ _ _ [some (.ref 572), some (.int (nI s)), some (.int (nI n)), some (.int (nI 1)), some (.int (nI ((100 * s) + (5 * n)))), some (.int ((σ.el s (5 * n + 0)).toInt32)), some (.int ((σ.el s (5 * n + 1)).toInt32)), u7, u8, u9, u10] _ _ _
      refine ev_aload_n 109 rfl d138_108 rfl ?_
      refine ev_getr 112 rfl 9 3 d138_109 rfl (by omega) (G.1 _ _ (rfl : ai_sp 572 = (9, 0)) (by decide) (by decide)) (G.2 _ _ _ (rfl : ai_rf 572 3 = some 576)) ?_
      refine ev_iload 114 rfl d138_112 rfl ?_
      refine ev_iconst (v := nI 2) 115 rfl d138_114 (by decide) ?_
      refine ev_iadd (v := nI (((100 * s) + (5 * n)) + 2)) 116 rfl d138_115 (nI_add _ _) ?_
      refine ev_lald_n (v := σ.el s (5 * n + 2)) 117 rfl d138_116 (by omega) (G.1 _ _ (rfl : ai_sp 576 = (103, 800)) (by decide) (by decide)) (by omega) (by decide) (rm_el hM (x := 5 * n + 2) (by omega) (by omega) (by omega)) ?_
      refine ev_l2i 118 rfl d138_117 rfl ?_
      refine ev_store_i 120 rfl d138_118 ⟨rfl, Nat.le_of_ble_eq_true rfl⟩ rfl ?_
      show ai_Ev _ _ _ [some (.ref 572), some (.int (nI s)), some (.int (nI n)), some (.int (nI 1)), some (.int (nI ((100 * s) + (5 * n)))), some (.int ((σ.el s (5 * n + 0)).toInt32)), some (.int ((σ.el s (5 * n + 1)).toInt32)), some (.int ((σ.el s (5 * n + 2)).toInt32)), u8, u9, u10] _ _ _
      refine ev_aload_n 121 rfl d138_120 rfl ?_
      refine ev_getr 124 rfl 9 3 d138_121 rfl (by omega) (G.1 _ _ (rfl : ai_sp 572 = (9, 0)) (by decide) (by decide)) (G.2 _ _ _ (rfl : ai_rf 572 3 = some 576)) ?_
      refine ev_iload 126 rfl d138_124 rfl ?_
      refine ev_iconst (v := nI 3) 127 rfl d138_126 (by decide) ?_
      refine ev_iadd (v := nI (((100 * s) + (5 * n)) + 3)) 128 rfl d138_127 (nI_add _ _) ?_
      refine ev_lald_n (v := σ.el s (5 * n + 3)) 129 rfl d138_128 (by omega) (G.1 _ _ (rfl : ai_sp 576 = (103, 800)) (by decide) (by decide)) (by omega) (by decide) (rm_el hM (x := 5 * n + 3) (by omega) (by omega) (by omega)) ?_
      refine ev_l2i 130 rfl d138_129 rfl ?_
      refine ev_store_i 132 rfl d138_130 ⟨rfl, Nat.le_of_ble_eq_true rfl⟩ rfl ?_
      show ai_Ev _ _ _ [some (.ref 572), some (.int (nI s)), some (.int (nI n)), some (.int (nI 1)), some (.int (nI ((100 * s) + (5 * n)))), some (.int ((σ.el s (5 * n + 0)).toInt32)), some (.int ((σ.el s (5 * n + 1)).toInt32)), some (.int ((σ.el s (5 * n + 2)).toInt32)), some (.int ((σ.el s (5 * n + 3)).toInt32)), u9, u10] _ _ _
      refine ev_aload_n 133 rfl d138_132 rfl ?_
      refine ev_getr 136 rfl 9 3 d138_133 rfl (by omega) (G.1 _ _ (rfl : ai_sp 572 = (9, 0)) (by decide) (by decide)) (G.2 _ _ _ (rfl : ai_rf 572 3 = some 576)) ?_
      refine ev_iload 138 rfl d138_136 rfl ?_
      refine ev_iconst (v := nI 4) 139 rfl d138_138 (by decide) ?_
      refine ev_iadd (v := nI (((100 * s) + (5 * n)) + 4)) 140 rfl d138_139 (nI_add _ _) ?_
      refine ev_lald_n (v := σ.el s (5 * n + 4)) 141 rfl d138_140 (by omega) (G.1 _ _ (rfl : ai_sp 576 = (103, 800)) (by decide) (by decide)) (by omega) (by decide) (rm_el hM (x := 5 * n + 4) (by omega) (by omega) (by omega)) ?_
      refine ev_l2i 142 rfl d138_141 rfl ?_
      refine ev_store_i 144 rfl d138_142 ⟨rfl, Nat.le_of_ble_eq_true rfl⟩ rfl ?_
      show ai_Ev _ _ _ [some (.ref 572), some (.int (nI s)), some (.int (nI n)), some (.int (nI 1)), some (.int (nI ((100 * s) + (5 * n)))), some (.int ((σ.el s (5 * n + 0)).toInt32)), some (.int ((σ.el s (5 * n + 1)).toInt32)), some (.int ((σ.el s (5 * n + 2)).toInt32)), some (.int ((σ.el s (5 * n + 3)).toInt32)), some (.int ((σ.el s (5 * n + 4)).toInt32)), u10] _ _ _
      refine ev_aload_n 145 rfl d138_144 rfl ?_
      refine ev_iload 147 rfl d138_145 rfl ?_
      refine ev_iload 149 rfl d138_147 rfl ?_
      refine ev_iload 151 rfl d138_149 rfl ?_
      refine ev_cb3 154 rfl 134 d138_151 rfl rfl (by rw [G.1 _ _ (rfl : ai_sp 572 = (9, 0)) (by decide) (by decide)]; rfl) (by omega) rfl (show ai_Ev none 134 0 _ [] (S, I, L, F) (ai_Pb S F I L (σ.isJ (σ.e5 s n 0) ∧ σ.isC (σ.e5 s n 1) (σ.e5 s n 2))) from m_wouldBe G hM hV) (fun hq_151 => ?_) (fun hq_151 => ?_)
      · have hw9 := hq_151
        refine ev_if_F 178 157 (by decide) rfl (by decide) d138_154 ?_
        refine ev_aload_n 158 rfl d138_157 rfl ?_
        refine ev_iload 160 rfl d138_158 rfl ?_
        refine ev_iload 162 rfl d138_160 rfl ?_
        refine ev_iload 164 rfl d138_162 rfl ?_
        refine ev_iload 166 rfl d138_164 rfl ?_
        refine ev_iload 168 rfl d138_166 rfl ?_
        refine ev_cb5 171 rfl 135 d138_168 rfl rfl (by rw [G.1 _ _ (rfl : ai_sp 572 = (9, 0)) (by decide) (by decide)]; rfl) (by omega) rfl (show ai_Ev none 135 0 _ [] (S, I, L, F) (ai_Pb S F I L ((σ.ar (σ.e5 s n 0) (σ.e5 s n 1) (σ.e5 s n 2) (σ.e5 s n 3) (σ.e5 s n 4)) = 0)) from m_isGood (z1 := (σ.e5 s n 0)) (z2 := (σ.e5 s n 1)) (z3 := (σ.e5 s n 2)) (z4 := (σ.e5 s n 3)) (z5 := (σ.e5 s n 4)) G hM hV hw9) (fun hq_168 => ?_) (fun hq_168 => ?_)
        · have hc9 := hq_168
          refine ev_if_F 178 174 (by decide) rfl (by decide) d138_171 ?_
          refine ev_iconst (v := nI 1) 175 rfl d138_174 (by decide) ?_
          refine ev_goto 179 (by decide) d138_175 ?_
          refine ev_store_in 180 rfl d138_179 (Nat.le_of_ble_eq_true rfl) rfl ?_
          show ai_Ev _ _ _ [some (.ref 572), some (.int (nI s)), some (.int (nI n)), some (.int (nI 1)), some (.int (nI ((100 * s) + (5 * n)))), some (.int ((σ.el s (5 * n + 0)).toInt32)), some (.int ((σ.el s (5 * n + 1)).toInt32)), some (.int ((σ.el s (5 * n + 2)).toInt32)), some (.int ((σ.el s (5 * n + 3)).toInt32)), some (.int ((σ.el s (5 * n + 4)).toInt32)), u10] _ _ _
          refine ev_iload_n 181 rfl d138_180 rfl ?_
          refine ev_if_T 187 (by decide) (by decide) d138_181 ?_
          refine ev_aload_n 188 rfl d138_187 rfl ?_
          refine ev_iload 190 rfl d138_188 rfl ?_
          refine ev_iload 192 rfl d138_190 rfl ?_
          refine ev_iload 194 rfl d138_192 rfl ?_
          refine ev_iload 196 rfl d138_194 rfl ?_
          refine ev_iload 198 rfl d138_196 rfl ?_
          refine ev_cy5 201 rfl 136 d138_198 rfl rfl (by rw [G.1 _ _ (rfl : ai_sp 572 = (9, 0)) (by decide) (by decide)]; rfl) (by omega) rfl (show ai_Ev none 136 0 _ [] (S, I, L, F) _ from m_giveZ (z1 := (σ.e5 s n 0)) (z2 := (σ.e5 s n 1)) (z3 := (σ.e5 s n 2)) (z4 := (σ.e5 s n 3)) (z5 := (σ.e5 s n 4)) G hM hV hc9) (fun v_2 I_1 hr_198 => ?_)
          obtain ⟨-, hM2, hf2⟩ := hr_198
          refine ev_store_i 203 rfl d138_201 ⟨rfl, Nat.le_of_ble_eq_true rfl⟩ rfl ?_
          show ai_Ev _ _ _ [some (.ref 572), some (.int (nI s)), some (.int (nI n)), some (.int (nI 1)), some (.int (nI ((100 * s) + (5 * n)))), some (.int ((σ.el s (5 * n + 0)).toInt32)), some (.int ((σ.el s (5 * n + 1)).toInt32)), some (.int ((σ.el s (5 * n + 2)).toInt32)), some (.int ((σ.el s (5 * n + 3)).toInt32)), some (.int ((σ.el s (5 * n + 4)).toInt32)), some (.int v_2)] _ _ _
          refine ev_iinc (v := nI (n + 1)) 206 rfl d138_203 rfl (Nat.le_of_ble_eq_true rfl) (nI_add _ 1) rfl ?_
          show ai_Ev _ _ _ [some (.ref 572), some (.int (nI s)), some (.int (nI (n + 1))), some (.int (nI 1)), some (.int (nI ((100 * s) + (5 * n)))), some (.int ((σ.el s (5 * n + 0)).toInt32)), some (.int ((σ.el s (5 * n + 1)).toInt32)), some (.int ((σ.el s (5 * n + 2)).toInt32)), some (.int ((σ.el s (5 * n + 3)).toInt32)), some (.int ((σ.el s (5 * n + 4)).toInt32)), some (.int v_2)] _ _ _
          refine ev_goto 58 (by decide) d138_206 ?_
          have e8 : ai_ago (k + 1) σ s n = ai_ago k (σ.took (σ.e5 s n 0) (σ.e5 s n 1) (σ.e5 s n 2) (σ.e5 s n 3) (σ.e5 s n 4)) s (n + 1) := c_T ⟨by omega, hc9⟩
          rw [e8]
          exact ih (σ.took (σ.e5 s n 0) (σ.e5 s n 1) (σ.e5 s n 2) (σ.e5 s n 3) (σ.e5 s n 4)) (n + 1) _ _ _ _ _ _ _ _ (iv_took hV hc9) (by omega) hM2 (fun a ha => (hf2 a ha).trans (hf a ha))
        · have hstop : ai_ago (k + 1) σ s n = (σ, n) := c_F (fun h => hq_168 h.2)
          refine ev_if_T 178 (by decide) (by decide) d138_171 ?_
          refine ev_iconst (v := nI 0) 179 rfl d138_178 (by decide) ?_
          refine ev_store_in 180 rfl d138_179 (Nat.le_of_ble_eq_true rfl) rfl ?_
          show ai_Ev _ _ _ [some (.ref 572), some (.int (nI s)), some (.int (nI n)), some (.int (nI 0)), some (.int (nI ((100 * s) + (5 * n)))), some (.int ((σ.el s (5 * n + 0)).toInt32)), some (.int ((σ.el s (5 * n + 1)).toInt32)), some (.int ((σ.el s (5 * n + 2)).toInt32)), some (.int ((σ.el s (5 * n + 3)).toInt32)), some (.int ((σ.el s (5 * n + 4)).toInt32)), u10] _ _ _
          refine ev_iload_n 181 rfl d138_180 rfl ?_
          refine ev_if_F 187 184 (by decide) rfl (by decide) d138_181 ?_
          refine ev_goto 58 (by decide) d138_184 ?_
          refine ev_iload_n 59 rfl d138_58 rfl ?_
          refine ev_if_T 209 (by decide) (by decide) d138_59 ?_
          refine ev_iload_n 210 rfl d138_209 rfl ?_
          refine ev_iret (Or.inl rfl) d138_210 ?_
          rw [hstop]
          exact ⟨_, _, rfl, rfl, rfl, hM, hf⟩
      · have hc9 : ¬ (σ.ar (σ.e5 s n 0) (σ.e5 s n 1) (σ.e5 s n 2) (σ.e5 s n 3) (σ.e5 s n 4)) = 0 := by rw [ar_1 hq_151]; decide
        have hstop : ai_ago (k + 1) σ s n = (σ, n) := c_F (fun h => hc9 h.2)
        refine ev_if_T 178 (by decide) (by decide) d138_154 ?_
        refine ev_iconst (v := nI 0) 179 rfl d138_178 (by decide) ?_
        refine ev_store_in 180 rfl d138_179 (Nat.le_of_ble_eq_true rfl) rfl ?_
        show ai_Ev _ _ _ [some (.ref 572), some (.int (nI s)), some (.int (nI n)), some (.int (nI 0)), some (.int (nI ((100 * s) + (5 * n)))), some (.int ((σ.el s (5 * n + 0)).toInt32)), some (.int ((σ.el s (5 * n + 1)).toInt32)), some (.int ((σ.el s (5 * n + 2)).toInt32)), some (.int ((σ.el s (5 * n + 3)).toInt32)), some (.int ((σ.el s (5 * n + 4)).toInt32)), u10] _ _ _
        refine ev_iload_n 181 rfl d138_180 rfl ?_
        refine ev_if_F 187 184 (by decide) rfl (by decide) d138_181 ?_
        refine ev_goto 58 (by decide) d138_184 ?_
        refine ev_iload_n 59 rfl d138_58 rfl ?_
        refine ev_if_T 209 (by decide) (by decide) d138_59 ?_
        refine ev_iload_n 210 rfl d138_209 rfl ?_
        refine ev_iret (Or.inl rfl) d138_210 ?_
        rw [hstop]
        exact ⟨_, _, rfl, rfl, rfl, hM, hf⟩
theorem m_answers (G : ai_G S F) (hM : ai_RM σ I L) (hV : ai_IV σ) {z1 : Int32} : ai_Ev none 138 0 [some (.ref 572), some (.int z1), none, none, none, none, none, none, none, none, none] [] (S, I, L, F) (ai_PM S F I L (o_answers σ z1)) := by
  have hnT := hV.nT
  have hnQ := hV.nQ
  have hnJ := hV.nJ
  unfold o_answers
  refine ev_aload_n 1 rfl d138_0 rfl ?_
  refine ev_iload_n 2 rfl d138_1 rfl ?_
  refine ev_cb1 5 rfl 116 d138_2 rfl rfl (by rw [G.1 _ _ (rfl : ai_sp 572 = (9, 0)) (by decide) (by decide)]; rfl) (by omega) rfl (m_isShelf G) (fun hq_2 => ?_) (fun hq_2 => ?_)
  · obtain ⟨s, hs, rfl⟩ := hq_2
    have hsz := hV.sz s hs
    have hhd := hV.hd s hs
    refine ev_if_T 14 (by decide) (by decide) d138_5 ?_
    refine ev_aload_n 15 rfl d138_14 rfl ?_
    refine ev_getr 18 rfl 9 1 d138_15 rfl (by omega) (G.1 _ _ (rfl : ai_sp 572 = (9, 0)) (by decide) (by decide)) (G.2 _ _ _ (rfl : ai_rf 572 1 = some 574)) ?_
    refine ev_iload_n 19 rfl d138_18 rfl ?_
    refine ev_iald_n (v := nI (σ.hd s) - 1) 20 rfl d138_19 (by omega) (G.1 _ _ (rfl : ai_sp 574 = (100, 8)) (by decide) (by decide)) (by omega) (by decide) (hM.hd _ (by omega)) ?_
    refine ev_if 38 23 (by decide) rfl (cq0_lt (by omega)) d138_20 (fun hc_20 => ?_) (fun hc_20 => ?_)
    · refine ev_aload_n 39 rfl d138_38 rfl ?_
      refine ev_getr 42 rfl 9 1 d138_39 rfl (by omega) (G.1 _ _ (rfl : ai_sp 572 = (9, 0)) (by decide) (by decide)) (G.2 _ _ _ (rfl : ai_rf 572 1 = some 574)) ?_
      refine ev_iload_n 43 rfl d138_42 rfl ?_
      refine ev_iald_n (v := nI (σ.hd s) - 1) 44 rfl d138_43 (by omega) (G.1 _ _ (rfl : ai_sp 574 = (100, 8)) (by decide) (by decide)) (by omega) (by decide) (hM.hd _ (by omega)) ?_
      refine ev_if 54 47 (by decide) rfl (cq0_ge (by omega)) d138_44 (fun hc_44 => ?_) (fun hc_44 => ?_)
      · have e2 : σ.rr (nI s) = 0 := by rw [rr_T hs, if_neg (by omega), if_pos (by omega)]
        rw [e2, c_T rfl]
        simp only [nn_I (show s < 2147483648 by omega)]
        refine ev_iconst (v := nI 0) 55 rfl d138_54 (by decide) ?_
        refine ev_store_in 56 rfl d138_55 (Nat.le_of_ble_eq_true rfl) rfl ?_
        show ai_Ev _ _ _ [some (.ref 572), some (.int (nI s)), some (.int (nI 0)), none, none, none, none, none, none, none, none] _ _ _
        refine ev_iconst (v := nI 1) 57 rfl d138_56 (by decide) ?_
        refine ev_store_in 58 rfl d138_57 (Nat.le_of_ble_eq_true rfl) rfl ?_
        show ai_Ev _ _ _ [some (.ref 572), some (.int (nI s)), some (.int (nI 0)), some (.int (nI 1)), none, none, none, none, none, none, none] _ _ _
        refine (m_ans_loop G (s := s) (by omega) 21 σ 0 I none none none none none none none hV (by omega) hM (fun _ _ => rfl)).imp ?_
        rintro r h' ⟨v, I9, rfl, rfl, rfl, h8, h9⟩
        exact ⟨I9, L, rfl, rfl, h8, fun a ha => ⟨h9 a ha, rfl⟩⟩
      · have e2 : σ.rr (nI s) = 3 := by rw [rr_T hs, if_pos (by omega)]
        rw [e2, c_F (by decide)]
        refine ev_aload_n 48 rfl d138_47 rfl ?_
        refine ev_bipush (v := (-3)) 50 rfl d138_48 (by decide) ?_
        refine ev_cy1 53 rfl 115 d138_50 rfl rfl (by rw [G.1 _ _ (rfl : ai_sp 572 = (9, 0)) (by decide) (by decide)]; rfl) (by omega) rfl (show ai_Ev none 115 0 [some (.ref 572), some (.int (-3))] [] (S, I, L, F) _ from by rw [show ((-3) : Int32) = -(nI 3) by decide]; exact m_refuse (I := I) (L := L) (S := S) (F := F) G (k := 3) (by omega)) (fun v_2 I_1 hr_50 => ?_)
        refine ev_iret (Or.inl rfl) d138_53 ?_
        exact pm_ref hM (by omega) hr_50
    · refine ev_aload_n 24 rfl d138_23 rfl ?_
      refine ev_iload_n 25 rfl d138_24 rfl ?_
      refine ev_cb1 28 rfl 117 d138_25 rfl rfl (by rw [G.1 _ _ (rfl : ai_sp 572 = (9, 0)) (by decide) (by decide)]; rfl) (by omega) rfl (m_hasRow G hM hV (by omega)) (fun hq_25 => ?_) (fun hq_25 => ?_)
      · refine ev_if_T 38 (by decide) (by decide) d138_28 ?_
        refine ev_aload_n 39 rfl d138_38 rfl ?_
        refine ev_getr 42 rfl 9 1 d138_39 rfl (by omega) (G.1 _ _ (rfl : ai_sp 572 = (9, 0)) (by decide) (by decide)) (G.2 _ _ _ (rfl : ai_rf 572 1 = some 574)) ?_
        refine ev_iload_n 43 rfl d138_42 rfl ?_
        refine ev_iald_n (v := nI (σ.hd s) - 1) 44 rfl d138_43 (by omega) (G.1 _ _ (rfl : ai_sp 574 = (100, 8)) (by decide) (by decide)) (by omega) (by decide) (hM.hd _ (by omega)) ?_
        refine ev_if 54 47 (by decide) rfl (cq0_ge (by omega)) d138_44 (fun hc_44 => ?_) (fun hc_44 => ?_)
        · have e2 : σ.rr (nI s) = 0 := by rw [rr_T hs, if_neg (by omega), if_pos (by omega)]
          rw [e2, c_T rfl]
          simp only [nn_I (show s < 2147483648 by omega)]
          refine ev_iconst (v := nI 0) 55 rfl d138_54 (by decide) ?_
          refine ev_store_in 56 rfl d138_55 (Nat.le_of_ble_eq_true rfl) rfl ?_
          show ai_Ev _ _ _ [some (.ref 572), some (.int (nI s)), some (.int (nI 0)), none, none, none, none, none, none, none, none] _ _ _
          refine ev_iconst (v := nI 1) 57 rfl d138_56 (by decide) ?_
          refine ev_store_in 58 rfl d138_57 (Nat.le_of_ble_eq_true rfl) rfl ?_
          show ai_Ev _ _ _ [some (.ref 572), some (.int (nI s)), some (.int (nI 0)), some (.int (nI 1)), none, none, none, none, none, none, none] _ _ _
          refine (m_ans_loop G (s := s) (by omega) 21 σ 0 I none none none none none none none hV (by omega) hM (fun _ _ => rfl)).imp ?_
          rintro r h' ⟨v, I9, rfl, rfl, rfl, h8, h9⟩
          exact ⟨I9, L, rfl, rfl, h8, fun a ha => ⟨h9 a ha, rfl⟩⟩
        · have e2 : σ.rr (nI s) = 3 := by rw [rr_T hs, if_pos (by omega)]
          rw [e2, c_F (by decide)]
          refine ev_aload_n 48 rfl d138_47 rfl ?_
          refine ev_bipush (v := (-3)) 50 rfl d138_48 (by decide) ?_
          refine ev_cy1 53 rfl 115 d138_50 rfl rfl (by rw [G.1 _ _ (rfl : ai_sp 572 = (9, 0)) (by decide) (by decide)]; rfl) (by omega) rfl (show ai_Ev none 115 0 [some (.ref 572), some (.int (-3))] [] (S, I, L, F) _ from by rw [show ((-3) : Int32) = -(nI 3) by decide]; exact m_refuse (I := I) (L := L) (S := S) (F := F) G (k := 3) (by omega)) (fun v_2 I_1 hr_50 => ?_)
          refine ev_iret (Or.inl rfl) d138_53 ?_
          exact pm_ref hM (by omega) hr_50
      · have e2 : σ.rr (nI s) = 2 := by rw [rr_T hs, if_neg (by omega), if_neg (by omega)]
        rw [e2, c_F (by decide)]
        
        refine ev_if_F 38 31 (by decide) rfl (by decide) d138_28 ?_
        refine ev_aload_n 32 rfl d138_31 rfl ?_
        refine ev_bipush (v := (-2)) 34 rfl d138_32 (by decide) ?_
        refine ev_cy1 37 rfl 115 d138_34 rfl rfl (by rw [G.1 _ _ (rfl : ai_sp 572 = (9, 0)) (by decide) (by decide)]; rfl) (by omega) rfl (show ai_Ev none 115 0 [some (.ref 572), some (.int (-2))] [] (S, I, L, F) _ from by rw [show ((-2) : Int32) = -(nI 2) by decide]; exact m_refuse (I := I) (L := L) (S := S) (F := F) G (k := 2) (by omega)) (fun v_2 I_1 hr_34 => ?_)
        refine ev_iret (Or.inl rfl) d138_37 ?_
        exact pm_ref hM (by omega) hr_34
  · rw [rr_F hq_2, c_F (by decide)]
    refine ev_if_F 14 8 (by decide) rfl (by decide) d138_5 ?_
    refine ev_aload_n 9 rfl d138_8 rfl ?_
    refine ev_iconst (v := (-1)) 10 rfl d138_9 (by decide) ?_
    refine ev_cy1 13 rfl 115 d138_10 rfl rfl (by rw [G.1 _ _ (rfl : ai_sp 572 = (9, 0)) (by decide) (by decide)]; rfl) (by omega) rfl (show ai_Ev none 115 0 [some (.ref 572), some (.int (-1))] [] (S, I, L, F) _ from by rw [show ((-1) : Int32) = -(nI 1) by decide]; exact m_refuse (I := I) (L := L) (S := S) (F := F) G (k := 1) (by omega)) (fun v_2 I_1 hr_10 => ?_)
    refine ev_iret (Or.inl rfl) d138_13 ?_
    exact pm_ref hM (by omega) hr_10
end MANS
