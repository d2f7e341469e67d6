section MRECL
variable {S : List (Nat × Nat)} {F : Nat → Nat → Option Nat} {L : Nat → Nat → Int64} {I : Nat → Nat → Int32} {σ : ai_S}
theorem m_rk_loop (G : ai_G S F) {I0 : Nat → Nat → Int32} {zb : Int32} : ∀ (k : Nat) (σ : ai_S) (I : Nat → Nat → Int32), ai_IV σ → σ.st + k = 30 → ai_RM σ I L → ai_RC σ I → (∀ a, a < 572 → I a = I0 a) → 0 < k → ai_Ev none 160 46 [some (.ref 572), some (.int zb), some (.int (nI 1))] [] (S, I, L, F) (ai_Py S F L (fun v I2 => v = nI (ai_S.rkgo k σ).st ∧ ai_RM (ai_S.rkgo k σ) I2 L ∧ ∀ a, a < 572 → I2 a = I0 a)) := by
  intro k
  induction k with
  | zero => intro σ I hV hst hM hC hf hk; omega
  | succ k ih =>
    intro σ I hV hst hM hC hf hk
    refine ev_iload_n 47 rfl d160_46 rfl ?_
    refine ev_if_F 103 50 (by decide) rfl (by decide) d160_47 ?_
    refine ev_aload_n 51 rfl d160_50 rfl ?_
    refine ev_getr 54 rfl 9 28 d160_51 rfl (by omega) (G.1 _ _ (rfl : ai_sp 572 = (9, 0)) (by decide) (by decide)) (G.2 _ _ _ (rfl : ai_rf 572 28 = some 594)) ?_
    refine ev_aload_n 55 rfl d160_54 rfl ?_
    refine ev_geti (v := nI σ.st) 58 rfl 9 29 d160_55 rfl (by omega) (G.1 _ _ (rfl : ai_sp 572 = (9, 0)) (by decide) (by decide)) hM.st ?_
    refine ev_aload_n 59 rfl d160_58 rfl ?_
    refine ev_cy0 62 rfl 159 d160_59 rfl rfl (by rw [G.1 _ _ (rfl : ai_sp 572 = (9, 0)) (by decide) (by decide)]; rfl) (by omega) rfl (m_step G hM hC hV) (fun v_2 I_1 hr_59 => ?_)
    obtain ⟨rfl, hM2, hC2, hf2⟩ := hr_59
    have hqn := qn_le σ.chg 200
    obtain ⟨I_3, hI_3⟩ : ∃ z, z = ai_ui I_1 594 σ.st (nI (ai_qn σ.chg 200)) := ⟨_, rfl⟩
    refine ev_iast_n (I2 := I_3) 63 rfl d160_62 (by omega) (G.1 _ _ (rfl : ai_sp 594 = (100, 30)) (by decide) (by decide)) (by omega) (by decide) hI_3.symm ?_
    refine ev_aload_n 64 rfl d160_63 rfl ?_
    refine ev_getr 67 rfl 9 28 d160_64 rfl (by omega) (G.1 _ _ (rfl : ai_sp 572 = (9, 0)) (by decide) (by decide)) (G.2 _ _ _ (rfl : ai_rf 572 28 = some 594)) ?_
    refine ev_aload_n 68 rfl d160_67 rfl ?_
    refine ev_geti (v := nI σ.st) 71 rfl 9 29 d160_68 rfl (by omega) (G.1 _ _ (rfl : ai_sp 572 = (9, 0)) (by decide) (by decide)) (by rw [ui_row hI_3 (by omega)]; exact hM2.st.trans (by rw [mk_st])) ?_
    refine ev_iald_n (v := nI (ai_qn σ.chg 200)) 72 rfl d160_71 (by omega) (G.1 _ _ (rfl : ai_sp 594 = (100, 30)) (by decide) (by decide)) (by omega) (by decide) (ui_same hI_3) ?_
    refine ev_if 88 75 (by decide) rfl (c0_le (by omega)) d160_72 (fun hc_72 => ?_) (fun hc_72 => ?_)
    · refine ev_iconst (v := nI 0) 89 rfl d160_88 (by decide) ?_
      refine ev_store_in 90 rfl d160_89 (Nat.le_of_ble_eq_true rfl) rfl ?_
      show ai_Ev _ _ _ [some (.ref 572), some (.int zb), some (.int (nI 0))] _ _ _
      refine ev_aload_n 91 rfl d160_90 rfl ?_
      refine ev_dup 92 rfl d160_91 rfl ?_
      refine ev_geti (v := nI σ.st) 95 rfl 9 29 d160_92 rfl (by omega) (G.1 _ _ (rfl : ai_sp 572 = (9, 0)) (by decide) (by decide)) (by rw [ui_row hI_3 (by omega)]; exact hM2.st.trans (by rw [mk_st])) ?_
      refine ev_iconst (v := nI 1) 96 rfl d160_95 (by decide) ?_
      refine ev_iadd (v := nI (σ.st + 1)) 97 rfl d160_96 (nI_add _ _) ?_
      obtain ⟨I_4, hI_4⟩ : ∃ z, z = ai_ui I_3 572 29 (nI (σ.st + 1)) := ⟨_, rfl⟩
      refine ev_puti (I2 := I_4) 100 rfl 9 29 d160_97 rfl (by omega) (G.1 _ _ (rfl : ai_sp 572 = (9, 0)) (by decide) (by decide)) (fun h => absurd h (by decide)) hI_4.symm ?_
      refine ev_goto 46 (by decide) d160_100 ?_
      have hM9 : ai_RM σ.step1 I_4 L := rm_step hV hM2 hI_3 hI_4
      have hC9 : ai_RC σ.step1 I_4 := rc_step1 (fun j hj => ⟨by rw [ui_row hI_4 (by omega), ui_row hI_3 (by omega)]; exact (hC2 j hj).1, fun c hc => by rw [ui_row hI_4 (by omega), ui_row hI_3 (by omega)]; exact (hC2 j hj).2 c hc⟩)
      have hf9 : ∀ a, a < 572 → I_4 a = I0 a := fun a ha => by rw [ui_row hI_4 (by omega), ui_row hI_3 (by omega), hf2 a ha]; exact hf a ha
      have e8 : ai_S.rkgo (k + 1) σ = σ.step1 := by
        by_cases e9 : ai_qn σ.chg 200 = 0
        · exact go_0 e9
        · rw [go_1 e9]
          have e7 : k = 0 := by omega
          subst e7; rfl
      rw [e8]
      refine ev_iload_n 47 rfl d160_46 rfl ?_
      refine ev_if_T 103 (by decide) (by decide) d160_47 ?_
      refine ev_aload_n 104 rfl d160_103 rfl ?_
      refine ev_geti (v := nI (σ.st + 1)) 107 rfl 9 29 d160_104 rfl (by omega) (G.1 _ _ (rfl : ai_sp 572 = (9, 0)) (by decide) (by decide)) hM9.st ?_
      refine ev_iret (Or.inl rfl) d160_107 ?_
      exact ⟨_, _, rfl, rfl, rfl, hM9, hf9⟩
    · refine ev_aload_n 76 rfl d160_75 rfl ?_
      refine ev_geti (v := nI σ.st) 79 rfl 9 29 d160_76 rfl (by omega) (G.1 _ _ (rfl : ai_sp 572 = (9, 0)) (by decide) (by decide)) (by rw [ui_row hI_3 (by omega)]; exact hM2.st.trans (by rw [mk_st])) ?_
      refine ev_bipush (v := nI 29) 81 rfl d160_79 (by decide) ?_
      refine ev_icmp 88 84 (by decide) rfl (cn_ge (by omega) (by omega)) d160_81 (fun hc_81 => ?_) (fun hc_81 => ?_)
      · refine ev_iconst (v := nI 0) 89 rfl d160_88 (by decide) ?_
        refine ev_store_in 90 rfl d160_89 (Nat.le_of_ble_eq_true rfl) rfl ?_
        show ai_Ev _ _ _ [some (.ref 572), some (.int zb), some (.int (nI 0))] _ _ _
        refine ev_aload_n 91 rfl d160_90 rfl ?_
        refine ev_dup 92 rfl d160_91 rfl ?_
        refine ev_geti (v := nI σ.st) 95 rfl 9 29 d160_92 rfl (by omega) (G.1 _ _ (rfl : ai_sp 572 = (9, 0)) (by decide) (by decide)) (by rw [ui_row hI_3 (by omega)]; exact hM2.st.trans (by rw [mk_st])) ?_
        refine ev_iconst (v := nI 1) 96 rfl d160_95 (by decide) ?_
        refine ev_iadd (v := nI (σ.st + 1)) 97 rfl d160_96 (nI_add _ _) ?_
        obtain ⟨I_4, hI_4⟩ : ∃ z, z = ai_ui I_3 572 29 (nI (σ.st + 1)) := ⟨_, rfl⟩
        refine ev_puti (I2 := I_4) 100 rfl 9 29 d160_97 rfl (by omega) (G.1 _ _ (rfl : ai_sp 572 = (9, 0)) (by decide) (by decide)) (fun h => absurd h (by decide)) hI_4.symm ?_
        refine ev_goto 46 (by decide) d160_100 ?_
        have hM9 : ai_RM σ.step1 I_4 L := rm_step hV hM2 hI_3 hI_4
        have hC9 : ai_RC σ.step1 I_4 := rc_step1 (fun j hj => ⟨by rw [ui_row hI_4 (by omega), ui_row hI_3 (by omega)]; exact (hC2 j hj).1, fun c hc => by rw [ui_row hI_4 (by omega), ui_row hI_3 (by omega)]; exact (hC2 j hj).2 c hc⟩)
        have hf9 : ∀ a, a < 572 → I_4 a = I0 a := fun a ha => by rw [ui_row hI_4 (by omega), ui_row hI_3 (by omega), hf2 a ha]; exact hf a ha
        have e8 : ai_S.rkgo (k + 1) σ = σ.step1 := by
          by_cases e9 : ai_qn σ.chg 200 = 0
          · exact go_0 e9
          · rw [go_1 e9]
            have e7 : k = 0 := by omega
            subst e7; rfl
        rw [e8]
        refine ev_iload_n 47 rfl d160_46 rfl ?_
        refine ev_if_T 103 (by decide) (by decide) d160_47 ?_
        refine ev_aload_n 104 rfl d160_103 rfl ?_
        refine ev_geti (v := nI (σ.st + 1)) 107 rfl 9 29 d160_104 rfl (by omega) (G.1 _ _ (rfl : ai_sp 572 = (9, 0)) (by decide) (by decide)) hM9.st ?_
        refine ev_iret (Or.inl rfl) d160_107 ?_
        exact ⟨_, _, rfl, rfl, rfl, hM9, hf9⟩
      · refine ev_iconst (v := nI 1) 85 rfl d160_84 (by decide) ?_
        refine ev_goto 89 (by decide) d160_85 ?_
        refine ev_store_in 90 rfl d160_89 (Nat.le_of_ble_eq_true rfl) rfl ?_
        show ai_Ev _ _ _ [some (.ref 572), some (.int zb), some (.int (nI 1))] _ _ _
        refine ev_aload_n 91 rfl d160_90 rfl ?_
        refine ev_dup 92 rfl d160_91 rfl ?_
        refine ev_geti (v := nI σ.st) 95 rfl 9 29 d160_92 rfl (by omega) (G.1 _ _ (rfl : ai_sp 572 = (9, 0)) (by decide) (by decide)) (by rw [ui_row hI_3 (by omega)]; exact hM2.st.trans (by rw [mk_st])) ?_
        refine ev_iconst (v := nI 1) 96 rfl d160_95 (by decide) ?_
        refine ev_iadd (v := nI (σ.st + 1)) 97 rfl d160_96 (nI_add _ _) ?_
        obtain ⟨I_4, hI_4⟩ : ∃ z, z = ai_ui I_3 572 29 (nI (σ.st + 1)) := ⟨_, rfl⟩
        refine ev_puti (I2 := I_4) 100 rfl 9 29 d160_97 rfl (by omega) (G.1 _ _ (rfl : ai_sp 572 = (9, 0)) (by decide) (by decide)) (fun h => absurd h (by decide)) hI_4.symm ?_
        refine ev_goto 46 (by decide) d160_100 ?_
        have hM9 : ai_RM σ.step1 I_4 L := rm_step hV hM2 hI_3 hI_4
        have hC9 : ai_RC σ.step1 I_4 := rc_step1 (fun j hj => ⟨by rw [ui_row hI_4 (by omega), ui_row hI_3 (by omega)]; exact (hC2 j hj).1, fun c hc => by rw [ui_row hI_4 (by omega), ui_row hI_3 (by omega)]; exact (hC2 j hj).2 c hc⟩)
        have hf9 : ∀ a, a < 572 → I_4 a = I0 a := fun a ha => by rw [ui_row hI_4 (by omega), ui_row hI_3 (by omega), hf2 a ha]; exact hf a ha
        rw [go_1 (by omega)]
        exact ih σ.step1 _ (iv_step hV (by omega)) (by rw [step1_st]; omega) hM9 hC9 hf9 (by omega)
theorem ws_gv {n : Nat} : (σ.wSt n).gv = σ.gv := by dsimp only [ai_S.gv, ai_S.wSt]
theorem ws_lf {n : Nat} : (σ.wSt n).lf = σ.lf := by dsimp only [ai_S.lf, ai_S.wSt]
theorem ws_tr {n : Nat} : (σ.wSt n).tr = σ.tr := by dsimp only [ai_S.tr, ai_S.wSt]
theorem ws_ag {n : Nat} : (σ.wSt n).ag = σ.ag := by dsimp only [ai_S.ag, ai_S.wSt]
theorem ws_nJ {n : Nat} : (σ.wSt n).nJ = σ.nJ := by dsimp only [ai_S.nJ, ai_S.wSt]
theorem ws_nT {n : Nat} : (σ.wSt n).nT = σ.nT := by dsimp only [ai_S.nT, ai_S.wSt]
theorem ws_sd {n : Nat} : (σ.wSt n).sd = σ.sd := by dsimp only [ai_S.sd, ai_S.wSt]
theorem ws_sa {n : Nat} : (σ.wSt n).sa = σ.sa := by dsimp only [ai_S.sa, ai_S.wSt]
theorem ws_fair {n : Nat} : (σ.wSt n).fair = σ.fair := by funext j c; unfold ai_S.fair; rw [ws_gv]
theorem ws_said {n : Nat} : (σ.wSt n).said = σ.said := by funext j c; unfold ai_S.said; rw [ws_gv]
theorem ws_both {n : Nat} : (σ.wSt n).both = σ.both := by funext y x c; unfold ai_S.both; rw [ws_fair]
theorem ws_same {n : Nat} : (σ.wSt n).same = σ.same := by funext y x; unfold ai_S.same; rw [ws_both]
theorem ws_diff {n : Nat} : (σ.wSt n).diff = σ.diff := by funext y x; unfold ai_S.diff; rw [ws_both, ws_said]
theorem ws_cpy {n : Nat} : (σ.wSt n).cpy = σ.cpy := by funext y x; unfold ai_S.cpy; rw [ws_diff, ws_same]
theorem ws_cop {n : Nat} : (σ.wSt n).cop = σ.cop := by funext j; unfold ai_S.cop; rw [ws_lf, ws_cpy]
theorem ws_ctd {n : Nat} : (σ.wSt n).ctd = σ.ctd := by funext j c; unfold ai_S.ctd; rw [ws_fair, ws_cop]
theorem ws_tog {n : Nat} : (σ.wSt n).tog = σ.tog := by funext c; unfold ai_S.tog; rw [ws_tr, ws_ag]
theorem ws_p1 {n : Nat} : (σ.wSt n).p1 = σ.p1 := by funext j q a b t; unfold ai_S.p1; rw [ws_ctd, ws_tog, ws_said]
theorem ws_p2 {n : Nat} : (σ.wSt n).p2 = σ.p2 := by funext j q b t; unfold ai_S.p2; rw [ws_ctd, ws_tog]
theorem ws_tt {n : Nat} {T : Nat → Nat → Nat → Nat → Nat} {T2 : Nat → Nat → Nat → Nat} : (σ.wSt n).tt T T2 = (σ.tt T T2).wSt n := by dsimp only [ai_S.tt, ai_S.wSt, ai_S.rf, ai_S.hd, ai_S.sz, ai_S.el, ai_S.nT, ai_S.nQ, ai_S.nJ, ai_S.an, ai_S.pa, ai_S.wa, ai_S.tr, ai_S.ag, ai_S.gv, ai_S.lf, ai_S.sr, ai_S.mk, ai_S.lk, ai_S.hs, ai_S.ch, ai_S.st, ai_S.sd, ai_S.sa]
theorem ws_mkT {n : Nat} : (σ.wSt n).mkT = σ.mkT.wSt n := by
  unfold ai_S.mkT ai_S.tab
  rw [ws_p1, ws_p2, ws_nJ, ws_nT, ws_sd, ws_sa, ws_tt]
theorem mkT_st : (σ.rk0.wSt 0).mkT = σ.rk1 := by
  rw [ws_mkT]; unfold ai_S.rk1; exact Eq.refl _
theorem rk1_cop {j : Nat} : σ.rk1.cop j = (σ.rk0.wSt 0).cop j := by
  unfold ai_S.rk1 ai_S.mkT ai_S.tab
  rw [ws_cop, ws_cop, tt_cop]
theorem rk1_ctd {j c : Nat} : σ.rk1.ctd j c = (σ.rk0.wSt 0).ctd j c := by
  unfold ai_S.rk1 ai_S.mkT ai_S.tab
  rw [ws_ctd, ws_ctd, tt_ctd]
theorem rk1_nJ : σ.rk1.nJ = (σ.rk0.wSt 0).nJ := by
  unfold ai_S.rk1
  rw [ws_nJ, ws_nJ]
  dsimp only [ai_S.mkT, ai_S.tab, ai_S.tt, ai_S.nJ]
theorem rc_rk0 (h : ai_RC σ I) : ai_RC (σ.rk0.wSt 0) I := rc_same h (by rw [ws_nJ]; rfl) (fun _ => by unfold ai_S.rk0; rw [ws_cop, wag_cop]) (fun _ _ => by unfold ai_S.rk0; rw [ws_ctd, wag_ctd])
theorem rm_ag0 {k : Nat} (hX : ai_RM (σ.wAg (fun x => if x < k then 0 else σ.ag x)) I L) (hk : k < 200) {I2 : Nat → Nat → Int32} (hI : I2 = ai_ui I 582 k (-1)) : ai_RM (σ.wAg (fun x => if x < (k + 1) then 0 else σ.ag x)) I2 L := by
  have h := rm_wag (A := fun x => if x < k + 1 then 0 else σ.ag x) hX (fun a ha => ui_row hI ha) (fun c hc hq => by
    by_cases e : c = k
    · subst e; rw [if_pos (by omega)]; exact ui_same hI
    · rw [ui_other hI (by omega)]
      refine (hX.ag c hc hq).trans ?_
      show nI (if c < k then 0 else σ.ag c) - 1 = _
      by_cases e2 : c < k
      · rw [if_pos e2, if_pos (by omega)]
      · rw [if_neg e2, if_neg (by omega)])
  rw [wag_wag] at h
  exact h
theorem m_rk0 (G : ai_G S F) (hV : ai_IV σ) {I0 : Nat → Nat → Int32} : ∀ (z k : Nat) (I : Nat → Nat → Int32), k + z = 200 → ai_RM (σ.wAg (fun x => if x < k then 0 else σ.ag x)) I L → ai_RC σ I → (∀ a, a < 572 → I a = I0 a) → ai_Ev none 160 6 [some (.ref 572), some (.int (nI 0)), some (.int (nI k))] [] (S, I, L, F) (ai_PM S F I0 L (o_reckon σ 0)) := by
  have hnT := hV.nT
  have hnQ := hV.nQ
  have hnJ := hV.nJ
  intro z
  induction z with
  | zero =>
    intro k I hz hX hC hf
    have e9 : k = 200 := by omega
    subst e9
    have hMr : ai_RM σ.rk0 I L := by
      have h := rm_wag (A := fun _ => 0) hX (fun _ _ => rfl) (fun c hc hq => (hX.ag c hc hq).trans (by show nI (if c < 200 then 0 else σ.ag c) - 1 = _; rw [if_pos hc]))
      rw [wag_wag] at h
      exact h
    refine ev_iload_n 7 rfl d160_6 rfl ?_
    refine ev_sipush (v := nI 200) 10 rfl d160_7 (by decide) ?_
    refine ev_icmp_T 26 (by decide) (by decide) d160_10 ?_
    refine ev_aload_n 27 rfl d160_26 rfl ?_
    refine ev_iconst (v := nI 0) 28 rfl d160_27 (by decide) ?_
    obtain ⟨I_1, hI_1⟩ : ∃ z, z = ai_ui I 572 29 (nI 0) := ⟨_, rfl⟩
    refine ev_puti (I2 := I_1) 31 rfl 9 29 d160_28 rfl (by omega) (G.1 _ _ (rfl : ai_sp 572 = (9, 0)) (by decide) (by decide)) (fun h => absurd h (by decide)) hI_1.symm ?_
    have hMs : ai_RM (σ.rk0.wSt 0) I_1 L := rm_st0 hMr hI_1
    have hCs : ai_RC (σ.rk0.wSt 0) I_1 := rc_rk0 (fun j hj => ⟨by rw [ui_row hI_1 (by omega)]; exact (hC j hj).1, fun c hc => by rw [ui_row hI_1 (by omega)]; exact (hC j hj).2 c hc⟩)
    refine ev_aload_n 32 rfl d160_31 rfl ?_
    refine ev_iconst (v := nI 0) 33 rfl d160_32 (by decide) ?_
    refine ev_cu1 36 rfl 158 d160_33 rfl rfl (by rw [G.1 _ _ (rfl : ai_sp 572 = (9, 0)) (by decide) (by decide)]; rfl) (by omega) rfl (m_reckonTables (w := 0) G hMs hCs (iv_st (iv_rk0 hV) (by omega) (fun i hi => absurd hi (by omega))) (fun _ c _ => rfl) (by omega)) (fun I_2 hr_33 => ?_)
    obtain ⟨hM8, hC8, hf8⟩ := hr_33
    refine ev_iload_n 37 rfl d160_36 rfl ?_
    refine ev_if_F 44 40 (by decide) rfl (by decide) d160_37 ?_
    refine ev_iconst (v := nI 1) 41 rfl d160_40 (by decide) ?_
    refine ev_goto 45 (by decide) d160_41 ?_
    refine ev_store_in 46 rfl d160_45 (Nat.le_of_ble_eq_true rfl) rfl ?_
    show ai_Ev _ _ _ [some (.ref 572), some (.int (nI 0)), some (.int (nI 1))] _ _ _
    have hM9 : ai_RM σ.rk1 I_2 L := by
      have h := hM8
      rw [mkT_st] at h
      exact h
    have hC9 : ai_RC σ.rk1 I_2 := rc_same hC8 rk1_nJ (fun _ => rk1_cop) (fun _ _ => rk1_ctd)
    have hf9 : ∀ a, a < 572 → I_2 a = I0 a := fun a ha => by rw [hf8 a (by omega) (by omega), ui_row hI_1 (by omega)]; exact hf a ha
    refine (m_rk_loop G (I0 := I0) 30 σ.rk1 _ (iv_rk1 hV) rfl hM9 hC9 hf9 (by omega)).imp ?_
    rintro r h' ⟨v, I9, rfl, rfl, rfl, h8, h9⟩
    exact ⟨I9, L, rfl, rfl, h8, fun a ha => ⟨h9 a ha, rfl⟩⟩
  | succ z ih =>
    intro k I hz hX hC hf
    refine ev_iload_n 7 rfl d160_6 rfl ?_
    refine ev_sipush (v := nI 200) 10 rfl d160_7 (by decide) ?_
    refine ev_icmp 26 13 (by decide) rfl (cn_ge (by omega) (by omega)) d160_10 (fun hc_10 => absurd hc_10 (by omega)) (fun hc_10 => ?_)
    refine ev_aload_n 14 rfl d160_13 rfl ?_
    refine ev_getr 17 rfl 9 12 d160_14 rfl (by omega) (G.1 _ _ (rfl : ai_sp 572 = (9, 0)) (by decide) (by decide)) (G.2 _ _ _ (rfl : ai_rf 572 12 = some 582)) ?_
    refine ev_iload_n 18 rfl d160_17 rfl ?_
    refine ev_iconst (v := (-1)) 19 rfl d160_18 (by decide) ?_
    obtain ⟨I_1, hI_1⟩ : ∃ z, z = ai_ui I 582 k (-1) := ⟨_, rfl⟩
    refine ev_iast_n (I2 := I_1) 20 rfl d160_19 (by omega) (G.1 _ _ (rfl : ai_sp 582 = (100, 200)) (by decide) (by decide)) (by omega) (by decide) hI_1.symm ?_
    refine ev_iinc (v := nI (k + 1)) 23 rfl d160_20 rfl (Nat.le_of_ble_eq_true rfl) (nI_add _ 1) rfl ?_
    show ai_Ev _ _ _ [some (.ref 572), some (.int (nI 0)), some (.int (nI (k + 1)))] _ _ _
    refine ev_goto 6 (by decide) d160_23 ?_
    exact ih (k + 1) _ (by omega) (rm_ag0 hX (by omega) hI_1) (fun j hj => ⟨by rw [ui_row hI_1 (by omega)]; exact (hC j hj).1, fun c hc => by rw [ui_row hI_1 (by omega)]; exact (hC j hj).2 c hc⟩) (fun a ha => by rw [ui_row hI_1 (by omega)]; exact hf a ha)
theorem m_reckon0 (G : ai_G S F) (hM : ai_RM σ I L) (hV : ai_IV σ) : ai_Ev none 160 0 [some (.ref 572), some (.int (nI 0)), none] [] (S, I, L, F) (ai_PM S F I L (o_reckon σ 0)) := by
  refine ev_aload_n 1 rfl d160_0 rfl ?_
  refine ev_cu0 4 rfl 145 d160_1 rfl rfl (by rw [G.1 _ _ (rfl : ai_sp 572 = (9, 0)) (by decide) (by decide)]; rfl) (by omega) rfl (m_renew G hM hV) (fun I_1 hr_1 => ?_)
  obtain ⟨hM2, hC2, hfn⟩ := hr_1
  refine ev_iconst (v := nI 0) 5 rfl d160_4 (by decide) ?_
  refine ev_store_in 6 rfl d160_5 (Nat.le_of_ble_eq_true rfl) rfl ?_
  show ai_Ev _ _ _ [some (.ref 572), some (.int (nI 0)), some (.int (nI 0))] _ _ _
  refine m_rk0 G hV (I0 := I) 200 0 _ (by omega) (rm_wag hM2 (fun _ _ => rfl) (fun c hc hq => by rw [if_neg (by omega)]; exact hM2.ag c hc hq)) hC2 (fN_lo hfn)
theorem m_rk1 (G : ai_G S F) (hV : ai_IV σ) {I0 : Nat → Nat → Int32} : ∀ (z k : Nat) (I : Nat → Nat → Int32), k + z = 200 → ai_RM (σ.wAg (fun x => if x < k then 0 else σ.ag x)) I L → ai_RC σ I → (∀ a, a < 572 → I a = I0 a) → ai_Ev none 160 6 [some (.ref 572), some (.int (nI 1)), some (.int (nI k))] [] (S, I, L, F) (ai_PM S F I0 L (o_reckon σ 1)) := by
  have hnT := hV.nT
  have hnQ := hV.nQ
  have hnJ := hV.nJ
  intro z
  induction z with
  | zero =>
    intro k I hz hX hC hf
    have e9 : k = 200 := by omega
    subst e9
    have hMr : ai_RM σ.rk0 I L := by
      have h := rm_wag (A := fun _ => 0) hX (fun _ _ => rfl) (fun c hc hq => (hX.ag c hc hq).trans (by show nI (if c < 200 then 0 else σ.ag c) - 1 = _; rw [if_pos hc]))
      rw [wag_wag] at h
      exact h
    refine ev_iload_n 7 rfl d160_6 rfl ?_
    refine ev_sipush (v := nI 200) 10 rfl d160_7 (by decide) ?_
    refine ev_icmp_T 26 (by decide) (by decide) d160_10 ?_
    refine ev_aload_n 27 rfl d160_26 rfl ?_
    refine ev_iconst (v := nI 0) 28 rfl d160_27 (by decide) ?_
    obtain ⟨I_1, hI_1⟩ : ∃ z, z = ai_ui I 572 29 (nI 0) := ⟨_, rfl⟩
    refine ev_puti (I2 := I_1) 31 rfl 9 29 d160_28 rfl (by omega) (G.1 _ _ (rfl : ai_sp 572 = (9, 0)) (by decide) (by decide)) (fun h => absurd h (by decide)) hI_1.symm ?_
    have hMs : ai_RM (σ.rk0.wSt 0) I_1 L := rm_st0 hMr hI_1
    have hCs : ai_RC (σ.rk0.wSt 0) I_1 := rc_rk0 (fun j hj => ⟨by rw [ui_row hI_1 (by omega)]; exact (hC j hj).1, fun c hc => by rw [ui_row hI_1 (by omega)]; exact (hC j hj).2 c hc⟩)
    refine ev_aload_n 32 rfl d160_31 rfl ?_
    refine ev_iconst (v := nI 0) 33 rfl d160_32 (by decide) ?_
    refine ev_cu1 36 rfl 158 d160_33 rfl rfl (by rw [G.1 _ _ (rfl : ai_sp 572 = (9, 0)) (by decide) (by decide)]; rfl) (by omega) rfl (m_reckonTables (w := 0) G hMs hCs (iv_st (iv_rk0 hV) (by omega) (fun i hi => absurd hi (by omega))) (fun _ c _ => rfl) (by omega)) (fun I_2 hr_33 => ?_)
    obtain ⟨hM8, hC8, hf8⟩ := hr_33
    refine ev_iload_n 37 rfl d160_36 rfl ?_
    refine ev_if_T 44 (by decide) (by decide) d160_37 ?_
    refine ev_iconst (v := nI 0) 45 rfl d160_44 (by decide) ?_
    refine ev_store_in 46 rfl d160_45 (Nat.le_of_ble_eq_true rfl) rfl ?_
    show ai_Ev _ _ _ [some (.ref 572), some (.int (nI 1)), some (.int (nI 0))] _ _ _
    have hM9 : ai_RM σ.rk1 I_2 L := by
      have h := hM8
      rw [mkT_st] at h
      exact h
    have hC9 : ai_RC σ.rk1 I_2 := rc_same hC8 rk1_nJ (fun _ => rk1_cop) (fun _ _ => rk1_ctd)
    have hf9 : ∀ a, a < 572 → I_2 a = I0 a := fun a ha => by rw [hf8 a (by omega) (by omega), ui_row hI_1 (by omega)]; exact hf a ha
    refine ev_iload_n 47 rfl d160_46 rfl ?_
    refine ev_if_T 103 (by decide) (by decide) d160_47 ?_
    refine ev_aload_n 104 rfl d160_103 rfl ?_
    refine ev_geti (v := nI 0) 107 rfl 9 29 d160_104 rfl (by omega) (G.1 _ _ (rfl : ai_sp 572 = (9, 0)) (by decide) (by decide)) hM9.st ?_
    refine ev_iret (Or.inl rfl) d160_107 ?_
    exact ⟨_, _, rfl, rfl, hM9, fun a ha => ⟨hf9 a ha, rfl⟩⟩
  | succ z ih =>
    intro k I hz hX hC hf
    refine ev_iload_n 7 rfl d160_6 rfl ?_
    refine ev_sipush (v := nI 200) 10 rfl d160_7 (by decide) ?_
    refine ev_icmp 26 13 (by decide) rfl (cn_ge (by omega) (by omega)) d160_10 (fun hc_10 => absurd hc_10 (by omega)) (fun hc_10 => ?_)
    refine ev_aload_n 14 rfl d160_13 rfl ?_
    refine ev_getr 17 rfl 9 12 d160_14 rfl (by omega) (G.1 _ _ (rfl : ai_sp 572 = (9, 0)) (by decide) (by decide)) (G.2 _ _ _ (rfl : ai_rf 572 12 = some 582)) ?_
    refine ev_iload_n 18 rfl d160_17 rfl ?_
    refine ev_iconst (v := (-1)) 19 rfl d160_18 (by decide) ?_
    obtain ⟨I_1, hI_1⟩ : ∃ z, z = ai_ui I 582 k (-1) := ⟨_, rfl⟩
    refine ev_iast_n (I2 := I_1) 20 rfl d160_19 (by omega) (G.1 _ _ (rfl : ai_sp 582 = (100, 200)) (by decide) (by decide)) (by omega) (by decide) hI_1.symm ?_
    refine ev_iinc (v := nI (k + 1)) 23 rfl d160_20 rfl (Nat.le_of_ble_eq_true rfl) (nI_add _ 1) rfl ?_
    show ai_Ev _ _ _ [some (.ref 572), some (.int (nI 1)), some (.int (nI (k + 1)))] _ _ _
    refine ev_goto 6 (by decide) d160_23 ?_
    exact ih (k + 1) _ (by omega) (rm_ag0 hX (by omega) hI_1) (fun j hj => ⟨by rw [ui_row hI_1 (by omega)]; exact (hC j hj).1, fun c hc => by rw [ui_row hI_1 (by omega)]; exact (hC j hj).2 c hc⟩) (fun a ha => by rw [ui_row hI_1 (by omega)]; exact hf a ha)
theorem m_reckon1 (G : ai_G S F) (hM : ai_RM σ I L) (hV : ai_IV σ) : ai_Ev none 160 0 [some (.ref 572), some (.int (nI 1)), none] [] (S, I, L, F) (ai_PM S F I L (o_reckon σ 1)) := by
  refine ev_aload_n 1 rfl d160_0 rfl ?_
  refine ev_cu0 4 rfl 145 d160_1 rfl rfl (by rw [G.1 _ _ (rfl : ai_sp 572 = (9, 0)) (by decide) (by decide)]; rfl) (by omega) rfl (m_renew G hM hV) (fun I_1 hr_1 => ?_)
  obtain ⟨hM2, hC2, hfn⟩ := hr_1
  refine ev_iconst (v := nI 0) 5 rfl d160_4 (by decide) ?_
  refine ev_store_in 6 rfl d160_5 (Nat.le_of_ble_eq_true rfl) rfl ?_
  show ai_Ev _ _ _ [some (.ref 572), some (.int (nI 1)), some (.int (nI 0))] _ _ _
  refine m_rk1 G hV (I0 := I) 200 0 _ (by omega) (rm_wag hM2 (fun _ _ => rfl) (fun c hc hq => by rw [if_neg (by omega)]; exact hM2.ag c hc hq)) hC2 (fN_lo hfn)
end MRECL
