section MSTEP
variable {S : List (Nat × Nat)} {F : Nat → Nat → Option Nat} {L : Nat → Nat → Int64} {I : Nat → Nat → Int32} {σ : ai_S}
def ai_f3 (I I2 : Nat → Nat → Int32) : Prop := ∀ a, a ≠ 582 → I2 a = I a
theorem rm_wag {A : Nat → Nat} (hX : ai_RM σ I L) {I2 : Nat → Nat → Int32} (f : ai_f3 I I2) (h1 : ∀ c, c < 200 → c % 5 < σ.nQ → I2 582 c = nI (A c) - 1) : ai_RM (σ.wAg A) I2 L := by
  refine ⟨?_, ?_, ?_, ?_, ?_, ?_, ?_, ?_, ?_, ?_, ?_, ?_, ?_, ?_, ?_, ?_, ?_, ?_, ?_, ?_, ?_, ?_, ?_, ?_, ?_⟩
  · intro i h0; rw [f _ (by omega)]; exact hX.rf i h0
  · intro s h0; rw [f _ (by omega)]; exact hX.hd s h0
  · intro s h0; rw [f _ (by omega)]; exact hX.sz s h0
  · exact hX.el
  · rw [f _ (by omega)]; exact hX.nT
  · rw [f _ (by omega)]; exact hX.nQ
  · rw [f _ (by omega)]; exact hX.nJ
  · intro q h0; rw [f _ (by omega)]; exact hX.an q h0
  · intro q h0 h1; rw [f _ (by omega)]; exact hX.pa q h0 h1
  · intro q h0 h1; rw [f _ (by omega)]; exact hX.wa q h0 h1
  · intro c h0 h1; rw [f _ (by omega)]; exact hX.tr c h0 h1
  · exact h1
  · intro j h0; rw [f _ (by omega)]; exact hX.lf j h0
  · intro j h0; rw [f _ (by omega)]; exact hX.sr j h0
  · intro j h0 h1; rw [f _ (by omega)]; exact hX.gn j h0 h1
  · intro j c h0 h1 h2 h3; rw [f _ (by omega)]; exact hX.gv j c h0 h1 h2 h3
  · intro j c h0 h1 h2 h3 h4; rw [f _ (by omega)]; exact hX.mn j c h0 h1 h2 h3 h4
  · rcases hX.old with h9 | ⟨h9, h8⟩
    · exact Or.inl (by rw [f _ (by omega)]; exact h9)
    · exact Or.inr ⟨by rw [f _ (by omega)]; exact h9, fun j hj => ⟨by rw [f _ (by omega)]; exact (h8 j hj).1, fun c hc => by rw [f _ (by omega)]; exact (h8 j hj).2 c hc⟩⟩
  · rw [f _ (by omega)]; exact hX.mk
  · rw [f _ (by omega)]; exact hX.lk
  · rw [f _ (by omega)]; exact hX.hs
  · intro j q a b h0 h1 h2 h3; rw [f _ (by omega)]; exact hX.tp j q a b h0 h1 h2 h3
  · intro j q b h0 h1 h2; rw [f _ (by omega)]; exact hX.bt j q b h0 h1 h2
  · intro i h0; rw [f _ (by omega)]; exact hX.ch i h0
  · rw [f _ (by omega)]; exact hX.st
theorem rm_stp {m m9 : Nat} (hX : ai_RM (σ.stp m) I L) {I2 : Nat → Nat → Int32} (f : ai_f3 I I2) (h1 : ∀ c, c < 200 → c % 5 < σ.nQ → I2 582 c = nI (if c < m9 ∧ σ.chg c = true then σ.lead c + 1 else σ.ag c) - 1) : ai_RM (σ.stp m9) I2 L := by
  have h := rm_wag hX f h1
  unfold ai_S.stp at h ⊢
  rw [wag_wag] at h
  exact h
theorem mstp_ag {m : Nat} (hX : ai_RM (σ.stp m) I L) {c : Nat} (hc : c < 200) (hq : c % 5 < σ.nQ) : I 582 c = nI (if c < m ∧ σ.chg c = true then σ.lead c + 1 else σ.ag c) - 1 := hX.ag c hc hq
theorem rm_stp0 (hX : ai_RM σ I L) : ai_RM (σ.stp 0) I L := rm_wag hX (fun _ _ => rfl) (fun c hc hq => by rw [if_neg (by omega)]; exact hX.ag c hc hq)
theorem mrx_noag {m : Nat} (hX : ai_RM (σ.stp m) I L) (h : ¬ σ.chg m = true) : ai_RM (σ.stp (m + 1)) I L := rm_stp hX (fun _ _ => rfl) (fun c hc hq => by
  rw [mstp_ag hX hc hq]
  by_cases e : c < m ∧ σ.chg c = true
  · rw [if_pos e, if_pos ⟨by omega, e.2⟩]
  · rw [if_neg e, if_neg (fun h2 => e ⟨by
      by_cases e3 : c = m
      · subst e3; exact absurd h2.2 h
      · omega, h2.2⟩)])
theorem mrx_yesag {m : Nat} (hX : ai_RM (σ.stp m) I L) (hm : m < 200) (h : σ.chg m = true) {I2 : Nat → Nat → Int32} (hI : I2 = ai_ui I 582 m (nI (σ.lead m))) : ai_RM (σ.stp (m + 1)) I2 L := rm_stp hX (fun a ha => ui_row hI ha) (fun c hc hq => by
  by_cases e3 : c = m
  · subst e3; rw [if_pos ⟨by omega, h⟩, nM_succ]; exact ui_same hI
  · rw [ui_other hI (by omega), mstp_ag hX hc hq]
    by_cases e : c < m ∧ σ.chg c = true
    · rw [if_pos e, if_pos ⟨by omega, e.2⟩]
    · rw [if_neg e, if_neg (fun h2 => e ⟨by omega, h2.2⟩)])
theorem mrx_skipag {a b : Nat} (hX : ai_RM (σ.stp a) I L) (hab : a ≤ b) (h : ∀ k, a ≤ k → k < b → σ.chg k = false) : ai_RM (σ.stp b) I L := rm_stp hX (fun _ _ => rfl) (fun c hc hq => by
  rw [mstp_ag hX hc hq]
  by_cases e : c < a ∧ σ.chg c = true
  · rw [if_pos e, if_pos ⟨by omega, e.2⟩]
  · rw [if_neg e, if_neg (fun h2 => e ⟨by
      by_cases e3 : c < a
      · exact e3
      · have := h c (by omega) h2.1; rw [h2.2] at this; exact absurd this (by decide), h2.2⟩)])
theorem rc_same {σ2 : ai_S} (h : ai_RC σ I) (e1 : σ2.nJ = σ.nJ) (e2 : ∀ j, σ2.cop j = σ.cop j) (e3 : ∀ j c, σ2.ctd j c = σ.ctd j c) : ai_RC σ2 I := fun j hj => ⟨by rw [e2]; exact (h j (by rw [← e1]; exact hj)).1, fun c hc => by rw [e3]; exact (h j (by rw [← e1]; exact hj)).2 c hc⟩
theorem wag_ctd {A : Nat → Nat} {j c : Nat} : (σ.wAg A).ctd j c = σ.ctd j c := rfl
theorem wag_cop {A : Nat → Nat} {j : Nat} : (σ.wAg A).cop j = σ.cop j := rfl
theorem rc_stp {m : Nat} (h : ai_RC σ I) : ai_RC (σ.stp m) I := rc_same h rfl (fun _ => by unfold ai_S.stp; rw [wag_cop]) (fun _ _ => by unfold ai_S.stp; rw [wag_ctd])
theorem stp_rc {m : Nat} (h : ai_RC (σ.stp m) I) : ai_RC σ I := rc_same h rfl (fun _ => by unfold ai_S.stp; rw [wag_cop]) (fun _ _ => by unfold ai_S.stp; rw [wag_ctd])
theorem mw_stp {m c : Nat} (h : ai_MW (σ.stp m) c I) : ai_MW σ c I := ⟨fun b hb => by
  have h9 := h.1 b hb
  rw [stp_wt] at h9; exact h9, by
  have h9 := h.2
  rw [stp_tot] at h9; exact h9⟩
theorem m_sp_q (G : ai_G S F) (hV : ai_IV σ) {I0 : Nat → Nat → Int32} {t : Nat} (ht : t < σ.nT) {Q : Option Value → ai_H → Prop} (hk : ∀ I u4 u5, ai_RM (σ.stp (5 * t + σ.nQ)) I L → ai_RC σ I → (∀ a, a < 572 → I a = I0 a) → ai_Ev none 159 114 [some (.ref 572), some (.int (nI (ai_qn σ.chg (5 * t + σ.nQ)))), some (.int (nI t)), some (.int (nI σ.nQ)), u4, u5] [] (S, I, L, F) Q) : ∀ (z q : Nat) (I : Nat → Nat → Int32) (u4 u5 : Option Value), q + z = σ.nQ → ai_RM (σ.stp (5 * t + q)) I L → ai_RC σ I → (∀ a, a < 572 → I a = I0 a) → ai_Ev none 159 14 [some (.ref 572), some (.int (nI (ai_qn σ.chg (5 * t + q)))), some (.int (nI t)), some (.int (nI q)), u4, u5] [] (S, I, L, F) Q := by
  have hnT := hV.nT
  have hnQ := hV.nQ
  have hnJ := hV.nJ
  intro z
  induction z with
  | zero =>
    intro q I u4 u5 hz hM hC hf
    have e9 : q = σ.nQ := by omega
    subst e9
    refine ev_iload_n 15 rfl d159_14 rfl ?_
    refine ev_aload_n 16 rfl d159_15 rfl ?_
    refine ev_geti (v := nI σ.nQ) 19 rfl 9 6 d159_16 rfl (by omega) (G.1 _ _ (rfl : ai_sp 572 = (9, 0)) (by decide) (by decide)) hM.nQ ?_
    refine ev_icmp 114 22 (by decide) rfl (cn_ge (by omega) (by omega)) d159_19 (fun hc_19 => ?_) (fun hc_19 => absurd hc_19 (by omega))
    exact hk I _ _ hM hC hf
  | succ z ih =>
    intro q I u4 u5 hz hM hC hf
    refine ev_iload_n 15 rfl d159_14 rfl ?_
    refine ev_aload_n 16 rfl d159_15 rfl ?_
    refine ev_geti (v := nI σ.nQ) 19 rfl 9 6 d159_16 rfl (by omega) (G.1 _ _ (rfl : ai_sp 572 = (9, 0)) (by decide) (by decide)) hM.nQ ?_
    refine ev_icmp 114 22 (by decide) rfl (cn_ge (by omega) (by omega)) d159_19 (fun hc_19 => absurd hc_19 (by omega)) (fun hc_19 => ?_)
    refine ev_iconst (v := nI 5) 23 rfl d159_22 (by decide) ?_
    refine ev_iload_n 24 rfl d159_23 rfl ?_
    refine ev_imul (v := nI (5 * t)) 25 rfl d159_24 (pk_mul _ _) ?_
    refine ev_iload_n 26 rfl d159_25 rfl ?_
    refine ev_iadd (v := nI ((5 * t) + q)) 27 rfl d159_26 (nI_add _ _) ?_
    refine ev_store_i 29 rfl d159_27 ⟨rfl, Nat.le_of_ble_eq_true rfl⟩ rfl ?_
    show ai_Ev _ _ _ [some (.ref 572), some (.int (nI (ai_qn σ.chg (5 * t + q)))), some (.int (nI t)), some (.int (nI q)), some (.int (nI ((5 * t) + q))), u5] _ _ _
    have hc : 5 * t + q < 200 := by omega
    have hm : (5 * t + q) % 5 = q := by omega
    have haq : σ.an ((5 * t + q) % 5) = σ.an q := by rw [hm]
    have han := hV.an q (by omega)
    have htr := tr_le hV hc
    have hag := ag_le hV hc
    have hlk := look_le (σ := σ) (c := 5 * t + q)
    have hld := lead_lt hV (c := 5 * t + q) (by omega)
    have hVs := iv_stp (m := 5 * t + q) hV
    refine ev_aload_n 30 rfl d159_29 rfl ?_
    refine ev_getr 33 rfl 9 11 d159_30 rfl (by omega) (G.1 _ _ (rfl : ai_sp 572 = (9, 0)) (by decide) (by decide)) (G.2 _ _ _ (rfl : ai_rf 572 11 = some 581)) ?_
    refine ev_iload 35 rfl d159_33 rfl ?_
    refine ev_iald_n (v := nI (σ.tr (5 * t + q)) - 1) 36 rfl d159_35 (by omega) (G.1 _ _ (rfl : ai_sp 581 = (100, 200)) (by decide) (by decide)) (by omega) (by decide) (hM.tr (5 * t + q) hc (by show (5 * t + q) % 5 < σ.nQ; omega)) ?_
    refine ev_iconst (v := (-1)) 37 rfl d159_36 (by decide) ?_
    refine ev_icmp 108 40 (by decide) rfl (cq_ne (by omega)) d159_37 (fun hc_37 => ?_) (fun hc_37 => ?_)
    · refine ev_iinc (v := nI (q + 1)) 111 rfl d159_108 rfl (Nat.le_of_ble_eq_true rfl) (nI_add _ 1) rfl ?_
      show ai_Ev _ _ _ [some (.ref 572), some (.int (nI (ai_qn σ.chg (5 * t + q)))), some (.int (nI t)), some (.int (nI (q + 1))), some (.int (nI ((5 * t) + q))), u5] _ _ _
      refine ev_goto 14 (by decide) d159_111 ?_
      have hch : ¬ σ.chg (5 * t + q) = true := fun h => by
        have h9 := chg_iff.mp h
        omega
      have e8 : ai_qn σ.chg (5 * t + (q + 1)) = ai_qn σ.chg (5 * t + q) := qn_F hch
      have h9 := ih (q + 1) I (some (.int (nI ((5 * t) + q)))) u5 (by omega) (mrx_noag hM hch) hC hf
      rw [e8] at h9
      exact h9
    · refine ev_aload_n 41 rfl d159_40 rfl ?_
      refine ev_iload 43 rfl d159_41 rfl ?_
      refine ev_cp1 46 rfl 146 d159_43 rfl rfl (by rw [G.1 _ _ (rfl : ai_sp 572 = (9, 0)) (by decide) (by decide)]; rfl) (by omega) rfl (show ai_Ev none 146 0 _ [] (S, I, L, F) (ai_Pp S F I L (.int (nI (σ.look (5 * t + q))))) from by rw [← stp_look (σ := σ) (m := 5 * t + q)]; exact m_countOf G hM (rc_stp hC) hVs hc) ?_
      refine ev_if 52 49 (by decide) rfl (c0_ne (by omega)) d159_46 (fun hc_46 => ?_) (fun hc_46 => ?_)
      · refine ev_aload_n 53 rfl d159_52 rfl ?_
        refine ev_iload 55 rfl d159_53 rfl ?_
        refine ev_cu1 58 rfl 156 d159_55 rfl rfl (by rw [G.1 _ _ (rfl : ai_sp 572 = (9, 0)) (by decide) (by decide)]; rfl) (by omega) rfl (m_weigh G hM (rc_stp hC) hVs (c := 5 * t + q) (q := q) hc (by omega) (by show q < σ.nQ; omega)) (fun I_1 hr_55 => ?_)
        obtain ⟨hW9, hfw, hkp⟩ := hr_55
        have hW := mw_stp hW9
        have hM3 := rm_fW hM hfw
        have hC3 := rc_fW hC hfw
        refine ev_aload_n 59 rfl d159_58 rfl ?_
        refine ev_iload 61 rfl d159_59 rfl ?_
        refine ev_cp1 64 rfl 157 d159_61 rfl rfl (by rw [G.1 _ _ (rfl : ai_sp 572 = (9, 0)) (by decide) (by decide)]; rfl) (by omega) rfl (show ai_Ev none 157 0 _ [] (S, I_1, L, F) (ai_Pp S F I_1 L (.int (nI (σ.lead (5 * t + q))))) from by rw [← stp_lead (σ := σ) (m := 5 * t + q)]; exact m_lead G hM3 hVs hc (by show (5 * t + q) % 5 < σ.nQ; omega) hW9) ?_
        refine ev_store_i 66 rfl d159_64 ⟨rfl, Nat.le_of_ble_eq_true rfl⟩ rfl ?_
        show ai_Ev _ _ _ [some (.ref 572), some (.int (nI (ai_qn σ.chg (5 * t + q)))), some (.int (nI t)), some (.int (nI q)), some (.int (nI ((5 * t) + q))), some (.int (nI (σ.lead (5 * t + q))))] _ _ _
        refine ev_aload_n 67 rfl d159_66 rfl ?_
        refine ev_getr 70 rfl 9 12 d159_67 rfl (by omega) (G.1 _ _ (rfl : ai_sp 572 = (9, 0)) (by decide) (by decide)) (G.2 _ _ _ (rfl : ai_rf 572 12 = some 582)) ?_
        refine ev_iload 72 rfl d159_70 rfl ?_
        refine ev_iald_n (v := nI (σ.ag (5 * t + q)) - 1) 73 rfl d159_72 (by omega) (G.1 _ _ (rfl : ai_sp 582 = (100, 200)) (by decide) (by decide)) (by omega) (by decide) (by rw [hfw _ (by omega) (by omega), mstp_ag hM hc (by omega), if_neg (by omega)]) ?_
        refine ev_iconst (v := (-1)) 74 rfl d159_73 (by decide) ?_
        refine ev_icmp 96 77 (by decide) rfl (cq_eq (by omega)) d159_74 (fun hc_74 => ?_) (fun hc_74 => ?_)
        · 
          refine ev_aload_n 97 rfl d159_96 rfl ?_
          refine ev_getr 100 rfl 9 12 d159_97 rfl (by omega) (G.1 _ _ (rfl : ai_sp 572 = (9, 0)) (by decide) (by decide)) (G.2 _ _ _ (rfl : ai_rf 572 12 = some 582)) ?_
          refine ev_iload 102 rfl d159_100 rfl ?_
          refine ev_iload 104 rfl d159_102 rfl ?_
          obtain ⟨I_2, hI_2⟩ : ∃ z, z = ai_ui I_1 582 ((5 * t) + q) (nI (σ.lead (5 * t + q))) := ⟨_, rfl⟩
          refine ev_iast_n (I2 := I_2) 105 rfl d159_104 (by omega) (G.1 _ _ (rfl : ai_sp 582 = (100, 200)) (by decide) (by decide)) (by omega) (by decide) hI_2.symm ?_
          refine ev_iinc (v := nI ((ai_qn σ.chg (5 * t + q)) + 1)) 108 rfl d159_105 rfl (Nat.le_of_ble_eq_true rfl) (nI_add _ 1) rfl ?_
          show ai_Ev _ _ _ [some (.ref 572), some (.int (nI ((ai_qn σ.chg (5 * t + q)) + 1))), some (.int (nI t)), some (.int (nI q)), some (.int (nI ((5 * t) + q))), some (.int (nI (σ.lead (5 * t + q))))] _ _ _
          refine ev_iinc (v := nI (q + 1)) 111 rfl d159_108 rfl (Nat.le_of_ble_eq_true rfl) (nI_add _ 1) rfl ?_
          show ai_Ev _ _ _ [some (.ref 572), some (.int (nI ((ai_qn σ.chg (5 * t + q)) + 1))), some (.int (nI t)), some (.int (nI (q + 1))), some (.int (nI ((5 * t) + q))), some (.int (nI (σ.lead (5 * t + q))))] _ _ _
          refine ev_goto 14 (by decide) d159_111 ?_
          have hch : σ.chg (5 * t + q) = true := chg_iff.mpr (by omega)
          have e8 : ai_qn σ.chg (5 * t + (q + 1)) = ai_qn σ.chg (5 * t + q) + 1 := qn_T hch
          have h9 := ih (q + 1) _ (some (.int (nI ((5 * t) + q)))) (some (.int (nI (σ.lead (5 * t + q))))) (by omega) (mrx_yesag hM3 hc hch hI_2) (fun j hj => ⟨by rw [ui_row hI_2 (by omega)]; exact (hC3 j hj).1, fun d hd => by rw [ui_row hI_2 (by omega)]; exact (hC3 j hj).2 d hd⟩) (fun a ha => by rw [ui_row hI_2 (by omega), hfw a (by omega) (by omega)]; exact hf a ha)
          rw [e8] at h9
          exact h9
        · refine ev_aload_n 78 rfl d159_77 rfl ?_
          have hag2 := (hV.ag _ hc hc_74).2.2
          refine ev_iload 80 rfl d159_78 rfl ?_
          refine ev_aload_n 81 rfl d159_80 rfl ?_
          refine ev_getr 84 rfl 9 12 d159_81 rfl (by omega) (G.1 _ _ (rfl : ai_sp 572 = (9, 0)) (by decide) (by decide)) (G.2 _ _ _ (rfl : ai_rf 572 12 = some 582)) ?_
          refine ev_iload 86 rfl d159_84 rfl ?_
          refine ev_iald_n (v := nI (σ.ag (5 * t + q)) - 1) 87 rfl d159_86 (by omega) (G.1 _ _ (rfl : ai_sp 582 = (100, 200)) (by decide) (by decide)) (by omega) (by decide) (by rw [hfw _ (by omega) (by omega), mstp_ag hM hc (by omega), if_neg (by omega)]) ?_
          rw [nM_pos hc_74]
          refine ev_cp2 90 rfl 153 d159_87 rfl rfl (by rw [G.1 _ _ (rfl : ai_sp 572 = (9, 0)) (by decide) (by decide)]; rfl) (by omega) rfl (m_cmp G (x := σ.lead (5 * t + q)) (y := σ.ag (5 * t + q) - 1) (by omega) (by omega) (hW.1 _ (by omega)) (hW.1 _ (by omega))) ?_
          refine ev_if 96 93 (by decide) rfl (cmp_gt _ _) d159_90 (fun hc_90 => ?_) (fun hc_90 => ?_)
          · 
            refine ev_aload_n 97 rfl d159_96 rfl ?_
            refine ev_getr 100 rfl 9 12 d159_97 rfl (by omega) (G.1 _ _ (rfl : ai_sp 572 = (9, 0)) (by decide) (by decide)) (G.2 _ _ _ (rfl : ai_rf 572 12 = some 582)) ?_
            refine ev_iload 102 rfl d159_100 rfl ?_
            refine ev_iload 104 rfl d159_102 rfl ?_
            obtain ⟨I_2, hI_2⟩ : ∃ z, z = ai_ui I_1 582 ((5 * t) + q) (nI (σ.lead (5 * t + q))) := ⟨_, rfl⟩
            refine ev_iast_n (I2 := I_2) 105 rfl d159_104 (by omega) (G.1 _ _ (rfl : ai_sp 582 = (100, 200)) (by decide) (by decide)) (by omega) (by decide) hI_2.symm ?_
            refine ev_iinc (v := nI ((ai_qn σ.chg (5 * t + q)) + 1)) 108 rfl d159_105 rfl (Nat.le_of_ble_eq_true rfl) (nI_add _ 1) rfl ?_
            show ai_Ev _ _ _ [some (.ref 572), some (.int (nI ((ai_qn σ.chg (5 * t + q)) + 1))), some (.int (nI t)), some (.int (nI q)), some (.int (nI ((5 * t) + q))), some (.int (nI (σ.lead (5 * t + q))))] _ _ _
            refine ev_iinc (v := nI (q + 1)) 111 rfl d159_108 rfl (Nat.le_of_ble_eq_true rfl) (nI_add _ 1) rfl ?_
            show ai_Ev _ _ _ [some (.ref 572), some (.int (nI ((ai_qn σ.chg (5 * t + q)) + 1))), some (.int (nI t)), some (.int (nI (q + 1))), some (.int (nI ((5 * t) + q))), some (.int (nI (σ.lead (5 * t + q))))] _ _ _
            refine ev_goto 14 (by decide) d159_111 ?_
            have hch : σ.chg (5 * t + q) = true := chg_iff.mpr (by omega)
            have e8 : ai_qn σ.chg (5 * t + (q + 1)) = ai_qn σ.chg (5 * t + q) + 1 := qn_T hch
            have h9 := ih (q + 1) _ (some (.int (nI ((5 * t) + q)))) (some (.int (nI (σ.lead (5 * t + q))))) (by omega) (mrx_yesag hM3 hc hch hI_2) (fun j hj => ⟨by rw [ui_row hI_2 (by omega)]; exact (hC3 j hj).1, fun d hd => by rw [ui_row hI_2 (by omega)]; exact (hC3 j hj).2 d hd⟩) (fun a ha => by rw [ui_row hI_2 (by omega), hfw a (by omega) (by omega)]; exact hf a ha)
            rw [e8] at h9
            exact h9
          · refine ev_goto 108 (by decide) d159_93 ?_
            refine ev_iinc (v := nI (q + 1)) 111 rfl d159_108 rfl (Nat.le_of_ble_eq_true rfl) (nI_add _ 1) rfl ?_
            show ai_Ev _ _ _ [some (.ref 572), some (.int (nI (ai_qn σ.chg (5 * t + q)))), some (.int (nI t)), some (.int (nI (q + 1))), some (.int (nI ((5 * t) + q))), some (.int (nI (σ.lead (5 * t + q))))] _ _ _
            refine ev_goto 14 (by decide) d159_111 ?_
            have hch : ¬ σ.chg (5 * t + q) = true := fun h => by
              have h9 := chg_iff.mp h
              omega
            have e8 : ai_qn σ.chg (5 * t + (q + 1)) = ai_qn σ.chg (5 * t + q) := qn_F hch
            have h9 := ih (q + 1) _ (some (.int (nI ((5 * t) + q)))) (some (.int (nI (σ.lead (5 * t + q))))) (by omega) (mrx_noag hM3 hch) hC3 (fun a ha => by rw [hfw a (by omega) (by omega)]; exact hf a ha)
            rw [e8] at h9
            exact h9
      · refine ev_goto 108 (by decide) d159_49 ?_
        refine ev_iinc (v := nI (q + 1)) 111 rfl d159_108 rfl (Nat.le_of_ble_eq_true rfl) (nI_add _ 1) rfl ?_
        show ai_Ev _ _ _ [some (.ref 572), some (.int (nI (ai_qn σ.chg (5 * t + q)))), some (.int (nI t)), some (.int (nI (q + 1))), some (.int (nI ((5 * t) + q))), u5] _ _ _
        refine ev_goto 14 (by decide) d159_111 ?_
        have hch : ¬ σ.chg (5 * t + q) = true := fun h => by
          have h9 := chg_iff.mp h
          omega
        have e8 : ai_qn σ.chg (5 * t + (q + 1)) = ai_qn σ.chg (5 * t + q) := qn_F hch
        have h9 := ih (q + 1) I (some (.int (nI ((5 * t) + q)))) u5 (by omega) (mrx_noag hM hch) hC hf
        rw [e8] at h9
        exact h9
theorem m_sp_t (G : ai_G S F) (hV : ai_IV σ) {I0 : Nat → Nat → Int32} : ∀ (z t : Nat) (I : Nat → Nat → Int32) (u3 u4 u5 : Option Value), t + z = σ.nT → ai_RM (σ.stp (5 * t)) I L → ai_RC σ I → (∀ a, a < 572 → I a = I0 a) → ai_Ev none 159 4 [some (.ref 572), some (.int (nI (ai_qn σ.chg (5 * t)))), some (.int (nI t)), u3, u4, u5] [] (S, I, L, F) (ai_Py S F L (fun v I2 => v = nI (ai_qn σ.chg 200) ∧ ai_RM (σ.stp 200).mkT I2 L ∧ ai_RC σ I2 ∧ ∀ a, a < 572 → I2 a = I0 a)) := by
  have hnT := hV.nT
  have hnQ := hV.nQ
  have hnJ := hV.nJ
  intro z
  induction z with
  | zero =>
    intro t I u3 u4 u5 hz hM hC hf
    have e9 : t = σ.nT := by omega
    subst e9
    have hsk : ∀ k, 5 * σ.nT ≤ k → k < 200 → σ.chg k = false := fun k h1 h2 => chg_no hV (by omega) (by omega)
    have e8 : ai_qn σ.chg 200 = ai_qn σ.chg (5 * σ.nT) := qn_skip (by omega) hsk
    have hMe := mrx_skipag hM (by omega) hsk
    have hVs := iv_stp (m := 200) hV
    refine ev_iload_n 5 rfl d159_4 rfl ?_
    refine ev_aload_n 6 rfl d159_5 rfl ?_
    refine ev_geti (v := nI σ.nT) 9 rfl 9 5 d159_6 rfl (by omega) (G.1 _ _ (rfl : ai_sp 572 = (9, 0)) (by decide) (by decide)) hM.nT ?_
    refine ev_icmp 120 12 (by decide) rfl (cn_ge (by omega) (by omega)) d159_9 (fun hc_9 => ?_) (fun hc_9 => absurd hc_9 (by omega))
    refine ev_aload_n 121 rfl d159_120 rfl ?_
    refine ev_iconst (v := nI 1) 122 rfl d159_121 (by decide) ?_
    refine ev_cu1 125 rfl 158 d159_122 rfl rfl (by rw [G.1 _ _ (rfl : ai_sp 572 = (9, 0)) (by decide) (by decide)]; rfl) (by omega) rfl (m_reckonTables (w := 1) G hMe (rc_stp hC) hVs (fun h => absurd h (by omega)) (by omega)) (fun I_1 hr_122 => ?_)
    obtain ⟨hM2, hC9, hf2⟩ := hr_122
    have hC2 := stp_rc hC9
    refine ev_iload_n 126 rfl d159_125 rfl ?_
    refine ev_iret (Or.inl rfl) d159_126 ?_
    exact ⟨_, _, rfl, rfl, by rw [e8], hM2, hC2, fun a ha => (hf2 a (by omega) (by omega)).trans (hf a ha)⟩
  | succ z ih =>
    intro t I u3 u4 u5 hz hM hC hf
    have ht2 : t < σ.nT := by omega
    refine ev_iload_n 5 rfl d159_4 rfl ?_
    refine ev_aload_n 6 rfl d159_5 rfl ?_
    refine ev_geti (v := nI σ.nT) 9 rfl 9 5 d159_6 rfl (by omega) (G.1 _ _ (rfl : ai_sp 572 = (9, 0)) (by decide) (by decide)) hM.nT ?_
    refine ev_icmp 120 12 (by decide) rfl (cn_ge (by omega) (by omega)) d159_9 (fun hc_9 => absurd hc_9 (by omega)) (fun hc_9 => ?_)
    refine ev_iconst (v := nI 0) 13 rfl d159_12 (by decide) ?_
    refine ev_store_in 14 rfl d159_13 (Nat.le_of_ble_eq_true rfl) rfl ?_
    show ai_Ev _ _ _ [some (.ref 572), some (.int (nI (ai_qn σ.chg (5 * t)))), some (.int (nI t)), some (.int (nI 0)), u4, u5] _ _ _
    refine m_sp_q G hV ht2 ?_ σ.nQ 0 I _ _ (by omega) hM hC hf
    intro I9 w4 w5 h9M h9C h9f
    refine ev_iinc (v := nI (t + 1)) 117 rfl d159_114 rfl (Nat.le_of_ble_eq_true rfl) (nI_add _ 1) rfl ?_
    show ai_Ev _ _ _ [some (.ref 572), some (.int (nI (ai_qn σ.chg (5 * t + σ.nQ)))), some (.int (nI (t + 1))), some (.int (nI σ.nQ)), w4, w5] _ _ _
    refine ev_goto 4 (by decide) d159_117 ?_
    have hsk : ∀ k, 5 * t + σ.nQ ≤ k → k < 5 * (t + 1) → σ.chg k = false := fun k h1 h2 => chg_no hV (by omega) (by omega)
    have e8 : ai_qn σ.chg (5 * (t + 1)) = ai_qn σ.chg (5 * t + σ.nQ) := qn_skip (by omega) hsk
    have h9 := ih (t + 1) I9 (some (.int (nI σ.nQ))) w4 w5 (by omega) (mrx_skipag h9M (by omega) hsk) h9C h9f
    rw [e8] at h9
    exact h9
theorem m_step (G : ai_G S F) (hM : ai_RM σ I L) (hC : ai_RC σ I) (hV : ai_IV σ) : ai_Ev none 159 0 [some (.ref 572), none, none, none, none, none] [] (S, I, L, F) (ai_Py S F L (fun v I2 => v = nI (ai_qn σ.chg 200) ∧ ai_RM (σ.stp 200).mkT I2 L ∧ ai_RC σ I2 ∧ ∀ a, a < 572 → I2 a = I a)) := by
  refine ev_iconst (v := nI 0) 1 rfl d159_0 (by decide) ?_
  refine ev_store_in 2 rfl d159_1 (Nat.le_of_ble_eq_true rfl) rfl ?_
  show ai_Ev _ _ _ [some (.ref 572), some (.int (nI 0)), none, none, none, none] _ _ _
  refine ev_iconst (v := nI 0) 3 rfl d159_2 (by decide) ?_
  refine ev_store_in 4 rfl d159_3 (Nat.le_of_ble_eq_true rfl) rfl ?_
  show ai_Ev _ _ _ [some (.ref 572), some (.int (nI 0)), some (.int (nI 0)), none, none, none] _ _ _
  exact m_sp_t G hV σ.nT 0 I none none none (by omega) (rm_stp0 hM) hC (fun _ _ => rfl)
end MSTEP
