section XSTEP
variable {S : List (Nat × Nat)} {F : Nat → Nat → Option Nat} {L : Nat → Nat → Int64} {I : Nat → Nat → Int32} {σ : ai_S}
def ai_fA (I I2 : Nat → Nat → Int32) : Prop := ∀ a k, (a < 172 ∨ 572 ≤ a ∨ a % 2 = 1 ∨ k ≠ 1) → I2 a k = I a k
theorem rx_wag {A : Nat → Nat} (hX : ai_RX σ I L) {I2 : Nat → Nat → Int32} (f : ai_fA I I2) (h1 : ∀ c, c < 200 → I2 (172 + 2 * c) 1 = nI (A c) - 1) : ai_RX (σ.wAg A) I2 L := by
  refine ⟨?_, ?_, ?_, ?_, ?_, ?_, ?_, ?_, ?_, ?_, ?_, ?_, ?_, ?_, ?_, ?_, ?_, ?_, ?_, ?_, ?_, ?_, ?_, ?_, ?_, ?_, ?_⟩
  · rw [f _ _ (by omega)]; exact hX.nT
  · rw [f _ _ (by omega)]; exact hX.nQ
  · rw [f _ _ (by omega)]; exact hX.nJ
  · rw [f _ _ (by omega)]; exact hX.mk
  · rw [f _ _ (by omega)]; exact hX.lk
  · rw [f _ _ (by omega)]; exact hX.hs
  · rw [f _ _ (by omega)]; exact hX.st
  · intro i h0; rw [f _ _ (by omega)]; exact hX.ch i h0
  · intro i h0; rw [f _ _ (by omega)]; exact hX.rf i h0
  · intro s h0; rw [f _ _ (by omega)]; exact hX.wr s h0
  · intro s h0; rw [f _ _ (by omega)]; exact hX.jd s h0
  · intro s h0 h1; rw [f _ _ (by omega)]; exact hX.so s h0 h1
  · intro s h0; rw [f _ _ (by omega)]; exact hX.sz s h0
  · exact hX.el
  · intro q h0 h1; rw [f _ _ (by omega)]; exact hX.an q h0 h1
  · intro q h0 h1 h2; rw [f _ _ (by omega)]; exact hX.pa q h0 h1 h2
  · intro q h0 h1 h2; rw [f _ _ (by omega)]; exact hX.wa q h0 h1 h2
  · intro j h0; rw [f _ _ (by omega)]; exact hX.lf j h0
  · intro j h0; rw [f _ _ (by omega)]; exact hX.gn j h0
  · intro j h0; rw [f _ _ (by omega)]; exact hX.sr j h0
  · intro j h0; rw [f _ _ (by omega)]; exact hX.og j h0
  · intro y x h0 h1 h2 h3; rw [f _ _ (by omega)]; exact hX.al y x h0 h1 h2 h3
  · intro j q a b h0 h1 h2 h3; rw [f _ _ (by omega)]; exact hX.sd j q a b h0 h1 h2 h3
  · intro j q b h0 h1 h2; rw [f _ _ (by omega)]; exact hX.sa j q b h0 h1 h2
  · intro c h0; rw [f _ _ (by omega)]; exact hX.tr c h0
  · exact h1
  · intro c j h0 h1; rw [f _ _ (by omega)]; exact hX.nt c j h0 h1
theorem wag_wag {A B : Nat → Nat} : (σ.wAg A).wAg B = σ.wAg B := rfl
theorem stp_wt {m : Nat} : (σ.stp m).wt = σ.wt := rfl
theorem stp_tot {m : Nat} : (σ.stp m).tot = σ.tot := rfl
theorem stp_lead {m : Nat} : (σ.stp m).lead = σ.lead := rfl
theorem stp_look {m : Nat} : (σ.stp m).look = σ.look := rfl
theorem rx_stp {m m9 : Nat} (hX : ai_RX (σ.stp m) I L) {I2 : Nat → Nat → Int32} (f : ai_fA I I2) (h1 : ∀ c, c < 200 → I2 (172 + 2 * c) 1 = nI (if c < m9 ∧ σ.chg c = true then σ.lead c + 1 else σ.ag c) - 1) : ai_RX (σ.stp m9) I2 L := by
  have h := rx_wag hX f h1
  unfold ai_S.stp at h ⊢
  rw [wag_wag] at h
  exact h
theorem stp_ag {m : Nat} (hX : ai_RX (σ.stp m) I L) {c : Nat} (hc : c < 200) : I (172 + 2 * c) 1 = nI (if c < m ∧ σ.chg c = true then σ.lead c + 1 else σ.ag c) - 1 := hX.ag c hc
theorem rx_stp0 (hX : ai_RX σ I L) : ai_RX (σ.stp 0) I L := rx_wag hX (fun _ _ _ => rfl) (fun c hc => by rw [if_neg (by omega)]; exact hX.ag c hc)
theorem rx_noag {m : Nat} (hX : ai_RX (σ.stp m) I L) (h : ¬ σ.chg m = true) : ai_RX (σ.stp (m + 1)) I L := rx_stp hX (fun _ _ _ => rfl) (fun c hc => by
  rw [stp_ag hX hc]
  by_cases e : c < m ∧ σ.chg c = true
  · rw [if_pos e, if_pos ⟨by omega, e.2⟩]
  · rw [if_neg e, if_neg (fun h2 => e ⟨by
      by_cases e3 : c = m
      · subst e3; exact absurd h2.2 h
      · omega, h2.2⟩)])
theorem rx_yesag {m : Nat} (hX : ai_RX (σ.stp m) I L) (hm : m < 200) (h : σ.chg m = true) {I2 : Nat → Nat → Int32} (hI : I2 = ai_ui I (172 + 2 * m) 1 (nI (σ.lead m))) : ai_RX (σ.stp (m + 1)) I2 L := rx_stp hX (fun a k ha => ui_other hI (by omega)) (fun c hc => by
  by_cases e3 : c = m
  · subst e3; rw [if_pos ⟨by omega, h⟩, nM_succ]; exact ui_same hI
  · rw [ui_other hI (by omega), stp_ag hX hc]
    by_cases e : c < m ∧ σ.chg c = true
    · rw [if_pos e, if_pos ⟨by omega, e.2⟩]
    · rw [if_neg e, if_neg (fun h2 => e ⟨by omega, h2.2⟩)])
theorem rx_skipag {a b : Nat} (hX : ai_RX (σ.stp a) I L) (hab : a ≤ b) (h : ∀ k, a ≤ k → k < b → σ.chg k = false) : ai_RX (σ.stp b) I L := rx_stp hX (fun _ _ _ => rfl) (fun c hc => by
  rw [stp_ag hX hc]
  by_cases e : c < a ∧ σ.chg c = true
  · rw [if_pos e, if_pos ⟨by omega, e.2⟩]
  · rw [if_neg e, if_neg (fun h2 => e ⟨by
      by_cases e3 : c < a
      · exact e3
      · have := h c (by omega) h2.1; rw [h2.2] at this; exact absurd this (by decide), h2.2⟩)])
theorem x_agree (G : ai_G S F) (hV : ai_IV σ) {t q : Nat} (ht : t < σ.nT) (hq : q < σ.nQ) (hX : ai_RX (σ.stp (5 * t + q)) I L) : ai_Ev none 103 0 [some (.ref 1), some (.int (nI t)), some (.int (nI q)), none] [] (S, I, L, F) (ai_Pz S F L (σ.chg (5 * t + q) = true) (fun I2 => ai_RX (σ.stp (5 * t + q + 1)) I2 L ∧ ∀ a, 572 ≤ a → I2 a = I a)) := by
  have hnT := hV.nT
  have hnQ := hV.nQ
  have hnJ := hV.nJ
  have hc : 5 * t + q < 200 := by omega
  have hm : (5 * t + q) % 5 = q := by omega
  have han := hV.an q hq
  have htr := tr_le hV hc
  have hag := ag_le hV hc
  have hlk := look_le (σ := σ) (c := 5 * t + q)
  have hVs := iv_stp (m := 5 * t + q) hV
  have hag9 : I (172 + 2 * (5 * t + q)) 1 = nI (σ.ag (5 * t + q)) - 1 := by rw [stp_ag hX hc, if_neg (by omega)]
  have hld : σ.lead (5 * t + q) < σ.an q := by have := lead_lt hV (c := 5 * t + q) (by omega); rw [hm] at this; exact this
  refine ev_aload_n 1 rfl d103_0 rfl ?_
  refine ev_iload_n 2 rfl d103_1 rfl ?_
  refine ev_iload_n 3 rfl d103_2 rfl ?_
  refine ev_cp2 6 rfl 89 d103_3 rfl rfl (by rw [G.1 _ _ (rfl : ai_sp 1 = (8, 0)) (by decide) (by decide)]; rfl) (by omega) rfl (x_caseOf G (t := t) (q := q) (by omega) (by omega)) ?_
  refine ev_store_an 7 rfl d103_6 (Nat.le_of_ble_eq_true rfl) rfl ?_
  show ai_Ev _ _ _ [some (.ref 1), some (.int (nI t)), some (.int (nI q)), some (.ref (172 + 2 * (5 * t + q)))] _ _ _
  refine ev_aload_n 8 rfl d103_7 rfl ?_
  refine ev_cb0 11 rfl 13 d103_8 rfl rfl (by rw [G.1 _ _ (sp_case (by omega)) (by omega) (by omega)]; rfl) (by omega) rfl (show ai_Ev none 13 0 _ [] (S, I, L, F) (ai_Pb S F I L (σ.tr (5 * t + q) ≠ 0)) from x_known G hX hVs hc) (fun hq_8 => ?_) (fun hq_8 => ?_)
  · refine ev_if_F 16 14 (by decide) rfl (by decide) d103_11 ?_
    refine ev_iconst (v := nI 0) 15 rfl d103_14 (by decide) ?_
    refine ev_iret (Or.inr ⟨rfl, Or.inl (by decide)⟩) d103_15 ?_
    have hch : ¬ σ.chg (5 * t + q) = true := fun h => hq_8 (chg_iff.mp h).1
    exact ⟨_, Or.inr ⟨hch, rfl⟩, rfl, rx_noag hX hch, fun _ _ => rfl⟩
  · refine ev_if_T 16 (by decide) (by decide) d103_11 ?_
    refine ev_aload_n 17 rfl d103_16 rfl ?_
    refine ev_iload_n 18 rfl d103_17 rfl ?_
    refine ev_iload_n 19 rfl d103_18 rfl ?_
    refine ev_cu2 22 rfl 104 d103_19 rfl rfl (by rw [G.1 _ _ (rfl : ai_sp 1 = (8, 0)) (by decide) (by decide)]; rfl) (by omega) rfl (x_weigh G hX hVs ht hq) (fun I_1 hr_19 => ?_)
    obtain ⟨hQ9, hfo⟩ := hr_19
    have hQ : ai_OQ I_1 (σ.an q) (σ.tr (5 * t + q)) (σ.look (5 * t + q)) (σ.lead (5 * t + q)) (σ.tot (5 * t + q)) (σ.wt (5 * t + q)) := by rw [stp_look, stp_lead, stp_tot, stp_wt] at hQ9; exact hQ9
    have hX2 : ai_RX (σ.stp (5 * t + q)) I_1 L := hX.frame (fun a h _ => hfo a (by omega))
    refine ev_aload_n 23 rfl d103_22 rfl ?_
    refine ev_getr 26 rfl 8 13 d103_23 rfl (by omega) (G.1 _ _ (rfl : ai_sp 1 = (8, 0)) (by decide) (by decide)) (G.2 _ _ _ (rfl : ai_rf 1 13 = some 8)) ?_
    refine ev_geti (v := nI (σ.look (5 * t + q))) 29 rfl 3 6 d103_26 rfl (by omega) (G.1 _ _ (rfl : ai_sp 8 = (3, 0)) (by decide) (by decide)) hQ.1.2.2.1 ?_
    refine ev_if 34 32 (by decide) rfl (c0_ne (by omega)) d103_29 (fun hc_29 => ?_) (fun hc_29 => ?_)
    · refine ev_aload_n 35 rfl d103_34 rfl ?_
      refine ev_geti (v := nI (σ.ag (5 * t + q)) - 1) 38 rfl 1 1 d103_35 rfl (by omega) (G.1 _ _ (sp_case (by omega)) (by omega) (by omega)) (by rw [hfo _ (by omega)]; exact hag9) ?_
      refine ev_iconst (v := (-1)) 39 rfl d103_38 (by decide) ?_
      refine ev_icmp 65 42 (by decide) rfl (cq_eq (by omega)) d103_39 (fun hc_39 => ?_) (fun hc_39 => ?_)
      · have hch : σ.chg (5 * t + q) = true := chg_iff.mpr (by omega)
        refine ev_aload_n 66 rfl d103_65 rfl ?_
        refine ev_aload_n 67 rfl d103_66 rfl ?_
        refine ev_getr 70 rfl 8 13 d103_67 rfl (by omega) (G.1 _ _ (rfl : ai_sp 1 = (8, 0)) (by decide) (by decide)) (G.2 _ _ _ (rfl : ai_rf 1 13 = some 8)) ?_
        refine ev_geti (v := nI (σ.lead (5 * t + q))) 73 rfl 3 7 d103_70 rfl (by omega) (G.1 _ _ (rfl : ai_sp 8 = (3, 0)) (by decide) (by decide)) hQ.2.1 ?_
        obtain ⟨I_2, hI_2⟩ : ∃ z, z = ai_ui I_1 (172 + 2 * (5 * t + q)) 1 (nI (σ.lead (5 * t + q))) := ⟨_, rfl⟩
        refine ev_puti (I2 := I_2) 76 rfl 1 1 d103_73 rfl (by omega) (G.1 _ _ (sp_case (by omega)) (by omega) (by omega)) (fun h => absurd h (by decide)) hI_2.symm ?_
        refine ev_iconst (v := nI 1) 77 rfl d103_76 (by decide) ?_
        refine ev_iret (Or.inr ⟨rfl, Or.inr (by decide)⟩) d103_77 ?_
        exact ⟨_, Or.inl ⟨hch, rfl⟩, rfl, rx_yesag hX2 hc hch hI_2, fun a ha => by rw [ui_row hI_2 (by omega)]; exact hfo a (by omega)⟩
      · refine ev_aload_n 43 rfl d103_42 rfl ?_
        refine ev_getr 46 rfl 8 13 d103_43 rfl (by omega) (G.1 _ _ (rfl : ai_sp 1 = (8, 0)) (by decide) (by decide)) (G.2 _ _ _ (rfl : ai_rf 1 13 = some 8)) ?_
        refine ev_aload_n 47 rfl d103_46 rfl ?_
        refine ev_getr 50 rfl 8 13 d103_47 rfl (by omega) (G.1 _ _ (rfl : ai_sp 1 = (8, 0)) (by decide) (by decide)) (G.2 _ _ _ (rfl : ai_rf 1 13 = some 8)) ?_
        refine ev_geti (v := nI (σ.lead (5 * t + q))) 53 rfl 3 7 d103_50 rfl (by omega) (G.1 _ _ (rfl : ai_sp 8 = (3, 0)) (by decide) (by decide)) hQ.2.1 ?_
        refine ev_aload_n 54 rfl d103_53 rfl ?_
        refine ev_geti (v := nI (σ.ag (5 * t + q)) - 1) 57 rfl 1 1 d103_54 rfl (by omega) (G.1 _ _ (sp_case (by omega)) (by omega) (by omega)) (by rw [hfo _ (by omega)]; exact hag9) ?_
        rw [nM_pos hc_39]
        refine ev_cb2 60 rfl 32 d103_57 rfl rfl (by rw [G.1 _ _ (rfl : ai_sp 8 = (3, 0)) (by decide) (by decide)]; rfl) (by omega) rfl (o_above (W := σ.wt (5 * t + q)) G han.2 htr hQ.1 hld (by have := (hV.ag _ hc hc_39).2.2; rw [hm] at this; omega)) (fun hq_57 => ?_) (fun hq_57 => ?_)
        · refine ev_if_T 65 (by decide) (by decide) d103_60 ?_
          have hch : σ.chg (5 * t + q) = true := chg_iff.mpr (by omega)
          refine ev_aload_n 66 rfl d103_65 rfl ?_
          refine ev_aload_n 67 rfl d103_66 rfl ?_
          refine ev_getr 70 rfl 8 13 d103_67 rfl (by omega) (G.1 _ _ (rfl : ai_sp 1 = (8, 0)) (by decide) (by decide)) (G.2 _ _ _ (rfl : ai_rf 1 13 = some 8)) ?_
          refine ev_geti (v := nI (σ.lead (5 * t + q))) 73 rfl 3 7 d103_70 rfl (by omega) (G.1 _ _ (rfl : ai_sp 8 = (3, 0)) (by decide) (by decide)) hQ.2.1 ?_
          obtain ⟨I_2, hI_2⟩ : ∃ z, z = ai_ui I_1 (172 + 2 * (5 * t + q)) 1 (nI (σ.lead (5 * t + q))) := ⟨_, rfl⟩
          refine ev_puti (I2 := I_2) 76 rfl 1 1 d103_73 rfl (by omega) (G.1 _ _ (sp_case (by omega)) (by omega) (by omega)) (fun h => absurd h (by decide)) hI_2.symm ?_
          refine ev_iconst (v := nI 1) 77 rfl d103_76 (by decide) ?_
          refine ev_iret (Or.inr ⟨rfl, Or.inr (by decide)⟩) d103_77 ?_
          exact ⟨_, Or.inl ⟨hch, rfl⟩, rfl, rx_yesag hX2 hc hch hI_2, fun a ha => by rw [ui_row hI_2 (by omega)]; exact hfo a (by omega)⟩
        · refine ev_if_F 65 63 (by decide) rfl (by decide) d103_60 ?_
          refine ev_iconst (v := nI 0) 64 rfl d103_63 (by decide) ?_
          refine ev_iret (Or.inr ⟨rfl, Or.inl (by decide)⟩) d103_64 ?_
          have hch : ¬ σ.chg (5 * t + q) = true := fun h => by
            have h9 := chg_iff.mp h
            omega
          exact ⟨_, Or.inr ⟨hch, rfl⟩, rfl, rx_noag hX2 hch, fun a ha => hfo a (by omega)⟩
    · refine ev_iconst (v := nI 0) 33 rfl d103_32 (by decide) ?_
      refine ev_iret (Or.inr ⟨rfl, Or.inl (by decide)⟩) d103_33 ?_
      have hch : ¬ σ.chg (5 * t + q) = true := fun h => by
        have h9 := chg_iff.mp h
        omega
      exact ⟨_, Or.inr ⟨hch, rfl⟩, rfl, rx_noag hX2 hch, fun a ha => hfo a (by omega)⟩
theorem x_ts_in (G : ai_G S F) (hV : ai_IV σ) {t : Nat} (ht : t < σ.nT) {I0 : Nat → Nat → Int32} {Q : Option Value → ai_H → Prop} (hk : ∀ I2, ai_RX (σ.stp (5 * t + σ.nQ)) I2 L → (∀ a, 572 ≤ a → I2 a = I0 a) → ai_Ev none 102 40 [some (.ref 1), some (.int (nI (ai_qn σ.chg (5 * t + σ.nQ)))), some (.int (nI t)), some (.int (nI σ.nQ))] [] (S, I2, L, F) Q) : ∀ (z q : Nat) (I : Nat → Nat → Int32), q + z = σ.nQ → ai_RX (σ.stp (5 * t + q)) I L → (∀ a, 572 ≤ a → I a = I0 a) → ai_Ev none 102 14 [some (.ref 1), some (.int (nI (ai_qn σ.chg (5 * t + q)))), some (.int (nI t)), some (.int (nI q))] [] (S, I, L, F) Q := by
  have hnT := hV.nT
  have hnQ := hV.nQ
  have hnJ := hV.nJ
  intro z
  induction z with
  | zero =>
    intro q I hz hX hf
    have e9 : q = σ.nQ := by omega
    subst e9
    refine ev_iload_n 15 rfl d102_14 rfl ?_
    refine ev_aload_n 16 rfl d102_15 rfl ?_
    refine ev_geti (v := nI σ.nQ) 19 rfl 8 5 d102_16 rfl (by omega) (G.1 _ _ (rfl : ai_sp 1 = (8, 0)) (by decide) (by decide)) hX.nQ ?_
    refine ev_icmp 40 22 (by decide) rfl (cn_ge (by omega) (by omega)) d102_19 (fun hc_19 => ?_) (fun hc_19 => absurd hc_19 (by omega))
    exact hk _ hX hf
  | succ z ih =>
    intro q I hz hX hf
    refine ev_iload_n 15 rfl d102_14 rfl ?_
    refine ev_aload_n 16 rfl d102_15 rfl ?_
    refine ev_geti (v := nI σ.nQ) 19 rfl 8 5 d102_16 rfl (by omega) (G.1 _ _ (rfl : ai_sp 1 = (8, 0)) (by decide) (by decide)) hX.nQ ?_
    refine ev_icmp 40 22 (by decide) rfl (cn_ge (by omega) (by omega)) d102_19 (fun hc_19 => absurd hc_19 (by omega)) (fun hc_19 => ?_)
    refine ev_aload_n 23 rfl d102_22 rfl ?_
    refine ev_iload_n 24 rfl d102_23 rfl ?_
    refine ev_iload_n 25 rfl d102_24 rfl ?_
    refine ev_cz2 28 rfl 103 d102_25 rfl rfl (by rw [G.1 _ _ (rfl : ai_sp 1 = (8, 0)) (by decide) (by decide)]; rfl) (by omega) rfl (x_agree G hV ht (by omega) hX) (fun I_1 hq_25 hr_25 => ?_) (fun I_1 hq_25 hr_25 => ?_)
    · obtain ⟨hX2, hf2⟩ := hr_25
      refine ev_if_F 34 31 (by decide) rfl (by decide) d102_28 ?_
      refine ev_iinc (v := nI ((ai_qn σ.chg (5 * t + q)) + 1)) 34 rfl d102_31 rfl (Nat.le_of_ble_eq_true rfl) (nI_add _ 1) rfl ?_
      show ai_Ev _ _ _ [some (.ref 1), some (.int (nI ((ai_qn σ.chg (5 * t + q)) + 1))), some (.int (nI t)), some (.int (nI q))] _ _ _
      refine ev_iinc (v := nI (q + 1)) 37 rfl d102_34 rfl (Nat.le_of_ble_eq_true rfl) (nI_add _ 1) rfl ?_
      show ai_Ev _ _ _ [some (.ref 1), some (.int (nI ((ai_qn σ.chg (5 * t + q)) + 1))), some (.int (nI t)), some (.int (nI (q + 1)))] _ _ _
      refine ev_goto 14 (by decide) d102_37 ?_
      have e8 : ai_qn σ.chg (5 * t + (q + 1)) = (ai_qn σ.chg (5 * t + q)) + 1 := qn_T (p := σ.chg) hq_25
      have h9 := ih (q + 1) _ (by omega) hX2 (fun a ha => (hf2 a ha).trans (hf a ha))
      rw [e8] at h9
      exact h9
    · obtain ⟨hX2, hf2⟩ := hr_25
      refine ev_if_T 34 (by decide) (by decide) d102_28 ?_
      refine ev_iinc (v := nI (q + 1)) 37 rfl d102_34 rfl (Nat.le_of_ble_eq_true rfl) (nI_add _ 1) rfl ?_
      show ai_Ev _ _ _ [some (.ref 1), some (.int (nI (ai_qn σ.chg (5 * t + q)))), some (.int (nI t)), some (.int (nI (q + 1)))] _ _ _
      refine ev_goto 14 (by decide) d102_37 ?_
      have e8 : ai_qn σ.chg (5 * t + (q + 1)) = ai_qn σ.chg (5 * t + q) := qn_F (p := σ.chg) hq_25
      have h9 := ih (q + 1) _ (by omega) hX2 (fun a ha => (hf2 a ha).trans (hf a ha))
      rw [e8] at h9
      exact h9
theorem x_ts_loop (G : ai_G S F) (hV : ai_IV σ) {I0 : Nat → Nat → Int32} : ∀ (z t : Nat) (I : Nat → Nat → Int32) (u3 : Option Value), t + z = σ.nT → ai_RX (σ.stp (5 * t)) I L → (∀ a, 572 ≤ a → I a = I0 a) → ai_Ev none 102 4 [some (.ref 1), some (.int (nI (ai_qn σ.chg (5 * t)))), some (.int (nI t)), u3] [] (S, I, L, F) (ai_Py S F L (fun v I2 => v = nI (ai_qn σ.chg 200) ∧ ai_RX (σ.stp 200).mkT I2 L ∧ ∀ a, 572 ≤ a → I2 a = I0 a)) := by
  have hnT := hV.nT
  have hnQ := hV.nQ
  have hnJ := hV.nJ
  intro z
  induction z with
  | zero =>
    intro t I u3 hz hX hf
    have e9 : t = σ.nT := by omega
    subst e9
    have hsk : ∀ k, 5 * σ.nT ≤ k → k < 200 → σ.chg k = false := fun k h1 h2 => chg_no hV (by omega) (by omega)
    have e8 : ai_qn σ.chg 200 = ai_qn σ.chg (5 * σ.nT) := qn_skip (by omega) hsk
    have hXe := rx_skipag hX (by omega) hsk
    have hVs := iv_stp (m := 200) hV
    refine ev_iload_n 5 rfl d102_4 rfl ?_
    refine ev_aload_n 6 rfl d102_5 rfl ?_
    refine ev_geti (v := nI σ.nT) 9 rfl 8 4 d102_6 rfl (by omega) (G.1 _ _ (rfl : ai_sp 1 = (8, 0)) (by decide) (by decide)) hX.nT ?_
    refine ev_icmp 46 12 (by decide) rfl (cn_ge (by omega) (by omega)) d102_9 (fun hc_9 => ?_) (fun hc_9 => absurd hc_9 (by omega))
    refine ev_aload_n 47 rfl d102_46 rfl ?_
    refine ev_cu0 50 rfl 100 d102_47 rfl rfl (by rw [G.1 _ _ (rfl : ai_sp 1 = (8, 0)) (by decide) (by decide)]; rfl) (by omega) rfl (x_makeTables G hXe hVs) (fun I_1 hr_47 => ?_)
    obtain ⟨hX2, hf2⟩ := hr_47
    refine ev_iload_n 51 rfl d102_50 rfl ?_
    refine ev_iret (Or.inl rfl) d102_51 ?_
    exact ⟨_, _, rfl, rfl, by rw [e8], hX2, fun a ha => (hf2 a (by omega)).trans (hf a ha)⟩
  | succ z ih =>
    intro t I u3 hz hX hf
    have ht2 : t < σ.nT := by omega
    refine ev_iload_n 5 rfl d102_4 rfl ?_
    refine ev_aload_n 6 rfl d102_5 rfl ?_
    refine ev_geti (v := nI σ.nT) 9 rfl 8 4 d102_6 rfl (by omega) (G.1 _ _ (rfl : ai_sp 1 = (8, 0)) (by decide) (by decide)) hX.nT ?_
    refine ev_icmp 46 12 (by decide) rfl (cn_ge (by omega) (by omega)) d102_9 (fun hc_9 => absurd hc_9 (by omega)) (fun hc_9 => ?_)
    refine ev_iconst (v := nI 0) 13 rfl d102_12 (by decide) ?_
    refine ev_store_in 14 rfl d102_13 (Nat.le_of_ble_eq_true rfl) rfl ?_
    show ai_Ev _ _ _ [some (.ref 1), some (.int (nI (ai_qn σ.chg (5 * t)))), some (.int (nI t)), some (.int (nI 0))] _ _ _
    refine x_ts_in G hV ht2 ?_ σ.nQ 0 I (by omega) hX hf
    intro I9 hX9 hf9
    refine ev_iinc (v := nI (t + 1)) 43 rfl d102_40 rfl (Nat.le_of_ble_eq_true rfl) (nI_add _ 1) rfl ?_
    show ai_Ev _ _ _ [some (.ref 1), some (.int (nI (ai_qn σ.chg (5 * t + σ.nQ)))), some (.int (nI (t + 1))), some (.int (nI σ.nQ))] _ _ _
    refine ev_goto 4 (by decide) d102_43 ?_
    have hsk : ∀ k, 5 * t + σ.nQ ≤ k → k < 5 * (t + 1) → σ.chg k = false := fun k h1 h2 => chg_no hV (by omega) (by omega)
    have e8 : ai_qn σ.chg (5 * (t + 1)) = ai_qn σ.chg (5 * t + σ.nQ) := qn_skip (by omega) hsk
    have h9 := ih (t + 1) I9 (some (.int (nI σ.nQ))) (by omega) (rx_skipag hX9 (by omega) hsk) hf9
    rw [e8] at h9
    exact h9
theorem x_takeStep (G : ai_G S F) (hX : ai_RX σ I L) (hV : ai_IV σ) : ai_Ev none 102 0 [some (.ref 1), none, none, none] [] (S, I, L, F) (ai_Py S F L (fun v I2 => v = nI (ai_qn σ.chg 200) ∧ ai_RX (σ.stp 200).mkT I2 L ∧ ∀ a, 572 ≤ a → I2 a = I a)) := by
  refine ev_iconst (v := nI 0) 1 rfl d102_0 (by decide) ?_
  refine ev_store_in 2 rfl d102_1 (Nat.le_of_ble_eq_true rfl) rfl ?_
  show ai_Ev _ _ _ [some (.ref 1), some (.int (nI 0)), none, none] _ _ _
  refine ev_iconst (v := nI 0) 3 rfl d102_2 (by decide) ?_
  refine ev_store_in 4 rfl d102_3 (Nat.le_of_ble_eq_true rfl) rfl ?_
  show ai_Ev _ _ _ [some (.ref 1), some (.int (nI 0)), some (.int (nI 0)), none] _ _ _
  exact x_ts_loop G hV σ.nT 0 I none (by omega) (rx_stp0 hX) (fun _ _ => rfl)
theorem rx_chst {A : Nat → Nat} {n m : Nat} (hX : ai_RX σ I L) {I2 I3 : Nat → Nat → Int32} (g2 : I2 = ai_ui I 6 m (nI n)) (g3 : I3 = ai_ui I2 1 11 (nI (m + 1))) (hA : ∀ i, i < m → I 6 i = nI (A i)) (hn : A m = n) : ai_RX ((σ.wCh A).wSt (m + 1)) I3 L := by
  refine ⟨?_, ?_, ?_, ?_, ?_, ?_, ?_, ?_, ?_, ?_, ?_, ?_, ?_, ?_, ?_, ?_, ?_, ?_, ?_, ?_, ?_, ?_, ?_, ?_, ?_, ?_, ?_⟩
  · rw [ui_other g3 (by omega), ui_other g2 (by omega)]; exact hX.nT
  · rw [ui_other g3 (by omega), ui_other g2 (by omega)]; exact hX.nQ
  · rw [ui_other g3 (by omega), ui_other g2 (by omega)]; exact hX.nJ
  · rw [ui_other g3 (by omega), ui_other g2 (by omega)]; exact hX.mk
  · rw [ui_other g3 (by omega), ui_other g2 (by omega)]; exact hX.lk
  · rw [ui_other g3 (by omega), ui_other g2 (by omega)]; exact hX.hs
  · exact ui_same g3
  · intro i hi
    have hi2 : i < m + 1 := hi
    show I3 6 i = nI (A i)
    rw [ui_row g3 (by omega)]
    by_cases e : i = m
    · subst e; rw [hn]; exact ui_same g2
    · rw [ui_other g2 (by omega)]; exact hA i (by omega)
  · intro i h0; rw [ui_other g3 (by omega), ui_other g2 (by omega)]; exact hX.rf i h0
  · intro s h0; rw [ui_other g3 (by omega), ui_other g2 (by omega)]; exact hX.wr s h0
  · intro s h0; rw [ui_other g3 (by omega), ui_other g2 (by omega)]; exact hX.jd s h0
  · intro s h0 h1; rw [ui_other g3 (by omega), ui_other g2 (by omega)]; exact hX.so s h0 h1
  · intro s h0; rw [ui_other g3 (by omega), ui_other g2 (by omega)]; exact hX.sz s h0
  · exact hX.el
  · intro q h0 h1; rw [ui_other g3 (by omega), ui_other g2 (by omega)]; exact hX.an q h0 h1
  · intro q h0 h1 h2; rw [ui_other g3 (by omega), ui_other g2 (by omega)]; exact hX.pa q h0 h1 h2
  · intro q h0 h1 h2; rw [ui_other g3 (by omega), ui_other g2 (by omega)]; exact hX.wa q h0 h1 h2
  · intro j h0; rw [ui_other g3 (by omega), ui_other g2 (by omega)]; exact hX.lf j h0
  · intro j h0; rw [ui_other g3 (by omega), ui_other g2 (by omega)]; exact hX.gn j h0
  · intro j h0; rw [ui_other g3 (by omega), ui_other g2 (by omega)]; exact hX.sr j h0
  · intro j h0; rw [ui_other g3 (by omega), ui_other g2 (by omega)]; exact hX.og j h0
  · intro y x h0 h1 h2 h3; rw [ui_other g3 (by omega), ui_other g2 (by omega)]; exact hX.al y x h0 h1 h2 h3
  · intro j q a b h0 h1 h2 h3; rw [ui_other g3 (by omega), ui_other g2 (by omega)]; exact hX.sd j q a b h0 h1 h2 h3
  · intro j q b h0 h1 h2; rw [ui_other g3 (by omega), ui_other g2 (by omega)]; exact hX.sa j q b h0 h1 h2
  · intro c h0; rw [ui_other g3 (by omega), ui_other g2 (by omega)]; exact hX.tr c h0
  · intro c h0; rw [ui_other g3 (by omega), ui_other g2 (by omega)]; exact hX.ag c h0
  · intro c j h0 h1; rw [ui_other g3 (by omega), ui_other g2 (by omega)]; exact hX.nt c j h0 h1
theorem rx_st0 (hX : ai_RX σ I L) {I2 : Nat → Nat → Int32} (h : I2 = ai_ui I 1 11 (nI 0)) : ai_RX (σ.wSt 0) I2 L := by
  refine ⟨?_, ?_, ?_, ?_, ?_, ?_, ?_, ?_, ?_, ?_, ?_, ?_, ?_, ?_, ?_, ?_, ?_, ?_, ?_, ?_, ?_, ?_, ?_, ?_, ?_, ?_, ?_⟩
  · rw [ui_other h (by omega)]; exact hX.nT
  · rw [ui_other h (by omega)]; exact hX.nQ
  · rw [ui_other h (by omega)]; exact hX.nJ
  · rw [ui_other h (by omega)]; exact hX.mk
  · rw [ui_other h (by omega)]; exact hX.lk
  · rw [ui_other h (by omega)]; exact hX.hs
  · exact ui_same h
  · intro i hi; exact absurd hi (by show ¬ i < 0; omega)
  · intro i h0; rw [ui_other h (by omega)]; exact hX.rf i h0
  · intro s h0; rw [ui_other h (by omega)]; exact hX.wr s h0
  · intro s h0; rw [ui_other h (by omega)]; exact hX.jd s h0
  · intro s h0 h1; rw [ui_other h (by omega)]; exact hX.so s h0 h1
  · intro s h0; rw [ui_other h (by omega)]; exact hX.sz s h0
  · exact hX.el
  · intro q h0 h1; rw [ui_other h (by omega)]; exact hX.an q h0 h1
  · intro q h0 h1 h2; rw [ui_other h (by omega)]; exact hX.pa q h0 h1 h2
  · intro q h0 h1 h2; rw [ui_other h (by omega)]; exact hX.wa q h0 h1 h2
  · intro j h0; rw [ui_other h (by omega)]; exact hX.lf j h0
  · intro j h0; rw [ui_other h (by omega)]; exact hX.gn j h0
  · intro j h0; rw [ui_other h (by omega)]; exact hX.sr j h0
  · intro j h0; rw [ui_other h (by omega)]; exact hX.og j h0
  · intro y x h0 h1 h2 h3; rw [ui_other h (by omega)]; exact hX.al y x h0 h1 h2 h3
  · intro j q a b h0 h1 h2 h3; rw [ui_other h (by omega)]; exact hX.sd j q a b h0 h1 h2 h3
  · intro j q b h0 h1 h2; rw [ui_other h (by omega)]; exact hX.sa j q b h0 h1 h2
  · intro c h0; rw [ui_other h (by omega)]; exact hX.tr c h0
  · intro c h0; rw [ui_other h (by omega)]; exact hX.ag c h0
  · intro c j h0 h1; rw [ui_other h (by omega)]; exact hX.nt c j h0 h1
theorem step1_st : σ.step1.st = σ.st + 1 := rfl
theorem mk_ch {i : Nat} : (σ.stp 200).mkT.ch i = σ.ch i := rfl
theorem mk_st : (σ.stp 200).mkT.st = σ.st := rfl
theorem go_0 {k : Nat} (h : ai_qn σ.chg 200 = 0) : ai_S.rkgo (k + 1) σ = σ.step1 := if_pos h
theorem go_1 {k : Nat} (h : ¬ ai_qn σ.chg 200 = 0) : ai_S.rkgo (k + 1) σ = ai_S.rkgo k σ.step1 := if_neg h
theorem rx_step {I2 I3 : Nat → Nat → Int32} (hV : ai_IV σ) (hX : ai_RX (σ.stp 200).mkT I L) (h2 : I2 = ai_ui I 6 σ.st (nI (ai_qn σ.chg 200))) (h3 : I3 = ai_ui I2 1 11 (nI (σ.st + 1))) : ai_RX σ.step1 I3 L :=
  rx_chst hX h2 h3 (fun i hi => by
    rw [if_neg (by omega)]
    have h9 := hX.ch i (by rw [mk_st]; exact hi)
    rw [mk_ch] at h9
    exact h9) (if_pos rfl)
theorem x_rk_loop (G : ai_G S F) {I0 : Nat → Nat → Int32} {zb : Int32} : ∀ (k : Nat) (σ : ai_S) (I : Nat → Nat → Int32), ai_IV σ → σ.st + k = 30 → ai_RX σ I L → (∀ a, 572 ≤ a → I a = I0 a) → ai_Ev none 72 48 [some (.ref 1), some (.int zb), some (.int (nI 1)), some (.int (nI σ.st))] [] (S, I, L, F) (ai_Py S F L (fun v I2 => v = nI (ai_S.rkgo k σ).st ∧ ai_RX (ai_S.rkgo k σ) I2 L ∧ ∀ a, 572 ≤ a → I2 a = I0 a)) := by
  intro k
  induction k with
  | zero =>
    intro σ I hV hst hX hf
    refine ev_iload_n 49 rfl d72_48 rfl ?_
    refine ev_bipush (v := nI 30) 51 rfl d72_49 (by decide) ?_
    refine ev_icmp 96 54 (by decide) rfl (cn_ge (by omega) (by omega)) d72_51 (fun hc_51 => ?_) (fun hc_51 => absurd hc_51 (by omega))
    refine ev_aload_n 97 rfl d72_96 rfl ?_
    refine ev_geti (v := nI σ.st) 100 rfl 8 11 d72_97 rfl (by omega) (G.1 _ _ (rfl : ai_sp 1 = (8, 0)) (by decide) (by decide)) hX.st ?_
    refine ev_iret (Or.inl rfl) d72_100 ?_
    exact ⟨_, _, rfl, rfl, rfl, hX, hf⟩
  | succ k ih =>
    intro σ I hV hst hX hf
    refine ev_iload_n 49 rfl d72_48 rfl ?_
    refine ev_bipush (v := nI 30) 51 rfl d72_49 (by decide) ?_
    refine ev_icmp 96 54 (by decide) rfl (cn_ge (by omega) (by omega)) d72_51 (fun hc_51 => absurd hc_51 (by omega)) (fun hc_51 => ?_)
    refine ev_iload_n 55 rfl d72_54 rfl ?_
    refine ev_if_F 96 58 (by decide) rfl (by decide) d72_55 ?_
    refine ev_aload_n 59 rfl d72_58 rfl ?_
    refine ev_getr 62 rfl 8 10 d72_59 rfl (by omega) (G.1 _ _ (rfl : ai_sp 1 = (8, 0)) (by decide) (by decide)) (G.2 _ _ _ (rfl : ai_rf 1 10 = some 6)) ?_
    refine ev_iload_n 63 rfl d72_62 rfl ?_
    refine ev_aload_n 64 rfl d72_63 rfl ?_
    refine ev_cy0 67 rfl 102 d72_64 rfl rfl (by rw [G.1 _ _ (rfl : ai_sp 1 = (8, 0)) (by decide) (by decide)]; rfl) (by omega) rfl (x_takeStep G hX hV) (fun v_2 I_1 hr_64 => ?_)
    obtain ⟨rfl, hX2, hf2⟩ := hr_64
    have hqn := qn_le σ.chg 200
    obtain ⟨I_3, hI_3⟩ : ∃ z, z = ai_ui I_1 6 σ.st (nI (ai_qn σ.chg 200)) := ⟨_, rfl⟩
    refine ev_iast_n (I2 := I_3) 68 rfl d72_67 (by omega) (G.1 _ _ (rfl : ai_sp 6 = (100, 30)) (by decide) (by decide)) (by omega) (by decide) hI_3.symm ?_
    refine ev_aload_n 69 rfl d72_68 rfl ?_
    refine ev_iload_n 70 rfl d72_69 rfl ?_
    refine ev_iconst (v := nI 1) 71 rfl d72_70 (by decide) ?_
    refine ev_iadd (v := nI (σ.st + 1)) 72 rfl d72_71 (nI_add _ _) ?_
    obtain ⟨I_4, hI_4⟩ : ∃ z, z = ai_ui I_3 1 11 (nI (σ.st + 1)) := ⟨_, rfl⟩
    refine ev_puti (I2 := I_4) 75 rfl 8 11 d72_72 rfl (by omega) (G.1 _ _ (rfl : ai_sp 1 = (8, 0)) (by decide) (by decide)) (fun h => absurd h (by decide)) hI_4.symm ?_
    refine ev_aload_n 76 rfl d72_75 rfl ?_
    refine ev_getr 79 rfl 8 10 d72_76 rfl (by omega) (G.1 _ _ (rfl : ai_sp 1 = (8, 0)) (by decide) (by decide)) (G.2 _ _ _ (rfl : ai_rf 1 10 = some 6)) ?_
    refine ev_iload_n 80 rfl d72_79 rfl ?_
    refine ev_iald_n (v := nI (ai_qn σ.chg 200)) 81 rfl d72_80 (by omega) (G.1 _ _ (rfl : ai_sp 6 = (100, 30)) (by decide) (by decide)) (by omega) (by decide) (by rw [ui_row hI_4 (by omega)]; exact ui_same hI_3) ?_
    refine ev_if 88 84 (by decide) rfl (c0_le (by omega)) d72_81 (fun hc_81 => ?_) (fun hc_81 => ?_)
    · refine ev_iconst (v := nI 0) 89 rfl d72_88 (by decide) ?_
      refine ev_store_in 90 rfl d72_89 (Nat.le_of_ble_eq_true rfl) rfl ?_
      show ai_Ev _ _ _ [some (.ref 1), some (.int zb), some (.int (nI 0)), some (.int (nI σ.st))] _ _ _
      refine ev_iinc (v := nI (σ.st + 1)) 93 rfl d72_90 rfl (Nat.le_of_ble_eq_true rfl) (nI_add _ 1) rfl ?_
      show ai_Ev _ _ _ [some (.ref 1), some (.int zb), some (.int (nI 0)), some (.int (nI (σ.st + 1)))] _ _ _
      refine ev_goto 48 (by decide) d72_93 ?_
      have hX9 : ai_RX σ.step1 I_4 L := rx_step hV hX2 hI_3 hI_4
      have hf9 : ∀ a, 572 ≤ a → I_4 a = I0 a := fun a ha => by rw [ui_row hI_4 (by omega), ui_row hI_3 (by omega), hf2 a ha]; exact hf a ha
      rw [go_0 (by omega)]
      refine ev_iload_n 49 rfl d72_48 rfl ?_
      refine ev_bipush (v := nI 30) 51 rfl d72_49 (by decide) ?_
      refine ev_icmp 96 54 (by decide) rfl (cn_ge (by omega) (by omega)) d72_51 (fun hc_51 => ?_) (fun hc_51 => ?_)
      · refine ev_aload_n 97 rfl d72_96 rfl ?_
        refine ev_geti (v := nI (σ.st + 1)) 100 rfl 8 11 d72_97 rfl (by omega) (G.1 _ _ (rfl : ai_sp 1 = (8, 0)) (by decide) (by decide)) hX9.st ?_
        refine ev_iret (Or.inl rfl) d72_100 ?_
        exact ⟨_, _, rfl, rfl, rfl, hX9, hf9⟩
      · refine ev_iload_n 55 rfl d72_54 rfl ?_
        refine ev_if_T 96 (by decide) (by decide) d72_55 ?_
        refine ev_aload_n 97 rfl d72_96 rfl ?_
        refine ev_geti (v := nI (σ.st + 1)) 100 rfl 8 11 d72_97 rfl (by omega) (G.1 _ _ (rfl : ai_sp 1 = (8, 0)) (by decide) (by decide)) hX9.st ?_
        refine ev_iret (Or.inl rfl) d72_100 ?_
        exact ⟨_, _, rfl, rfl, rfl, hX9, hf9⟩
    · refine ev_iconst (v := nI 1) 85 rfl d72_84 (by decide) ?_
      refine ev_goto 89 (by decide) d72_85 ?_
      refine ev_store_in 90 rfl d72_89 (Nat.le_of_ble_eq_true rfl) rfl ?_
      show ai_Ev _ _ _ [some (.ref 1), some (.int zb), some (.int (nI 1)), some (.int (nI σ.st))] _ _ _
      refine ev_iinc (v := nI (σ.st + 1)) 93 rfl d72_90 rfl (Nat.le_of_ble_eq_true rfl) (nI_add _ 1) rfl ?_
      show ai_Ev _ _ _ [some (.ref 1), some (.int zb), some (.int (nI 1)), some (.int (nI (σ.st + 1)))] _ _ _
      refine ev_goto 48 (by decide) d72_93 ?_
      have hX9 : ai_RX σ.step1 I_4 L := rx_step hV hX2 hI_3 hI_4
      have hf9 : ∀ a, 572 ≤ a → I_4 a = I0 a := fun a ha => by rw [ui_row hI_4 (by omega), ui_row hI_3 (by omega), hf2 a ha]; exact hf a ha
      rw [go_1 (by omega)]
      exact ih σ.step1 _ (iv_step hV (by omega)) (by rw [step1_st]; omega) hX9 hf9
theorem rx_ag0 {k : Nat} (hX : ai_RX (σ.wAg (fun x => if x < k then 0 else σ.ag x)) I L) (hk : k < 200) {I2 : Nat → Nat → Int32} (hI : I2 = ai_ui I (172 + 2 * k) 1 (-1)) : ai_RX (σ.wAg (fun x => if x < (k + 1) then 0 else σ.ag x)) I2 L := by
  have h := rx_wag (A := fun x => if x < k + 1 then 0 else σ.ag x) hX (fun a j ha => ui_other hI (by omega)) (fun c hc => by
    by_cases e : c = k
    · subst e; rw [if_pos (by omega)]; exact ui_same hI
    · rw [ui_other hI (by omega)]
      refine (hX.ag c hc).trans ?_
      show nI (if c < k then 0 else σ.ag c) - 1 = _
      by_cases e2 : c < k
      · rw [if_pos e2, if_pos (by omega)]
      · rw [if_neg e2, if_neg (by omega)])
  rw [wag_wag] at h
  exact h
theorem x_rk0 (G : ai_G S F) (hV : ai_IV σ) {I0 : Nat → Nat → Int32} : ∀ (z k : Nat) (I : Nat → Nat → Int32), k + z = 200 → ai_RX (σ.wAg (fun x => if x < k then 0 else σ.ag x)) I L → (∀ a, 572 ≤ a → I a = I0 a) → ai_Ev none 72 2 [some (.ref 1), some (.int (nI 0)), some (.int (nI k)), none] [] (S, I, L, F) (ai_PX S F I0 L (o_reckon σ 0)) := by
  have hnT := hV.nT
  have hnQ := hV.nQ
  have hnJ := hV.nJ
  intro z
  induction z with
  | zero =>
    intro k I hz hX hf
    have e9 : k = 200 := by omega
    subst e9
    have hXe : ai_RX σ.rk0 I L := by
      have h := rx_wag (A := fun _ => 0) hX (fun _ _ _ => rfl) (fun c hc => (hX.ag c hc).trans (by show nI (if c < 200 then 0 else σ.ag c) - 1 = _; rw [if_pos hc]))
      rw [wag_wag] at h
      exact h
    refine ev_iload_n 3 rfl d72_2 rfl ?_
    refine ev_aload_n 4 rfl d72_3 rfl ?_
    refine ev_getr 7 rfl 8 3 d72_4 rfl (by omega) (G.1 _ _ (rfl : ai_sp 1 = (8, 0)) (by decide) (by decide)) (G.2 _ _ _ (rfl : ai_rf 1 3 = some 5)) ?_
    refine ev_alen (v := nI 200) 8 rfl d72_7 (by omega) (by decide) (G.1 _ _ (rfl : ai_sp 5 = (107, 200)) (by decide) (by decide)) rfl ?_
    refine ev_icmp_T 27 (by decide) (by decide) d72_8 ?_
    refine ev_aload_n 28 rfl d72_27 rfl ?_
    refine ev_cu0 31 rfl 100 d72_28 rfl rfl (by rw [G.1 _ _ (rfl : ai_sp 1 = (8, 0)) (by decide) (by decide)]; rfl) (by omega) rfl (x_makeTables G hXe (iv_rk0 hV)) (fun I_1 hr_28 => ?_)
    obtain ⟨hX2, hf2⟩ := hr_28
    refine ev_aload_n 32 rfl d72_31 rfl ?_
    refine ev_iconst (v := nI 0) 33 rfl d72_32 (by decide) ?_
    obtain ⟨I_2, hI_2⟩ : ∃ z, z = ai_ui I_1 1 11 (nI 0) := ⟨_, rfl⟩
    refine ev_puti (I2 := I_2) 36 rfl 8 11 d72_33 rfl (by omega) (G.1 _ _ (rfl : ai_sp 1 = (8, 0)) (by decide) (by decide)) (fun h => absurd h (by decide)) hI_2.symm ?_
    refine ev_iload_n 37 rfl d72_36 rfl ?_
    refine ev_if_F 44 40 (by decide) rfl (by decide) d72_37 ?_
    refine ev_iconst (v := nI 1) 41 rfl d72_40 (by decide) ?_
    refine ev_goto 45 (by decide) d72_41 ?_
    refine ev_store_in 46 rfl d72_45 (Nat.le_of_ble_eq_true rfl) rfl ?_
    show ai_Ev _ _ _ [some (.ref 1), some (.int (nI 0)), some (.int (nI 1)), none] _ _ _
    refine ev_iconst (v := nI 0) 47 rfl d72_46 (by decide) ?_
    refine ev_store_in 48 rfl d72_47 (Nat.le_of_ble_eq_true rfl) rfl ?_
    show ai_Ev _ _ _ [some (.ref 1), some (.int (nI 0)), some (.int (nI 1)), some (.int (nI 0))] _ _ _
    have hX9 : ai_RX σ.rk1 I_2 L := rx_st0 hX2 hI_2
    have hf9 : ∀ a, 572 ≤ a → I_2 a = I0 a := fun a ha => by rw [ui_row hI_2 (by omega), hf2 a (by omega)]; exact hf a ha
    refine (x_rk_loop G (I0 := I0) 30 σ.rk1 _ (iv_rk1 hV) rfl hX9 hf9).imp ?_
    rintro r h' ⟨v, I9, rfl, rfl, rfl, h8, h9⟩
    exact ⟨I9, L, rfl, rfl, h8, fun a ha => ⟨h9 a ha, rfl⟩⟩
  | succ z ih =>
    intro k I hz hX hf
    refine ev_iload_n 3 rfl d72_2 rfl ?_
    refine ev_aload_n 4 rfl d72_3 rfl ?_
    refine ev_getr 7 rfl 8 3 d72_4 rfl (by omega) (G.1 _ _ (rfl : ai_sp 1 = (8, 0)) (by decide) (by decide)) (G.2 _ _ _ (rfl : ai_rf 1 3 = some 5)) ?_
    refine ev_alen (v := nI 200) 8 rfl d72_7 (by omega) (by decide) (G.1 _ _ (rfl : ai_sp 5 = (107, 200)) (by decide) (by decide)) rfl ?_
    refine ev_icmp 27 11 (by decide) rfl (cn_ge (by omega) (by omega)) d72_8 (fun hc_8 => absurd hc_8 (by omega)) (fun hc_8 => ?_)
    refine ev_aload_n 12 rfl d72_11 rfl ?_
    refine ev_getr 15 rfl 8 3 d72_12 rfl (by omega) (G.1 _ _ (rfl : ai_sp 1 = (8, 0)) (by decide) (by decide)) (G.2 _ _ _ (rfl : ai_rf 1 3 = some 5)) ?_
    refine ev_iload_n 16 rfl d72_15 rfl ?_
    refine ev_aald_n 17 rfl d72_16 (by omega) (by decide) (G.1 _ _ (rfl : ai_sp 5 = (107, 200)) (by decide) (by decide)) (by omega) (by decide) (G.2 _ _ _ (rf_case (by omega))) ?_
    refine ev_iconst (v := (-1)) 18 rfl d72_17 (by decide) ?_
    obtain ⟨I_1, hI_1⟩ : ∃ z, z = ai_ui I (172 + 2 * k) 1 (-1) := ⟨_, rfl⟩
    refine ev_puti (I2 := I_1) 21 rfl 1 1 d72_18 rfl (by omega) (G.1 _ _ (sp_case (by omega)) (by omega) (by omega)) (fun h => absurd h (by decide)) hI_1.symm ?_
    refine ev_iinc (v := nI (k + 1)) 24 rfl d72_21 rfl (Nat.le_of_ble_eq_true rfl) (nI_add _ 1) rfl ?_
    show ai_Ev _ _ _ [some (.ref 1), some (.int (nI 0)), some (.int (nI (k + 1))), none] _ _ _
    refine ev_goto 2 (by decide) d72_24 ?_
    exact ih (k + 1) _ (by omega) (rx_ag0 hX (by omega) hI_1) (fun a ha => by rw [ui_row hI_1 (by omega)]; exact hf a ha)
theorem x_reckon0 (G : ai_G S F) (hX : ai_RX σ I L) (hV : ai_IV σ) : ai_Ev none 72 0 [some (.ref 1), some (.int (nI 0)), none, none] [] (S, I, L, F) (ai_PX S F I L (o_reckon σ 0)) := by
  refine ev_iconst (v := nI 0) 1 rfl d72_0 (by decide) ?_
  refine ev_store_in 2 rfl d72_1 (Nat.le_of_ble_eq_true rfl) rfl ?_
  show ai_Ev _ _ _ [some (.ref 1), some (.int (nI 0)), some (.int (nI 0)), none] _ _ _
  exact x_rk0 G hV 200 0 I (by omega) (rx_wag hX (fun _ _ _ => rfl) (fun c hc => by rw [if_neg (by omega)]; exact hX.ag c hc)) (fun _ _ => rfl)
theorem x_rk1 (G : ai_G S F) (hV : ai_IV σ) {I0 : Nat → Nat → Int32} : ∀ (z k : Nat) (I : Nat → Nat → Int32), k + z = 200 → ai_RX (σ.wAg (fun x => if x < k then 0 else σ.ag x)) I L → (∀ a, 572 ≤ a → I a = I0 a) → ai_Ev none 72 2 [some (.ref 1), some (.int (nI 1)), some (.int (nI k)), none] [] (S, I, L, F) (ai_PX S F I0 L (o_reckon σ 1)) := by
  have hnT := hV.nT
  have hnQ := hV.nQ
  have hnJ := hV.nJ
  intro z
  induction z with
  | zero =>
    intro k I hz hX hf
    have e9 : k = 200 := by omega
    subst e9
    have hXe : ai_RX σ.rk0 I L := by
      have h := rx_wag (A := fun _ => 0) hX (fun _ _ _ => rfl) (fun c hc => (hX.ag c hc).trans (by show nI (if c < 200 then 0 else σ.ag c) - 1 = _; rw [if_pos hc]))
      rw [wag_wag] at h
      exact h
    refine ev_iload_n 3 rfl d72_2 rfl ?_
    refine ev_aload_n 4 rfl d72_3 rfl ?_
    refine ev_getr 7 rfl 8 3 d72_4 rfl (by omega) (G.1 _ _ (rfl : ai_sp 1 = (8, 0)) (by decide) (by decide)) (G.2 _ _ _ (rfl : ai_rf 1 3 = some 5)) ?_
    refine ev_alen (v := nI 200) 8 rfl d72_7 (by omega) (by decide) (G.1 _ _ (rfl : ai_sp 5 = (107, 200)) (by decide) (by decide)) rfl ?_
    refine ev_icmp_T 27 (by decide) (by decide) d72_8 ?_
    refine ev_aload_n 28 rfl d72_27 rfl ?_
    refine ev_cu0 31 rfl 100 d72_28 rfl rfl (by rw [G.1 _ _ (rfl : ai_sp 1 = (8, 0)) (by decide) (by decide)]; rfl) (by omega) rfl (x_makeTables G hXe (iv_rk0 hV)) (fun I_1 hr_28 => ?_)
    obtain ⟨hX2, hf2⟩ := hr_28
    refine ev_aload_n 32 rfl d72_31 rfl ?_
    refine ev_iconst (v := nI 0) 33 rfl d72_32 (by decide) ?_
    obtain ⟨I_2, hI_2⟩ : ∃ z, z = ai_ui I_1 1 11 (nI 0) := ⟨_, rfl⟩
    refine ev_puti (I2 := I_2) 36 rfl 8 11 d72_33 rfl (by omega) (G.1 _ _ (rfl : ai_sp 1 = (8, 0)) (by decide) (by decide)) (fun h => absurd h (by decide)) hI_2.symm ?_
    refine ev_iload_n 37 rfl d72_36 rfl ?_
    refine ev_if_T 44 (by decide) (by decide) d72_37 ?_
    refine ev_iconst (v := nI 0) 45 rfl d72_44 (by decide) ?_
    refine ev_store_in 46 rfl d72_45 (Nat.le_of_ble_eq_true rfl) rfl ?_
    show ai_Ev _ _ _ [some (.ref 1), some (.int (nI 1)), some (.int (nI 0)), none] _ _ _
    refine ev_iconst (v := nI 0) 47 rfl d72_46 (by decide) ?_
    refine ev_store_in 48 rfl d72_47 (Nat.le_of_ble_eq_true rfl) rfl ?_
    show ai_Ev _ _ _ [some (.ref 1), some (.int (nI 1)), some (.int (nI 0)), some (.int (nI 0))] _ _ _
    have hX9 : ai_RX σ.rk1 I_2 L := rx_st0 hX2 hI_2
    have hf9 : ∀ a, 572 ≤ a → I_2 a = I0 a := fun a ha => by rw [ui_row hI_2 (by omega), hf2 a (by omega)]; exact hf a ha
    refine ev_iload_n 49 rfl d72_48 rfl ?_
    refine ev_bipush (v := nI 30) 51 rfl d72_49 (by decide) ?_
    refine ev_icmp_F 96 54 (by decide) rfl (by decide) d72_51 ?_
    refine ev_iload_n 55 rfl d72_54 rfl ?_
    refine ev_if_T 96 (by decide) (by decide) d72_55 ?_
    refine ev_aload_n 97 rfl d72_96 rfl ?_
    refine ev_geti (v := nI 0) 100 rfl 8 11 d72_97 rfl (by omega) (G.1 _ _ (rfl : ai_sp 1 = (8, 0)) (by decide) (by decide)) hX9.st ?_
    refine ev_iret (Or.inl rfl) d72_100 ?_
    exact ⟨_, _, rfl, rfl, hX9, fun a ha => ⟨hf9 a ha, rfl⟩⟩
  | succ z ih =>
    intro k I hz hX hf
    refine ev_iload_n 3 rfl d72_2 rfl ?_
    refine ev_aload_n 4 rfl d72_3 rfl ?_
    refine ev_getr 7 rfl 8 3 d72_4 rfl (by omega) (G.1 _ _ (rfl : ai_sp 1 = (8, 0)) (by decide) (by decide)) (G.2 _ _ _ (rfl : ai_rf 1 3 = some 5)) ?_
    refine ev_alen (v := nI 200) 8 rfl d72_7 (by omega) (by decide) (G.1 _ _ (rfl : ai_sp 5 = (107, 200)) (by decide) (by decide)) rfl ?_
    refine ev_icmp 27 11 (by decide) rfl (cn_ge (by omega) (by omega)) d72_8 (fun hc_8 => absurd hc_8 (by omega)) (fun hc_8 => ?_)
    refine ev_aload_n 12 rfl d72_11 rfl ?_
    refine ev_getr 15 rfl 8 3 d72_12 rfl (by omega) (G.1 _ _ (rfl : ai_sp 1 = (8, 0)) (by decide) (by decide)) (G.2 _ _ _ (rfl : ai_rf 1 3 = some 5)) ?_
    refine ev_iload_n 16 rfl d72_15 rfl ?_
    refine ev_aald_n 17 rfl d72_16 (by omega) (by decide) (G.1 _ _ (rfl : ai_sp 5 = (107, 200)) (by decide) (by decide)) (by omega) (by decide) (G.2 _ _ _ (rf_case (by omega))) ?_
    refine ev_iconst (v := (-1)) 18 rfl d72_17 (by decide) ?_
    obtain ⟨I_1, hI_1⟩ : ∃ z, z = ai_ui I (172 + 2 * k) 1 (-1) := ⟨_, rfl⟩
    refine ev_puti (I2 := I_1) 21 rfl 1 1 d72_18 rfl (by omega) (G.1 _ _ (sp_case (by omega)) (by omega) (by omega)) (fun h => absurd h (by decide)) hI_1.symm ?_
    refine ev_iinc (v := nI (k + 1)) 24 rfl d72_21 rfl (Nat.le_of_ble_eq_true rfl) (nI_add _ 1) rfl ?_
    show ai_Ev _ _ _ [some (.ref 1), some (.int (nI 1)), some (.int (nI (k + 1))), none] _ _ _
    refine ev_goto 2 (by decide) d72_24 ?_
    exact ih (k + 1) _ (by omega) (rx_ag0 hX (by omega) hI_1) (fun a ha => by rw [ui_row hI_1 (by omega)]; exact hf a ha)
theorem x_reckon1 (G : ai_G S F) (hX : ai_RX σ I L) (hV : ai_IV σ) : ai_Ev none 72 0 [some (.ref 1), some (.int (nI 1)), none, none] [] (S, I, L, F) (ai_PX S F I L (o_reckon σ 1)) := by
  refine ev_iconst (v := nI 0) 1 rfl d72_0 (by decide) ?_
  refine ev_store_in 2 rfl d72_1 (Nat.le_of_ble_eq_true rfl) rfl ?_
  show ai_Ev _ _ _ [some (.ref 1), some (.int (nI 1)), some (.int (nI 0)), none] _ _ _
  exact x_rk1 G hV 200 0 I (by omega) (rx_wag hX (fun _ _ _ => rfl) (fun c hc => by rw [if_neg (by omega)]; exact hX.ag c hc)) (fun _ _ => rfl)
end XSTEP
