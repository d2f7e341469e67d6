section MREN2
variable {S : List (Nat × Nat)} {F : Nat → Nat → Option Nat} {L : Nat → Nat → Int64} {I : Nat → Nat → Int32} {σ : ai_S}
theorem m_rn_c (G : ai_G S F) {I0 : Nat → Nat → Int32} (hR0 : ai_R0 σ I0 L) (hV : ai_IV σ) {j : Nat} (hj : j < σ.nJ) {Q : Option Value → ai_H → Prop} (hk : ∀ I, (∀ d c, d < j → c < 200 → I 588 (200 * d + c) = nI (ai_qb (σ.ctd d c))) → (∀ c, c < 200 → I 588 (200 * j + c) = nI (ai_qb (σ.ctd j c))) → ai_fN I0 I → (∀ d, d < σ.nJ → I 589 d = nI (σ.cop d) - 1) → I 572 20 = nI 0 → ai_Ev none 145 176 [some (.ref 572), some (.int (nI j)), some (.int (nI 200))] [] (S, I, L, F) Q) : ∀ (z k : Nat) (I : Nat → Nat → Int32), k + z = 200 → (∀ d c, d < j → c < 200 → I 588 (200 * d + c) = nI (ai_qb (σ.ctd d c))) → (∀ c, c < k → I 588 (200 * j + c) = nI (ai_qb (σ.ctd j c))) → ai_fN I0 I → (∀ d, d < σ.nJ → I 589 d = nI (σ.cop d) - 1) → I 572 20 = nI 0 → ai_Ev none 145 96 [some (.ref 572), some (.int (nI j)), some (.int (nI k))] [] (S, I, L, F) Q := by
  have hnT := hV.nT
  have hnQ := hV.nQ
  have hnJ := hV.nJ
  intro z
  induction z with
  | zero =>
    intro k I hz hct hcj hf hcp h20
    have e9 : k = 200 := by omega
    subst e9
    refine ev_iload_n 97 rfl d145_96 rfl ?_
    refine ev_sipush (v := nI 200) 100 rfl d145_97 (by decide) ?_
    refine ev_icmp_T 176 (by decide) (by decide) d145_100 ?_
    exact hk I hct hcj hf hcp h20
  | succ z ih =>
    intro k I hz hct hcj hf hcp h20
    have hR : ai_R0 σ I L := r0_fN hR0 hf
    refine ev_iload_n 97 rfl d145_96 rfl ?_
    refine ev_sipush (v := nI 200) 100 rfl d145_97 (by decide) ?_
    refine ev_icmp 176 103 (by decide) rfl (cn_ge (by omega) (by omega)) d145_100 (fun hc_100 => absurd hc_100 (by omega)) (fun hc_100 => ?_)
    refine ev_aload_n 104 rfl d145_103 rfl ?_
    refine ev_getr 107 rfl 9 18 d145_104 rfl (by omega) (G.1 _ _ (rfl : ai_sp 572 = (9, 0)) (by decide) (by decide)) (G.2 _ _ _ (rfl : ai_rf 572 18 = some 588)) ?_
    refine ev_sipush (v := nI 200) 110 rfl d145_107 (by decide) ?_
    refine ev_iload_n 111 rfl d145_110 rfl ?_
    refine ev_imul (v := nI (200 * j)) 112 rfl d145_111 (pk_mul _ _) ?_
    refine ev_iload_n 113 rfl d145_112 rfl ?_
    refine ev_iadd (v := nI ((200 * j) + k)) 114 rfl d145_113 (nI_add _ _) ?_
    refine ev_aload_n 115 rfl d145_114 rfl ?_
    refine ev_iload_n 116 rfl d145_115 rfl ?_
    refine ev_cb1 119 rfl 143 d145_116 rfl rfl (by rw [G.1 _ _ (rfl : ai_sp 572 = (9, 0)) (by decide) (by decide)]; rfl) (by omega) rfl (m_isThere G hR hV (by omega)) (fun hq_116 => ?_) (fun hq_116 => ?_)
    · refine ev_if_F 168 122 (by decide) rfl (by decide) d145_119 ?_
      have hql := qb_lt (σ.lf j)
      refine ev_aload_n 123 rfl d145_122 rfl ?_
      refine ev_getr 126 rfl 9 13 d145_123 rfl (by omega) (G.1 _ _ (rfl : ai_sp 572 = (9, 0)) (by decide) (by decide)) (G.2 _ _ _ (rfl : ai_rf 572 13 = some 583)) ?_
      refine ev_iload_n 127 rfl d145_126 rfl ?_
      refine ev_bald_n (v := nI (ai_qb (σ.lf j))) 128 rfl d145_127 (by omega) (by decide) (G.1 _ _ (rfl : ai_sp 583 = (102, 24)) (by decide) (by decide)) (by omega) (by decide) (hR.lf _ (by omega)) ?_
      refine ev_if 168 131 (by decide) rfl (c0_ne (by omega)) d145_128 (fun hc_128 => ?_) (fun hc_128 => ?_)
      · have hno : σ.ctd j k = false := nb_F (fun h9 => by
          have h8 := (hV.gv j k (by omega) (ctd_gv h9)).2.1
          rw [qb_1 hc_128] at h8; exact absurd h8 (by decide))
        refine ev_iconst (v := nI 0) 169 rfl d145_168 (by decide) ?_
        obtain ⟨I_1, hI_1⟩ : ∃ z, z = ai_ui I 588 ((200 * j) + k) (nI 0) := ⟨_, rfl⟩
        refine ev_zast_n (I2 := I_1) 170 rfl d145_169 (by omega) (G.1 _ _ (rfl : ai_sp 588 = (102, 4800)) (by decide) (by decide)) (by omega) (by decide) (by decide) hI_1.symm ?_
        refine ev_iinc (v := nI (k + 1)) 173 rfl d145_170 rfl (Nat.le_of_ble_eq_true rfl) (nI_add _ 1) rfl ?_
        show ai_Ev _ _ _ [some (.ref 572), some (.int (nI j)), some (.int (nI (k + 1)))] _ _ _
        refine ev_goto 96 (by decide) d145_173 ?_
        refine ih (k + 1) _ (by omega) (fun d c h1 h2 => by rw [ui_other hI_1 (by omega)]; exact hct d c h1 h2) (fun c hc => ?_) (fun a x h1 h2 h3 => by rw [ui_other hI_1 (by omega)]; exact hf a x h1 h2 h3) (by rw [ui_row hI_1 (by omega)]; exact hcp) (by rw [ui_row hI_1 (by omega)]; exact h20)
        by_cases e : c = k
        · subst e
          first
            | (rw [hye]; exact ui_same hI_1)
            | (rw [hno]; exact ui_same hI_1)
        · rw [ui_other hI_1 (by omega)]; exact hcj c (by omega)
      · have hlj : σ.lf j = false := nb_F (qb_0 (by omega))
        refine ev_aload_n 132 rfl d145_131 rfl ?_
        refine ev_iload_n 133 rfl d145_132 rfl ?_
        refine ev_iload_n 134 rfl d145_133 rfl ?_
        refine ev_cb2 137 rfl 142 d145_134 rfl rfl (by rw [G.1 _ _ (rfl : ai_sp 572 = (9, 0)) (by decide) (by decide)]; rfl) (by omega) rfl (m_isFair G hR hV (by omega) (by omega) hlj (by omega)) (fun hq_134 => ?_) (fun hq_134 => ?_)
        · refine ev_if_F 168 140 (by decide) rfl (by decide) d145_137 ?_
          have hcl := cop_le (σ := σ) j
          refine ev_aload_n 141 rfl d145_140 rfl ?_
          refine ev_getr 144 rfl 9 19 d145_141 rfl (by omega) (G.1 _ _ (rfl : ai_sp 572 = (9, 0)) (by decide) (by decide)) (G.2 _ _ _ (rfl : ai_rf 572 19 = some 589)) ?_
          refine ev_iload_n 145 rfl d145_144 rfl ?_
          refine ev_iald_n (v := nI (σ.cop j) - 1) 146 rfl d145_145 (by omega) (G.1 _ _ (rfl : ai_sp 589 = (100, 24)) (by decide) (by decide)) (by omega) (by decide) (hcp j (by omega)) ?_
          refine ev_iconst (v := (-1)) 147 rfl d145_146 (by decide) ?_
          refine ev_icmp 164 150 (by decide) rfl (cq_eq (by omega)) d145_147 (fun hc_147 => ?_) (fun hc_147 => ?_)
          · have hye : σ.ctd j k = true := ctd_iff.mpr ⟨by omega, Or.inl hc_147⟩
            refine ev_iconst (v := nI 1) 165 rfl d145_164 (by decide) ?_
            refine ev_goto 169 (by decide) d145_165 ?_
            obtain ⟨I_1, hI_1⟩ : ∃ z, z = ai_ui I 588 ((200 * j) + k) (nI 1) := ⟨_, rfl⟩
            refine ev_zast_n (I2 := I_1) 170 rfl d145_169 (by omega) (G.1 _ _ (rfl : ai_sp 588 = (102, 4800)) (by decide) (by decide)) (by omega) (by decide) (by decide) hI_1.symm ?_
            refine ev_iinc (v := nI (k + 1)) 173 rfl d145_170 rfl (Nat.le_of_ble_eq_true rfl) (nI_add _ 1) rfl ?_
            show ai_Ev _ _ _ [some (.ref 572), some (.int (nI j)), some (.int (nI (k + 1)))] _ _ _
            refine ev_goto 96 (by decide) d145_173 ?_
            refine ih (k + 1) _ (by omega) (fun d c h1 h2 => by rw [ui_other hI_1 (by omega)]; exact hct d c h1 h2) (fun c hc => ?_) (fun a x h1 h2 h3 => by rw [ui_other hI_1 (by omega)]; exact hf a x h1 h2 h3) (by rw [ui_row hI_1 (by omega)]; exact hcp) (by rw [ui_row hI_1 (by omega)]; exact h20)
            by_cases e : c = k
            · subst e
              first
                | (rw [hye]; exact ui_same hI_1)
                | (rw [hno]; exact ui_same hI_1)
            · rw [ui_other hI_1 (by omega)]; exact hcj c (by omega)
          · refine ev_aload_n 151 rfl d145_150 rfl ?_
            refine ev_aload_n 152 rfl d145_151 rfl ?_
            refine ev_getr 155 rfl 9 19 d145_152 rfl (by omega) (G.1 _ _ (rfl : ai_sp 572 = (9, 0)) (by decide) (by decide)) (G.2 _ _ _ (rfl : ai_rf 572 19 = some 589)) ?_
            refine ev_iload_n 156 rfl d145_155 rfl ?_
            refine ev_iald_n (v := nI (σ.cop j) - 1) 157 rfl d145_156 (by omega) (G.1 _ _ (rfl : ai_sp 589 = (100, 24)) (by decide) (by decide)) (by omega) (by decide) (hcp j (by omega)) ?_
            rw [nM_pos hc_147]
            refine ev_iload_n 158 rfl d145_157 rfl ?_
            refine ev_cb2 161 rfl 142 d145_158 rfl rfl (by rw [G.1 _ _ (rfl : ai_sp 572 = (9, 0)) (by decide) (by decide)]; rfl) (by omega) rfl (m_isFair G hR hV (j := σ.cop j - 1) (by omega) (by omega) (cop_lf hc_147) (by omega)) (fun hq_158 => ?_) (fun hq_158 => ?_)
            · have hno : σ.ctd j k = false := nb_F (fun h9 => by have h8 := (ctd_iff.mp h9).2; omega)
              refine ev_if_T 168 (by decide) (by decide) d145_161 ?_
              refine ev_iconst (v := nI 0) 169 rfl d145_168 (by decide) ?_
              obtain ⟨I_1, hI_1⟩ : ∃ z, z = ai_ui I 588 ((200 * j) + k) (nI 0) := ⟨_, rfl⟩
              refine ev_zast_n (I2 := I_1) 170 rfl d145_169 (by omega) (G.1 _ _ (rfl : ai_sp 588 = (102, 4800)) (by decide) (by decide)) (by omega) (by decide) (by decide) hI_1.symm ?_
              refine ev_iinc (v := nI (k + 1)) 173 rfl d145_170 rfl (Nat.le_of_ble_eq_true rfl) (nI_add _ 1) rfl ?_
              show ai_Ev _ _ _ [some (.ref 572), some (.int (nI j)), some (.int (nI (k + 1)))] _ _ _
              refine ev_goto 96 (by decide) d145_173 ?_
              refine ih (k + 1) _ (by omega) (fun d c h1 h2 => by rw [ui_other hI_1 (by omega)]; exact hct d c h1 h2) (fun c hc => ?_) (fun a x h1 h2 h3 => by rw [ui_other hI_1 (by omega)]; exact hf a x h1 h2 h3) (by rw [ui_row hI_1 (by omega)]; exact hcp) (by rw [ui_row hI_1 (by omega)]; exact h20)
              by_cases e : c = k
              · subst e
                first
                  | (rw [hye]; exact ui_same hI_1)
                  | (rw [hno]; exact ui_same hI_1)
              · rw [ui_other hI_1 (by omega)]; exact hcj c (by omega)
            · have hye : σ.ctd j k = true := ctd_iff.mpr ⟨by omega, Or.inr hq_158⟩
              refine ev_if_F 168 164 (by decide) rfl (by decide) d145_161 ?_
              refine ev_iconst (v := nI 1) 165 rfl d145_164 (by decide) ?_
              refine ev_goto 169 (by decide) d145_165 ?_
              obtain ⟨I_1, hI_1⟩ : ∃ z, z = ai_ui I 588 ((200 * j) + k) (nI 1) := ⟨_, rfl⟩
              refine ev_zast_n (I2 := I_1) 170 rfl d145_169 (by omega) (G.1 _ _ (rfl : ai_sp 588 = (102, 4800)) (by decide) (by decide)) (by omega) (by decide) (by decide) hI_1.symm ?_
              refine ev_iinc (v := nI (k + 1)) 173 rfl d145_170 rfl (Nat.le_of_ble_eq_true rfl) (nI_add _ 1) rfl ?_
              show ai_Ev _ _ _ [some (.ref 572), some (.int (nI j)), some (.int (nI (k + 1)))] _ _ _
              refine ev_goto 96 (by decide) d145_173 ?_
              refine ih (k + 1) _ (by omega) (fun d c h1 h2 => by rw [ui_other hI_1 (by omega)]; exact hct d c h1 h2) (fun c hc => ?_) (fun a x h1 h2 h3 => by rw [ui_other hI_1 (by omega)]; exact hf a x h1 h2 h3) (by rw [ui_row hI_1 (by omega)]; exact hcp) (by rw [ui_row hI_1 (by omega)]; exact h20)
              by_cases e : c = k
              · subst e
                first
                  | (rw [hye]; exact ui_same hI_1)
                  | (rw [hno]; exact ui_same hI_1)
              · rw [ui_other hI_1 (by omega)]; exact hcj c (by omega)
        · have hno : σ.ctd j k = false := nb_F (fun h9 => hq_134 (ctd_iff.mp h9).1)
          refine ev_if_T 168 (by decide) (by decide) d145_137 ?_
          refine ev_iconst (v := nI 0) 169 rfl d145_168 (by decide) ?_
          obtain ⟨I_1, hI_1⟩ : ∃ z, z = ai_ui I 588 ((200 * j) + k) (nI 0) := ⟨_, rfl⟩
          refine ev_zast_n (I2 := I_1) 170 rfl d145_169 (by omega) (G.1 _ _ (rfl : ai_sp 588 = (102, 4800)) (by decide) (by decide)) (by omega) (by decide) (by decide) hI_1.symm ?_
          refine ev_iinc (v := nI (k + 1)) 173 rfl d145_170 rfl (Nat.le_of_ble_eq_true rfl) (nI_add _ 1) rfl ?_
          show ai_Ev _ _ _ [some (.ref 572), some (.int (nI j)), some (.int (nI (k + 1)))] _ _ _
          refine ev_goto 96 (by decide) d145_173 ?_
          refine ih (k + 1) _ (by omega) (fun d c h1 h2 => by rw [ui_other hI_1 (by omega)]; exact hct d c h1 h2) (fun c hc => ?_) (fun a x h1 h2 h3 => by rw [ui_other hI_1 (by omega)]; exact hf a x h1 h2 h3) (by rw [ui_row hI_1 (by omega)]; exact hcp) (by rw [ui_row hI_1 (by omega)]; exact h20)
          by_cases e : c = k
          · subst e
            first
              | (rw [hye]; exact ui_same hI_1)
              | (rw [hno]; exact ui_same hI_1)
          · rw [ui_other hI_1 (by omega)]; exact hcj c (by omega)
    · have hno : σ.ctd j k = false := nb_F (fun h9 => hq_116 (kd_there hV (by omega) (ctd_iff.mp h9).1))
      refine ev_if_T 168 (by decide) (by decide) d145_119 ?_
      refine ev_iconst (v := nI 0) 169 rfl d145_168 (by decide) ?_
      obtain ⟨I_1, hI_1⟩ : ∃ z, z = ai_ui I 588 ((200 * j) + k) (nI 0) := ⟨_, rfl⟩
      refine ev_zast_n (I2 := I_1) 170 rfl d145_169 (by omega) (G.1 _ _ (rfl : ai_sp 588 = (102, 4800)) (by decide) (by decide)) (by omega) (by decide) (by decide) hI_1.symm ?_
      refine ev_iinc (v := nI (k + 1)) 173 rfl d145_170 rfl (Nat.le_of_ble_eq_true rfl) (nI_add _ 1) rfl ?_
      show ai_Ev _ _ _ [some (.ref 572), some (.int (nI j)), some (.int (nI (k + 1)))] _ _ _
      refine ev_goto 96 (by decide) d145_173 ?_
      refine ih (k + 1) _ (by omega) (fun d c h1 h2 => by rw [ui_other hI_1 (by omega)]; exact hct d c h1 h2) (fun c hc => ?_) (fun a x h1 h2 h3 => by rw [ui_other hI_1 (by omega)]; exact hf a x h1 h2 h3) (by rw [ui_row hI_1 (by omega)]; exact hcp) (by rw [ui_row hI_1 (by omega)]; exact h20)
      by_cases e : c = k
      · subst e
        first
          | (rw [hye]; exact ui_same hI_1)
          | (rw [hno]; exact ui_same hI_1)
      · rw [ui_other hI_1 (by omega)]; exact hcj c (by omega)
theorem fN_fN {I I2 I3 : Nat → Nat → Int32} (h : ai_fN I I2) (h2 : ai_fN I2 I3) : ai_fN I I3 := fun a k h3 h4 h5 => (h2 a k h3 h4 h5).trans (h a k h3 h4 h5)
theorem m_rn_j (G : ai_G S F) {I0 : Nat → Nat → Int32} (hR0 : ai_R0 σ I0 L) (hV : ai_IV σ) : ∀ (z j : Nat) (I : Nat → Nat → Int32) (u2 : Option Value), j + z = σ.nJ → (∀ d c, d < j → c < 200 → I 588 (200 * d + c) = nI (ai_qb (σ.ctd d c))) → ai_fN I0 I → (∀ d, d < σ.nJ → I 589 d = nI (σ.cop d) - 1) → I 572 20 = nI 0 → ai_Ev none 145 86 [some (.ref 572), some (.int (nI j)), u2] [] (S, I, L, F) (ai_Pu S F L (fun I2 => ai_RC σ I2 ∧ I2 572 20 = nI 0 ∧ ai_fN I0 I2)) := by
  have hnT := hV.nT
  have hnQ := hV.nQ
  have hnJ := hV.nJ
  intro z
  induction z with
  | zero =>
    intro j I u2 hz hct hf hcp h20
    have e9 : j = σ.nJ := by omega
    subst e9
    have hR : ai_R0 σ I L := r0_fN hR0 hf
    refine ev_iload_n 87 rfl d145_86 rfl ?_
    refine ev_aload_n 88 rfl d145_87 rfl ?_
    refine ev_geti (v := nI σ.nJ) 91 rfl 9 7 d145_88 rfl (by omega) (G.1 _ _ (rfl : ai_sp 572 = (9, 0)) (by decide) (by decide)) hR.nJ ?_
    refine ev_icmp 182 94 (by decide) rfl (cn_ge (by omega) (by omega)) d145_91 (fun hc_91 => ?_) (fun hc_91 => absurd hc_91 (by omega))
    refine ev_vret rfl d145_182 ?_
    exact ⟨rfl, _, rfl, fun d hd => ⟨hcp d hd, fun c hc => hct d c hd hc⟩, h20, hf⟩
  | succ z ih =>
    intro j I u2 hz hct hf hcp h20
    have hR : ai_R0 σ I L := r0_fN hR0 hf
    refine ev_iload_n 87 rfl d145_86 rfl ?_
    refine ev_aload_n 88 rfl d145_87 rfl ?_
    refine ev_geti (v := nI σ.nJ) 91 rfl 9 7 d145_88 rfl (by omega) (G.1 _ _ (rfl : ai_sp 572 = (9, 0)) (by decide) (by decide)) hR.nJ ?_
    refine ev_icmp 182 94 (by decide) rfl (cn_ge (by omega) (by omega)) d145_91 (fun hc_91 => absurd hc_91 (by omega)) (fun hc_91 => ?_)
    refine ev_iconst (v := nI 0) 95 rfl d145_94 (by decide) ?_
    refine ev_store_in 96 rfl d145_95 (Nat.le_of_ble_eq_true rfl) rfl ?_
    show ai_Ev _ _ _ [some (.ref 572), some (.int (nI j)), some (.int (nI 0))] _ _ _
    refine m_rn_c G hR0 hV (by omega) ?_ 200 0 I (by omega) hct (fun c hc => absurd hc (by omega)) hf hcp h20
    intro I9 h9c h9j h9f h9p h920
    refine ev_iinc (v := nI (j + 1)) 179 rfl d145_176 rfl (Nat.le_of_ble_eq_true rfl) (nI_add _ 1) rfl ?_
    show ai_Ev _ _ _ [some (.ref 572), some (.int (nI (j + 1))), some (.int (nI 200))] _ _ _
    refine ev_goto 86 (by decide) d145_179 ?_
    exact ih (j + 1) I9 (some (.int (nI 200))) (by omega) (fun d c h1 h2 => by
      by_cases e : d = j
      · subst e; exact h9j c h2
      · exact h9c d c (by omega) h2) h9f h9p h920
theorem m_renew (G : ai_G S F) (hM : ai_RM σ I L) (hV : ai_IV σ) : ai_Ev none 145 0 [some (.ref 572), none, none] [] (S, I, L, F) (ai_Pu S F L (fun I2 => ai_RM σ I2 L ∧ ai_RC σ I2 ∧ ai_fN I I2)) := by
  have hnT := hV.nT
  have hnQ := hV.nQ
  have hnJ := hV.nJ
  rcases hM.old with h9 | ⟨h9, h8⟩
  · skip
    refine ev_aload_n 1 rfl d145_0 rfl ?_
    refine ev_geti (v := nI 1) 4 rfl 9 20 d145_1 rfl (by omega) (G.1 _ _ (rfl : ai_sp 572 = (9, 0)) (by decide) (by decide)) h9 ?_
    refine ev_if_T 8 (by decide) (by decide) d145_4 ?_
    refine ev_aload_n 9 rfl d145_8 rfl ?_
    refine ev_iconst (v := nI 0) 10 rfl d145_9 (by decide) ?_
    obtain ⟨I_1, hI_1⟩ : ∃ z, z = ai_ui I 572 20 (nI 0) := ⟨_, rfl⟩
    refine ev_puti (I2 := I_1) 13 rfl 9 20 d145_10 rfl (by omega) (G.1 _ _ (rfl : ai_sp 572 = (9, 0)) (by decide) (by decide)) (fun _ => Or.inl (by decide)) hI_1.symm ?_
    refine ev_iconst (v := nI 0) 14 rfl d145_13 (by decide) ?_
    refine ev_store_in 15 rfl d145_14 (Nat.le_of_ble_eq_true rfl) rfl ?_
    show ai_Ev _ _ _ [some (.ref 572), some (.int (nI 0)), none] _ _ _
    have hR0 := r0_of hM
    have hf1 : ai_fN I I_1 := fun a k h1 h2 h3 => ui_other hI_1 (by omega)
    refine m_rn_y G hR0 hV ?_ σ.nJ 0 I_1 none (by omega) (fun d hd => absurd hd (by omega)) hf1 (ui_same hI_1)
    intro I9 w2 h9c h9f h920
    refine ev_iconst (v := nI 0) 85 rfl d145_84 (by decide) ?_
    refine ev_store_in 86 rfl d145_85 (Nat.le_of_ble_eq_true rfl) rfl ?_
    show ai_Ev _ _ _ [some (.ref 572), some (.int (nI 0)), w2] _ _ _
    refine (m_rn_j G hR0 hV σ.nJ 0 I9 _ (by omega) (fun d c h1 => absurd h1 (by omega)) h9f h9c (h920)).imp ?_
    rintro r h' ⟨h1, I8, rfl, h82, h83, h84⟩
    exact ⟨h1, I8, rfl, rm_of (r0_fN (r0_of hM) h84) (Or.inr ⟨h83, h82⟩), h82, h84⟩
  · skip
    refine ev_aload_n 1 rfl d145_0 rfl ?_
    refine ev_geti (v := nI 0) 4 rfl 9 20 d145_1 rfl (by omega) (G.1 _ _ (rfl : ai_sp 572 = (9, 0)) (by decide) (by decide)) h9 ?_
    refine ev_if_F 8 7 (by decide) rfl (by decide) d145_4 ?_
    refine ev_vret rfl d145_7 ?_
    exact ⟨rfl, _, rfl, hM, h8, fun _ _ _ _ _ => rfl⟩
theorem m_countOf_loop (G : ai_G S F) (hM : ai_RM σ I L) (hC : ai_RC σ I) (hV : ai_IV σ) {c : Nat} (hc : c < 200) : ∀ (z k : Nat), k + z = σ.nJ → ai_Ev none 146 4 [some (.ref 572), some (.int (nI c)), some (.int (nI (ai_qn (fun j => σ.ctd j c) k))), some (.int (nI k))] [] (S, I, L, F) (ai_Pp S F I L (.int (nI (σ.look c)))) := by
  have hnT := hV.nT
  have hnQ := hV.nQ
  have hnJ := hV.nJ
  intro z
  induction z with
  | zero =>
    intro k hz
    have e9 : k = σ.nJ := by omega
    subst e9
    refine ev_iload_n 5 rfl d146_4 rfl ?_
    refine ev_aload_n 6 rfl d146_5 rfl ?_
    refine ev_geti (v := nI σ.nJ) 9 rfl 9 7 d146_6 rfl (by omega) (G.1 _ _ (rfl : ai_sp 572 = (9, 0)) (by decide) (by decide)) hM.nJ ?_
    refine ev_icmp 41 12 (by decide) rfl (cn_ge (by omega) (by omega)) d146_9 (fun hc_9 => ?_) (fun hc_9 => absurd hc_9 (by omega))
    refine ev_iload_n 42 rfl d146_41 rfl ?_
    refine ev_iret (Or.inl rfl) d146_42 ?_
    exact ⟨rfl, rfl⟩
  | succ z ih =>
    intro k hz
    refine ev_iload_n 5 rfl d146_4 rfl ?_
    refine ev_aload_n 6 rfl d146_5 rfl ?_
    refine ev_geti (v := nI σ.nJ) 9 rfl 9 7 d146_6 rfl (by omega) (G.1 _ _ (rfl : ai_sp 572 = (9, 0)) (by decide) (by decide)) hM.nJ ?_
    refine ev_icmp 41 12 (by decide) rfl (cn_ge (by omega) (by omega)) d146_9 (fun hc_9 => absurd hc_9 (by omega)) (fun hc_9 => ?_)
    have hqb := qb_lt (σ.ctd k c)
    refine ev_iload_n 13 rfl d146_12 rfl ?_
    refine ev_aload_n 14 rfl d146_13 rfl ?_
    refine ev_getr 17 rfl 9 18 d146_14 rfl (by omega) (G.1 _ _ (rfl : ai_sp 572 = (9, 0)) (by decide) (by decide)) (G.2 _ _ _ (rfl : ai_rf 572 18 = some 588)) ?_
    refine ev_sipush (v := nI 200) 20 rfl d146_17 (by decide) ?_
    refine ev_iload_n 21 rfl d146_20 rfl ?_
    refine ev_imul (v := nI (200 * k)) 22 rfl d146_21 (pk_mul _ _) ?_
    refine ev_iload_n 23 rfl d146_22 rfl ?_
    refine ev_iadd (v := nI ((200 * k) + c)) 24 rfl d146_23 (nI_add _ _) ?_
    refine ev_bald_n (v := nI (ai_qb (σ.ctd k c))) 25 rfl d146_24 (by omega) (by decide) (G.1 _ _ (rfl : ai_sp 588 = (102, 4800)) (by decide) (by decide)) (by omega) (by decide) (rm_ct hC (j := k) (c := c) (by omega) (by omega) (by omega)) ?_
    refine ev_if 32 28 (by decide) rfl (c0_eq (by omega)) d146_25 (fun hc_25 => ?_) (fun hc_25 => ?_)
    · refine ev_iconst (v := nI 0) 33 rfl d146_32 (by decide) ?_
      refine ev_iadd (v := nI ((ai_qn (fun j => σ.ctd j c) k) + 0)) 34 rfl d146_33 (nI_add _ _) ?_
      refine ev_store_in 35 rfl d146_34 (Nat.le_of_ble_eq_true rfl) rfl ?_
      show ai_Ev _ _ _ [some (.ref 572), some (.int (nI c)), some (.int (nI ((ai_qn (fun j => σ.ctd j c) k) + 0))), some (.int (nI k))] _ _ _
      refine ev_iinc (v := nI (k + 1)) 38 rfl d146_35 rfl (Nat.le_of_ble_eq_true rfl) (nI_add _ 1) rfl ?_
      show ai_Ev _ _ _ [some (.ref 572), some (.int (nI c)), some (.int (nI ((ai_qn (fun j => σ.ctd j c) k) + 0))), some (.int (nI (k + 1)))] _ _ _
      refine ev_goto 4 (by decide) d146_38 ?_
      have e8 : ai_qn (fun j => σ.ctd j c) (k + 1) = (ai_qn (fun j => σ.ctd j c) k) + 0 := qn_F (p := fun j => σ.ctd j c) (qb_0 hc_25)
      have h9 := ih (k + 1) (by omega)
      rw [e8] at h9
      exact h9
    · refine ev_iconst (v := nI 1) 29 rfl d146_28 (by decide) ?_
      refine ev_goto 33 (by decide) d146_29 ?_
      refine ev_iadd (v := nI ((ai_qn (fun j => σ.ctd j c) k) + 1)) 34 rfl d146_33 (nI_add _ _) ?_
      refine ev_store_in 35 rfl d146_34 (Nat.le_of_ble_eq_true rfl) rfl ?_
      show ai_Ev _ _ _ [some (.ref 572), some (.int (nI c)), some (.int (nI ((ai_qn (fun j => σ.ctd j c) k) + 1))), some (.int (nI k))] _ _ _
      refine ev_iinc (v := nI (k + 1)) 38 rfl d146_35 rfl (Nat.le_of_ble_eq_true rfl) (nI_add _ 1) rfl ?_
      show ai_Ev _ _ _ [some (.ref 572), some (.int (nI c)), some (.int (nI ((ai_qn (fun j => σ.ctd j c) k) + 1))), some (.int (nI (k + 1)))] _ _ _
      refine ev_goto 4 (by decide) d146_38 ?_
      have e8 : ai_qn (fun j => σ.ctd j c) (k + 1) = (ai_qn (fun j => σ.ctd j c) k) + 1 := qn_T (p := fun j => σ.ctd j c) (qb_1 hc_25)
      have h9 := ih (k + 1) (by omega)
      rw [e8] at h9
      exact h9
theorem m_countOf (G : ai_G S F) (hM : ai_RM σ I L) (hC : ai_RC σ I) (hV : ai_IV σ) {c : Nat} (hc : c < 200) : ai_Ev none 146 0 [some (.ref 572), some (.int (nI c)), none, none] [] (S, I, L, F) (ai_Pp S F I L (.int (nI (σ.look c)))) := by
  refine ev_iconst (v := nI 0) 1 rfl d146_0 (by decide) ?_
  refine ev_store_in 2 rfl d146_1 (Nat.le_of_ble_eq_true rfl) rfl ?_
  show ai_Ev _ _ _ [some (.ref 572), some (.int (nI c)), some (.int (nI 0)), none] _ _ _
  refine ev_iconst (v := nI 0) 3 rfl d146_2 (by decide) ?_
  refine ev_store_in 4 rfl d146_3 (Nat.le_of_ble_eq_true rfl) rfl ?_
  show ai_Ev _ _ _ [some (.ref 572), some (.int (nI c)), some (.int (nI 0)), some (.int (nI 0))] _ _ _
  exact m_countOf_loop G hM hC hV hc σ.nJ 0 (by omega)
theorem pm_scr (hM : ai_RM σ I L) {v : Int32} {I0 : Nat → Nat → Int32} (hf : ∀ a, a < 572 → I a = I0 a) : ai_PM S F I0 L (σ, v) (some (.int v)) (S, I, L, F) := ⟨I, L, rfl, rfl, hM, fun a ha => ⟨hf a ha, rfl⟩⟩
theorem fN_lo {I I2 : Nat → Nat → Int32} (h : ai_fN I I2) : ∀ a, a < 572 → I2 a = I a := fun a ha => by funext k; exact h a k (by omega) (by omega) (by omega)
theorem m_looks (G : ai_G S F) (hM : ai_RM σ I L) (hV : ai_IV σ) {z1 : Int32} {z2 : Int32} : ai_Ev none 171 0 [some (.ref 572), some (.int z1), some (.int z2)] [] (S, I, L, F) (ai_PM S F I L (o_looks σ z1 z2)) := by
  have hnT := hV.nT
  have hnQ := hV.nQ
  have hnJ := hV.nJ
  unfold o_looks
  refine ev_aload_n 1 rfl d171_0 rfl ?_
  refine ev_iload_n 2 rfl d171_1 rfl ?_
  refine ev_iload_n 3 rfl d171_2 rfl ?_
  refine ev_cb2 6 rfl 129 d171_3 rfl rfl (by rw [G.1 _ _ (rfl : ai_sp 572 = (9, 0)) (by decide) (by decide)]; rfl) (by omega) rfl (m_isCase G hM hV) (fun hq_3 => ?_) (fun hq_3 => ?_)
  · try rw [c_T hq_3]
    obtain ⟨t, q, ht, hq, rfl, rfl⟩ := hq_3
    refine ev_if_T 11 (by decide) (by decide) d171_6 ?_
    simp only [nn_I (show t < 2147483648 by omega)]
    simp only [nn_I (show q < 2147483648 by omega)]
    refine ev_aload_n 12 rfl d171_11 rfl ?_
    refine ev_cu0 15 rfl 145 d171_12 rfl rfl (by rw [G.1 _ _ (rfl : ai_sp 572 = (9, 0)) (by decide) (by decide)]; rfl) (by omega) rfl (m_renew G hM hV) (fun I_1 hr_12 => ?_)
    obtain ⟨hM2, hC2, hfn⟩ := hr_12
    refine ev_aload_n 16 rfl d171_15 rfl ?_
    refine ev_iconst (v := nI 5) 17 rfl d171_16 (by decide) ?_
    refine ev_iload_n 18 rfl d171_17 rfl ?_
    refine ev_imul (v := nI (5 * t)) 19 rfl d171_18 (pk_mul _ _) ?_
    refine ev_iload_n 20 rfl d171_19 rfl ?_
    refine ev_iadd (v := nI ((5 * t) + q)) 21 rfl d171_20 (nI_add _ _) ?_
    refine ev_cp1 24 rfl 146 d171_21 rfl rfl (by rw [G.1 _ _ (rfl : ai_sp 572 = (9, 0)) (by decide) (by decide)]; rfl) (by omega) rfl (m_countOf G hM2 hC2 hV (by omega)) ?_
    refine ev_iret (Or.inl rfl) d171_24 ?_
    exact pm_scr hM2 (fN_lo hfn)
  · try rw [c_F hq_3]
    refine ev_if_F 11 9 (by decide) rfl (by decide) d171_6 ?_
    refine ev_iconst (v := (-1)) 10 rfl d171_9 (by decide) ?_
    refine ev_iret (Or.inl rfl) d171_10 ?_
    exact pm_same hM
theorem m_copied (G : ai_G S F) (hM : ai_RM σ I L) (hV : ai_IV σ) {z1 : Int32} : ai_Ev none 173 0 [some (.ref 572), some (.int z1)] [] (S, I, L, F) (ai_PM S F I L (o_copied σ z1)) := by
  have hnT := hV.nT
  have hnQ := hV.nQ
  have hnJ := hV.nJ
  unfold o_copied
  refine ev_aload_n 1 rfl d173_0 rfl ?_
  refine ev_iload_n 2 rfl d173_1 rfl ?_
  refine ev_cb1 5 rfl 128 d173_2 rfl rfl (by rw [G.1 _ _ (rfl : ai_sp 572 = (9, 0)) (by decide) (by decide)]; rfl) (by omega) rfl (m_isJ G hM hV) (fun hq_2 => ?_) (fun hq_2 => ?_)
  · try rw [c_T hq_2]
    obtain ⟨j, hj, hjl, rfl⟩ := hq_2
    refine ev_if_T 10 (by decide) (by decide) d173_5 ?_
    simp only [nn_I (show j < 2147483648 by omega)]
    refine ev_aload_n 11 rfl d173_10 rfl ?_
    refine ev_cu0 14 rfl 145 d173_11 rfl rfl (by rw [G.1 _ _ (rfl : ai_sp 572 = (9, 0)) (by decide) (by decide)]; rfl) (by omega) rfl (m_renew G hM hV) (fun I_1 hr_11 => ?_)
    obtain ⟨hM2, hC2, hfn⟩ := hr_11
    refine ev_aload_n 15 rfl d173_14 rfl ?_
    refine ev_getr 18 rfl 9 19 d173_15 rfl (by omega) (G.1 _ _ (rfl : ai_sp 572 = (9, 0)) (by decide) (by decide)) (G.2 _ _ _ (rfl : ai_rf 572 19 = some 589)) ?_
    refine ev_iload_n 19 rfl d173_18 rfl ?_
    refine ev_iald_n (v := nI (σ.cop j) - 1) 20 rfl d173_19 (by omega) (G.1 _ _ (rfl : ai_sp 589 = (100, 24)) (by decide) (by decide)) (by omega) (by decide) (hC2 _ (by omega)).1 ?_
    refine ev_iret (Or.inl rfl) d173_20 ?_
    exact pm_scr hM2 (fN_lo hfn)
  · try rw [c_F hq_2]
    refine ev_if_F 10 8 (by decide) rfl (by decide) d173_5 ?_
    refine ev_iconst (v := (-1)) 9 rfl d173_8 (by decide) ?_
    refine ev_iret (Or.inl rfl) d173_9 ?_
    exact pm_same hM
theorem ctd_kd {j c : Nat} (h : σ.ctd j c = true) : σ.kd j c = 1 := (ctd_iff.mp h).1
theorem m_how (G : ai_G S F) (hM : ai_RM σ I L) (hV : ai_IV σ) {z1 : Int32} {z2 : Int32} {z3 : Int32} : ai_Ev none 172 0 [some (.ref 572), some (.int z1), some (.int z2), some (.int z3), none] [] (S, I, L, F) (ai_PM S F I L (o_how σ z1 z2 z3)) := by
  have hnT := hV.nT
  have hnQ := hV.nQ
  have hnJ := hV.nJ
  unfold o_how
  refine ev_aload_n 1 rfl d172_0 rfl ?_
  refine ev_iload_n 2 rfl d172_1 rfl ?_
  refine ev_cb1 5 rfl 128 d172_2 rfl rfl (by rw [G.1 _ _ (rfl : ai_sp 572 = (9, 0)) (by decide) (by decide)]; rfl) (by omega) rfl (m_isJ G hM hV) (fun hq_2 => ?_) (fun hq_2 => ?_)
  · try rw [c_T hq_2]
    obtain ⟨j, hj, hjl, rfl⟩ := hq_2
    refine ev_if_F 37 8 (by decide) rfl (by decide) d172_5 ?_
    simp only [nn_I (show j < 2147483648 by omega)]
    refine ev_aload_n 9 rfl d172_8 rfl ?_
    refine ev_iload_n 10 rfl d172_9 rfl ?_
    refine ev_iload_n 11 rfl d172_10 rfl ?_
    refine ev_cb2 14 rfl 129 d172_11 rfl rfl (by rw [G.1 _ _ (rfl : ai_sp 572 = (9, 0)) (by decide) (by decide)]; rfl) (by omega) rfl (m_isCase G hM hV) (fun hq_11 => ?_) (fun hq_11 => ?_)
    · try rw [c_T hq_11]
      obtain ⟨t, q, ht, hq, rfl, rfl⟩ := hq_11
      refine ev_if_F 37 17 (by decide) rfl (by decide) d172_14 ?_
      simp only [nn_I (show t < 2147483648 by omega)]
      simp only [nn_I (show q < 2147483648 by omega)]
      have hsy := sy_le (σ := σ) (j := j) (c := 5 * t + q)
      have hkl := kind_le hV (j := j) (c := 5 * t + q) (by omega)
      refine ev_aload_n 18 rfl d172_17 rfl ?_
      refine ev_getr 21 rfl 9 16 d172_18 rfl (by omega) (G.1 _ _ (rfl : ai_sp 572 = (9, 0)) (by decide) (by decide)) (G.2 _ _ _ (rfl : ai_rf 572 16 = some 586)) ?_
      refine ev_sipush (v := nI 200) 24 rfl d172_21 (by decide) ?_
      refine ev_iload_n 25 rfl d172_24 rfl ?_
      refine ev_imul (v := nI (200 * j)) 26 rfl d172_25 (pk_mul _ _) ?_
      refine ev_iconst (v := nI 5) 27 rfl d172_26 (by decide) ?_
      refine ev_iload_n 28 rfl d172_27 rfl ?_
      refine ev_imul (v := nI (5 * t)) 29 rfl d172_28 (pk_mul _ _) ?_
      refine ev_iadd (v := nI ((200 * j) + (5 * t))) 30 rfl d172_29 (nI_add _ _) ?_
      refine ev_iload_n 31 rfl d172_30 rfl ?_
      refine ev_iadd (v := nI (((200 * j) + (5 * t)) + q)) 32 rfl d172_31 (nI_add _ _) ?_
      refine ev_iald_n (v := nI (σ.sy j (5 * t + q)) - 1) 33 rfl d172_32 (by omega) (G.1 _ _ (rfl : ai_sp 586 = (100, 4800)) (by decide) (by decide)) (by omega) (by decide) (rm_gv hM (j := j) (c := 5 * t + q) (by omega) (by omega) (by omega) hjl (by omega)) ?_
      refine ev_iconst (v := (-1)) 34 rfl d172_33 (by decide) ?_
      refine ev_icmp 39 37 (by decide) rfl (cq_ne (by omega)) d172_34 (fun hc_34 => ?_) (fun hc_34 => ?_)
      · have hg : σ.gv j (5 * t + q) ≠ 0 := fun h => hc_34 (sy_0.mpr h)
        have hkk := kd_kind hg
        try rw [c_T hc_34]
        refine ev_aload_n 40 rfl d172_39 rfl ?_
        refine ev_cu0 43 rfl 145 d172_40 rfl rfl (by rw [G.1 _ _ (rfl : ai_sp 572 = (9, 0)) (by decide) (by decide)]; rfl) (by omega) rfl (m_renew G hM hV) (fun I_1 hr_40 => ?_)
        obtain ⟨hM2, hC2, hfn⟩ := hr_40
        refine ev_sipush (v := nI 200) 46 rfl d172_43 (by decide) ?_
        refine ev_iload_n 47 rfl d172_46 rfl ?_
        refine ev_imul (v := nI (200 * j)) 48 rfl d172_47 (pk_mul _ _) ?_
        refine ev_iconst (v := nI 5) 49 rfl d172_48 (by decide) ?_
        refine ev_iload_n 50 rfl d172_49 rfl ?_
        refine ev_imul (v := nI (5 * t)) 51 rfl d172_50 (pk_mul _ _) ?_
        refine ev_iadd (v := nI ((200 * j) + (5 * t))) 52 rfl d172_51 (nI_add _ _) ?_
        refine ev_iload_n 53 rfl d172_52 rfl ?_
        refine ev_iadd (v := nI (((200 * j) + (5 * t)) + q)) 54 rfl d172_53 (nI_add _ _) ?_
        refine ev_store_i 56 rfl d172_54 ⟨rfl, Nat.le_of_ble_eq_true rfl⟩ rfl ?_
        show ai_Ev _ _ _ [some (.ref 572), some (.int (nI j)), some (.int (nI t)), some (.int (nI q)), some (.int (nI (((200 * j) + (5 * t)) + q)))] _ _ _
        
        refine ev_aload_n 57 rfl d172_56 rfl ?_
        refine ev_getr 60 rfl 9 17 d172_57 rfl (by omega) (G.1 _ _ (rfl : ai_sp 572 = (9, 0)) (by decide) (by decide)) (G.2 _ _ _ (rfl : ai_rf 572 17 = some 587)) ?_
        refine ev_iload 62 rfl d172_60 rfl ?_
        refine ev_iald_n (v := nI (σ.kind j (5 * t + q))) 63 rfl d172_62 (by omega) (G.1 _ _ (rfl : ai_sp 587 = (100, 4800)) (by decide) (by decide)) (by omega) (by decide) (rm_mn hM2 (j := j) (c := 5 * t + q) (by omega) (by omega) (by omega) hjl (by omega) (by assumption)) ?_
        refine ev_if 76 66 (by decide) rfl (c0_eq (by omega)) d172_63 (fun hc_63 => ?_) (fun hc_63 => ?_)
        · have hk0 : σ.kd j (5 * t + q) = 1 := by omega
          try rw [c_T hc_63]
          refine ev_aload_n 77 rfl d172_76 rfl ?_
          refine ev_getr 80 rfl 9 18 d172_77 rfl (by omega) (G.1 _ _ (rfl : ai_sp 572 = (9, 0)) (by decide) (by decide)) (G.2 _ _ _ (rfl : ai_rf 572 18 = some 588)) ?_
          have hqb := qb_lt (σ.ctd j (5 * t + q))
          refine ev_iload 82 rfl d172_80 rfl ?_
          refine ev_bald_n (v := nI (ai_qb (σ.ctd j (5 * t + q)))) 83 rfl d172_82 (by omega) (by decide) (G.1 _ _ (rfl : ai_sp 588 = (102, 4800)) (by decide) (by decide)) (by omega) (by decide) (rm_ct hC2 (j := j) (c := 5 * t + q) (by omega) (by omega) (by omega)) ?_
          refine ev_if 90 86 (by decide) rfl (c0_eq (by omega)) d172_83 (fun hc_83 => ?_) (fun hc_83 => ?_)
          · rw [c_T ⟨hk0, qb_0 hc_83⟩]
            try rw [c_T hc_83]
            refine ev_iconst (v := nI 3) 91 rfl d172_90 (by decide) ?_
            refine ev_iret (Or.inl rfl) d172_91 ?_
            exact pm_scr hM2 (fN_lo hfn)
          · rw [c_F (fun h9 => h9.2 (qb_1 hc_83)), hk0]
            try rw [c_F hc_83]
            refine ev_iconst (v := nI 0) 87 rfl d172_86 (by decide) ?_
            refine ev_goto 91 (by decide) d172_87 ?_
            refine ev_iret (Or.inl rfl) d172_91 ?_
            exact pm_scr hM2 (fN_lo hfn)
        · rw [c_F (fun h9 => by have := h9.1; omega), hkk, nM_succ]
          try rw [c_F hc_63]
          refine ev_aload_n 67 rfl d172_66 rfl ?_
          refine ev_getr 70 rfl 9 17 d172_67 rfl (by omega) (G.1 _ _ (rfl : ai_sp 572 = (9, 0)) (by decide) (by decide)) (G.2 _ _ _ (rfl : ai_rf 572 17 = some 587)) ?_
          refine ev_iload 72 rfl d172_70 rfl ?_
          refine ev_iald_n (v := nI (σ.kind j (5 * t + q))) 73 rfl d172_72 (by omega) (G.1 _ _ (rfl : ai_sp 587 = (100, 4800)) (by decide) (by decide)) (by omega) (by decide) (rm_mn hM2 (j := j) (c := 5 * t + q) (by omega) (by omega) (by omega) hjl (by omega) (by assumption)) ?_
          refine ev_goto 91 (by decide) d172_73 ?_
          refine ev_iret (Or.inl rfl) d172_91 ?_
          exact pm_scr hM2 (fN_lo hfn)
      · have hg0 : σ.kd j (5 * t + q) = 0 := kd_0 (sy_0.mp (by omega))
        rw [c_F (fun h9 => by have := h9.1; omega), hg0]
        try rw [c_F hc_34]
        refine ev_iconst (v := (-1)) 38 rfl d172_37 (by decide) ?_
        refine ev_iret (Or.inl rfl) d172_38 ?_
        exact pm_same hM
    · try rw [c_F hq_11]
      refine ev_if_T 37 (by decide) (by decide) d172_14 ?_
      refine ev_iconst (v := (-1)) 38 rfl d172_37 (by decide) ?_
      refine ev_iret (Or.inl rfl) d172_38 ?_
      exact pm_same hM
  · try rw [c_F hq_2]
    refine ev_if_T 37 (by decide) (by decide) d172_5 ?_
    refine ev_iconst (v := (-1)) 38 rfl d172_37 (by decide) ?_
    refine ev_iret (Or.inl rfl) d172_38 ?_
    exact pm_same hM
theorem m_cin_loop (G : ai_G S F) (hM : ai_RM σ I L) (hC : ai_RC σ I) {s j : Nat} (hs : s < 8) (hj : j < σ.nJ) (hj24 : j < 24) (hdj : σ.hd s = j + 1) : ∀ (z k : Nat), k + z = 200 → ai_Ev none 147 56 [some (.ref 572), some (.int (nI s)), some (.int (nI (ai_qn (fun c => σ.ctd j c) k))), some (.int (nI k))] [] (S, I, L, F) (ai_Pp S F I L (.int (nI (σ.cnts j)))) := by
  intro z
  induction z with
  | zero =>
    intro k hz
    have e9 : k = 200 := by omega
    subst e9
    refine ev_iload_n 57 rfl d147_56 rfl ?_
    refine ev_sipush (v := nI 200) 60 rfl d147_57 (by decide) ?_
    refine ev_icmp_T 97 (by decide) (by decide) d147_60 ?_
    refine ev_iload_n 98 rfl d147_97 rfl ?_
    refine ev_iret (Or.inl rfl) d147_98 ?_
    exact ⟨rfl, rfl⟩
  | succ z ih =>
    intro k hz
    refine ev_iload_n 57 rfl d147_56 rfl ?_
    refine ev_sipush (v := nI 200) 60 rfl d147_57 (by decide) ?_
    refine ev_icmp 97 63 (by decide) rfl (cn_ge (by omega) (by omega)) d147_60 (fun hc_60 => absurd hc_60 (by omega)) (fun hc_60 => ?_)
    refine ev_iload_n 64 rfl d147_63 rfl ?_
    refine ev_aload_n 65 rfl d147_64 rfl ?_
    refine ev_getr 68 rfl 9 18 d147_65 rfl (by omega) (G.1 _ _ (rfl : ai_sp 572 = (9, 0)) (by decide) (by decide)) (G.2 _ _ _ (rfl : ai_rf 572 18 = some 588)) ?_
    refine ev_sipush (v := nI 200) 71 rfl d147_68 (by decide) ?_
    refine ev_aload_n 72 rfl d147_71 rfl ?_
    refine ev_getr 75 rfl 9 1 d147_72 rfl (by omega) (G.1 _ _ (rfl : ai_sp 572 = (9, 0)) (by decide) (by decide)) (G.2 _ _ _ (rfl : ai_rf 572 1 = some 574)) ?_
    refine ev_iload_n 76 rfl d147_75 rfl ?_
    refine ev_iald_n (v := nI j) 77 rfl d147_76 (by omega) (G.1 _ _ (rfl : ai_sp 574 = (100, 8)) (by decide) (by decide)) (by omega) (by decide) ((hM.hd s (by omega)).trans (by rw [hdj, nM_succ])) ?_
    refine ev_imul (v := nI (200 * j)) 78 rfl d147_77 (pk_mul _ _) ?_
    refine ev_iload_n 79 rfl d147_78 rfl ?_
    refine ev_iadd (v := nI ((200 * j) + k)) 80 rfl d147_79 (nI_add _ _) ?_
    refine ev_bald_n (v := nI (ai_qb (σ.ctd j k))) 81 rfl d147_80 (by omega) (by decide) (G.1 _ _ (rfl : ai_sp 588 = (102, 4800)) (by decide) (by decide)) (by omega) (by decide) ((hC j hj).2 k (by omega)) ?_
    have hqb := qb_lt (σ.ctd j k)
    refine ev_if 88 84 (by decide) rfl (c0_eq (by omega)) d147_81 (fun hc_81 => ?_) (fun hc_81 => ?_)
    · refine ev_iconst (v := nI 0) 89 rfl d147_88 (by decide) ?_
      refine ev_iadd (v := nI ((ai_qn (fun c => σ.ctd j c) k) + 0)) 90 rfl d147_89 (nI_add _ _) ?_
      refine ev_store_in 91 rfl d147_90 (Nat.le_of_ble_eq_true rfl) rfl ?_
      show ai_Ev _ _ _ [some (.ref 572), some (.int (nI s)), some (.int (nI ((ai_qn (fun c => σ.ctd j c) k) + 0))), some (.int (nI k))] _ _ _
      refine ev_iinc (v := nI (k + 1)) 94 rfl d147_91 rfl (Nat.le_of_ble_eq_true rfl) (nI_add _ 1) rfl ?_
      show ai_Ev _ _ _ [some (.ref 572), some (.int (nI s)), some (.int (nI ((ai_qn (fun c => σ.ctd j c) k) + 0))), some (.int (nI (k + 1)))] _ _ _
      refine ev_goto 56 (by decide) d147_94 ?_
      have e8 : ai_qn (fun c => σ.ctd j c) (k + 1) = (ai_qn (fun c => σ.ctd j c) k) + 0 := qn_F (p := fun c => σ.ctd j c) (qb_0 hc_81)
      have h9 := ih (k + 1) (by omega)
      rw [e8] at h9
      exact h9
    · refine ev_iconst (v := nI 1) 85 rfl d147_84 (by decide) ?_
      refine ev_goto 89 (by decide) d147_85 ?_
      refine ev_iadd (v := nI ((ai_qn (fun c => σ.ctd j c) k) + 1)) 90 rfl d147_89 (nI_add _ _) ?_
      refine ev_store_in 91 rfl d147_90 (Nat.le_of_ble_eq_true rfl) rfl ?_
      show ai_Ev _ _ _ [some (.ref 572), some (.int (nI s)), some (.int (nI ((ai_qn (fun c => σ.ctd j c) k) + 1))), some (.int (nI k))] _ _ _
      refine ev_iinc (v := nI (k + 1)) 94 rfl d147_91 rfl (Nat.le_of_ble_eq_true rfl) (nI_add _ 1) rfl ?_
      show ai_Ev _ _ _ [some (.ref 572), some (.int (nI s)), some (.int (nI ((ai_qn (fun c => σ.ctd j c) k) + 1))), some (.int (nI (k + 1)))] _ _ _
      refine ev_goto 56 (by decide) d147_94 ?_
      have e8 : ai_qn (fun c => σ.ctd j c) (k + 1) = (ai_qn (fun c => σ.ctd j c) k) + 1 := qn_T (p := fun c => σ.ctd j c) (qb_1 hc_81)
      have h9 := ih (k + 1) (by omega)
      rw [e8] at h9
      exact h9
theorem m_countsIn (G : ai_G S F) (hM : ai_RM σ I L) (hV : ai_IV σ) {z1 : Int32} : ai_Ev none 147 0 [some (.ref 572), some (.int z1), none, none] [] (S, I, L, F) (ai_PM S F I L (o_countsIn σ z1)) := by
  have hnT := hV.nT
  have hnQ := hV.nQ
  have hnJ := hV.nJ
  unfold o_countsIn
  refine ev_aload_n 1 rfl d147_0 rfl ?_
  refine ev_iload_n 2 rfl d147_1 rfl ?_
  refine ev_cb1 5 rfl 116 d147_2 rfl rfl (by rw [G.1 _ _ (rfl : ai_sp 572 = (9, 0)) (by decide) (by decide)]; rfl) (by omega) rfl (m_isShelf G) (fun hq_2 => ?_) (fun hq_2 => ?_)
  · try rw [c_T hq_2]
    obtain ⟨s, hs, rfl⟩ := hq_2
    refine ev_if_T 14 (by decide) (by decide) d147_5 ?_
    simp only [nn_I (show s < 2147483648 by omega)]
    have hhd := hV.hd s hs
    refine ev_aload_n 15 rfl d147_14 rfl ?_
    refine ev_getr 18 rfl 9 1 d147_15 rfl (by omega) (G.1 _ _ (rfl : ai_sp 572 = (9, 0)) (by decide) (by decide)) (G.2 _ _ _ (rfl : ai_rf 572 1 = some 574)) ?_
    refine ev_iload_n 19 rfl d147_18 rfl ?_
    refine ev_iald_n (v := nI (σ.hd s) - 1) 20 rfl d147_19 (by omega) (G.1 _ _ (rfl : ai_sp 574 = (100, 8)) (by decide) (by decide)) (by omega) (by decide) (hM.hd _ (by omega)) ?_
    refine ev_bipush (v := nI 100) 22 rfl d147_20 (by decide) ?_
    refine ev_icmp 32 25 (by decide) rfl (cmn_lt (by omega) (by omega)) d147_22 (fun hc_22 => ?_) (fun hc_22 => ?_)
    · rw [c_F (show ¬ 100 < σ.hd s by omega)]
      try rw [c_T hc_22]
      refine ev_aload_n 33 rfl d147_32 rfl ?_
      refine ev_getr 36 rfl 9 1 d147_33 rfl (by omega) (G.1 _ _ (rfl : ai_sp 572 = (9, 0)) (by decide) (by decide)) (G.2 _ _ _ (rfl : ai_rf 572 1 = some 574)) ?_
      refine ev_iload_n 37 rfl d147_36 rfl ?_
      refine ev_iald_n (v := nI (σ.hd s) - 1) 38 rfl d147_37 (by omega) (G.1 _ _ (rfl : ai_sp 574 = (100, 8)) (by decide) (by decide)) (by omega) (by decide) (hM.hd _ (by omega)) ?_
      refine ev_if 48 41 (by decide) rfl (cq0_ge (by omega)) d147_38 (fun hc_38 => ?_) (fun hc_38 => ?_)
      · rw [c_T (show 0 < σ.hd s ∧ σ.hd s ≤ 100 by omega)]
        try rw [c_T hc_38]
        refine ev_aload_n 49 rfl d147_48 rfl ?_
        refine ev_cu0 52 rfl 145 d147_49 rfl rfl (by rw [G.1 _ _ (rfl : ai_sp 572 = (9, 0)) (by decide) (by decide)]; rfl) (by omega) rfl (m_renew G hM hV) (fun I_1 hr_49 => ?_)
        obtain ⟨hM2, hC2, hfn⟩ := hr_49
        refine ev_iconst (v := nI 0) 53 rfl d147_52 (by decide) ?_
        refine ev_store_in 54 rfl d147_53 (Nat.le_of_ble_eq_true rfl) rfl ?_
        show ai_Ev _ _ _ [some (.ref 572), some (.int (nI s)), some (.int (nI 0)), none] _ _ _
        refine ev_iconst (v := nI 0) 55 rfl d147_54 (by decide) ?_
        refine ev_store_in 56 rfl d147_55 (Nat.le_of_ble_eq_true rfl) rfl ?_
        show ai_Ev _ _ _ [some (.ref 572), some (.int (nI s)), some (.int (nI 0)), some (.int (nI 0))] _ _ _
        refine (m_cin_loop G hM2 hC2 (s := s) (j := σ.hd s - 1) (by omega) (by omega) (by omega) (by omega) 200 0 (by omega)).imp ?_
        rintro r h' ⟨rfl, rfl⟩
        exact pm_scr hM2 (fN_lo hfn)
      · rw [c_F (show ¬ (0 < σ.hd s ∧ σ.hd s ≤ 100) by omega)]
        try rw [c_F hc_38]
        refine ev_aload_n 42 rfl d147_41 rfl ?_
        refine ev_bipush (v := (-3)) 44 rfl d147_42 (by decide) ?_
        refine ev_cy1 47 rfl 115 d147_44 rfl rfl (by rw [G.1 _ _ (rfl : ai_sp 572 = (9, 0)) (by decide) (by decide)]; rfl) (by omega) rfl (show ai_Ev none 115 0 [some (.ref 572), some (.int (-3))] [] (S, I, L, F) _ from by rw [show ((-3) : Int32) = -(nI 3) by decide]; exact m_refuse (I := I) (L := L) (S := S) (F := F) G (k := 3) (by omega)) (fun v_2 I_1 hr_44 => ?_)
        refine ev_iret (Or.inl rfl) d147_47 ?_
        exact pm_ref hM (by omega) hr_44
    · rw [c_T (show 100 < σ.hd s by omega)]
      try rw [c_F hc_22]
      refine ev_aload_n 26 rfl d147_25 rfl ?_
      refine ev_bipush (v := (-2)) 28 rfl d147_26 (by decide) ?_
      refine ev_cy1 31 rfl 115 d147_28 rfl rfl (by rw [G.1 _ _ (rfl : ai_sp 572 = (9, 0)) (by decide) (by decide)]; rfl) (by omega) rfl (show ai_Ev none 115 0 [some (.ref 572), some (.int (-2))] [] (S, I, L, F) _ from by rw [show ((-2) : Int32) = -(nI 2) by decide]; exact m_refuse (I := I) (L := L) (S := S) (F := F) G (k := 2) (by omega)) (fun v_2 I_1 hr_28 => ?_)
      refine ev_iret (Or.inl rfl) d147_31 ?_
      exact pm_ref hM (by omega) hr_28
  · try rw [c_F hq_2]
    refine ev_if_F 14 8 (by decide) rfl (by decide) d147_5 ?_
    refine ev_aload_n 9 rfl d147_8 rfl ?_
    refine ev_iconst (v := (-1)) 10 rfl d147_9 (by decide) ?_
    refine ev_cy1 13 rfl 115 d147_10 rfl rfl (by rw [G.1 _ _ (rfl : ai_sp 572 = (9, 0)) (by decide) (by decide)]; rfl) (by omega) rfl (show ai_Ev none 115 0 [some (.ref 572), some (.int (-1))] [] (S, I, L, F) _ from by rw [show ((-1) : Int32) = -(nI 1) by decide]; exact m_refuse (I := I) (L := L) (S := S) (F := F) G (k := 1) (by omega)) (fun v_2 I_1 hr_10 => ?_)
    refine ev_iret (Or.inl rfl) d147_13 ?_
    exact pm_ref hM (by omega) hr_10
end MREN2
