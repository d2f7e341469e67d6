section MNXT
variable {S : List (Nat × Nat)} {F : Nat → Nat → Option Nat} {L : Nat → Nat → Int64} {I : Nat → Nat → Int32} {σ : ai_S}
def ai_GM (σ : ai_S) (I : Nat → Nat → Int32) (j m : Nat) : Prop := σ.nxt j m ≠ 0 → ai_MG I 11 (σ.gnA j (σ.nxt j m - 1)) ∧ ai_MG I 12 (σ.gnB j (σ.nxt j m - 1))
theorem JA_fW {I I2 : Nat → Nat → Int32} {m : Nat} (h : ai_JA σ I m) (f : ai_fW I I2) : ai_JA σ I2 m := fun c h1 h2 h3 => by
  rw [f _ (by omega) (by omega), f _ (by omega) (by omega), f _ (by omega) (by omega)]; exact h c h1 h2 h3
theorem b800 {x : Nat} (h : x ≤ 38416 * (4 * 65536 ^ 24)) : x < 65536 ^ 40 := Nat.lt_of_le_of_lt h (by decide)
theorem cand_iff {j c : Nat} : σ.cand j c = true ↔ (c / 5 < σ.nT ∧ c % 5 < σ.nQ) ∧ σ.isOpen c = true ∧ σ.ended c = false ∧ σ.gv j c = 0 := by
  unfold ai_S.cand ai_S.there
  rw [Bool.and_eq_true, Bool.and_eq_true, Bool.and_eq_true, decide_eq_true_eq, decide_eq_true_eq, Bool.not_eq_true']
theorem m_next_loop (G : ai_G S F) (hV : ai_IV σ) {I0 : Nat → Nat → Int32} {j : Nat} (hj : j < σ.nJ) (hl : σ.lf j = false) : ∀ (z c : Nat) (I : Nat → Nat → Int32), c + z = 200 → ai_RM σ I L → ai_RC σ I → ai_JA σ I 200 → ai_GM σ I j c → (∀ a, a < 572 → I a = I0 a) → ai_Ev none 176 22 [some (.ref 572), some (.int (nI j)), some (.int (nI (σ.nxt j c) - 1)), some (.int (nI c))] [] (S, I, L, F) (ai_Py S F L (fun v I2 => v = ai_S.nv (σ.nxt j 200) ∧ ai_RM σ I2 L ∧ ∀ a, a < 572 → I2 a = I0 a)) := by
  have hnT := hV.nT
  have hnQ := hV.nQ
  have hnJ := hV.nJ
  intro z
  induction z with
  | zero =>
    intro c I hz hM hC hJA hGM hf
    have e9 : c = 200 := by omega
    subst e9
    have hnx := nxt_lt (σ := σ) (j := j) 200
    refine ev_iload_n 23 rfl d176_22 rfl ?_
    refine ev_sipush (v := nI 200) 26 rfl d176_23 (by decide) ?_
    refine ev_icmp_T 143 (by decide) (by decide) d176_26 ?_
    refine ev_iload_n 144 rfl d176_143 rfl ?_
    refine ev_iconst (v := (-1)) 145 rfl d176_144 (by decide) ?_
    refine ev_icmp 152 148 (by decide) rfl (cq_ne (by omega)) d176_145 (fun hc_145 => ?_) (fun hc_145 => ?_)
    · rw [nM_pos hc_145]
      refine ev_bipush (v := nI 10) 154 rfl d176_152 (by decide) ?_
      refine ev_iload_n 155 rfl d176_154 rfl ?_
      refine ev_iconst (v := nI 5) 156 rfl d176_155 (by decide) ?_
      refine ev_idiv (v := nI ((σ.nxt j 200 - 1) / 5)) 157 rfl d176_156 (nI_ne0 (by omega) (by omega)) (pk_div (by omega) (by omega) (by omega)) ?_
      refine ev_imul (v := nI (10 * ((σ.nxt j 200 - 1) / 5))) 158 rfl d176_157 (pk_mul _ _) ?_
      refine ev_iload_n 159 rfl d176_158 rfl ?_
      refine ev_iconst (v := nI 5) 160 rfl d176_159 (by decide) ?_
      refine ev_irem (v := nI ((σ.nxt j 200 - 1) % 5)) 161 rfl d176_160 (nI_ne0 (by omega) (by omega)) (pk_rem (by omega) (by omega) (by omega)) ?_
      refine ev_iadd (v := nI ((10 * ((σ.nxt j 200 - 1) / 5)) + ((σ.nxt j 200 - 1) % 5))) 162 rfl d176_161 (nI_add _ _) ?_
      refine ev_iret (Or.inl rfl) d176_162 ?_
      exact ⟨_, _, rfl, rfl, by unfold ai_S.nv; rw [if_neg hc_145], hM, hf⟩
    · refine ev_iconst (v := (-1)) 149 rfl d176_148 (by decide) ?_
      refine ev_goto 162 (by decide) d176_149 ?_
      refine ev_iret (Or.inl rfl) d176_162 ?_
      exact ⟨_, _, rfl, rfl, by unfold ai_S.nv; rw [if_pos (by omega)], hM, hf⟩
  | succ z ih =>
    intro c I hz hM hC hJA hGM hf
    have hnx := nxt_lt (σ := σ) (j := j) c
    refine ev_iload_n 23 rfl d176_22 rfl ?_
    refine ev_sipush (v := nI 200) 26 rfl d176_23 (by decide) ?_
    refine ev_icmp 143 29 (by decide) rfl (cn_ge (by omega) (by omega)) d176_26 (fun hc_26 => absurd hc_26 (by omega)) (fun hc_26 => ?_)
    refine ev_aload_n 30 rfl d176_29 rfl ?_
    refine ev_iload_n 31 rfl d176_30 rfl ?_
    refine ev_cb1 34 rfl 143 d176_31 rfl rfl (by rw [G.1 _ _ (rfl : ai_sp 572 = (9, 0)) (by decide) (by decide)]; rfl) (by omega) rfl (m_isThere G (r0_of hM) hV (by omega)) (fun hq_31 => ?_) (fun hq_31 => ?_)
    · have hj9 := hJA c (by omega) (by omega) (by omega)
      have hq1 := qb_lt (σ.isOpen c)
      have hq2 := qb_lt (σ.ended c)
      have hsy := sy_le (σ := σ) (j := j) (c := c)
      refine ev_if_F 137 37 (by decide) rfl (by decide) d176_34 ?_
      refine ev_aload_n 38 rfl d176_37 rfl ?_
      refine ev_getr 41 rfl 9 32 d176_38 rfl (by omega) (G.1 _ _ (rfl : ai_sp 572 = (9, 0)) (by decide) (by decide)) (G.2 _ _ _ (rfl : ai_rf 572 32 = some 597)) ?_
      refine ev_iload_n 42 rfl d176_41 rfl ?_
      refine ev_bald_n (v := nI (ai_qb (σ.isOpen c))) 43 rfl d176_42 (by omega) (by decide) (G.1 _ _ (rfl : ai_sp 597 = (102, 200)) (by decide) (by decide)) (by omega) (by decide) hj9.2.2 ?_
      refine ev_if 137 46 (by decide) rfl (c0_eq (by omega)) d176_43 (fun hc_43 => ?_) (fun hc_43 => ?_)
      · have hno : ¬ σ.cand j c = true := fun h9 => by
          have h8 := cand_iff.mp h9
          exact qb_0 hc_43 h8.2.1
        refine ev_iinc (v := nI (c + 1)) 140 rfl d176_137 rfl (Nat.le_of_ble_eq_true rfl) (nI_add _ 1) rfl ?_
        show ai_Ev _ _ _ [some (.ref 572), some (.int (nI j)), some (.int (nI (σ.nxt j c) - 1)), some (.int (nI (c + 1)))] _ _ _
        refine ev_goto 22 (by decide) d176_140 ?_
        have e8 : σ.nxt j (c + 1) = σ.nxt j c := nxt_no hno
        have h9 := ih (c + 1) I (by omega) hM hC hJA (fun h => by rw [e8] at h ⊢; exact hGM h) hf
        rw [e8] at h9
        exact h9
      · refine ev_aload_n 47 rfl d176_46 rfl ?_
        refine ev_getr 50 rfl 9 31 d176_47 rfl (by omega) (G.1 _ _ (rfl : ai_sp 572 = (9, 0)) (by decide) (by decide)) (G.2 _ _ _ (rfl : ai_rf 572 31 = some 596)) ?_
        refine ev_iload_n 51 rfl d176_50 rfl ?_
        refine ev_bald_n (v := nI (ai_qb (σ.ended c))) 52 rfl d176_51 (by omega) (by decide) (G.1 _ _ (rfl : ai_sp 596 = (102, 200)) (by decide) (by decide)) (by omega) (by decide) hj9.2.1 ?_
        refine ev_if 137 55 (by decide) rfl (c0_ne (by omega)) d176_52 (fun hc_52 => ?_) (fun hc_52 => ?_)
        · have hno : ¬ σ.cand j c = true := fun h9 => by
            have h8 := cand_iff.mp h9
            have h7 := qb_1 hc_52
            rw [h8.2.2.1] at h7; exact absurd h7 (by decide)
          refine ev_iinc (v := nI (c + 1)) 140 rfl d176_137 rfl (Nat.le_of_ble_eq_true rfl) (nI_add _ 1) rfl ?_
          show ai_Ev _ _ _ [some (.ref 572), some (.int (nI j)), some (.int (nI (σ.nxt j c) - 1)), some (.int (nI (c + 1)))] _ _ _
          refine ev_goto 22 (by decide) d176_140 ?_
          have e8 : σ.nxt j (c + 1) = σ.nxt j c := nxt_no hno
          have h9 := ih (c + 1) I (by omega) hM hC hJA (fun h => by rw [e8] at h ⊢; exact hGM h) hf
          rw [e8] at h9
          exact h9
        · refine ev_aload_n 56 rfl d176_55 rfl ?_
          refine ev_getr 59 rfl 9 16 d176_56 rfl (by omega) (G.1 _ _ (rfl : ai_sp 572 = (9, 0)) (by decide) (by decide)) (G.2 _ _ _ (rfl : ai_rf 572 16 = some 586)) ?_
          refine ev_sipush (v := nI 200) 62 rfl d176_59 (by decide) ?_
          refine ev_iload_n 63 rfl d176_62 rfl ?_
          refine ev_imul (v := nI (200 * j)) 64 rfl d176_63 (pk_mul _ _) ?_
          refine ev_iload_n 65 rfl d176_64 rfl ?_
          refine ev_iadd (v := nI ((200 * j) + c)) 66 rfl d176_65 (nI_add _ _) ?_
          refine ev_iald_n (v := nI (σ.sy j c) - 1) 67 rfl d176_66 (by omega) (G.1 _ _ (rfl : ai_sp 586 = (100, 4800)) (by decide) (by decide)) (by omega) (by decide) (rm_gv hM (j := j) (c := c) (by omega) (by omega) (by omega) hl (by omega)) ?_
          refine ev_iconst (v := (-1)) 68 rfl d176_67 (by decide) ?_
          refine ev_icmp 74 71 (by decide) rfl (cq_eq (by omega)) d176_68 (fun hc_68 => ?_) (fun hc_68 => ?_)
          · refine ev_aload_n 75 rfl d176_74 rfl ?_
            refine ev_iload_n 76 rfl d176_75 rfl ?_
            refine ev_iload_n 77 rfl d176_76 rfl ?_
            refine ev_cu2 80 rfl 174 d176_77 rfl rfl (by rw [G.1 _ _ (rfl : ai_sp 572 = (9, 0)) (by decide) (by decide)]; rfl) (by omega) rfl (m_findGain G hM hC hV (c := c) (q := c % 5) (j := j) (by omega) rfl (by omega) (by omega)) (fun I_1 hr_77 => ?_)
            obtain ⟨hg7, hg8, hfw, hkp⟩ := hr_77
            have hye : σ.cand j c = true := cand_iff.mpr ⟨by omega, qb_1 hc_43, nb_F (qb_0 (by omega)), sy_0.mp (by omega)⟩
            refine ev_iload_n 81 rfl d176_80 rfl ?_
            refine ev_iconst (v := (-1)) 82 rfl d176_81 (by decide) ?_
            refine ev_icmp 119 85 (by decide) rfl (cq_eq (by omega)) d176_82 (fun hc_82 => ?_) (fun hc_82 => ?_)
            · 
              refine ev_iload_n 120 rfl d176_119 rfl ?_
              refine ev_store_in 121 rfl d176_120 (Nat.le_of_ble_eq_true rfl) rfl ?_
              show ai_Ev _ _ _ [some (.ref 572), some (.int (nI j)), some (.int (nI c)), some (.int (nI c))] _ _ _
              refine ev_aload_n 122 rfl d176_121 rfl ?_
              refine ev_bipush (v := nI 7) 124 rfl d176_122 (by decide) ?_
              refine ev_bipush (v := nI 11) 126 rfl d176_124 (by decide) ?_
              refine ev_cu2 129 rfl 149 d176_126 rfl rfl (by rw [G.1 _ _ (rfl : ai_sp 572 = (9, 0)) (by decide) (by decide)]; rfl) (by omega) rfl (m_copy G (x := 7) (y := 11) (by omega) (by omega) (by omega) hg7) (fun I_2 hr_126 => ?_)
              obtain ⟨hga, hfa⟩ := hr_126
              refine ev_aload_n 130 rfl d176_129 rfl ?_
              refine ev_bipush (v := nI 8) 132 rfl d176_130 (by decide) ?_
              refine ev_bipush (v := nI 12) 134 rfl d176_132 (by decide) ?_
              refine ev_cu2 137 rfl 149 d176_134 rfl rfl (by rw [G.1 _ _ (rfl : ai_sp 572 = (9, 0)) (by decide) (by decide)]; rfl) (by omega) rfl (m_copy G (x := 8) (y := 12) (by omega) (by omega) (by omega) (hfa.keep (by omega) hg8)) (fun I_3 hr_134 => ?_)
              obtain ⟨hgb, hfb⟩ := hr_134
              refine ev_iinc (v := nI (c + 1)) 140 rfl d176_137 rfl (Nat.le_of_ble_eq_true rfl) (nI_add _ 1) rfl ?_
              show ai_Ev _ _ _ [some (.ref 572), some (.int (nI j)), some (.int (nI c)), some (.int (nI (c + 1)))] _ _ _
              refine ev_goto 22 (by decide) d176_140 ?_
              have hch := fW_tr hfw (fW_tr (mf_W hfa) (mf_W hfb))
              have e8 : σ.nxt j (c + 1) = c + 1 := nxt_first hye (by omega)
              have h9 := ih (c + 1) _ (by omega) (rm_fW hM hch) (rc_fW hC hch) (JA_fW hJA hch) (fun _ => by rw [e8]; exact ⟨hfb.keep (by omega) hga, hgb⟩) (fun a ha => (hch a (by omega) (by omega)).trans (hf a ha))
              rw [e8, nM_succ] at h9
              exact h9
            · have hb5 : σ.nxt j c - 1 < 200 ∧ (σ.nxt j c - 1) % 5 < σ.nQ := by
                have h1 := nxt_lt (σ := σ) (j := j) c
                have h2 := cand_iff.mp (nxt_cand (σ := σ) (j := j) c hc_82)
                exact ⟨by omega, h2.1.2⟩
              have hg9 := hGM hc_82
              have hg11 := hkp 11 _ (by omega) hg9.1
              have hg12 := hkp 12 _ (by omega) hg9.2
              refine ev_aload_n 86 rfl d176_85 rfl ?_
              refine ev_bipush (v := nI 7) 88 rfl d176_86 (by decide) ?_
              refine ev_bipush (v := nI 12) 90 rfl d176_88 (by decide) ?_
              refine ev_bipush (v := nI 13) 92 rfl d176_90 (by decide) ?_
              refine ev_cu3 95 rfl 154 d176_92 rfl rfl (by rw [G.1 _ _ (rfl : ai_sp 572 = (9, 0)) (by decide) (by decide)]; rfl) (by omega) rfl (m_prod G (x := 7) (y := 12) (w := 13) (p := 40) (q := 40) (by omega) (by omega) (by omega) (by omega) (by omega) hg7 hg12 (b800 (Nat.le_trans (gnA_le hV (by omega) (by omega)) (gnB_le hV (by omega) (by omega) (by omega)))) (b800 (gnB_le hV (by omega) hb5.1 hb5.2)) (by decide)) (fun I_2 hr_92 => ?_)
              obtain ⟨hg13, hf13⟩ := hr_92
              refine ev_aload_n 96 rfl d176_95 rfl ?_
              refine ev_bipush (v := nI 11) 98 rfl d176_96 (by decide) ?_
              refine ev_bipush (v := nI 8) 100 rfl d176_98 (by decide) ?_
              refine ev_bipush (v := nI 14) 102 rfl d176_100 (by decide) ?_
              refine ev_cu3 105 rfl 154 d176_102 rfl rfl (by rw [G.1 _ _ (rfl : ai_sp 572 = (9, 0)) (by decide) (by decide)]; rfl) (by omega) rfl (m_prod G (x := 11) (y := 8) (w := 14) (p := 40) (q := 40) (by omega) (by omega) (by omega) (by omega) (by omega) (hf13.keep (by omega) hg11) (hf13.keep (by omega) hg8) (b800 (Nat.le_trans (gnA_le hV (by omega) hb5.2) (gnB_le hV (by omega) hb5.1 hb5.2))) (b800 (gnB_le hV (by omega) (by omega) (by omega))) (by decide)) (fun I_3 hr_102 => ?_)
              obtain ⟨hg14, hf14⟩ := hr_102
              refine ev_aload_n 106 rfl d176_105 rfl ?_
              refine ev_bipush (v := nI 13) 108 rfl d176_106 (by decide) ?_
              refine ev_bipush (v := nI 14) 110 rfl d176_108 (by decide) ?_
              refine ev_cp2 113 rfl 153 d176_110 rfl rfl (by rw [G.1 _ _ (rfl : ai_sp 572 = (9, 0)) (by decide) (by decide)]; rfl) (by omega) rfl (m_cmp G (x := 13) (y := 14) (by omega) (by omega) (hf14.keep (by omega) hg13) hg14) ?_
              refine ev_if 119 116 (by decide) rfl (cmp_gt _ _) d176_113 (fun hc_113 => ?_) (fun hc_113 => ?_)
              · 
                refine ev_iload_n 120 rfl d176_119 rfl ?_
                refine ev_store_in 121 rfl d176_120 (Nat.le_of_ble_eq_true rfl) rfl ?_
                show ai_Ev _ _ _ [some (.ref 572), some (.int (nI j)), some (.int (nI c)), some (.int (nI c))] _ _ _
                refine ev_aload_n 122 rfl d176_121 rfl ?_
                refine ev_bipush (v := nI 7) 124 rfl d176_122 (by decide) ?_
                refine ev_bipush (v := nI 11) 126 rfl d176_124 (by decide) ?_
                refine ev_cu2 129 rfl 149 d176_126 rfl rfl (by rw [G.1 _ _ (rfl : ai_sp 572 = (9, 0)) (by decide) (by decide)]; rfl) (by omega) rfl (m_copy G (x := 7) (y := 11) (by omega) (by omega) (by omega) (hf14.keep (by omega) (hf13.keep (by omega) hg7))) (fun I_4 hr_126 => ?_)
                obtain ⟨hga, hfa⟩ := hr_126
                refine ev_aload_n 130 rfl d176_129 rfl ?_
                refine ev_bipush (v := nI 8) 132 rfl d176_130 (by decide) ?_
                refine ev_bipush (v := nI 12) 134 rfl d176_132 (by decide) ?_
                refine ev_cu2 137 rfl 149 d176_134 rfl rfl (by rw [G.1 _ _ (rfl : ai_sp 572 = (9, 0)) (by decide) (by decide)]; rfl) (by omega) rfl (m_copy G (x := 8) (y := 12) (by omega) (by omega) (by omega) (hfa.keep (by omega) (hf14.keep (by omega) (hf13.keep (by omega) hg8)))) (fun I_5 hr_134 => ?_)
                obtain ⟨hgb, hfb⟩ := hr_134
                refine ev_iinc (v := nI (c + 1)) 140 rfl d176_137 rfl (Nat.le_of_ble_eq_true rfl) (nI_add _ 1) rfl ?_
                show ai_Ev _ _ _ [some (.ref 572), some (.int (nI j)), some (.int (nI c)), some (.int (nI (c + 1)))] _ _ _
                refine ev_goto 22 (by decide) d176_140 ?_
                have hch := fW_tr hfw (fW_tr (mf_W hf13) (fW_tr (mf_W hf14) (fW_tr (mf_W hfa) (mf_W hfb))))
                have e8 : σ.nxt j (c + 1) = c + 1 := nxt_gt hye (by omega)
                have h9 := ih (c + 1) _ (by omega) (rm_fW hM hch) (rc_fW hC hch) (JA_fW hJA hch) (fun _ => by rw [e8]; exact ⟨hfb.keep (by omega) hga, hgb⟩) (fun a ha => (hch a (by omega) (by omega)).trans (hf a ha))
                rw [e8, nM_succ] at h9
                exact h9
              · refine ev_goto 137 (by decide) d176_116 ?_
                refine ev_iinc (v := nI (c + 1)) 140 rfl d176_137 rfl (Nat.le_of_ble_eq_true rfl) (nI_add _ 1) rfl ?_
                show ai_Ev _ _ _ [some (.ref 572), some (.int (nI j)), some (.int (nI (σ.nxt j c) - 1)), some (.int (nI (c + 1)))] _ _ _
                refine ev_goto 22 (by decide) d176_140 ?_
                have hch := fW_tr hfw (fW_tr (mf_W hf13) (mf_W hf14))
                have e8 : σ.nxt j (c + 1) = σ.nxt j c := nxt_le9 hye hc_82 (by omega)
                have h9 := ih (c + 1) _ (by omega) (rm_fW hM hch) (rc_fW hC hch) (JA_fW hJA hch) (fun _ => by rw [e8]; exact ⟨hf14.keep (by omega) (hf13.keep (by omega) hg11), hf14.keep (by omega) (hf13.keep (by omega) hg12)⟩) (fun a ha => (hch a (by omega) (by omega)).trans (hf a ha))
                rw [e8] at h9
                exact h9
          · have hno : ¬ σ.cand j c = true := fun h9 => by
              have h8 := cand_iff.mp h9
              exact hc_68 (sy_0.mpr h8.2.2.2)
            refine ev_goto 137 (by decide) d176_71 ?_
            refine ev_iinc (v := nI (c + 1)) 140 rfl d176_137 rfl (Nat.le_of_ble_eq_true rfl) (nI_add _ 1) rfl ?_
            show ai_Ev _ _ _ [some (.ref 572), some (.int (nI j)), some (.int (nI (σ.nxt j c) - 1)), some (.int (nI (c + 1)))] _ _ _
            refine ev_goto 22 (by decide) d176_140 ?_
            have e8 : σ.nxt j (c + 1) = σ.nxt j c := nxt_no hno
            have h9 := ih (c + 1) I (by omega) hM hC hJA (fun h => by rw [e8] at h ⊢; exact hGM h) hf
            rw [e8] at h9
            exact h9
    · have hno : ¬ σ.cand j c = true := fun h9 => by
        have h8 := cand_iff.mp h9
        omega
      refine ev_if_T 137 (by decide) (by decide) d176_34 ?_
      refine ev_iinc (v := nI (c + 1)) 140 rfl d176_137 rfl (Nat.le_of_ble_eq_true rfl) (nI_add _ 1) rfl ?_
      show ai_Ev _ _ _ [some (.ref 572), some (.int (nI j)), some (.int (nI (σ.nxt j c) - 1)), some (.int (nI (c + 1)))] _ _ _
      refine ev_goto 22 (by decide) d176_140 ?_
      have e8 : σ.nxt j (c + 1) = σ.nxt j c := nxt_no hno
      have h9 := ih (c + 1) I (by omega) hM hC hJA (fun h => by rw [e8] at h ⊢; exact hGM h) hf
      rw [e8] at h9
      exact h9
theorem m_next (G : ai_G S F) (hM : ai_RM σ I L) (hV : ai_IV σ) {z1 : Int32} : ai_Ev none 176 0 [some (.ref 572), some (.int z1), none, none] [] (S, I, L, F) (ai_PM S F I L (o_next σ z1)) := by
  have hnT := hV.nT
  have hnQ := hV.nQ
  have hnJ := hV.nJ
  unfold o_next
  refine ev_aload_n 1 rfl d176_0 rfl ?_
  refine ev_iload_n 2 rfl d176_1 rfl ?_
  refine ev_cb1 5 rfl 128 d176_2 rfl rfl (by rw [G.1 _ _ (rfl : ai_sp 572 = (9, 0)) (by decide) (by decide)]; rfl) (by omega) rfl (m_isJ G hM hV) (fun hq_2 => ?_) (fun hq_2 => ?_)
  · try rw [c_T hq_2]
    obtain ⟨j, hj, hjl, rfl⟩ := hq_2
    refine ev_if_T 14 (by decide) (by decide) d176_5 ?_
    simp only [nn_I (show j < 2147483648 by omega)]
    refine ev_aload_n 15 rfl d176_14 rfl ?_
    refine ev_cu0 18 rfl 169 d176_15 rfl rfl (by rw [G.1 _ _ (rfl : ai_sp 572 = (9, 0)) (by decide) (by decide)]; rfl) (by omega) rfl (m_judgeAll G hM hV) (fun I_1 hr_15 => ?_)
    obtain ⟨hM2, hC2, hJA, hfl⟩ := hr_15
    refine ev_iconst (v := (-1)) 19 rfl d176_18 (by decide) ?_
    refine ev_store_in 20 rfl d176_19 (Nat.le_of_ble_eq_true rfl) rfl ?_
    show ai_Ev _ _ _ [some (.ref 572), some (.int (nI j)), some (.int (-1)), none] _ _ _
    refine ev_iconst (v := nI 0) 21 rfl d176_20 (by decide) ?_
    refine ev_store_in 22 rfl d176_21 (Nat.le_of_ble_eq_true rfl) rfl ?_
    show ai_Ev _ _ _ [some (.ref 572), some (.int (nI j)), some (.int (-1)), some (.int (nI 0))] _ _ _
    refine (m_next_loop G hV (j := j) (by omega) hjl 200 0 I_1 (by omega) hM2 hC2 hJA (fun h => absurd rfl h) hfl).imp ?_
    rintro r h' ⟨v, I9, rfl, rfl, rfl, h8, h9⟩
    exact pm_scr h8 h9
  · try rw [c_F hq_2]
    refine ev_if_F 14 8 (by decide) rfl (by decide) d176_5 ?_
    refine ev_aload_n 9 rfl d176_8 rfl ?_
    refine ev_iconst (v := (-1)) 10 rfl d176_9 (by decide) ?_
    refine ev_cy1 13 rfl 115 d176_10 rfl rfl (by rw [G.1 _ _ (rfl : ai_sp 572 = (9, 0)) (by decide) (by decide)]; rfl) (by omega) rfl (show ai_Ev none 115 0 [some (.ref 572), some (.int (-1))] [] (S, I, L, F) _ from by rw [show ((-1) : Int32) = -(nI 1) by decide]; exact m_refuse (I := I) (L := L) (S := S) (F := F) G (k := 1) (by omega)) (fun v_2 I_1 hr_10 => ?_)
    refine ev_iret (Or.inl rfl) d176_13 ?_
    exact pm_ref hM (by omega) hr_10
theorem t1000 {x t : Nat} (ht : t ≤ 40) (h : x ≤ 65536 ^ 10 * (4 * 65536 ^ 24) ^ t) : x < 65536 ^ 1040 := by
  refine Nat.lt_of_le_of_lt (Nat.le_trans h (Nat.mul_le_mul_left _ (Nat.pow_le_pow_right (by decide) ht))) ?_
  decide +kernel
theorem t1700 {x : Nat} (h : x < 65536 ^ 1040) : x < 65536 ^ 1700 := Nat.lt_of_lt_of_le h (Nat.pow_le_pow_right (by decide) (by decide))
theorem b25 {x : Nat} (h : x ≤ 4 * 65536 ^ 24) : x < 65536 ^ 25 := Nat.lt_of_le_of_lt h (by decide)
theorem m_total_loop (G : ai_G S F) (hV : ai_IV σ) {I0 : Nat → Nat → Int32} {q b : Nat} (hq : q < σ.nQ) (hb : b < σ.an q) : ∀ (z t : Nat) (I : Nat → Nat → Int32), t + z = σ.nT → ai_RM σ I L → ai_RC σ I → ai_JA σ I 200 → ai_MG I 11 (σ.totA q b t) → ai_MG I 12 (σ.totB q t) → (∀ a, a < 572 → I a = I0 a) → ai_Ev none 177 46 [some (.ref 572), some (.int (nI q)), some (.int (nI b)), some (.int (nI t))] [] (S, I, L, F) (ai_Py S F L (fun v I2 => v = nI (1000 * σ.totA q b σ.nT / σ.totB q σ.nT) ∧ ai_RM σ I2 L ∧ ∀ a, a < 572 → I2 a = I0 a)) := by
  have hnT := hV.nT
  have hnQ := hV.nQ
  have hnJ := hV.nJ
  have han := hV.an q hq
  intro z
  induction z with
  | zero =>
    intro t I hz hM hC hJA hA hB hf
    have e9 : t = σ.nT := by omega
    subst e9
    refine ev_iload_n 47 rfl d177_46 rfl ?_
    refine ev_aload_n 48 rfl d177_47 rfl ?_
    refine ev_geti (v := nI σ.nT) 51 rfl 9 5 d177_48 rfl (by omega) (G.1 _ _ (rfl : ai_sp 572 = (9, 0)) (by decide) (by decide)) hM.nT ?_
    refine ev_icmp 136 54 (by decide) rfl (cn_ge (by omega) (by omega)) d177_51 (fun hc_51 => ?_) (fun hc_51 => absurd hc_51 (by omega))
    have hBb := totB_le hV hq σ.nT (by omega)
    have hAb := totA_le hV hq hb σ.nT (by omega)
    have hBp := totB_pos hV hq σ.nT (by omega)
    have hbm : 40000 * σ.totB q σ.nT ≤ 65536 ^ 10 * (4 * 65536 ^ 24) ^ σ.nT := Nat.mul_le_mul (by decide) hBb
    have hAm : 1000 * σ.totA q b σ.nT ≤ 40000 * σ.totB q σ.nT := by
      refine Nat.le_trans (Nat.mul_le_mul_left 1000 (Nat.le_trans hAb (Nat.mul_le_mul_right _ hnT))) ?_
      rw [← Nat.mul_assoc]; exact Nat.le_refl _
    refine ev_aload_n 137 rfl d177_136 rfl ?_
    refine ev_bipush (v := nI 11) 139 rfl d177_137 (by decide) ?_
    refine ev_sipush (v := nI 1000) 142 rfl d177_139 (by decide) ?_
    refine ev_cu2 145 rfl 150 d177_142 rfl rfl (by rw [G.1 _ _ (rfl : ai_sp 572 = (9, 0)) (by decide) (by decide)]; rfl) (by omega) rfl (m_times G (x := 11) (by omega) (m := 1000) (by omega) hA (t1700 (t1000 hnT (Nat.le_trans hAm hbm)))) (fun I_1 hr_142 => ?_)
    obtain ⟨g9, f9⟩ := hr_142
    refine ev_aload_n 146 rfl d177_145 rfl ?_
    refine ev_bipush (v := nI 11) 148 rfl d177_146 (by decide) ?_
    refine ev_bipush (v := nI 12) 150 rfl d177_148 (by decide) ?_
    refine ev_ldc (v := nI 40000) 152 rfl d177_150 (by decide) ?_
    refine ev_cy3 155 rfl 155 d177_152 rfl rfl (by rw [G.1 _ _ (rfl : ai_sp 572 = (9, 0)) (by decide) (by decide)]; rfl) (by omega) rfl (m_quot G (x := 11) (y := 12) (most := 40000) (by omega) (by omega) hBp (by omega) (t1700 (t1000 hnT hbm)) (Nat.le_trans (Nat.div_le_div_right hAm) (by rw [Nat.mul_div_cancel _ hBp]; exact Nat.le_refl _)) g9 (f9.keep (by omega) hB)) (fun v_3 I_2 hr_152 => ?_)
    obtain ⟨rfl, f8⟩ := hr_152
    refine ev_iret (Or.inl rfl) d177_155 ?_
    exact ⟨_, _, rfl, rfl, rfl, rm_fW (rm_fW hM (mf_W f9)) (mf_W f8), fun a ha => by rw [f8.1 a (by omega) (by omega), f9.1 a (by omega) (by omega)]; exact hf a ha⟩
  | succ z ih =>
    intro t I hz hM hC hJA hA hB hf
    have hm : (5 * t + q) % 5 = q := by omega
    have hj9 := hJA (5 * t + q) (by omega) (by omega) (by omega)
    refine ev_iload_n 47 rfl d177_46 rfl ?_
    refine ev_aload_n 48 rfl d177_47 rfl ?_
    refine ev_geti (v := nI σ.nT) 51 rfl 9 5 d177_48 rfl (by omega) (G.1 _ _ (rfl : ai_sp 572 = (9, 0)) (by decide) (by decide)) hM.nT ?_
    refine ev_icmp 136 54 (by decide) rfl (cn_ge (by omega) (by omega)) d177_51 (fun hc_51 => absurd hc_51 (by omega)) (fun hc_51 => ?_)
    refine ev_aload_n 55 rfl d177_54 rfl ?_
    refine ev_getr 58 rfl 9 32 d177_55 rfl (by omega) (G.1 _ _ (rfl : ai_sp 572 = (9, 0)) (by decide) (by decide)) (G.2 _ _ _ (rfl : ai_rf 572 32 = some 597)) ?_
    refine ev_iconst (v := nI 5) 59 rfl d177_58 (by decide) ?_
    refine ev_iload_n 60 rfl d177_59 rfl ?_
    refine ev_imul (v := nI (5 * t)) 61 rfl d177_60 (pk_mul _ _) ?_
    refine ev_iload_n 62 rfl d177_61 rfl ?_
    refine ev_iadd (v := nI ((5 * t) + q)) 63 rfl d177_62 (nI_add _ _) ?_
    refine ev_bald_n (v := nI (ai_qb (σ.isOpen (5 * t + q)))) 64 rfl d177_63 (by omega) (by decide) (G.1 _ _ (rfl : ai_sp 597 = (102, 200)) (by decide) (by decide)) (by omega) (by decide) hj9.2.2 ?_
    have hqb := qb_lt (σ.isOpen (5 * t + q))
    refine ev_if 70 67 (by decide) rfl (c0_ne (by omega)) d177_64 (fun hc_64 => ?_) (fun hc_64 => ?_)
    · have hop : σ.isOpen (5 * t + q) = true := qb_1 hc_64
      have hwb := wt_le hV (c := 5 * t + q) (b := b) (by omega) (by rw [hm]; exact hb)
      have htb := tot_le hV (c := 5 * t + q) (by omega) (by omega)
      have hBb := totB_le hV hq t (by omega)
      have hAb := totA_le hV hq hb t (by omega)
      have hBl : σ.totB q t ≤ 65536 ^ 10 * (4 * 65536 ^ 24) ^ t := Nat.le_trans hBb (Nat.le_mul_of_pos_left _ (by decide))
      have hAl : σ.totA q b t ≤ 65536 ^ 10 * (4 * 65536 ^ 24) ^ t := Nat.le_trans hAb (Nat.mul_le_mul (Nat.le_trans (show t ≤ 40 by omega) (by decide)) hBb)
      have eA : σ.totA q b (t + 1) = σ.totA q b t * σ.tot (5 * t + q) + σ.totB q t * σ.wt (5 * t + q) b := if_pos hop
      have eB : σ.totB q (t + 1) = σ.totB q t * σ.tot (5 * t + q) := if_pos hop
      have hB1b := totB_le hV hq (t + 1) (by omega)
      have hA1b := totA_le hV hq hb (t + 1) (by omega)
      have hAl1 : σ.totA q b (t + 1) ≤ 65536 ^ 10 * (4 * 65536 ^ 24) ^ (t + 1) := Nat.le_trans hA1b (Nat.mul_le_mul (Nat.le_trans (show t + 1 ≤ 40 by omega) (by decide)) hB1b)
      refine ev_aload_n 71 rfl d177_70 rfl ?_
      refine ev_iconst (v := nI 5) 72 rfl d177_71 (by decide) ?_
      refine ev_iload_n 73 rfl d177_72 rfl ?_
      refine ev_imul (v := nI (5 * t)) 74 rfl d177_73 (pk_mul _ _) ?_
      refine ev_iload_n 75 rfl d177_74 rfl ?_
      refine ev_iadd (v := nI ((5 * t) + q)) 76 rfl d177_75 (nI_add _ _) ?_
      refine ev_cu1 79 rfl 156 d177_76 rfl rfl (by rw [G.1 _ _ (rfl : ai_sp 572 = (9, 0)) (by decide) (by decide)]; rfl) (by omega) rfl (m_weigh G hM hC hV (c := 5 * t + q) (q := q) (by omega) (by omega) (by omega)) (fun I_1 hr_76 => ?_)
      obtain ⟨hW, hfw, hkp⟩ := hr_76
      have hA1 := hkp 11 _ (by omega) hA
      have hB1 := hkp 12 _ (by omega) hB
      have hWb := hW.1 b (by rw [hm]; exact hb)
      refine ev_aload_n 80 rfl d177_79 rfl ?_
      refine ev_bipush (v := nI 11) 82 rfl d177_80 (by decide) ?_
      refine ev_iconst (v := nI 4) 83 rfl d177_82 (by decide) ?_
      refine ev_bipush (v := nI 13) 85 rfl d177_83 (by decide) ?_
      refine ev_cu3 88 rfl 154 d177_85 rfl rfl (by rw [G.1 _ _ (rfl : ai_sp 572 = (9, 0)) (by decide) (by decide)]; rfl) (by omega) rfl (m_prod G (x := 11) (y := 4) (w := 13) (p := 1040) (q := 25) (by omega) (by omega) (by omega) (by omega) (by omega) hA1 hW.2 (t1000 (by omega) hAl) (b25 htb) (by decide)) (fun I_2 hr_85 => ?_)
      obtain ⟨g1, f1⟩ := hr_85
      refine ev_aload_n 89 rfl d177_88 rfl ?_
      refine ev_bipush (v := nI 12) 91 rfl d177_89 (by decide) ?_
      refine ev_iload_n 92 rfl d177_91 rfl ?_
      refine ev_bipush (v := nI 14) 94 rfl d177_92 (by decide) ?_
      refine ev_cu3 97 rfl 154 d177_94 rfl rfl (by rw [G.1 _ _ (rfl : ai_sp 572 = (9, 0)) (by decide) (by decide)]; rfl) (by omega) rfl (m_prod G (x := 12) (y := b) (w := 14) (p := 1040) (q := 25) (by omega) (by omega) (by omega) (by omega) (by omega) (f1.keep (by omega) hB1) (f1.keep (by omega) hWb) (t1000 (by omega) hBl) (b25 (Nat.le_trans hwb (by decide))) (by decide)) (fun I_3 hr_94 => ?_)
      obtain ⟨g2, f2⟩ := hr_94
      refine ev_aload_n 98 rfl d177_97 rfl ?_
      refine ev_bipush (v := nI 13) 100 rfl d177_98 (by decide) ?_
      refine ev_bipush (v := nI 14) 102 rfl d177_100 (by decide) ?_
      refine ev_cu2 105 rfl 151 d177_102 rfl rfl (by rw [G.1 _ _ (rfl : ai_sp 572 = (9, 0)) (by decide) (by decide)]; rfl) (by omega) rfl (m_plus G (x := 13) (y := 14) (by omega) (by omega) (by omega) (f2.keep (by omega) g1) g2 (by rw [← eA]; exact t1700 (t1000 (by omega) hAl1))) (fun I_4 hr_102 => ?_)
      obtain ⟨g3, f3⟩ := hr_102
      refine ev_aload_n 106 rfl d177_105 rfl ?_
      refine ev_bipush (v := nI 13) 108 rfl d177_106 (by decide) ?_
      refine ev_bipush (v := nI 11) 110 rfl d177_108 (by decide) ?_
      refine ev_cu2 113 rfl 149 d177_110 rfl rfl (by rw [G.1 _ _ (rfl : ai_sp 572 = (9, 0)) (by decide) (by decide)]; rfl) (by omega) rfl (m_copy G (x := 13) (y := 11) (by omega) (by omega) (by omega) g3) (fun I_5 hr_110 => ?_)
      obtain ⟨g4, f4⟩ := hr_110
      refine ev_aload_n 114 rfl d177_113 rfl ?_
      refine ev_bipush (v := nI 12) 116 rfl d177_114 (by decide) ?_
      refine ev_iconst (v := nI 4) 117 rfl d177_116 (by decide) ?_
      refine ev_bipush (v := nI 13) 119 rfl d177_117 (by decide) ?_
      refine ev_cu3 122 rfl 154 d177_119 rfl rfl (by rw [G.1 _ _ (rfl : ai_sp 572 = (9, 0)) (by decide) (by decide)]; rfl) (by omega) rfl (m_prod G (x := 12) (y := 4) (w := 13) (p := 1040) (q := 25) (by omega) (by omega) (by omega) (by omega) (by omega) (f4.keep (by omega) (f3.keep (by omega) (f2.keep (by omega) (f1.keep (by omega) hB1)))) (f4.keep (by omega) (f3.keep (by omega) (f2.keep (by omega) (f1.keep (by omega) hW.2)))) (t1000 (by omega) hBl) (b25 htb) (by decide)) (fun I_6 hr_119 => ?_)
      obtain ⟨g5, f5⟩ := hr_119
      refine ev_aload_n 123 rfl d177_122 rfl ?_
      refine ev_bipush (v := nI 13) 125 rfl d177_123 (by decide) ?_
      refine ev_bipush (v := nI 12) 127 rfl d177_125 (by decide) ?_
      refine ev_cu2 130 rfl 149 d177_127 rfl rfl (by rw [G.1 _ _ (rfl : ai_sp 572 = (9, 0)) (by decide) (by decide)]; rfl) (by omega) rfl (m_copy G (x := 13) (y := 12) (by omega) (by omega) (by omega) g5) (fun I_7 hr_127 => ?_)
      obtain ⟨g6, f6⟩ := hr_127
      refine ev_iinc (v := nI (t + 1)) 133 rfl d177_130 rfl (Nat.le_of_ble_eq_true rfl) (nI_add _ 1) rfl ?_
      show ai_Ev _ _ _ [some (.ref 572), some (.int (nI q)), some (.int (nI b)), some (.int (nI (t + 1)))] _ _ _
      refine ev_goto 46 (by decide) d177_133 ?_
      have hch := fW_tr hfw (fW_tr (mf_W f1) (fW_tr (mf_W f2) (fW_tr (mf_W f3) (fW_tr (mf_W f4) (fW_tr (mf_W f5) (mf_W f6))))))
      exact ih (t + 1) _ (by omega) (rm_fW hM hch) (rc_fW hC hch) (JA_fW hJA hch) (by rw [eA]; exact f6.keep (by omega) (f5.keep (by omega) g4)) (by rw [eB]; exact g6) (fun a ha => (hch a (by omega) (by omega)).trans (hf a ha))
    · have hop : ¬ σ.isOpen (5 * t + q) = true := qb_0 (by omega)
      refine ev_goto 130 (by decide) d177_67 ?_
      refine ev_iinc (v := nI (t + 1)) 133 rfl d177_130 rfl (Nat.le_of_ble_eq_true rfl) (nI_add _ 1) rfl ?_
      show ai_Ev _ _ _ [some (.ref 572), some (.int (nI q)), some (.int (nI b)), some (.int (nI (t + 1)))] _ _ _
      refine ev_goto 46 (by decide) d177_133 ?_
      have eA : σ.totA q b (t + 1) = σ.totA q b t := if_neg hop
      have eB : σ.totB q (t + 1) = σ.totB q t := if_neg hop
      exact ih (t + 1) I (by omega) hM hC hJA (by rw [eA]; exact hA) (by rw [eB]; exact hB) hf
theorem m_total (G : ai_G S F) (hM : ai_RM σ I L) (hV : ai_IV σ) {z1 : Int32} {z2 : Int32} : ai_Ev none 177 0 [some (.ref 572), some (.int z1), some (.int z2), none] [] (S, I, L, F) (ai_PM S F I L (o_total σ z1 z2)) := by
  have hnT := hV.nT
  have hnQ := hV.nQ
  have hnJ := hV.nJ
  unfold o_total
  refine ev_aload_n 1 rfl d177_0 rfl ?_
  refine ev_iload_n 2 rfl d177_1 rfl ?_
  refine ev_iconst (v := nI 0) 3 rfl d177_2 (by decide) ?_
  refine ev_aload_n 4 rfl d177_3 rfl ?_
  refine ev_geti (v := nI σ.nQ) 7 rfl 9 6 d177_4 rfl (by omega) (G.1 _ _ (rfl : ai_sp 572 = (9, 0)) (by decide) (by decide)) hM.nQ ?_
  refine ev_iconst (v := nI 1) 8 rfl d177_7 (by decide) ?_
  refine ev_isub (v := nI σ.nQ - 1) 9 rfl d177_8 rfl ?_
  refine ev_cb3 12 rfl 114 d177_9 rfl rfl (by rw [G.1 _ _ (rfl : ai_sp 572 = (9, 0)) (by decide) (by decide)]; rfl) (by omega) rfl (pb_iff (in_is (n := σ.nQ) rfl (by omega)) (m_in G)) (fun hq_9 => ?_) (fun hq_9 => ?_)
  · obtain ⟨q, hq, rfl⟩ := hq_9
    have han := hV.an q hq
    have hiA := fun z => isAN (σ := σ) (z := z) hq hnQ
    refine ev_if_F 24 15 (by decide) rfl (by decide) d177_12 ?_
    refine ev_aload_n 16 rfl d177_15 rfl ?_
    refine ev_iload_n 17 rfl d177_16 rfl ?_
    refine ev_iload_n 18 rfl d177_17 rfl ?_
    refine ev_cb2 21 rfl 163 d177_18 rfl rfl (by rw [G.1 _ _ (rfl : ai_sp 572 = (9, 0)) (by decide) (by decide)]; rfl) (by omega) rfl (m_isAnswer G hM hV (by omega)) (fun hq_18 => ?_) (fun hq_18 => ?_)
    · rw [c_T ((hiA _).mpr hq_18)]
      obtain ⟨b, hb, rfl⟩ := hq_18
      refine ev_if_T 26 (by decide) (by decide) d177_21 ?_
      simp only [nn_I (show q < 2147483648 by omega)]
      simp only [nn_I (show b < 2147483648 by omega)]
      refine ev_aload_n 27 rfl d177_26 rfl ?_
      refine ev_cu0 30 rfl 169 d177_27 rfl rfl (by rw [G.1 _ _ (rfl : ai_sp 572 = (9, 0)) (by decide) (by decide)]; rfl) (by omega) rfl (m_judgeAll G hM hV) (fun I_1 hr_27 => ?_)
      obtain ⟨hM2, hC2, hJA, hfl⟩ := hr_27
      refine ev_aload_n 31 rfl d177_30 rfl ?_
      refine ev_bipush (v := nI 11) 33 rfl d177_31 (by decide) ?_
      refine ev_iconst (v := nI 0) 34 rfl d177_33 (by decide) ?_
      refine ev_cu2 37 rfl 148 d177_34 rfl rfl (by rw [G.1 _ _ (rfl : ai_sp 572 = (9, 0)) (by decide) (by decide)]; rfl) (by omega) rfl (m_becomes G (x := 11) (by omega) (m := 0) (by omega)) (fun I_2 hr_34 => ?_)
      obtain ⟨g1, f1⟩ := hr_34
      refine ev_aload_n 38 rfl d177_37 rfl ?_
      refine ev_bipush (v := nI 12) 40 rfl d177_38 (by decide) ?_
      refine ev_iconst (v := nI 1) 41 rfl d177_40 (by decide) ?_
      refine ev_cu2 44 rfl 148 d177_41 rfl rfl (by rw [G.1 _ _ (rfl : ai_sp 572 = (9, 0)) (by decide) (by decide)]; rfl) (by omega) rfl (m_becomes G (x := 12) (by omega) (m := 1) (by omega)) (fun I_3 hr_41 => ?_)
      obtain ⟨g2, f2⟩ := hr_41
      refine ev_iconst (v := nI 0) 45 rfl d177_44 (by decide) ?_
      refine ev_store_in 46 rfl d177_45 (Nat.le_of_ble_eq_true rfl) rfl ?_
      show ai_Ev _ _ _ [some (.ref 572), some (.int (nI q)), some (.int (nI b)), some (.int (nI 0))] _ _ _
      have hch := fW_tr (mf_W f1) (mf_W f2)
      refine (m_total_loop G hV hq hb σ.nT 0 I_3 (by omega) (rm_fW hM2 hch) (rc_fW hC2 hch) (JA_fW hJA hch) (f2.keep (by omega) g1) g2 (fun a ha => (hch a (by omega) (by omega)).trans (hfl a ha))).imp ?_
      rintro r h' ⟨v, I9, rfl, rfl, rfl, h8, h9⟩
      exact pm_scr h8 h9
    · rw [c_F (fun h9 => hq_18 ((hiA _).mp h9))]
      refine ev_if_F 26 24 (by decide) rfl (by decide) d177_21 ?_
      refine ev_iconst (v := (-1)) 25 rfl d177_24 (by decide) ?_
      refine ev_iret (Or.inl rfl) d177_25 ?_
      exact pm_same hM
  · rw [c_F (fun ⟨q, a, h1, h2, h3, h4⟩ => hq_9 ⟨q, h1, h3⟩)]
    refine ev_if_T 24 (by decide) (by decide) d177_12 ?_
    refine ev_iconst (v := (-1)) 25 rfl d177_24 (by decide) ?_
    refine ev_iret (Or.inl rfl) d177_25 ?_
    exact pm_same hM
end MNXT
