section MSTA
variable {S : List (Nat × Nat)} {F : Nat → Nat → Option Nat} {L : Nat → Nat → Int64} {I : Nat → Nat → Int32} {σ : ai_S}
theorem m_st3 (G : ai_G S F) (hM : ai_RM σ I L) (hC : ai_RC σ I) (hV : ai_IV σ) : ∀ (z k : Nat), k + z = σ.nJ → ai_Ev none 178 113 [some (.ref 572), some (.int (nI 3)), some (.int (nI (ai_qn σ.lf k))), some (.int (nI k)), none] [] (S, I, L, F) (ai_Pp S F I L (.int (nI σ.nLeft))) := by
  have hnT := hV.nT
  have hnQ := hV.nQ
  have hnJ := hV.nJ
  intro z
  induction z with
  | zero =>
    intro k hz
    have e9 : k = σ.nJ := by omega
    subst e9
    refine ev_iload_n 114 rfl d178_113 rfl ?_
    refine ev_aload_n 115 rfl d178_114 rfl ?_
    refine ev_geti (v := nI σ.nJ) 118 rfl 9 7 d178_115 rfl (by omega) (G.1 _ _ (rfl : ai_sp 572 = (9, 0)) (by decide) (by decide)) hM.nJ ?_
    refine ev_icmp 144 121 (by decide) rfl (cn_ge (by omega) (by omega)) d178_118 (fun hc_118 => ?_) (fun hc_118 => absurd hc_118 (by omega))
    refine ev_iload_n 145 rfl d178_144 rfl ?_
    refine ev_iret (Or.inl rfl) d178_145 ?_
    exact ⟨rfl, rfl⟩
  | succ z ih =>
    intro k hz
    refine ev_iload_n 114 rfl d178_113 rfl ?_
    refine ev_aload_n 115 rfl d178_114 rfl ?_
    refine ev_geti (v := nI σ.nJ) 118 rfl 9 7 d178_115 rfl (by omega) (G.1 _ _ (rfl : ai_sp 572 = (9, 0)) (by decide) (by decide)) hM.nJ ?_
    refine ev_icmp 144 121 (by decide) rfl (cn_ge (by omega) (by omega)) d178_118 (fun hc_118 => absurd hc_118 (by omega)) (fun hc_118 => ?_)
    refine ev_iload_n 122 rfl d178_121 rfl ?_
    refine ev_aload_n 123 rfl d178_122 rfl ?_
    refine ev_getr 126 rfl 9 13 d178_123 rfl (by omega) (G.1 _ _ (rfl : ai_sp 572 = (9, 0)) (by decide) (by decide)) (G.2 _ _ _ (rfl : ai_rf 572 13 = some 583)) ?_
    refine ev_iload_n 127 rfl d178_126 rfl ?_
    refine ev_bald_n (v := nI (ai_qb (σ.lf k))) 128 rfl d178_127 (by omega) (by decide) (G.1 _ _ (rfl : ai_sp 583 = (102, 24)) (by decide) (by decide)) (by omega) (by decide) (hM.lf _ (by omega)) ?_
    have hqb := qb_lt (σ.lf k)
    refine ev_if 135 131 (by decide) rfl (c0_eq (by omega)) d178_128 (fun hc_128 => ?_) (fun hc_128 => ?_)
    · refine ev_iconst (v := nI 0) 136 rfl d178_135 (by decide) ?_
      refine ev_iadd (v := nI ((ai_qn σ.lf k) + 0)) 137 rfl d178_136 (nI_add _ _) ?_
      refine ev_store_in 138 rfl d178_137 (Nat.le_of_ble_eq_true rfl) rfl ?_
      show ai_Ev _ _ _ [some (.ref 572), some (.int (nI 3)), some (.int (nI ((ai_qn σ.lf k) + 0))), some (.int (nI k)), none] _ _ _
      refine ev_iinc (v := nI (k + 1)) 141 rfl d178_138 rfl (Nat.le_of_ble_eq_true rfl) (nI_add _ 1) rfl ?_
      show ai_Ev _ _ _ [some (.ref 572), some (.int (nI 3)), some (.int (nI ((ai_qn σ.lf k) + 0))), some (.int (nI (k + 1))), none] _ _ _
      refine ev_goto 113 (by decide) d178_141 ?_
      have e8 : ai_qn σ.lf (k + 1) = (ai_qn σ.lf k) + 0 := qn_F (p := σ.lf) (qb_0 hc_128)
      have h9 := ih (k + 1) (by omega)
      rw [e8] at h9
      exact h9
    · refine ev_iconst (v := nI 1) 132 rfl d178_131 (by decide) ?_
      refine ev_goto 136 (by decide) d178_132 ?_
      refine ev_iadd (v := nI ((ai_qn σ.lf k) + 1)) 137 rfl d178_136 (nI_add _ _) ?_
      refine ev_store_in 138 rfl d178_137 (Nat.le_of_ble_eq_true rfl) rfl ?_
      show ai_Ev _ _ _ [some (.ref 572), some (.int (nI 3)), some (.int (nI ((ai_qn σ.lf k) + 1))), some (.int (nI k)), none] _ _ _
      refine ev_iinc (v := nI (k + 1)) 141 rfl d178_138 rfl (Nat.le_of_ble_eq_true rfl) (nI_add _ 1) rfl ?_
      show ai_Ev _ _ _ [some (.ref 572), some (.int (nI 3)), some (.int (nI ((ai_qn σ.lf k) + 1))), some (.int (nI (k + 1))), none] _ _ _
      refine ev_goto 113 (by decide) d178_141 ?_
      have e8 : ai_qn σ.lf (k + 1) = (ai_qn σ.lf k) + 1 := qn_T (p := σ.lf) (qb_1 hc_128)
      have h9 := ih (k + 1) (by omega)
      rw [e8] at h9
      exact h9
theorem m_st4 (G : ai_G S F) (hM : ai_RM σ I L) (hC : ai_RC σ I) (hV : ai_IV σ) : ∀ (z k : Nat), k + z = 200 → ai_Ev none 178 148 [some (.ref 572), some (.int (nI 4)), some (.int (nI (ai_qn (fun c => decide (σ.tr c ≠ 0)) k))), some (.int (nI k)), none] [] (S, I, L, F) (ai_Pp S F I L (.int (nI σ.nKnown))) := by
  have hnT := hV.nT
  have hnQ := hV.nQ
  have hnJ := hV.nJ
  intro z
  induction z with
  | zero =>
    intro k hz
    have e9 : k = 200 := by omega
    subst e9
    refine ev_iload_n 149 rfl d178_148 rfl ?_
    refine ev_sipush (v := nI 200) 152 rfl d178_149 (by decide) ?_
    refine ev_icmp_T 201 (by decide) (by decide) d178_152 ?_
    refine ev_iload_n 202 rfl d178_201 rfl ?_
    refine ev_iret (Or.inl rfl) d178_202 ?_
    exact ⟨rfl, rfl⟩
  | succ z ih =>
    intro k hz
    refine ev_iload_n 149 rfl d178_148 rfl ?_
    refine ev_sipush (v := nI 200) 152 rfl d178_149 (by decide) ?_
    refine ev_icmp 201 155 (by decide) rfl (cn_ge (by omega) (by omega)) d178_152 (fun hc_152 => absurd hc_152 (by omega)) (fun hc_152 => ?_)
    refine ev_iload_n 156 rfl d178_155 rfl ?_
    refine ev_aload_n 157 rfl d178_156 rfl ?_
    refine ev_iload_n 158 rfl d178_157 rfl ?_
    refine ev_cb1 161 rfl 143 d178_158 rfl rfl (by rw [G.1 _ _ (rfl : ai_sp 572 = (9, 0)) (by decide) (by decide)]; rfl) (by omega) rfl (m_isThere G (r0_of hM) hV (by omega)) (fun hq_158 => ?_) (fun hq_158 => ?_)
    · have hfl := tr_le hV (c := k) (by omega)
      refine ev_if_F 192 164 (by decide) rfl (by decide) d178_161 ?_
      refine ev_iload_n 165 rfl d178_164 rfl ?_
      refine ev_iconst (v := nI 4) 166 rfl d178_165 (by decide) ?_
      refine ev_icmp_F 178 169 (by decide) rfl (by decide) d178_166 ?_
      refine ev_aload_n 170 rfl d178_169 rfl ?_
      refine ev_getr 173 rfl 9 11 d178_170 rfl (by omega) (G.1 _ _ (rfl : ai_sp 572 = (9, 0)) (by decide) (by decide)) (G.2 _ _ _ (rfl : ai_rf 572 11 = some 581)) ?_
      refine ev_iload_n 174 rfl d178_173 rfl ?_
      refine ev_iald_n (v := nI (σ.tr k) - 1) 175 rfl d178_174 (by omega) (G.1 _ _ (rfl : ai_sp 581 = (100, 200)) (by decide) (by decide)) (by omega) (by decide) (hM.tr _ (by omega) (by omega)) ?_
      refine ev_goto 184 (by decide) d178_175 ?_
      refine ev_iconst (v := (-1)) 185 rfl d178_184 (by decide) ?_
      refine ev_icmp 192 188 (by decide) rfl (cq_eq (by omega)) d178_185 (fun hc_185 => ?_) (fun hc_185 => ?_)
      · refine ev_iconst (v := nI 0) 193 rfl d178_192 (by decide) ?_
        refine ev_iadd (v := nI ((ai_qn (fun c => decide (σ.tr c ≠ 0)) k) + 0)) 194 rfl d178_193 (nI_add _ _) ?_
        refine ev_store_in 195 rfl d178_194 (Nat.le_of_ble_eq_true rfl) rfl ?_
        show ai_Ev _ _ _ [some (.ref 572), some (.int (nI 4)), some (.int (nI ((ai_qn (fun c => decide (σ.tr c ≠ 0)) k) + 0))), some (.int (nI k)), none] _ _ _
        refine ev_iinc (v := nI (k + 1)) 198 rfl d178_195 rfl (Nat.le_of_ble_eq_true rfl) (nI_add _ 1) rfl ?_
        show ai_Ev _ _ _ [some (.ref 572), some (.int (nI 4)), some (.int (nI ((ai_qn (fun c => decide (σ.tr c ≠ 0)) k) + 0))), some (.int (nI (k + 1))), none] _ _ _
        refine ev_goto 148 (by decide) d178_198 ?_
        have e8 : ai_qn (fun c => decide (σ.tr c ≠ 0)) (k + 1) = (ai_qn (fun c => decide (σ.tr c ≠ 0)) k) + 0 := qn_F (p := fun c => decide (σ.tr c ≠ 0)) (fun h9 => absurd hc_185 (of_decide_eq_true h9))
        have h9 := ih (k + 1) (by omega)
        rw [e8] at h9
        exact h9
      · refine ev_iconst (v := nI 1) 189 rfl d178_188 (by decide) ?_
        refine ev_goto 193 (by decide) d178_189 ?_
        refine ev_iadd (v := nI ((ai_qn (fun c => decide (σ.tr c ≠ 0)) k) + 1)) 194 rfl d178_193 (nI_add _ _) ?_
        refine ev_store_in 195 rfl d178_194 (Nat.le_of_ble_eq_true rfl) rfl ?_
        show ai_Ev _ _ _ [some (.ref 572), some (.int (nI 4)), some (.int (nI ((ai_qn (fun c => decide (σ.tr c ≠ 0)) k) + 1))), some (.int (nI k)), none] _ _ _
        refine ev_iinc (v := nI (k + 1)) 198 rfl d178_195 rfl (Nat.le_of_ble_eq_true rfl) (nI_add _ 1) rfl ?_
        show ai_Ev _ _ _ [some (.ref 572), some (.int (nI 4)), some (.int (nI ((ai_qn (fun c => decide (σ.tr c ≠ 0)) k) + 1))), some (.int (nI (k + 1))), none] _ _ _
        refine ev_goto 148 (by decide) d178_198 ?_
        have e8 : ai_qn (fun c => decide (σ.tr c ≠ 0)) (k + 1) = (ai_qn (fun c => decide (σ.tr c ≠ 0)) k) + 1 := qn_T (p := fun c => decide (σ.tr c ≠ 0)) (decide_eq_true hc_185)
        have h9 := ih (k + 1) (by omega)
        rw [e8] at h9
        exact h9
    · refine ev_if_T 192 (by decide) (by decide) d178_161 ?_
      refine ev_iconst (v := nI 0) 193 rfl d178_192 (by decide) ?_
      refine ev_iadd (v := nI ((ai_qn (fun c => decide (σ.tr c ≠ 0)) k) + 0)) 194 rfl d178_193 (nI_add _ _) ?_
      refine ev_store_in 195 rfl d178_194 (Nat.le_of_ble_eq_true rfl) rfl ?_
      show ai_Ev _ _ _ [some (.ref 572), some (.int (nI 4)), some (.int (nI ((ai_qn (fun c => decide (σ.tr c ≠ 0)) k) + 0))), some (.int (nI k)), none] _ _ _
      refine ev_iinc (v := nI (k + 1)) 198 rfl d178_195 rfl (Nat.le_of_ble_eq_true rfl) (nI_add _ 1) rfl ?_
      show ai_Ev _ _ _ [some (.ref 572), some (.int (nI 4)), some (.int (nI ((ai_qn (fun c => decide (σ.tr c ≠ 0)) k) + 0))), some (.int (nI (k + 1))), none] _ _ _
      refine ev_goto 148 (by decide) d178_198 ?_
      have e8 : ai_qn (fun c => decide (σ.tr c ≠ 0)) (k + 1) = (ai_qn (fun c => decide (σ.tr c ≠ 0)) k) + 0 := qn_F (p := fun c => decide (σ.tr c ≠ 0)) (fun h9 => by
        have h8 := hV.tr k (by omega) (of_decide_eq_true h9)
        exact hq_158 ⟨h8.2.1, h8.1⟩)
      have h9 := ih (k + 1) (by omega)
      rw [e8] at h9
      exact h9
theorem m_st5 (G : ai_G S F) (hM : ai_RM σ I L) (hC : ai_RC σ I) (hV : ai_IV σ) : ∀ (z k : Nat), k + z = 200 → ai_Ev none 178 148 [some (.ref 572), some (.int (nI 5)), some (.int (nI (ai_qn (fun c => decide (σ.ag c ≠ 0)) k))), some (.int (nI k)), none] [] (S, I, L, F) (ai_Pp S F I L (.int (nI σ.nAg))) := by
  have hnT := hV.nT
  have hnQ := hV.nQ
  have hnJ := hV.nJ
  intro z
  induction z with
  | zero =>
    intro k hz
    have e9 : k = 200 := by omega
    subst e9
    refine ev_iload_n 149 rfl d178_148 rfl ?_
    refine ev_sipush (v := nI 200) 152 rfl d178_149 (by decide) ?_
    refine ev_icmp_T 201 (by decide) (by decide) d178_152 ?_
    refine ev_iload_n 202 rfl d178_201 rfl ?_
    refine ev_iret (Or.inl rfl) d178_202 ?_
    exact ⟨rfl, rfl⟩
  | succ z ih =>
    intro k hz
    refine ev_iload_n 149 rfl d178_148 rfl ?_
    refine ev_sipush (v := nI 200) 152 rfl d178_149 (by decide) ?_
    refine ev_icmp 201 155 (by decide) rfl (cn_ge (by omega) (by omega)) d178_152 (fun hc_152 => absurd hc_152 (by omega)) (fun hc_152 => ?_)
    refine ev_iload_n 156 rfl d178_155 rfl ?_
    refine ev_aload_n 157 rfl d178_156 rfl ?_
    refine ev_iload_n 158 rfl d178_157 rfl ?_
    refine ev_cb1 161 rfl 143 d178_158 rfl rfl (by rw [G.1 _ _ (rfl : ai_sp 572 = (9, 0)) (by decide) (by decide)]; rfl) (by omega) rfl (m_isThere G (r0_of hM) hV (by omega)) (fun hq_158 => ?_) (fun hq_158 => ?_)
    · have hfl := ag_le hV (c := k) (by omega)
      refine ev_if_F 192 164 (by decide) rfl (by decide) d178_161 ?_
      refine ev_iload_n 165 rfl d178_164 rfl ?_
      refine ev_iconst (v := nI 4) 166 rfl d178_165 (by decide) ?_
      refine ev_icmp_T 178 (by decide) (by decide) d178_166 ?_
      refine ev_aload_n 179 rfl d178_178 rfl ?_
      refine ev_getr 182 rfl 9 12 d178_179 rfl (by omega) (G.1 _ _ (rfl : ai_sp 572 = (9, 0)) (by decide) (by decide)) (G.2 _ _ _ (rfl : ai_rf 572 12 = some 582)) ?_
      refine ev_iload_n 183 rfl d178_182 rfl ?_
      refine ev_iald_n (v := nI (σ.ag k) - 1) 184 rfl d178_183 (by omega) (G.1 _ _ (rfl : ai_sp 582 = (100, 200)) (by decide) (by decide)) (by omega) (by decide) (hM.ag _ (by omega) (by omega)) ?_
      refine ev_iconst (v := (-1)) 185 rfl d178_184 (by decide) ?_
      refine ev_icmp 192 188 (by decide) rfl (cq_eq (by omega)) d178_185 (fun hc_185 => ?_) (fun hc_185 => ?_)
      · refine ev_iconst (v := nI 0) 193 rfl d178_192 (by decide) ?_
        refine ev_iadd (v := nI ((ai_qn (fun c => decide (σ.ag c ≠ 0)) k) + 0)) 194 rfl d178_193 (nI_add _ _) ?_
        refine ev_store_in 195 rfl d178_194 (Nat.le_of_ble_eq_true rfl) rfl ?_
        show ai_Ev _ _ _ [some (.ref 572), some (.int (nI 5)), some (.int (nI ((ai_qn (fun c => decide (σ.ag c ≠ 0)) k) + 0))), some (.int (nI k)), none] _ _ _
        refine ev_iinc (v := nI (k + 1)) 198 rfl d178_195 rfl (Nat.le_of_ble_eq_true rfl) (nI_add _ 1) rfl ?_
        show ai_Ev _ _ _ [some (.ref 572), some (.int (nI 5)), some (.int (nI ((ai_qn (fun c => decide (σ.ag c ≠ 0)) k) + 0))), some (.int (nI (k + 1))), none] _ _ _
        refine ev_goto 148 (by decide) d178_198 ?_
        have e8 : ai_qn (fun c => decide (σ.ag c ≠ 0)) (k + 1) = (ai_qn (fun c => decide (σ.ag c ≠ 0)) k) + 0 := qn_F (p := fun c => decide (σ.ag c ≠ 0)) (fun h9 => absurd hc_185 (of_decide_eq_true h9))
        have h9 := ih (k + 1) (by omega)
        rw [e8] at h9
        exact h9
      · refine ev_iconst (v := nI 1) 189 rfl d178_188 (by decide) ?_
        refine ev_goto 193 (by decide) d178_189 ?_
        refine ev_iadd (v := nI ((ai_qn (fun c => decide (σ.ag c ≠ 0)) k) + 1)) 194 rfl d178_193 (nI_add _ _) ?_
        refine ev_store_in 195 rfl d178_194 (Nat.le_of_ble_eq_true rfl) rfl ?_
        show ai_Ev _ _ _ [some (.ref 572), some (.int (nI 5)), some (.int (nI ((ai_qn (fun c => decide (σ.ag c ≠ 0)) k) + 1))), some (.int (nI k)), none] _ _ _
        refine ev_iinc (v := nI (k + 1)) 198 rfl d178_195 rfl (Nat.le_of_ble_eq_true rfl) (nI_add _ 1) rfl ?_
        show ai_Ev _ _ _ [some (.ref 572), some (.int (nI 5)), some (.int (nI ((ai_qn (fun c => decide (σ.ag c ≠ 0)) k) + 1))), some (.int (nI (k + 1))), none] _ _ _
        refine ev_goto 148 (by decide) d178_198 ?_
        have e8 : ai_qn (fun c => decide (σ.ag c ≠ 0)) (k + 1) = (ai_qn (fun c => decide (σ.ag c ≠ 0)) k) + 1 := qn_T (p := fun c => decide (σ.ag c ≠ 0)) (decide_eq_true hc_185)
        have h9 := ih (k + 1) (by omega)
        rw [e8] at h9
        exact h9
    · refine ev_if_T 192 (by decide) (by decide) d178_161 ?_
      refine ev_iconst (v := nI 0) 193 rfl d178_192 (by decide) ?_
      refine ev_iadd (v := nI ((ai_qn (fun c => decide (σ.ag c ≠ 0)) k) + 0)) 194 rfl d178_193 (nI_add _ _) ?_
      refine ev_store_in 195 rfl d178_194 (Nat.le_of_ble_eq_true rfl) rfl ?_
      show ai_Ev _ _ _ [some (.ref 572), some (.int (nI 5)), some (.int (nI ((ai_qn (fun c => decide (σ.ag c ≠ 0)) k) + 0))), some (.int (nI k)), none] _ _ _
      refine ev_iinc (v := nI (k + 1)) 198 rfl d178_195 rfl (Nat.le_of_ble_eq_true rfl) (nI_add _ 1) rfl ?_
      show ai_Ev _ _ _ [some (.ref 572), some (.int (nI 5)), some (.int (nI ((ai_qn (fun c => decide (σ.ag c ≠ 0)) k) + 0))), some (.int (nI (k + 1))), none] _ _ _
      refine ev_goto 148 (by decide) d178_198 ?_
      have e8 : ai_qn (fun c => decide (σ.ag c ≠ 0)) (k + 1) = (ai_qn (fun c => decide (σ.ag c ≠ 0)) k) + 0 := qn_F (p := fun c => decide (σ.ag c ≠ 0)) (fun h9 => by
        have h8 := hV.ag k (by omega) (of_decide_eq_true h9)
        exact hq_158 ⟨h8.2.1, h8.1⟩)
      have h9 := ih (k + 1) (by omega)
      rw [e8] at h9
      exact h9
theorem oe_T3 {c : Nat} (h : c / 5 < σ.nT ∧ c % 5 < σ.nQ) (h1 : σ.isOpen c = true) (h2 : σ.ended c = true) : σ.oe c = true := by unfold ai_S.oe; rw [there_yes h, h1, h2]; rfl
theorem oe_F3 {c : Nat} (h : σ.oe c = true) (h2 : ¬ (σ.isOpen c = true ∧ σ.ended c = true)) : False := by
  unfold ai_S.oe at h
  rw [Bool.and_eq_true, Bool.and_eq_true] at h
  exact h2 h.2
theorem m_st6 (G : ai_G S F) (hM : ai_RM σ I L) (hC : ai_RC σ I) (hV : ai_IV σ) (hJA : ai_JA σ I 200) : ∀ (z k : Nat), k + z = 200 → ai_Ev none 178 209 [some (.ref 572), some (.int (nI 6)), some (.int (nI (ai_qn σ.oe k))), some (.int (nI k)), none] [] (S, I, L, F) (ai_Pp S F I L (.int (nI σ.nOE))) := by
  have hnT := hV.nT
  have hnQ := hV.nQ
  have hnJ := hV.nJ
  intro z
  induction z with
  | zero =>
    intro k hz
    have e9 : k = 200 := by omega
    subst e9
    refine ev_iload_n 210 rfl d178_209 rfl ?_
    refine ev_sipush (v := nI 200) 213 rfl d178_210 (by decide) ?_
    refine ev_icmp_T 256 (by decide) (by decide) d178_213 ?_
    refine ev_iload_n 257 rfl d178_256 rfl ?_
    refine ev_iret (Or.inl rfl) d178_257 ?_
    exact ⟨rfl, rfl⟩
  | succ z ih =>
    intro k hz
    refine ev_iload_n 210 rfl d178_209 rfl ?_
    refine ev_sipush (v := nI 200) 213 rfl d178_210 (by decide) ?_
    refine ev_icmp 256 216 (by decide) rfl (cn_ge (by omega) (by omega)) d178_213 (fun hc_213 => absurd hc_213 (by omega)) (fun hc_213 => ?_)
    refine ev_iload_n 217 rfl d178_216 rfl ?_
    refine ev_aload_n 218 rfl d178_217 rfl ?_
    refine ev_iload_n 219 rfl d178_218 rfl ?_
    refine ev_cb1 222 rfl 143 d178_219 rfl rfl (by rw [G.1 _ _ (rfl : ai_sp 572 = (9, 0)) (by decide) (by decide)]; rfl) (by omega) rfl (m_isThere G (r0_of hM) hV (by omega)) (fun hq_219 => ?_) (fun hq_219 => ?_)
    · have hj9 := hJA k (by omega) (by omega) (by omega)
      have hq1 := qb_lt (σ.isOpen k)
      have hq2 := qb_lt (σ.ended k)
      refine ev_if_F 247 225 (by decide) rfl (by decide) d178_222 ?_
      refine ev_aload_n 226 rfl d178_225 rfl ?_
      refine ev_getr 229 rfl 9 32 d178_226 rfl (by omega) (G.1 _ _ (rfl : ai_sp 572 = (9, 0)) (by decide) (by decide)) (G.2 _ _ _ (rfl : ai_rf 572 32 = some 597)) ?_
      refine ev_iload_n 230 rfl d178_229 rfl ?_
      refine ev_bald_n (v := nI (ai_qb (σ.isOpen k))) 231 rfl d178_230 (by omega) (by decide) (G.1 _ _ (rfl : ai_sp 597 = (102, 200)) (by decide) (by decide)) (by omega) (by decide) hj9.2.2 ?_
      refine ev_if 247 234 (by decide) rfl (c0_eq (by omega)) d178_231 (fun hc_231 => ?_) (fun hc_231 => ?_)
      · refine ev_iconst (v := nI 0) 248 rfl d178_247 (by decide) ?_
        refine ev_iadd (v := nI ((ai_qn σ.oe k) + 0)) 249 rfl d178_248 (nI_add _ _) ?_
        refine ev_store_in 250 rfl d178_249 (Nat.le_of_ble_eq_true rfl) rfl ?_
        show ai_Ev _ _ _ [some (.ref 572), some (.int (nI 6)), some (.int (nI ((ai_qn σ.oe k) + 0))), some (.int (nI k)), none] _ _ _
        refine ev_iinc (v := nI (k + 1)) 253 rfl d178_250 rfl (Nat.le_of_ble_eq_true rfl) (nI_add _ 1) rfl ?_
        show ai_Ev _ _ _ [some (.ref 572), some (.int (nI 6)), some (.int (nI ((ai_qn σ.oe k) + 0))), some (.int (nI (k + 1))), none] _ _ _
        refine ev_goto 209 (by decide) d178_253 ?_
        have e8 : ai_qn σ.oe (k + 1) = (ai_qn σ.oe k) + 0 := qn_F (p := σ.oe) (fun h9 => oe_F3 h9 (by first | exact fun h8 => qb_0 hc_231 h8.1 | exact fun h8 => qb_0 hc_240 h8.2))
        have h9 := ih (k + 1) (by omega)
        rw [e8] at h9
        exact h9
      · refine ev_aload_n 235 rfl d178_234 rfl ?_
        refine ev_getr 238 rfl 9 31 d178_235 rfl (by omega) (G.1 _ _ (rfl : ai_sp 572 = (9, 0)) (by decide) (by decide)) (G.2 _ _ _ (rfl : ai_rf 572 31 = some 596)) ?_
        refine ev_iload_n 239 rfl d178_238 rfl ?_
        refine ev_bald_n (v := nI (ai_qb (σ.ended k))) 240 rfl d178_239 (by omega) (by decide) (G.1 _ _ (rfl : ai_sp 596 = (102, 200)) (by decide) (by decide)) (by omega) (by decide) hj9.2.1 ?_
        refine ev_if 247 243 (by decide) rfl (c0_eq (by omega)) d178_240 (fun hc_240 => ?_) (fun hc_240 => ?_)
        · refine ev_iconst (v := nI 0) 248 rfl d178_247 (by decide) ?_
          refine ev_iadd (v := nI ((ai_qn σ.oe k) + 0)) 249 rfl d178_248 (nI_add _ _) ?_
          refine ev_store_in 250 rfl d178_249 (Nat.le_of_ble_eq_true rfl) rfl ?_
          show ai_Ev _ _ _ [some (.ref 572), some (.int (nI 6)), some (.int (nI ((ai_qn σ.oe k) + 0))), some (.int (nI k)), none] _ _ _
          refine ev_iinc (v := nI (k + 1)) 253 rfl d178_250 rfl (Nat.le_of_ble_eq_true rfl) (nI_add _ 1) rfl ?_
          show ai_Ev _ _ _ [some (.ref 572), some (.int (nI 6)), some (.int (nI ((ai_qn σ.oe k) + 0))), some (.int (nI (k + 1))), none] _ _ _
          refine ev_goto 209 (by decide) d178_253 ?_
          have e8 : ai_qn σ.oe (k + 1) = (ai_qn σ.oe k) + 0 := qn_F (p := σ.oe) (fun h9 => oe_F3 h9 (by first | exact fun h8 => qb_0 hc_231 h8.1 | exact fun h8 => qb_0 hc_240 h8.2))
          have h9 := ih (k + 1) (by omega)
          rw [e8] at h9
          exact h9
        · refine ev_iconst (v := nI 1) 244 rfl d178_243 (by decide) ?_
          refine ev_goto 248 (by decide) d178_244 ?_
          refine ev_iadd (v := nI ((ai_qn σ.oe k) + 1)) 249 rfl d178_248 (nI_add _ _) ?_
          refine ev_store_in 250 rfl d178_249 (Nat.le_of_ble_eq_true rfl) rfl ?_
          show ai_Ev _ _ _ [some (.ref 572), some (.int (nI 6)), some (.int (nI ((ai_qn σ.oe k) + 1))), some (.int (nI k)), none] _ _ _
          refine ev_iinc (v := nI (k + 1)) 253 rfl d178_250 rfl (Nat.le_of_ble_eq_true rfl) (nI_add _ 1) rfl ?_
          show ai_Ev _ _ _ [some (.ref 572), some (.int (nI 6)), some (.int (nI ((ai_qn σ.oe k) + 1))), some (.int (nI (k + 1))), none] _ _ _
          refine ev_goto 209 (by decide) d178_253 ?_
          have e8 : ai_qn σ.oe (k + 1) = (ai_qn σ.oe k) + 1 := qn_T (p := σ.oe) (oe_T3 ⟨by omega, by omega⟩ (qb_1 hc_231) (qb_1 hc_240))
          have h9 := ih (k + 1) (by omega)
          rw [e8] at h9
          exact h9
    · refine ev_if_T 247 (by decide) (by decide) d178_222 ?_
      refine ev_iconst (v := nI 0) 248 rfl d178_247 (by decide) ?_
      refine ev_iadd (v := nI ((ai_qn σ.oe k) + 0)) 249 rfl d178_248 (nI_add _ _) ?_
      refine ev_store_in 250 rfl d178_249 (Nat.le_of_ble_eq_true rfl) rfl ?_
      show ai_Ev _ _ _ [some (.ref 572), some (.int (nI 6)), some (.int (nI ((ai_qn σ.oe k) + 0))), some (.int (nI k)), none] _ _ _
      refine ev_iinc (v := nI (k + 1)) 253 rfl d178_250 rfl (Nat.le_of_ble_eq_true rfl) (nI_add _ 1) rfl ?_
      show ai_Ev _ _ _ [some (.ref 572), some (.int (nI 6)), some (.int (nI ((ai_qn σ.oe k) + 0))), some (.int (nI (k + 1))), none] _ _ _
      refine ev_goto 209 (by decide) d178_253 ?_
      have e8 : ai_qn σ.oe (k + 1) = (ai_qn σ.oe k) + 0 := qn_F (p := σ.oe) (by rw [oe_no (by omega)]; decide)
      have h9 := ih (k + 1) (by omega)
      rw [e8] at h9
      exact h9
theorem st7_no (hV : ai_IV σ) {j k : Nat} (hk : k < 200) (h : ¬ (σ.lf j = false ∧ k % 5 < σ.nQ ∧ k / 5 < σ.nT)) : ¬ (fun c => !(σ.gv j c == 0)) k = true := fun h9 => by
  have h0 : σ.gv j k ≠ 0 := fun e => by simp [e] at h9
  have h1 := hV.gv j k hk h0
  exact h ⟨h1.2.1, h1.2.2.2.1, h1.2.2.1⟩
theorem m_st7_in (G : ai_G S F) (hM : ai_RM σ I L) (hC : ai_RC σ I) (hV : ai_IV σ) {j : Nat} (hj : j < σ.nJ) {Q : Option Value → ai_H → Prop} (hkk : ai_Ev none 178 353 [some (.ref 572), some (.int (nI 7)), some (.int (nI (ai_qs σ.given (j + 1)))), some (.int (nI j)), some (.int (nI 200))] [] (S, I, L, F) Q) : ∀ (z k : Nat), k + z = 200 → ai_Ev none 178 271 [some (.ref 572), some (.int (nI 7)), some (.int (nI (ai_qs σ.given j + ai_qn (fun c => !(σ.gv j c == 0)) k))), some (.int (nI j)), some (.int (nI k))] [] (S, I, L, F) Q := by
  have hnT := hV.nT
  have hnQ := hV.nQ
  have hnJ := hV.nJ
  intro z
  induction z with
  | zero =>
    intro k hz
    have e9 : k = 200 := by omega
    subst e9
    refine ev_iload 273 rfl d178_271 rfl ?_
    refine ev_sipush (v := nI 200) 276 rfl d178_273 (by decide) ?_
    refine ev_icmp_T 353 (by decide) (by decide) d178_276 ?_
    exact hkk
  | succ z ih =>
    intro k hz
    refine ev_iload 273 rfl d178_271 rfl ?_
    refine ev_sipush (v := nI 200) 276 rfl d178_273 (by decide) ?_
    refine ev_icmp 353 279 (by decide) rfl (cn_ge (by omega) (by omega)) d178_276 (fun hc_276 => absurd hc_276 (by omega)) (fun hc_276 => ?_)
    refine ev_iload_n 280 rfl d178_279 rfl ?_
    refine ev_aload_n 281 rfl d178_280 rfl ?_
    refine ev_getr 284 rfl 9 13 d178_281 rfl (by omega) (G.1 _ _ (rfl : ai_sp 572 = (9, 0)) (by decide) (by decide)) (G.2 _ _ _ (rfl : ai_rf 572 13 = some 583)) ?_
    refine ev_iload_n 285 rfl d178_284 rfl ?_
    refine ev_bald_n (v := nI (ai_qb (σ.lf j))) 286 rfl d178_285 (by omega) (by decide) (G.1 _ _ (rfl : ai_sp 583 = (102, 24)) (by decide) (by decide)) (by omega) (by decide) (hM.lf _ (by omega)) ?_
    have hql := qb_lt (σ.lf j)
    refine ev_if 344 289 (by decide) rfl (c0_ne (by omega)) d178_286 (fun hc_286 => ?_) (fun hc_286 => ?_)
    · refine ev_iconst (v := nI 0) 345 rfl d178_344 (by decide) ?_
      refine ev_iadd (v := nI ((ai_qs σ.given j + ai_qn (fun c => !(σ.gv j c == 0)) k) + 0)) 346 rfl d178_345 (nI_add _ _) ?_
      refine ev_store_in 347 rfl d178_346 (Nat.le_of_ble_eq_true rfl) rfl ?_
      show ai_Ev _ _ _ [some (.ref 572), some (.int (nI 7)), some (.int (nI ((ai_qs σ.given j + ai_qn (fun c => !(σ.gv j c == 0)) k) + 0))), some (.int (nI j)), some (.int (nI k))] _ _ _
      refine ev_iinc (v := nI (k + 1)) 350 rfl d178_347 rfl (Nat.le_of_ble_eq_true rfl) (nI_add _ 1) rfl ?_
      show ai_Ev _ _ _ [some (.ref 572), some (.int (nI 7)), some (.int (nI ((ai_qs σ.given j + ai_qn (fun c => !(σ.gv j c == 0)) k) + 0))), some (.int (nI j)), some (.int (nI (k + 1)))] _ _ _
      refine ev_goto 271 (by decide) d178_350 ?_
      have e8 : ai_qs σ.given j + ai_qn (fun c => !(σ.gv j c == 0)) (k + 1) = (ai_qs σ.given j + ai_qn (fun c => !(σ.gv j c == 0)) k) + 0 := by
        rw [qn_F (p := fun c => !(σ.gv j c == 0)) (st7_no hV (by omega) (fun h8 => by rw [qb_1 hc_286] at h8; exact absurd h8.1 (by decide)))]; omega
      have h9 := ih (k + 1) (by omega)
      rw [e8] at h9
      exact h9
    · have hlj : σ.lf j = false := nb_F (qb_0 (by omega))
      refine ev_aload_n 290 rfl d178_289 rfl ?_
      refine ev_iload 292 rfl d178_290 rfl ?_
      refine ev_cb1 295 rfl 143 d178_292 rfl rfl (by rw [G.1 _ _ (rfl : ai_sp 572 = (9, 0)) (by decide) (by decide)]; rfl) (by omega) rfl (m_isThere G (r0_of hM) hV (by omega)) (fun hq_292 => ?_) (fun hq_292 => ?_)
      · have hsy := sy_le (σ := σ) (j := j) (c := k)
        have hqb := qb_lt (σ.ctd j k)
        refine ev_if_F 344 298 (by decide) rfl (by decide) d178_295 ?_
        refine ev_iload_n 299 rfl d178_298 rfl ?_
        refine ev_bipush (v := nI 8) 301 rfl d178_299 (by decide) ?_
        refine ev_icmp_T 323 (by decide) (by decide) d178_301 ?_
        refine ev_aload_n 324 rfl d178_323 rfl ?_
        refine ev_getr 327 rfl 9 16 d178_324 rfl (by omega) (G.1 _ _ (rfl : ai_sp 572 = (9, 0)) (by decide) (by decide)) (G.2 _ _ _ (rfl : ai_rf 572 16 = some 586)) ?_
        refine ev_sipush (v := nI 200) 330 rfl d178_327 (by decide) ?_
        refine ev_iload_n 331 rfl d178_330 rfl ?_
        refine ev_imul (v := nI (200 * j)) 332 rfl d178_331 (pk_mul _ _) ?_
        refine ev_iload 334 rfl d178_332 rfl ?_
        refine ev_iadd (v := nI ((200 * j) + k)) 335 rfl d178_334 (nI_add _ _) ?_
        refine ev_iald_n (v := nI (σ.sy j k) - 1) 336 rfl d178_335 (by omega) (G.1 _ _ (rfl : ai_sp 586 = (100, 4800)) (by decide) (by decide)) (by omega) (by decide) (rm_gv hM (j := j) (c := k) (by omega) (by omega) (by omega) hlj (by omega)) ?_
        refine ev_iconst (v := (-1)) 337 rfl d178_336 (by decide) ?_
        refine ev_icmp 344 340 (by decide) rfl (cq_eq (by omega)) d178_337 (fun hc_337 => ?_) (fun hc_337 => ?_)
        · refine ev_iconst (v := nI 0) 345 rfl d178_344 (by decide) ?_
          refine ev_iadd (v := nI ((ai_qs σ.given j + ai_qn (fun c => !(σ.gv j c == 0)) k) + 0)) 346 rfl d178_345 (nI_add _ _) ?_
          refine ev_store_in 347 rfl d178_346 (Nat.le_of_ble_eq_true rfl) rfl ?_
          show ai_Ev _ _ _ [some (.ref 572), some (.int (nI 7)), some (.int (nI ((ai_qs σ.given j + ai_qn (fun c => !(σ.gv j c == 0)) k) + 0))), some (.int (nI j)), some (.int (nI k))] _ _ _
          refine ev_iinc (v := nI (k + 1)) 350 rfl d178_347 rfl (Nat.le_of_ble_eq_true rfl) (nI_add _ 1) rfl ?_
          show ai_Ev _ _ _ [some (.ref 572), some (.int (nI 7)), some (.int (nI ((ai_qs σ.given j + ai_qn (fun c => !(σ.gv j c == 0)) k) + 0))), some (.int (nI j)), some (.int (nI (k + 1)))] _ _ _
          refine ev_goto 271 (by decide) d178_350 ?_
          have e8 : ai_qs σ.given j + ai_qn (fun c => !(σ.gv j c == 0)) (k + 1) = (ai_qs σ.given j + ai_qn (fun c => !(σ.gv j c == 0)) k) + 0 := by
            rw [qn_F (p := fun c => !(σ.gv j c == 0)) (fun h9 => by simp [sy_0.mp hc_337] at h9)]; omega
          have h9 := ih (k + 1) (by omega)
          rw [e8] at h9
          exact h9
        · refine ev_iconst (v := nI 1) 341 rfl d178_340 (by decide) ?_
          refine ev_goto 345 (by decide) d178_341 ?_
          refine ev_iadd (v := nI ((ai_qs σ.given j + ai_qn (fun c => !(σ.gv j c == 0)) k) + 1)) 346 rfl d178_345 (nI_add _ _) ?_
          refine ev_store_in 347 rfl d178_346 (Nat.le_of_ble_eq_true rfl) rfl ?_
          show ai_Ev _ _ _ [some (.ref 572), some (.int (nI 7)), some (.int (nI ((ai_qs σ.given j + ai_qn (fun c => !(σ.gv j c == 0)) k) + 1))), some (.int (nI j)), some (.int (nI k))] _ _ _
          refine ev_iinc (v := nI (k + 1)) 350 rfl d178_347 rfl (Nat.le_of_ble_eq_true rfl) (nI_add _ 1) rfl ?_
          show ai_Ev _ _ _ [some (.ref 572), some (.int (nI 7)), some (.int (nI ((ai_qs σ.given j + ai_qn (fun c => !(σ.gv j c == 0)) k) + 1))), some (.int (nI j)), some (.int (nI (k + 1)))] _ _ _
          refine ev_goto 271 (by decide) d178_350 ?_
          have e8 : ai_qs σ.given j + ai_qn (fun c => !(σ.gv j c == 0)) (k + 1) = (ai_qs σ.given j + ai_qn (fun c => !(σ.gv j c == 0)) k) + 1 := by
            rw [qn_T (p := fun c => !(σ.gv j c == 0)) (by
              have h8 : ¬ σ.gv j k = 0 := fun e => hc_337 (sy_0.mpr e)
              simp [h8])]; omega
          have h9 := ih (k + 1) (by omega)
          rw [e8] at h9
          exact h9
      · refine ev_if_T 344 (by decide) (by decide) d178_295 ?_
        refine ev_iconst (v := nI 0) 345 rfl d178_344 (by decide) ?_
        refine ev_iadd (v := nI ((ai_qs σ.given j + ai_qn (fun c => !(σ.gv j c == 0)) k) + 0)) 346 rfl d178_345 (nI_add _ _) ?_
        refine ev_store_in 347 rfl d178_346 (Nat.le_of_ble_eq_true rfl) rfl ?_
        show ai_Ev _ _ _ [some (.ref 572), some (.int (nI 7)), some (.int (nI ((ai_qs σ.given j + ai_qn (fun c => !(σ.gv j c == 0)) k) + 0))), some (.int (nI j)), some (.int (nI k))] _ _ _
        refine ev_iinc (v := nI (k + 1)) 350 rfl d178_347 rfl (Nat.le_of_ble_eq_true rfl) (nI_add _ 1) rfl ?_
        show ai_Ev _ _ _ [some (.ref 572), some (.int (nI 7)), some (.int (nI ((ai_qs σ.given j + ai_qn (fun c => !(σ.gv j c == 0)) k) + 0))), some (.int (nI j)), some (.int (nI (k + 1)))] _ _ _
        refine ev_goto 271 (by decide) d178_350 ?_
        have e8 : ai_qs σ.given j + ai_qn (fun c => !(σ.gv j c == 0)) (k + 1) = (ai_qs σ.given j + ai_qn (fun c => !(σ.gv j c == 0)) k) + 0 := by
          rw [qn_F (p := fun c => !(σ.gv j c == 0)) (st7_no hV (by omega) (fun h8 => hq_292 ⟨h8.2.1, h8.2.2⟩))]; omega
        have h9 := ih (k + 1) (by omega)
        rw [e8] at h9
        exact h9
theorem m_st7 (G : ai_G S F) (hM : ai_RM σ I L) (hC : ai_RC σ I) (hV : ai_IV σ) : ∀ (z j : Nat) (u4 : Option Value), j + z = σ.nJ → ai_Ev none 178 260 [some (.ref 572), some (.int (nI 7)), some (.int (nI (ai_qs σ.given j))), some (.int (nI j)), u4] [] (S, I, L, F) (ai_Pp S F I L (.int (nI σ.nGiven))) := by
  have hnT := hV.nT
  have hnQ := hV.nQ
  have hnJ := hV.nJ
  intro z
  induction z with
  | zero =>
    intro j u4 hz
    have e9 : j = σ.nJ := by omega
    subst e9
    refine ev_iload_n 261 rfl d178_260 rfl ?_
    refine ev_aload_n 262 rfl d178_261 rfl ?_
    refine ev_geti (v := nI σ.nJ) 265 rfl 9 7 d178_262 rfl (by omega) (G.1 _ _ (rfl : ai_sp 572 = (9, 0)) (by decide) (by decide)) hM.nJ ?_
    refine ev_icmp 359 268 (by decide) rfl (cn_ge (by omega) (by omega)) d178_265 (fun hc_265 => ?_) (fun hc_265 => absurd hc_265 (by omega))
    refine ev_iload_n 360 rfl d178_359 rfl ?_
    refine ev_iret (Or.inl rfl) d178_360 ?_
    exact ⟨rfl, rfl⟩
  | succ z ih =>
    intro j u4 hz
    refine ev_iload_n 261 rfl d178_260 rfl ?_
    refine ev_aload_n 262 rfl d178_261 rfl ?_
    refine ev_geti (v := nI σ.nJ) 265 rfl 9 7 d178_262 rfl (by omega) (G.1 _ _ (rfl : ai_sp 572 = (9, 0)) (by decide) (by decide)) hM.nJ ?_
    refine ev_icmp 359 268 (by decide) rfl (cn_ge (by omega) (by omega)) d178_265 (fun hc_265 => absurd hc_265 (by omega)) (fun hc_265 => ?_)
    refine ev_iconst (v := nI 0) 269 rfl d178_268 (by decide) ?_
    refine ev_store_i 271 rfl d178_269 ⟨rfl, Nat.le_of_ble_eq_true rfl⟩ rfl ?_
    show ai_Ev _ _ _ [some (.ref 572), some (.int (nI 7)), some (.int (nI (ai_qs σ.given j))), some (.int (nI j)), some (.int (nI 0))] _ _ _
    refine m_st7_in G hM hC hV (by omega) ?_ 200 0 (by omega)
    refine ev_iinc (v := nI (j + 1)) 356 rfl d178_353 rfl (Nat.le_of_ble_eq_true rfl) (nI_add _ 1) rfl ?_
    show ai_Ev _ _ _ [some (.ref 572), some (.int (nI 7)), some (.int (nI (ai_qs σ.given (j + 1)))), some (.int (nI (j + 1))), some (.int (nI 200))] _ _ _
    refine ev_goto 260 (by decide) d178_356 ?_
    exact ih (j + 1) (some (.int (nI 200))) (by omega)
theorem st8_no (hV : ai_IV σ) {j k : Nat} (hk : k < 200) (h : ¬ (σ.lf j = false ∧ k % 5 < σ.nQ ∧ k / 5 < σ.nT)) : ¬ (fun c => σ.ctd j c) k = true := fun h9 => by
  have h0 : σ.gv j k ≠ 0 := ctd_gv h9
  have h1 := hV.gv j k hk h0
  exact h ⟨h1.2.1, h1.2.2.2.1, h1.2.2.1⟩
theorem m_st8_in (G : ai_G S F) (hM : ai_RM σ I L) (hC : ai_RC σ I) (hV : ai_IV σ) {j : Nat} (hj : j < σ.nJ) {Q : Option Value → ai_H → Prop} (hkk : ai_Ev none 178 353 [some (.ref 572), some (.int (nI 8)), some (.int (nI (ai_qs σ.cnts (j + 1)))), some (.int (nI j)), some (.int (nI 200))] [] (S, I, L, F) Q) : ∀ (z k : Nat), k + z = 200 → ai_Ev none 178 271 [some (.ref 572), some (.int (nI 8)), some (.int (nI (ai_qs σ.cnts j + ai_qn (fun c => σ.ctd j c) k))), some (.int (nI j)), some (.int (nI k))] [] (S, I, L, F) Q := by
  have hnT := hV.nT
  have hnQ := hV.nQ
  have hnJ := hV.nJ
  intro z
  induction z with
  | zero =>
    intro k hz
    have e9 : k = 200 := by omega
    subst e9
    refine ev_iload 273 rfl d178_271 rfl ?_
    refine ev_sipush (v := nI 200) 276 rfl d178_273 (by decide) ?_
    refine ev_icmp_T 353 (by decide) (by decide) d178_276 ?_
    exact hkk
  | succ z ih =>
    intro k hz
    refine ev_iload 273 rfl d178_271 rfl ?_
    refine ev_sipush (v := nI 200) 276 rfl d178_273 (by decide) ?_
    refine ev_icmp 353 279 (by decide) rfl (cn_ge (by omega) (by omega)) d178_276 (fun hc_276 => absurd hc_276 (by omega)) (fun hc_276 => ?_)
    refine ev_iload_n 280 rfl d178_279 rfl ?_
    refine ev_aload_n 281 rfl d178_280 rfl ?_
    refine ev_getr 284 rfl 9 13 d178_281 rfl (by omega) (G.1 _ _ (rfl : ai_sp 572 = (9, 0)) (by decide) (by decide)) (G.2 _ _ _ (rfl : ai_rf 572 13 = some 583)) ?_
    refine ev_iload_n 285 rfl d178_284 rfl ?_
    refine ev_bald_n (v := nI (ai_qb (σ.lf j))) 286 rfl d178_285 (by omega) (by decide) (G.1 _ _ (rfl : ai_sp 583 = (102, 24)) (by decide) (by decide)) (by omega) (by decide) (hM.lf _ (by omega)) ?_
    have hql := qb_lt (σ.lf j)
    refine ev_if 344 289 (by decide) rfl (c0_ne (by omega)) d178_286 (fun hc_286 => ?_) (fun hc_286 => ?_)
    · refine ev_iconst (v := nI 0) 345 rfl d178_344 (by decide) ?_
      refine ev_iadd (v := nI ((ai_qs σ.cnts j + ai_qn (fun c => σ.ctd j c) k) + 0)) 346 rfl d178_345 (nI_add _ _) ?_
      refine ev_store_in 347 rfl d178_346 (Nat.le_of_ble_eq_true rfl) rfl ?_
      show ai_Ev _ _ _ [some (.ref 572), some (.int (nI 8)), some (.int (nI ((ai_qs σ.cnts j + ai_qn (fun c => σ.ctd j c) k) + 0))), some (.int (nI j)), some (.int (nI k))] _ _ _
      refine ev_iinc (v := nI (k + 1)) 350 rfl d178_347 rfl (Nat.le_of_ble_eq_true rfl) (nI_add _ 1) rfl ?_
      show ai_Ev _ _ _ [some (.ref 572), some (.int (nI 8)), some (.int (nI ((ai_qs σ.cnts j + ai_qn (fun c => σ.ctd j c) k) + 0))), some (.int (nI j)), some (.int (nI (k + 1)))] _ _ _
      refine ev_goto 271 (by decide) d178_350 ?_
      have e8 : ai_qs σ.cnts j + ai_qn (fun c => σ.ctd j c) (k + 1) = (ai_qs σ.cnts j + ai_qn (fun c => σ.ctd j c) k) + 0 := by
        rw [qn_F (p := fun c => σ.ctd j c) (st8_no hV (by omega) (fun h8 => by rw [qb_1 hc_286] at h8; exact absurd h8.1 (by decide)))]; omega
      have h9 := ih (k + 1) (by omega)
      rw [e8] at h9
      exact h9
    · have hlj : σ.lf j = false := nb_F (qb_0 (by omega))
      refine ev_aload_n 290 rfl d178_289 rfl ?_
      refine ev_iload 292 rfl d178_290 rfl ?_
      refine ev_cb1 295 rfl 143 d178_292 rfl rfl (by rw [G.1 _ _ (rfl : ai_sp 572 = (9, 0)) (by decide) (by decide)]; rfl) (by omega) rfl (m_isThere G (r0_of hM) hV (by omega)) (fun hq_292 => ?_) (fun hq_292 => ?_)
      · have hsy := sy_le (σ := σ) (j := j) (c := k)
        have hqb := qb_lt (σ.ctd j k)
        refine ev_if_F 344 298 (by decide) rfl (by decide) d178_295 ?_
        refine ev_iload_n 299 rfl d178_298 rfl ?_
        refine ev_bipush (v := nI 8) 301 rfl d178_299 (by decide) ?_
        refine ev_icmp_F 323 304 (by decide) rfl (by decide) d178_301 ?_
        refine ev_aload_n 305 rfl d178_304 rfl ?_
        refine ev_getr 308 rfl 9 18 d178_305 rfl (by omega) (G.1 _ _ (rfl : ai_sp 572 = (9, 0)) (by decide) (by decide)) (G.2 _ _ _ (rfl : ai_rf 572 18 = some 588)) ?_
        refine ev_sipush (v := nI 200) 311 rfl d178_308 (by decide) ?_
        refine ev_iload_n 312 rfl d178_311 rfl ?_
        refine ev_imul (v := nI (200 * j)) 313 rfl d178_312 (pk_mul _ _) ?_
        refine ev_iload 315 rfl d178_313 rfl ?_
        refine ev_iadd (v := nI ((200 * j) + k)) 316 rfl d178_315 (nI_add _ _) ?_
        refine ev_bald_n (v := nI (ai_qb (σ.ctd j k))) 317 rfl d178_316 (by omega) (by decide) (G.1 _ _ (rfl : ai_sp 588 = (102, 4800)) (by decide) (by decide)) (by omega) (by decide) (rm_ct hC (j := j) (c := k) (by omega) (by omega) (by omega)) ?_
        refine ev_if 344 320 (by decide) rfl (c0_eq (by omega)) d178_317 (fun hc_317 => ?_) (fun hc_317 => ?_)
        · refine ev_iconst (v := nI 0) 345 rfl d178_344 (by decide) ?_
          refine ev_iadd (v := nI ((ai_qs σ.cnts j + ai_qn (fun c => σ.ctd j c) k) + 0)) 346 rfl d178_345 (nI_add _ _) ?_
          refine ev_store_in 347 rfl d178_346 (Nat.le_of_ble_eq_true rfl) rfl ?_
          show ai_Ev _ _ _ [some (.ref 572), some (.int (nI 8)), some (.int (nI ((ai_qs σ.cnts j + ai_qn (fun c => σ.ctd j c) k) + 0))), some (.int (nI j)), some (.int (nI k))] _ _ _
          refine ev_iinc (v := nI (k + 1)) 350 rfl d178_347 rfl (Nat.le_of_ble_eq_true rfl) (nI_add _ 1) rfl ?_
          show ai_Ev _ _ _ [some (.ref 572), some (.int (nI 8)), some (.int (nI ((ai_qs σ.cnts j + ai_qn (fun c => σ.ctd j c) k) + 0))), some (.int (nI j)), some (.int (nI (k + 1)))] _ _ _
          refine ev_goto 271 (by decide) d178_350 ?_
          have e8 : ai_qs σ.cnts j + ai_qn (fun c => σ.ctd j c) (k + 1) = (ai_qs σ.cnts j + ai_qn (fun c => σ.ctd j c) k) + 0 := by
            rw [qn_F (p := fun c => σ.ctd j c) (qb_0 hc_317)]; omega
          have h9 := ih (k + 1) (by omega)
          rw [e8] at h9
          exact h9
        · refine ev_goto 340 (by decide) d178_320 ?_
          refine ev_iconst (v := nI 1) 341 rfl d178_340 (by decide) ?_
          refine ev_goto 345 (by decide) d178_341 ?_
          refine ev_iadd (v := nI ((ai_qs σ.cnts j + ai_qn (fun c => σ.ctd j c) k) + 1)) 346 rfl d178_345 (nI_add _ _) ?_
          refine ev_store_in 347 rfl d178_346 (Nat.le_of_ble_eq_true rfl) rfl ?_
          show ai_Ev _ _ _ [some (.ref 572), some (.int (nI 8)), some (.int (nI ((ai_qs σ.cnts j + ai_qn (fun c => σ.ctd j c) k) + 1))), some (.int (nI j)), some (.int (nI k))] _ _ _
          refine ev_iinc (v := nI (k + 1)) 350 rfl d178_347 rfl (Nat.le_of_ble_eq_true rfl) (nI_add _ 1) rfl ?_
          show ai_Ev _ _ _ [some (.ref 572), some (.int (nI 8)), some (.int (nI ((ai_qs σ.cnts j + ai_qn (fun c => σ.ctd j c) k) + 1))), some (.int (nI j)), some (.int (nI (k + 1)))] _ _ _
          refine ev_goto 271 (by decide) d178_350 ?_
          have e8 : ai_qs σ.cnts j + ai_qn (fun c => σ.ctd j c) (k + 1) = (ai_qs σ.cnts j + ai_qn (fun c => σ.ctd j c) k) + 1 := by
            rw [qn_T (p := fun c => σ.ctd j c) (qb_1 hc_317)]; omega
          have h9 := ih (k + 1) (by omega)
          rw [e8] at h9
          exact h9
      · refine ev_if_T 344 (by decide) (by decide) d178_295 ?_
        refine ev_iconst (v := nI 0) 345 rfl d178_344 (by decide) ?_
        refine ev_iadd (v := nI ((ai_qs σ.cnts j + ai_qn (fun c => σ.ctd j c) k) + 0)) 346 rfl d178_345 (nI_add _ _) ?_
        refine ev_store_in 347 rfl d178_346 (Nat.le_of_ble_eq_true rfl) rfl ?_
        show ai_Ev _ _ _ [some (.ref 572), some (.int (nI 8)), some (.int (nI ((ai_qs σ.cnts j + ai_qn (fun c => σ.ctd j c) k) + 0))), some (.int (nI j)), some (.int (nI k))] _ _ _
        refine ev_iinc (v := nI (k + 1)) 350 rfl d178_347 rfl (Nat.le_of_ble_eq_true rfl) (nI_add _ 1) rfl ?_
        show ai_Ev _ _ _ [some (.ref 572), some (.int (nI 8)), some (.int (nI ((ai_qs σ.cnts j + ai_qn (fun c => σ.ctd j c) k) + 0))), some (.int (nI j)), some (.int (nI (k + 1)))] _ _ _
        refine ev_goto 271 (by decide) d178_350 ?_
        have e8 : ai_qs σ.cnts j + ai_qn (fun c => σ.ctd j c) (k + 1) = (ai_qs σ.cnts j + ai_qn (fun c => σ.ctd j c) k) + 0 := by
          rw [qn_F (p := fun c => σ.ctd j c) (st8_no hV (by omega) (fun h8 => hq_292 ⟨h8.2.1, h8.2.2⟩))]; omega
        have h9 := ih (k + 1) (by omega)
        rw [e8] at h9
        exact h9
theorem m_st8 (G : ai_G S F) (hM : ai_RM σ I L) (hC : ai_RC σ I) (hV : ai_IV σ) : ∀ (z j : Nat) (u4 : Option Value), j + z = σ.nJ → ai_Ev none 178 260 [some (.ref 572), some (.int (nI 8)), some (.int (nI (ai_qs σ.cnts j))), some (.int (nI j)), u4] [] (S, I, L, F) (ai_Pp S F I L (.int (nI σ.nCnt))) := by
  have hnT := hV.nT
  have hnQ := hV.nQ
  have hnJ := hV.nJ
  intro z
  induction z with
  | zero =>
    intro j u4 hz
    have e9 : j = σ.nJ := by omega
    subst e9
    refine ev_iload_n 261 rfl d178_260 rfl ?_
    refine ev_aload_n 262 rfl d178_261 rfl ?_
    refine ev_geti (v := nI σ.nJ) 265 rfl 9 7 d178_262 rfl (by omega) (G.1 _ _ (rfl : ai_sp 572 = (9, 0)) (by decide) (by decide)) hM.nJ ?_
    refine ev_icmp 359 268 (by decide) rfl (cn_ge (by omega) (by omega)) d178_265 (fun hc_265 => ?_) (fun hc_265 => absurd hc_265 (by omega))
    refine ev_iload_n 360 rfl d178_359 rfl ?_
    refine ev_iret (Or.inl rfl) d178_360 ?_
    exact ⟨rfl, rfl⟩
  | succ z ih =>
    intro j u4 hz
    refine ev_iload_n 261 rfl d178_260 rfl ?_
    refine ev_aload_n 262 rfl d178_261 rfl ?_
    refine ev_geti (v := nI σ.nJ) 265 rfl 9 7 d178_262 rfl (by omega) (G.1 _ _ (rfl : ai_sp 572 = (9, 0)) (by decide) (by decide)) hM.nJ ?_
    refine ev_icmp 359 268 (by decide) rfl (cn_ge (by omega) (by omega)) d178_265 (fun hc_265 => absurd hc_265 (by omega)) (fun hc_265 => ?_)
    refine ev_iconst (v := nI 0) 269 rfl d178_268 (by decide) ?_
    refine ev_store_i 271 rfl d178_269 ⟨rfl, Nat.le_of_ble_eq_true rfl⟩ rfl ?_
    show ai_Ev _ _ _ [some (.ref 572), some (.int (nI 8)), some (.int (nI (ai_qs σ.cnts j))), some (.int (nI j)), some (.int (nI 0))] _ _ _
    refine m_st8_in G hM hC hV (by omega) ?_ 200 0 (by omega)
    refine ev_iinc (v := nI (j + 1)) 356 rfl d178_353 rfl (Nat.le_of_ble_eq_true rfl) (nI_add _ 1) rfl ?_
    show ai_Ev _ _ _ [some (.ref 572), some (.int (nI 8)), some (.int (nI (ai_qs σ.cnts (j + 1)))), some (.int (nI (j + 1))), some (.int (nI 200))] _ _ _
    refine ev_goto 260 (by decide) d178_356 ?_
    exact ih (j + 1) (some (.int (nI 200))) (by omega)
theorem in_lh {v lo hi : Int32} {a b : Nat} (ha : a < 1000) (hb : b < 1000) (h1 : lo = nI a) (h2 : hi = nI b) : (lo ≤ v ∧ v ≤ hi) ↔ ∃ k, a ≤ k ∧ k ≤ b ∧ v = nI k := by
  subst h1; subst h2
  rw [Int32.le_iff_toInt_le, Int32.le_iff_toInt_le, nI_ti (by omega), nI_ti (by omega)]
  constructor
  · rintro ⟨h3, h4⟩
    obtain ⟨k, hk, rfl⟩ := nn_nI (z := v) (Int32.le_iff_toInt_le.mpr (by show (0 : Int) ≤ _; omega))
    rw [nI_ti hk] at h3 h4
    exact ⟨k, by omega, by omega, rfl⟩
  · rintro ⟨k, h3, h4, rfl⟩
    rw [nI_ti (by omega)]; omega
theorem m_status (G : ai_G S F) (hM : ai_RM σ I L) (hV : ai_IV σ) {z1 : Int32} : ai_Ev none 178 0 [some (.ref 572), some (.int z1), none, none, none] [] (S, I, L, F) (ai_PM S F I L (o_status σ z1)) := by
  have hnT := hV.nT
  have hnQ := hV.nQ
  have hnJ := hV.nJ
  unfold o_status
  refine ev_aload_n 1 rfl d178_0 rfl ?_
  refine ev_cu0 4 rfl 145 d178_1 rfl rfl (by rw [G.1 _ _ (rfl : ai_sp 572 = (9, 0)) (by decide) (by decide)]; rfl) (by omega) rfl (m_renew G hM hV) (fun I_1 hr_1 => ?_)
  obtain ⟨hM2, hC2, hfn⟩ := hr_1
  refine ev_iconst (v := nI 0) 5 rfl d178_4 (by decide) ?_
  refine ev_store_in 6 rfl d178_5 (Nat.le_of_ble_eq_true rfl) rfl ?_
  show ai_Ev _ _ _ [some (.ref 572), some (.int z1), some (.int (nI 0)), none, none] _ _ _
  refine ev_iload_n 7 rfl d178_6 rfl ?_
  refine ev_switch 376 (by decide) d178_7 (by decide) (fun hs_7 => ?_) (fun k9 hk9 hs_7 => ?_)
  · rw [c_F (p := ai_is 19 z1) hs_7]
    refine ev_aload_n 377 rfl d178_376 rfl ?_
    refine ev_iload_n 378 rfl d178_377 rfl ?_
    refine ev_bipush (v := nI 11) 380 rfl d178_378 (by decide) ?_
    refine ev_bipush (v := nI 17) 382 rfl d178_380 (by decide) ?_
    refine ev_cb3 385 rfl 114 d178_382 rfl rfl (by rw [G.1 _ _ (rfl : ai_sp 572 = (9, 0)) (by decide) (by decide)]; rfl) (by omega) rfl (pb_iff (in_lh (a := 11) (b := 17) (by decide) (by decide) rfl rfl) (m_in G)) (fun hq_382 => ?_) (fun hq_382 => ?_)
    · obtain ⟨k, h1, h2, h3⟩ := hq_382
      exact absurd ⟨k, by show k < 19; omega, h3⟩ hs_7
    · refine ev_if_T 400 (by decide) (by decide) d178_385 ?_
      refine ev_iconst (v := (-1)) 401 rfl d178_400 (by decide) ?_
      refine ev_iret (Or.inl rfl) d178_401 ?_
      exact pm_scr hM2 (fN_lo hfn)
  · have hk8 : k9 = 0 ∨ k9 = 1 ∨ k9 = 2 ∨ k9 = 3 ∨ k9 = 4 ∨ k9 = 5 ∨ k9 = 6 ∨ k9 = 7 ∨ k9 = 8 ∨ k9 = 9 ∨ k9 = 10 ∨ k9 = 11 ∨ k9 = 12 ∨ k9 = 13 ∨ k9 = 14 ∨ k9 = 15 ∨ k9 = 16 ∨ k9 = 17 ∨ k9 = 18 := by have h9 : k9 < 19 := hk9; omega
    rcases hk8 with rfl | rfl | rfl | rfl | rfl | rfl | rfl | rfl | rfl | rfl | rfl | rfl | rfl | rfl | rfl | rfl | rfl | rfl | rfl
    · refine ⟨96, rfl, ?_⟩
      rw [hs_7, c_T (is_T (by decide)), nn_I (by decide)]
      refine ev_aload_n 97 rfl d178_96 rfl ?_
      refine ev_geti (v := nI σ.nT) 100 rfl 9 5 d178_97 rfl (by omega) (G.1 _ _ (rfl : ai_sp 572 = (9, 0)) (by decide) (by decide)) hM2.nT ?_
      refine ev_iret (Or.inl rfl) d178_100 ?_
      exact pm_scr hM2 (fN_lo hfn)
    · refine ⟨101, rfl, ?_⟩
      rw [hs_7, c_T (is_T (by decide)), nn_I (by decide)]
      refine ev_aload_n 102 rfl d178_101 rfl ?_
      refine ev_geti (v := nI σ.nQ) 105 rfl 9 6 d178_102 rfl (by omega) (G.1 _ _ (rfl : ai_sp 572 = (9, 0)) (by decide) (by decide)) hM2.nQ ?_
      refine ev_iret (Or.inl rfl) d178_105 ?_
      exact pm_scr hM2 (fN_lo hfn)
    · refine ⟨106, rfl, ?_⟩
      rw [hs_7, c_T (is_T (by decide)), nn_I (by decide)]
      refine ev_aload_n 107 rfl d178_106 rfl ?_
      refine ev_geti (v := nI σ.nJ) 110 rfl 9 7 d178_107 rfl (by omega) (G.1 _ _ (rfl : ai_sp 572 = (9, 0)) (by decide) (by decide)) hM2.nJ ?_
      refine ev_iret (Or.inl rfl) d178_110 ?_
      exact pm_scr hM2 (fN_lo hfn)
    · refine ⟨111, rfl, ?_⟩
      rw [hs_7, c_T (is_T (by decide)), nn_I (by decide)]
      refine ev_iconst (v := nI 0) 112 rfl d178_111 (by decide) ?_
      refine ev_store_in 113 rfl d178_112 (Nat.le_of_ble_eq_true rfl) rfl ?_
      show ai_Ev _ _ _ [some (.ref 572), some (.int (nI 3)), some (.int (nI 0)), some (.int (nI 0)), none] _ _ _
      refine (m_st3 G hM2 hC2 hV σ.nJ 0 (by omega)).imp ?_
      rintro r h' ⟨rfl, rfl⟩
      exact pm_scr hM2 (fN_lo hfn)
    · refine ⟨146, rfl, ?_⟩
      rw [hs_7, c_T (is_T (by decide)), nn_I (by decide)]
      refine ev_iconst (v := nI 0) 147 rfl d178_146 (by decide) ?_
      refine ev_store_in 148 rfl d178_147 (Nat.le_of_ble_eq_true rfl) rfl ?_
      show ai_Ev _ _ _ [some (.ref 572), some (.int (nI 4)), some (.int (nI 0)), some (.int (nI 0)), none] _ _ _
      refine (m_st4 G hM2 hC2 hV 200 0 (by omega)).imp ?_
      rintro r h' ⟨rfl, rfl⟩
      exact pm_scr hM2 (fN_lo hfn)
    · refine ⟨146, rfl, ?_⟩
      rw [hs_7, c_T (is_T (by decide)), nn_I (by decide)]
      refine ev_iconst (v := nI 0) 147 rfl d178_146 (by decide) ?_
      refine ev_store_in 148 rfl d178_147 (Nat.le_of_ble_eq_true rfl) rfl ?_
      show ai_Ev _ _ _ [some (.ref 572), some (.int (nI 5)), some (.int (nI 0)), some (.int (nI 0)), none] _ _ _
      refine (m_st5 G hM2 hC2 hV 200 0 (by omega)).imp ?_
      rintro r h' ⟨rfl, rfl⟩
      exact pm_scr hM2 (fN_lo hfn)
    · refine ⟨203, rfl, ?_⟩
      rw [hs_7, c_T (is_T (by decide)), nn_I (by decide)]
      refine ev_aload_n 204 rfl d178_203 rfl ?_
      refine ev_cu0 207 rfl 169 d178_204 rfl rfl (by rw [G.1 _ _ (rfl : ai_sp 572 = (9, 0)) (by decide) (by decide)]; rfl) (by omega) rfl (m_judgeAll G hM2 hV) (fun I_2 hr_204 => ?_)
      obtain ⟨hM3, hC3, hJA, hfl⟩ := hr_204
      refine ev_iconst (v := nI 0) 208 rfl d178_207 (by decide) ?_
      refine ev_store_in 209 rfl d178_208 (Nat.le_of_ble_eq_true rfl) rfl ?_
      show ai_Ev _ _ _ [some (.ref 572), some (.int (nI 6)), some (.int (nI 0)), some (.int (nI 0)), none] _ _ _
      refine (m_st6 G hM3 hC3 hV hJA 200 0 (by omega)).imp ?_
      rintro r h' ⟨rfl, rfl⟩
      exact pm_scr hM3 (fun a ha => (hfl a ha).trans (fN_lo hfn a ha))
    · refine ⟨258, rfl, ?_⟩
      rw [hs_7, c_T (is_T (by decide)), nn_I (by decide)]
      refine ev_iconst (v := nI 0) 259 rfl d178_258 (by decide) ?_
      refine ev_store_in 260 rfl d178_259 (Nat.le_of_ble_eq_true rfl) rfl ?_
      show ai_Ev _ _ _ [some (.ref 572), some (.int (nI 7)), some (.int (nI 0)), some (.int (nI 0)), none] _ _ _
      refine (m_st7 G hM2 hC2 hV σ.nJ 0 none (by omega)).imp ?_
      rintro r h' ⟨rfl, rfl⟩
      exact pm_scr hM2 (fN_lo hfn)
    · refine ⟨258, rfl, ?_⟩
      rw [hs_7, c_T (is_T (by decide)), nn_I (by decide)]
      refine ev_iconst (v := nI 0) 259 rfl d178_258 (by decide) ?_
      refine ev_store_in 260 rfl d178_259 (Nat.le_of_ble_eq_true rfl) rfl ?_
      show ai_Ev _ _ _ [some (.ref 572), some (.int (nI 8)), some (.int (nI 0)), some (.int (nI 0)), none] _ _ _
      refine (m_st8 G hM2 hC2 hV σ.nJ 0 none (by omega)).imp ?_
      rintro r h' ⟨rfl, rfl⟩
      exact pm_scr hM2 (fN_lo hfn)
    · refine ⟨361, rfl, ?_⟩
      rw [hs_7, c_T (is_T (by decide)), nn_I (by decide)]
      refine ev_aload_n 362 rfl d178_361 rfl ?_
      refine ev_geti (v := nI σ.mk) 365 rfl 9 21 d178_362 rfl (by omega) (G.1 _ _ (rfl : ai_sp 572 = (9, 0)) (by decide) (by decide)) hM2.mk ?_
      refine ev_iret (Or.inl rfl) d178_365 ?_
      exact pm_scr hM2 (fN_lo hfn)
    · refine ⟨366, rfl, ?_⟩
      rw [hs_7, c_T (is_T (by decide)), nn_I (by decide)]
      refine ev_aload_n 367 rfl d178_366 rfl ?_
      refine ev_geti (v := nI σ.lk) 370 rfl 9 22 d178_367 rfl (by omega) (G.1 _ _ (rfl : ai_sp 572 = (9, 0)) (by decide) (by decide)) hM2.lk ?_
      refine ev_iret (Or.inl rfl) d178_370 ?_
      exact pm_scr hM2 (fN_lo hfn)
    · refine ⟨376, rfl, ?_⟩
      rw [hs_7, c_T (is_T (by decide)), nn_I (by decide)]
      refine ev_aload_n 377 rfl d178_376 rfl ?_
      refine ev_iload_n 378 rfl d178_377 rfl ?_
      refine ev_bipush (v := nI 11) 380 rfl d178_378 (by decide) ?_
      refine ev_bipush (v := nI 17) 382 rfl d178_380 (by decide) ?_
      refine ev_cb3 385 rfl 114 d178_382 rfl rfl (by rw [G.1 _ _ (rfl : ai_sp 572 = (9, 0)) (by decide) (by decide)]; rfl) (by omega) rfl (pb_iff (in_lh (a := 11) (b := 17) (by decide) (by decide) rfl rfl) (m_in G)) (fun hq_382 => ?_) (fun hq_382 => ?_)
      · refine ev_if_F 400 388 (by decide) rfl (by decide) d178_385 ?_
        refine ev_aload_n 389 rfl d178_388 rfl ?_
        refine ev_getr 392 rfl 9 0 d178_389 rfl (by omega) (G.1 _ _ (rfl : ai_sp 572 = (9, 0)) (by decide) (by decide)) (G.2 _ _ _ (rfl : ai_rf 572 0 = some 573)) ?_
        refine ev_iload_n 393 rfl d178_392 rfl ?_
        refine ev_bipush (v := nI 10) 395 rfl d178_393 (by decide) ?_
        refine ev_isub (v := nI 1) 396 rfl d178_395 (by decide) ?_
        refine ev_iald_n (v := σ.rf (1 - 1)) 397 rfl d178_396 (by omega) (G.1 _ _ (rfl : ai_sp 573 = (100, 8)) (by decide) (by decide)) (by omega) (by decide) (rm_rf hM2 (by omega) (by omega)) ?_
        refine ev_goto 401 (by decide) d178_397 ?_
        refine ev_iret (Or.inl rfl) d178_401 ?_
        exact pm_scr hM2 (fN_lo hfn)
      · exact absurd ⟨11, by decide, by decide, rfl⟩ hq_382
    · refine ⟨376, rfl, ?_⟩
      rw [hs_7, c_T (is_T (by decide)), nn_I (by decide)]
      refine ev_aload_n 377 rfl d178_376 rfl ?_
      refine ev_iload_n 378 rfl d178_377 rfl ?_
      refine ev_bipush (v := nI 11) 380 rfl d178_378 (by decide) ?_
      refine ev_bipush (v := nI 17) 382 rfl d178_380 (by decide) ?_
      refine ev_cb3 385 rfl 114 d178_382 rfl rfl (by rw [G.1 _ _ (rfl : ai_sp 572 = (9, 0)) (by decide) (by decide)]; rfl) (by omega) rfl (pb_iff (in_lh (a := 11) (b := 17) (by decide) (by decide) rfl rfl) (m_in G)) (fun hq_382 => ?_) (fun hq_382 => ?_)
      · refine ev_if_F 400 388 (by decide) rfl (by decide) d178_385 ?_
        refine ev_aload_n 389 rfl d178_388 rfl ?_
        refine ev_getr 392 rfl 9 0 d178_389 rfl (by omega) (G.1 _ _ (rfl : ai_sp 572 = (9, 0)) (by decide) (by decide)) (G.2 _ _ _ (rfl : ai_rf 572 0 = some 573)) ?_
        refine ev_iload_n 393 rfl d178_392 rfl ?_
        refine ev_bipush (v := nI 10) 395 rfl d178_393 (by decide) ?_
        refine ev_isub (v := nI 2) 396 rfl d178_395 (by decide) ?_
        refine ev_iald_n (v := σ.rf (2 - 1)) 397 rfl d178_396 (by omega) (G.1 _ _ (rfl : ai_sp 573 = (100, 8)) (by decide) (by decide)) (by omega) (by decide) (rm_rf hM2 (by omega) (by omega)) ?_
        refine ev_goto 401 (by decide) d178_397 ?_
        refine ev_iret (Or.inl rfl) d178_401 ?_
        exact pm_scr hM2 (fN_lo hfn)
      · exact absurd ⟨12, by decide, by decide, rfl⟩ hq_382
    · refine ⟨376, rfl, ?_⟩
      rw [hs_7, c_T (is_T (by decide)), nn_I (by decide)]
      refine ev_aload_n 377 rfl d178_376 rfl ?_
      refine ev_iload_n 378 rfl d178_377 rfl ?_
      refine ev_bipush (v := nI 11) 380 rfl d178_378 (by decide) ?_
      refine ev_bipush (v := nI 17) 382 rfl d178_380 (by decide) ?_
      refine ev_cb3 385 rfl 114 d178_382 rfl rfl (by rw [G.1 _ _ (rfl : ai_sp 572 = (9, 0)) (by decide) (by decide)]; rfl) (by omega) rfl (pb_iff (in_lh (a := 11) (b := 17) (by decide) (by decide) rfl rfl) (m_in G)) (fun hq_382 => ?_) (fun hq_382 => ?_)
      · refine ev_if_F 400 388 (by decide) rfl (by decide) d178_385 ?_
        refine ev_aload_n 389 rfl d178_388 rfl ?_
        refine ev_getr 392 rfl 9 0 d178_389 rfl (by omega) (G.1 _ _ (rfl : ai_sp 572 = (9, 0)) (by decide) (by decide)) (G.2 _ _ _ (rfl : ai_rf 572 0 = some 573)) ?_
        refine ev_iload_n 393 rfl d178_392 rfl ?_
        refine ev_bipush (v := nI 10) 395 rfl d178_393 (by decide) ?_
        refine ev_isub (v := nI 3) 396 rfl d178_395 (by decide) ?_
        refine ev_iald_n (v := σ.rf (3 - 1)) 397 rfl d178_396 (by omega) (G.1 _ _ (rfl : ai_sp 573 = (100, 8)) (by decide) (by decide)) (by omega) (by decide) (rm_rf hM2 (by omega) (by omega)) ?_
        refine ev_goto 401 (by decide) d178_397 ?_
        refine ev_iret (Or.inl rfl) d178_401 ?_
        exact pm_scr hM2 (fN_lo hfn)
      · exact absurd ⟨13, by decide, by decide, rfl⟩ hq_382
    · refine ⟨376, rfl, ?_⟩
      rw [hs_7, c_T (is_T (by decide)), nn_I (by decide)]
      refine ev_aload_n 377 rfl d178_376 rfl ?_
      refine ev_iload_n 378 rfl d178_377 rfl ?_
      refine ev_bipush (v := nI 11) 380 rfl d178_378 (by decide) ?_
      refine ev_bipush (v := nI 17) 382 rfl d178_380 (by decide) ?_
      refine ev_cb3 385 rfl 114 d178_382 rfl rfl (by rw [G.1 _ _ (rfl : ai_sp 572 = (9, 0)) (by decide) (by decide)]; rfl) (by omega) rfl (pb_iff (in_lh (a := 11) (b := 17) (by decide) (by decide) rfl rfl) (m_in G)) (fun hq_382 => ?_) (fun hq_382 => ?_)
      · refine ev_if_F 400 388 (by decide) rfl (by decide) d178_385 ?_
        refine ev_aload_n 389 rfl d178_388 rfl ?_
        refine ev_getr 392 rfl 9 0 d178_389 rfl (by omega) (G.1 _ _ (rfl : ai_sp 572 = (9, 0)) (by decide) (by decide)) (G.2 _ _ _ (rfl : ai_rf 572 0 = some 573)) ?_
        refine ev_iload_n 393 rfl d178_392 rfl ?_
        refine ev_bipush (v := nI 10) 395 rfl d178_393 (by decide) ?_
        refine ev_isub (v := nI 4) 396 rfl d178_395 (by decide) ?_
        refine ev_iald_n (v := σ.rf (4 - 1)) 397 rfl d178_396 (by omega) (G.1 _ _ (rfl : ai_sp 573 = (100, 8)) (by decide) (by decide)) (by omega) (by decide) (rm_rf hM2 (by omega) (by omega)) ?_
        refine ev_goto 401 (by decide) d178_397 ?_
        refine ev_iret (Or.inl rfl) d178_401 ?_
        exact pm_scr hM2 (fN_lo hfn)
      · exact absurd ⟨14, by decide, by decide, rfl⟩ hq_382
    · refine ⟨376, rfl, ?_⟩
      rw [hs_7, c_T (is_T (by decide)), nn_I (by decide)]
      refine ev_aload_n 377 rfl d178_376 rfl ?_
      refine ev_iload_n 378 rfl d178_377 rfl ?_
      refine ev_bipush (v := nI 11) 380 rfl d178_378 (by decide) ?_
      refine ev_bipush (v := nI 17) 382 rfl d178_380 (by decide) ?_
      refine ev_cb3 385 rfl 114 d178_382 rfl rfl (by rw [G.1 _ _ (rfl : ai_sp 572 = (9, 0)) (by decide) (by decide)]; rfl) (by omega) rfl (pb_iff (in_lh (a := 11) (b := 17) (by decide) (by decide) rfl rfl) (m_in G)) (fun hq_382 => ?_) (fun hq_382 => ?_)
      · refine ev_if_F 400 388 (by decide) rfl (by decide) d178_385 ?_
        refine ev_aload_n 389 rfl d178_388 rfl ?_
        refine ev_getr 392 rfl 9 0 d178_389 rfl (by omega) (G.1 _ _ (rfl : ai_sp 572 = (9, 0)) (by decide) (by decide)) (G.2 _ _ _ (rfl : ai_rf 572 0 = some 573)) ?_
        refine ev_iload_n 393 rfl d178_392 rfl ?_
        refine ev_bipush (v := nI 10) 395 rfl d178_393 (by decide) ?_
        refine ev_isub (v := nI 5) 396 rfl d178_395 (by decide) ?_
        refine ev_iald_n (v := σ.rf (5 - 1)) 397 rfl d178_396 (by omega) (G.1 _ _ (rfl : ai_sp 573 = (100, 8)) (by decide) (by decide)) (by omega) (by decide) (rm_rf hM2 (by omega) (by omega)) ?_
        refine ev_goto 401 (by decide) d178_397 ?_
        refine ev_iret (Or.inl rfl) d178_401 ?_
        exact pm_scr hM2 (fN_lo hfn)
      · exact absurd ⟨15, by decide, by decide, rfl⟩ hq_382
    · refine ⟨376, rfl, ?_⟩
      rw [hs_7, c_T (is_T (by decide)), nn_I (by decide)]
      refine ev_aload_n 377 rfl d178_376 rfl ?_
      refine ev_iload_n 378 rfl d178_377 rfl ?_
      refine ev_bipush (v := nI 11) 380 rfl d178_378 (by decide) ?_
      refine ev_bipush (v := nI 17) 382 rfl d178_380 (by decide) ?_
      refine ev_cb3 385 rfl 114 d178_382 rfl rfl (by rw [G.1 _ _ (rfl : ai_sp 572 = (9, 0)) (by decide) (by decide)]; rfl) (by omega) rfl (pb_iff (in_lh (a := 11) (b := 17) (by decide) (by decide) rfl rfl) (m_in G)) (fun hq_382 => ?_) (fun hq_382 => ?_)
      · refine ev_if_F 400 388 (by decide) rfl (by decide) d178_385 ?_
        refine ev_aload_n 389 rfl d178_388 rfl ?_
        refine ev_getr 392 rfl 9 0 d178_389 rfl (by omega) (G.1 _ _ (rfl : ai_sp 572 = (9, 0)) (by decide) (by decide)) (G.2 _ _ _ (rfl : ai_rf 572 0 = some 573)) ?_
        refine ev_iload_n 393 rfl d178_392 rfl ?_
        refine ev_bipush (v := nI 10) 395 rfl d178_393 (by decide) ?_
        refine ev_isub (v := nI 6) 396 rfl d178_395 (by decide) ?_
        refine ev_iald_n (v := σ.rf (6 - 1)) 397 rfl d178_396 (by omega) (G.1 _ _ (rfl : ai_sp 573 = (100, 8)) (by decide) (by decide)) (by omega) (by decide) (rm_rf hM2 (by omega) (by omega)) ?_
        refine ev_goto 401 (by decide) d178_397 ?_
        refine ev_iret (Or.inl rfl) d178_401 ?_
        exact pm_scr hM2 (fN_lo hfn)
      · exact absurd ⟨16, by decide, by decide, rfl⟩ hq_382
    · refine ⟨376, rfl, ?_⟩
      rw [hs_7, c_T (is_T (by decide)), nn_I (by decide)]
      refine ev_aload_n 377 rfl d178_376 rfl ?_
      refine ev_iload_n 378 rfl d178_377 rfl ?_
      refine ev_bipush (v := nI 11) 380 rfl d178_378 (by decide) ?_
      refine ev_bipush (v := nI 17) 382 rfl d178_380 (by decide) ?_
      refine ev_cb3 385 rfl 114 d178_382 rfl rfl (by rw [G.1 _ _ (rfl : ai_sp 572 = (9, 0)) (by decide) (by decide)]; rfl) (by omega) rfl (pb_iff (in_lh (a := 11) (b := 17) (by decide) (by decide) rfl rfl) (m_in G)) (fun hq_382 => ?_) (fun hq_382 => ?_)
      · refine ev_if_F 400 388 (by decide) rfl (by decide) d178_385 ?_
        refine ev_aload_n 389 rfl d178_388 rfl ?_
        refine ev_getr 392 rfl 9 0 d178_389 rfl (by omega) (G.1 _ _ (rfl : ai_sp 572 = (9, 0)) (by decide) (by decide)) (G.2 _ _ _ (rfl : ai_rf 572 0 = some 573)) ?_
        refine ev_iload_n 393 rfl d178_392 rfl ?_
        refine ev_bipush (v := nI 10) 395 rfl d178_393 (by decide) ?_
        refine ev_isub (v := nI 7) 396 rfl d178_395 (by decide) ?_
        refine ev_iald_n (v := σ.rf (7 - 1)) 397 rfl d178_396 (by omega) (G.1 _ _ (rfl : ai_sp 573 = (100, 8)) (by decide) (by decide)) (by omega) (by decide) (rm_rf hM2 (by omega) (by omega)) ?_
        refine ev_goto 401 (by decide) d178_397 ?_
        refine ev_iret (Or.inl rfl) d178_401 ?_
        exact pm_scr hM2 (fN_lo hfn)
      · exact absurd ⟨17, by decide, by decide, rfl⟩ hq_382
    · refine ⟨371, rfl, ?_⟩
      rw [hs_7, c_T (is_T (by decide)), nn_I (by decide)]
      refine ev_aload_n 372 rfl d178_371 rfl ?_
      refine ev_geti (v := nI σ.hs) 375 rfl 9 23 d178_372 rfl (by omega) (G.1 _ _ (rfl : ai_sp 572 = (9, 0)) (by decide) (by decide)) hM2.hs ?_
      refine ev_iret (Or.inl rfl) d178_375 ?_
      exact pm_scr hM2 (fN_lo hfn)
end MSTA
