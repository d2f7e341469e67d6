section MJUD
variable {S : List (Nat × Nat)} {F : Nat → Nat → Option Nat} {L : Nat → Nat → Int64} {I : Nat → Nat → Int32} {σ : ai_S}
theorem m_leading (G : ai_G S F) (hM : ai_RM σ I L) (hV : ai_IV σ) {z1 : Int32} {z2 : Int32} : ai_Ev none 167 0 [some (.ref 572), some (.int z1), some (.int z2)] [] (S, I, L, F) (ai_PM S F I L (o_leading σ z1 z2)) := by
  have hnT := hV.nT
  have hnQ := hV.nQ
  have hnJ := hV.nJ
  unfold o_leading
  refine ev_aload_n 1 rfl d167_0 rfl ?_
  refine ev_iload_n 2 rfl d167_1 rfl ?_
  refine ev_iload_n 3 rfl d167_2 rfl ?_
  refine ev_cb2 6 rfl 129 d167_3 rfl rfl (by rw [G.1 _ _ (rfl : ai_sp 572 = (9, 0)) (by decide) (by decide)]; rfl) (by omega) rfl (m_isCase G hM hV) (fun hq_3 => ?_) (fun hq_3 => ?_)
  · try rw [c_T hq_3]
    obtain ⟨t, q, ht, hq, rfl, rfl⟩ := hq_3
    refine ev_if_T 11 (by decide) (by decide) d167_6 ?_
    simp only [nn_I (show t < 2147483648 by omega)]
    simp only [nn_I (show q < 2147483648 by omega)]
    refine ev_aload_n 12 rfl d167_11 rfl ?_
    refine ev_cu0 15 rfl 145 d167_12 rfl rfl (by rw [G.1 _ _ (rfl : ai_sp 572 = (9, 0)) (by decide) (by decide)]; rfl) (by omega) rfl (m_renew G hM hV) (fun I_1 hr_12 => ?_)
    obtain ⟨hM2, hC2, hfn⟩ := hr_12
    refine ev_aload_n 16 rfl d167_15 rfl ?_
    refine ev_iconst (v := nI 5) 17 rfl d167_16 (by decide) ?_
    refine ev_iload_n 18 rfl d167_17 rfl ?_
    refine ev_imul (v := nI (5 * t)) 19 rfl d167_18 (pk_mul _ _) ?_
    refine ev_iload_n 20 rfl d167_19 rfl ?_
    refine ev_iadd (v := nI ((5 * t) + q)) 21 rfl d167_20 (nI_add _ _) ?_
    refine ev_cu1 24 rfl 156 d167_21 rfl rfl (by rw [G.1 _ _ (rfl : ai_sp 572 = (9, 0)) (by decide) (by decide)]; rfl) (by omega) rfl (m_weigh G hM2 hC2 hV (c := 5 * t + q) (q := q) (by omega) (by omega) (by omega)) (fun I_2 hr_21 => ?_)
    obtain ⟨hW, hfw, hkp⟩ := hr_21
    have hM3 := rm_fW hM2 hfw
    refine ev_aload_n 25 rfl d167_24 rfl ?_
    refine ev_iconst (v := nI 5) 26 rfl d167_25 (by decide) ?_
    refine ev_iload_n 27 rfl d167_26 rfl ?_
    refine ev_imul (v := nI (5 * t)) 28 rfl d167_27 (pk_mul _ _) ?_
    refine ev_iload_n 29 rfl d167_28 rfl ?_
    refine ev_iadd (v := nI ((5 * t) + q)) 30 rfl d167_29 (nI_add _ _) ?_
    refine ev_cp1 33 rfl 157 d167_30 rfl rfl (by rw [G.1 _ _ (rfl : ai_sp 572 = (9, 0)) (by decide) (by decide)]; rfl) (by omega) rfl (m_lead G hM3 hV (c := 5 * t + q) (by omega) (by omega) hW) ?_
    refine ev_iret (Or.inl rfl) d167_33 ?_
    exact pm_scr hM3 (fun a ha => by rw [hfw a (by omega) (by omega)]; exact fN_lo hfn a ha)
  · try rw [c_F hq_3]
    refine ev_if_F 11 9 (by decide) rfl (by decide) d167_6 ?_
    refine ev_iconst (v := (-1)) 10 rfl d167_9 (by decide) ?_
    refine ev_iret (Or.inl rfl) d167_10 ?_
    exact pm_same hM
theorem m_share (G : ai_G S F) (hM : ai_RM σ I L) (hV : ai_IV σ) {z1 : Int32} {z2 : Int32} {z3 : Int32} : ai_Ev none 166 0 [some (.ref 572), some (.int z1), some (.int z2), some (.int z3)] [] (S, I, L, F) (ai_PM S F I L (o_share σ z1 z2 z3)) := by
  have hnT := hV.nT
  have hnQ := hV.nQ
  have hnJ := hV.nJ
  unfold o_share
  refine ev_aload_n 1 rfl d166_0 rfl ?_
  refine ev_iload_n 2 rfl d166_1 rfl ?_
  refine ev_iload_n 3 rfl d166_2 rfl ?_
  refine ev_cb2 6 rfl 129 d166_3 rfl rfl (by rw [G.1 _ _ (rfl : ai_sp 572 = (9, 0)) (by decide) (by decide)]; rfl) (by omega) rfl (m_isCase G hM hV) (fun hq_3 => ?_) (fun hq_3 => ?_)
  · try rw [c_T hq_3]
    obtain ⟨t, q, ht, hq, rfl, rfl⟩ := hq_3
    refine ev_if_F 18 9 (by decide) rfl (by decide) d166_6 ?_
    simp only [nn_I (show t < 2147483648 by omega)]
    simp only [nn_I (show q < 2147483648 by omega)]
    have hc : 5 * t + q < 200 := by omega
    have hm : (5 * t + q) % 5 = q := by omega
    have han := hV.an q hq
    refine ev_aload_n 10 rfl d166_9 rfl ?_
    refine ev_iload_n 11 rfl d166_10 rfl ?_
    refine ev_iload_n 12 rfl d166_11 rfl ?_
    refine ev_cb2 15 rfl 163 d166_12 rfl rfl (by rw [G.1 _ _ (rfl : ai_sp 572 = (9, 0)) (by decide) (by decide)]; rfl) (by omega) rfl (m_isAnswer G hM hV (by omega)) (fun hq_12 => ?_) (fun hq_12 => ?_)
    · try rw [c_T hq_12]
      obtain ⟨b, hb, rfl⟩ := hq_12
      refine ev_if_T 20 (by decide) (by decide) d166_15 ?_
      simp only [nn_I (show b < 2147483648 by omega)]
      have hwb := wt_le hV hc (b := b) (by rw [hm]; exact hb)
      have htb := tot_le hV hc (by omega)
      have htp := tot_pos hV hc (by omega)
      have hwt : σ.wt (5 * t + q) b ≤ σ.tot (5 * t + q) := wt_tot (by rw [hm]; exact hb)
      have hq9 : 1000000 * σ.tot (5 * t + q) ≤ (1000000 * 4) * 65536 ^ 24 := by rw [Nat.mul_assoc]; exact Nat.mul_le_mul_left _ htb
      refine ev_aload_n 21 rfl d166_20 rfl ?_
      refine ev_cu0 24 rfl 145 d166_21 rfl rfl (by rw [G.1 _ _ (rfl : ai_sp 572 = (9, 0)) (by decide) (by decide)]; rfl) (by omega) rfl (m_renew G hM hV) (fun I_1 hr_21 => ?_)
      obtain ⟨hM2, hC2, hfn⟩ := hr_21
      refine ev_aload_n 25 rfl d166_24 rfl ?_
      refine ev_iconst (v := nI 5) 26 rfl d166_25 (by decide) ?_
      refine ev_iload_n 27 rfl d166_26 rfl ?_
      refine ev_imul (v := nI (5 * t)) 28 rfl d166_27 (pk_mul _ _) ?_
      refine ev_iload_n 29 rfl d166_28 rfl ?_
      refine ev_iadd (v := nI ((5 * t) + q)) 30 rfl d166_29 (nI_add _ _) ?_
      refine ev_cu1 33 rfl 156 d166_30 rfl rfl (by rw [G.1 _ _ (rfl : ai_sp 572 = (9, 0)) (by decide) (by decide)]; rfl) (by omega) rfl (m_weigh G hM2 hC2 hV (c := 5 * t + q) (q := q) (by omega) (by omega) (by omega)) (fun I_2 hr_30 => ?_)
      obtain ⟨hW, hfw, hkp⟩ := hr_30
      have hM3 := rm_fW hM2 hfw
      refine ev_aload_n 34 rfl d166_33 rfl ?_
      refine ev_iload_n 35 rfl d166_34 rfl ?_
      refine ev_ldc (v := nI 1000000) 37 rfl d166_35 (by decide) ?_
      refine ev_cu2 40 rfl 150 d166_37 rfl rfl (by rw [G.1 _ _ (rfl : ai_sp 572 = (9, 0)) (by decide) (by decide)]; rfl) (by omega) rfl (m_times G (x := b) (by omega) (m := 1000000) (by omega) (hW.1 b (by rw [hm]; exact hb)) (big17 (big40 (Nat.mul_le_mul_left _ hwb) (by decide)))) (fun I_3 hr_37 => ?_)
      obtain ⟨hg9, hf9⟩ := hr_37
      refine ev_aload_n 41 rfl d166_40 rfl ?_
      refine ev_iload_n 42 rfl d166_41 rfl ?_
      refine ev_iconst (v := nI 4) 43 rfl d166_42 (by decide) ?_
      refine ev_ldc (v := nI 1000000) 45 rfl d166_43 (by decide) ?_
      refine ev_cy3 48 rfl 155 d166_45 rfl rfl (by rw [G.1 _ _ (rfl : ai_sp 572 = (9, 0)) (by decide) (by decide)]; rfl) (by omega) rfl (m_quot G (x := b) (y := 4) (by omega) (by omega) htp (by omega) (big17 (big40 hq9 (by decide))) (Nat.le_trans (Nat.div_le_div_right (Nat.mul_le_mul_left _ hwt)) (by rw [Nat.mul_div_cancel _ htp]; exact Nat.le_refl _)) hg9 (hf9.keep (by omega) hW.2)) (fun v_5 I_4 hr_45 => ?_)
      obtain ⟨rfl, hf8⟩ := hr_45
      refine ev_iret (Or.inl rfl) d166_48 ?_
      exact pm_scr (rm_fW (rm_fW hM3 (mf_W hf9)) (mf_W hf8)) (fun a ha => by rw [hf8.1 a (by omega) (by omega), hf9.1 a (by omega) (by omega), hfw a (by omega) (by omega)]; exact fN_lo hfn a ha)
    · try rw [c_F hq_12]
      refine ev_if_F 20 18 (by decide) rfl (by decide) d166_15 ?_
      refine ev_iconst (v := (-1)) 19 rfl d166_18 (by decide) ?_
      refine ev_iret (Or.inl rfl) d166_19 ?_
      exact pm_same hM
  · try rw [c_F hq_3]
    refine ev_if_T 18 (by decide) (by decide) d166_6 ?_
    refine ev_iconst (v := (-1)) 19 rfl d166_18 (by decide) ?_
    refine ev_iret (Or.inl rfl) d166_19 ?_
    exact pm_same hM
def ai_fJ (I I2 : Nat → Nat → Int32) : Prop := ∀ a, a ≠ 592 → a ≠ 593 → a < 595 → I2 a = I a
theorem rm_fJ (hM : ai_RM σ I L) {I2 : Nat → Nat → Int32} (h : ai_fJ I I2) : ai_RM σ I2 L := hM.frame (fun a _ h2 h3 h4 => h a h2 h3 h4)
theorem rc_fJ (hC : ai_RC σ I) {I2 : Nat → Nat → Int32} (h : ai_fJ I I2) : ai_RC σ I2 := fun j hj => ⟨by rw [h _ (by omega) (by omega) (by omega)]; exact (hC j hj).1, fun c hc => by rw [h _ (by omega) (by omega) (by omega)]; exact (hC j hj).2 c hc⟩
theorem fJ_tr {I I2 I3 : Nat → Nat → Int32} (h : ai_fJ I I2) (h2 : ai_fJ I2 I3) : ai_fJ I I3 := fun a h3 h4 h5 => (h2 a h3 h4 h5).trans (h a h3 h4 h5)
theorem fJ_W {I I2 : Nat → Nat → Int32} (h : ai_fW I I2) : ai_fJ I I2 := fun a h3 h4 _ => h a h3 h4
theorem fJ_ui {I I2 : Nat → Nat → Int32} {a k : Nat} {v : Int32} (ha : 595 ≤ a) (h : I2 = ai_ui I a k v) : ai_fJ I I2 := fun x h3 h4 h5 => ui_row h (by omega)
theorem MG_eq {I I2 : Nat → Nat → Int32} {x v : Nat} (h : ai_MG I x v) (h1 : I2 592 = I 592) (h2 : I2 593 = I 593) : ai_MG I2 x v := by
  have e : ∀ k, ai_md I2 x k = ai_md I x k := fun k => by unfold ai_md; rw [h1]
  obtain ⟨s, a1, a2, a3, a4, a5⟩ := h
  have e2 : ai_md I2 x = ai_md I x := funext e
  exact ⟨s, by rw [h2]; exact a1, a2, fun j hj => by rw [e, h1]; exact a3 j hj, by rw [e2]; exact a4, by rw [e2]; exact a5⟩
theorem MW_eq {I I2 : Nat → Nat → Int32} {c : Nat} (h : ai_MW σ c I) (h1 : I2 592 = I 592) (h2 : I2 593 = I 593) : ai_MW σ c I2 := ⟨fun b hb => MG_eq (h.1 b hb) h1 h2, MG_eq h.2 h1 h2⟩
def ai_fC (c : Nat) (I I2 : Nat → Nat → Int32) : Prop := ai_fJ I I2 ∧ ∀ a k, a = 595 ∨ a = 596 ∨ a = 597 → (a = 597 ∨ k ≠ c) → I2 a k = I a k
theorem cmp_ge {a b : Nat} : ai_cond .ge (ai_cmp a b) 0 = true ↔ b ≤ a := by
  rcases Nat.lt_trichotomy a b with h | h | h
  · have e : ai_cmp a b = -1 := by unfold ai_cmp; simp [h, Nat.ne_of_lt h]
    rw [e]; exact ⟨fun q => absurd q (by decide), fun q => absurd q (by omega)⟩
  · subst h
    have e : ai_cmp a a = 0 := by unfold ai_cmp; simp; rfl
    rw [e]; exact ⟨fun _ => Nat.le_refl a, fun _ => by decide⟩
  · have h9 := (cmp_gt a b).mpr h
    rw [cz_gt] at h9
    rw [cz_ge]
    exact ⟨fun _ => by omega, fun _ => Int32.le_of_lt h9⟩
theorem m_judgeCase (G : ai_G S F) (hM : ai_RM σ I L) (hC : ai_RC σ I) (hV : ai_IV σ) {c : Nat} (hc : c < 200) (hq : c % 5 < σ.nQ) : ai_Ev none 168 0 [some (.ref 572), some (.int (nI c))] [] (S, I, L, F) (ai_Pu S F L (fun I2 => I2 595 c = nI (σ.lead c) ∧ I2 596 c = nI (ai_qb (σ.ended c)) ∧ ai_fC c I I2)) := by
  have hnT := hV.nT
  have hnQ := hV.nQ
  have hnJ := hV.nJ
  have htr := tr_le hV hc
  have hlk := look_le (σ := σ) (c := c)
  have hmk := hV.mk
  have hlkb := hV.lk
  have hld := lead_lt hV hq
  have han := hV.an _ hq
  refine ev_aload_n 1 rfl d168_0 rfl ?_
  refine ev_iload_n 2 rfl d168_1 rfl ?_
  refine ev_cu1 5 rfl 156 d168_2 rfl rfl (by rw [G.1 _ _ (rfl : ai_sp 572 = (9, 0)) (by decide) (by decide)]; rfl) (by omega) rfl (m_weigh G hM hC hV (c := c) (q := c % 5) hc rfl hq) (fun I_1 hr_2 => ?_)
  obtain ⟨hW, hfw, hkp⟩ := hr_2
  have hM3 := rm_fW hM hfw
  have hC3 := rc_fW hC hfw
  refine ev_aload_n 6 rfl d168_5 rfl ?_
  refine ev_getr 9 rfl 9 30 d168_6 rfl (by omega) (G.1 _ _ (rfl : ai_sp 572 = (9, 0)) (by decide) (by decide)) (G.2 _ _ _ (rfl : ai_rf 572 30 = some 595)) ?_
  refine ev_iload_n 10 rfl d168_9 rfl ?_
  refine ev_aload_n 11 rfl d168_10 rfl ?_
  refine ev_iload_n 12 rfl d168_11 rfl ?_
  refine ev_cp1 15 rfl 157 d168_12 rfl rfl (by rw [G.1 _ _ (rfl : ai_sp 572 = (9, 0)) (by decide) (by decide)]; rfl) (by omega) rfl (m_lead G hM3 hV hc hq hW) ?_
  obtain ⟨I_2, hI_2⟩ : ∃ z, z = ai_ui I_1 595 c (nI (σ.lead c)) := ⟨_, rfl⟩
  refine ev_iast_n (I2 := I_2) 16 rfl d168_15 (by omega) (G.1 _ _ (rfl : ai_sp 595 = (100, 200)) (by decide) (by decide)) (by omega) (by decide) hI_2.symm ?_
  refine ev_aload_n 17 rfl d168_16 rfl ?_
  refine ev_getr 20 rfl 9 31 d168_17 rfl (by omega) (G.1 _ _ (rfl : ai_sp 572 = (9, 0)) (by decide) (by decide)) (G.2 _ _ _ (rfl : ai_rf 572 31 = some 596)) ?_
  refine ev_iload_n 21 rfl d168_20 rfl ?_
  refine ev_aload_n 22 rfl d168_21 rfl ?_
  refine ev_getr 25 rfl 9 11 d168_22 rfl (by omega) (G.1 _ _ (rfl : ai_sp 572 = (9, 0)) (by decide) (by decide)) (G.2 _ _ _ (rfl : ai_rf 572 11 = some 581)) ?_
  refine ev_iload_n 26 rfl d168_25 rfl ?_
  refine ev_iald_n (v := nI (σ.tr c) - 1) 27 rfl d168_26 (by omega) (G.1 _ _ (rfl : ai_sp 581 = (100, 200)) (by decide) (by decide)) (by omega) (by decide) (by rw [ui_row hI_2 (by omega), hfw _ (by omega) (by omega)]; exact hM.tr c hc hq) ?_
  refine ev_iconst (v := (-1)) 28 rfl d168_27 (by decide) ?_
  refine ev_icmp 35 31 (by decide) rfl (cq_eq (by omega)) d168_28 (fun hc_28 => ?_) (fun hc_28 => ?_)
  · refine ev_iconst (v := nI 0) 36 rfl d168_35 (by decide) ?_
    
    obtain ⟨I_3, hI_3⟩ : ∃ z, z = ai_ui I_2 596 c (nI 0) := ⟨_, rfl⟩
    refine ev_zast_n (I2 := I_3) 37 rfl d168_36 (by omega) (G.1 _ _ (rfl : ai_sp 596 = (102, 200)) (by decide) (by decide)) (by omega) (by decide) (by decide) hI_3.symm ?_
    refine ev_aload_n 38 rfl d168_37 rfl ?_
    refine ev_getr 41 rfl 9 31 d168_38 rfl (by omega) (G.1 _ _ (rfl : ai_sp 572 = (9, 0)) (by decide) (by decide)) (G.2 _ _ _ (rfl : ai_rf 572 31 = some 596)) ?_
    refine ev_iload_n 42 rfl d168_41 rfl ?_
    refine ev_bald_n (v := nI 0) 43 rfl d168_42 (by omega) (by decide) (G.1 _ _ (rfl : ai_sp 596 = (102, 200)) (by decide) (by decide)) (by omega) (by decide) (ui_same hI_3) ?_
    refine ev_if_F 54 46 (by decide) rfl (by decide) d168_43 ?_
    have hM4 := rm_fJ (rm_fJ hM3 (fJ_ui (by omega) hI_2)) (fJ_ui (by omega) hI_3)
    have hC4 := rc_fJ (rc_fJ hC3 (fJ_ui (by omega) hI_2)) (fJ_ui (by omega) hI_3)
    refine ev_aload_n 47 rfl d168_46 rfl ?_
    refine ev_iload_n 48 rfl d168_47 rfl ?_
    refine ev_cp1 51 rfl 146 d168_48 rfl rfl (by rw [G.1 _ _ (rfl : ai_sp 572 = (9, 0)) (by decide) (by decide)]; rfl) (by omega) rfl (m_countOf G hM4 hC4 hV hc) ?_
    refine ev_if 55 54 (by decide) rfl (c0_ne (by omega)) d168_51 (fun hc_51 => ?_) (fun hc_51 => ?_)
    · have hW4 : ai_MW σ c I_3 := MW_eq hW (by rw [ui_row hI_3 (by omega), ui_row hI_2 (by omega)]) (by rw [ui_row hI_3 (by omega), ui_row hI_2 (by omega)])
      have hwl := wt_le hV hc hld
      have hmt : σ.mk * σ.tot c ≤ (1000 * 4) * 65536 ^ 24 := by rw [Nat.mul_assoc]; exact Nat.mul_le_mul hmk.2 (tot_le hV hc hq)
      refine ev_aload_n 56 rfl d168_55 rfl ?_
      refine ev_aload_n 57 rfl d168_56 rfl ?_
      refine ev_getr 60 rfl 9 30 d168_57 rfl (by omega) (G.1 _ _ (rfl : ai_sp 572 = (9, 0)) (by decide) (by decide)) (G.2 _ _ _ (rfl : ai_rf 572 30 = some 595)) ?_
      refine ev_iload_n 61 rfl d168_60 rfl ?_
      refine ev_iald_n (v := nI (σ.lead c)) 62 rfl d168_61 (by omega) (G.1 _ _ (rfl : ai_sp 595 = (100, 200)) (by decide) (by decide)) (by omega) (by decide) (by rw [ui_row hI_3 (by omega)]; exact ui_same hI_2) ?_
      refine ev_iconst (v := nI 5) 63 rfl d168_62 (by decide) ?_
      refine ev_cu2 66 rfl 149 d168_63 rfl rfl (by rw [G.1 _ _ (rfl : ai_sp 572 = (9, 0)) (by decide) (by decide)]; rfl) (by omega) rfl (m_copy G (x := σ.lead c) (y := 5) (by omega) (by omega) (by omega) (hW4.1 _ hld)) (fun I_4 hr_63 => ?_)
      obtain ⟨hg5, hf5⟩ := hr_63
      refine ev_aload_n 67 rfl d168_66 rfl ?_
      refine ev_iconst (v := nI 4) 68 rfl d168_67 (by decide) ?_
      refine ev_bipush (v := nI 6) 70 rfl d168_68 (by decide) ?_
      refine ev_cu2 73 rfl 149 d168_70 rfl rfl (by rw [G.1 _ _ (rfl : ai_sp 572 = (9, 0)) (by decide) (by decide)]; rfl) (by omega) rfl (m_copy G (x := 4) (y := 6) (by omega) (by omega) (by omega) (hf5.keep (by omega) hW4.2)) (fun I_5 hr_70 => ?_)
      obtain ⟨hg6, hf6⟩ := hr_70
      refine ev_aload_n 74 rfl d168_73 rfl ?_
      refine ev_iconst (v := nI 5) 75 rfl d168_74 (by decide) ?_
      refine ev_sipush (v := nI 1000) 78 rfl d168_75 (by decide) ?_
      refine ev_cu2 81 rfl 150 d168_78 rfl rfl (by rw [G.1 _ _ (rfl : ai_sp 572 = (9, 0)) (by decide) (by decide)]; rfl) (by omega) rfl (m_times G (x := 5) (by omega) (m := 1000) (by omega) (hf6.keep (by omega) hg5) (big17 (big40 (Nat.mul_le_mul_left _ hwl) (by decide)))) (fun I_6 hr_78 => ?_)
      obtain ⟨hg7, hf7⟩ := hr_78
      have hM9 : ai_RM σ I_6 L := rm_fW (rm_fW (rm_fW hM4 (mf_W hf5)) (mf_W hf6)) (mf_W hf7)
      have hC9 : ai_RC σ I_6 := rc_fW (rc_fW (rc_fW hC4 (mf_W hf5)) (mf_W hf6)) (mf_W hf7)
      refine ev_aload_n 82 rfl d168_81 rfl ?_
      refine ev_bipush (v := nI 6) 84 rfl d168_82 (by decide) ?_
      refine ev_aload_n 85 rfl d168_84 rfl ?_
      refine ev_geti (v := nI σ.mk) 88 rfl 9 21 d168_85 rfl (by omega) (G.1 _ _ (rfl : ai_sp 572 = (9, 0)) (by decide) (by decide)) hM9.mk ?_
      refine ev_cu2 91 rfl 150 d168_88 rfl rfl (by rw [G.1 _ _ (rfl : ai_sp 572 = (9, 0)) (by decide) (by decide)]; rfl) (by omega) rfl (m_times G (x := 6) (by omega) (m := σ.mk) (by omega) (hf7.keep (by omega) hg6) (big17 (big40 hmt (by decide)))) (fun I_7 hr_88 => ?_)
      obtain ⟨hg8, hf8⟩ := hr_88
      have hM9 := rm_fW hM9 (mf_W hf8)
      have hC9 := rc_fW hC9 (mf_W hf8)
      refine ev_aload_n 92 rfl d168_91 rfl ?_
      refine ev_getr 95 rfl 9 31 d168_92 rfl (by omega) (G.1 _ _ (rfl : ai_sp 572 = (9, 0)) (by decide) (by decide)) (G.2 _ _ _ (rfl : ai_rf 572 31 = some 596)) ?_
      refine ev_iload_n 96 rfl d168_95 rfl ?_
      refine ev_aload_n 97 rfl d168_96 rfl ?_
      refine ev_iconst (v := nI 5) 98 rfl d168_97 (by decide) ?_
      refine ev_bipush (v := nI 6) 100 rfl d168_98 (by decide) ?_
      refine ev_cp2 103 rfl 153 d168_100 rfl rfl (by rw [G.1 _ _ (rfl : ai_sp 572 = (9, 0)) (by decide) (by decide)]; rfl) (by omega) rfl (m_cmp G (x := 5) (y := 6) (by omega) (by omega) (hf8.keep (by omega) hg7) hg8) ?_
      refine ev_if 118 106 (by decide) rfl cmp_ge d168_103 (fun hc_103 => ?_) (fun hc_103 => ?_)
      · refine ev_iconst (v := nI 1) 119 rfl d168_118 (by decide) ?_
        refine ev_goto 123 (by decide) d168_119 ?_
        
        obtain ⟨I_8, hI_8⟩ : ∃ z, z = ai_ui I_7 596 c (nI 1) := ⟨_, rfl⟩
        refine ev_zast_n (I2 := I_8) 124 rfl d168_123 (by omega) (G.1 _ _ (rfl : ai_sp 596 = (102, 200)) (by decide) (by decide)) (by omega) (by decide) (by decide) hI_8.symm ?_
        refine ev_vret rfl d168_124 ?_
        have hen : ai_qb (σ.ended c) = 1 := by
          rw [ended_iff.mpr (by omega)]; rfl
        exact ⟨rfl, _, rfl, by rw [ui_row hI_8 (by omega), hf8.1 _ (by omega) (by omega), hf7.1 _ (by omega) (by omega), hf6.1 _ (by omega) (by omega), hf5.1 _ (by omega) (by omega), ui_row hI_3 (by omega)]; exact ui_same hI_2, by rw [hen]; exact ui_same hI_8, fJ_tr (fJ_tr (fJ_tr (fJ_tr (fJ_tr (fJ_tr (fJ_tr (fJ_W hfw) (fJ_ui (by omega) hI_2)) (fJ_ui (by omega) hI_3)) (fJ_W (mf_W hf5))) (fJ_W (mf_W hf6))) (fJ_W (mf_W hf7))) (fJ_W (mf_W hf8))) (fJ_ui (by omega) hI_8), fun a k h1 h2 => by rw [ui_other hI_8 (by omega), hf8.1 _ (by omega) (by omega), hf7.1 _ (by omega) (by omega), hf6.1 _ (by omega) (by omega), hf5.1 _ (by omega) (by omega), ui_other hI_3 (by omega), ui_other hI_2 (by omega), hfw _ (by omega) (by omega)]⟩
      · refine ev_aload_n 107 rfl d168_106 rfl ?_
        refine ev_iload_n 108 rfl d168_107 rfl ?_
        refine ev_cp1 111 rfl 146 d168_108 rfl rfl (by rw [G.1 _ _ (rfl : ai_sp 572 = (9, 0)) (by decide) (by decide)]; rfl) (by omega) rfl (m_countOf G hM9 hC9 hV hc) ?_
        refine ev_aload_n 112 rfl d168_111 rfl ?_
        refine ev_geti (v := nI σ.lk) 115 rfl 9 22 d168_112 rfl (by omega) (G.1 _ _ (rfl : ai_sp 572 = (9, 0)) (by decide) (by decide)) hM9.lk ?_
        refine ev_icmp 122 118 (by decide) rfl (cn_lt (by omega) (by omega)) d168_115 (fun hc_115 => ?_) (fun hc_115 => ?_)
        · refine ev_iconst (v := nI 0) 123 rfl d168_122 (by decide) ?_
          
          obtain ⟨I_8, hI_8⟩ : ∃ z, z = ai_ui I_7 596 c (nI 0) := ⟨_, rfl⟩
          refine ev_zast_n (I2 := I_8) 124 rfl d168_123 (by omega) (G.1 _ _ (rfl : ai_sp 596 = (102, 200)) (by decide) (by decide)) (by omega) (by decide) (by decide) hI_8.symm ?_
          refine ev_vret rfl d168_124 ?_
          have hen : ai_qb (σ.ended c) = 0 := by
            rw [nb_F (fun h9 => absurd (ended_iff.mp h9) (by omega))]; rfl
          exact ⟨rfl, _, rfl, by rw [ui_row hI_8 (by omega), hf8.1 _ (by omega) (by omega), hf7.1 _ (by omega) (by omega), hf6.1 _ (by omega) (by omega), hf5.1 _ (by omega) (by omega), ui_row hI_3 (by omega)]; exact ui_same hI_2, by rw [hen]; exact ui_same hI_8, fJ_tr (fJ_tr (fJ_tr (fJ_tr (fJ_tr (fJ_tr (fJ_tr (fJ_W hfw) (fJ_ui (by omega) hI_2)) (fJ_ui (by omega) hI_3)) (fJ_W (mf_W hf5))) (fJ_W (mf_W hf6))) (fJ_W (mf_W hf7))) (fJ_W (mf_W hf8))) (fJ_ui (by omega) hI_8), fun a k h1 h2 => by rw [ui_other hI_8 (by omega), hf8.1 _ (by omega) (by omega), hf7.1 _ (by omega) (by omega), hf6.1 _ (by omega) (by omega), hf5.1 _ (by omega) (by omega), ui_other hI_3 (by omega), ui_other hI_2 (by omega), hfw _ (by omega) (by omega)]⟩
        · refine ev_iconst (v := nI 1) 119 rfl d168_118 (by decide) ?_
          refine ev_goto 123 (by decide) d168_119 ?_
          
          obtain ⟨I_8, hI_8⟩ : ∃ z, z = ai_ui I_7 596 c (nI 1) := ⟨_, rfl⟩
          refine ev_zast_n (I2 := I_8) 124 rfl d168_123 (by omega) (G.1 _ _ (rfl : ai_sp 596 = (102, 200)) (by decide) (by decide)) (by omega) (by decide) (by decide) hI_8.symm ?_
          refine ev_vret rfl d168_124 ?_
          have hen : ai_qb (σ.ended c) = 1 := by
            rw [ended_iff.mpr (by omega)]; rfl
          exact ⟨rfl, _, rfl, by rw [ui_row hI_8 (by omega), hf8.1 _ (by omega) (by omega), hf7.1 _ (by omega) (by omega), hf6.1 _ (by omega) (by omega), hf5.1 _ (by omega) (by omega), ui_row hI_3 (by omega)]; exact ui_same hI_2, by rw [hen]; exact ui_same hI_8, fJ_tr (fJ_tr (fJ_tr (fJ_tr (fJ_tr (fJ_tr (fJ_tr (fJ_W hfw) (fJ_ui (by omega) hI_2)) (fJ_ui (by omega) hI_3)) (fJ_W (mf_W hf5))) (fJ_W (mf_W hf6))) (fJ_W (mf_W hf7))) (fJ_W (mf_W hf8))) (fJ_ui (by omega) hI_8), fun a k h1 h2 => by rw [ui_other hI_8 (by omega), hf8.1 _ (by omega) (by omega), hf7.1 _ (by omega) (by omega), hf6.1 _ (by omega) (by omega), hf5.1 _ (by omega) (by omega), ui_other hI_3 (by omega), ui_other hI_2 (by omega), hfw _ (by omega) (by omega)]⟩
    · refine ev_vret rfl d168_54 ?_
      have hen : ai_qb (σ.ended c) = 0 := by
        rw [nb_F (fun h9 => absurd (ended_iff.mp h9) (by omega))]; rfl
      exact ⟨rfl, _, rfl, by rw [ui_row hI_3 (by omega)]; exact ui_same hI_2, by rw [hen]; exact ui_same hI_3, fJ_tr (fJ_tr (fJ_W hfw) (fJ_ui (by omega) hI_2)) (fJ_ui (by omega) hI_3), fun a k h1 h2 => by rw [ui_other hI_3 (by omega), ui_other hI_2 (by omega), hfw _ (by omega) (by omega)]⟩
  · refine ev_iconst (v := nI 1) 32 rfl d168_31 (by decide) ?_
    refine ev_goto 36 (by decide) d168_32 ?_
    
    obtain ⟨I_3, hI_3⟩ : ∃ z, z = ai_ui I_2 596 c (nI 1) := ⟨_, rfl⟩
    refine ev_zast_n (I2 := I_3) 37 rfl d168_36 (by omega) (G.1 _ _ (rfl : ai_sp 596 = (102, 200)) (by decide) (by decide)) (by omega) (by decide) (by decide) hI_3.symm ?_
    refine ev_aload_n 38 rfl d168_37 rfl ?_
    refine ev_getr 41 rfl 9 31 d168_38 rfl (by omega) (G.1 _ _ (rfl : ai_sp 572 = (9, 0)) (by decide) (by decide)) (G.2 _ _ _ (rfl : ai_rf 572 31 = some 596)) ?_
    refine ev_iload_n 42 rfl d168_41 rfl ?_
    refine ev_bald_n (v := nI 1) 43 rfl d168_42 (by omega) (by decide) (G.1 _ _ (rfl : ai_sp 596 = (102, 200)) (by decide) (by decide)) (by omega) (by decide) (ui_same hI_3) ?_
    refine ev_if_T 54 (by decide) (by decide) d168_43 ?_
    refine ev_vret rfl d168_54 ?_
    have hen : ai_qb (σ.ended c) = 1 := by
      rw [ended_iff.mpr (by omega)]; rfl
    exact ⟨rfl, _, rfl, by rw [ui_row hI_3 (by omega)]; exact ui_same hI_2, by rw [hen]; exact ui_same hI_3, fJ_tr (fJ_tr (fJ_W hfw) (fJ_ui (by omega) hI_2)) (fJ_ui (by omega) hI_3), fun a k h1 h2 => by rw [ui_other hI_3 (by omega), ui_other hI_2 (by omega), hfw _ (by omega) (by omega)]⟩
def ai_JA (σ : ai_S) (I : Nat → Nat → Int32) (m : Nat) : Prop := ∀ c, c < m → c / 5 < σ.nT → c % 5 < σ.nQ → I 595 c = nI (σ.lead c) ∧ I 596 c = nI (ai_qb (σ.ended c)) ∧ I 597 c = nI (ai_qb (σ.isOpen c))
theorem JA_step {I I2 I3 : Nat → Nat → Int32} {c : Nat} {v : Int32} (h : ai_JA σ I c) (h1 : I2 595 c = nI (σ.lead c)) (h2 : I2 596 c = nI (ai_qb (σ.ended c))) (hf : ai_fC c I I2) (h3 : I3 = ai_ui I2 597 c v) (hv : v = nI (ai_qb (σ.isOpen c))) : ai_JA σ I3 (c + 1) := by
  intro d hd ht hq
  by_cases e : d = c
  · subst e
    exact ⟨by rw [ui_row h3 (by omega)]; exact h1, by rw [ui_row h3 (by omega)]; exact h2, by rw [← hv]; exact ui_same h3⟩
  · have h9 := h d (by omega) ht hq
    exact ⟨by rw [ui_row h3 (by omega), hf.2 _ _ (by omega) (by omega)]; exact h9.1, by rw [ui_row h3 (by omega), hf.2 _ _ (by omega) (by omega)]; exact h9.2.1, by rw [ui_other h3 (by omega), hf.2 _ _ (by omega) (by omega)]; exact h9.2.2⟩
theorem m_ja_in (G : ai_G S F) (hV : ai_IV σ) {I0 : Nat → Nat → Int32} {t : Nat} (ht : t < σ.nT) {Q : Option Value → ai_H → Prop} (hk : ∀ I u3 u4, ai_JA σ I (5 * t + σ.nQ) → ai_RM σ I L → ai_RC σ I → (∀ a, a < 572 → I a = I0 a) → ai_Ev none 169 112 [some (.ref 572), some (.int (nI t)), some (.int (nI σ.nQ)), u3, u4] [] (S, I, L, F) Q) : ∀ (z q : Nat) (I : Nat → Nat → Int32) (u3 u4 : Option Value), q + z = σ.nQ → ai_JA σ I (5 * t + q) → ai_RM σ I L → ai_RC σ I → (∀ a, a < 572 → I a = I0 a) → ai_Ev none 169 16 [some (.ref 572), some (.int (nI t)), some (.int (nI q)), u3, u4] [] (S, I, L, F) Q := by
  have hnT := hV.nT
  have hnQ := hV.nQ
  have hnJ := hV.nJ
  intro z
  induction z with
  | zero =>
    intro q I u3 u4 hz hJA hM hC hf
    have e9 : q = σ.nQ := by omega
    subst e9
    refine ev_iload_n 17 rfl d169_16 rfl ?_
    refine ev_aload_n 18 rfl d169_17 rfl ?_
    refine ev_geti (v := nI σ.nQ) 21 rfl 9 6 d169_18 rfl (by omega) (G.1 _ _ (rfl : ai_sp 572 = (9, 0)) (by decide) (by decide)) hM.nQ ?_
    refine ev_icmp 112 24 (by decide) rfl (cn_ge (by omega) (by omega)) d169_21 (fun hc_21 => ?_) (fun hc_21 => absurd hc_21 (by omega))
    exact hk I _ _ hJA hM hC hf
  | succ z ih =>
    intro q I u3 u4 hz hJA hM hC hf
    refine ev_iload_n 17 rfl d169_16 rfl ?_
    refine ev_aload_n 18 rfl d169_17 rfl ?_
    refine ev_geti (v := nI σ.nQ) 21 rfl 9 6 d169_18 rfl (by omega) (G.1 _ _ (rfl : ai_sp 572 = (9, 0)) (by decide) (by decide)) hM.nQ ?_
    refine ev_icmp 112 24 (by decide) rfl (cn_ge (by omega) (by omega)) d169_21 (fun hc_21 => absurd hc_21 (by omega)) (fun hc_21 => ?_)
    refine ev_iconst (v := nI 5) 25 rfl d169_24 (by decide) ?_
    refine ev_iload_n 26 rfl d169_25 rfl ?_
    refine ev_imul (v := nI (5 * t)) 27 rfl d169_26 (pk_mul _ _) ?_
    refine ev_iload_n 28 rfl d169_27 rfl ?_
    refine ev_iadd (v := nI ((5 * t) + q)) 29 rfl d169_28 (nI_add _ _) ?_
    refine ev_store_in 30 rfl d169_29 (Nat.le_of_ble_eq_true rfl) rfl ?_
    show ai_Ev _ _ _ [some (.ref 572), some (.int (nI t)), some (.int (nI q)), some (.int (nI ((5 * t) + q))), u4] _ _ _
    refine ev_aload_n 31 rfl d169_30 rfl ?_
    refine ev_iload_n 32 rfl d169_31 rfl ?_
    refine ev_cu1 35 rfl 168 d169_32 rfl rfl (by rw [G.1 _ _ (rfl : ai_sp 572 = (9, 0)) (by decide) (by decide)]; rfl) (by omega) rfl (m_judgeCase G hM hC hV (c := 5 * t + q) (by omega) (by omega)) (fun I_1 hr_32 => ?_)
    obtain ⟨hl9, he9, hfc⟩ := hr_32
    have hM5 := rm_fJ hM hfc.1
    have hC5 := rc_fJ hC hfc.1
    refine ev_iconst (v := nI 5) 36 rfl d169_35 (by decide) ?_
    refine ev_iload_n 37 rfl d169_36 rfl ?_
    refine ev_imul (v := nI (5 * t)) 38 rfl d169_37 (pk_mul _ _) ?_
    refine ev_iload_n 39 rfl d169_38 rfl ?_
    refine ev_if 46 42 (by decide) rfl (c0_ne (by omega)) d169_39 (fun hc_39 => ?_) (fun hc_39 => ?_)
    · have hpa := hV.pa q (by omega) (by omega)
      have hql1 := qb_lt (σ.isOpen (5 * t + σ.pa q))
      have hql2 := qb_lt (σ.ended (5 * t + σ.pa q))
      have hlp := lead_lt hV (c := 5 * t + σ.pa q) (by omega)
      have hap := hV.an ((5 * t + σ.pa q) % 5) (by omega)
      have hap2 := hV.an (σ.pa q) (by omega)
      have hoi := open_iff (σ := σ) hV (t := t) (q := q) (by omega) (by omega)
      refine ev_aload_n 47 rfl d169_46 rfl ?_
      refine ev_getr 50 rfl 9 9 d169_47 rfl (by omega) (G.1 _ _ (rfl : ai_sp 572 = (9, 0)) (by decide) (by decide)) (G.2 _ _ _ (rfl : ai_rf 572 9 = some 579)) ?_
      refine ev_iload_n 51 rfl d169_50 rfl ?_
      refine ev_iald_n (v := nI (σ.pa q)) 52 rfl d169_51 (by omega) (G.1 _ _ (rfl : ai_sp 579 = (100, 5)) (by decide) (by decide)) (by omega) (by decide) (hM5.pa _ (by omega) (by omega)) ?_
      refine ev_iadd (v := nI ((5 * t) + (σ.pa q))) 53 rfl d169_52 (nI_add _ _) ?_
      refine ev_store_i 55 rfl d169_53 ⟨rfl, Nat.le_of_ble_eq_true rfl⟩ rfl ?_
      show ai_Ev _ _ _ [some (.ref 572), some (.int (nI t)), some (.int (nI q)), some (.int (nI ((5 * t) + q))), some (.int (nI ((5 * t) + (σ.pa q))))] _ _ _
      refine ev_aload_n 56 rfl d169_55 rfl ?_
      refine ev_getr 59 rfl 9 32 d169_56 rfl (by omega) (G.1 _ _ (rfl : ai_sp 572 = (9, 0)) (by decide) (by decide)) (G.2 _ _ _ (rfl : ai_rf 572 32 = some 597)) ?_
      refine ev_iload_n 60 rfl d169_59 rfl ?_
      refine ev_iload_n 61 rfl d169_60 rfl ?_
      refine ev_if 100 64 (by decide) rfl (c0_eq (by omega)) d169_61 (fun hc_61 => ?_) (fun hc_61 => ?_)
      · exact absurd hc_61 hc_39
      · refine ev_aload_n 65 rfl d169_64 rfl ?_
        refine ev_getr 68 rfl 9 32 d169_65 rfl (by omega) (G.1 _ _ (rfl : ai_sp 572 = (9, 0)) (by decide) (by decide)) (G.2 _ _ _ (rfl : ai_rf 572 32 = some 597)) ?_
        refine ev_iload 70 rfl d169_68 rfl ?_
        refine ev_bald_n (v := nI (ai_qb (σ.isOpen (5 * t + σ.pa q)))) 71 rfl d169_70 (by omega) (by decide) (G.1 _ _ (rfl : ai_sp 597 = (102, 200)) (by decide) (by decide)) (by omega) (by decide) ((hfc.2 _ _ (by omega) (by omega)).trans (hJA (5 * t + σ.pa q) (by omega) (by omega) (by omega)).2.2) ?_
        refine ev_if 104 74 (by decide) rfl (c0_eq (by omega)) d169_71 (fun hc_71 => ?_) (fun hc_71 => ?_)
        · refine ev_iconst (v := nI 0) 105 rfl d169_104 (by decide) ?_
          have ho : ¬ σ.isOpen (5 * t + q) = true := fun h9 => by
            have h8 := hoi.mp h9
            first
              | exact qb_0 hc_71 h8.1
              | exact qb_0 hc_81 h8.2.1
              | omega
          obtain ⟨I_2, hI_2⟩ : ∃ z, z = ai_ui I_1 597 ((5 * t) + q) (nI 0) := ⟨_, rfl⟩
          refine ev_zast_n (I2 := I_2) 106 rfl d169_105 (by omega) (G.1 _ _ (rfl : ai_sp 597 = (102, 200)) (by decide) (by decide)) (by omega) (by decide) (by decide) hI_2.symm ?_
          refine ev_iinc (v := nI (q + 1)) 109 rfl d169_106 rfl (Nat.le_of_ble_eq_true rfl) (nI_add _ 1) rfl ?_
          show ai_Ev _ _ _ [some (.ref 572), some (.int (nI t)), some (.int (nI (q + 1))), some (.int (nI ((5 * t) + q))), some (.int (nI ((5 * t) + (σ.pa q))))] _ _ _
          refine ev_goto 16 (by decide) d169_109 ?_
          exact ih (q + 1) _ (some (.int (nI ((5 * t) + q)))) (some (.int (nI ((5 * t) + (σ.pa q))))) (by omega) (show ai_JA σ _ (5 * t + q + 1) from JA_step (c := 5 * t + q) hJA hl9 he9 hfc hI_2 (by rw [nb_F ho]; rfl)) (rm_fJ hM5 (fJ_ui (by omega) hI_2)) (rc_fJ hC5 (fJ_ui (by omega) hI_2)) (fun a ha => by rw [ui_row hI_2 (by omega), hfc.1 a (by omega) (by omega) (by omega)]; exact hf a ha)
        · refine ev_aload_n 75 rfl d169_74 rfl ?_
          refine ev_getr 78 rfl 9 31 d169_75 rfl (by omega) (G.1 _ _ (rfl : ai_sp 572 = (9, 0)) (by decide) (by decide)) (G.2 _ _ _ (rfl : ai_rf 572 31 = some 596)) ?_
          refine ev_iload 80 rfl d169_78 rfl ?_
          refine ev_bald_n (v := nI (ai_qb (σ.ended (5 * t + σ.pa q)))) 81 rfl d169_80 (by omega) (by decide) (G.1 _ _ (rfl : ai_sp 596 = (102, 200)) (by decide) (by decide)) (by omega) (by decide) ((hfc.2 _ _ (by omega) (by omega)).trans (hJA (5 * t + σ.pa q) (by omega) (by omega) (by omega)).2.1) ?_
          refine ev_if 104 84 (by decide) rfl (c0_eq (by omega)) d169_81 (fun hc_81 => ?_) (fun hc_81 => ?_)
          · refine ev_iconst (v := nI 0) 105 rfl d169_104 (by decide) ?_
            have ho : ¬ σ.isOpen (5 * t + q) = true := fun h9 => by
              have h8 := hoi.mp h9
              first
                | exact qb_0 hc_71 h8.1
                | exact qb_0 hc_81 h8.2.1
                | omega
            obtain ⟨I_2, hI_2⟩ : ∃ z, z = ai_ui I_1 597 ((5 * t) + q) (nI 0) := ⟨_, rfl⟩
            refine ev_zast_n (I2 := I_2) 106 rfl d169_105 (by omega) (G.1 _ _ (rfl : ai_sp 597 = (102, 200)) (by decide) (by decide)) (by omega) (by decide) (by decide) hI_2.symm ?_
            refine ev_iinc (v := nI (q + 1)) 109 rfl d169_106 rfl (Nat.le_of_ble_eq_true rfl) (nI_add _ 1) rfl ?_
            show ai_Ev _ _ _ [some (.ref 572), some (.int (nI t)), some (.int (nI (q + 1))), some (.int (nI ((5 * t) + q))), some (.int (nI ((5 * t) + (σ.pa q))))] _ _ _
            refine ev_goto 16 (by decide) d169_109 ?_
            exact ih (q + 1) _ (some (.int (nI ((5 * t) + q)))) (some (.int (nI ((5 * t) + (σ.pa q))))) (by omega) (show ai_JA σ _ (5 * t + q + 1) from JA_step (c := 5 * t + q) hJA hl9 he9 hfc hI_2 (by rw [nb_F ho]; rfl)) (rm_fJ hM5 (fJ_ui (by omega) hI_2)) (rc_fJ hC5 (fJ_ui (by omega) hI_2)) (fun a ha => by rw [ui_row hI_2 (by omega), hfc.1 a (by omega) (by omega) (by omega)]; exact hf a ha)
          · refine ev_aload_n 85 rfl d169_84 rfl ?_
            refine ev_getr 88 rfl 9 30 d169_85 rfl (by omega) (G.1 _ _ (rfl : ai_sp 572 = (9, 0)) (by decide) (by decide)) (G.2 _ _ _ (rfl : ai_rf 572 30 = some 595)) ?_
            refine ev_iload 90 rfl d169_88 rfl ?_
            refine ev_iald_n (v := nI (σ.lead (5 * t + σ.pa q))) 91 rfl d169_90 (by omega) (G.1 _ _ (rfl : ai_sp 595 = (100, 200)) (by decide) (by decide)) (by omega) (by decide) ((hfc.2 _ _ (by omega) (by omega)).trans (hJA (5 * t + σ.pa q) (by omega) (by omega) (by omega)).1) ?_
            refine ev_aload_n 92 rfl d169_91 rfl ?_
            refine ev_getr 95 rfl 9 10 d169_92 rfl (by omega) (G.1 _ _ (rfl : ai_sp 572 = (9, 0)) (by decide) (by decide)) (G.2 _ _ _ (rfl : ai_rf 572 10 = some 580)) ?_
            refine ev_iload_n 96 rfl d169_95 rfl ?_
            refine ev_iald_n (v := nI (σ.wa q)) 97 rfl d169_96 (by omega) (G.1 _ _ (rfl : ai_sp 580 = (100, 5)) (by decide) (by decide)) (by omega) (by decide) (hM5.wa _ (by omega) (by omega)) ?_
            refine ev_icmp 104 100 (by decide) rfl (cn_ne (by omega) (by omega)) d169_97 (fun hc_97 => ?_) (fun hc_97 => ?_)
            · refine ev_iconst (v := nI 0) 105 rfl d169_104 (by decide) ?_
              have ho : ¬ σ.isOpen (5 * t + q) = true := fun h9 => by
                have h8 := hoi.mp h9
                first
                  | exact qb_0 hc_71 h8.1
                  | exact qb_0 hc_81 h8.2.1
                  | omega
              obtain ⟨I_2, hI_2⟩ : ∃ z, z = ai_ui I_1 597 ((5 * t) + q) (nI 0) := ⟨_, rfl⟩
              refine ev_zast_n (I2 := I_2) 106 rfl d169_105 (by omega) (G.1 _ _ (rfl : ai_sp 597 = (102, 200)) (by decide) (by decide)) (by omega) (by decide) (by decide) hI_2.symm ?_
              refine ev_iinc (v := nI (q + 1)) 109 rfl d169_106 rfl (Nat.le_of_ble_eq_true rfl) (nI_add _ 1) rfl ?_
              show ai_Ev _ _ _ [some (.ref 572), some (.int (nI t)), some (.int (nI (q + 1))), some (.int (nI ((5 * t) + q))), some (.int (nI ((5 * t) + (σ.pa q))))] _ _ _
              refine ev_goto 16 (by decide) d169_109 ?_
              exact ih (q + 1) _ (some (.int (nI ((5 * t) + q)))) (some (.int (nI ((5 * t) + (σ.pa q))))) (by omega) (show ai_JA σ _ (5 * t + q + 1) from JA_step (c := 5 * t + q) hJA hl9 he9 hfc hI_2 (by rw [nb_F ho]; rfl)) (rm_fJ hM5 (fJ_ui (by omega) hI_2)) (rc_fJ hC5 (fJ_ui (by omega) hI_2)) (fun a ha => by rw [ui_row hI_2 (by omega), hfc.1 a (by omega) (by omega) (by omega)]; exact hf a ha)
            · refine ev_iconst (v := nI 1) 101 rfl d169_100 (by decide) ?_
              refine ev_goto 105 (by decide) d169_101 ?_
              have ho : σ.isOpen (5 * t + q) = true := hoi.mpr ⟨qb_1 hc_71, qb_1 hc_81, by omega⟩
              obtain ⟨I_2, hI_2⟩ : ∃ z, z = ai_ui I_1 597 ((5 * t) + q) (nI 1) := ⟨_, rfl⟩
              refine ev_zast_n (I2 := I_2) 106 rfl d169_105 (by omega) (G.1 _ _ (rfl : ai_sp 597 = (102, 200)) (by decide) (by decide)) (by omega) (by decide) (by decide) hI_2.symm ?_
              refine ev_iinc (v := nI (q + 1)) 109 rfl d169_106 rfl (Nat.le_of_ble_eq_true rfl) (nI_add _ 1) rfl ?_
              show ai_Ev _ _ _ [some (.ref 572), some (.int (nI t)), some (.int (nI (q + 1))), some (.int (nI ((5 * t) + q))), some (.int (nI ((5 * t) + (σ.pa q))))] _ _ _
              refine ev_goto 16 (by decide) d169_109 ?_
              exact ih (q + 1) _ (some (.int (nI ((5 * t) + q)))) (some (.int (nI ((5 * t) + (σ.pa q))))) (by omega) (show ai_JA σ _ (5 * t + q + 1) from JA_step (c := 5 * t + q) hJA hl9 he9 hfc hI_2 (by rw [ho]; rfl)) (rm_fJ hM5 (fJ_ui (by omega) hI_2)) (rc_fJ hC5 (fJ_ui (by omega) hI_2)) (fun a ha => by rw [ui_row hI_2 (by omega), hfc.1 a (by omega) (by omega) (by omega)]; exact hf a ha)
    · 
      refine ev_iconst (v := nI 0) 43 rfl d169_42 (by decide) ?_
      refine ev_goto 52 (by decide) d169_43 ?_
      refine ev_iadd (v := nI ((5 * t) + 0)) 53 rfl d169_52 (nI_add _ _) ?_
      refine ev_store_i 55 rfl d169_53 ⟨rfl, Nat.le_of_ble_eq_true rfl⟩ rfl ?_
      show ai_Ev _ _ _ [some (.ref 572), some (.int (nI t)), some (.int (nI q)), some (.int (nI ((5 * t) + q))), some (.int (nI ((5 * t) + 0)))] _ _ _
      refine ev_aload_n 56 rfl d169_55 rfl ?_
      refine ev_getr 59 rfl 9 32 d169_56 rfl (by omega) (G.1 _ _ (rfl : ai_sp 572 = (9, 0)) (by decide) (by decide)) (G.2 _ _ _ (rfl : ai_rf 572 32 = some 597)) ?_
      refine ev_iload_n 60 rfl d169_59 rfl ?_
      refine ev_iload_n 61 rfl d169_60 rfl ?_
      refine ev_if 100 64 (by decide) rfl (c0_eq (by omega)) d169_61 (fun hc_61 => ?_) (fun hc_61 => ?_)
      · have ho : σ.isOpen (5 * t + q) = true := by rw [hc_61]; exact open_0
        refine ev_iconst (v := nI 1) 101 rfl d169_100 (by decide) ?_
        refine ev_goto 105 (by decide) d169_101 ?_
        
        obtain ⟨I_2, hI_2⟩ : ∃ z, z = ai_ui I_1 597 ((5 * t) + q) (nI 1) := ⟨_, rfl⟩
        refine ev_zast_n (I2 := I_2) 106 rfl d169_105 (by omega) (G.1 _ _ (rfl : ai_sp 597 = (102, 200)) (by decide) (by decide)) (by omega) (by decide) (by decide) hI_2.symm ?_
        refine ev_iinc (v := nI (q + 1)) 109 rfl d169_106 rfl (Nat.le_of_ble_eq_true rfl) (nI_add _ 1) rfl ?_
        show ai_Ev _ _ _ [some (.ref 572), some (.int (nI t)), some (.int (nI (q + 1))), some (.int (nI ((5 * t) + q))), some (.int (nI ((5 * t) + 0)))] _ _ _
        refine ev_goto 16 (by decide) d169_109 ?_
        exact ih (q + 1) _ (some (.int (nI ((5 * t) + q)))) (some (.int (nI ((5 * t) + 0)))) (by omega) (show ai_JA σ _ (5 * t + q + 1) from JA_step (c := 5 * t + q) hJA hl9 he9 hfc hI_2 (by rw [ho]; rfl)) (rm_fJ hM5 (fJ_ui (by omega) hI_2)) (rc_fJ hC5 (fJ_ui (by omega) hI_2)) (fun a ha => by rw [ui_row hI_2 (by omega), hfc.1 a (by omega) (by omega) (by omega)]; exact hf a ha)
      · exact absurd (Classical.not_not.mp hc_39) hc_61
theorem m_ja_t (G : ai_G S F) (hV : ai_IV σ) {I0 : Nat → Nat → Int32} : ∀ (z t : Nat) (I : Nat → Nat → Int32) (u2 u3 u4 : Option Value), t + z = σ.nT → ai_JA σ I (5 * t) → ai_RM σ I L → ai_RC σ I → (∀ a, a < 572 → I a = I0 a) → ai_Ev none 169 6 [some (.ref 572), some (.int (nI t)), u2, u3, u4] [] (S, I, L, F) (ai_Pu S F L (fun I2 => ai_RM σ I2 L ∧ ai_RC σ I2 ∧ ai_JA σ I2 200 ∧ ∀ a, a < 572 → I2 a = I0 a)) := by
  have hnT := hV.nT
  have hnQ := hV.nQ
  have hnJ := hV.nJ
  intro z
  induction z with
  | zero =>
    intro t I u2 u3 u4 hz hJA hM hC hf
    have e9 : t = σ.nT := by omega
    subst e9
    refine ev_iload_n 7 rfl d169_6 rfl ?_
    refine ev_aload_n 8 rfl d169_7 rfl ?_
    refine ev_geti (v := nI σ.nT) 11 rfl 9 5 d169_8 rfl (by omega) (G.1 _ _ (rfl : ai_sp 572 = (9, 0)) (by decide) (by decide)) hM.nT ?_
    refine ev_icmp 118 14 (by decide) rfl (cn_ge (by omega) (by omega)) d169_11 (fun hc_11 => ?_) (fun hc_11 => absurd hc_11 (by omega))
    refine ev_vret rfl d169_118 ?_
    exact ⟨rfl, _, rfl, hM, hC, fun c h1 h2 h3 => hJA c (by omega) h2 h3, hf⟩
  | succ z ih =>
    intro t I u2 u3 u4 hz hJA hM hC hf
    have ht2 : t < σ.nT := by omega
    refine ev_iload_n 7 rfl d169_6 rfl ?_
    refine ev_aload_n 8 rfl d169_7 rfl ?_
    refine ev_geti (v := nI σ.nT) 11 rfl 9 5 d169_8 rfl (by omega) (G.1 _ _ (rfl : ai_sp 572 = (9, 0)) (by decide) (by decide)) hM.nT ?_
    refine ev_icmp 118 14 (by decide) rfl (cn_ge (by omega) (by omega)) d169_11 (fun hc_11 => absurd hc_11 (by omega)) (fun hc_11 => ?_)
    refine ev_iconst (v := nI 0) 15 rfl d169_14 (by decide) ?_
    refine ev_store_in 16 rfl d169_15 (Nat.le_of_ble_eq_true rfl) rfl ?_
    show ai_Ev _ _ _ [some (.ref 572), some (.int (nI t)), some (.int (nI 0)), u3, u4] _ _ _
    refine m_ja_in G hV ht2 ?_ σ.nQ 0 I _ _ (by omega) hJA hM hC hf
    intro I9 w3 w4 h9J h9M h9C h9f
    refine ev_iinc (v := nI (t + 1)) 115 rfl d169_112 rfl (Nat.le_of_ble_eq_true rfl) (nI_add _ 1) rfl ?_
    show ai_Ev _ _ _ [some (.ref 572), some (.int (nI (t + 1))), some (.int (nI σ.nQ)), w3, w4] _ _ _
    refine ev_goto 6 (by decide) d169_115 ?_
    exact ih (t + 1) I9 (some (.int (nI σ.nQ))) w3 w4 (by omega) (fun c h1 h2 h3 => h9J c (by omega) h2 h3) h9M h9C h9f
theorem m_judgeAll (G : ai_G S F) (hM : ai_RM σ I L) (hV : ai_IV σ) : ai_Ev none 169 0 [some (.ref 572), none, none, none, none] [] (S, I, L, F) (ai_Pu S F L (fun I2 => ai_RM σ I2 L ∧ ai_RC σ I2 ∧ ai_JA σ I2 200 ∧ ∀ a, a < 572 → I2 a = I a)) := by
  have hnT := hV.nT
  have hnQ := hV.nQ
  have hnJ := hV.nJ
  refine ev_aload_n 1 rfl d169_0 rfl ?_
  refine ev_cu0 4 rfl 145 d169_1 rfl rfl (by rw [G.1 _ _ (rfl : ai_sp 572 = (9, 0)) (by decide) (by decide)]; rfl) (by omega) rfl (m_renew G hM hV) (fun I_1 hr_1 => ?_)
  obtain ⟨hM2, hC2, hfn⟩ := hr_1
  refine ev_iconst (v := nI 0) 5 rfl d169_4 (by decide) ?_
  refine ev_store_in 6 rfl d169_5 (Nat.le_of_ble_eq_true rfl) rfl ?_
  show ai_Ev _ _ _ [some (.ref 572), some (.int (nI 0)), none, none, none] _ _ _
  exact m_ja_t G hV σ.nT 0 _ _ _ _ (by omega) (fun c h1 => absurd h1 (by omega)) hM2 hC2 (fN_lo hfn)
end MJUD
