section XWEIGH
variable {S : List (Nat × Nat)} {F : Nat → Nat → Option Nat} {L : Nat → Nat → Int64} {I : Nat → Nat → Int32} {σ : ai_S}
theorem OS_congr {I : Nat → Nat → Int32} {n t k k2 : Nat} {W W2 : Nat → Nat} (h : ai_OS I n t k W) (hk : k = k2) (hw : ∀ b, b < n → W b = W2 b) : ai_OS I n t k2 W2 := by
  subst hk
  exact ⟨h.1, h.2.1, h.2.2.1, fun b hb => by rw [← hw b hb]; exact h.2.2.2 b hb⟩
theorem x_hear (G : ai_G S F) (hX : ai_RX σ I L) (hV : ai_IV σ) {t q : Nat} (ht : t < σ.nT) (hq : q < σ.nQ) {k kk : Nat} (hk : k < 24) (hcd : σ.ctd k (5 * t + q) = true) (hO : ai_OS I (σ.an q) (σ.tr (5 * t + q)) kk (fun b => σ.wk (5 * t + q) b k)) :
    ai_Ev none 30 0 [some (.ref 8), some (.ref (76 + 4 * k)), some (.int (nI q)), some (.int (nI (σ.said k (5 * t + q)))), none] [] (S, I, L, F) (ai_Pu S F L (fun I2 => ai_OS I2 (σ.an q) (σ.tr (5 * t + q)) (kk + 1) (fun b => σ.wk (5 * t + q) b (k + 1)) ∧ ai_fo I I2)) := by
  have hnT := hV.nT
  have hnQ := hV.nQ
  have hnJ := hV.nJ
  have hc : 5 * t + q < 200 := by omega
  have hm : (5 * t + q) % 5 = q := by omega
  have han := hV.an q hq
  have htr := tr_le hV hc
  have hsd := ctd_said hV hc hcd
  rw [hm] at hsd
  refine (o_hear (V := fun b => σ.sd k q (σ.said k (5 * t + q)) b) (U := fun o => σ.sa k q o) (Fc := fun b => σ.fac k q (σ.said k (5 * t + q)) b) G han.2 htr (by omega) (by omega) (by omega) (fun b hb => by have := (hV.sl k q (σ.said k (5 * t + q)) b).1; show σ.sd _ _ _ _ < _; omega) (fun b hb => by have := (hV.sl k q 0 b).2; show σ.sa _ _ _ < _; omega) (fun b hb => rfl) (fun b hb => by have := fac_le hV hk hq hsd.2.1 hb; show σ.fac _ _ _ _ < _; omega) (fun _ b hb => ?_) hO (fun b hb => hX.sd _ _ _ _ (by omega) (by omega) (by omega) hb) (fun b hb => hX.sa _ _ _ (by omega) (by omega) hb)).imp ?_
  · have h1 := fac_le hV hk hq hsd.2.1 hb
    have h2 := wk_le hV hc (b := b) (by rw [hm]; exact hb) (k := k) (by omega)
    exact big16 (Nat.mul_le_mul (Nat.le_trans h1 (by decide : 38416 ≤ 38416000)) (Nat.le_trans h2 (by decide)))
  · rintro r h' ⟨h1, I2, h2, h3, h4⟩
    refine ⟨h1, I2, h2, OS_congr h3 rfl (fun b hb => ?_), h4⟩
    rw [wk_T hcd, hm]
theorem x_weigh_loop (G : ai_G S F) {I0 : Nat → Nat → Int32} (hX0 : ai_RX σ I0 L) (hV : ai_IV σ) {t q : Nat} (ht : t < σ.nT) (hq : q < σ.nQ) : ∀ (z k : Nat) (I : Nat → Nat → Int32), k + z = σ.nJ → ai_OS I (σ.an q) (σ.tr (5 * t + q)) (ai_qn (fun j => σ.ctd j (5 * t + q)) k) (fun b => σ.wk (5 * t + q) b k) → ai_fo I0 I → ai_Ev none 104 30 [some (.ref 1), some (.int (nI t)), some (.int (nI q)), some (.ref (172 + 2 * (5 * t + q))), some (.int (nI k))] [] (S, I, L, F) (ai_Pu S F L (fun I2 => ai_OQ I2 (σ.an q) (σ.tr (5 * t + q)) (σ.look (5 * t + q)) (σ.lead (5 * t + q)) (σ.tot (5 * t + q)) (σ.wt (5 * t + q)) ∧ ai_fo I0 I2)) := by
  have hnT := hV.nT
  have hnQ := hV.nQ
  have hnJ := hV.nJ
  have hc : 5 * t + q < 200 := by omega
  have hm : (5 * t + q) % 5 = q := by omega
  have han := hV.an q hq
  have htr := tr_le hV hc
  intro z
  induction z with
  | zero =>
    intro k I hz hO hf
    have e9 : k = σ.nJ := by omega
    subst e9
    have hX : ai_RX σ I L := hX0.frame (fun a h _ => hf a (by omega))
    have hfit : ai_qs (fun b => σ.wk (5 * t + q) b σ.nJ) (σ.an q) < 2147483648 ^ 16 := by
      have h1 := tot_le hV hc (by omega)
      unfold ai_S.tot at h1
      rw [hm] at h1
      exact big16 (Nat.le_trans h1 (by decide))
    refine ev_iload 32 rfl d104_30 rfl ?_
    refine ev_aload_n 33 rfl d104_32 rfl ?_
    refine ev_geti (v := nI σ.nJ) 36 rfl 8 6 d104_33 rfl (by omega) (G.1 _ _ (rfl : ai_sp 1 = (8, 0)) (by decide) (by decide)) hX.nJ ?_
    refine ev_icmp 76 39 (by decide) rfl (cn_ge (by omega) (by omega)) d104_36 (fun hc_36 => ?_) (fun hc_36 => absurd hc_36 (by omega))
    refine ev_aload_n 77 rfl d104_76 rfl ?_
    refine ev_getr 80 rfl 8 13 d104_77 rfl (by omega) (G.1 _ _ (rfl : ai_sp 1 = (8, 0)) (by decide) (by decide)) (G.2 _ _ _ (rfl : ai_rf 1 13 = some 8)) ?_
    refine ev_cu0 83 rfl 31 d104_80 rfl rfl (by rw [G.1 _ _ (rfl : ai_sp 8 = (3, 0)) (by decide) (by decide)]; rfl) (by omega) rfl (o_close G han.2 htr hfit hO) (fun I_1 hr_80 => ?_)
    refine ev_vret rfl d104_83 ?_
    obtain ⟨h1, h2, h3, h4⟩ := hr_80
    refine ⟨rfl, _, rfl, ⟨h1, ?_, ?_⟩, fun z hz => (h4 z hz).trans (hf z hz)⟩
    · unfold ai_S.lead; rw [hm]; exact h2
    · unfold ai_S.tot; rw [hm]; exact h3
  | succ z ih =>
    intro k I hz hO hf
    have hX : ai_RX σ I L := hX0.frame (fun a h _ => hf a (by omega))
    refine ev_iload 32 rfl d104_30 rfl ?_
    refine ev_aload_n 33 rfl d104_32 rfl ?_
    refine ev_geti (v := nI σ.nJ) 36 rfl 8 6 d104_33 rfl (by omega) (G.1 _ _ (rfl : ai_sp 1 = (8, 0)) (by decide) (by decide)) hX.nJ ?_
    refine ev_icmp 76 39 (by decide) rfl (cn_ge (by omega) (by omega)) d104_36 (fun hc_36 => absurd hc_36 (by omega)) (fun hc_36 => ?_)
    refine ev_aload_n 40 rfl d104_39 rfl ?_
    refine ev_aload_n 41 rfl d104_40 rfl ?_
    refine ev_iload 43 rfl d104_41 rfl ?_
    refine ev_cb2 46 rfl 97 d104_43 rfl rfl (by rw [G.1 _ _ (rfl : ai_sp 1 = (8, 0)) (by decide) (by decide)]; rfl) (by omega) rfl (x_counting G hX hV (by omega) hc) (fun hq_43 => ?_) (fun hq_43 => ?_)
    · have hsd := ctd_said hV hc hq_43
      rw [hm] at hsd
      refine ev_if_F 70 49 (by decide) rfl (by decide) d104_46 ?_
      refine ev_aload_n 50 rfl d104_49 rfl ?_
      refine ev_getr 53 rfl 8 13 d104_50 rfl (by omega) (G.1 _ _ (rfl : ai_sp 1 = (8, 0)) (by decide) (by decide)) (G.2 _ _ _ (rfl : ai_rf 1 13 = some 8)) ?_
      refine ev_aload_n 54 rfl d104_53 rfl ?_
      refine ev_getr 57 rfl 8 2 d104_54 rfl (by omega) (G.1 _ _ (rfl : ai_sp 1 = (8, 0)) (by decide) (by decide)) (G.2 _ _ _ (rfl : ai_rf 1 2 = some 4)) ?_
      refine ev_iload 59 rfl d104_57 rfl ?_
      refine ev_aald_n 60 rfl d104_59 (by omega) (by decide) (G.1 _ _ (rfl : ai_sp 4 = (106, 24)) (by decide) (by decide)) (by omega) (by decide) (G.2 _ _ _ (rf_judge (by omega))) ?_
      refine ev_iload_n 61 rfl d104_60 rfl ?_
      refine ev_aload_n 62 rfl d104_61 rfl ?_
      refine ev_iload 64 rfl d104_62 rfl ?_
      refine ev_cp1 67 rfl 16 d104_64 rfl rfl (by rw [G.1 _ _ (sp_case (by omega)) (by omega) (by omega)]; rfl) (by omega) rfl (x_said G hX hV (by omega) hc (ctd_gv hq_43)) ?_
      refine ev_cu3 70 rfl 30 d104_67 rfl rfl (by rw [G.1 _ _ (rfl : ai_sp 8 = (3, 0)) (by decide) (by decide)]; rfl) (by omega) rfl (x_hear G hX hV ht hq (by omega) hq_43 hO) (fun I_1 hr_67 => ?_)
      refine ev_iinc (v := nI (k + 1)) 73 rfl d104_70 rfl (Nat.le_of_ble_eq_true rfl) (nI_add _ 1) rfl ?_
      show ai_Ev _ _ _ [some (.ref 1), some (.int (nI t)), some (.int (nI q)), some (.ref (172 + 2 * (5 * t + q))), some (.int (nI (k + 1)))] _ _ _
      refine ev_goto 30 (by decide) d104_73 ?_
      exact ih (k + 1) I_1 (by omega) (OS_congr hr_67.1 (qn_T (p := fun j => σ.ctd j (5 * t + q)) hq_43).symm (fun b _ => rfl)) (fun z hz => (hr_67.2 z hz).trans (hf z hz))
    · refine ev_if_T 70 (by decide) (by decide) d104_46 ?_
      refine ev_iinc (v := nI (k + 1)) 73 rfl d104_70 rfl (Nat.le_of_ble_eq_true rfl) (nI_add _ 1) rfl ?_
      show ai_Ev _ _ _ [some (.ref 1), some (.int (nI t)), some (.int (nI q)), some (.ref (172 + 2 * (5 * t + q))), some (.int (nI (k + 1)))] _ _ _
      refine ev_goto 30 (by decide) d104_73 ?_
      exact ih (k + 1) I (by omega) (OS_congr hO (qn_F (p := fun j => σ.ctd j (5 * t + q)) hq_43).symm (fun b _ => (wk_F hq_43).symm)) hf
theorem x_weigh (G : ai_G S F) (hX : ai_RX σ I L) (hV : ai_IV σ) {t q : Nat} (ht : t < σ.nT) (hq : q < σ.nQ) : ai_Ev none 104 0 [some (.ref 1), some (.int (nI t)), some (.int (nI q)), none, none] [] (S, I, L, F) (ai_Pu S F L (fun I2 => ai_OQ I2 (σ.an q) (σ.tr (5 * t + q)) (σ.look (5 * t + q)) (σ.lead (5 * t + q)) (σ.tot (5 * t + q)) (σ.wt (5 * t + q)) ∧ ai_fo I I2)) := by
  have hnT := hV.nT
  have hnQ := hV.nQ
  have hnJ := hV.nJ
  have hc : 5 * t + q < 200 := by omega
  have hm : (5 * t + q) % 5 = q := by omega
  have han := hV.an q hq
  have htr := tr_le hV hc
  refine ev_aload_n 1 rfl d104_0 rfl ?_
  refine ev_iload_n 2 rfl d104_1 rfl ?_
  refine ev_iload_n 3 rfl d104_2 rfl ?_
  refine ev_cp2 6 rfl 89 d104_3 rfl rfl (by rw [G.1 _ _ (rfl : ai_sp 1 = (8, 0)) (by decide) (by decide)]; rfl) (by omega) rfl (x_caseOf G (t := t) (q := q) (by omega) (by omega)) ?_
  refine ev_store_an 7 rfl d104_6 (Nat.le_of_ble_eq_true rfl) rfl ?_
  show ai_Ev _ _ _ [some (.ref 1), some (.int (nI t)), some (.int (nI q)), some (.ref (172 + 2 * (5 * t + q))), none] _ _ _
  refine ev_aload_n 8 rfl d104_7 rfl ?_
  refine ev_getr 11 rfl 8 13 d104_8 rfl (by omega) (G.1 _ _ (rfl : ai_sp 1 = (8, 0)) (by decide) (by decide)) (G.2 _ _ _ (rfl : ai_rf 1 13 = some 8)) ?_
  refine ev_aload_n 12 rfl d104_11 rfl ?_
  refine ev_getr 15 rfl 8 1 d104_12 rfl (by omega) (G.1 _ _ (rfl : ai_sp 1 = (8, 0)) (by decide) (by decide)) (G.2 _ _ _ (rfl : ai_rf 1 1 = some 3)) ?_
  refine ev_iload_n 16 rfl d104_15 rfl ?_
  refine ev_aald_n 17 rfl d104_16 (by omega) (by decide) (G.1 _ _ (rfl : ai_sp 3 = (105, 5)) (by decide) (by decide)) (by omega) (by decide) (G.2 _ _ _ (rf_question (by omega))) ?_
  refine ev_geti (v := nI (σ.an q)) 20 rfl 4 0 d104_17 rfl (by omega) (G.1 _ _ (sp_question (by omega)) (by omega) (by omega)) (hX.an _ (by omega) (by omega)) ?_
  refine ev_aload_n 21 rfl d104_20 rfl ?_
  refine ev_geti (v := nI (σ.tr (5 * t + q)) - 1) 24 rfl 1 0 d104_21 rfl (by omega) (G.1 _ _ (sp_case (by omega)) (by omega) (by omega)) (hX.tr _ (by omega)) ?_
  refine ev_cu2 27 rfl 29 d104_24 rfl rfl (by rw [G.1 _ _ (rfl : ai_sp 8 = (3, 0)) (by decide) (by decide)]; rfl) (by omega) rfl (o_start G han.2 htr) (fun I_1 hr_24 => ?_)
  refine ev_iconst (v := nI 0) 28 rfl d104_27 (by decide) ?_
  refine ev_store_i 30 rfl d104_28 ⟨rfl, Nat.le_of_ble_eq_true rfl⟩ rfl ?_
  show ai_Ev _ _ _ [some (.ref 1), some (.int (nI t)), some (.int (nI q)), some (.ref (172 + 2 * (5 * t + q))), some (.int (nI 0))] _ _ _
  refine x_weigh_loop G hX hV ht hq σ.nJ 0 I_1 (by omega) (OS_congr hr_24.1 rfl (fun b hb => ?_)) hr_24.2
  show (if σ.tr (5 * t + q) = 0 ∨ σ.tr (5 * t + q) = b + 1 then 1 else 0) = (if σ.tr (5 * t + q) = 0 then 1 else if σ.tr (5 * t + q) = b + 1 then 1 else 0)
  by_cases e1 : σ.tr (5 * t + q) = 0
  · rw [if_pos (Or.inl e1), if_pos e1]
  · rw [if_neg e1]
    by_cases e2 : σ.tr (5 * t + q) = b + 1
    · rw [if_pos (Or.inr e2), if_pos e2]
    · rw [if_neg (fun h => h.elim e1 e2), if_neg e2]
theorem ended_iff {c : Nat} : σ.ended c = true ↔ σ.tr c ≠ 0 ∨ (0 < σ.look c ∧ (σ.lk ≤ σ.look c ∨ σ.mk * σ.tot c ≤ 1000 * σ.wt c (σ.lead c))) := by
  unfold ai_S.ended; rw [decide_eq_true_eq]
theorem look_le {c : Nat} : σ.look c ≤ σ.nJ := qn_le _ _
theorem x_ended (G : ai_G S F) (hX : ai_RX σ I L) (hV : ai_IV σ) {t q : Nat} (ht : t < σ.nT) (hq : q < σ.nQ) (hQ : ai_OQ I (σ.an q) (σ.tr (5 * t + q)) (σ.look (5 * t + q)) (σ.lead (5 * t + q)) (σ.tot (5 * t + q)) (σ.wt (5 * t + q))) : ai_Ev none 105 0 [some (.ref 1), some (.ref (172 + 2 * (5 * t + q)))] [] (S, I, L, F) (ai_Pz S F L (σ.ended (5 * t + q) = true) (fun I2 => ai_OQ I2 (σ.an q) (σ.tr (5 * t + q)) (σ.look (5 * t + q)) (σ.lead (5 * t + q)) (σ.tot (5 * t + q)) (σ.wt (5 * t + q)) ∧ ai_fo I I2)) := by
  have hnT := hV.nT
  have hnQ := hV.nQ
  have hnJ := hV.nJ
  have hc : 5 * t + q < 200 := by omega
  have hm : (5 * t + q) % 5 = q := by omega
  have han := hV.an q hq
  have htr := tr_le hV hc
  have hlk := look_le (σ := σ) (c := 5 * t + q)
  have hmk := hV.mk
  have hlkb := hV.lk
  have hld : σ.lead (5 * t + q) < σ.an q := by have := lead_lt hV (c := 5 * t + q) (by omega); rw [hm] at this; exact this
  have hfT : σ.mk * σ.tot (5 * t + q) < 2147483648 ^ 16 := big16 (Nat.mul_le_mul (by omega) (tot_le hV hc (by omega)))
  have hfW : 1000 * σ.wt (5 * t + q) (σ.lead (5 * t + q)) < 2147483648 ^ 16 := big16 (Nat.mul_le_mul (by decide : 1000 ≤ 38416000) (Nat.le_trans (wt_le hV hc (by rw [hm]; exact hld)) (by decide)))
  refine ev_aload_n 1 rfl d105_0 rfl ?_
  refine ev_cb0 4 rfl 13 d105_1 rfl rfl (by rw [G.1 _ _ (sp_case (by omega)) (by omega) (by omega)]; rfl) (by omega) rfl (x_known G hX hV hc) (fun hq_1 => ?_) (fun hq_1 => ?_)
  · refine ev_if_F 9 7 (by decide) rfl (by decide) d105_4 ?_
    refine ev_iconst (v := nI 1) 8 rfl d105_7 (by decide) ?_
    refine ev_iret (Or.inr ⟨rfl, Or.inr (by decide)⟩) d105_8 ?_
    exact ⟨_, Or.inl ⟨ended_iff.mpr (by omega), rfl⟩, rfl, hQ, fun _ _ => rfl⟩
  · refine ev_if_T 9 (by decide) (by decide) d105_4 ?_
    refine ev_aload_n 10 rfl d105_9 rfl ?_
    refine ev_getr 13 rfl 8 13 d105_10 rfl (by omega) (G.1 _ _ (rfl : ai_sp 1 = (8, 0)) (by decide) (by decide)) (G.2 _ _ _ (rfl : ai_rf 1 13 = some 8)) ?_
    refine ev_geti (v := nI (σ.look (5 * t + q))) 16 rfl 3 6 d105_13 rfl (by omega) (G.1 _ _ (rfl : ai_sp 8 = (3, 0)) (by decide) (by decide)) hQ.1.2.2.1 ?_
    refine ev_if 51 19 (by decide) rfl (c0_le (by omega)) d105_16 (fun hc_16 => ?_) (fun hc_16 => ?_)
    · refine ev_iconst (v := nI 0) 52 rfl d105_51 (by decide) ?_
      refine ev_iret (Or.inr ⟨rfl, Or.inl (by decide)⟩) d105_52 ?_
      exact ⟨_, Or.inr ⟨fun h9 => absurd (ended_iff.mp h9) (by omega), rfl⟩, rfl, hQ, fun _ _ => rfl⟩
    · refine ev_aload_n 20 rfl d105_19 rfl ?_
      refine ev_getr 23 rfl 8 13 d105_20 rfl (by omega) (G.1 _ _ (rfl : ai_sp 1 = (8, 0)) (by decide) (by decide)) (G.2 _ _ _ (rfl : ai_rf 1 13 = some 8)) ?_
      refine ev_geti (v := nI (σ.look (5 * t + q))) 26 rfl 3 6 d105_23 rfl (by omega) (G.1 _ _ (rfl : ai_sp 8 = (3, 0)) (by decide) (by decide)) hQ.1.2.2.1 ?_
      refine ev_aload_n 27 rfl d105_26 rfl ?_
      refine ev_geti (v := nI σ.lk) 30 rfl 8 8 d105_27 rfl (by omega) (G.1 _ _ (rfl : ai_sp 1 = (8, 0)) (by decide) (by decide)) hX.lk ?_
      refine ev_icmp 47 33 (by decide) rfl (cn_ge (by omega) (by omega)) d105_30 (fun hc_30 => ?_) (fun hc_30 => ?_)
      · refine ev_iconst (v := nI 1) 48 rfl d105_47 (by decide) ?_
        refine ev_goto 52 (by decide) d105_48 ?_
        refine ev_iret (Or.inr ⟨rfl, Or.inr (by decide)⟩) d105_52 ?_
        exact ⟨_, Or.inl ⟨ended_iff.mpr (by omega), rfl⟩, rfl, hQ, fun _ _ => rfl⟩
      · refine ev_aload_n 34 rfl d105_33 rfl ?_
        refine ev_getr 37 rfl 8 13 d105_34 rfl (by omega) (G.1 _ _ (rfl : ai_sp 1 = (8, 0)) (by decide) (by decide)) (G.2 _ _ _ (rfl : ai_rf 1 13 = some 8)) ?_
        refine ev_aload_n 38 rfl d105_37 rfl ?_
        refine ev_geti (v := nI σ.mk) 41 rfl 8 7 d105_38 rfl (by omega) (G.1 _ _ (rfl : ai_sp 1 = (8, 0)) (by decide) (by decide)) hX.mk ?_
        refine ev_cz1 44 rfl 33 d105_41 rfl rfl (by rw [G.1 _ _ (rfl : ai_sp 8 = (3, 0)) (by decide) (by decide)]; rfl) (by omega) rfl (o_reaches (W := σ.wt (5 * t + q)) G han.2 htr hld (by omega) hfT hfW hQ.1 hQ.2.1 hQ.2.2) (fun I_1 hq_41 hr_41 => ?_) (fun I_1 hq_41 hr_41 => ?_)
        · refine ev_if_F 51 47 (by decide) rfl (by decide) d105_44 ?_
          refine ev_iconst (v := nI 1) 48 rfl d105_47 (by decide) ?_
          refine ev_goto 52 (by decide) d105_48 ?_
          refine ev_iret (Or.inr ⟨rfl, Or.inr (by decide)⟩) d105_52 ?_
          exact ⟨_, Or.inl ⟨ended_iff.mpr (by omega), rfl⟩, rfl, ⟨hr_41.1, hr_41.2.1, hr_41.2.2.1⟩, hr_41.2.2.2⟩
        · refine ev_if_T 51 (by decide) (by decide) d105_44 ?_
          refine ev_iconst (v := nI 0) 52 rfl d105_51 (by decide) ?_
          refine ev_iret (Or.inr ⟨rfl, Or.inl (by decide)⟩) d105_52 ?_
          exact ⟨_, Or.inr ⟨fun h9 => absurd (ended_iff.mp h9) (by omega), rfl⟩, rfl, ⟨hr_41.1, hr_41.2.1, hr_41.2.2.1⟩, hr_41.2.2.2⟩
theorem opn_same (hV : ai_IV σ) {t : Nat} : ∀ (k m q : Nat), q < k → q < m → q < σ.nQ → σ.opn t k q = σ.opn t m q := by
  intro k
  induction k with
  | zero => intro m q h; omega
  | succ k ih =>
    intro m q h1 h2 h3
    obtain ⟨m, rfl⟩ : ∃ m2, m = m2 + 1 := ⟨m - 1, by omega⟩
    show (decide (q = 0) || (σ.opn t k (σ.pa q) && _)) = (decide (q = 0) || (σ.opn t m (σ.pa q) && _))
    by_cases e : q = 0
    · simp [e]
    · have hp := (hV.pa q (by omega) h3).1
      rw [ih m (σ.pa q) (by omega) (by omega) (by omega)]
theorem open_0 {t : Nat} : σ.isOpen (5 * t + 0) = true := by
  unfold ai_S.isOpen
  rw [show (5 * t + 0) / 5 = t by omega, show (5 * t + 0) % 5 = 0 by omega]
  rfl
theorem open_iff (hV : ai_IV σ) {t q : Nat} (h0 : 0 < q) (hq : q < σ.nQ) : σ.isOpen (5 * t + q) = true ↔ σ.isOpen (5 * t + σ.pa q) = true ∧ σ.ended (5 * t + σ.pa q) = true ∧ σ.lead (5 * t + σ.pa q) = σ.wa q := by
  have hp := (hV.pa q h0 hq).1
  have hnQ := hV.nQ
  unfold ai_S.isOpen
  rw [show (5 * t + q) / 5 = t by omega, show (5 * t + q) % 5 = q by omega, show (5 * t + σ.pa q) / 5 = t by omega, show (5 * t + σ.pa q) % 5 = σ.pa q by omega]
  show (decide (q = 0) || (σ.opn t 4 (σ.pa q) && (σ.ended (5 * t + σ.pa q) && decide (σ.lead (5 * t + σ.pa q) = σ.wa q)))) = true ↔ _
  rw [opn_same hV 4 5 (σ.pa q) (by omega) (by omega) (by omega)]
  simp [show ¬ q = 0 by omega]
def ai_SV (σ : ai_S) (I : Nat → Nat → Int32) (t k : Nat) : Prop := (∀ x, x < k → I 25 x = nI (ai_qb (σ.isOpen (5 * t + x)))) ∧ (∀ x, x < k → σ.isOpen (5 * t + x) = true → I 26 x = nI (ai_qb (σ.isOpen (5 * t + x) && σ.ended (5 * t + x)))) ∧ ∀ x, x < k → σ.isOpen (5 * t + x) = true → I 27 x = nI (σ.lead (5 * t + x))
theorem sv_no {I I2 : Nat → Nat → Int32} {t k : Nat} (h : ai_SV σ I t k) (ho : ¬ σ.isOpen (5 * t + k) = true) (h2 : I2 = ai_ui I 25 k (nI 0)) : ai_SV σ I2 t (k + 1) := by
  have hof := nb_F ho
  refine ⟨fun x hx => ?_, fun x hx hop => ?_, fun x hx hop => ?_⟩
  · by_cases e : x = k
    · subst e; rw [hof]; exact ui_same h2
    · rw [ui_other h2 (Or.inr e)]; exact h.1 x (by omega)
  · by_cases e : x = k
    · subst e; exact absurd hop ho
    · rw [ui_row h2 (by omega)]; exact h.2.1 x (by omega) hop
  · by_cases e : x = k
    · subst e; exact absurd hop ho
    · rw [ui_row h2 (by omega)]; exact h.2.2 x (by omega) hop
theorem sv_yes {I I2 I4 I5 I6 I7 : Nat → Nat → Int32} {t k : Nat} (h : ai_SV σ I t k) (ho : σ.isOpen (5 * t + k) = true) (h2 : I2 = ai_ui I 25 k (nI 1)) (h4 : ai_fo I2 I4) (h5 : ai_fo I4 I5) (h6 : I6 = ai_ui I5 26 k (nI (ai_qb (σ.ended (5 * t + k))))) (h7 : I7 = ai_ui I6 27 k (nI (σ.lead (5 * t + k)))) : ai_SV σ I7 t (k + 1) := by
  refine ⟨fun x hx => ?_, fun x hx hop => ?_, fun x hx hop => ?_⟩
  · rw [ui_row h7 (by omega), ui_row h6 (by omega), h5 25 (by omega), h4 25 (by omega)]
    by_cases e : x = k
    · subst e; rw [ho]; exact ui_same h2
    · rw [ui_other h2 (Or.inr e)]; exact h.1 x (by omega)
  · rw [ui_row h7 (by omega)]
    by_cases e : x = k
    · subst e; rw [ho]; exact ui_same h6
    · rw [ui_other h6 (Or.inr e), h5 26 (by omega), h4 26 (by omega), ui_row h2 (by omega)]; exact h.2.1 x (by omega) hop
  · by_cases e : x = k
    · subst e; exact ui_same h7
    · rw [ui_other h7 (Or.inr e), ui_row h6 (by omega), h5 27 (by omega), h4 27 (by omega), ui_row h2 (by omega)]; exact h.2.2 x (by omega) hop
theorem qb_1 {b : Bool} (h : ¬ ai_qb b = 0) : b = true := by cases b; exact absurd rfl h; rfl
theorem qb_0 {b : Bool} (h : ai_qb b = 0) : ¬ b = true := by cases b; decide; exact absurd h (by decide)
theorem and_r {a b : Bool} (h : (a && b) = true) : b = true := by cases a <;> simp_all
theorem s_leads (G : ai_G S F) {t k p w : Nat} (hp : p < k) (hp5 : p < 5) (hw : w < 1000) (hl : σ.lead (5 * t + p) < 1000) (hS : ai_SV σ I t k) : ai_Ev none 51 0 [some (.ref 24), some (.int (nI p)), some (.int (nI w))] [] (S, I, L, F) (ai_Pb S F I L (σ.isOpen (5 * t + p) = true ∧ σ.ended (5 * t + p) = true ∧ σ.lead (5 * t + p) = w)) := by
  refine ev_iload_n 1 rfl d51_0 rfl ?_
  refine ev_if_F 41 4 (by decide) rfl (c0_ltF (by omega)) d51_1 ?_
  refine ev_iload_n 5 rfl d51_4 rfl ?_
  refine ev_iconst (v := nI 5) 6 rfl d51_5 (by decide) ?_
  refine ev_icmp 41 9 (by decide) rfl (cn_ge (by omega) (by omega)) d51_6 (fun hc_6 => absurd hc_6 (by omega)) (fun hc_6 => ?_)
  have hb1 := qb_lt (σ.isOpen (5 * t + p))
  have hb2 := qb_lt (σ.isOpen (5 * t + p) && σ.ended (5 * t + p))
  refine ev_aload_n 10 rfl d51_9 rfl ?_
  refine ev_getr 13 rfl 7 0 d51_10 rfl (by omega) (G.1 _ _ (rfl : ai_sp 24 = (7, 0)) (by decide) (by decide)) (G.2 _ _ _ (rfl : ai_rf 24 0 = some 25)) ?_
  refine ev_iload_n 14 rfl d51_13 rfl ?_
  refine ev_bald_n (v := nI (ai_qb (σ.isOpen (5 * t + p)))) 15 rfl d51_14 (by omega) (by decide) (G.1 _ _ (rfl : ai_sp 25 = (102, 5)) (by decide) (by decide)) (by omega) (by decide) (hS.1 _ hp) ?_
  refine ev_if 41 18 (by decide) rfl (c0_eq (by omega)) d51_15 (fun hc_15 => ?_) (fun hc_15 => ?_)
  · refine ev_iconst (v := nI 0) 42 rfl d51_41 (by decide) ?_
    refine ev_iret (Or.inr ⟨rfl, Or.inl (by decide)⟩) d51_42 ?_
    refine ⟨Or.inr ⟨fun ⟨h1, h2, h3⟩ => ?_, rfl⟩, rfl⟩
    first
      | exact qb_0 hc_15 h1
      | exact qb_0 hc_24 (by rw [h1, h2]; rfl)
      | omega
  · refine ev_aload_n 19 rfl d51_18 rfl ?_
    refine ev_getr 22 rfl 7 1 d51_19 rfl (by omega) (G.1 _ _ (rfl : ai_sp 24 = (7, 0)) (by decide) (by decide)) (G.2 _ _ _ (rfl : ai_rf 24 1 = some 26)) ?_
    refine ev_iload_n 23 rfl d51_22 rfl ?_
    refine ev_bald_n (v := nI (ai_qb (σ.isOpen (5 * t + p) && σ.ended (5 * t + p)))) 24 rfl d51_23 (by omega) (by decide) (G.1 _ _ (rfl : ai_sp 26 = (102, 5)) (by decide) (by decide)) (by omega) (by decide) (hS.2.1 _ hp (qb_1 hc_15)) ?_
    refine ev_if 41 27 (by decide) rfl (c0_eq (by omega)) d51_24 (fun hc_24 => ?_) (fun hc_24 => ?_)
    · refine ev_iconst (v := nI 0) 42 rfl d51_41 (by decide) ?_
      refine ev_iret (Or.inr ⟨rfl, Or.inl (by decide)⟩) d51_42 ?_
      refine ⟨Or.inr ⟨fun ⟨h1, h2, h3⟩ => ?_, rfl⟩, rfl⟩
      first
        | exact qb_0 hc_15 h1
        | exact qb_0 hc_24 (by rw [h1, h2]; rfl)
        | omega
    · refine ev_aload_n 28 rfl d51_27 rfl ?_
      refine ev_getr 31 rfl 7 2 d51_28 rfl (by omega) (G.1 _ _ (rfl : ai_sp 24 = (7, 0)) (by decide) (by decide)) (G.2 _ _ _ (rfl : ai_rf 24 2 = some 27)) ?_
      refine ev_iload_n 32 rfl d51_31 rfl ?_
      refine ev_iald_n (v := nI (σ.lead (5 * t + p))) 33 rfl d51_32 (by omega) (G.1 _ _ (rfl : ai_sp 27 = (100, 5)) (by decide) (by decide)) (by omega) (by decide) (hS.2.2 _ hp (qb_1 hc_15)) ?_
      refine ev_iload_n 34 rfl d51_33 rfl ?_
      refine ev_icmp 41 37 (by decide) rfl (cn_ne (by omega) (by omega)) d51_34 (fun hc_34 => ?_) (fun hc_34 => ?_)
      · refine ev_iconst (v := nI 0) 42 rfl d51_41 (by decide) ?_
        refine ev_iret (Or.inr ⟨rfl, Or.inl (by decide)⟩) d51_42 ?_
        refine ⟨Or.inr ⟨fun ⟨h1, h2, h3⟩ => ?_, rfl⟩, rfl⟩
        first
          | exact qb_0 hc_15 h1
          | exact qb_0 hc_24 (by rw [h1, h2]; rfl)
          | omega
      · refine ev_iconst (v := nI 1) 38 rfl d51_37 (by decide) ?_
        refine ev_goto 42 (by decide) d51_38 ?_
        refine ev_iret (Or.inr ⟨rfl, Or.inr (by decide)⟩) d51_42 ?_
        exact ⟨Or.inl ⟨⟨qb_1 hc_15, and_r (qb_1 hc_24), by omega⟩, rfl⟩, rfl⟩
theorem x_survey_loop (G : ai_G S F) {I0 : Nat → Nat → Int32} (hX0 : ai_RX σ I0 L) (hV : ai_IV σ) {t : Nat} (ht : t < σ.nT) : ∀ (z k : Nat) (I : Nat → Nat → Int32), k + z = σ.nQ → ai_SV σ I t k → (∀ a, (a < 8 ∨ 28 ≤ a) → I a = I0 a) → ai_Ev none 106 2 [some (.ref 1), some (.int (nI t)), some (.int (nI k))] [] (S, I, L, F) (ai_Pu S F L (fun I2 => ai_SV σ I2 t σ.nQ ∧ ∀ a, (a < 8 ∨ 28 ≤ a) → I2 a = I0 a)) := by
  have hnT := hV.nT
  have hnQ := hV.nQ
  have hnJ := hV.nJ
  intro z
  induction z with
  | zero =>
    intro k I hz hS hf
    have hX : ai_RX σ I L := hX0.frame (fun a h _ => hf a (by omega))
    refine ev_iload_n 3 rfl d106_2 rfl ?_
    refine ev_aload_n 4 rfl d106_3 rfl ?_
    refine ev_geti (v := nI σ.nQ) 7 rfl 8 5 d106_4 rfl (by omega) (G.1 _ _ (rfl : ai_sp 1 = (8, 0)) (by decide) (by decide)) hX.nQ ?_
    refine ev_icmp 115 10 (by decide) rfl (cn_ge (by omega) (by omega)) d106_7 (fun hc_7 => ?_) (fun hc_7 => absurd hc_7 (by omega))
    refine ev_vret rfl d106_115 ?_
    have e9 : k = σ.nQ := by omega
    subst e9
    exact ⟨rfl, _, rfl, hS, hf⟩
  | succ z ih =>
    intro k I hz hS hf
    have hX : ai_RX σ I L := hX0.frame (fun a h _ => hf a (by omega))
    refine ev_iload_n 3 rfl d106_2 rfl ?_
    refine ev_aload_n 4 rfl d106_3 rfl ?_
    refine ev_geti (v := nI σ.nQ) 7 rfl 8 5 d106_4 rfl (by omega) (G.1 _ _ (rfl : ai_sp 1 = (8, 0)) (by decide) (by decide)) hX.nQ ?_
    refine ev_icmp 115 10 (by decide) rfl (cn_ge (by omega) (by omega)) d106_7 (fun hc_7 => absurd hc_7 (by omega)) (fun hc_7 => ?_)
    refine ev_aload_n 11 rfl d106_10 rfl ?_
    refine ev_getr 14 rfl 8 14 d106_11 rfl (by omega) (G.1 _ _ (rfl : ai_sp 1 = (8, 0)) (by decide) (by decide)) (G.2 _ _ _ (rfl : ai_rf 1 14 = some 24)) ?_
    refine ev_getr 17 rfl 7 0 d106_14 rfl (by omega) (G.1 _ _ (rfl : ai_sp 24 = (7, 0)) (by decide) (by decide)) (G.2 _ _ _ (rfl : ai_rf 24 0 = some 25)) ?_
    refine ev_iload_n 18 rfl d106_17 rfl ?_
    refine ev_iload_n 19 rfl d106_18 rfl ?_
    refine ev_if 50 22 (by decide) rfl (c0_eq (by omega)) d106_19 (fun hc_19 => ?_) (fun hc_19 => ?_)
    · have ho : σ.isOpen (5 * t + k) = true := by rw [hc_19]; exact open_0
      refine ev_iconst (v := nI 1) 51 rfl d106_50 (by decide) ?_
      refine ev_goto 55 (by decide) d106_51 ?_
      
      obtain ⟨I_1, hI_1⟩ : ∃ z, z = ai_ui I 25 k (nI 1) := ⟨_, rfl⟩
      refine ev_zast_n (I2 := I_1) 56 rfl d106_55 (by omega) (G.1 _ _ (rfl : ai_sp 25 = (102, 5)) (by decide) (by decide)) (by omega) (by decide) (by decide) hI_1.symm ?_
      have hX3 : ai_RX σ I_1 L := hX0.frame (fun a h _ => by rw [ui_row hI_1 (by omega)]; exact hf a (by omega))
      refine ev_aload_n 57 rfl d106_56 rfl ?_
      refine ev_getr 60 rfl 8 14 d106_57 rfl (by omega) (G.1 _ _ (rfl : ai_sp 1 = (8, 0)) (by decide) (by decide)) (G.2 _ _ _ (rfl : ai_rf 1 14 = some 24)) ?_
      refine ev_getr 63 rfl 7 0 d106_60 rfl (by omega) (G.1 _ _ (rfl : ai_sp 24 = (7, 0)) (by decide) (by decide)) (G.2 _ _ _ (rfl : ai_rf 24 0 = some 25)) ?_
      refine ev_iload_n 64 rfl d106_63 rfl ?_
      refine ev_bald_n (v := nI 1) 65 rfl d106_64 (by omega) (by decide) (G.1 _ _ (rfl : ai_sp 25 = (102, 5)) (by decide) (by decide)) (by omega) (by decide) (ui_same hI_1) ?_
      refine ev_if_F 109 68 (by decide) rfl (by decide) d106_65 ?_
      refine ev_aload_n 69 rfl d106_68 rfl ?_
      refine ev_iload_n 70 rfl d106_69 rfl ?_
      refine ev_iload_n 71 rfl d106_70 rfl ?_
      refine ev_cu2 74 rfl 104 d106_71 rfl rfl (by rw [G.1 _ _ (rfl : ai_sp 1 = (8, 0)) (by decide) (by decide)]; rfl) (by omega) rfl (x_weigh G hX3 hV ht (q := k) (by omega)) (fun I_2 hr_71 => ?_)
      obtain ⟨hQ, hf4⟩ := hr_71
      have hX4 : ai_RX σ I_2 L := hX3.frame (fun a h _ => hf4 a (by omega))
      refine ev_aload_n 75 rfl d106_74 rfl ?_
      refine ev_getr 78 rfl 8 14 d106_75 rfl (by omega) (G.1 _ _ (rfl : ai_sp 1 = (8, 0)) (by decide) (by decide)) (G.2 _ _ _ (rfl : ai_rf 1 14 = some 24)) ?_
      refine ev_getr 81 rfl 7 1 d106_78 rfl (by omega) (G.1 _ _ (rfl : ai_sp 24 = (7, 0)) (by decide) (by decide)) (G.2 _ _ _ (rfl : ai_rf 24 1 = some 26)) ?_
      refine ev_iload_n 82 rfl d106_81 rfl ?_
      refine ev_aload_n 83 rfl d106_82 rfl ?_
      refine ev_aload_n 84 rfl d106_83 rfl ?_
      refine ev_iload_n 85 rfl d106_84 rfl ?_
      refine ev_iload_n 86 rfl d106_85 rfl ?_
      refine ev_cp2 89 rfl 89 d106_86 rfl rfl (by rw [G.1 _ _ (rfl : ai_sp 1 = (8, 0)) (by decide) (by decide)]; rfl) (by omega) rfl (x_caseOf G (t := t) (q := k) (by omega) (by omega)) ?_
      refine ev_cz1 92 rfl 105 d106_89 rfl rfl (by rw [G.1 _ _ (rfl : ai_sp 1 = (8, 0)) (by decide) (by decide)]; rfl) (by omega) rfl (x_ended G hX4 hV ht (q := k) (by omega) hQ) (fun I_3 hq_89 hr_89 => ?_) (fun I_3 hq_89 hr_89 => ?_)
      · obtain ⟨hQ5, hf5⟩ := hr_89
        have hen : ai_qb (σ.ended (5 * t + k)) = 1 := by rw [hq_89]; rfl
        obtain ⟨I_4, hI_4⟩ : ∃ z, z = ai_ui I_3 26 k (nI 1) := ⟨_, rfl⟩
        refine ev_zast_n (I2 := I_4) 93 rfl d106_92 (by omega) (G.1 _ _ (rfl : ai_sp 26 = (102, 5)) (by decide) (by decide)) (by omega) (by decide) (by decide) hI_4.symm ?_
        refine ev_aload_n 94 rfl d106_93 rfl ?_
        refine ev_getr 97 rfl 8 14 d106_94 rfl (by omega) (G.1 _ _ (rfl : ai_sp 1 = (8, 0)) (by decide) (by decide)) (G.2 _ _ _ (rfl : ai_rf 1 14 = some 24)) ?_
        refine ev_getr 100 rfl 7 2 d106_97 rfl (by omega) (G.1 _ _ (rfl : ai_sp 24 = (7, 0)) (by decide) (by decide)) (G.2 _ _ _ (rfl : ai_rf 24 2 = some 27)) ?_
        refine ev_iload_n 101 rfl d106_100 rfl ?_
        refine ev_aload_n 102 rfl d106_101 rfl ?_
        refine ev_getr 105 rfl 8 13 d106_102 rfl (by omega) (G.1 _ _ (rfl : ai_sp 1 = (8, 0)) (by decide) (by decide)) (G.2 _ _ _ (rfl : ai_rf 1 13 = some 8)) ?_
        refine ev_geti (v := nI (σ.lead (5 * t + k))) 108 rfl 3 7 d106_105 rfl (by omega) (G.1 _ _ (rfl : ai_sp 8 = (3, 0)) (by decide) (by decide)) (by rw [ui_row hI_4 (by omega)]; exact hQ5.2.1) ?_
        obtain ⟨I_5, hI_5⟩ : ∃ z, z = ai_ui I_4 27 k (nI (σ.lead (5 * t + k))) := ⟨_, rfl⟩
        refine ev_iast_n (I2 := I_5) 109 rfl d106_108 (by omega) (G.1 _ _ (rfl : ai_sp 27 = (100, 5)) (by decide) (by decide)) (by omega) (by decide) hI_5.symm ?_
        refine ev_iinc (v := nI (k + 1)) 112 rfl d106_109 rfl (Nat.le_of_ble_eq_true rfl) (nI_add _ 1) rfl ?_
        show ai_Ev _ _ _ [some (.ref 1), some (.int (nI t)), some (.int (nI (k + 1)))] _ _ _
        refine ev_goto 2 (by decide) d106_112 ?_
        exact ih (k + 1) _ (by omega) (sv_yes hS ho hI_1 hf4 hf5 (by rw [hen]; exact hI_4) hI_5) (fun a ha => by rw [ui_row hI_5 (by omega), ui_row hI_4 (by omega), hf5 a (by omega), hf4 a (by omega), ui_row hI_1 (by omega)]; exact hf a ha)
      · obtain ⟨hQ5, hf5⟩ := hr_89
        have hen : ai_qb (σ.ended (5 * t + k)) = 0 := by rw [nb_F hq_89]; rfl
        obtain ⟨I_4, hI_4⟩ : ∃ z, z = ai_ui I_3 26 k (nI 0) := ⟨_, rfl⟩
        refine ev_zast_n (I2 := I_4) 93 rfl d106_92 (by omega) (G.1 _ _ (rfl : ai_sp 26 = (102, 5)) (by decide) (by decide)) (by omega) (by decide) (by decide) hI_4.symm ?_
        refine ev_aload_n 94 rfl d106_93 rfl ?_
        refine ev_getr 97 rfl 8 14 d106_94 rfl (by omega) (G.1 _ _ (rfl : ai_sp 1 = (8, 0)) (by decide) (by decide)) (G.2 _ _ _ (rfl : ai_rf 1 14 = some 24)) ?_
        refine ev_getr 100 rfl 7 2 d106_97 rfl (by omega) (G.1 _ _ (rfl : ai_sp 24 = (7, 0)) (by decide) (by decide)) (G.2 _ _ _ (rfl : ai_rf 24 2 = some 27)) ?_
        refine ev_iload_n 101 rfl d106_100 rfl ?_
        refine ev_aload_n 102 rfl d106_101 rfl ?_
        refine ev_getr 105 rfl 8 13 d106_102 rfl (by omega) (G.1 _ _ (rfl : ai_sp 1 = (8, 0)) (by decide) (by decide)) (G.2 _ _ _ (rfl : ai_rf 1 13 = some 8)) ?_
        refine ev_geti (v := nI (σ.lead (5 * t + k))) 108 rfl 3 7 d106_105 rfl (by omega) (G.1 _ _ (rfl : ai_sp 8 = (3, 0)) (by decide) (by decide)) (by rw [ui_row hI_4 (by omega)]; exact hQ5.2.1) ?_
        obtain ⟨I_5, hI_5⟩ : ∃ z, z = ai_ui I_4 27 k (nI (σ.lead (5 * t + k))) := ⟨_, rfl⟩
        refine ev_iast_n (I2 := I_5) 109 rfl d106_108 (by omega) (G.1 _ _ (rfl : ai_sp 27 = (100, 5)) (by decide) (by decide)) (by omega) (by decide) hI_5.symm ?_
        refine ev_iinc (v := nI (k + 1)) 112 rfl d106_109 rfl (Nat.le_of_ble_eq_true rfl) (nI_add _ 1) rfl ?_
        show ai_Ev _ _ _ [some (.ref 1), some (.int (nI t)), some (.int (nI (k + 1)))] _ _ _
        refine ev_goto 2 (by decide) d106_112 ?_
        exact ih (k + 1) _ (by omega) (sv_yes hS ho hI_1 hf4 hf5 (by rw [hen]; exact hI_4) hI_5) (fun a ha => by rw [ui_row hI_5 (by omega), ui_row hI_4 (by omega), hf5 a (by omega), hf4 a (by omega), ui_row hI_1 (by omega)]; exact hf a ha)
    · have hpa := hV.pa k (by omega) (by omega)
      have hldp := lead_lt hV (c := 5 * t + σ.pa k) (by omega)
      have hanp := hV.an ((5 * t + σ.pa k) % 5) (by omega)
      have hanp2 := hV.an (σ.pa k) (by omega)
      refine ev_aload_n 23 rfl d106_22 rfl ?_
      refine ev_getr 26 rfl 8 14 d106_23 rfl (by omega) (G.1 _ _ (rfl : ai_sp 1 = (8, 0)) (by decide) (by decide)) (G.2 _ _ _ (rfl : ai_rf 1 14 = some 24)) ?_
      refine ev_aload_n 27 rfl d106_26 rfl ?_
      refine ev_getr 30 rfl 8 1 d106_27 rfl (by omega) (G.1 _ _ (rfl : ai_sp 1 = (8, 0)) (by decide) (by decide)) (G.2 _ _ _ (rfl : ai_rf 1 1 = some 3)) ?_
      refine ev_iload_n 31 rfl d106_30 rfl ?_
      refine ev_aald_n 32 rfl d106_31 (by omega) (by decide) (G.1 _ _ (rfl : ai_sp 3 = (105, 5)) (by decide) (by decide)) (by omega) (by decide) (G.2 _ _ _ (rf_question (by omega))) ?_
      refine ev_geti (v := nI (σ.pa k)) 35 rfl 4 1 d106_32 rfl (by omega) (G.1 _ _ (sp_question (by omega)) (by omega) (by omega)) (hX.pa _ (by omega) (by omega) (by omega)) ?_
      refine ev_aload_n 36 rfl d106_35 rfl ?_
      refine ev_getr 39 rfl 8 1 d106_36 rfl (by omega) (G.1 _ _ (rfl : ai_sp 1 = (8, 0)) (by decide) (by decide)) (G.2 _ _ _ (rfl : ai_rf 1 1 = some 3)) ?_
      refine ev_iload_n 40 rfl d106_39 rfl ?_
      refine ev_aald_n 41 rfl d106_40 (by omega) (by decide) (G.1 _ _ (rfl : ai_sp 3 = (105, 5)) (by decide) (by decide)) (by omega) (by decide) (G.2 _ _ _ (rf_question (by omega))) ?_
      refine ev_geti (v := nI (σ.wa k)) 44 rfl 4 2 d106_41 rfl (by omega) (G.1 _ _ (sp_question (by omega)) (by omega) (by omega)) (hX.wa _ (by omega) (by omega) (by omega)) ?_
      refine ev_cb2 47 rfl 51 d106_44 rfl rfl (by rw [G.1 _ _ (rfl : ai_sp 24 = (7, 0)) (by decide) (by decide)]; rfl) (by omega) rfl (s_leads (p := σ.pa k) (w := σ.wa k) G hpa.1 (by omega) (by omega) (by omega) hS) (fun hq_44 => ?_) (fun hq_44 => ?_)
      · have ho : σ.isOpen (5 * t + k) = true := (open_iff hV (by omega) (by omega)).mpr hq_44
        refine ev_if_F 54 50 (by decide) rfl (by decide) d106_47 ?_
        refine ev_iconst (v := nI 1) 51 rfl d106_50 (by decide) ?_
        refine ev_goto 55 (by decide) d106_51 ?_
        
        obtain ⟨I_1, hI_1⟩ : ∃ z, z = ai_ui I 25 k (nI 1) := ⟨_, rfl⟩
        refine ev_zast_n (I2 := I_1) 56 rfl d106_55 (by omega) (G.1 _ _ (rfl : ai_sp 25 = (102, 5)) (by decide) (by decide)) (by omega) (by decide) (by decide) hI_1.symm ?_
        have hX3 : ai_RX σ I_1 L := hX0.frame (fun a h _ => by rw [ui_row hI_1 (by omega)]; exact hf a (by omega))
        refine ev_aload_n 57 rfl d106_56 rfl ?_
        refine ev_getr 60 rfl 8 14 d106_57 rfl (by omega) (G.1 _ _ (rfl : ai_sp 1 = (8, 0)) (by decide) (by decide)) (G.2 _ _ _ (rfl : ai_rf 1 14 = some 24)) ?_
        refine ev_getr 63 rfl 7 0 d106_60 rfl (by omega) (G.1 _ _ (rfl : ai_sp 24 = (7, 0)) (by decide) (by decide)) (G.2 _ _ _ (rfl : ai_rf 24 0 = some 25)) ?_
        refine ev_iload_n 64 rfl d106_63 rfl ?_
        refine ev_bald_n (v := nI 1) 65 rfl d106_64 (by omega) (by decide) (G.1 _ _ (rfl : ai_sp 25 = (102, 5)) (by decide) (by decide)) (by omega) (by decide) (ui_same hI_1) ?_
        refine ev_if_F 109 68 (by decide) rfl (by decide) d106_65 ?_
        refine ev_aload_n 69 rfl d106_68 rfl ?_
        refine ev_iload_n 70 rfl d106_69 rfl ?_
        refine ev_iload_n 71 rfl d106_70 rfl ?_
        refine ev_cu2 74 rfl 104 d106_71 rfl rfl (by rw [G.1 _ _ (rfl : ai_sp 1 = (8, 0)) (by decide) (by decide)]; rfl) (by omega) rfl (x_weigh G hX3 hV ht (q := k) (by omega)) (fun I_2 hr_71 => ?_)
        obtain ⟨hQ, hf4⟩ := hr_71
        have hX4 : ai_RX σ I_2 L := hX3.frame (fun a h _ => hf4 a (by omega))
        refine ev_aload_n 75 rfl d106_74 rfl ?_
        refine ev_getr 78 rfl 8 14 d106_75 rfl (by omega) (G.1 _ _ (rfl : ai_sp 1 = (8, 0)) (by decide) (by decide)) (G.2 _ _ _ (rfl : ai_rf 1 14 = some 24)) ?_
        refine ev_getr 81 rfl 7 1 d106_78 rfl (by omega) (G.1 _ _ (rfl : ai_sp 24 = (7, 0)) (by decide) (by decide)) (G.2 _ _ _ (rfl : ai_rf 24 1 = some 26)) ?_
        refine ev_iload_n 82 rfl d106_81 rfl ?_
        refine ev_aload_n 83 rfl d106_82 rfl ?_
        refine ev_aload_n 84 rfl d106_83 rfl ?_
        refine ev_iload_n 85 rfl d106_84 rfl ?_
        refine ev_iload_n 86 rfl d106_85 rfl ?_
        refine ev_cp2 89 rfl 89 d106_86 rfl rfl (by rw [G.1 _ _ (rfl : ai_sp 1 = (8, 0)) (by decide) (by decide)]; rfl) (by omega) rfl (x_caseOf G (t := t) (q := k) (by omega) (by omega)) ?_
        refine ev_cz1 92 rfl 105 d106_89 rfl rfl (by rw [G.1 _ _ (rfl : ai_sp 1 = (8, 0)) (by decide) (by decide)]; rfl) (by omega) rfl (x_ended G hX4 hV ht (q := k) (by omega) hQ) (fun I_3 hq_89 hr_89 => ?_) (fun I_3 hq_89 hr_89 => ?_)
        · obtain ⟨hQ5, hf5⟩ := hr_89
          have hen : ai_qb (σ.ended (5 * t + k)) = 1 := by rw [hq_89]; rfl
          obtain ⟨I_4, hI_4⟩ : ∃ z, z = ai_ui I_3 26 k (nI 1) := ⟨_, rfl⟩
          refine ev_zast_n (I2 := I_4) 93 rfl d106_92 (by omega) (G.1 _ _ (rfl : ai_sp 26 = (102, 5)) (by decide) (by decide)) (by omega) (by decide) (by decide) hI_4.symm ?_
          refine ev_aload_n 94 rfl d106_93 rfl ?_
          refine ev_getr 97 rfl 8 14 d106_94 rfl (by omega) (G.1 _ _ (rfl : ai_sp 1 = (8, 0)) (by decide) (by decide)) (G.2 _ _ _ (rfl : ai_rf 1 14 = some 24)) ?_
          refine ev_getr 100 rfl 7 2 d106_97 rfl (by omega) (G.1 _ _ (rfl : ai_sp 24 = (7, 0)) (by decide) (by decide)) (G.2 _ _ _ (rfl : ai_rf 24 2 = some 27)) ?_
          refine ev_iload_n 101 rfl d106_100 rfl ?_
          refine ev_aload_n 102 rfl d106_101 rfl ?_
          refine ev_getr 105 rfl 8 13 d106_102 rfl (by omega) (G.1 _ _ (rfl : ai_sp 1 = (8, 0)) (by decide) (by decide)) (G.2 _ _ _ (rfl : ai_rf 1 13 = some 8)) ?_
          refine ev_geti (v := nI (σ.lead (5 * t + k))) 108 rfl 3 7 d106_105 rfl (by omega) (G.1 _ _ (rfl : ai_sp 8 = (3, 0)) (by decide) (by decide)) (by rw [ui_row hI_4 (by omega)]; exact hQ5.2.1) ?_
          obtain ⟨I_5, hI_5⟩ : ∃ z, z = ai_ui I_4 27 k (nI (σ.lead (5 * t + k))) := ⟨_, rfl⟩
          refine ev_iast_n (I2 := I_5) 109 rfl d106_108 (by omega) (G.1 _ _ (rfl : ai_sp 27 = (100, 5)) (by decide) (by decide)) (by omega) (by decide) hI_5.symm ?_
          refine ev_iinc (v := nI (k + 1)) 112 rfl d106_109 rfl (Nat.le_of_ble_eq_true rfl) (nI_add _ 1) rfl ?_
          show ai_Ev _ _ _ [some (.ref 1), some (.int (nI t)), some (.int (nI (k + 1)))] _ _ _
          refine ev_goto 2 (by decide) d106_112 ?_
          exact ih (k + 1) _ (by omega) (sv_yes hS ho hI_1 hf4 hf5 (by rw [hen]; exact hI_4) hI_5) (fun a ha => by rw [ui_row hI_5 (by omega), ui_row hI_4 (by omega), hf5 a (by omega), hf4 a (by omega), ui_row hI_1 (by omega)]; exact hf a ha)
        · obtain ⟨hQ5, hf5⟩ := hr_89
          have hen : ai_qb (σ.ended (5 * t + k)) = 0 := by rw [nb_F hq_89]; rfl
          obtain ⟨I_4, hI_4⟩ : ∃ z, z = ai_ui I_3 26 k (nI 0) := ⟨_, rfl⟩
          refine ev_zast_n (I2 := I_4) 93 rfl d106_92 (by omega) (G.1 _ _ (rfl : ai_sp 26 = (102, 5)) (by decide) (by decide)) (by omega) (by decide) (by decide) hI_4.symm ?_
          refine ev_aload_n 94 rfl d106_93 rfl ?_
          refine ev_getr 97 rfl 8 14 d106_94 rfl (by omega) (G.1 _ _ (rfl : ai_sp 1 = (8, 0)) (by decide) (by decide)) (G.2 _ _ _ (rfl : ai_rf 1 14 = some 24)) ?_
          refine ev_getr 100 rfl 7 2 d106_97 rfl (by omega) (G.1 _ _ (rfl : ai_sp 24 = (7, 0)) (by decide) (by decide)) (G.2 _ _ _ (rfl : ai_rf 24 2 = some 27)) ?_
          refine ev_iload_n 101 rfl d106_100 rfl ?_
          refine ev_aload_n 102 rfl d106_101 rfl ?_
          refine ev_getr 105 rfl 8 13 d106_102 rfl (by omega) (G.1 _ _ (rfl : ai_sp 1 = (8, 0)) (by decide) (by decide)) (G.2 _ _ _ (rfl : ai_rf 1 13 = some 8)) ?_
          refine ev_geti (v := nI (σ.lead (5 * t + k))) 108 rfl 3 7 d106_105 rfl (by omega) (G.1 _ _ (rfl : ai_sp 8 = (3, 0)) (by decide) (by decide)) (by rw [ui_row hI_4 (by omega)]; exact hQ5.2.1) ?_
          obtain ⟨I_5, hI_5⟩ : ∃ z, z = ai_ui I_4 27 k (nI (σ.lead (5 * t + k))) := ⟨_, rfl⟩
          refine ev_iast_n (I2 := I_5) 109 rfl d106_108 (by omega) (G.1 _ _ (rfl : ai_sp 27 = (100, 5)) (by decide) (by decide)) (by omega) (by decide) hI_5.symm ?_
          refine ev_iinc (v := nI (k + 1)) 112 rfl d106_109 rfl (Nat.le_of_ble_eq_true rfl) (nI_add _ 1) rfl ?_
          show ai_Ev _ _ _ [some (.ref 1), some (.int (nI t)), some (.int (nI (k + 1)))] _ _ _
          refine ev_goto 2 (by decide) d106_112 ?_
          exact ih (k + 1) _ (by omega) (sv_yes hS ho hI_1 hf4 hf5 (by rw [hen]; exact hI_4) hI_5) (fun a ha => by rw [ui_row hI_5 (by omega), ui_row hI_4 (by omega), hf5 a (by omega), hf4 a (by omega), ui_row hI_1 (by omega)]; exact hf a ha)
      · have ho : ¬ σ.isOpen (5 * t + k) = true := fun h9 => hq_44 ((open_iff hV (by omega) (by omega)).mp h9)
        refine ev_if_T 54 (by decide) (by decide) d106_47 ?_
        refine ev_iconst (v := nI 0) 55 rfl d106_54 (by decide) ?_
        
        obtain ⟨I_1, hI_1⟩ : ∃ z, z = ai_ui I 25 k (nI 0) := ⟨_, rfl⟩
        refine ev_zast_n (I2 := I_1) 56 rfl d106_55 (by omega) (G.1 _ _ (rfl : ai_sp 25 = (102, 5)) (by decide) (by decide)) (by omega) (by decide) (by decide) hI_1.symm ?_
        have hX3 : ai_RX σ I_1 L := hX0.frame (fun a h _ => by rw [ui_row hI_1 (by omega)]; exact hf a (by omega))
        refine ev_aload_n 57 rfl d106_56 rfl ?_
        refine ev_getr 60 rfl 8 14 d106_57 rfl (by omega) (G.1 _ _ (rfl : ai_sp 1 = (8, 0)) (by decide) (by decide)) (G.2 _ _ _ (rfl : ai_rf 1 14 = some 24)) ?_
        refine ev_getr 63 rfl 7 0 d106_60 rfl (by omega) (G.1 _ _ (rfl : ai_sp 24 = (7, 0)) (by decide) (by decide)) (G.2 _ _ _ (rfl : ai_rf 24 0 = some 25)) ?_
        refine ev_iload_n 64 rfl d106_63 rfl ?_
        refine ev_bald_n (v := nI 0) 65 rfl d106_64 (by omega) (by decide) (G.1 _ _ (rfl : ai_sp 25 = (102, 5)) (by decide) (by decide)) (by omega) (by decide) (ui_same hI_1) ?_
        refine ev_if_T 109 (by decide) (by decide) d106_65 ?_
        refine ev_iinc (v := nI (k + 1)) 112 rfl d106_109 rfl (Nat.le_of_ble_eq_true rfl) (nI_add _ 1) rfl ?_
        show ai_Ev _ _ _ [some (.ref 1), some (.int (nI t)), some (.int (nI (k + 1)))] _ _ _
        refine ev_goto 2 (by decide) d106_112 ?_
        exact ih (k + 1) _ (by omega) (sv_no hS ho hI_1) (fun a ha => by rw [ui_row hI_1 (by omega)]; exact hf a ha)
theorem x_survey (G : ai_G S F) (hX : ai_RX σ I L) (hV : ai_IV σ) {t : Nat} (ht : t < σ.nT) : ai_Ev none 106 0 [some (.ref 1), some (.int (nI t)), none] [] (S, I, L, F) (ai_Pu S F L (fun I2 => ai_SV σ I2 t σ.nQ ∧ ∀ a, (a < 8 ∨ 28 ≤ a) → I2 a = I a)) := by
  refine ev_iconst (v := nI 0) 1 rfl d106_0 (by decide) ?_
  refine ev_store_in 2 rfl d106_1 (Nat.le_of_ble_eq_true rfl) rfl ?_
  show ai_Ev _ _ _ [some (.ref 1), some (.int (nI t)), some (.int (nI 0))] _ _ _
  exact x_survey_loop G hX hV ht σ.nQ 0 I (by omega) ⟨fun x hx => absurd hx (by omega), fun x hx => absurd hx (by omega), fun x hx => absurd hx (by omega)⟩ (fun _ _ => rfl)
end XWEIGH
