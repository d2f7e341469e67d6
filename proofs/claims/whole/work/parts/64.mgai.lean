section MGAI
variable {S : List (Nat × Nat)} {F : Nat → Nat → Option Nat} {L : Nat → Nat → Int64} {I : Nat → Nat → Int32} {σ : ai_S}
theorem pmb_of (hM : ai_RM σ I L) {I0 : Nat → Nat → Int32} {P : Prop} {r : Option Value} (h : (P ∧ r = some (.int (nI 1))) ∨ (¬ P ∧ r = some (.int (nI 0)))) (hf : ∀ a, a < 572 → I a = I0 a) : ai_PMB S F I0 L σ P r (S, I, L, F) := ⟨I, L, h, rfl, hM, fun a ha => ⟨hf a ha, rfl⟩⟩
theorem isz2 {z : Int32} (h : ai_is 3 z) (h0 : ¬ z = 0) (h1 : ¬ z = nI 1) : z = nI 2 := by
  obtain ⟨k, hk, rfl⟩ := h
  have h3 : k = 0 ∨ k = 1 ∨ k = 2 := by omega
  rcases h3 with rfl | rfl | rfl
  · exact absurd rfl h0
  · exact absurd rfl h1
  · rfl
theorem m_is (G : ai_G S F) (hM : ai_RM σ I L) (hV : ai_IV σ) {z1 z2 z3 : Int32} : ai_Ev none 170 0 [some (.ref 572), some (.int z1), some (.int z2), some (.int z3)] [] (S, I, L, F) (ai_PMB S F I L σ (σ.isP z1 z2 z3)) := by
  have hnT := hV.nT
  have hnQ := hV.nQ
  have hnJ := hV.nJ
  refine ev_aload_n 1 rfl d170_0 rfl ?_
  refine ev_iload_n 2 rfl d170_1 rfl ?_
  refine ev_iload_n 3 rfl d170_2 rfl ?_
  refine ev_cb2 6 rfl 129 d170_3 rfl rfl (by rw [G.1 _ _ (rfl : ai_sp 572 = (9, 0)) (by decide) (by decide)]; rfl) (by omega) rfl (m_isCase G hM hV) (fun hq_3 => ?_) (fun hq_3 => ?_)
  · obtain ⟨t, q, ht, hq, rfl, rfl⟩ := hq_3
    refine ev_if_F 19 9 (by decide) rfl (by decide) d170_6 ?_
    refine ev_aload_n 10 rfl d170_9 rfl ?_
    refine ev_iload_n 11 rfl d170_10 rfl ?_
    refine ev_iconst (v := nI 0) 12 rfl d170_11 (by decide) ?_
    refine ev_iconst (v := nI 2) 13 rfl d170_12 (by decide) ?_
    refine ev_cb3 16 rfl 114 d170_13 rfl rfl (by rw [G.1 _ _ (rfl : ai_sp 572 = (9, 0)) (by decide) (by decide)]; rfl) (by omega) rfl (pb_iff (in_is (n := 3) (by decide) (by omega)) (m_in G)) (fun hq_13 => ?_) (fun hq_13 => ?_)
    · refine ev_if_T 21 (by decide) (by decide) d170_16 ?_
      refine ev_aload_n 22 rfl d170_21 rfl ?_
      refine ev_cu0 25 rfl 169 d170_22 rfl rfl (by rw [G.1 _ _ (rfl : ai_sp 572 = (9, 0)) (by decide) (by decide)]; rfl) (by omega) rfl (m_judgeAll G hM hV) (fun I_1 hr_22 => ?_)
      obtain ⟨hM2, hC2, hJA, hfl⟩ := hr_22
      have hj9 := hJA (5 * t + q) (by omega) (by omega) (by omega)
      refine ev_iload_n 26 rfl d170_25 rfl ?_
      refine ev_if 42 29 (by decide) rfl cz_ne d170_26 (fun hc_26 => ?_) (fun hc_26 => ?_)
      · refine ev_iload_n 43 rfl d170_42 rfl ?_
        refine ev_iconst (v := nI 1) 44 rfl d170_43 (by decide) ?_
        refine ev_icmp 60 47 (by decide) rfl cz_ne d170_44 (fun hc_44 => ?_) (fun hc_44 => ?_)
        · have htr9 := tr_le hV (c := 5 * t + q) (by omega)
          refine ev_aload_n 61 rfl d170_60 rfl ?_
          refine ev_getr 64 rfl 9 11 d170_61 rfl (by omega) (G.1 _ _ (rfl : ai_sp 572 = (9, 0)) (by decide) (by decide)) (G.2 _ _ _ (rfl : ai_rf 572 11 = some 581)) ?_
          refine ev_iconst (v := nI 5) 65 rfl d170_64 (by decide) ?_
          refine ev_iload_n 66 rfl d170_65 rfl ?_
          refine ev_imul (v := nI (5 * t)) 67 rfl d170_66 (pk_mul _ _) ?_
          refine ev_iload_n 68 rfl d170_67 rfl ?_
          refine ev_iadd (v := nI ((5 * t) + q)) 69 rfl d170_68 (nI_add _ _) ?_
          refine ev_iald_n (v := nI (σ.tr (5 * t + q)) - 1) 70 rfl d170_69 (by omega) (G.1 _ _ (rfl : ai_sp 581 = (100, 200)) (by decide) (by decide)) (by omega) (by decide) (hM2.tr (5 * t + q) (by omega) (by omega)) ?_
          refine ev_iconst (v := (-1)) 71 rfl d170_70 (by decide) ?_
          refine ev_icmp 78 74 (by decide) rfl (cq_eq (by omega)) d170_71 (fun hc_71 => ?_) (fun hc_71 => ?_)
          · refine ev_iconst (v := nI 0) 79 rfl d170_78 (by decide) ?_
            refine ev_iret (Or.inr ⟨rfl, Or.inl (by decide)⟩) d170_79 ?_
            have ez : z1 = nI 2 := isz2 hq_13 hc_26 hc_44
            subst ez
            refine pmb_of hM2 ?_ hfl
            rw [isP_iff hV ht hq]
            exact Or.inr ⟨fun h => h.elim (fun h7 => absurd h7.1 (by decide)) (fun h8 => h8.elim (fun h7 => absurd h7.1 (by decide)) (fun h7 => h7.2 (by omega))), rfl⟩
          · refine ev_iconst (v := nI 1) 75 rfl d170_74 (by decide) ?_
            refine ev_goto 79 (by decide) d170_75 ?_
            refine ev_iret (Or.inr ⟨rfl, Or.inr (by decide)⟩) d170_79 ?_
            have ez : z1 = nI 2 := isz2 hq_13 hc_26 hc_44
            refine pmb_of hM2 ?_ hfl
            rw [isP_iff hV ht hq]
            exact Or.inl ⟨Or.inr (Or.inr ⟨ez, hc_71⟩), rfl⟩
        · have e1 : z1 = nI 1 := Classical.not_not.mp hc_44
          subst e1
          refine ev_aload_n 48 rfl d170_47 rfl ?_
          refine ev_getr 51 rfl 9 31 d170_48 rfl (by omega) (G.1 _ _ (rfl : ai_sp 572 = (9, 0)) (by decide) (by decide)) (G.2 _ _ _ (rfl : ai_rf 572 31 = some 596)) ?_
          refine ev_iconst (v := nI 5) 52 rfl d170_51 (by decide) ?_
          refine ev_iload_n 53 rfl d170_52 rfl ?_
          refine ev_imul (v := nI (5 * t)) 54 rfl d170_53 (pk_mul _ _) ?_
          refine ev_iload_n 55 rfl d170_54 rfl ?_
          refine ev_iadd (v := nI ((5 * t) + q)) 56 rfl d170_55 (nI_add _ _) ?_
          refine ev_bald_n (v := nI (ai_qb (σ.ended (5 * t + q)))) 57 rfl d170_56 (by omega) (by decide) (G.1 _ _ (rfl : ai_sp 596 = (102, 200)) (by decide) (by decide)) (by omega) (by decide) hj9.2.1 ?_
          refine ev_goto 79 (by decide) d170_57 ?_
          refine ev_iret (Or.inr ⟨rfl, qb_01 _⟩) d170_79 ?_
          refine pmb_of hM2 ?_ hfl
          rw [isP_iff hV ht hq]
          cases hb9 : σ.ended (5 * t + q) with
          | true => exact Or.inl ⟨Or.inr (Or.inl ⟨rfl, rfl⟩), rfl⟩
          | false => exact Or.inr ⟨fun h => h.elim (fun h7 => absurd h7.1 (by decide)) (fun h8 => h8.elim (fun h7 => absurd h7.2 (by decide)) (fun h7 => absurd h7.1 (by decide))), rfl⟩
      · have e1 : z1 = nI 0 := Classical.not_not.mp hc_26
        subst e1
        refine ev_aload_n 30 rfl d170_29 rfl ?_
        refine ev_getr 33 rfl 9 32 d170_30 rfl (by omega) (G.1 _ _ (rfl : ai_sp 572 = (9, 0)) (by decide) (by decide)) (G.2 _ _ _ (rfl : ai_rf 572 32 = some 597)) ?_
        refine ev_iconst (v := nI 5) 34 rfl d170_33 (by decide) ?_
        refine ev_iload_n 35 rfl d170_34 rfl ?_
        refine ev_imul (v := nI (5 * t)) 36 rfl d170_35 (pk_mul _ _) ?_
        refine ev_iload_n 37 rfl d170_36 rfl ?_
        refine ev_iadd (v := nI ((5 * t) + q)) 38 rfl d170_37 (nI_add _ _) ?_
        refine ev_bald_n (v := nI (ai_qb (σ.isOpen (5 * t + q)))) 39 rfl d170_38 (by omega) (by decide) (G.1 _ _ (rfl : ai_sp 597 = (102, 200)) (by decide) (by decide)) (by omega) (by decide) hj9.2.2 ?_
        refine ev_goto 79 (by decide) d170_39 ?_
        refine ev_iret (Or.inr ⟨rfl, qb_01 _⟩) d170_79 ?_
        refine pmb_of hM2 ?_ hfl
        rw [isP_iff hV ht hq]
        cases hb9 : σ.isOpen (5 * t + q) with
        | true => exact Or.inl ⟨Or.inl ⟨rfl, rfl⟩, rfl⟩
        | false => exact Or.inr ⟨fun h => h.elim (fun h7 => absurd h7.2 (by decide)) (fun h8 => h8.elim (fun h7 => absurd h7.1 (by decide)) (fun h7 => absurd h7.1 (by decide))), rfl⟩
    · refine ev_if_F 21 19 (by decide) rfl (by decide) d170_16 ?_
      refine ev_iconst (v := nI 0) 20 rfl d170_19 (by decide) ?_
      refine ev_iret (Or.inr ⟨rfl, Or.inl (by decide)⟩) d170_20 ?_
      refine pmb_of hM (Or.inr ⟨fun ⟨t2, q2, h1, h2, h3, h4, h5⟩ => ?_, rfl⟩) (fun _ _ => rfl)
      first
        | exact hq_3 ⟨t2, q2, h1, h2, h3, h4⟩
        | (rcases h5 with ⟨rfl, _⟩ | ⟨rfl, _⟩ | ⟨rfl, _⟩
           · exact hq_13 ⟨0, by decide, rfl⟩
           · exact hq_13 ⟨1, by decide, rfl⟩
           · exact hq_13 ⟨2, by decide, rfl⟩)
  · refine ev_if_T 19 (by decide) (by decide) d170_6 ?_
    refine ev_iconst (v := nI 0) 20 rfl d170_19 (by decide) ?_
    refine ev_iret (Or.inr ⟨rfl, Or.inl (by decide)⟩) d170_20 ?_
    refine pmb_of hM (Or.inr ⟨fun ⟨t2, q2, h1, h2, h3, h4, h5⟩ => ?_, rfl⟩) (fun _ _ => rfl)
    first
      | exact hq_3 ⟨t2, q2, h1, h2, h3, h4⟩
      | (rcases h5 with ⟨rfl, _⟩ | ⟨rfl, _⟩ | ⟨rfl, _⟩
         · exact hq_13 ⟨0, by decide, rfl⟩
         · exact hq_13 ⟨1, by decide, rfl⟩
         · exact hq_13 ⟨2, by decide, rfl⟩)
theorem m_fg_l (G : ai_G S F) (hM : ai_RM σ I L) (hV : ai_IV σ) {c q j : Nat} (hc : c < 200) (hcq : c % 5 = q) (hq : q < σ.nQ) (hj : j < 24) {Q : Option Value → ai_H → Prop} (hkk : ai_Ev none 174 61 [some (.ref 572), some (.int (nI j)), some (.int (nI c)), some (.int (nI q)), some (.int (nI (σ.an q))), some (.int (nI (σ.lead c))), some (.int (nI (σ.whole j q))), some (.int (nI (σ.an q))), none] [] (S, I, L, F) Q) : ∀ (z b : Nat), b + z = σ.an q → ai_Ev none 174 30 [some (.ref 572), some (.int (nI j)), some (.int (nI c)), some (.int (nI q)), some (.int (nI (σ.an q))), some (.int (nI (σ.lead c))), some (.int (nI (ai_qp (σ.bot j q) b))), some (.int (nI b)), none] [] (S, I, L, F) Q := by
  have hnT := hV.nT
  have hnQ := hV.nQ
  have hnJ := hV.nJ
  have han := hV.an q hq
  have haq : σ.an (c % 5) = σ.an q := by rw [hcq]
  have hwl := whole_le hV hj hq
  have hld := lead_lt hV (c := c) (by omega)
  rw [hcq] at hld
  intro z
  induction z with
  | zero =>
    intro b hz
    have e9 : b = σ.an q := by omega
    subst e9
    refine ev_iload 32 rfl d174_30 rfl ?_
    refine ev_iload 34 rfl d174_32 rfl ?_
    refine ev_icmp 61 37 (by decide) rfl (cn_ge (by omega) (by omega)) d174_34 (fun hc_34 => ?_) (fun hc_34 => absurd hc_34 (by omega))
    exact hkk
  | succ z ih =>
    intro b hz
    refine ev_iload 32 rfl d174_30 rfl ?_
    refine ev_iload 34 rfl d174_32 rfl ?_
    refine ev_icmp 61 37 (by decide) rfl (cn_ge (by omega) (by omega)) d174_34 (fun hc_34 => absurd hc_34 (by omega)) (fun hc_34 => ?_)
    refine ev_iload 39 rfl d174_37 rfl ?_
    refine ev_aload_n 40 rfl d174_39 rfl ?_
    refine ev_getr 43 rfl 9 25 d174_40 rfl (by omega) (G.1 _ _ (rfl : ai_sp 572 = (9, 0)) (by decide) (by decide)) (G.2 _ _ _ (rfl : ai_rf 572 25 = some 591)) ?_
    refine ev_aload_n 44 rfl d174_43 rfl ?_
    refine ev_iload_n 45 rfl d174_44 rfl ?_
    refine ev_iload_n 46 rfl d174_45 rfl ?_
    refine ev_iload 48 rfl d174_46 rfl ?_
    refine ev_cp3 51 rfl 126 d174_48 rfl rfl (by rw [G.1 _ _ (rfl : ai_sp 572 = (9, 0)) (by decide) (by decide)]; rfl) (by omega) rfl (m_botAt G) ?_
    refine ev_iald_n (v := nI (σ.bot j q b)) 52 rfl d174_51 (by omega) (G.1 _ _ (rfl : ai_sp 591 = (100, 480)) (by decide) (by decide)) (by omega) (by decide) (hM.bt j q b hj (by omega) (by omega)) ?_
    refine ev_imul (v := nI ((ai_qp (σ.bot j q) b) * (σ.bot j q b))) 53 rfl d174_52 (pk_mul _ _) ?_
    refine ev_store_i 55 rfl d174_53 ⟨rfl, Nat.le_of_ble_eq_true rfl⟩ rfl ?_
    show ai_Ev _ _ _ [some (.ref 572), some (.int (nI j)), some (.int (nI c)), some (.int (nI q)), some (.int (nI (σ.an q))), some (.int (nI (σ.lead c))), some (.int (nI ((ai_qp (σ.bot j q) b) * (σ.bot j q b)))), some (.int (nI b)), none] _ _ _
    refine ev_iinc (v := nI (b + 1)) 58 rfl d174_55 rfl (Nat.le_of_ble_eq_true rfl) (nI_add _ 1) rfl ?_
    show ai_Ev _ _ _ [some (.ref 572), some (.int (nI j)), some (.int (nI c)), some (.int (nI q)), some (.int (nI (σ.an q))), some (.int (nI (σ.lead c))), some (.int (nI ((ai_qp (σ.bot j q) b) * (σ.bot j q b)))), some (.int (nI (b + 1))), none] _ _ _
    refine ev_goto 30 (by decide) d174_58 ?_
    exact ih (b + 1) (by omega)
theorem div_bot (hV : ai_IV σ) {j q b : Nat} (hq : q < σ.nQ) (hb : b < σ.an q) : σ.whole j q / σ.bot j q b = ai_qp (fun o => if o = b then 1 else σ.bot j q o) (σ.an q) := by
  unfold ai_S.whole
  rw [← qp_skip (f := σ.bot j q) hb]
  exact Nat.mul_div_cancel _ (bot_pos hV hq)
theorem m_fg_in (G : ai_G S F) {I0 : Nat → Nat → Int32} (hM0 : ai_RM σ I0 L) (hV : ai_IV σ) {c q j : Nat} (hc : c < 200) (hcq : c % 5 = q) (hq : q < σ.nQ) (hj : j < 24) {a A : Nat} (ha : a < σ.an q) {Q : Option Value → ai_H → Prop} (hkk : ∀ I, ai_MW σ c I → ai_MG I 7 A → ai_MG I 9 (ai_qt (fun y => σ.fac j q a y * σ.wt c y) (σ.an q)) → ai_fW I0 I → (∀ y v, 11 ≤ y → ai_MG I0 y v → ai_MG I y v) → ai_Ev none 174 171 [some (.ref 572), some (.int (nI j)), some (.int (nI c)), some (.int (nI q)), some (.int (nI (σ.an q))), some (.int (nI (σ.lead c))), some (.int (nI (σ.whole j q))), some (.int (nI a)), some (.int (nI (σ.an q)))] [] (S, I, L, F) Q) : ∀ (z b : Nat) (I : Nat → Nat → Int32), b + z = σ.an q → ai_MW σ c I → ai_MG I 7 A → ai_MG I 9 (ai_qt (fun y => σ.fac j q a y * σ.wt c y) b) → ai_fW I0 I → (∀ y v, 11 ≤ y → ai_MG I0 y v → ai_MG I y v) → ai_Ev none 174 88 [some (.ref 572), some (.int (nI j)), some (.int (nI c)), some (.int (nI q)), some (.int (nI (σ.an q))), some (.int (nI (σ.lead c))), some (.int (nI (σ.whole j q))), some (.int (nI a)), some (.int (nI b))] [] (S, I, L, F) Q := by
  have hnT := hV.nT
  have hnQ := hV.nQ
  have hnJ := hV.nJ
  have han := hV.an q hq
  have haq : σ.an (c % 5) = σ.an q := by rw [hcq]
  have hwl := whole_le hV hj hq
  have hld := lead_lt hV (c := c) (by omega)
  rw [hcq] at hld
  intro z
  induction z with
  | zero =>
    intro b I hz hW h7 hb9 hf hk9
    have e9 : b = σ.an q := by omega
    subst e9
    refine ev_iload 90 rfl d174_88 rfl ?_
    refine ev_iload 92 rfl d174_90 rfl ?_
    refine ev_icmp 171 95 (by decide) rfl (cn_ge (by omega) (by omega)) d174_92 (fun hc_92 => ?_) (fun hc_92 => absurd hc_92 (by omega))
    exact hkk I hW h7 hb9 hf hk9
  | succ z ih =>
    intro b I hz hW h7 hb9 hf hk9
    have hM : ai_RM σ I L := rm_fW hM0 hf
    refine ev_iload 90 rfl d174_88 rfl ?_
    refine ev_iload 92 rfl d174_90 rfl ?_
    refine ev_icmp 171 95 (by decide) rfl (cn_ge (by omega) (by omega)) d174_92 (fun hc_92 => absurd hc_92 (by omega)) (fun hc_92 => ?_)
    have hbp := bot_pos hV (σ := σ) (j := j) (b := b) hq
    have hbl : σ.bot j q b ≤ 44 := by have := (hV.sl j q 0 b).2; show σ.an q + σ.sa j q b ≤ 44; omega
    have htop : σ.top j q a b ≤ 41 := by have := (hV.sl j q a b).1; show 1 + σ.sd j q a b ≤ 41; omega
    have hwb := wt_le hV hc (b := b) (by omega)
    have hbd1 : σ.top j q a b * σ.wt c b ≤ 41 * 65536 ^ 24 := Nat.mul_le_mul htop hwb
    have hdl : σ.whole j q / σ.bot j q b ≤ 38416 := Nat.le_trans (Nat.div_le_self _ _) hwl
    have hbd2 : σ.whole j q / σ.bot j q b * (σ.top j q a b * σ.wt c b) ≤ (38416 * 41) * 65536 ^ 24 := by rw [Nat.mul_assoc]; exact Nat.mul_le_mul hdl hbd1
    refine ev_aload_n 96 rfl d174_95 rfl ?_
    refine ev_iload 98 rfl d174_96 rfl ?_
    refine ev_bipush (v := nI 10) 100 rfl d174_98 (by decide) ?_
    refine ev_cu2 103 rfl 149 d174_100 rfl rfl (by rw [G.1 _ _ (rfl : ai_sp 572 = (9, 0)) (by decide) (by decide)]; rfl) (by omega) rfl (m_copy G (x := b) (y := 10) (by omega) (by omega) (by omega) (hW.1 b (by omega))) (fun I_1 hr_100 => ?_)
    obtain ⟨hg1, hf1⟩ := hr_100
    have hM1 := rm_fW hM (mf_W hf1)
    refine ev_aload_n 104 rfl d174_103 rfl ?_
    refine ev_bipush (v := nI 10) 106 rfl d174_104 (by decide) ?_
    refine ev_aload_n 107 rfl d174_106 rfl ?_
    refine ev_getr 110 rfl 9 24 d174_107 rfl (by omega) (G.1 _ _ (rfl : ai_sp 572 = (9, 0)) (by decide) (by decide)) (G.2 _ _ _ (rfl : ai_rf 572 24 = some 590)) ?_
    refine ev_aload_n 111 rfl d174_110 rfl ?_
    refine ev_iload_n 112 rfl d174_111 rfl ?_
    refine ev_iload_n 113 rfl d174_112 rfl ?_
    refine ev_iload 115 rfl d174_113 rfl ?_
    refine ev_iload 117 rfl d174_115 rfl ?_
    refine ev_cp4 120 rfl 125 d174_117 rfl rfl (by rw [G.1 _ _ (rfl : ai_sp 572 = (9, 0)) (by decide) (by decide)]; rfl) (by omega) rfl (m_topAt G) ?_
    refine ev_iald_n (v := nI (σ.top j q a b)) 121 rfl d174_120 (by omega) (G.1 _ _ (rfl : ai_sp 590 = (100, 1920)) (by decide) (by decide)) (by omega) (by decide) (hM1.tp j q a b hj (by omega) (by omega) (by omega)) ?_
    refine ev_cu2 124 rfl 150 d174_121 rfl rfl (by rw [G.1 _ _ (rfl : ai_sp 572 = (9, 0)) (by decide) (by decide)]; rfl) (by omega) rfl (m_times G (x := 10) (by omega) (m := σ.top j q a b) (by omega) hg1 (big17 (big40 hbd1 (by decide)))) (fun I_2 hr_121 => ?_)
    obtain ⟨hg2, hf2⟩ := hr_121
    have hM1 := rm_fW hM1 (mf_W hf2)
    refine ev_aload_n 125 rfl d174_124 rfl ?_
    refine ev_bipush (v := nI 10) 127 rfl d174_125 (by decide) ?_
    refine ev_iload 129 rfl d174_127 rfl ?_
    refine ev_aload_n 130 rfl d174_129 rfl ?_
    refine ev_getr 133 rfl 9 25 d174_130 rfl (by omega) (G.1 _ _ (rfl : ai_sp 572 = (9, 0)) (by decide) (by decide)) (G.2 _ _ _ (rfl : ai_rf 572 25 = some 591)) ?_
    refine ev_aload_n 134 rfl d174_133 rfl ?_
    refine ev_iload_n 135 rfl d174_134 rfl ?_
    refine ev_iload_n 136 rfl d174_135 rfl ?_
    refine ev_iload 138 rfl d174_136 rfl ?_
    refine ev_cp3 141 rfl 126 d174_138 rfl rfl (by rw [G.1 _ _ (rfl : ai_sp 572 = (9, 0)) (by decide) (by decide)]; rfl) (by omega) rfl (m_botAt G) ?_
    refine ev_iald_n (v := nI (σ.bot j q b)) 142 rfl d174_141 (by omega) (G.1 _ _ (rfl : ai_sp 591 = (100, 480)) (by decide) (by decide)) (by omega) (by decide) (hM1.bt j q b hj (by omega) (by omega)) ?_
    refine ev_idiv (v := nI (σ.whole j q / σ.bot j q b)) 143 rfl d174_142 (nI_ne0 (by omega) (by omega)) (pk_div (by omega) (by omega) (by omega)) ?_
    refine ev_cu2 146 rfl 150 d174_143 rfl rfl (by rw [G.1 _ _ (rfl : ai_sp 572 = (9, 0)) (by decide) (by decide)]; rfl) (by omega) rfl (m_times G (x := 10) (by omega) (m := σ.whole j q / σ.bot j q b) (by omega) hg2 (big17 (big40 hbd2 (by decide)))) (fun I_3 hr_143 => ?_)
    obtain ⟨hg3a, hf3⟩ := hr_143
    have hg3 : ai_MG I_3 10 (σ.fac j q a b * σ.wt c b) := by
      have e8 : σ.fac j q a b * σ.wt c b = σ.whole j q / σ.bot j q b * (σ.top j q a b * σ.wt c b) := by
        rw [div_bot hV hq (by omega)]
        show σ.top j q a b * _ * _ = _
        rw [Nat.mul_comm (σ.top j q a b), Nat.mul_assoc]
      rw [e8]; exact hg3a
    refine ev_aload_n 147 rfl d174_146 rfl ?_
    refine ev_bipush (v := nI 10) 149 rfl d174_147 (by decide) ?_
    refine ev_bipush (v := nI 9) 151 rfl d174_149 (by decide) ?_
    refine ev_cp2 154 rfl 153 d174_151 rfl rfl (by rw [G.1 _ _ (rfl : ai_sp 572 = (9, 0)) (by decide) (by decide)]; rfl) (by omega) rfl (m_cmp G (x := 10) (y := 9) (by omega) (by omega) hg3 (hf3.keep (by omega) (hf2.keep (by omega) (hf1.keep (by omega) hb9)))) ?_
    refine ev_if 165 157 (by decide) rfl cmp_gt2 d174_154 (fun hc_154 => ?_) (fun hc_154 => ?_)
    · refine ev_iinc (v := nI (b + 1)) 168 rfl d174_165 rfl (Nat.le_of_ble_eq_true rfl) (nI_add _ 1) rfl ?_
      show ai_Ev _ _ _ [some (.ref 572), some (.int (nI j)), some (.int (nI c)), some (.int (nI q)), some (.int (nI (σ.an q))), some (.int (nI (σ.lead c))), some (.int (nI (σ.whole j q))), some (.int (nI a)), some (.int (nI (b + 1)))] _ _ _
      refine ev_goto 88 (by decide) d174_168 ?_
      refine ih (b + 1) _ (by omega) ⟨fun x hx => (hf3.keep (by omega) (hf2.keep (by omega) (hf1.keep (by omega) (hW.1 x hx)))), (hf3.keep (by omega) (hf2.keep (by omega) (hf1.keep (by omega) hW.2)))⟩ (hf3.keep (by omega) (hf2.keep (by omega) (hf1.keep (by omega) h7))) ?_ (fW_tr (fW_tr (fW_tr hf (mf_W hf1)) (mf_W hf2)) (mf_W hf3)) (fun y v hy hg => (hf3.keep (by omega) (hf2.keep (by omega) (hf1.keep (by omega) (hk9 y v hy hg)))))
      have e8 : ai_qt (fun y => σ.fac j q a y * σ.wt c y) (b + 1) = ai_qt (fun y => σ.fac j q a y * σ.wt c y) b := if_neg hc_154
      rw [e8]; exact (hf3.keep (by omega) (hf2.keep (by omega) (hf1.keep (by omega) hb9)))
    · refine ev_aload_n 158 rfl d174_157 rfl ?_
      refine ev_bipush (v := nI 10) 160 rfl d174_158 (by decide) ?_
      refine ev_bipush (v := nI 9) 162 rfl d174_160 (by decide) ?_
      refine ev_cu2 165 rfl 149 d174_162 rfl rfl (by rw [G.1 _ _ (rfl : ai_sp 572 = (9, 0)) (by decide) (by decide)]; rfl) (by omega) rfl (m_copy G (x := 10) (y := 9) (by omega) (by omega) (by omega) hg3) (fun I_4 hr_162 => ?_)
      obtain ⟨hg4, hf4⟩ := hr_162
      refine ev_iinc (v := nI (b + 1)) 168 rfl d174_165 rfl (Nat.le_of_ble_eq_true rfl) (nI_add _ 1) rfl ?_
      show ai_Ev _ _ _ [some (.ref 572), some (.int (nI j)), some (.int (nI c)), some (.int (nI q)), some (.int (nI (σ.an q))), some (.int (nI (σ.lead c))), some (.int (nI (σ.whole j q))), some (.int (nI a)), some (.int (nI (b + 1)))] _ _ _
      refine ev_goto 88 (by decide) d174_168 ?_
      refine ih (b + 1) _ (by omega) ⟨fun x hx => hf4.keep (by omega) (hf3.keep (by omega) (hf2.keep (by omega) (hf1.keep (by omega) (hW.1 x hx)))), hf4.keep (by omega) (hf3.keep (by omega) (hf2.keep (by omega) (hf1.keep (by omega) hW.2)))⟩ (hf4.keep (by omega) (hf3.keep (by omega) (hf2.keep (by omega) (hf1.keep (by omega) h7)))) ?_ (fW_tr (fW_tr (fW_tr (fW_tr hf (mf_W hf1)) (mf_W hf2)) (mf_W hf3)) (mf_W hf4)) (fun y v hy hg => hf4.keep (by omega) (hf3.keep (by omega) (hf2.keep (by omega) (hf1.keep (by omega) (hk9 y v hy hg)))))
      have e8 : ai_qt (fun y => σ.fac j q a y * σ.wt c y) (b + 1) = σ.fac j q a b * σ.wt c b := if_pos (Classical.not_not.mp hc_154)
      rw [e8]; exact hg4
theorem m_fg_a (G : ai_G S F) {I0 : Nat → Nat → Int32} (hM0 : ai_RM σ I0 L) (hV : ai_IV σ) {c q j : Nat} (hc : c < 200) (hcq : c % 5 = q) (hq : q < σ.nQ) (hj : j < 24) (hlt : ai_qs (fun x => ai_qt (fun y => σ.fac j q x y * σ.wt c y) (σ.an q)) (σ.an q) ≤ 65536 ^ 40) {Q : Option Value → ai_H → Prop} (hkk : ∀ I u8, ai_MW σ c I → ai_MG I 7 (ai_qs (fun x => ai_qt (fun y => σ.fac j q x y * σ.wt c y) (σ.an q)) (σ.an q)) → ai_fW I0 I → (∀ y v, 11 ≤ y → ai_MG I0 y v → ai_MG I y v) → ai_Ev none 174 185 [some (.ref 572), some (.int (nI j)), some (.int (nI c)), some (.int (nI q)), some (.int (nI (σ.an q))), some (.int (nI (σ.lead c))), some (.int (nI (σ.whole j q))), some (.int (nI (σ.an q))), u8] [] (S, I, L, F) Q) : ∀ (z a : Nat) (I : Nat → Nat → Int32) (u8 : Option Value), a + z = σ.an q → ai_MW σ c I → ai_MG I 7 (ai_qs (fun x => ai_qt (fun y => σ.fac j q x y * σ.wt c y) (σ.an q)) a) → ai_fW I0 I → (∀ y v, 11 ≤ y → ai_MG I0 y v → ai_MG I y v) → ai_Ev none 174 71 [some (.ref 572), some (.int (nI j)), some (.int (nI c)), some (.int (nI q)), some (.int (nI (σ.an q))), some (.int (nI (σ.lead c))), some (.int (nI (σ.whole j q))), some (.int (nI a)), u8] [] (S, I, L, F) Q := by
  have hnT := hV.nT
  have hnQ := hV.nQ
  have hnJ := hV.nJ
  have han := hV.an q hq
  have haq : σ.an (c % 5) = σ.an q := by rw [hcq]
  have hwl := whole_le hV hj hq
  have hld := lead_lt hV (c := c) (by omega)
  rw [hcq] at hld
  intro z
  induction z with
  | zero =>
    intro a I u8 hz hW h7 hf hk9
    have e9 : a = σ.an q := by omega
    subst e9
    refine ev_iload 73 rfl d174_71 rfl ?_
    refine ev_iload 75 rfl d174_73 rfl ?_
    refine ev_icmp 185 78 (by decide) rfl (cn_ge (by omega) (by omega)) d174_75 (fun hc_75 => ?_) (fun hc_75 => absurd hc_75 (by omega))
    exact hkk I _ hW h7 hf hk9
  | succ z ih =>
    intro a I u8 hz hW h7 hf hk9
    refine ev_iload 73 rfl d174_71 rfl ?_
    refine ev_iload 75 rfl d174_73 rfl ?_
    refine ev_icmp 185 78 (by decide) rfl (cn_ge (by omega) (by omega)) d174_75 (fun hc_75 => absurd hc_75 (by omega)) (fun hc_75 => ?_)
    refine ev_aload_n 79 rfl d174_78 rfl ?_
    refine ev_bipush (v := nI 9) 81 rfl d174_79 (by decide) ?_
    refine ev_iconst (v := nI 0) 82 rfl d174_81 (by decide) ?_
    refine ev_cu2 85 rfl 148 d174_82 rfl rfl (by rw [G.1 _ _ (rfl : ai_sp 572 = (9, 0)) (by decide) (by decide)]; rfl) (by omega) rfl (m_becomes G (x := 9) (by omega) (m := 0) (by omega)) (fun I_1 hr_82 => ?_)
    obtain ⟨hg9, hf9⟩ := hr_82
    refine ev_iconst (v := nI 0) 86 rfl d174_85 (by decide) ?_
    refine ev_store_i 88 rfl d174_86 ⟨rfl, Nat.le_of_ble_eq_true rfl⟩ rfl ?_
    show ai_Ev _ _ _ [some (.ref 572), some (.int (nI j)), some (.int (nI c)), some (.int (nI q)), some (.int (nI (σ.an q))), some (.int (nI (σ.lead c))), some (.int (nI (σ.whole j q))), some (.int (nI a)), some (.int (nI 0))] _ _ _
    refine m_fg_in (I0 := I_1) G (rm_fW (rm_fW hM0 hf) (mf_W hf9)) hV hc hcq hq hj (by omega) ?_ (σ.an q) 0 I_1 (by omega) ⟨fun x hx => hf9.keep (by omega) (hW.1 x hx), hf9.keep (by omega) hW.2⟩ (hf9.keep (by omega) h7) hg9 (fun _ _ _ => rfl) (fun _ _ _ h => h)
    intro I9 h9W h97 h99 h9f h9k
    have hle : ai_qs (fun x => ai_qt (fun y => σ.fac j q x y * σ.wt c y) (σ.an q)) a + ai_qt (fun y => σ.fac j q a y * σ.wt c y) (σ.an q) ≤ ai_qs (fun x => ai_qt (fun y => σ.fac j q x y * σ.wt c y) (σ.an q)) (σ.an q) := qs_le (f := fun x => ai_qt (fun y => σ.fac j q x y * σ.wt c y) (σ.an q)) (by omega)
    refine ev_aload_n 172 rfl d174_171 rfl ?_
    refine ev_bipush (v := nI 7) 174 rfl d174_172 (by decide) ?_
    refine ev_bipush (v := nI 9) 176 rfl d174_174 (by decide) ?_
    refine ev_cu2 179 rfl 151 d174_176 rfl rfl (by rw [G.1 _ _ (rfl : ai_sp 572 = (9, 0)) (by decide) (by decide)]; rfl) (by omega) rfl (m_plus G (x := 7) (y := 9) (by omega) (by omega) (by omega) h97 h99 (big17 (Nat.le_trans hle hlt))) (fun I_1 hr_176 => ?_)
    obtain ⟨hg8, hf8⟩ := hr_176
    refine ev_iinc (v := nI (a + 1)) 182 rfl d174_179 rfl (Nat.le_of_ble_eq_true rfl) (nI_add _ 1) rfl ?_
    show ai_Ev _ _ _ [some (.ref 572), some (.int (nI j)), some (.int (nI c)), some (.int (nI q)), some (.int (nI (σ.an q))), some (.int (nI (σ.lead c))), some (.int (nI (σ.whole j q))), some (.int (nI (a + 1))), some (.int (nI (σ.an q)))] _ _ _
    refine ev_goto 71 (by decide) d174_182 ?_
    exact ih (a + 1) _ (some (.int (nI (σ.an q)))) (by omega) ⟨fun x hx => hf8.keep (by omega) (h9W.1 x hx), hf8.keep (by omega) h9W.2⟩ hg8 (fW_tr hf (fW_tr (mf_W hf9) (fW_tr h9f (mf_W hf8)))) (fun y v hy hg => hf8.keep (by omega) (h9k y v hy (hf9.keep (by omega) (hk9 y v hy hg))))
theorem m_findGain (G : ai_G S F) (hM : ai_RM σ I L) (hC : ai_RC σ I) (hV : ai_IV σ) {c q j : Nat} (hc : c < 200) (hcq : c % 5 = q) (hq : q < σ.nQ) (hj : j < 24) : ai_Ev none 174 0 [some (.ref 572), some (.int (nI j)), some (.int (nI c)), none, none, none, none, none, none] [] (S, I, L, F) (ai_Pu S F L (fun I2 => ai_MG I2 7 (σ.gnA j c) ∧ ai_MG I2 8 (σ.gnB j c) ∧ ai_fW I I2 ∧ ai_kp I I2 11)) := by
  have hnT := hV.nT
  have hnQ := hV.nQ
  have hnJ := hV.nJ
  have han := hV.an q hq
  have haq : σ.an (c % 5) = σ.an q := by rw [hcq]
  have hwl := whole_le hV hj hq
  have hld := lead_lt hV (c := c) (by omega)
  rw [hcq] at hld
  refine ev_iload_n 1 rfl d174_0 rfl ?_
  refine ev_iconst (v := nI 5) 2 rfl d174_1 (by decide) ?_
  refine ev_irem (v := nI q) 3 rfl d174_2 (nI_ne0 (by omega) (by omega)) (by rw [← hcq]; exact pk_rem (by omega) (by omega) (by omega)) ?_
  refine ev_store_in 4 rfl d174_3 (Nat.le_of_ble_eq_true rfl) rfl ?_
  show ai_Ev _ _ _ [some (.ref 572), some (.int (nI j)), some (.int (nI c)), some (.int (nI q)), none, none, none, none, none] _ _ _
  refine ev_aload_n 5 rfl d174_4 rfl ?_
  refine ev_getr 8 rfl 9 8 d174_5 rfl (by omega) (G.1 _ _ (rfl : ai_sp 572 = (9, 0)) (by decide) (by decide)) (G.2 _ _ _ (rfl : ai_rf 572 8 = some 578)) ?_
  refine ev_iload_n 9 rfl d174_8 rfl ?_
  refine ev_iald_n (v := nI (σ.an q)) 10 rfl d174_9 (by omega) (G.1 _ _ (rfl : ai_sp 578 = (100, 5)) (by decide) (by decide)) (by omega) (by decide) (hM.an _ (by omega)) ?_
  refine ev_store_i 12 rfl d174_10 ⟨rfl, Nat.le_of_ble_eq_true rfl⟩ rfl ?_
  show ai_Ev _ _ _ [some (.ref 572), some (.int (nI j)), some (.int (nI c)), some (.int (nI q)), some (.int (nI (σ.an q))), none, none, none, none] _ _ _
  refine ev_aload_n 13 rfl d174_12 rfl ?_
  refine ev_iload_n 14 rfl d174_13 rfl ?_
  refine ev_cu1 17 rfl 156 d174_14 rfl rfl (by rw [G.1 _ _ (rfl : ai_sp 572 = (9, 0)) (by decide) (by decide)]; rfl) (by omega) rfl (m_weigh G hM hC hV (c := c) (q := q) hc hcq hq) (fun I_1 hr_14 => ?_)
  obtain ⟨hW, hfw, hkp⟩ := hr_14
  have hM3 := rm_fW hM hfw
  refine ev_aload_n 18 rfl d174_17 rfl ?_
  refine ev_iload_n 19 rfl d174_18 rfl ?_
  refine ev_cp1 22 rfl 157 d174_19 rfl rfl (by rw [G.1 _ _ (rfl : ai_sp 572 = (9, 0)) (by decide) (by decide)]; rfl) (by omega) rfl (m_lead G hM3 hV hc (by omega) hW) ?_
  refine ev_store_i 24 rfl d174_22 ⟨rfl, Nat.le_of_ble_eq_true rfl⟩ rfl ?_
  show ai_Ev _ _ _ [some (.ref 572), some (.int (nI j)), some (.int (nI c)), some (.int (nI q)), some (.int (nI (σ.an q))), some (.int (nI (σ.lead c))), none, none, none] _ _ _
  refine ev_iconst (v := nI 1) 25 rfl d174_24 (by decide) ?_
  refine ev_store_i 27 rfl d174_25 ⟨rfl, Nat.le_of_ble_eq_true rfl⟩ rfl ?_
  show ai_Ev _ _ _ [some (.ref 572), some (.int (nI j)), some (.int (nI c)), some (.int (nI q)), some (.int (nI (σ.an q))), some (.int (nI (σ.lead c))), some (.int (nI 1)), none, none] _ _ _
  refine ev_iconst (v := nI 0) 28 rfl d174_27 (by decide) ?_
  refine ev_store_i 30 rfl d174_28 ⟨rfl, Nat.le_of_ble_eq_true rfl⟩ rfl ?_
  show ai_Ev _ _ _ [some (.ref 572), some (.int (nI j)), some (.int (nI c)), some (.int (nI q)), some (.int (nI (σ.an q))), some (.int (nI (σ.lead c))), some (.int (nI 1)), some (.int (nI 0)), none] _ _ _
  refine m_fg_l G hM3 hV hc hcq hq hj ?_ (σ.an q) 0 (by omega)
  refine ev_aload_n 62 rfl d174_61 rfl ?_
  refine ev_bipush (v := nI 7) 64 rfl d174_62 (by decide) ?_
  refine ev_iconst (v := nI 0) 65 rfl d174_64 (by decide) ?_
  refine ev_cu2 68 rfl 148 d174_65 rfl rfl (by rw [G.1 _ _ (rfl : ai_sp 572 = (9, 0)) (by decide) (by decide)]; rfl) (by omega) rfl (m_becomes G (x := 7) (by omega) (m := 0) (by omega)) (fun I_1 hr_65 => ?_)
  obtain ⟨hg7, hf7⟩ := hr_65
  refine ev_iconst (v := nI 0) 69 rfl d174_68 (by decide) ?_
  refine ev_store_i 71 rfl d174_69 ⟨rfl, Nat.le_of_ble_eq_true rfl⟩ rfl ?_
  show ai_Ev _ _ _ [some (.ref 572), some (.int (nI j)), some (.int (nI c)), some (.int (nI q)), some (.int (nI (σ.an q))), some (.int (nI (σ.lead c))), some (.int (nI (σ.whole j q))), some (.int (nI 0)), none] _ _ _
  have hbs : ∀ a, σ.best j c a = ai_qt (fun y => σ.fac j q a y * σ.wt c y) (σ.an q) := fun a => by unfold ai_S.best; rw [hcq]
  have hup := gain_up hV hj (c := c) (by omega)
  have hlo := gain_le hV hj (c := c) (by omega)
  rw [hcq, qs_cong (fun a _ => hbs a)] at hup hlo
  have htl := tot_le hV hc (by omega)
  have hbt : σ.whole j q * σ.tot c ≤ (38416 * 4) * 65536 ^ 24 := by rw [Nat.mul_assoc]; exact Nat.mul_le_mul hwl htl
  have hwb := wt_le hV hc (b := σ.lead c) (by omega)
  have hbw : σ.whole j q * σ.wt c (σ.lead c) ≤ 38416 * 65536 ^ 24 := Nat.mul_le_mul hwl hwb
  refine m_fg_a (I0 := I_1) G (rm_fW hM3 (mf_W hf7)) hV hc hcq hq hj (Nat.le_trans hup (big40 hbt (by decide))) ?_ (σ.an q) 0 I_1 none (by omega) ⟨fun x hx => hf7.keep (by omega) (hW.1 x hx), hf7.keep (by omega) hW.2⟩ hg7 (fun _ _ _ => rfl) (fun _ _ _ h => h)
  intro I8 w8 h8W h87 h8f h8k
  refine ev_aload_n 186 rfl d174_185 rfl ?_
  refine ev_iload 188 rfl d174_186 rfl ?_
  refine ev_bipush (v := nI 9) 190 rfl d174_188 (by decide) ?_
  refine ev_cu2 193 rfl 149 d174_190 rfl rfl (by rw [G.1 _ _ (rfl : ai_sp 572 = (9, 0)) (by decide) (by decide)]; rfl) (by omega) rfl (m_copy G (x := σ.lead c) (y := 9) (by omega) (by omega) (by omega) (h8W.1 _ (by omega))) (fun I_1 hr_190 => ?_)
  obtain ⟨hg1, hf1⟩ := hr_190
  refine ev_aload_n 194 rfl d174_193 rfl ?_
  refine ev_bipush (v := nI 9) 196 rfl d174_194 (by decide) ?_
  refine ev_iload 198 rfl d174_196 rfl ?_
  refine ev_cu2 201 rfl 150 d174_198 rfl rfl (by rw [G.1 _ _ (rfl : ai_sp 572 = (9, 0)) (by decide) (by decide)]; rfl) (by omega) rfl (m_times G (x := 9) (by omega) (m := σ.whole j q) (by omega) hg1 (big17 (big40 hbw (by decide)))) (fun I_2 hr_198 => ?_)
  obtain ⟨hg2, hf2⟩ := hr_198
  refine ev_aload_n 202 rfl d174_201 rfl ?_
  refine ev_bipush (v := nI 7) 204 rfl d174_202 (by decide) ?_
  refine ev_bipush (v := nI 9) 206 rfl d174_204 (by decide) ?_
  refine ev_cu2 209 rfl 152 d174_206 rfl rfl (by rw [G.1 _ _ (rfl : ai_sp 572 = (9, 0)) (by decide) (by decide)]; rfl) (by omega) rfl (m_minus G (x := 7) (y := 9) (by omega) (by omega) (by omega) (hf2.keep (by omega) (hf1.keep (by omega) h87)) hg2 hlo) (fun I_3 hr_206 => ?_)
  obtain ⟨hg3, hf3⟩ := hr_206
  refine ev_aload_n 210 rfl d174_209 rfl ?_
  refine ev_iconst (v := nI 4) 211 rfl d174_210 (by decide) ?_
  refine ev_bipush (v := nI 8) 213 rfl d174_211 (by decide) ?_
  refine ev_cu2 216 rfl 149 d174_213 rfl rfl (by rw [G.1 _ _ (rfl : ai_sp 572 = (9, 0)) (by decide) (by decide)]; rfl) (by omega) rfl (m_copy G (x := 4) (y := 8) (by omega) (by omega) (by omega) (hf3.keep (by omega) (hf2.keep (by omega) (hf1.keep (by omega) h8W.2)))) (fun I_4 hr_213 => ?_)
  obtain ⟨hg4, hf4⟩ := hr_213
  refine ev_aload_n 217 rfl d174_216 rfl ?_
  refine ev_bipush (v := nI 8) 219 rfl d174_217 (by decide) ?_
  refine ev_iload 221 rfl d174_219 rfl ?_
  refine ev_cu2 224 rfl 150 d174_221 rfl rfl (by rw [G.1 _ _ (rfl : ai_sp 572 = (9, 0)) (by decide) (by decide)]; rfl) (by omega) rfl (m_times G (x := 8) (by omega) (m := σ.whole j q) (by omega) hg4 (big17 (big40 hbt (by decide)))) (fun I_5 hr_221 => ?_)
  obtain ⟨hg5, hf5⟩ := hr_221
  refine ev_vret rfl d174_224 ?_
  have eA : σ.gnA j c = ai_qs (fun x => ai_qt (fun y => σ.fac j q x y * σ.wt c y) (σ.an q)) (σ.an q) - σ.whole j q * σ.wt c (σ.lead c) := by
    unfold ai_S.gnA; rw [hcq]; congr 1
    exact qs_cong (fun a _ => hbs a)
  have eB : σ.gnB j c = σ.whole j q * σ.tot c := by unfold ai_S.gnB; rw [hcq]
  rw [eA, eB]
  exact ⟨rfl, _, rfl, hf5.keep (by omega) (hf4.keep (by omega) hg3), hg5, fW_tr hfw (fW_tr (mf_W hf7) (fW_tr h8f (fW_tr (mf_W hf1) (fW_tr (mf_W hf2) (fW_tr (mf_W hf3) (fW_tr (mf_W hf4) (mf_W hf5))))))), fun y v hy hg => hf5.keep (by omega) (hf4.keep (by omega) (hf3.keep (by omega) (hf2.keep (by omega) (hf1.keep (by omega) (h8k y v hy (hf7.keep (by omega) (hkp y v (by omega) hg)))))))⟩
theorem m_gain (G : ai_G S F) (hM : ai_RM σ I L) (hV : ai_IV σ) {z1 : Int32} {z2 : Int32} {z3 : Int32} : ai_Ev none 175 0 [some (.ref 572), some (.int z1), some (.int z2), some (.int z3)] [] (S, I, L, F) (ai_PM S F I L (o_gain9 σ z1 z2 z3)) := by
  have hnT := hV.nT
  have hnQ := hV.nQ
  have hnJ := hV.nJ
  unfold o_gain9
  refine ev_aload_n 1 rfl d175_0 rfl ?_
  refine ev_iload_n 2 rfl d175_1 rfl ?_
  refine ev_cb1 5 rfl 128 d175_2 rfl rfl (by rw [G.1 _ _ (rfl : ai_sp 572 = (9, 0)) (by decide) (by decide)]; rfl) (by omega) rfl (m_isJ G hM hV) (fun hq_2 => ?_) (fun hq_2 => ?_)
  · try rw [c_T hq_2]
    obtain ⟨j, hj, hjl, rfl⟩ := hq_2
    refine ev_if_F 17 8 (by decide) rfl (by decide) d175_5 ?_
    simp only [nn_I (show j < 2147483648 by omega)]
    refine ev_aload_n 9 rfl d175_8 rfl ?_
    refine ev_iload_n 10 rfl d175_9 rfl ?_
    refine ev_iload_n 11 rfl d175_10 rfl ?_
    refine ev_cb2 14 rfl 129 d175_11 rfl rfl (by rw [G.1 _ _ (rfl : ai_sp 572 = (9, 0)) (by decide) (by decide)]; rfl) (by omega) rfl (m_isCase G hM hV) (fun hq_11 => ?_) (fun hq_11 => ?_)
    · try rw [c_T hq_11]
      obtain ⟨t, q, ht, hq, rfl, rfl⟩ := hq_11
      refine ev_if_T 19 (by decide) (by decide) d175_14 ?_
      simp only [nn_I (show t < 2147483648 by omega)]
      simp only [nn_I (show q < 2147483648 by omega)]
      have h1 := gnA_le hV (j := j) (c := 5 * t + q) (by omega) (by omega)
      have h2 := gnB_pos hV (j := j) (c := 5 * t + q) (by omega) (by omega)
      have h3 := gnB_le hV (j := j) (c := 5 * t + q) (by omega) (by omega) (by omega)
      have hb1 : 1000000 * σ.gnA j (5 * t + q) ≤ (1000000 * (38416 * 4)) * 65536 ^ 24 := by rw [Nat.mul_assoc, Nat.mul_assoc 38416]; exact Nat.mul_le_mul_left _ (Nat.le_trans h1 h3)
      have hb2 : 4000000 * σ.gnB j (5 * t + q) ≤ (4000000 * (38416 * 4)) * 65536 ^ 24 := by rw [Nat.mul_assoc, Nat.mul_assoc 38416]; exact Nat.mul_le_mul_left _ h3
      refine ev_aload_n 20 rfl d175_19 rfl ?_
      refine ev_cu0 23 rfl 145 d175_20 rfl rfl (by rw [G.1 _ _ (rfl : ai_sp 572 = (9, 0)) (by decide) (by decide)]; rfl) (by omega) rfl (m_renew G hM hV) (fun I_1 hr_20 => ?_)
      obtain ⟨hM2, hC2, hfn⟩ := hr_20
      refine ev_aload_n 24 rfl d175_23 rfl ?_
      refine ev_iload_n 25 rfl d175_24 rfl ?_
      refine ev_iconst (v := nI 5) 26 rfl d175_25 (by decide) ?_
      refine ev_iload_n 27 rfl d175_26 rfl ?_
      refine ev_imul (v := nI (5 * t)) 28 rfl d175_27 (pk_mul _ _) ?_
      refine ev_iload_n 29 rfl d175_28 rfl ?_
      refine ev_iadd (v := nI ((5 * t) + q)) 30 rfl d175_29 (nI_add _ _) ?_
      refine ev_cu2 33 rfl 174 d175_30 rfl rfl (by rw [G.1 _ _ (rfl : ai_sp 572 = (9, 0)) (by decide) (by decide)]; rfl) (by omega) rfl (m_findGain G hM2 hC2 hV (c := 5 * t + q) (q := q) (j := j) (by omega) (by omega) (by omega) (by omega)) (fun I_2 hr_30 => ?_)
      obtain ⟨hg7, hg8, hfw, hkp⟩ := hr_30
      refine ev_aload_n 34 rfl d175_33 rfl ?_
      refine ev_bipush (v := nI 7) 36 rfl d175_34 (by decide) ?_
      refine ev_ldc (v := nI 1000000) 38 rfl d175_36 (by decide) ?_
      refine ev_cu2 41 rfl 150 d175_38 rfl rfl (by rw [G.1 _ _ (rfl : ai_sp 572 = (9, 0)) (by decide) (by decide)]; rfl) (by omega) rfl (m_times G (x := 7) (by omega) (m := 1000000) (by omega) hg7 (big17 (big40 hb1 (by decide)))) (fun I_3 hr_38 => ?_)
      obtain ⟨hg9, hf9⟩ := hr_38
      refine ev_aload_n 42 rfl d175_41 rfl ?_
      refine ev_bipush (v := nI 7) 44 rfl d175_42 (by decide) ?_
      refine ev_bipush (v := nI 8) 46 rfl d175_44 (by decide) ?_
      refine ev_ldc (v := nI 4000000) 48 rfl d175_46 (by decide) ?_
      refine ev_cy3 51 rfl 155 d175_48 rfl rfl (by rw [G.1 _ _ (rfl : ai_sp 572 = (9, 0)) (by decide) (by decide)]; rfl) (by omega) rfl (m_quot G (x := 7) (y := 8) (most := 4000000) (by omega) (by omega) h2 (by omega) (big17 (big40 hb2 (by decide))) (Nat.le_trans (Nat.div_le_div_right (Nat.mul_le_mul_left _ h1)) (by rw [Nat.mul_div_cancel _ h2]; decide)) hg9 (hf9.keep (by omega) hg8)) (fun v_5 I_4 hr_48 => ?_)
      obtain ⟨rfl, hf8⟩ := hr_48
      refine ev_iret (Or.inl rfl) d175_51 ?_
      exact pm_scr (rm_fW (rm_fW (rm_fW hM2 hfw) (mf_W hf9)) (mf_W hf8)) (fun a ha => by rw [hf8.1 a (by omega) (by omega), hf9.1 a (by omega) (by omega), hfw a (by omega) (by omega)]; exact fN_lo hfn a ha)
    · try rw [c_F hq_11]
      refine ev_if_F 19 17 (by decide) rfl (by decide) d175_14 ?_
      refine ev_iconst (v := (-1)) 18 rfl d175_17 (by decide) ?_
      refine ev_iret (Or.inl rfl) d175_18 ?_
      exact pm_same hM
  · try rw [c_F hq_2]
    refine ev_if_T 17 (by decide) (by decide) d175_5 ?_
    refine ev_iconst (v := (-1)) 18 rfl d175_17 (by decide) ?_
    refine ev_iret (Or.inl rfl) d175_18 ?_
    exact pm_same hM
end MGAI
