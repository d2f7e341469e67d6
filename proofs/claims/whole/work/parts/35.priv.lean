section PRIV
variable {S : List (Nat × Nat)} {F : Nat → Nat → Option Nat} {L : Nat → Nat → Int64} {I : Nat → Nat → Int32} {σ : ai_S}
def ai_is (n : Nat) (z : Int32) : Prop := ∃ k, k < n ∧ z = nI k
theorem is_nat {n x : Nat} (hn : n < 2 ^ 31) (hx : x < 2 ^ 31) : ai_is n (nI x) ↔ x < n := by
  constructor
  · rintro ⟨k, h1, h2⟩
    have := (nI_eq hx (by omega)).mp h2
    omega
  · exact fun h => ⟨x, h, rfl⟩
theorem is_neg {n : Nat} {z : Int32} (hn : n < 2 ^ 31) (hz : ¬ (0 : Int32) ≤ z) : ¬ ai_is n z := by
  rintro ⟨k, h1, rfl⟩
  exact hz (nI_le (Nat.zero_le _) (by omega))

theorem x_isShelf (G : ai_G S F) (hX : ai_RX σ I L) (hV : ai_IV σ) {z : Int32} : ai_Ev none 84 0 [some (.ref 1), some (.int z)] [] (S, I, L, F) (ai_Pb S F I L (ai_is 8 z)) := by
  have hnT := hV.nT
  have hnQ := hV.nQ
  have hnJ := hV.nJ
  by_cases hz : (0 : Int32) ≤ z
  · obtain ⟨x, hx, rfl⟩ := nn_nI hz
    refine ev_iload_n 1 rfl d84_0 rfl ?_
    refine ev_if_F 14 4 (by decide) rfl (c0_ltF (by omega)) d84_1 ?_
    refine ev_iload_n 5 rfl d84_4 rfl ?_
    refine ev_bipush (v := nI 8) 7 rfl d84_5 (by decide) ?_
    refine ev_icmp 14 10 (by decide) rfl (cn_ge (by omega) (by omega)) d84_7 (fun hc_7 => ?_) (fun hc_7 => ?_)
    · refine ev_iconst (v := nI 0) 15 rfl d84_14 (by decide) ?_
      refine ev_iret (Or.inr ⟨rfl, Or.inl (by decide)⟩) d84_15 ?_
      exact ⟨Or.inr ⟨fun h9 => absurd ((is_nat (by omega) (by omega)).mp h9) (by omega), rfl⟩, rfl⟩
    · refine ev_iconst (v := nI 1) 11 rfl d84_10 (by decide) ?_
      refine ev_goto 15 (by decide) d84_11 ?_
      refine ev_iret (Or.inr ⟨rfl, Or.inr (by decide)⟩) d84_15 ?_
      exact ⟨Or.inl ⟨(is_nat (by omega) (by omega)).mpr (by omega), rfl⟩, rfl⟩
  · refine ev_iload_n 1 rfl d84_0 rfl ?_
    refine ev_if_T 14 (by decide) (z_nn.mpr hz) d84_1 ?_
    refine ev_iconst (v := nI 0) 15 rfl d84_14 (by decide) ?_
    refine ev_iret (Or.inr ⟨rfl, Or.inl (by decide)⟩) d84_15 ?_
    exact ⟨Or.inr ⟨is_neg (by omega) hz, rfl⟩, rfl⟩
theorem x_isQuestion (G : ai_G S F) (hX : ai_RX σ I L) (hV : ai_IV σ) {z : Int32} : ai_Ev none 86 0 [some (.ref 1), some (.int z)] [] (S, I, L, F) (ai_Pb S F I L (ai_is σ.nQ z)) := by
  have hnT := hV.nT
  have hnQ := hV.nQ
  have hnJ := hV.nJ
  by_cases hz : (0 : Int32) ≤ z
  · obtain ⟨x, hx, rfl⟩ := nn_nI hz
    refine ev_iload_n 1 rfl d86_0 rfl ?_
    refine ev_if_F 16 4 (by decide) rfl (c0_ltF (by omega)) d86_1 ?_
    refine ev_iload_n 5 rfl d86_4 rfl ?_
    refine ev_aload_n 6 rfl d86_5 rfl ?_
    refine ev_geti (v := nI σ.nQ) 9 rfl 8 5 d86_6 rfl (by omega) (G.1 _ _ (rfl : ai_sp 1 = (8, 0)) (by decide) (by decide)) hX.nQ ?_
    refine ev_icmp 16 12 (by decide) rfl (cn_ge (by omega) (by omega)) d86_9 (fun hc_9 => ?_) (fun hc_9 => ?_)
    · refine ev_iconst (v := nI 0) 17 rfl d86_16 (by decide) ?_
      refine ev_iret (Or.inr ⟨rfl, Or.inl (by decide)⟩) d86_17 ?_
      exact ⟨Or.inr ⟨fun h9 => absurd ((is_nat (by omega) (by omega)).mp h9) (by omega), rfl⟩, rfl⟩
    · refine ev_iconst (v := nI 1) 13 rfl d86_12 (by decide) ?_
      refine ev_goto 17 (by decide) d86_13 ?_
      refine ev_iret (Or.inr ⟨rfl, Or.inr (by decide)⟩) d86_17 ?_
      exact ⟨Or.inl ⟨(is_nat (by omega) (by omega)).mpr (by omega), rfl⟩, rfl⟩
  · refine ev_iload_n 1 rfl d86_0 rfl ?_
    refine ev_if_T 16 (by decide) (z_nn.mpr hz) d86_1 ?_
    refine ev_iconst (v := nI 0) 17 rfl d86_16 (by decide) ?_
    refine ev_iret (Or.inr ⟨rfl, Or.inl (by decide)⟩) d86_17 ?_
    exact ⟨Or.inr ⟨is_neg (by omega) hz, rfl⟩, rfl⟩
theorem qb_lt (b : Bool) : ai_qb b < 2 := by cases b <;> decide
theorem qb_z {b : Bool} : ai_qb b = 0 ↔ b = false := by cases b <;> decide

theorem x_isJudge (G : ai_G S F) (hX : ai_RX σ I L) (hV : ai_IV σ) {z : Int32} : ai_Ev none 85 0 [some (.ref 1), some (.int z)] [] (S, I, L, F) (ai_Pb S F I L (∃ k, k < σ.nJ ∧ σ.lf k = false ∧ z = nI k)) := by
  have hnT := hV.nT
  have hnQ := hV.nQ
  have hnJ := hV.nJ
  by_cases hz : (0 : Int32) ≤ z
  · obtain ⟨x, hx, rfl⟩ := nn_nI hz
    refine ev_iload_n 1 rfl d85_0 rfl ?_
    refine ev_if_F 28 4 (by decide) rfl (c0_ltF (by omega)) d85_1 ?_
    refine ev_iload_n 5 rfl d85_4 rfl ?_
    refine ev_aload_n 6 rfl d85_5 rfl ?_
    refine ev_geti (v := nI σ.nJ) 9 rfl 8 6 d85_6 rfl (by omega) (G.1 _ _ (rfl : ai_sp 1 = (8, 0)) (by decide) (by decide)) hX.nJ ?_
    refine ev_icmp 28 12 (by decide) rfl (cn_ge (by omega) (by omega)) d85_9 (fun hc_9 => ?_) (fun hc_9 => ?_)
    · refine ev_iconst (v := nI 0) 29 rfl d85_28 (by decide) ?_
      refine ev_iret (Or.inr ⟨rfl, Or.inl (by decide)⟩) d85_29 ?_
      exact ⟨Or.inr ⟨fun ⟨k, h1, h2, h3⟩ => by
        have e9 := (nI_eq (by omega) (by omega)).mp h3
        subst e9
        have e8 := qb_z.mpr h2
        omega, rfl⟩, rfl⟩
    · have hql := qb_lt (σ.lf x)
      refine ev_aload_n 13 rfl d85_12 rfl ?_
      refine ev_getr 16 rfl 8 2 d85_13 rfl (by omega) (G.1 _ _ (rfl : ai_sp 1 = (8, 0)) (by decide) (by decide)) (G.2 _ _ _ (rfl : ai_rf 1 2 = some 4)) ?_
      refine ev_iload_n 17 rfl d85_16 rfl ?_
      refine ev_aald_n 18 rfl d85_17 (by omega) (by decide) (G.1 _ _ (rfl : ai_sp 4 = (106, 24)) (by decide) (by decide)) (by omega) (by decide) (G.2 _ _ _ (rf_judge (by omega))) ?_
      refine ev_geti (v := nI (ai_qb (σ.lf x))) 21 rfl 2 0 d85_18 rfl (by omega) (G.1 _ _ (sp_judge (by omega)) (by omega) (by omega)) (hX.lf _ (by omega)) ?_
      refine ev_if 28 24 (by decide) rfl (c0_ne (by omega)) d85_21 (fun hc_21 => ?_) (fun hc_21 => ?_)
      · refine ev_iconst (v := nI 0) 29 rfl d85_28 (by decide) ?_
        refine ev_iret (Or.inr ⟨rfl, Or.inl (by decide)⟩) d85_29 ?_
        exact ⟨Or.inr ⟨fun ⟨k, h1, h2, h3⟩ => by
          have e9 := (nI_eq (by omega) (by omega)).mp h3
          subst e9
          have e8 := qb_z.mpr h2
          omega, rfl⟩, rfl⟩
      · refine ev_iconst (v := nI 1) 25 rfl d85_24 (by decide) ?_
        refine ev_goto 29 (by decide) d85_25 ?_
        refine ev_iret (Or.inr ⟨rfl, Or.inr (by decide)⟩) d85_29 ?_
        exact ⟨Or.inl ⟨⟨x, by omega, qb_z.mp (by omega), rfl⟩, rfl⟩, rfl⟩
  · refine ev_iload_n 1 rfl d85_0 rfl ?_
    refine ev_if_T 28 (by decide) (z_nn.mpr hz) d85_1 ?_
    refine ev_iconst (v := nI 0) 29 rfl d85_28 (by decide) ?_
    refine ev_iret (Or.inr ⟨rfl, Or.inl (by decide)⟩) d85_29 ?_
    exact ⟨Or.inr ⟨fun ⟨k, h1, h2, h3⟩ => is_neg (n := σ.nJ) (by omega) hz ⟨k, h1, h3⟩, rfl⟩, rfl⟩
theorem x_caseOf (G : ai_G S F) {t q : Nat} (ht : t < 40) (hq : q < 5) : ai_Ev none 89 0 [some (.ref 1), some (.int (nI t)), some (.int (nI q))] [] (S, I, L, F) (ai_Pp S F I L (.ref (172 + 2 * (5 * t + q)))) := by
  refine ev_aload_n 1 rfl d89_0 rfl ?_
  refine ev_getr 4 rfl 8 3 d89_1 rfl (by omega) (G.1 _ _ (rfl : ai_sp 1 = (8, 0)) (by decide) (by decide)) (G.2 _ _ _ (rfl : ai_rf 1 3 = some 5)) ?_
  refine ev_iload_n 5 rfl d89_4 rfl ?_
  refine ev_iconst (v := nI 5) 6 rfl d89_5 (by decide) ?_
  refine ev_imul (v := nI (t * 5)) 7 rfl d89_6 (pk_mul _ _) ?_
  refine ev_iload_n 8 rfl d89_7 rfl ?_
  refine ev_iadd (v := nI ((t * 5) + q)) 9 rfl d89_8 (nI_add _ _) ?_
  refine ev_aald_n 10 rfl d89_9 (by omega) (by decide) (G.1 _ _ (rfl : ai_sp 5 = (107, 200)) (by decide) (by decide)) (by omega) (by decide) (G.2 _ _ _ (rf_case (by omega))) ?_
  refine ev_aret rfl d89_10 ?_
  exact ⟨by simp only [Nat.mul_comm], rfl⟩
end PRIV
