section CASE
variable {S : List (Nat × Nat)} {F : Nat → Nat → Option Nat} {L : Nat → Nat → Int64} {I : Nat → Nat → Int32}
theorem nM_eq {a b : Nat} (ha : a < 2 ^ 31) (hb : b < 2 ^ 31) : nI a - 1 = nI b - 1 ↔ a = b := by
  constructor
  · intro h
    have h2 : nI a - 1 + 1 = nI b - 1 + 1 := by rw [h]
    rw [Int32.sub_add_cancel, Int32.sub_add_cancel] at h2
    exact (nI_eq ha hb).mp h2
  · intro h; rw [h]
theorem nM_succ (a : Nat) : nI (a + 1) - 1 = nI a := by
  have h : nI (a + 1) = nI a + 1 := (nI_add a 1).symm
  rw [h]; exact Int32.add_sub_cancel _ _
theorem nM_z : nI 0 - 1 = -1 := by decide
theorem nM_pos {a : Nat} (h : a ≠ 0) : nI a - 1 = nI (a - 1) := by
  obtain ⟨b, rfl⟩ : ∃ b, a = b + 1 := ⟨a - 1, by omega⟩
  exact nM_succ b
theorem cq_eq {a : Nat} (ha : a < 2 ^ 31) : ai_cond .eq (nI a - 1) (-1) = true ↔ a = 0 := by
  rw [cz_eq, ← nM_z]; exact nM_eq ha (by decide)
theorem cq_ne {a : Nat} (ha : a < 2 ^ 31) : ai_cond .ne (nI a - 1) (-1) = true ↔ ¬ a = 0 := by
  rw [cz_ne, ← nM_z]; exact not_congr (nM_eq ha (by decide))
theorem cmm_eq {a b : Nat} (ha : a < 2 ^ 31) (hb : b < 2 ^ 31) : ai_cond .eq (nI a - 1) (nI b - 1) = true ↔ a = b := by
  rw [cz_eq]; exact nM_eq ha hb
theorem cmm_ne {a b : Nat} (ha : a < 2 ^ 31) (hb : b < 2 ^ 31) : ai_cond .ne (nI a - 1) (nI b - 1) = true ↔ ¬ a = b := by
  rw [cz_ne]; exact not_congr (nM_eq ha hb)
theorem cmn_eq {a b : Nat} (ha : a < 2 ^ 31) (hb : b + 1 < 2 ^ 31) : ai_cond .eq (nI a - 1) (nI b) = true ↔ a = b + 1 := by
  rw [cz_eq, ← nM_succ b]; exact nM_eq ha hb
theorem cmn_ne {a b : Nat} (ha : a < 2 ^ 31) (hb : b + 1 < 2 ^ 31) : ai_cond .ne (nI a - 1) (nI b) = true ↔ ¬ a = b + 1 := by
  rw [cz_ne, ← nM_succ b]; exact not_congr (nM_eq ha hb)
theorem cq0_lt {a : Nat} (ha : a < 2 ^ 31) : ai_cond .lt (nI a - 1) 0 = true ↔ a = 0 := by
  rw [cz_lt]
  by_cases z : a = 0
  · subst z; exact ⟨fun _ => rfl, fun _ => by decide⟩
  · rw [nM_pos z]
    exact ⟨fun h => absurd ((nI_ltI (b := 0) (by omega) (by decide)).mp h) (by omega), fun h => absurd h z⟩
theorem cq0_ge {a : Nat} (ha : a < 2 ^ 31) : ai_cond .ge (nI a - 1) 0 = true ↔ ¬ a = 0 := by
  rw [cz_ge]
  by_cases z : a = 0
  · subst z; exact ⟨fun h => absurd h (by decide), fun h => absurd rfl h⟩
  · rw [nM_pos z]
    exact ⟨fun _ => z, fun _ => (nI_leI (a := 0) (by decide) (by omega)).mpr (by omega)⟩

theorem k_known (G : ai_G S F) {c : Nat} (hc : c < 200) {v : Nat} (hv : v < 1000) (h : I (172 + 2 * c) 0 = nI v - 1) :
    ai_Ev none 13 0 [some (.ref (172 + 2 * c))] [] (S, I, L, F) (ai_Pb S F I L (v ≠ 0)) := by
  refine ev_aload_n 1 rfl d13_0 rfl ?_
  refine ev_geti (v := nI v - 1) 4 rfl 1 0 d13_1 rfl (by omega) (G.1 _ _ (sp_case (by omega)) (by omega) (by omega)) h ?_
  refine ev_iconst (v := (-1)) 5 rfl d13_4 (by decide) ?_
  refine ev_icmp 12 8 (by decide) rfl (cq_eq (by omega)) d13_5 (fun hc_5 => ?_) (fun hc_5 => ?_)
  · refine ev_iconst (v := nI 0) 13 rfl d13_12 (by decide) ?_
    refine ev_iret (Or.inr ⟨rfl, Or.inl (by decide)⟩) d13_13 ?_
    exact ⟨Or.inr ⟨by omega, rfl⟩, rfl⟩
  · refine ev_iconst (v := nI 1) 9 rfl d13_8 (by decide) ?_
    refine ev_goto 13 (by decide) d13_9 ?_
    refine ev_iret (Or.inr ⟨rfl, Or.inr (by decide)⟩) d13_13 ?_
    exact ⟨Or.inl ⟨by omega, rfl⟩, rfl⟩
theorem k_answered (G : ai_G S F) {c : Nat} (hc : c < 200) {i v : Nat} (hi : i < 24) (hv : v < 128) (h : I (172 + 2 * c + 1) i = nI v) :
    ai_Ev none 14 0 [some (.ref (172 + 2 * c)), some (.int (nI i))] [] (S, I, L, F) (ai_Pb S F I L (v ≠ 0)) := by
  refine ev_iload_n 1 rfl d14_0 rfl ?_
  refine ev_if_F 26 4 (by decide) rfl (c0_ltF (by omega)) d14_1 ?_
  refine ev_iload_n 5 rfl d14_4 rfl ?_
  refine ev_aload_n 6 rfl d14_5 rfl ?_
  refine ev_getr 9 rfl 1 2 d14_6 rfl (by omega) (G.1 _ _ (sp_case (by omega)) (by omega) (by omega)) (G.2 _ _ _ (rf_notes (by omega))) ?_
  refine ev_alen (v := nI 24) 10 rfl d14_9 (by omega) (by decide) (G.1 _ _ (sp_notes (by omega)) (by omega) (by omega)) rfl ?_
  refine ev_icmp 26 13 (by decide) rfl (cn_ge (by omega) (by omega)) d14_10 (fun hc_10 => absurd hc_10 (by omega)) (fun hc_10 => ?_)
  refine ev_aload_n 14 rfl d14_13 rfl ?_
  refine ev_getr 17 rfl 1 2 d14_14 rfl (by omega) (G.1 _ _ (sp_case (by omega)) (by omega) (by omega)) (G.2 _ _ _ (rf_notes (by omega))) ?_
  refine ev_iload_n 18 rfl d14_17 rfl ?_
  refine ev_bald_n (v := nI v) 19 rfl d14_18 (by omega) (by decide) (G.1 _ _ (sp_notes (by omega)) (by omega) (by omega)) (by omega) (by decide) h ?_
  refine ev_if 26 22 (by decide) rfl (c0_le (by omega)) d14_19 (fun hc_19 => ?_) (fun hc_19 => ?_)
  · refine ev_iconst (v := nI 0) 27 rfl d14_26 (by decide) ?_
    refine ev_iret (Or.inr ⟨rfl, Or.inl (by decide)⟩) d14_27 ?_
    exact ⟨Or.inr ⟨by omega, rfl⟩, rfl⟩
  · refine ev_iconst (v := nI 1) 23 rfl d14_22 (by decide) ?_
    refine ev_goto 27 (by decide) d14_23 ?_
    refine ev_iret (Or.inr ⟨rfl, Or.inr (by decide)⟩) d14_27 ?_
    exact ⟨Or.inl ⟨by omega, rfl⟩, rfl⟩
theorem k_kind (G : ai_G S F) {c : Nat} (hc : c < 200) {i v : Nat} (hi : i < 24) (hv : v < 128) (h : I (172 + 2 * c + 1) i = nI v) :
    ai_Ev none 15 0 [some (.ref (172 + 2 * c)), some (.int (nI i))] [] (S, I, L, F) (ai_Pp S F I L (.int (if v = 0 then -1 else nI ((v - 1) / 4)))) := by
  refine ev_aload_n 1 rfl d15_0 rfl ?_
  refine ev_iload_n 2 rfl d15_1 rfl ?_
  refine ev_cb1 5 rfl 14 d15_2 rfl rfl (by rw [G.1 _ _ (sp_case (by omega)) (by omega) (by omega)]; rfl) (by omega) rfl (k_answered G hc hi hv h) (fun hq_2 => ?_) (fun hq_2 => ?_)
  · refine ev_if_F 21 8 (by decide) rfl (by decide) d15_5 ?_
    refine ev_aload_n 9 rfl d15_8 rfl ?_
    refine ev_getr 12 rfl 1 2 d15_9 rfl (by omega) (G.1 _ _ (sp_case (by omega)) (by omega) (by omega)) (G.2 _ _ _ (rf_notes (by omega))) ?_
    refine ev_iload_n 13 rfl d15_12 rfl ?_
    refine ev_bald_n (v := nI v) 14 rfl d15_13 (by omega) (by decide) (G.1 _ _ (sp_notes (by omega)) (by omega) (by omega)) (by omega) (by decide) h ?_
    refine ev_iconst (v := nI 1) 15 rfl d15_14 (by decide) ?_
    refine ev_isub (v := nI (v - 1)) 16 rfl d15_15 (pk_sub (by omega)) ?_
    refine ev_iconst (v := nI 4) 17 rfl d15_16 (by decide) ?_
    refine ev_idiv (v := nI ((v - 1) / 4)) 18 rfl d15_17 (nI_ne0 (by omega) (by omega)) (pk_div (by omega) (by omega) (by omega)) ?_
    refine ev_goto 22 (by decide) d15_18 ?_
    refine ev_iret (Or.inl rfl) d15_22 ?_
    refine ⟨?_, rfl⟩
    first | rw [if_pos (by omega)] | rw [if_neg (by omega)]
  · refine ev_if_T 21 (by decide) (by decide) d15_5 ?_
    refine ev_iconst (v := (-1)) 22 rfl d15_21 (by decide) ?_
    refine ev_iret (Or.inl rfl) d15_22 ?_
    refine ⟨?_, rfl⟩
    first | rw [if_pos (by omega)] | rw [if_neg (by omega)]
theorem k_said (G : ai_G S F) {c : Nat} (hc : c < 200) {i v : Nat} (hi : i < 24) (hv : v < 128) (h : I (172 + 2 * c + 1) i = nI v) :
    ai_Ev none 16 0 [some (.ref (172 + 2 * c)), some (.int (nI i))] [] (S, I, L, F) (ai_Pp S F I L (.int (if v = 0 then -1 else nI ((v - 1) % 4)))) := by
  refine ev_aload_n 1 rfl d16_0 rfl ?_
  refine ev_iload_n 2 rfl d16_1 rfl ?_
  refine ev_cb1 5 rfl 14 d16_2 rfl rfl (by rw [G.1 _ _ (sp_case (by omega)) (by omega) (by omega)]; rfl) (by omega) rfl (k_answered G hc hi hv h) (fun hq_2 => ?_) (fun hq_2 => ?_)
  · refine ev_if_F 21 8 (by decide) rfl (by decide) d16_5 ?_
    refine ev_aload_n 9 rfl d16_8 rfl ?_
    refine ev_getr 12 rfl 1 2 d16_9 rfl (by omega) (G.1 _ _ (sp_case (by omega)) (by omega) (by omega)) (G.2 _ _ _ (rf_notes (by omega))) ?_
    refine ev_iload_n 13 rfl d16_12 rfl ?_
    refine ev_bald_n (v := nI v) 14 rfl d16_13 (by omega) (by decide) (G.1 _ _ (sp_notes (by omega)) (by omega) (by omega)) (by omega) (by decide) h ?_
    refine ev_iconst (v := nI 1) 15 rfl d16_14 (by decide) ?_
    refine ev_isub (v := nI (v - 1)) 16 rfl d16_15 (pk_sub (by omega)) ?_
    refine ev_iconst (v := nI 4) 17 rfl d16_16 (by decide) ?_
    refine ev_irem (v := nI ((v - 1) % 4)) 18 rfl d16_17 (nI_ne0 (by omega) (by omega)) (pk_rem (by omega) (by omega) (by omega)) ?_
    refine ev_goto 22 (by decide) d16_18 ?_
    refine ev_iret (Or.inl rfl) d16_22 ?_
    refine ⟨?_, rfl⟩
    first | rw [if_pos (by omega)] | rw [if_neg (by omega)]
  · refine ev_if_T 21 (by decide) (by decide) d16_5 ?_
    refine ev_iconst (v := (-1)) 22 rfl d16_21 (by decide) ?_
    refine ev_iret (Or.inl rfl) d16_22 ?_
    refine ⟨?_, rfl⟩
    first | rw [if_pos (by omega)] | rw [if_neg (by omega)]
theorem nI_i2b {n : Nat} (h : n < 128) : (nI n).toInt8.toInt32 = nI n := by
  have := (by decide +kernel : ∀ n, n < 128 → (nI n).toInt8.toInt32 = nI n); exact this n h

theorem k_note (G : ai_G S F) {c : Nat} (hc : c < 200) {i k a : Nat} (hi : i < 24) (hk : k < 3) (ha : a < 4) :
    ai_Ev none 17 0 [some (.ref (172 + 2 * c)), some (.int (nI i)), some (.int (nI k)), some (.int (nI a))] [] (S, I, L, F) (ai_Pu S F L (fun I2 => I2 = ai_ui I (172 + 2 * c + 1) i (nI (1 + 4 * k + a)))) := by
  refine ev_iload_n 1 rfl d17_0 rfl ?_
  refine ev_if_F 27 4 (by decide) rfl (c0_ltF (by omega)) d17_1 ?_
  refine ev_iload_n 5 rfl d17_4 rfl ?_
  refine ev_aload_n 6 rfl d17_5 rfl ?_
  refine ev_getr 9 rfl 1 2 d17_6 rfl (by omega) (G.1 _ _ (sp_case (by omega)) (by omega) (by omega)) (G.2 _ _ _ (rf_notes (by omega))) ?_
  refine ev_alen (v := nI 24) 10 rfl d17_9 (by omega) (by decide) (G.1 _ _ (sp_notes (by omega)) (by omega) (by omega)) rfl ?_
  refine ev_icmp 27 13 (by decide) rfl (cn_ge (by omega) (by omega)) d17_10 (fun hc_10 => absurd hc_10 (by omega)) (fun hc_10 => ?_)
  refine ev_aload_n 14 rfl d17_13 rfl ?_
  refine ev_getr 17 rfl 1 2 d17_14 rfl (by omega) (G.1 _ _ (sp_case (by omega)) (by omega) (by omega)) (G.2 _ _ _ (rf_notes (by omega))) ?_
  refine ev_iload_n 18 rfl d17_17 rfl ?_
  refine ev_iconst (v := nI 1) 19 rfl d17_18 (by decide) ?_
  refine ev_iconst (v := nI 4) 20 rfl d17_19 (by decide) ?_
  refine ev_iload_n 21 rfl d17_20 rfl ?_
  refine ev_imul (v := nI (4 * k)) 22 rfl d17_21 (pk_mul _ _) ?_
  refine ev_iadd (v := nI (1 + (4 * k))) 23 rfl d17_22 (nI_add _ _) ?_
  refine ev_iload_n 24 rfl d17_23 rfl ?_
  refine ev_iadd (v := nI ((1 + (4 * k)) + a)) 25 rfl d17_24 (nI_add _ _) ?_
  refine ev_i2b (v := nI (1 + 4 * k + a)) 26 rfl d17_25 (nI_i2b (by omega)) ?_
  obtain ⟨I_1, hI_1⟩ : ∃ z, z = ai_ui I (172 + 2 * c + 1) i (nI (1 + 4 * k + a)) := ⟨_, rfl⟩
  refine ev_bast_n (I2 := I_1) 27 rfl d17_26 (by omega) (G.1 _ _ (sp_notes (by omega)) (by omega) (by omega)) (by omega) (by decide) (nI_i2b (by omega)) hI_1.symm ?_
  refine ev_vret rfl d17_27 ?_
  exact ⟨rfl, _, rfl, hI_1⟩
theorem k_erase (G : ai_G S F) {c : Nat} (hc : c < 200) {i : Nat} (hi : i < 24) :
    ai_Ev none 18 0 [some (.ref (172 + 2 * c)), some (.int (nI i))] [] (S, I, L, F) (ai_Pu S F L (fun I2 => I2 = ai_ui I (172 + 2 * c + 1) i (nI 0))) := by
  refine ev_iload_n 1 rfl d18_0 rfl ?_
  refine ev_if_F 20 4 (by decide) rfl (c0_ltF (by omega)) d18_1 ?_
  refine ev_iload_n 5 rfl d18_4 rfl ?_
  refine ev_aload_n 6 rfl d18_5 rfl ?_
  refine ev_getr 9 rfl 1 2 d18_6 rfl (by omega) (G.1 _ _ (sp_case (by omega)) (by omega) (by omega)) (G.2 _ _ _ (rf_notes (by omega))) ?_
  refine ev_alen (v := nI 24) 10 rfl d18_9 (by omega) (by decide) (G.1 _ _ (sp_notes (by omega)) (by omega) (by omega)) rfl ?_
  refine ev_icmp 20 13 (by decide) rfl (cn_ge (by omega) (by omega)) d18_10 (fun hc_10 => absurd hc_10 (by omega)) (fun hc_10 => ?_)
  refine ev_aload_n 14 rfl d18_13 rfl ?_
  refine ev_getr 17 rfl 1 2 d18_14 rfl (by omega) (G.1 _ _ (sp_case (by omega)) (by omega) (by omega)) (G.2 _ _ _ (rf_notes (by omega))) ?_
  refine ev_iload_n 18 rfl d18_17 rfl ?_
  refine ev_iconst (v := nI 0) 19 rfl d18_18 (by decide) ?_
  obtain ⟨I_1, hI_1⟩ : ∃ z, z = ai_ui I (172 + 2 * c + 1) i (nI 0) := ⟨_, rfl⟩
  refine ev_bast_n (I2 := I_1) 20 rfl d18_19 (by omega) (G.1 _ _ (sp_notes (by omega)) (by omega) (by omega)) (by omega) (by decide) (by decide) hI_1.symm ?_
  refine ev_vret rfl d18_20 ?_
  exact ⟨rfl, _, rfl, hI_1⟩
theorem j_alike (G : ai_G S F) {j : Nat} (hj : j < 24) {x : Nat} (hx : x < 24) :
    ai_Ev none 21 0 [some (.ref (76 + 4 * j)), some (.int (nI x))] [] (S, I, L, F) (ai_Pp S F I L (.int (I (76 + 4 * j + 1) x))) := by
  refine ev_iload_n 1 rfl d21_0 rfl ?_
  refine ev_if_F 22 4 (by decide) rfl (c0_ltF (by omega)) d21_1 ?_
  refine ev_iload_n 5 rfl d21_4 rfl ?_
  refine ev_aload_n 6 rfl d21_5 rfl ?_
  refine ev_getr 9 rfl 2 4 d21_6 rfl (by omega) (G.1 _ _ (sp_judge (by omega)) (by omega) (by omega)) (G.2 _ _ _ (rf_alike (by omega))) ?_
  refine ev_alen (v := nI 24) 10 rfl d21_9 (by omega) (by decide) (G.1 _ _ (sp_alike (by omega)) (by omega) (by omega)) rfl ?_
  refine ev_icmp 22 13 (by decide) rfl (cn_ge (by omega) (by omega)) d21_10 (fun hc_10 => absurd hc_10 (by omega)) (fun hc_10 => ?_)
  refine ev_aload_n 14 rfl d21_13 rfl ?_
  refine ev_getr 17 rfl 2 4 d21_14 rfl (by omega) (G.1 _ _ (sp_judge (by omega)) (by omega) (by omega)) (G.2 _ _ _ (rf_alike (by omega))) ?_
  refine ev_iload_n 18 rfl d21_17 rfl ?_
  refine ev_iald_n (v := I (76 + 4 * j + 1) x) 19 rfl d21_18 (by omega) (G.1 _ _ (sp_alike (by omega)) (by omega) (by omega)) (by omega) (by decide) rfl ?_
  refine ev_goto 23 (by decide) d21_19 ?_
  refine ev_iret (Or.inl rfl) d21_23 ?_
  exact ⟨rfl, rfl⟩
theorem j_meet1 (G : ai_G S F) {j : Nat} (hj : j < 24) {x : Nat} (hx : x < 24) :
    ai_Ev none 20 0 [some (.ref (76 + 4 * j)), some (.int (nI x)), some (.int (nI 1))] [] (S, I, L, F) (ai_Pu S F L (fun I2 => (I (76 + 4 * j + 1) x = -1 → I2 = I) ∧ (I (76 + 4 * j + 1) x ≠ -1 → I2 = ai_ui I (76 + 4 * j + 1) x (I (76 + 4 * j + 1) x + nI 1)))) := by
  refine ev_iload_n 1 rfl d20_0 rfl ?_
  refine ev_if_F 45 4 (by decide) rfl (c0_ltF (by omega)) d20_1 ?_
  refine ev_iload_n 5 rfl d20_4 rfl ?_
  refine ev_aload_n 6 rfl d20_5 rfl ?_
  refine ev_getr 9 rfl 2 4 d20_6 rfl (by omega) (G.1 _ _ (sp_judge (by omega)) (by omega) (by omega)) (G.2 _ _ _ (rf_alike (by omega))) ?_
  refine ev_alen (v := nI 24) 10 rfl d20_9 (by omega) (by decide) (G.1 _ _ (sp_alike (by omega)) (by omega) (by omega)) rfl ?_
  refine ev_icmp 45 13 (by decide) rfl (cn_ge (by omega) (by omega)) d20_10 (fun hc_10 => absurd hc_10 (by omega)) (fun hc_10 => ?_)
  refine ev_aload_n 14 rfl d20_13 rfl ?_
  refine ev_getr 17 rfl 2 4 d20_14 rfl (by omega) (G.1 _ _ (sp_judge (by omega)) (by omega) (by omega)) (G.2 _ _ _ (rf_alike (by omega))) ?_
  refine ev_iload_n 18 rfl d20_17 rfl ?_
  refine ev_iald_n (v := I (76 + 4 * j + 1) x) 19 rfl d20_18 (by omega) (G.1 _ _ (sp_alike (by omega)) (by omega) (by omega)) (by omega) (by decide) rfl ?_
  refine ev_iconst (v := (-1)) 20 rfl d20_19 (by decide) ?_
  refine ev_icmp 45 23 (by decide) rfl cz_eq d20_20 (fun hc_20 => ?_) (fun hc_20 => ?_)
  · refine ev_vret rfl d20_45 ?_
    exact ⟨rfl, _, rfl, fun _ => rfl, fun h => absurd hc_20 h⟩
  · refine ev_aload_n 24 rfl d20_23 rfl ?_
    refine ev_getr 27 rfl 2 4 d20_24 rfl (by omega) (G.1 _ _ (sp_judge (by omega)) (by omega) (by omega)) (G.2 _ _ _ (rf_alike (by omega))) ?_
    refine ev_iload_n 28 rfl d20_27 rfl ?_
    refine ev_iload_n 29 rfl d20_28 rfl ?_
    refine ev_if_F 43 32 (by decide) rfl (by decide) d20_29 ?_
    refine ev_aload_n 33 rfl d20_32 rfl ?_
    refine ev_getr 36 rfl 2 4 d20_33 rfl (by omega) (G.1 _ _ (sp_judge (by omega)) (by omega) (by omega)) (G.2 _ _ _ (rf_alike (by omega))) ?_
    refine ev_iload_n 37 rfl d20_36 rfl ?_
    refine ev_iald_n (v := I (76 + 4 * j + 1) x) 38 rfl d20_37 (by omega) (G.1 _ _ (sp_alike (by omega)) (by omega) (by omega)) (by omega) (by decide) rfl ?_
    refine ev_iconst (v := nI 1) 39 rfl d20_38 (by decide) ?_
    refine ev_iadd 40 rfl d20_39 rfl ?_
    refine ev_goto 44 (by decide) d20_40 ?_
    obtain ⟨I_1, hI_1⟩ : ∃ z, z = ai_ui I (76 + 4 * j + 1) x ((I (76 + 4 * j + 1) x) + (nI 1)) := ⟨_, rfl⟩
    refine ev_iast_n (I2 := I_1) 45 rfl d20_44 (by omega) (G.1 _ _ (sp_alike (by omega)) (by omega) (by omega)) (by omega) (by decide) hI_1.symm ?_
    refine ev_vret rfl d20_45 ?_
    exact ⟨rfl, _, rfl, fun h => absurd h hc_20, fun _ => hI_1⟩
theorem j_meet0 (G : ai_G S F) {j : Nat} (hj : j < 24) {x : Nat} (hx : x < 24) :
    ai_Ev none 20 0 [some (.ref (76 + 4 * j)), some (.int (nI x)), some (.int (nI 0))] [] (S, I, L, F) (ai_Pu S F L (fun I2 => (I (76 + 4 * j + 1) x = -1 → I2 = I) ∧ (I (76 + 4 * j + 1) x ≠ -1 → I2 = ai_ui I (76 + 4 * j + 1) x (-1)))) := by
  refine ev_iload_n 1 rfl d20_0 rfl ?_
  refine ev_if_F 45 4 (by decide) rfl (c0_ltF (by omega)) d20_1 ?_
  refine ev_iload_n 5 rfl d20_4 rfl ?_
  refine ev_aload_n 6 rfl d20_5 rfl ?_
  refine ev_getr 9 rfl 2 4 d20_6 rfl (by omega) (G.1 _ _ (sp_judge (by omega)) (by omega) (by omega)) (G.2 _ _ _ (rf_alike (by omega))) ?_
  refine ev_alen (v := nI 24) 10 rfl d20_9 (by omega) (by decide) (G.1 _ _ (sp_alike (by omega)) (by omega) (by omega)) rfl ?_
  refine ev_icmp 45 13 (by decide) rfl (cn_ge (by omega) (by omega)) d20_10 (fun hc_10 => absurd hc_10 (by omega)) (fun hc_10 => ?_)
  refine ev_aload_n 14 rfl d20_13 rfl ?_
  refine ev_getr 17 rfl 2 4 d20_14 rfl (by omega) (G.1 _ _ (sp_judge (by omega)) (by omega) (by omega)) (G.2 _ _ _ (rf_alike (by omega))) ?_
  refine ev_iload_n 18 rfl d20_17 rfl ?_
  refine ev_iald_n (v := I (76 + 4 * j + 1) x) 19 rfl d20_18 (by omega) (G.1 _ _ (sp_alike (by omega)) (by omega) (by omega)) (by omega) (by decide) rfl ?_
  refine ev_iconst (v := (-1)) 20 rfl d20_19 (by decide) ?_
  refine ev_icmp 45 23 (by decide) rfl cz_eq d20_20 (fun hc_20 => ?_) (fun hc_20 => ?_)
  · refine ev_vret rfl d20_45 ?_
    exact ⟨rfl, _, rfl, fun _ => rfl, fun h => absurd hc_20 h⟩
  · refine ev_aload_n 24 rfl d20_23 rfl ?_
    refine ev_getr 27 rfl 2 4 d20_24 rfl (by omega) (G.1 _ _ (sp_judge (by omega)) (by omega) (by omega)) (G.2 _ _ _ (rf_alike (by omega))) ?_
    refine ev_iload_n 28 rfl d20_27 rfl ?_
    refine ev_iload_n 29 rfl d20_28 rfl ?_
    refine ev_if_T 43 (by decide) (by decide) d20_29 ?_
    refine ev_iconst (v := (-1)) 44 rfl d20_43 (by decide) ?_
    obtain ⟨I_1, hI_1⟩ : ∃ z, z = ai_ui I (76 + 4 * j + 1) x (-1) := ⟨_, rfl⟩
    refine ev_iast_n (I2 := I_1) 45 rfl d20_44 (by omega) (G.1 _ _ (sp_alike (by omega)) (by omega) (by omega)) (by omega) (by decide) hI_1.symm ?_
    refine ev_vret rfl d20_45 ?_
    exact ⟨rfl, _, rfl, fun h => absurd h hc_20, fun _ => hI_1⟩
theorem j_top (G : ai_G S F) {j : Nat} (hj : j < 24) {q a b v : Nat} (hq : q < 5) (ha : a < 4) (hb : b < 4) (hv : v < 1000000) (h : I (76 + 4 * j + 2) ((q * 4 + a) * 4 + b) = nI v) :
    ai_Ev none 24 0 [some (.ref (76 + 4 * j)), some (.int (nI q)), some (.int (nI a)), some (.int (nI b)), none] [] (S, I, L, F) (ai_Pp S F I L (.int (nI (1 + v)))) := by
  refine ev_iload_n 1 rfl d24_0 rfl ?_
  refine ev_iconst (v := nI 4) 2 rfl d24_1 (by decide) ?_
  refine ev_imul (v := nI (q * 4)) 3 rfl d24_2 (pk_mul _ _) ?_
  refine ev_iload_n 4 rfl d24_3 rfl ?_
  refine ev_iadd (v := nI ((q * 4) + a)) 5 rfl d24_4 (nI_add _ _) ?_
  refine ev_iconst (v := nI 4) 6 rfl d24_5 (by decide) ?_
  refine ev_imul (v := nI (((q * 4) + a) * 4)) 7 rfl d24_6 (pk_mul _ _) ?_
  refine ev_iload_n 8 rfl d24_7 rfl ?_
  refine ev_iadd (v := nI ((((q * 4) + a) * 4) + b)) 9 rfl d24_8 (nI_add _ _) ?_
  refine ev_store_i 11 rfl d24_9 ⟨rfl, Nat.le_of_ble_eq_true rfl⟩ rfl ?_
  show ai_Ev _ _ _ [some (.ref (76 + 4 * j)), some (.int (nI q)), some (.int (nI a)), some (.int (nI b)), some (.int (nI ((((q * 4) + a) * 4) + b)))] _ _ _
  refine ev_iload 13 rfl d24_11 rfl ?_
  refine ev_if_F 38 16 (by decide) rfl (c0_ltF (by omega)) d24_13 ?_
  refine ev_iload 18 rfl d24_16 rfl ?_
  refine ev_aload_n 19 rfl d24_18 rfl ?_
  refine ev_getr 22 rfl 2 5 d24_19 rfl (by omega) (G.1 _ _ (sp_judge (by omega)) (by omega) (by omega)) (G.2 _ _ _ (rf_said (by omega))) ?_
  refine ev_alen (v := nI 80) 23 rfl d24_22 (by omega) (by decide) (G.1 _ _ (sp_said (by omega)) (by omega) (by omega)) rfl ?_
  refine ev_icmp 38 26 (by decide) rfl (cn_ge (by omega) (by omega)) d24_23 (fun hc_23 => absurd hc_23 (by omega)) (fun hc_23 => ?_)
  refine ev_iconst (v := nI 1) 27 rfl d24_26 (by decide) ?_
  refine ev_aload_n 28 rfl d24_27 rfl ?_
  refine ev_getr 31 rfl 2 5 d24_28 rfl (by omega) (G.1 _ _ (sp_judge (by omega)) (by omega) (by omega)) (G.2 _ _ _ (rf_said (by omega))) ?_
  refine ev_iload 33 rfl d24_31 rfl ?_
  refine ev_iald_n (v := nI v) 34 rfl d24_33 (by omega) (G.1 _ _ (sp_said (by omega)) (by omega) (by omega)) (by omega) (by decide) h ?_
  refine ev_iadd (v := nI (1 + v)) 35 rfl d24_34 (nI_add _ _) ?_
  refine ev_goto 39 (by decide) d24_35 ?_
  refine ev_iret (Or.inl rfl) d24_39 ?_
  exact ⟨rfl, rfl⟩
theorem j_bottom (G : ai_G S F) {j : Nat} (hj : j < 24) {q b u n : Nat} (hq : q < 5) (hb : b < 4) (hu : u < 1000000) (h2 : I (76 + 4 * j + 3) (q * 4 + b) = nI u) :
    ai_Ev none 25 0 [some (.ref (76 + 4 * j)), some (.int (nI q)), some (.int (nI b)), some (.int (nI n)), none] [] (S, I, L, F) (ai_Pp S F I L (.int (nI (n + u)))) := by
  refine ev_iload_n 1 rfl d25_0 rfl ?_
  refine ev_iconst (v := nI 4) 2 rfl d25_1 (by decide) ?_
  refine ev_imul (v := nI (q * 4)) 3 rfl d25_2 (pk_mul _ _) ?_
  refine ev_iload_n 4 rfl d25_3 rfl ?_
  refine ev_iadd (v := nI ((q * 4) + b)) 5 rfl d25_4 (nI_add _ _) ?_
  refine ev_store_i 7 rfl d25_5 ⟨rfl, Nat.le_of_ble_eq_true rfl⟩ rfl ?_
  show ai_Ev _ _ _ [some (.ref (76 + 4 * j)), some (.int (nI q)), some (.int (nI b)), some (.int (nI n)), some (.int (nI ((q * 4) + b)))] _ _ _
  refine ev_iload 9 rfl d25_7 rfl ?_
  refine ev_if_F 34 12 (by decide) rfl (c0_ltF (by omega)) d25_9 ?_
  refine ev_iload 14 rfl d25_12 rfl ?_
  refine ev_aload_n 15 rfl d25_14 rfl ?_
  refine ev_getr 18 rfl 2 6 d25_15 rfl (by omega) (G.1 _ _ (sp_judge (by omega)) (by omega) (by omega)) (G.2 _ _ _ (rf_sall (by omega))) ?_
  refine ev_alen (v := nI 20) 19 rfl d25_18 (by omega) (by decide) (G.1 _ _ (sp_sall (by omega)) (by omega) (by omega)) rfl ?_
  refine ev_icmp 34 22 (by decide) rfl (cn_ge (by omega) (by omega)) d25_19 (fun hc_19 => absurd hc_19 (by omega)) (fun hc_19 => ?_)
  refine ev_iload_n 23 rfl d25_22 rfl ?_
  refine ev_aload_n 24 rfl d25_23 rfl ?_
  refine ev_getr 27 rfl 2 6 d25_24 rfl (by omega) (G.1 _ _ (sp_judge (by omega)) (by omega) (by omega)) (G.2 _ _ _ (rf_sall (by omega))) ?_
  refine ev_iload 29 rfl d25_27 rfl ?_
  refine ev_iald_n (v := nI u) 30 rfl d25_29 (by omega) (G.1 _ _ (sp_sall (by omega)) (by omega) (by omega)) (by omega) (by decide) h2 ?_
  refine ev_iadd (v := nI (n + u)) 31 rfl d25_30 (nI_add _ _) ?_
  refine ev_goto 35 (by decide) d25_31 ?_
  refine ev_iret (Or.inl rfl) d25_35 ?_
  exact ⟨rfl, rfl⟩
theorem j_count (G : ai_G S F) {j : Nat} (hj : j < 24) {q a b v u : Nat} (hq : q < 5) (ha : a < 4) (hb : b < 4) (h : I (76 + 4 * j + 2) ((q * 4 + a) * 4 + b) = nI v) (h2 : I (76 + 4 * j + 3) (q * 4 + b) = nI u) :
    ai_Ev none 23 0 [some (.ref (76 + 4 * j)), some (.int (nI q)), some (.int (nI a)), some (.int (nI b)), none, none] [] (S, I, L, F) (ai_Pu S F L (fun I2 => I2 = ai_ui (ai_ui I (76 + 4 * j + 2) ((q * 4 + a) * 4 + b) (nI (v + 1))) (76 + 4 * j + 3) (q * 4 + b) (nI (u + 1)))) := by
  refine ev_iload_n 1 rfl d23_0 rfl ?_
  refine ev_iconst (v := nI 4) 2 rfl d23_1 (by decide) ?_
  refine ev_imul (v := nI (q * 4)) 3 rfl d23_2 (pk_mul _ _) ?_
  refine ev_iload_n 4 rfl d23_3 rfl ?_
  refine ev_iadd (v := nI ((q * 4) + a)) 5 rfl d23_4 (nI_add _ _) ?_
  refine ev_iconst (v := nI 4) 6 rfl d23_5 (by decide) ?_
  refine ev_imul (v := nI (((q * 4) + a) * 4)) 7 rfl d23_6 (pk_mul _ _) ?_
  refine ev_iload_n 8 rfl d23_7 rfl ?_
  refine ev_iadd (v := nI ((((q * 4) + a) * 4) + b)) 9 rfl d23_8 (nI_add _ _) ?_
  refine ev_store_i 11 rfl d23_9 ⟨rfl, Nat.le_of_ble_eq_true rfl⟩ rfl ?_
  show ai_Ev _ _ _ [some (.ref (76 + 4 * j)), some (.int (nI q)), some (.int (nI a)), some (.int (nI b)), some (.int (nI ((((q * 4) + a) * 4) + b))), none] _ _ _
  refine ev_iload_n 12 rfl d23_11 rfl ?_
  refine ev_iconst (v := nI 4) 13 rfl d23_12 (by decide) ?_
  refine ev_imul (v := nI (q * 4)) 14 rfl d23_13 (pk_mul _ _) ?_
  refine ev_iload_n 15 rfl d23_14 rfl ?_
  refine ev_iadd (v := nI ((q * 4) + b)) 16 rfl d23_15 (nI_add _ _) ?_
  refine ev_store_i 18 rfl d23_16 ⟨rfl, Nat.le_of_ble_eq_true rfl⟩ rfl ?_
  show ai_Ev _ _ _ [some (.ref (76 + 4 * j)), some (.int (nI q)), some (.int (nI a)), some (.int (nI b)), some (.int (nI ((((q * 4) + a) * 4) + b))), some (.int (nI ((q * 4) + b)))] _ _ _
  refine ev_iload 20 rfl d23_18 rfl ?_
  refine ev_if_F 70 23 (by decide) rfl (c0_ltF (by omega)) d23_20 ?_
  refine ev_iload 25 rfl d23_23 rfl ?_
  refine ev_aload_n 26 rfl d23_25 rfl ?_
  refine ev_getr 29 rfl 2 5 d23_26 rfl (by omega) (G.1 _ _ (sp_judge (by omega)) (by omega) (by omega)) (G.2 _ _ _ (rf_said (by omega))) ?_
  refine ev_alen (v := nI 80) 30 rfl d23_29 (by omega) (by decide) (G.1 _ _ (sp_said (by omega)) (by omega) (by omega)) rfl ?_
  refine ev_icmp 70 33 (by decide) rfl (cn_ge (by omega) (by omega)) d23_30 (fun hc_30 => absurd hc_30 (by omega)) (fun hc_30 => ?_)
  refine ev_iload 35 rfl d23_33 rfl ?_
  refine ev_if_F 70 38 (by decide) rfl (c0_ltF (by omega)) d23_35 ?_
  refine ev_iload 40 rfl d23_38 rfl ?_
  refine ev_aload_n 41 rfl d23_40 rfl ?_
  refine ev_getr 44 rfl 2 6 d23_41 rfl (by omega) (G.1 _ _ (sp_judge (by omega)) (by omega) (by omega)) (G.2 _ _ _ (rf_sall (by omega))) ?_
  refine ev_alen (v := nI 20) 45 rfl d23_44 (by omega) (by decide) (G.1 _ _ (sp_sall (by omega)) (by omega) (by omega)) rfl ?_
  refine ev_icmp 70 48 (by decide) rfl (cn_ge (by omega) (by omega)) d23_45 (fun hc_45 => absurd hc_45 (by omega)) (fun hc_45 => ?_)
  refine ev_aload_n 49 rfl d23_48 rfl ?_
  refine ev_getr 52 rfl 2 5 d23_49 rfl (by omega) (G.1 _ _ (sp_judge (by omega)) (by omega) (by omega)) (G.2 _ _ _ (rf_said (by omega))) ?_
  refine ev_iload 54 rfl d23_52 rfl ?_
  refine ev_dup2 55 rfl d23_54 ⟨rfl, rfl⟩ ?_
  refine ev_iald_n (v := nI v) 56 rfl d23_55 (by omega) (G.1 _ _ (sp_said (by omega)) (by omega) (by omega)) (by omega) (by decide) h ?_
  refine ev_iconst (v := nI 1) 57 rfl d23_56 (by decide) ?_
  refine ev_iadd (v := nI (v + 1)) 58 rfl d23_57 (nI_add _ _) ?_
  obtain ⟨I_1, hI_1⟩ : ∃ z, z = ai_ui I (76 + 4 * j + 2) ((((q * 4) + a) * 4) + b) (nI (v + 1)) := ⟨_, rfl⟩
  refine ev_iast_n (I2 := I_1) 59 rfl d23_58 (by omega) (G.1 _ _ (sp_said (by omega)) (by omega) (by omega)) (by omega) (by decide) hI_1.symm ?_
  refine ev_aload_n 60 rfl d23_59 rfl ?_
  refine ev_getr 63 rfl 2 6 d23_60 rfl (by omega) (G.1 _ _ (sp_judge (by omega)) (by omega) (by omega)) (G.2 _ _ _ (rf_sall (by omega))) ?_
  refine ev_iload 65 rfl d23_63 rfl ?_
  refine ev_dup2 66 rfl d23_65 ⟨rfl, rfl⟩ ?_
  refine ev_iald_n (v := nI u) 67 rfl d23_66 (by omega) (G.1 _ _ (sp_sall (by omega)) (by omega) (by omega)) (by omega) (by decide) (by rw [ui_row hI_1 (by omega)]; exact h2) ?_
  refine ev_iconst (v := nI 1) 68 rfl d23_67 (by decide) ?_
  refine ev_iadd (v := nI (u + 1)) 69 rfl d23_68 (nI_add _ _) ?_
  obtain ⟨I_2, hI_2⟩ : ∃ z, z = ai_ui I_1 (76 + 4 * j + 3) ((q * 4) + b) (nI (u + 1)) := ⟨_, rfl⟩
  refine ev_iast_n (I2 := I_2) 70 rfl d23_69 (by omega) (G.1 _ _ (sp_sall (by omega)) (by omega) (by omega)) (by omega) (by decide) hI_2.symm ?_
  refine ev_vret rfl d23_70 ?_
  exact ⟨rfl, _, rfl, by rw [hI_2, hI_1]⟩
theorem j_factor_loop (G : ai_G S F) {j : Nat} (hj : j < 24) {q a b n v : Nat} {U : Nat → Nat} (hq : q < 5) (ha : a < 4) (hb : b < 4) (hn : n ≤ 4) (hv : v < 1000000) (hU : ∀ o, o < 4 → U o < 1000000) (h : I (76 + 4 * j + 2) ((q * 4 + a) * 4 + b) = nI v) (hB : ∀ o, o < 4 → I (76 + 4 * j + 3) (q * 4 + o) = nI (U o)) : ∀ (z o : Nat), o + z = n → 
    ai_Ev none 26 12 [some (.ref (76 + 4 * j)), some (.int (nI q)), some (.int (nI a)), some (.int (nI b)), some (.int (nI n)), some (.int (nI ((1 + v) * ai_qp (fun x => if x = b then 1 else n + U x) o))), some (.int (nI o))] [] (S, I, L, F) (ai_Pp S F I L (.int (nI ((1 + v) * ai_qp (fun x => if x = b then 1 else n + U x) n)))) := by
  intro z
  induction z with
  | zero =>
    intro o hz
    refine ev_iload 14 rfl d26_12 rfl ?_
    refine ev_iload 16 rfl d26_14 rfl ?_
    refine ev_icmp 45 19 (by decide) rfl (cn_ge (by omega) (by omega)) d26_16 (fun hc_16 => ?_) (fun hc_16 => absurd hc_16 (by omega))
    refine ev_iload 47 rfl d26_45 rfl ?_
    refine ev_iret (Or.inl rfl) d26_47 ?_
    have e : o = n := by omega
    subst e
    exact ⟨rfl, rfl⟩
  | succ z ih =>
    intro o hz
    refine ev_iload 14 rfl d26_12 rfl ?_
    refine ev_iload 16 rfl d26_14 rfl ?_
    refine ev_icmp 45 19 (by decide) rfl (cn_ge (by omega) (by omega)) d26_16 (fun hc_16 => absurd hc_16 (by omega)) (fun hc_16 => ?_)
    refine ev_iload 21 rfl d26_19 rfl ?_
    refine ev_iload_n 22 rfl d26_21 rfl ?_
    refine ev_icmp 39 25 (by decide) rfl (cn_eq (by omega) (by omega)) d26_22 (fun hc_22 => ?_) (fun hc_22 => ?_)
    · refine ev_iinc (v := nI (o + 1)) 42 rfl d26_39 rfl (Nat.le_of_ble_eq_true rfl) (nI_add _ 1) rfl ?_
      show ai_Ev _ _ _ [some (.ref (76 + 4 * j)), some (.int (nI q)), some (.int (nI a)), some (.int (nI b)), some (.int (nI n)), some (.int (nI ((1 + v) * ai_qp (fun x => if x = b then 1 else n + U x) o))), some (.int (nI (o + 1)))] _ _ _
      refine ev_goto 12 (by decide) d26_42 ?_
      have e9 : (1 + v) * ai_qp (fun x => if x = b then 1 else n + U x) (o + 1) = (1 + v) * ai_qp (fun x => if x = b then 1 else n + U x) o := by
        show (1 + v) * (ai_qp (fun x => if x = b then 1 else n + U x) o * (if o = b then 1 else n + U o)) = _
        rw [if_pos hc_22, Nat.mul_one]
      have k9 := ih (o + 1) (by omega)
      rw [e9] at k9
      exact k9
    · refine ev_iload 27 rfl d26_25 rfl ?_
      refine ev_aload_n 28 rfl d26_27 rfl ?_
      refine ev_iload_n 29 rfl d26_28 rfl ?_
      refine ev_iload 31 rfl d26_29 rfl ?_
      refine ev_iload 33 rfl d26_31 rfl ?_
      refine ev_cp3 36 rfl 25 d26_33 rfl rfl (by rw [G.1 _ _ (sp_judge (by omega)) (by omega) (by omega)]; rfl) (by omega) rfl (j_bottom G hj hq (by omega) (hU _ (by omega)) (hB _ (by omega))) ?_
      refine ev_imul (v := nI (((1 + v) * ai_qp (fun x => if x = b then 1 else n + U x) o) * (n + U o))) 37 rfl d26_36 (pk_mul _ _) ?_
      refine ev_store_i 39 rfl d26_37 ⟨rfl, Nat.le_of_ble_eq_true rfl⟩ rfl ?_
      show ai_Ev _ _ _ [some (.ref (76 + 4 * j)), some (.int (nI q)), some (.int (nI a)), some (.int (nI b)), some (.int (nI n)), some (.int (nI (((1 + v) * ai_qp (fun x => if x = b then 1 else n + U x) o) * (n + U o)))), some (.int (nI o))] _ _ _
      refine ev_iinc (v := nI (o + 1)) 42 rfl d26_39 rfl (Nat.le_of_ble_eq_true rfl) (nI_add _ 1) rfl ?_
      show ai_Ev _ _ _ [some (.ref (76 + 4 * j)), some (.int (nI q)), some (.int (nI a)), some (.int (nI b)), some (.int (nI n)), some (.int (nI (((1 + v) * ai_qp (fun x => if x = b then 1 else n + U x) o) * (n + U o)))), some (.int (nI (o + 1)))] _ _ _
      refine ev_goto 12 (by decide) d26_42 ?_
      have e9 : (1 + v) * ai_qp (fun x => if x = b then 1 else n + U x) (o + 1) = ((1 + v) * ai_qp (fun x => if x = b then 1 else n + U x) o) * (n + U o) := by
        show (1 + v) * (ai_qp (fun x => if x = b then 1 else n + U x) o * (if o = b then 1 else n + U o)) = _
        rw [if_neg hc_22, ← Nat.mul_assoc]
      have k9 := ih (o + 1) (by omega)
      rw [e9] at k9
      exact k9
theorem j_factor (G : ai_G S F) {j : Nat} (hj : j < 24) {q a b n v : Nat} {U : Nat → Nat} (hq : q < 5) (ha : a < 4) (hb : b < 4) (hn : n ≤ 4) (hv : v < 1000000) (hU : ∀ o, o < 4 → U o < 1000000) (h : I (76 + 4 * j + 2) ((q * 4 + a) * 4 + b) = nI v) (hB : ∀ o, o < 4 → I (76 + 4 * j + 3) (q * 4 + o) = nI (U o))
    : ai_Ev none 26 0 [some (.ref (76 + 4 * j)), some (.int (nI q)), some (.int (nI a)), some (.int (nI b)), some (.int (nI n)), none, none] [] (S, I, L, F) (ai_Pp S F I L (.int (nI ((1 + v) * ai_qp (fun x => if x = b then 1 else n + U x) n)))) := by
  refine ev_aload_n 1 rfl d26_0 rfl ?_
  refine ev_iload_n 2 rfl d26_1 rfl ?_
  refine ev_iload_n 3 rfl d26_2 rfl ?_
  refine ev_iload_n 4 rfl d26_3 rfl ?_
  refine ev_cp3 7 rfl 24 d26_4 rfl rfl (by rw [G.1 _ _ (sp_judge (by omega)) (by omega) (by omega)]; rfl) (by omega) rfl (j_top G hj hq ha hb hv h) ?_
  refine ev_store_i 9 rfl d26_7 ⟨rfl, Nat.le_of_ble_eq_true rfl⟩ rfl ?_
  show ai_Ev _ _ _ [some (.ref (76 + 4 * j)), some (.int (nI q)), some (.int (nI a)), some (.int (nI b)), some (.int (nI n)), some (.int (nI (1 + v))), none] _ _ _
  refine ev_iconst (v := nI 0) 10 rfl d26_9 (by decide) ?_
  refine ev_store_i 12 rfl d26_10 ⟨rfl, Nat.le_of_ble_eq_true rfl⟩ rfl ?_
  show ai_Ev _ _ _ [some (.ref (76 + 4 * j)), some (.int (nI q)), some (.int (nI a)), some (.int (nI b)), some (.int (nI n)), some (.int (nI (1 + v))), some (.int (nI 0))] _ _ _
  have k9 := j_factor_loop (L := L) G hj hq ha hb hn hv hU h hB n 0 (by omega)
  rw [show (1 + v) * ai_qp (fun x => if x = b then 1 else n + U x) 0 = 1 + v from Nat.mul_one _] at k9
  exact k9
theorem j_product_loop (G : ai_G S F) {j : Nat} (hj : j < 24) {q n : Nat} {U : Nat → Nat} (hq : q < 5) (hn : n ≤ 4) (hU : ∀ o, o < 4 → U o < 1000000) (hB : ∀ o, o < 4 → I (76 + 4 * j + 3) (q * 4 + o) = nI (U o)) : ∀ (z o : Nat), o + z = n → 
    ai_Ev none 27 5 [some (.ref (76 + 4 * j)), some (.int (nI q)), some (.int (nI n)), some (.int (nI (ai_qp (fun x => n + U x) o))), some (.int (nI o))] [] (S, I, L, F) (ai_Pp S F I L (.int (nI (ai_qp (fun x => n + U x) n)))) := by
  intro z
  induction z with
  | zero =>
    intro o hz
    refine ev_iload 7 rfl d27_5 rfl ?_
    refine ev_iload_n 8 rfl d27_7 rfl ?_
    refine ev_icmp 28 11 (by decide) rfl (cn_ge (by omega) (by omega)) d27_8 (fun hc_8 => ?_) (fun hc_8 => absurd hc_8 (by omega))
    refine ev_iload_n 29 rfl d27_28 rfl ?_
    refine ev_iret (Or.inl rfl) d27_29 ?_
    have e : o = n := by omega
    subst e
    exact ⟨rfl, rfl⟩
  | succ z ih =>
    intro o hz
    refine ev_iload 7 rfl d27_5 rfl ?_
    refine ev_iload_n 8 rfl d27_7 rfl ?_
    refine ev_icmp 28 11 (by decide) rfl (cn_ge (by omega) (by omega)) d27_8 (fun hc_8 => absurd hc_8 (by omega)) (fun hc_8 => ?_)
    refine ev_iload_n 12 rfl d27_11 rfl ?_
    refine ev_aload_n 13 rfl d27_12 rfl ?_
    refine ev_iload_n 14 rfl d27_13 rfl ?_
    refine ev_iload 16 rfl d27_14 rfl ?_
    refine ev_iload_n 17 rfl d27_16 rfl ?_
    refine ev_cp3 20 rfl 25 d27_17 rfl rfl (by rw [G.1 _ _ (sp_judge (by omega)) (by omega) (by omega)]; rfl) (by omega) rfl (j_bottom G hj hq (by omega) (hU _ (by omega)) (hB _ (by omega))) ?_
    refine ev_imul (v := nI ((ai_qp (fun x => n + U x) o) * (n + U o))) 21 rfl d27_20 (pk_mul _ _) ?_
    refine ev_store_in 22 rfl d27_21 (Nat.le_of_ble_eq_true rfl) rfl ?_
    show ai_Ev _ _ _ [some (.ref (76 + 4 * j)), some (.int (nI q)), some (.int (nI n)), some (.int (nI ((ai_qp (fun x => n + U x) o) * (n + U o)))), some (.int (nI o))] _ _ _
    refine ev_iinc (v := nI (o + 1)) 25 rfl d27_22 rfl (Nat.le_of_ble_eq_true rfl) (nI_add _ 1) rfl ?_
    show ai_Ev _ _ _ [some (.ref (76 + 4 * j)), some (.int (nI q)), some (.int (nI n)), some (.int (nI ((ai_qp (fun x => n + U x) o) * (n + U o)))), some (.int (nI (o + 1)))] _ _ _
    refine ev_goto 5 (by decide) d27_25 ?_
    exact ih (o + 1) (by omega)
theorem j_product (G : ai_G S F) {j : Nat} (hj : j < 24) {q n : Nat} {U : Nat → Nat} (hq : q < 5) (hn : n ≤ 4) (hU : ∀ o, o < 4 → U o < 1000000) (hB : ∀ o, o < 4 → I (76 + 4 * j + 3) (q * 4 + o) = nI (U o))
    : ai_Ev none 27 0 [some (.ref (76 + 4 * j)), some (.int (nI q)), some (.int (nI n)), none, none] [] (S, I, L, F) (ai_Pp S F I L (.int (nI (ai_qp (fun x => n + U x) n)))) := by
  refine ev_iconst (v := nI 1) 1 rfl d27_0 (by decide) ?_
  refine ev_store_in 2 rfl d27_1 (Nat.le_of_ble_eq_true rfl) rfl ?_
  show ai_Ev _ _ _ [some (.ref (76 + 4 * j)), some (.int (nI q)), some (.int (nI n)), some (.int (nI 1)), none] _ _ _
  refine ev_iconst (v := nI 0) 3 rfl d27_2 (by decide) ?_
  refine ev_store_i 5 rfl d27_3 ⟨rfl, Nat.le_of_ble_eq_true rfl⟩ rfl ?_
  show ai_Ev _ _ _ [some (.ref (76 + 4 * j)), some (.int (nI q)), some (.int (nI n)), some (.int (nI 1)), some (.int (nI 0))] _ _ _
  exact j_product_loop G hj hq hn hU hB n 0 (by omega)
theorem j_clear2 (G : ai_G S F) {j : Nat} (hj : j < 24) {I0 : Nat → Nat → Int32} : ∀ (z i : Nat) (I : Nat → Nat → Int32), i + z = 20 → (∀ k, k < 80 → I (76 + 4 * j + 2) k = nI 0) → (∀ k, k < i → I (76 + 4 * j + 3) k = nI 0) → (∀ a, a ≠ 76 + 4 * j + 2 → a ≠ 76 + 4 * j + 3 → I a = I0 a) →
    ai_Ev none 22 26 [some (.ref (76 + 4 * j)), some (.int (nI i))] [] (S, I, L, F) (ai_Pu S F L (fun I2 => (∀ i, i < 80 → I2 (76 + 4 * j + 2) i = nI 0) ∧ (∀ i, i < 20 → I2 (76 + 4 * j + 3) i = nI 0) ∧ ∀ a, a ≠ 76 + 4 * j + 2 → a ≠ 76 + 4 * j + 3 → I2 a = I0 a)) := by
  intro z
  induction z with
  | zero =>
    intro i I hz hA hB hf
    refine ev_iload_n 27 rfl d22_26 rfl ?_
    refine ev_aload_n 28 rfl d22_27 rfl ?_
    refine ev_getr 31 rfl 2 6 d22_28 rfl (by omega) (G.1 _ _ (sp_judge (by omega)) (by omega) (by omega)) (G.2 _ _ _ (rf_sall (by omega))) ?_
    refine ev_alen (v := nI 20) 32 rfl d22_31 (by omega) (by decide) (G.1 _ _ (sp_sall (by omega)) (by omega) (by omega)) rfl ?_
    refine ev_icmp 48 35 (by decide) rfl (cn_ge (by omega) (by omega)) d22_32 (fun hc_32 => ?_) (fun hc_32 => absurd hc_32 (by omega))
    refine ev_vret rfl d22_48 ?_
    exact ⟨rfl, _, rfl, hA, fun i hi => hB i (by omega), hf⟩
  | succ z ih =>
    intro i I hz hA hB hf
    refine ev_iload_n 27 rfl d22_26 rfl ?_
    refine ev_aload_n 28 rfl d22_27 rfl ?_
    refine ev_getr 31 rfl 2 6 d22_28 rfl (by omega) (G.1 _ _ (sp_judge (by omega)) (by omega) (by omega)) (G.2 _ _ _ (rf_sall (by omega))) ?_
    refine ev_alen (v := nI 20) 32 rfl d22_31 (by omega) (by decide) (G.1 _ _ (sp_sall (by omega)) (by omega) (by omega)) rfl ?_
    refine ev_icmp 48 35 (by decide) rfl (cn_ge (by omega) (by omega)) d22_32 (fun hc_32 => absurd hc_32 (by omega)) (fun hc_32 => ?_)
    refine ev_aload_n 36 rfl d22_35 rfl ?_
    refine ev_getr 39 rfl 2 6 d22_36 rfl (by omega) (G.1 _ _ (sp_judge (by omega)) (by omega) (by omega)) (G.2 _ _ _ (rf_sall (by omega))) ?_
    refine ev_iload_n 40 rfl d22_39 rfl ?_
    refine ev_iconst (v := nI 0) 41 rfl d22_40 (by decide) ?_
    obtain ⟨I_1, hI_1⟩ : ∃ z, z = ai_ui I (76 + 4 * j + 3) i (nI 0) := ⟨_, rfl⟩
    refine ev_iast_n (I2 := I_1) 42 rfl d22_41 (by omega) (G.1 _ _ (sp_sall (by omega)) (by omega) (by omega)) (by omega) (by decide) hI_1.symm ?_
    refine ev_iinc (v := nI (i + 1)) 45 rfl d22_42 rfl (Nat.le_of_ble_eq_true rfl) (nI_add _ 1) rfl ?_
    show ai_Ev _ _ _ [some (.ref (76 + 4 * j)), some (.int (nI (i + 1)))] _ _ _
    refine ev_goto 26 (by decide) d22_45 ?_
    refine ih (i + 1) I_1 (by omega) ?_ ?_ ?_
    · intro k hk
      rw [ui_row hI_1 (by omega)]; exact hA k hk
    · intro k hk
      by_cases z9 : k = i
      · subst z9; exact ui_same hI_1
      · rw [ui_other hI_1 (Or.inr z9)]; exact hB k (by omega)
    · intro a h1 h2
      rw [ui_row hI_1 (by omega)]; exact hf a h1 h2
theorem j_clear1 (G : ai_G S F) {j : Nat} (hj : j < 24) {I0 : Nat → Nat → Int32} : ∀ (z i : Nat) (I : Nat → Nat → Int32), i + z = 80 → (∀ k, k < i → I (76 + 4 * j + 2) k = nI 0) → True → (∀ a, a ≠ 76 + 4 * j + 2 → a ≠ 76 + 4 * j + 3 → I a = I0 a) →
    ai_Ev none 22 2 [some (.ref (76 + 4 * j)), some (.int (nI i))] [] (S, I, L, F) (ai_Pu S F L (fun I2 => (∀ i, i < 80 → I2 (76 + 4 * j + 2) i = nI 0) ∧ (∀ i, i < 20 → I2 (76 + 4 * j + 3) i = nI 0) ∧ ∀ a, a ≠ 76 + 4 * j + 2 → a ≠ 76 + 4 * j + 3 → I2 a = I0 a)) := by
  intro z
  induction z with
  | zero =>
    intro i I hz hA hB hf
    refine ev_iload_n 3 rfl d22_2 rfl ?_
    refine ev_aload_n 4 rfl d22_3 rfl ?_
    refine ev_getr 7 rfl 2 5 d22_4 rfl (by omega) (G.1 _ _ (sp_judge (by omega)) (by omega) (by omega)) (G.2 _ _ _ (rf_said (by omega))) ?_
    refine ev_alen (v := nI 80) 8 rfl d22_7 (by omega) (by decide) (G.1 _ _ (sp_said (by omega)) (by omega) (by omega)) rfl ?_
    refine ev_icmp 24 11 (by decide) rfl (cn_ge (by omega) (by omega)) d22_8 (fun hc_8 => ?_) (fun hc_8 => absurd hc_8 (by omega))
    refine ev_iconst (v := nI 0) 25 rfl d22_24 (by decide) ?_
    refine ev_store_in 26 rfl d22_25 (Nat.le_of_ble_eq_true rfl) rfl ?_
    show ai_Ev _ _ _ [some (.ref (76 + 4 * j)), some (.int (nI 0))] _ _ _
    exact j_clear2 G hj 20 0 I (by omega) (fun k hk => hA k (by omega)) (fun k hk => absurd hk (by omega)) hf
  | succ z ih =>
    intro i I hz hA hB hf
    refine ev_iload_n 3 rfl d22_2 rfl ?_
    refine ev_aload_n 4 rfl d22_3 rfl ?_
    refine ev_getr 7 rfl 2 5 d22_4 rfl (by omega) (G.1 _ _ (sp_judge (by omega)) (by omega) (by omega)) (G.2 _ _ _ (rf_said (by omega))) ?_
    refine ev_alen (v := nI 80) 8 rfl d22_7 (by omega) (by decide) (G.1 _ _ (sp_said (by omega)) (by omega) (by omega)) rfl ?_
    refine ev_icmp 24 11 (by decide) rfl (cn_ge (by omega) (by omega)) d22_8 (fun hc_8 => absurd hc_8 (by omega)) (fun hc_8 => ?_)
    refine ev_aload_n 12 rfl d22_11 rfl ?_
    refine ev_getr 15 rfl 2 5 d22_12 rfl (by omega) (G.1 _ _ (sp_judge (by omega)) (by omega) (by omega)) (G.2 _ _ _ (rf_said (by omega))) ?_
    refine ev_iload_n 16 rfl d22_15 rfl ?_
    refine ev_iconst (v := nI 0) 17 rfl d22_16 (by decide) ?_
    obtain ⟨I_1, hI_1⟩ : ∃ z, z = ai_ui I (76 + 4 * j + 2) i (nI 0) := ⟨_, rfl⟩
    refine ev_iast_n (I2 := I_1) 18 rfl d22_17 (by omega) (G.1 _ _ (sp_said (by omega)) (by omega) (by omega)) (by omega) (by decide) hI_1.symm ?_
    refine ev_iinc (v := nI (i + 1)) 21 rfl d22_18 rfl (Nat.le_of_ble_eq_true rfl) (nI_add _ 1) rfl ?_
    show ai_Ev _ _ _ [some (.ref (76 + 4 * j)), some (.int (nI (i + 1)))] _ _ _
    refine ev_goto 2 (by decide) d22_21 ?_
    refine ih (i + 1) I_1 (by omega) ?_ ?_ ?_
    · intro k hk
      by_cases z9 : k = i
      · subst z9; exact ui_same hI_1
      · rw [ui_other hI_1 (Or.inr z9)]; exact hA k (by omega)
    · trivial
    · intro a h1 h2
      rw [ui_row hI_1 (by omega)]; exact hf a h1 h2
theorem j_clear (G : ai_G S F) {j : Nat} (hj : j < 24)
    : ai_Ev none 22 0 [some (.ref (76 + 4 * j)), none] [] (S, I, L, F) (ai_Pu S F L (fun I2 => (∀ i, i < 80 → I2 (76 + 4 * j + 2) i = nI 0) ∧ (∀ i, i < 20 → I2 (76 + 4 * j + 3) i = nI 0) ∧ ∀ a, a ≠ 76 + 4 * j + 2 → a ≠ 76 + 4 * j + 3 → I2 a = I a)) := by
  refine ev_iconst (v := nI 0) 1 rfl d22_0 (by decide) ?_
  refine ev_store_in 2 rfl d22_1 (Nat.le_of_ble_eq_true rfl) rfl ?_
  show ai_Ev _ _ _ [some (.ref (76 + 4 * j)), some (.int (nI 0))] _ _ _
  exact j_clear1 G hj 80 0 I (by omega) (fun k hk => absurd hk (by omega)) trivial (fun _ _ _ => rfl)
end CASE
