section ODDS
variable {S : List (Nat × Nat)} {F : Nat → Nat → Option Nat} {L : Nat → Nat → Int64}
def ai_fo (I I2 : Nat → Nat → Int32) : Prop := ∀ z, (z < 8 ∨ 24 ≤ z) → I2 z = I z
/-- the odds: so many answers, the truth, the looks, the weights -/
def ai_OS (I : Nat → Nat → Int32) (n t k : Nat) (W : Nat → Nat) : Prop := I 8 4 = nI n ∧ I 8 5 = nI t - 1 ∧ I 8 6 = nI k ∧ ∀ b, b < n → ai_BG I (16 + 2 * b) 16 (W b)

theorem o_start_loop (G : ai_G S F) {n t : Nat} (hn : n ≤ 4) (ht : t ≤ 4) {I0 : Nat → Nat → Int32} : ∀ (z b : Nat) (I : Nat → Nat → Int32), b + z = n → I 8 4 = nI n → I 8 5 = nI t - 1 → I 8 6 = nI 0 → (∀ x, x < b → ai_BG I (16 + 2 * x) 16 ((fun x => if t = 0 ∨ t = x + 1 then 1 else 0) x)) → (∀ z, (z < 8 ∨ 24 ≤ z) → I z = I0 z) →
    ai_Ev none 29 21 [some (.ref 8), some (.int (nI n)), some (.int (nI t - 1)), some (.int (nI b))] [] (S, I, L, F) (ai_Pu S F L (fun I2 => ai_OS I2 n t 0 (fun x => if t = 0 ∨ t = x + 1 then 1 else 0) ∧ ai_fo I0 I2)) := by
  intro z
  induction z with
  | zero =>
    intro b I hz g4 g5 g6 hw hf
    refine ev_iload_n 22 rfl d29_21 rfl ?_
    refine ev_aload_n 23 rfl d29_22 rfl ?_
    refine ev_geti (v := nI n) 26 rfl 3 4 d29_23 rfl (by omega) (G.1 _ _ (rfl : ai_sp 8 = (3, 0)) (by decide) (by decide)) g4 ?_
    refine ev_icmp 65 29 (by decide) rfl (cn_ge (by omega) (by omega)) d29_26 (fun hc_26 => ?_) (fun hc_26 => absurd hc_26 (by omega))
    refine ev_vret rfl d29_65 ?_
    have e : b = n := by omega
    subst e
    exact ⟨rfl, _, rfl, ⟨g4, g5, g6, hw⟩, hf⟩
  | succ z ih =>
    intro b I hz g4 g5 g6 hw hf
    refine ev_iload_n 22 rfl d29_21 rfl ?_
    refine ev_aload_n 23 rfl d29_22 rfl ?_
    refine ev_geti (v := nI n) 26 rfl 3 4 d29_23 rfl (by omega) (G.1 _ _ (rfl : ai_sp 8 = (3, 0)) (by decide) (by decide)) g4 ?_
    refine ev_icmp 65 29 (by decide) rfl (cn_ge (by omega) (by omega)) d29_26 (fun hc_26 => absurd hc_26 (by omega)) (fun hc_26 => ?_)
    refine ev_aload_n 30 rfl d29_29 rfl ?_
    refine ev_getr 33 rfl 3 0 d29_30 rfl (by omega) (G.1 _ _ (rfl : ai_sp 8 = (3, 0)) (by decide) (by decide)) (G.2 _ _ _ (rfl : ai_rf 8 0 = some 9)) ?_
    refine ev_iload_n 34 rfl d29_33 rfl ?_
    refine ev_aald_n 35 rfl d29_34 (by omega) (by decide) (G.1 _ _ (rfl : ai_sp 9 = (108, 4)) (by decide) (by decide)) (by omega) (by decide) (G.2 _ _ _ (rf_weight (by omega))) ?_
    refine ev_aload_n 36 rfl d29_35 rfl ?_
    refine ev_geti (v := nI t - 1) 39 rfl 3 5 d29_36 rfl (by omega) (G.1 _ _ (rfl : ai_sp 8 = (3, 0)) (by decide) (by decide)) g5 ?_
    refine ev_iconst (v := (-1)) 40 rfl d29_39 (by decide) ?_
    refine ev_icmp 51 43 (by decide) rfl (cq_eq (by omega)) d29_40 (fun hc_40 => ?_) (fun hc_40 => ?_)
    · refine ev_iconst (v := nI 1) 52 rfl d29_51 (by decide) ?_
      refine ev_goto 56 (by decide) d29_52 ?_
      refine ev_cu1 59 rfl 1 d29_56 rfl rfl (by rw [G.1 _ _ (big_w (b := b) (by omega)).1 (big_w (b := b) (by omega)).2.2.2.1 (by have := (big_w (b := b) (by omega)).2.2.2.2; omega)]; rfl) (big_w (b := b) (by omega)).2.2.2.1 rfl (big_set G (big_w (b := b) (by omega)) (by decide) (by decide) (m := 1) (by omega)) (fun I_1 hr_56 => ?_)
      obtain ⟨b_2, f_3⟩ := hr_56
      have f_4 : ∀ z, (z < 8 ∨ 24 ≤ z) → I_1 z = I0 z := fun z hz => (f_3 z (by omega)).trans (hf z hz)
      have g_5 : I_1 8 4 = nI n := by rw [f_3 _ (by omega)]; exact g4
      have g_6 : I_1 8 5 = nI t - 1 := by rw [f_3 _ (by omega)]; exact g5
      have g_7 : I_1 8 6 = nI 0 := by rw [f_3 _ (by omega)]; exact g6
      refine ev_iinc (v := nI (b + 1)) 62 rfl d29_59 rfl (Nat.le_of_ble_eq_true rfl) (nI_add _ 1) rfl ?_
      show ai_Ev _ _ _ [some (.ref 8), some (.int (nI n)), some (.int (nI t - 1)), some (.int (nI (b + 1)))] _ _ _
      refine ev_goto 21 (by decide) d29_62 ?_
      refine ih (b + 1) I_1 (by omega) g_5 g_6 g_7 ?_ f_4
      intro x hx
      by_cases z9 : x = b
      · subst z9
        show ai_BG _ _ _ (if t = 0 ∨ t = x + 1 then 1 else 0)
        first | (rw [if_pos (by omega)]; exact b_2) | (rw [if_neg (by omega)]; exact b_2)
      · exact (hw x (by omega)).eq (f_3 _ (by omega)) (f_3 _ (by omega))
    · refine ev_aload_n 44 rfl d29_43 rfl ?_
      refine ev_geti (v := nI t - 1) 47 rfl 3 5 d29_44 rfl (by omega) (G.1 _ _ (rfl : ai_sp 8 = (3, 0)) (by decide) (by decide)) g5 ?_
      refine ev_iload_n 48 rfl d29_47 rfl ?_
      refine ev_icmp 55 51 (by decide) rfl (cmn_ne (by omega) (by omega)) d29_48 (fun hc_48 => ?_) (fun hc_48 => ?_)
      · refine ev_iconst (v := nI 0) 56 rfl d29_55 (by decide) ?_
        refine ev_cu1 59 rfl 1 d29_56 rfl rfl (by rw [G.1 _ _ (big_w (b := b) (by omega)).1 (big_w (b := b) (by omega)).2.2.2.1 (by have := (big_w (b := b) (by omega)).2.2.2.2; omega)]; rfl) (big_w (b := b) (by omega)).2.2.2.1 rfl (big_set G (big_w (b := b) (by omega)) (by decide) (by decide) (m := 0) (by omega)) (fun I_1 hr_56 => ?_)
        obtain ⟨b_2, f_3⟩ := hr_56
        have f_4 : ∀ z, (z < 8 ∨ 24 ≤ z) → I_1 z = I0 z := fun z hz => (f_3 z (by omega)).trans (hf z hz)
        have g_5 : I_1 8 4 = nI n := by rw [f_3 _ (by omega)]; exact g4
        have g_6 : I_1 8 5 = nI t - 1 := by rw [f_3 _ (by omega)]; exact g5
        have g_7 : I_1 8 6 = nI 0 := by rw [f_3 _ (by omega)]; exact g6
        refine ev_iinc (v := nI (b + 1)) 62 rfl d29_59 rfl (Nat.le_of_ble_eq_true rfl) (nI_add _ 1) rfl ?_
        show ai_Ev _ _ _ [some (.ref 8), some (.int (nI n)), some (.int (nI t - 1)), some (.int (nI (b + 1)))] _ _ _
        refine ev_goto 21 (by decide) d29_62 ?_
        refine ih (b + 1) I_1 (by omega) g_5 g_6 g_7 ?_ f_4
        intro x hx
        by_cases z9 : x = b
        · subst z9
          show ai_BG _ _ _ (if t = 0 ∨ t = x + 1 then 1 else 0)
          first | (rw [if_pos (by omega)]; exact b_2) | (rw [if_neg (by omega)]; exact b_2)
        · exact (hw x (by omega)).eq (f_3 _ (by omega)) (f_3 _ (by omega))
      · refine ev_iconst (v := nI 1) 52 rfl d29_51 (by decide) ?_
        refine ev_goto 56 (by decide) d29_52 ?_
        refine ev_cu1 59 rfl 1 d29_56 rfl rfl (by rw [G.1 _ _ (big_w (b := b) (by omega)).1 (big_w (b := b) (by omega)).2.2.2.1 (by have := (big_w (b := b) (by omega)).2.2.2.2; omega)]; rfl) (big_w (b := b) (by omega)).2.2.2.1 rfl (big_set G (big_w (b := b) (by omega)) (by decide) (by decide) (m := 1) (by omega)) (fun I_1 hr_56 => ?_)
        obtain ⟨b_2, f_3⟩ := hr_56
        have f_4 : ∀ z, (z < 8 ∨ 24 ≤ z) → I_1 z = I0 z := fun z hz => (f_3 z (by omega)).trans (hf z hz)
        have g_5 : I_1 8 4 = nI n := by rw [f_3 _ (by omega)]; exact g4
        have g_6 : I_1 8 5 = nI t - 1 := by rw [f_3 _ (by omega)]; exact g5
        have g_7 : I_1 8 6 = nI 0 := by rw [f_3 _ (by omega)]; exact g6
        refine ev_iinc (v := nI (b + 1)) 62 rfl d29_59 rfl (Nat.le_of_ble_eq_true rfl) (nI_add _ 1) rfl ?_
        show ai_Ev _ _ _ [some (.ref 8), some (.int (nI n)), some (.int (nI t - 1)), some (.int (nI (b + 1)))] _ _ _
        refine ev_goto 21 (by decide) d29_62 ?_
        refine ih (b + 1) I_1 (by omega) g_5 g_6 g_7 ?_ f_4
        intro x hx
        by_cases z9 : x = b
        · subst z9
          show ai_BG _ _ _ (if t = 0 ∨ t = x + 1 then 1 else 0)
          first | (rw [if_pos (by omega)]; exact b_2) | (rw [if_neg (by omega)]; exact b_2)
        · exact (hw x (by omega)).eq (f_3 _ (by omega)) (f_3 _ (by omega))
theorem o_start (G : ai_G S F) {n t : Nat} (hn : n ≤ 4) (ht : t ≤ 4) {I : Nat → Nat → Int32}
    : ai_Ev none 29 0 [some (.ref 8), some (.int (nI n)), some (.int (nI t - 1)), none] [] (S, I, L, F) (ai_Pu S F L (fun I2 => ai_OS I2 n t 0 (fun x => if t = 0 ∨ t = x + 1 then 1 else 0) ∧ ai_fo I I2)) := by
  refine ev_aload_n 1 rfl d29_0 rfl ?_
  refine ev_iload_n 2 rfl d29_1 rfl ?_
  refine ev_iconst (v := nI 4) 3 rfl d29_2 (by decide) ?_
  refine ev_min (v := nI n) 6 rfl d29_3 rfl rfl (if_neg (fun h => absurd ((nI_ltI (by decide) (by omega)).mp h) (by omega))) ?_
  obtain ⟨I_1, hI_1⟩ : ∃ z, z = ai_ui I 8 4 (nI n) := ⟨_, rfl⟩
  refine ev_puti (I2 := I_1) 9 rfl 3 4 d29_6 rfl (by omega) (G.1 _ _ (rfl : ai_sp 8 = (3, 0)) (by decide) (by decide)) (fun h => absurd h (by decide)) hI_1.symm ?_
  refine ev_aload_n 10 rfl d29_9 rfl ?_
  refine ev_iload_n 11 rfl d29_10 rfl ?_
  obtain ⟨I_2, hI_2⟩ : ∃ z, z = ai_ui I_1 8 5 (nI t - 1) := ⟨_, rfl⟩
  refine ev_puti (I2 := I_2) 14 rfl 3 5 d29_11 rfl (by omega) (G.1 _ _ (rfl : ai_sp 8 = (3, 0)) (by decide) (by decide)) (fun h => absurd h (by decide)) hI_2.symm ?_
  refine ev_aload_n 15 rfl d29_14 rfl ?_
  refine ev_iconst (v := nI 0) 16 rfl d29_15 (by decide) ?_
  obtain ⟨I_3, hI_3⟩ : ∃ z, z = ai_ui I_2 8 6 (nI 0) := ⟨_, rfl⟩
  refine ev_puti (I2 := I_3) 19 rfl 3 6 d29_16 rfl (by omega) (G.1 _ _ (rfl : ai_sp 8 = (3, 0)) (by decide) (by decide)) (fun h => absurd h (by decide)) hI_3.symm ?_
  refine ev_iconst (v := nI 0) 20 rfl d29_19 (by decide) ?_
  refine ev_store_in 21 rfl d29_20 (Nat.le_of_ble_eq_true rfl) rfl ?_
  show ai_Ev _ _ _ [some (.ref 8), some (.int (nI n)), some (.int (nI t - 1)), some (.int (nI 0))] _ _ _
  refine o_start_loop G hn ht n 0 _ (by omega) ?_ ?_ ?_ (fun x hx => absurd hx (by omega)) ?_
  · rw [ui_other hI_3 (by omega), ui_other hI_2 (by omega)]; exact ui_same hI_1
  · rw [ui_other hI_3 (by omega)]; exact ui_same hI_2
  · exact ui_same hI_3
  · intro z hz
    rw [ui_row hI_3 (by omega), ui_row hI_2 (by omega), ui_row hI_1 (by omega)]
theorem qs_le {f : Nat → Nat} {n b : Nat} (h : b < n) : ai_qs f b + f b ≤ ai_qs f n := by
  induction n with
  | zero => omega
  | succ n ih =>
    show _ ≤ ai_qs f n + f n
    rcases Nat.lt_or_ge b n with z | z
    · have := ih z; omega
    · have : b = n := by omega
      subst this; omega
theorem qa_lt {f : Nat → Nat} {n : Nat} (h : 0 < n) : ai_qa f n < n := by
  induction n with
  | zero => omega
  | succ n ih =>
    show (if f (ai_qa f n) < f n then n else ai_qa f n) < n + 1
    split
    · omega
    · rcases Nat.eq_zero_or_pos n with z | z
      · subst z; exact Nat.lt_succ_self _
      · have := ih z; omega

theorem o_above (G : ai_G S F) {n t k : Nat} {W : Nat → Nat} (hn : n ≤ 4) (ht : t ≤ 4) {I : Nat → Nat → Int32} (hO : ai_OS I n t k W) {b c : Nat} (hb : b < n) (hc : c < n) :
    ai_Ev none 32 0 [some (.ref 8), some (.int (nI b)), some (.int (nI c))] [] (S, I, L, F) (ai_Pb S F I L (W c < W b)) := by
  obtain ⟨g4, g5, g6, hw⟩ := hO
  refine ev_iload_n 1 rfl d32_0 rfl ?_
  refine ev_if_F 46 4 (by decide) rfl (c0_ltF (by omega)) d32_1 ?_
  refine ev_iload_n 5 rfl d32_4 rfl ?_
  refine ev_aload_n 6 rfl d32_5 rfl ?_
  refine ev_geti (v := nI n) 9 rfl 3 4 d32_6 rfl (by omega) (G.1 _ _ (rfl : ai_sp 8 = (3, 0)) (by decide) (by decide)) g4 ?_
  refine ev_icmp 46 12 (by decide) rfl (cn_ge (by omega) (by omega)) d32_9 (fun hc_9 => absurd hc_9 (by omega)) (fun hc_9 => ?_)
  refine ev_iload_n 13 rfl d32_12 rfl ?_
  refine ev_if_F 46 16 (by decide) rfl (c0_ltF (by omega)) d32_13 ?_
  refine ev_iload_n 17 rfl d32_16 rfl ?_
  refine ev_aload_n 18 rfl d32_17 rfl ?_
  refine ev_geti (v := nI n) 21 rfl 3 4 d32_18 rfl (by omega) (G.1 _ _ (rfl : ai_sp 8 = (3, 0)) (by decide) (by decide)) g4 ?_
  refine ev_icmp 46 24 (by decide) rfl (cn_ge (by omega) (by omega)) d32_21 (fun hc_21 => absurd hc_21 (by omega)) (fun hc_21 => ?_)
  refine ev_aload_n 25 rfl d32_24 rfl ?_
  refine ev_getr 28 rfl 3 0 d32_25 rfl (by omega) (G.1 _ _ (rfl : ai_sp 8 = (3, 0)) (by decide) (by decide)) (G.2 _ _ _ (rfl : ai_rf 8 0 = some 9)) ?_
  refine ev_iload_n 29 rfl d32_28 rfl ?_
  refine ev_aald_n 30 rfl d32_29 (by omega) (by decide) (G.1 _ _ (rfl : ai_sp 9 = (108, 4)) (by decide) (by decide)) (by omega) (by decide) (G.2 _ _ _ (rf_weight (by omega))) ?_
  refine ev_aload_n 31 rfl d32_30 rfl ?_
  refine ev_getr 34 rfl 3 0 d32_31 rfl (by omega) (G.1 _ _ (rfl : ai_sp 8 = (3, 0)) (by decide) (by decide)) (G.2 _ _ _ (rfl : ai_rf 8 0 = some 9)) ?_
  refine ev_iload_n 35 rfl d32_34 rfl ?_
  refine ev_aald_n 36 rfl d32_35 (by omega) (by decide) (G.1 _ _ (rfl : ai_sp 9 = (108, 4)) (by decide) (by decide)) (by omega) (by decide) (G.2 _ _ _ (rf_weight (by omega))) ?_
  refine ev_cb1 39 rfl 7 d32_36 rfl rfl (by rw [G.1 _ _ (big_w (b := b) (by omega)).1 (big_w (b := b) (by omega)).2.2.2.1 (by have := (big_w (b := b) (by omega)).2.2.2.2; omega)]; rfl) (big_w (b := b) (by omega)).2.2.2.1 rfl (big_above G (big_w (b := b) (by omega)) (by decide) (big_w (b := c) (by omega)) (by decide) (hw b (by omega)) (hw c (by omega))) (fun hq_36 => ?_) (fun hq_36 => ?_)
  · refine ev_if_F 46 42 (by decide) rfl (by decide) d32_39 ?_
    refine ev_iconst (v := nI 1) 43 rfl d32_42 (by decide) ?_
    refine ev_goto 47 (by decide) d32_43 ?_
    refine ev_iret (Or.inr ⟨rfl, Or.inr (by decide)⟩) d32_47 ?_
    exact ⟨Or.inl ⟨by omega, rfl⟩, rfl⟩
  · refine ev_if_T 46 (by decide) (by decide) d32_39 ?_
    refine ev_iconst (v := nI 0) 47 rfl d32_46 (by decide) ?_
    refine ev_iret (Or.inr ⟨rfl, Or.inl (by decide)⟩) d32_47 ?_
    exact ⟨Or.inr ⟨by omega, rfl⟩, rfl⟩
end ODDS
