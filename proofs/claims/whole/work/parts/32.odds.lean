section ODDS
variable {S : List (Nat × Nat)} {F : Nat → Nat → Option Nat} {L : Nat → Nat → Int64}
def ai_fo (I I2 : Nat → Nat → Int32) : Prop := ∀ z, (z < 8 ∨ 24 ≤ z) → I2 z = I z
/-- the odds: so many answers, the truth, the looks, the weights -/
def ai_OS (I : Nat → Nat → Int32) (n t k : Nat) (W : Nat → Nat) : Prop := I 8 4 = nI n ∧ I 8 5 = nI t - 1 ∧ I 8 6 = nI k ∧ ∀ b, b < n → ai_BG I (16 + 2 * b) 16 (W b)

theorem o_start_loop (G : ai_G S F) {n t : Nat} (hn : n ≤ 4) (ht : t ≤ 4) {I0 : Nat → Nat → Int32} : ∀ (z b : Nat) (I : Nat → Nat → Int32), b + z = n → I 8 4 = nI n → I 8 5 = nI t - 1 → I 8 6 = nI 0 → (∀ x, x < b → ai_BG I (16 + 2 * x) 16 ((fun x => if t = 0 ∨ t = x + 1 then 1 else 0) x)) → (∀ z, (z < 8 ∨ 24 ≤ z) → I z = I0 z) →
    ai_Ev none 29 21 [some (.ref 8), some (.int (nI n)), some (.int (nI t - 1)), some (.int (nI b))] [] (S, I, L, F) (ai_Pu S F L (fun I2 => ai_OS I2 n t 0 (fun x => if t = 0 ∨ t = x + 1 then 1 else 0) ∧ ai_fo I0 I2)) := by
  intro z
  induction z with
  | zero =>
    intro b I hz g4 g5 g6 hw hf
    refine ev_iload_n 22 rfl d29_21 rfl ?_
    refine ev_aload_n 23 rfl d29_22 rfl ?_
    refine ev_geti (v := nI n) 26 rfl 3 4 d29_23 rfl (by omega) (G.1 _ _ (rfl : ai_sp 8 = (3, 0)) (by decide) (by decide)) g4 ?_
    refine ev_icmp 65 29 (by decide) rfl (cn_ge (by omega) (by omega)) d29_26 (fun hc_26 => ?_) (fun hc_26 => absurd hc_26 (by omega))
    refine ev_vret rfl d29_65 ?_
    have e : b = n := by omega
    subst e
    exact ⟨rfl, _, rfl, ⟨g4, g5, g6, hw⟩, hf⟩
  | succ z ih =>
    intro b I hz g4 g5 g6 hw hf
    refine ev_iload_n 22 rfl d29_21 rfl ?_
    refine ev_aload_n 23 rfl d29_22 rfl ?_
    refine ev_geti (v := nI n) 26 rfl 3 4 d29_23 rfl (by omega) (G.1 _ _ (rfl : ai_sp 8 = (3, 0)) (by decide) (by decide)) g4 ?_
    refine ev_icmp 65 29 (by decide) rfl (cn_ge (by omega) (by omega)) d29_26 (fun hc_26 => absurd hc_26 (by omega)) (fun hc_26 => ?_)
    refine ev_aload_n 30 rfl d29_29 rfl ?_
    refine ev_getr 33 rfl 3 0 d29_30 rfl (by omega) (G.1 _ _ (rfl : ai_sp 8 = (3, 0)) (by decide) (by decide)) (G.2 _ _ _ (rfl : ai_rf 8 0 = some 9)) ?_
    refine ev_iload_n 34 rfl d29_33 rfl ?_
    refine ev_aald_n 35 rfl d29_34 (by omega) (by decide) (G.1 _ _ (rfl : ai_sp 9 = (108, 4)) (by decide) (by decide)) (by omega) (by decide) (G.2 _ _ _ (rf_weight (by omega))) ?_
    refine ev_aload_n 36 rfl d29_35 rfl ?_
    refine ev_geti (v := nI t - 1) 39 rfl 3 5 d29_36 rfl (by omega) (G.1 _ _ (rfl : ai_sp 8 = (3, 0)) (by decide) (by decide)) g5 ?_
    refine ev_iconst (v := (-1)) 40 rfl d29_39 (by decide) ?_
    refine ev_icmp 51 43 (by decide) rfl (cq_eq (by omega)) d29_40 (fun hc_40 => ?_) (fun hc_40 => ?_)
    · refine ev_iconst (v := nI 1) 52 rfl d29_51 (by decide) ?_
      refine ev_goto 56 (by decide) d29_52 ?_
      refine ev_cu1 59 rfl 1 d29_56 rfl rfl (by rw [G.1 _ _ (big_w (b := b) (by omega)).1 (big_w (b := b) (by omega)).2.2.2.1 (by have := (big_w (b := b) (by omega)).2.2.2.2; omega)]; rfl) (big_w (b := b) (by omega)).2.2.2.1 rfl (big_set G (big_w (b := b) (by omega)) (by decide) (by decide) (m := 1) (by omega)) (fun I_1 hr_56 => ?_)
      obtain ⟨b_2, f_3⟩ := hr_56
      have f_4 : ∀ z, (z < 8 ∨ 24 ≤ z) → I_1 z = I0 z := fun z hz => (f_3 z (by omega)).trans (hf z hz)
      have g_5 : I_1 8 4 = nI n := by rw [f_3 _ (by omega)]; exact g4
      have g_6 : I_1 8 5 = nI t - 1 := by rw [f_3 _ (by omega)]; exact g5
      have g_7 : I_1 8 6 = nI 0 := by rw [f_3 _ (by omega)]; exact g6
      refine ev_iinc (v := nI (b + 1)) 62 rfl d29_59 rfl (Nat.le_of_ble_eq_true rfl) (nI_add _ 1) rfl ?_
      show ai_Ev _ _ _ [some (.ref 8), some (.int (nI n)), some (.int (nI t - 1)), some (.int (nI (b + 1)))] _ _ _
      refine ev_goto 21 (by decide) d29_62 ?_
      refine ih (b + 1) I_1 (by omega) g_5 g_6 g_7 ?_ f_4
      intro x hx
      by_cases z9 : x = b
      · subst z9
        show ai_BG _ _ _ (if t = 0 ∨ t = x + 1 then 1 else 0)
        first | (rw [if_pos (by omega)]; exact b_2) | (rw [if_neg (by omega)]; exact b_2)
      · exact (hw x (by omega)).eq (f_3 _ (by omega)) (f_3 _ (by omega))
    · refine ev_aload_n 44 rfl d29_43 rfl ?_
      refine ev_geti (v := nI t - 1) 47 rfl 3 5 d29_44 rfl (by omega) (G.1 _ _ (rfl : ai_sp 8 = (3, 0)) (by decide) (by decide)) g5 ?_
      refine ev_iload_n 48 rfl d29_47 rfl ?_
      refine ev_icmp 55 51 (by decide) rfl (cmn_ne (by omega) (by omega)) d29_48 (fun hc_48 => ?_) (fun hc_48 => ?_)
      · refine ev_iconst (v := nI 0) 56 rfl d29_55 (by decide) ?_
        refine ev_cu1 59 rfl 1 d29_56 rfl rfl (by rw [G.1 _ _ (big_w (b := b) (by omega)).1 (big_w (b := b) (by omega)).2.2.2.1 (by have := (big_w (b := b) (by omega)).2.2.2.2; omega)]; rfl) (big_w (b := b) (by omega)).2.2.2.1 rfl (big_set G (big_w (b := b) (by omega)) (by decide) (by decide) (m := 0) (by omega)) (fun I_1 hr_56 => ?_)
        obtain ⟨b_2, f_3⟩ := hr_56
        have f_4 : ∀ z, (z < 8 ∨ 24 ≤ z) → I_1 z = I0 z := fun z hz => (f_3 z (by omega)).trans (hf z hz)
        have g_5 : I_1 8 4 = nI n := by rw [f_3 _ (by omega)]; exact g4
        have g_6 : I_1 8 5 = nI t - 1 := by rw [f_3 _ (by omega)]; exact g5
        have g_7 : I_1 8 6 = nI 0 := by rw [f_3 _ (by omega)]; exact g6
        refine ev_iinc (v := nI (b + 1)) 62 rfl d29_59 rfl (Nat.le_of_ble_eq_true rfl) (nI_add _ 1) rfl ?_
        show ai_Ev _ _ _ [some (.ref 8), some (.int (nI n)), some (.int (nI t - 1)), some (.int (nI (b + 1)))] _ _ _
        refine ev_goto 21 (by decide) d29_62 ?_
        refine ih (b + 1) I_1 (by omega) g_5 g_6 g_7 ?_ f_4
        intro x hx
        by_cases z9 : x = b
        · subst z9
          show ai_BG _ _ _ (if t = 0 ∨ t = x + 1 then 1 else 0)
          first | (rw [if_pos (by omega)]; exact b_2) | (rw [if_neg (by omega)]; exact b_2)
        · exact (hw x (by omega)).eq (f_3 _ (by omega)) (f_3 _ (by omega))
      · refine ev_iconst (v := nI 1) 52 rfl d29_51 (by decide) ?_
        refine ev_goto 56 (by decide) d29_52 ?_
        refine ev_cu1 59 rfl 1 d29_56 rfl rfl (by rw [G.1 _ _ (big_w (b := b) (by omega)).1 (big_w (b := b) (by omega)).2.2.2.1 (by have := (big_w (b := b) (by omega)).2.2.2.2; omega)]; rfl) (big_w (b := b) (by omega)).2.2.2.1 rfl (big_set G (big_w (b := b) (by omega)) (by decide) (by decide) (m := 1) (by omega)) (fun I_1 hr_56 => ?_)
        obtain ⟨b_2, f_3⟩ := hr_56
        have f_4 : ∀ z, (z < 8 ∨ 24 ≤ z) → I_1 z = I0 z := fun z hz => (f_3 z (by omega)).trans (hf z hz)
        have g_5 : I_1 8 4 = nI n := by rw [f_3 _ (by omega)]; exact g4
        have g_6 : I_1 8 5 = nI t - 1 := by rw [f_3 _ (by omega)]; exact g5
        have g_7 : I_1 8 6 = nI 0 := by rw [f_3 _ (by omega)]; exact g6
        refine ev_iinc (v := nI (b + 1)) 62 rfl d29_59 rfl (Nat.le_of_ble_eq_true rfl) (nI_add _ 1) rfl ?_
        show ai_Ev _ _ _ [some (.ref 8), some (.int (nI n)), some (.int (nI t - 1)), some (.int (nI (b + 1)))] _ _ _
        refine ev_goto 21 (by decide) d29_62 ?_
        refine ih (b + 1) I_1 (by omega) g_5 g_6 g_7 ?_ f_4
        intro x hx
        by_cases z9 : x = b
        · subst z9
          show ai_BG _ _ _ (if t = 0 ∨ t = x + 1 then 1 else 0)
          first | (rw [if_pos (by omega)]; exact b_2) | (rw [if_neg (by omega)]; exact b_2)
        · exact (hw x (by omega)).eq (f_3 _ (by omega)) (f_3 _ (by omega))
theorem o_start (G : ai_G S F) {n t : Nat} (hn : n ≤ 4) (ht : t ≤ 4) {I : Nat → Nat → Int32}
    : ai_Ev none 29 0 [some (.ref 8), some (.int (nI n)), some (.int (nI t - 1)), none] [] (S, I, L, F) (ai_Pu S F L (fun I2 => ai_OS I2 n t 0 (fun x => if t = 0 ∨ t = x + 1 then 1 else 0) ∧ ai_fo I I2)) := by
  refine ev_aload_n 1 rfl d29_0 rfl ?_
  refine ev_iload_n 2 rfl d29_1 rfl ?_
  refine ev_iconst (v := nI 4) 3 rfl d29_2 (by decide) ?_
  refine ev_min (v := nI n) 6 rfl d29_3 rfl rfl (if_neg (fun h => absurd ((nI_ltI (by decide) (by omega)).mp h) (by omega))) ?_
  obtain ⟨I_1, hI_1⟩ : ∃ z, z = ai_ui I 8 4 (nI n) := ⟨_, rfl⟩
  refine ev_puti (I2 := I_1) 9 rfl 3 4 d29_6 rfl (by omega) (G.1 _ _ (rfl : ai_sp 8 = (3, 0)) (by decide) (by decide)) (fun h => absurd h (by decide)) hI_1.symm ?_
  refine ev_aload_n 10 rfl d29_9 rfl ?_
  refine ev_iload_n 11 rfl d29_10 rfl ?_
  obtain ⟨I_2, hI_2⟩ : ∃ z, z = ai_ui I_1 8 5 (nI t - 1) := ⟨_, rfl⟩
  refine ev_puti (I2 := I_2) 14 rfl 3 5 d29_11 rfl (by omega) (G.1 _ _ (rfl : ai_sp 8 = (3, 0)) (by decide) (by decide)) (fun h => absurd h (by decide)) hI_2.symm ?_
  refine ev_aload_n 15 rfl d29_14 rfl ?_
  refine ev_iconst (v := nI 0) 16 rfl d29_15 (by decide) ?_
  obtain ⟨I_3, hI_3⟩ : ∃ z, z = ai_ui I_2 8 6 (nI 0) := ⟨_, rfl⟩
  refine ev_puti (I2 := I_3) 19 rfl 3 6 d29_16 rfl (by omega) (G.1 _ _ (rfl : ai_sp 8 = (3, 0)) (by decide) (by decide)) (fun h => absurd h (by decide)) hI_3.symm ?_
  refine ev_iconst (v := nI 0) 20 rfl d29_19 (by decide) ?_
  refine ev_store_in 21 rfl d29_20 (Nat.le_of_ble_eq_true rfl) rfl ?_
  show ai_Ev _ _ _ [some (.ref 8), some (.int (nI n)), some (.int (nI t - 1)), some (.int (nI 0))] _ _ _
  refine o_start_loop G hn ht n 0 _ (by omega) ?_ ?_ ?_ (fun x hx => absurd hx (by omega)) ?_
  · rw [ui_other hI_3 (by omega), ui_other hI_2 (by omega)]; exact ui_same hI_1
  · rw [ui_other hI_3 (by omega)]; exact ui_same hI_2
  · exact ui_same hI_3
  · intro z hz
    rw [ui_row hI_3 (by omega), ui_row hI_2 (by omega), ui_row hI_1 (by omega)]
theorem qs_le {f : Nat → Nat} {n b : Nat} (h : b < n) : ai_qs f b + f b ≤ ai_qs f n := by
  induction n with
  | zero => omega
  | succ n ih =>
    show _ ≤ ai_qs f n + f n
    rcases Nat.lt_or_ge b n with z | z
    · have := ih z; omega
    · have : b = n := by omega
      subst this; omega
theorem qa_lt {f : Nat → Nat} {n : Nat} (h : 0 < n) : ai_qa f n < n := by
  induction n with
  | zero => omega
  | succ n ih =>
    show (if f (ai_qa f n) < f n then n else ai_qa f n) < n + 1
    split
    · omega
    · rcases Nat.eq_zero_or_pos n with z | z
      · subst z; exact Nat.lt_succ_self _
      · have := ih z; omega

theorem o_above (G : ai_G S F) {n t k : Nat} {W : Nat → Nat} (hn : n ≤ 4) (ht : t ≤ 4) {I : Nat → Nat → Int32} (hO : ai_OS I n t k W) {b c : Nat} (hb : b < n) (hc : c < n) :
    ai_Ev none 32 0 [some (.ref 8), some (.int (nI b)), some (.int (nI c))] [] (S, I, L, F) (ai_Pb S F I L (W c < W b)) := by
  obtain ⟨g4, g5, g6, hw⟩ := hO
  refine ev_iload_n 1 rfl d32_0 rfl ?_
  refine ev_if_F 46 4 (by decide) rfl (c0_ltF (by omega)) d32_1 ?_
  refine ev_iload_n 5 rfl d32_4 rfl ?_
  refine ev_aload_n 6 rfl d32_5 rfl ?_
  refine ev_geti (v := nI n) 9 rfl 3 4 d32_6 rfl (by omega) (G.1 _ _ (rfl : ai_sp 8 = (3, 0)) (by decide) (by decide)) g4 ?_
  refine ev_icmp 46 12 (by decide) rfl (cn_ge (by omega) (by omega)) d32_9 (fun hc_9 => absurd hc_9 (by omega)) (fun hc_9 => ?_)
  refine ev_iload_n 13 rfl d32_12 rfl ?_
  refine ev_if_F 46 16 (by decide) rfl (c0_ltF (by omega)) d32_13 ?_
  refine ev_iload_n 17 rfl d32_16 rfl ?_
  refine ev_aload_n 18 rfl d32_17 rfl ?_
  refine ev_geti (v := nI n) 21 rfl 3 4 d32_18 rfl (by omega) (G.1 _ _ (rfl : ai_sp 8 = (3, 0)) (by decide) (by decide)) g4 ?_
  refine ev_icmp 46 24 (by decide) rfl (cn_ge (by omega) (by omega)) d32_21 (fun hc_21 => absurd hc_21 (by omega)) (fun hc_21 => ?_)
  refine ev_aload_n 25 rfl d32_24 rfl ?_
  refine ev_getr 28 rfl 3 0 d32_25 rfl (by omega) (G.1 _ _ (rfl : ai_sp 8 = (3, 0)) (by decide) (by decide)) (G.2 _ _ _ (rfl : ai_rf 8 0 = some 9)) ?_
  refine ev_iload_n 29 rfl d32_28 rfl ?_
  refine ev_aald_n 30 rfl d32_29 (by omega) (by decide) (G.1 _ _ (rfl : ai_sp 9 = (108, 4)) (by decide) (by decide)) (by omega) (by decide) (G.2 _ _ _ (rf_weight (by omega))) ?_
  refine ev_aload_n 31 rfl d32_30 rfl ?_
  refine ev_getr 34 rfl 3 0 d32_31 rfl (by omega) (G.1 _ _ (rfl : ai_sp 8 = (3, 0)) (by decide) (by decide)) (G.2 _ _ _ (rfl : ai_rf 8 0 = some 9)) ?_
  refine ev_iload_n 35 rfl d32_34 rfl ?_
  refine ev_aald_n 36 rfl d32_35 (by omega) (by decide) (G.1 _ _ (rfl : ai_sp 9 = (108, 4)) (by decide) (by decide)) (by omega) (by decide) (G.2 _ _ _ (rf_weight (by omega))) ?_
  refine ev_cb1 39 rfl 7 d32_36 rfl rfl (by rw [G.1 _ _ (big_w (b := b) (by omega)).1 (big_w (b := b) (by omega)).2.2.2.1 (by have := (big_w (b := b) (by omega)).2.2.2.2; omega)]; rfl) (big_w (b := b) (by omega)).2.2.2.1 rfl (big_above G (big_w (b := b) (by omega)) (by decide) (big_w (b := c) (by omega)) (by decide) (hw b (by omega)) (hw c (by omega))) (fun hq_36 => ?_) (fun hq_36 => ?_)
  · refine ev_if_F 46 42 (by decide) rfl (by decide) d32_39 ?_
    refine ev_iconst (v := nI 1) 43 rfl d32_42 (by decide) ?_
    refine ev_goto 47 (by decide) d32_43 ?_
    refine ev_iret (Or.inr ⟨rfl, Or.inr (by decide)⟩) d32_47 ?_
    exact ⟨Or.inl ⟨by omega, rfl⟩, rfl⟩
  · refine ev_if_T 46 (by decide) (by decide) d32_39 ?_
    refine ev_iconst (v := nI 0) 47 rfl d32_46 (by decide) ?_
    refine ev_iret (Or.inr ⟨rfl, Or.inl (by decide)⟩) d32_47 ?_
    exact ⟨Or.inr ⟨by omega, rfl⟩, rfl⟩
theorem o_hear_loop (G : ai_G S F) {n t k : Nat} {W : Nat → Nat} (hn : n ≤ 4) (ht : t ≤ 4) {j q a : Nat} {V U Fc : Nat → Nat} (hj : j < 24) (hq : q < 5) (ha : a < 4) (hVl : ∀ b, b < 4 → V b < 1000000) (hUl : ∀ o, o < 4 → U o < 1000000) (hF : ∀ b, b < n → (1 + V b) * ai_qp (fun x => if x = b then 1 else n + U x) n = Fc b) (hFl : ∀ b, b < n → Fc b < 2147483648) (hfit : ∀ b, b < n → Fc b * W b < 2147483648 ^ 16) {I0 : Nat → Nat → Int32} (hV : ∀ b, b < 4 → I0 (76 + 4 * j + 2) ((q * 4 + a) * 4 + b) = nI (V b)) (hB : ∀ o, o < 4 → I0 (76 + 4 * j + 3) (q * 4 + o) = nI (U o)) : ∀ (z b : Nat) (I : Nat → Nat → Int32), b + z = n → I 8 4 = nI n → I 8 5 = nI t - 1 → I 8 6 = nI k → (∀ x, x < n → ai_BG I (16 + 2 * x) 16 (if x < b then Fc x * W x else W x)) → (∀ z, (z < 8 ∨ 24 ≤ z) → I z = I0 z) →
    ai_Ev none 30 21 [some (.ref 8), some (.ref (76 + 4 * j)), some (.int (nI q)), some (.int (nI a)), some (.int (nI b))] [] (S, I, L, F) (ai_Pu S F L (fun I2 => ai_OS I2 n t k (fun x => Fc x * W x) ∧ ai_fo I0 I2)) := by
  intro z
  induction z with
  | zero =>
    intro b I hz g4 g5 g6 hw hf
    refine ev_iload 23 rfl d30_21 rfl ?_
    refine ev_aload_n 24 rfl d30_23 rfl ?_
    refine ev_geti (v := nI n) 27 rfl 3 4 d30_24 rfl (by omega) (G.1 _ _ (rfl : ai_sp 8 = (3, 0)) (by decide) (by decide)) g4 ?_
    refine ev_icmp 58 30 (by decide) rfl (cn_ge (by omega) (by omega)) d30_27 (fun hc_27 => ?_) (fun hc_27 => absurd hc_27 (by omega))
    refine ev_vret rfl d30_58 ?_
    have e : b = n := by omega
    subst e
    exact ⟨rfl, _, rfl, ⟨g4, g5, g6, fun x hx => by have k9 := hw x hx; rw [if_pos hx] at k9; exact k9⟩, hf⟩
  | succ z ih =>
    intro b I hz g4 g5 g6 hw hf
    refine ev_iload 23 rfl d30_21 rfl ?_
    refine ev_aload_n 24 rfl d30_23 rfl ?_
    refine ev_geti (v := nI n) 27 rfl 3 4 d30_24 rfl (by omega) (G.1 _ _ (rfl : ai_sp 8 = (3, 0)) (by decide) (by decide)) g4 ?_
    refine ev_icmp 58 30 (by decide) rfl (cn_ge (by omega) (by omega)) d30_27 (fun hc_27 => absurd hc_27 (by omega)) (fun hc_27 => ?_)
    have hmb := hFl b (by omega)
    have hfb := hfit b (by omega)
    have hwb : ai_BG I (16 + 2 * b) 16 (W b) := by have k9 := hw b (by omega); rw [if_neg (by omega)] at k9; exact k9
    refine ev_aload_n 31 rfl d30_30 rfl ?_
    refine ev_getr 34 rfl 3 0 d30_31 rfl (by omega) (G.1 _ _ (rfl : ai_sp 8 = (3, 0)) (by decide) (by decide)) (G.2 _ _ _ (rfl : ai_rf 8 0 = some 9)) ?_
    refine ev_iload 36 rfl d30_34 rfl ?_
    refine ev_aald_n 37 rfl d30_36 (by omega) (by decide) (G.1 _ _ (rfl : ai_sp 9 = (108, 4)) (by decide) (by decide)) (by omega) (by decide) (G.2 _ _ _ (rf_weight (by omega))) ?_
    refine ev_aload_n 38 rfl d30_37 rfl ?_
    refine ev_iload_n 39 rfl d30_38 rfl ?_
    refine ev_iload_n 40 rfl d30_39 rfl ?_
    refine ev_iload 42 rfl d30_40 rfl ?_
    refine ev_aload_n 43 rfl d30_42 rfl ?_
    refine ev_geti (v := nI n) 46 rfl 3 4 d30_43 rfl (by omega) (G.1 _ _ (rfl : ai_sp 8 = (3, 0)) (by decide) (by decide)) g4 ?_
    refine ev_cp4 49 rfl 26 d30_46 rfl rfl (by rw [G.1 _ _ (sp_judge (by omega)) (by omega) (by omega)]; rfl) (by omega) rfl (show ai_Ev none 26 0 _ [] (S, I, L, F) (ai_Pp S F I L (.int (nI (Fc b)))) from by rw [← hF b (by omega)]; exact j_factor G hj hq ha (by omega) hn (hVl _ (by omega)) hUl (by rw [hf _ (by omega)]; exact hV _ (by omega)) (fun o ho => by rw [hf _ (by omega)]; exact hB o ho)) ?_
    refine ev_cu1 52 rfl 4 d30_49 rfl rfl (by rw [G.1 _ _ (big_w (b := b) (by omega)).1 (big_w (b := b) (by omega)).2.2.2.1 (by have := (big_w (b := b) (by omega)).2.2.2.2; omega)]; rfl) (big_w (b := b) (by omega)).2.2.2.1 rfl (big_mul G (big_w (b := b) (by omega)) (by decide) hwb (m := Fc b) (by omega) (by first | omega | assumption)) (fun I_1 hr_49 => ?_)
    obtain ⟨b_2, f_3⟩ := hr_49
    have f_4 : ∀ z, (z < 8 ∨ 24 ≤ z) → I_1 z = I0 z := fun z hz => (f_3 z (by omega)).trans (hf z hz)
    have g_5 : I_1 8 4 = nI n := by rw [f_3 _ (by omega)]; exact g4
    have g_6 : I_1 8 5 = nI t - 1 := by rw [f_3 _ (by omega)]; exact g5
    have g_7 : I_1 8 6 = nI k := by rw [f_3 _ (by omega)]; exact g6
    refine ev_iinc (v := nI (b + 1)) 55 rfl d30_52 rfl (Nat.le_of_ble_eq_true rfl) (nI_add _ 1) rfl ?_
    show ai_Ev _ _ _ [some (.ref 8), some (.ref (76 + 4 * j)), some (.int (nI q)), some (.int (nI a)), some (.int (nI (b + 1)))] _ _ _
    refine ev_goto 21 (by decide) d30_55 ?_
    refine ih (b + 1) I_1 (by omega) g_5 g_6 g_7 ?_ f_4
    intro x hx
    by_cases z9 : x = b
    · subst z9
      rw [if_pos (by omega)]; exact b_2
    · have k9 := (hw x hx).eq (f_3 _ (by omega)) (f_3 _ (by omega))
      by_cases z8 : x < b
      · rw [if_pos z8] at k9; rw [if_pos (by omega)]; exact k9
      · rw [if_neg z8] at k9; rw [if_neg (by omega)]; exact k9
theorem o_hear (G : ai_G S F) {n t k : Nat} {W : Nat → Nat} (hn : n ≤ 4) (ht : t ≤ 4) {j q a : Nat} {V U Fc : Nat → Nat} (hj : j < 24) (hq : q < 5) (ha : a < 4) (hVl : ∀ b, b < 4 → V b < 1000000) (hUl : ∀ o, o < 4 → U o < 1000000) (hF : ∀ b, b < n → (1 + V b) * ai_qp (fun x => if x = b then 1 else n + U x) n = Fc b) (hFl : ∀ b, b < n → Fc b < 2147483648) (hfit : t = 0 → ∀ b, b < n → Fc b * W b < 2147483648 ^ 16) {I : Nat → Nat → Int32} (hO : ai_OS I n t k W) (hV : ∀ b, b < 4 → I (76 + 4 * j + 2) ((q * 4 + a) * 4 + b) = nI (V b)) (hB : ∀ o, o < 4 → I (76 + 4 * j + 3) (q * 4 + o) = nI (U o))
    : ai_Ev none 30 0 [some (.ref 8), some (.ref (76 + 4 * j)), some (.int (nI q)), some (.int (nI a)), none] [] (S, I, L, F) (ai_Pu S F L (fun I2 => ai_OS I2 n t (k + 1) (fun x => if t = 0 then Fc x * W x else W x) ∧ ai_fo I I2)) := by
  obtain ⟨g4, g5, g6, hw⟩ := hO
  have hf0 : ∀ z, (z < 8 ∨ 24 ≤ z) → I z = I z := fun _ _ => rfl
  refine ev_aload_n 1 rfl d30_0 rfl ?_
  refine ev_dup 2 rfl d30_1 rfl ?_
  refine ev_geti (v := nI k) 5 rfl 3 6 d30_2 rfl (by omega) (G.1 _ _ (rfl : ai_sp 8 = (3, 0)) (by decide) (by decide)) g6 ?_
  refine ev_iconst (v := nI 1) 6 rfl d30_5 (by decide) ?_
  refine ev_iadd (v := nI (k + 1)) 7 rfl d30_6 (nI_add _ _) ?_
  obtain ⟨I_1, hI_1⟩ : ∃ z, z = ai_ui I 8 6 (nI (k + 1)) := ⟨_, rfl⟩
  refine ev_puti (I2 := I_1) 10 rfl 3 6 d30_7 rfl (by omega) (G.1 _ _ (rfl : ai_sp 8 = (3, 0)) (by decide) (by decide)) (fun h => absurd h (by decide)) hI_1.symm ?_
  have f_2 : ∀ z, (z < 8 ∨ 24 ≤ z) → I_1 z = I z := fun z hz => (ui_row hI_1 (by omega)).trans (hf0 z hz)
  have g_3 : I_1 8 4 = nI n := by rw [ui_other hI_1 (by omega)]; exact g4
  have g_4 : I_1 8 5 = nI t - 1 := by rw [ui_other hI_1 (by omega)]; exact g5
  have g_6 : I_1 8 6 = nI (k + 1) := ui_same hI_1
  have w_7 : ∀ b, b < n → ai_BG I_1 (16 + 2 * b) 16 (W b) := fun b hb9 => (hw b hb9).eq (ui_row hI_1 (by omega)) (ui_row hI_1 (by omega))
  refine ev_aload_n 11 rfl d30_10 rfl ?_
  refine ev_geti (v := nI t - 1) 14 rfl 3 5 d30_11 rfl (by omega) (G.1 _ _ (rfl : ai_sp 8 = (3, 0)) (by decide) (by decide)) g_4 ?_
  refine ev_iconst (v := (-1)) 15 rfl d30_14 (by decide) ?_
  refine ev_icmp 58 18 (by decide) rfl (cq_ne (by omega)) d30_15 (fun hc_15 => ?_) (fun hc_15 => ?_)
  · refine ev_vret rfl d30_58 ?_
    refine ⟨rfl, _, rfl, ⟨g_3, g_4, g_6, fun x hx => ?_⟩, f_2⟩
    show ai_BG _ _ _ (if t = 0 then Fc x * W x else W x)
    rw [if_neg (by omega)]; exact w_7 x hx
  · refine ev_iconst (v := nI 0) 19 rfl d30_18 (by decide) ?_
    refine ev_store_i 21 rfl d30_19 ⟨rfl, Nat.le_of_ble_eq_true rfl⟩ rfl ?_
    show ai_Ev _ _ _ [some (.ref 8), some (.ref (76 + 4 * j)), some (.int (nI q)), some (.int (nI a)), some (.int (nI 0))] _ _ _
    have e9 : t = 0 := by omega
    refine (o_hear_loop G hn ht hj hq ha hVl hUl hF hFl (hfit e9) hV hB n 0 _ (by omega) g_3 g_4 g_6 ?_ f_2).imp ?_
    · intro x hx
      rw [if_neg (by omega)]; exact w_7 x hx
    · intro r h' ⟨h1, I3, h2, h3, h4⟩
      refine ⟨h1, I3, h2, ⟨h3.1, h3.2.1, h3.2.2.1, fun x hx => ?_⟩, h4⟩
      show ai_BG _ _ _ (if t = 0 then Fc x * W x else W x)
      rw [if_pos e9]; exact h3.2.2.2 x hx
theorem o_close_loop (G : ai_G S F) {n t k : Nat} {W : Nat → Nat} (hn : n ≤ 4) (ht : t ≤ 4) (hfit : ai_qs W n < 2147483648 ^ 16) {I0 : Nat → Nat → Int32} : ∀ (z b : Nat) (I : Nat → Nat → Int32), b + z = n → I 8 4 = nI n → I 8 5 = nI t - 1 → I 8 6 = nI k → (∀ x, x < n → ai_BG I (16 + 2 * x) 16 (W x)) → ai_BG I 10 16 (ai_qs W b) → I 8 7 = nI (ai_qa W b) → (∀ z, (z < 8 ∨ 24 ≤ z) → I z = I0 z) →
    ai_Ev none 31 15 [some (.ref 8), some (.int (nI b))] [] (S, I, L, F) (ai_Pu S F L (fun I2 => ai_OS I2 n t k W ∧ I2 8 7 = nI (ai_qa W n) ∧ ai_BG I2 10 16 (ai_qs W n) ∧ ai_fo I0 I2)) := by
  intro z
  induction z with
  | zero =>
    intro b I hz g4 g5 g6 hw hS g7 hf
    refine ev_iload_n 16 rfl d31_15 rfl ?_
    refine ev_aload_n 17 rfl d31_16 rfl ?_
    refine ev_geti (v := nI n) 20 rfl 3 4 d31_17 rfl (by omega) (G.1 _ _ (rfl : ai_sp 8 = (3, 0)) (by decide) (by decide)) g4 ?_
    refine ev_icmp 59 23 (by decide) rfl (cn_ge (by omega) (by omega)) d31_20 (fun hc_20 => ?_) (fun hc_20 => absurd hc_20 (by omega))
    refine ev_vret rfl d31_59 ?_
    have e : b = n := by omega
    subst e
    exact ⟨rfl, _, rfl, ⟨g4, g5, g6, hw⟩, g7, hS, hf⟩
  | succ z ih =>
    intro b I hz g4 g5 g6 hw hS g7 hf
    refine ev_iload_n 16 rfl d31_15 rfl ?_
    refine ev_aload_n 17 rfl d31_16 rfl ?_
    refine ev_geti (v := nI n) 20 rfl 3 4 d31_17 rfl (by omega) (G.1 _ _ (rfl : ai_sp 8 = (3, 0)) (by decide) (by decide)) g4 ?_
    refine ev_icmp 59 23 (by decide) rfl (cn_ge (by omega) (by omega)) d31_20 (fun hc_20 => absurd hc_20 (by omega)) (fun hc_20 => ?_)
    have hfb : ai_qs W b + W b < 2147483648 ^ 16 := Nat.lt_of_le_of_lt (qs_le (by omega)) hfit
    have hab : ai_qa W b < n := by
      rcases Nat.eq_zero_or_pos b with q | q
      · subst q; show 0 < n; omega
      · have := qa_lt (f := W) q; omega
    refine ev_aload_n 24 rfl d31_23 rfl ?_
    refine ev_getr 27 rfl 3 1 d31_24 rfl (by omega) (G.1 _ _ (rfl : ai_sp 8 = (3, 0)) (by decide) (by decide)) (G.2 _ _ _ (rfl : ai_rf 8 1 = some 10)) ?_
    refine ev_aload_n 28 rfl d31_27 rfl ?_
    refine ev_getr 31 rfl 3 0 d31_28 rfl (by omega) (G.1 _ _ (rfl : ai_sp 8 = (3, 0)) (by decide) (by decide)) (G.2 _ _ _ (rfl : ai_rf 8 0 = some 9)) ?_
    refine ev_iload_n 32 rfl d31_31 rfl ?_
    refine ev_aald_n 33 rfl d31_32 (by omega) (by decide) (G.1 _ _ (rfl : ai_sp 9 = (108, 4)) (by decide) (by decide)) (by omega) (by decide) (G.2 _ _ _ (rf_weight (by omega))) ?_
    refine ev_cu1 36 rfl 5 d31_33 rfl rfl (by rw [G.1 _ _ (rfl : ai_sp 10 = (0, 0)) (by decide) (by decide)]; rfl) (by omega) rfl (big_add G (big_16 10 (by omega)) (by decide) (big_w (b := b) (by omega)) (by decide) (by omega) hS (hw b (by omega)) (by first | omega | assumption)) (fun I_1 hr_33 => ?_)
    obtain ⟨b_2, f_3⟩ := hr_33
    have f_4 : ∀ z, (z < 8 ∨ 24 ≤ z) → I_1 z = I0 z := fun z hz => (f_3 z (by omega)).trans (hf z hz)
    have g_5 : I_1 8 4 = nI n := by rw [f_3 _ (by omega)]; exact g4
    have g_6 : I_1 8 5 = nI t - 1 := by rw [f_3 _ (by omega)]; exact g5
    have g_7 : I_1 8 6 = nI k := by rw [f_3 _ (by omega)]; exact g6
    have g_8 : I_1 8 7 = nI (ai_qa W b) := by rw [f_3 _ (by omega)]; exact g7
    have w_9 : ∀ b, b < n → ai_BG I_1 (16 + 2 * b) 16 (W b) := fun b hb9 => (hw b hb9).eq (f_3 _ (by omega)) (f_3 _ (by omega))
    refine ev_aload_n 37 rfl d31_36 rfl ?_
    refine ev_iload_n 38 rfl d31_37 rfl ?_
    refine ev_aload_n 39 rfl d31_38 rfl ?_
    refine ev_geti (v := nI (ai_qa W b)) 42 rfl 3 7 d31_39 rfl (by omega) (G.1 _ _ (rfl : ai_sp 8 = (3, 0)) (by decide) (by decide)) g_8 ?_
    refine ev_cb2 45 rfl 32 d31_42 rfl rfl (by rw [G.1 _ _ (rfl : ai_sp 8 = (3, 0)) (by decide) (by decide)]; rfl) (by omega) rfl (o_above G hn ht ⟨g_5, g_6, g_7, w_9⟩ (by omega) (by omega)) (fun hq_42 => ?_) (fun hq_42 => ?_)
    · refine ev_if_F 53 48 (by decide) rfl (by decide) d31_45 ?_
      refine ev_aload_n 49 rfl d31_48 rfl ?_
      refine ev_iload_n 50 rfl d31_49 rfl ?_
      obtain ⟨I_10, hI_10⟩ : ∃ z, z = ai_ui I_1 8 7 (nI b) := ⟨_, rfl⟩
      refine ev_puti (I2 := I_10) 53 rfl 3 7 d31_50 rfl (by omega) (G.1 _ _ (rfl : ai_sp 8 = (3, 0)) (by decide) (by decide)) (fun h => absurd h (by decide)) hI_10.symm ?_
      have b_11 : ai_BG I_10 10 16 ((ai_qs W b) + (W b)) := b_2.eq (ui_row hI_10 (by omega)) (ui_row hI_10 (by omega))
      have f_12 : ∀ z, (z < 8 ∨ 24 ≤ z) → I_10 z = I0 z := fun z hz => (ui_row hI_10 (by omega)).trans (f_4 z hz)
      have g_13 : I_10 8 4 = nI n := by rw [ui_other hI_10 (by omega)]; exact g_5
      have g_14 : I_10 8 5 = nI t - 1 := by rw [ui_other hI_10 (by omega)]; exact g_6
      have g_15 : I_10 8 6 = nI k := by rw [ui_other hI_10 (by omega)]; exact g_7
      have g_17 : I_10 8 7 = nI b := ui_same hI_10
      have w_18 : ∀ b, b < n → ai_BG I_10 (16 + 2 * b) 16 (W b) := fun b hb9 => (w_9 b hb9).eq (ui_row hI_10 (by omega)) (ui_row hI_10 (by omega))
      refine ev_iinc (v := nI (b + 1)) 56 rfl d31_53 rfl (Nat.le_of_ble_eq_true rfl) (nI_add _ 1) rfl ?_
      show ai_Ev _ _ _ [some (.ref 8), some (.int (nI (b + 1)))] _ _ _
      refine ev_goto 15 (by decide) d31_56 ?_
      have hle : ai_qa W (b + 1) = b := by
        show (if W (ai_qa W b) < W b then b else ai_qa W b) = _
        first | rw [if_pos hq_42] | rw [if_neg hq_42]
      refine ih (b + 1) I_10 (by omega) g_13 g_14 g_15 w_18 b_11 ?_ f_12
      first | (rw [hle]; exact g_17) | exact g_17
    · refine ev_if_T 53 (by decide) (by decide) d31_45 ?_
      refine ev_iinc (v := nI (b + 1)) 56 rfl d31_53 rfl (Nat.le_of_ble_eq_true rfl) (nI_add _ 1) rfl ?_
      show ai_Ev _ _ _ [some (.ref 8), some (.int (nI (b + 1)))] _ _ _
      refine ev_goto 15 (by decide) d31_56 ?_
      have hle : ai_qa W (b + 1) = ai_qa W b := by
        show (if W (ai_qa W b) < W b then b else ai_qa W b) = _
        first | rw [if_pos hq_42] | rw [if_neg hq_42]
      refine ih (b + 1) I_1 (by omega) g_5 g_6 g_7 w_9 b_2 ?_ f_4
      first | (rw [hle]; exact g_8) | exact g_8
theorem o_close (G : ai_G S F) {n t k : Nat} {W : Nat → Nat} (hn : n ≤ 4) (ht : t ≤ 4) (hfit : ai_qs W n < 2147483648 ^ 16) {I : Nat → Nat → Int32} (hO : ai_OS I n t k W) :
    ai_Ev none 31 0 [some (.ref 8), none] [] (S, I, L, F) (ai_Pu S F L (fun I2 => ai_OS I2 n t k W ∧ I2 8 7 = nI (ai_qa W n) ∧ ai_BG I2 10 16 (ai_qs W n) ∧ ai_fo I I2)) := by
  obtain ⟨g4, g5, g6, hw⟩ := hO
  have hf0 : ∀ z, (z < 8 ∨ 24 ≤ z) → I z = I z := fun _ _ => rfl
  refine ev_aload_n 1 rfl d31_0 rfl ?_
  refine ev_getr 4 rfl 3 1 d31_1 rfl (by omega) (G.1 _ _ (rfl : ai_sp 8 = (3, 0)) (by decide) (by decide)) (G.2 _ _ _ (rfl : ai_rf 8 1 = some 10)) ?_
  refine ev_iconst (v := nI 0) 5 rfl d31_4 (by decide) ?_
  refine ev_cu1 8 rfl 1 d31_5 rfl rfl (by rw [G.1 _ _ (rfl : ai_sp 10 = (0, 0)) (by decide) (by decide)]; rfl) (by omega) rfl (big_set G (big_16 10 (by omega)) (by decide) (by decide) (m := 0) (by omega)) (fun I_1 hr_5 => ?_)
  obtain ⟨b_2, f_3⟩ := hr_5
  have f_4 : ∀ z, (z < 8 ∨ 24 ≤ z) → I_1 z = I z := fun z hz => (f_3 z (by omega)).trans (hf0 z hz)
  have g_5 : I_1 8 4 = nI n := by rw [f_3 _ (by omega)]; exact g4
  have g_6 : I_1 8 5 = nI t - 1 := by rw [f_3 _ (by omega)]; exact g5
  have g_7 : I_1 8 6 = nI k := by rw [f_3 _ (by omega)]; exact g6
  have w_8 : ∀ b, b < n → ai_BG I_1 (16 + 2 * b) 16 (W b) := fun b hb9 => (hw b hb9).eq (f_3 _ (by omega)) (f_3 _ (by omega))
  refine ev_aload_n 9 rfl d31_8 rfl ?_
  refine ev_iconst (v := nI 0) 10 rfl d31_9 (by decide) ?_
  obtain ⟨I_9, hI_9⟩ : ∃ z, z = ai_ui I_1 8 7 (nI 0) := ⟨_, rfl⟩
  refine ev_puti (I2 := I_9) 13 rfl 3 7 d31_10 rfl (by omega) (G.1 _ _ (rfl : ai_sp 8 = (3, 0)) (by decide) (by decide)) (fun h => absurd h (by decide)) hI_9.symm ?_
  have b_10 : ai_BG I_9 10 16 0 := b_2.eq (ui_row hI_9 (by omega)) (ui_row hI_9 (by omega))
  have f_11 : ∀ z, (z < 8 ∨ 24 ≤ z) → I_9 z = I z := fun z hz => (ui_row hI_9 (by omega)).trans (f_4 z hz)
  have g_12 : I_9 8 4 = nI n := by rw [ui_other hI_9 (by omega)]; exact g_5
  have g_13 : I_9 8 5 = nI t - 1 := by rw [ui_other hI_9 (by omega)]; exact g_6
  have g_14 : I_9 8 6 = nI k := by rw [ui_other hI_9 (by omega)]; exact g_7
  have g_15 : I_9 8 7 = nI 0 := ui_same hI_9
  have w_16 : ∀ b, b < n → ai_BG I_9 (16 + 2 * b) 16 (W b) := fun b hb9 => (w_8 b hb9).eq (ui_row hI_9 (by omega)) (ui_row hI_9 (by omega))
  refine ev_iconst (v := nI 0) 14 rfl d31_13 (by decide) ?_
  refine ev_store_in 15 rfl d31_14 (Nat.le_of_ble_eq_true rfl) rfl ?_
  show ai_Ev _ _ _ [some (.ref 8), some (.int (nI 0))] _ _ _
  exact o_close_loop G hn ht hfit n 0 _ (by omega) g_12 g_13 g_14 w_16 b_10 g_15 f_11
theorem o_reaches (G : ai_G S F) {n t k l T mark : Nat} {W : Nat → Nat} (hn : n ≤ 4) (ht : t ≤ 4) (hl : l < n) (hm : mark ≤ 1000) (hfT : mark * T < 2147483648 ^ 16) (hfW : 1000 * W l < 2147483648 ^ 16) {I : Nat → Nat → Int32} (hO : ai_OS I n t k W) (h7 : I 8 7 = nI l) (hS : ai_BG I 10 16 T) :
    ai_Ev none 33 0 [some (.ref 8), some (.int (nI mark))] [] (S, I, L, F) (ai_Pz S F L (mark * T ≤ 1000 * W l) (fun I2 => ai_OS I2 n t k W ∧ I2 8 7 = nI l ∧ ai_BG I2 10 16 T ∧ ai_fo I I2)) := by
  obtain ⟨g4, g5, g6, hw⟩ := hO
  have hf0 : ∀ z, (z < 8 ∨ 24 ≤ z) → I z = I z := fun _ _ => rfl
  have hfW2 : W l < 2147483648 ^ 16 := by omega
  have hfT2 : T < 2147483648 ^ 16 := by rcases hS with ⟨s9, _, hs9, hok9, hv9, _⟩; rw [← hv9]; exact Nat.lt_of_lt_of_le (val_lt (fun k hk => (hok9 k hk).2)) (Nat.pow_le_pow_right (by omega) hs9)
  refine ev_aload_n 1 rfl d33_0 rfl ?_
  refine ev_getr 4 rfl 3 2 d33_1 rfl (by omega) (G.1 _ _ (rfl : ai_sp 8 = (3, 0)) (by decide) (by decide)) (G.2 _ _ _ (rfl : ai_rf 8 2 = some 12)) ?_
  refine ev_aload_n 5 rfl d33_4 rfl ?_
  refine ev_getr 8 rfl 3 0 d33_5 rfl (by omega) (G.1 _ _ (rfl : ai_sp 8 = (3, 0)) (by decide) (by decide)) (G.2 _ _ _ (rfl : ai_rf 8 0 = some 9)) ?_
  refine ev_aload_n 9 rfl d33_8 rfl ?_
  refine ev_geti (v := nI l) 12 rfl 3 7 d33_9 rfl (by omega) (G.1 _ _ (rfl : ai_sp 8 = (3, 0)) (by decide) (by decide)) h7 ?_
  refine ev_aald_n 13 rfl d33_12 (by omega) (by decide) (G.1 _ _ (rfl : ai_sp 9 = (108, 4)) (by decide) (by decide)) (by omega) (by decide) (G.2 _ _ _ (rf_weight (by omega))) ?_
  refine ev_cu1 16 rfl 2 d33_13 rfl rfl (by rw [G.1 _ _ (rfl : ai_sp 12 = (0, 0)) (by decide) (by decide)]; rfl) (by omega) rfl (big_setB G (big_16 12 (by omega)) (by decide) (big_w (b := l) (by omega)) (by decide) (by omega) (hw l (by omega)) (by first | omega | assumption)) (fun I_1 hr_13 => ?_)
  obtain ⟨b_2, f_3⟩ := hr_13
  have b_4 : ai_BG I_1 10 16 T := hS.eq (f_3 _ (by omega)) (f_3 _ (by omega))
  have f_5 : ∀ z, (z < 8 ∨ 24 ≤ z) → I_1 z = I z := fun z hz => (f_3 z (by omega)).trans (hf0 z hz)
  have g_6 : I_1 8 4 = nI n := by rw [f_3 _ (by omega)]; exact g4
  have g_7 : I_1 8 5 = nI t - 1 := by rw [f_3 _ (by omega)]; exact g5
  have g_8 : I_1 8 6 = nI k := by rw [f_3 _ (by omega)]; exact g6
  have g_9 : I_1 8 7 = nI l := by rw [f_3 _ (by omega)]; exact h7
  have w_10 : ∀ b, b < n → ai_BG I_1 (16 + 2 * b) 16 (W b) := fun b hb9 => (hw b hb9).eq (f_3 _ (by omega)) (f_3 _ (by omega))
  refine ev_aload_n 17 rfl d33_16 rfl ?_
  refine ev_getr 20 rfl 3 2 d33_17 rfl (by omega) (G.1 _ _ (rfl : ai_sp 8 = (3, 0)) (by decide) (by decide)) (G.2 _ _ _ (rfl : ai_rf 8 2 = some 12)) ?_
  refine ev_sipush (v := nI 1000) 23 rfl d33_20 (by decide) ?_
  refine ev_cu1 26 rfl 4 d33_23 rfl rfl (by rw [G.1 _ _ (rfl : ai_sp 12 = (0, 0)) (by decide) (by decide)]; rfl) (by omega) rfl (big_mul G (big_16 12 (by omega)) (by decide) b_2 (m := 1000) (by omega) (by first | omega | assumption)) (fun I_11 hr_23 => ?_)
  obtain ⟨b_12, f_13⟩ := hr_23
  have b_14 : ai_BG I_11 10 16 T := b_4.eq (f_13 _ (by omega)) (f_13 _ (by omega))
  have f_15 : ∀ z, (z < 8 ∨ 24 ≤ z) → I_11 z = I z := fun z hz => (f_13 z (by omega)).trans (f_5 z hz)
  have g_16 : I_11 8 4 = nI n := by rw [f_13 _ (by omega)]; exact g_6
  have g_17 : I_11 8 5 = nI t - 1 := by rw [f_13 _ (by omega)]; exact g_7
  have g_18 : I_11 8 6 = nI k := by rw [f_13 _ (by omega)]; exact g_8
  have g_19 : I_11 8 7 = nI l := by rw [f_13 _ (by omega)]; exact g_9
  have w_20 : ∀ b, b < n → ai_BG I_11 (16 + 2 * b) 16 (W b) := fun b hb9 => (w_10 b hb9).eq (f_13 _ (by omega)) (f_13 _ (by omega))
  refine ev_aload_n 27 rfl d33_26 rfl ?_
  refine ev_getr 30 rfl 3 3 d33_27 rfl (by omega) (G.1 _ _ (rfl : ai_sp 8 = (3, 0)) (by decide) (by decide)) (G.2 _ _ _ (rfl : ai_rf 8 3 = some 14)) ?_
  refine ev_aload_n 31 rfl d33_30 rfl ?_
  refine ev_getr 34 rfl 3 1 d33_31 rfl (by omega) (G.1 _ _ (rfl : ai_sp 8 = (3, 0)) (by decide) (by decide)) (G.2 _ _ _ (rfl : ai_rf 8 1 = some 10)) ?_
  refine ev_cu1 37 rfl 2 d33_34 rfl rfl (by rw [G.1 _ _ (rfl : ai_sp 14 = (0, 0)) (by decide) (by decide)]; rfl) (by omega) rfl (big_setB G (big_16 14 (by omega)) (by decide) (big_16 10 (by omega)) (by decide) (by omega) b_14 (by first | omega | assumption)) (fun I_21 hr_34 => ?_)
  obtain ⟨b_22, f_23⟩ := hr_34
  have b_24 : ai_BG I_21 10 16 T := b_14.eq (f_23 _ (by omega)) (f_23 _ (by omega))
  have b_25 : ai_BG I_21 12 16 (1000 * (W l)) := b_12.eq (f_23 _ (by omega)) (f_23 _ (by omega))
  have f_26 : ∀ z, (z < 8 ∨ 24 ≤ z) → I_21 z = I z := fun z hz => (f_23 z (by omega)).trans (f_15 z hz)
  have g_27 : I_21 8 4 = nI n := by rw [f_23 _ (by omega)]; exact g_16
  have g_28 : I_21 8 5 = nI t - 1 := by rw [f_23 _ (by omega)]; exact g_17
  have g_29 : I_21 8 6 = nI k := by rw [f_23 _ (by omega)]; exact g_18
  have g_30 : I_21 8 7 = nI l := by rw [f_23 _ (by omega)]; exact g_19
  have w_31 : ∀ b, b < n → ai_BG I_21 (16 + 2 * b) 16 (W b) := fun b hb9 => (w_20 b hb9).eq (f_23 _ (by omega)) (f_23 _ (by omega))
  refine ev_aload_n 38 rfl d33_37 rfl ?_
  refine ev_getr 41 rfl 3 3 d33_38 rfl (by omega) (G.1 _ _ (rfl : ai_sp 8 = (3, 0)) (by decide) (by decide)) (G.2 _ _ _ (rfl : ai_rf 8 3 = some 14)) ?_
  refine ev_iload_n 42 rfl d33_41 rfl ?_
  refine ev_cu1 45 rfl 4 d33_42 rfl rfl (by rw [G.1 _ _ (rfl : ai_sp 14 = (0, 0)) (by decide) (by decide)]; rfl) (by omega) rfl (big_mul G (big_16 14 (by omega)) (by decide) b_22 (m := mark) (by omega) (by first | omega | assumption)) (fun I_32 hr_42 => ?_)
  obtain ⟨b_33, f_34⟩ := hr_42
  have b_35 : ai_BG I_32 10 16 T := b_24.eq (f_34 _ (by omega)) (f_34 _ (by omega))
  have b_36 : ai_BG I_32 12 16 (1000 * (W l)) := b_25.eq (f_34 _ (by omega)) (f_34 _ (by omega))
  have f_37 : ∀ z, (z < 8 ∨ 24 ≤ z) → I_32 z = I z := fun z hz => (f_34 z (by omega)).trans (f_26 z hz)
  have g_38 : I_32 8 4 = nI n := by rw [f_34 _ (by omega)]; exact g_27
  have g_39 : I_32 8 5 = nI t - 1 := by rw [f_34 _ (by omega)]; exact g_28
  have g_40 : I_32 8 6 = nI k := by rw [f_34 _ (by omega)]; exact g_29
  have g_41 : I_32 8 7 = nI l := by rw [f_34 _ (by omega)]; exact g_30
  have w_42 : ∀ b, b < n → ai_BG I_32 (16 + 2 * b) 16 (W b) := fun b hb9 => (w_31 b hb9).eq (f_34 _ (by omega)) (f_34 _ (by omega))
  refine ev_aload_n 46 rfl d33_45 rfl ?_
  refine ev_getr 49 rfl 3 3 d33_46 rfl (by omega) (G.1 _ _ (rfl : ai_sp 8 = (3, 0)) (by decide) (by decide)) (G.2 _ _ _ (rfl : ai_rf 8 3 = some 14)) ?_
  refine ev_aload_n 50 rfl d33_49 rfl ?_
  refine ev_getr 53 rfl 3 2 d33_50 rfl (by omega) (G.1 _ _ (rfl : ai_sp 8 = (3, 0)) (by decide) (by decide)) (G.2 _ _ _ (rfl : ai_rf 8 2 = some 12)) ?_
  refine ev_cb1 56 rfl 7 d33_53 rfl rfl (by rw [G.1 _ _ (rfl : ai_sp 14 = (0, 0)) (by decide) (by decide)]; rfl) (by omega) rfl (big_above G (big_16 14 (by omega)) (by decide) (big_16 12 (by omega)) (by decide) b_33 b_36) (fun hq_53 => ?_) (fun hq_53 => ?_)
  · refine ev_if_T 63 (by decide) (by decide) d33_56 ?_
    refine ev_iconst (v := nI 0) 64 rfl d33_63 (by decide) ?_
    refine ev_iret (Or.inr ⟨rfl, Or.inl (by decide)⟩) d33_64 ?_
    exact ⟨_, Or.inr ⟨by omega, rfl⟩, rfl, ⟨g_38, g_39, g_40, w_42⟩, g_41, b_35, f_37⟩
  · refine ev_if_F 63 59 (by decide) rfl (by decide) d33_56 ?_
    refine ev_iconst (v := nI 1) 60 rfl d33_59 (by decide) ?_
    refine ev_goto 64 (by decide) d33_60 ?_
    refine ev_iret (Or.inr ⟨rfl, Or.inr (by decide)⟩) d33_64 ?_
    exact ⟨_, Or.inl ⟨by omega, rfl⟩, rfl, ⟨g_38, g_39, g_40, w_42⟩, g_41, b_35, f_37⟩
end ODDS
