section ODDS
variable {S : List (Nat × Nat)} {F : Nat → Nat → Option Nat} {L : Nat → Nat → Int64}
def ai_fo (I I2 : Nat → Nat → Int32) : Prop := ∀ z, (z < 8 ∨ 24 ≤ z) → I2 z = I z
/-- the odds: so many answers, the truth, the looks, the weights -/
def ai_OS (I : Nat → Nat → Int32) (n t k : Nat) (W : Nat → Nat) : Prop := I 8 4 = nI n ∧ I 8 5 = nI t - 1 ∧ I 8 6 = nI k ∧ ∀ b, b < n → ai_BG I (16 + 2 * b) 16 (W b)

theorem o_start_loop (G : ai_G S F) {n t : Nat} (hn : n ≤ 4) (ht : t ≤ 4) {I0 : Nat → Nat → Int32} : ∀ (z b : Nat) (I : Nat → Nat → Int32), b + z = n → I 8 4 = nI n → I 8 5 = nI t - 1 → I 8 6 = nI 0 → (∀ x, x < b → ai_BG I (16 + 2 * x) 16 ((fun x => if t = 0 ∨ t = x + 1 then 1 else 0) x)) → (∀ z, (z < 8 ∨ 24 ≤ z) → I z = I0 z) →
    ai_Ev none 29 21 [some (.ref 8), some (.int (nI n)), some (.int (nI t - 1)), some (.int (nI b))] [] (S, I, L, F) (ai_Pu S F L (fun I2 => ai_OS I2 n t 0 (fun x => if t = 0 ∨ t = x + 1 then 1 else 0) ∧ ai_fo I0 I2)) := by
  intro z
  induction z with
  | zero =>
    intro b I hz g4 g5 g6 hw hf
    refine ev_iload_n 22 rfl d29_21 rfl ?_
    refine ev_aload_n 23 rfl d29_22 rfl ?_
    refine ev_geti (v := nI n) 26 rfl 3 4 d29_23 rfl (by omega) (G.1 _ _ (rfl : ai_sp 8 = (3, 0)) (by decide) (by decide)) g4 ?_
    refine ev_icmp 65 29 (by decide) rfl (cn_ge (by omega) (by omega)) d29_26 (fun hc_26 => ?_) (fun hc_26 => absurd hc_26 (by omega))
    refine ev_vret rfl d29_65 ?_
    have e : b = n := by omega
    subst e
    exact ⟨rfl, _, rfl, ⟨g4, g5, g6, hw⟩, hf⟩
  | succ z ih =>
    intro b I hz g4 g5 g6 hw hf
    refine ev_iload_n 22 rfl d29_21 rfl ?_
    refine ev_aload_n 23 rfl d29_22 rfl ?_
    refine ev_geti (v := nI n) 26 rfl 3 4 d29_23 rfl (by omega) (G.1 _ _ (rfl : ai_sp 8 = (3, 0)) (by decide) (by decide)) g4 ?_
    refine ev_icmp 65 29 (by decide) rfl (cn_ge (by omega) (by omega)) d29_26 (fun hc_26 => absurd hc_26 (by omega)) (fun hc_26 => ?_)
    refine ev_aload_n 30 rfl d29_29 rfl ?_
    refine ev_getr 33 rfl 3 0 d29_30 rfl (by omega) (G.1 _ _ (rfl : ai_sp 8 = (3, 0)) (by decide) (by decide)) (G.2 _ _ _ (rfl : ai_rf 8 0 = some 9)) ?_
    refine ev_iload_n 34 rfl d29_33 rfl ?_
    refine ev_aald_n 35 rfl d29_34 (by omega) (by decide) (G.1 _ _ (rfl : ai_sp 9 = (108, 4)) (by decide) (by decide)) (by omega) (by decide) (G.2 _ _ _ (rf_weight (by omega))) ?_
    refine ev_aload_n 36 rfl d29_35 rfl ?_
    refine ev_geti (v := nI t - 1) 39 rfl 3 5 d29_36 rfl (by omega) (G.1 _ _ (rfl : ai_sp 8 = (3, 0)) (by decide) (by decide)) g5 ?_
    refine ev_iconst (v := (-1)) 40 rfl d29_39 (by decide) ?_
    refine ev_icmp 51 43 (by decide) rfl (cq_eq (by omega)) d29_40 (fun hc_40 => ?_) (fun hc_40 => ?_)
    · refine ev_iconst (v := nI 1) 52 rfl d29_51 (by decide) ?_
      refine ev_goto 56 (by decide) d29_52 ?_
      refine ev_cu1 59 rfl 1 d29_56 rfl rfl (by rw [G.1 _ _ (big_w (b := b) (by omega)).1 (big_w (b := b) (by omega)).2.2.2.1 (by have := (big_w (b := b) (by omega)).2.2.2.2; omega)]; rfl) (big_w (b := b) (by omega)).2.2.2.1 rfl (big_set G (big_w (b := b) (by omega)) (by decide) (by decide) (m := 1) (by omega)) (fun I_1 hr_56 => ?_)
      obtain ⟨b_2, f_3⟩ := hr_56
      have f_4 : ∀ z, (z < 8 ∨ 24 ≤ z) → I_1 z = I0 z := fun z hz => (f_3 z (by omega)).trans (hf z hz)
      have g_5 : I_1 8 4 = nI n := by rw [f_3 _ (by omega)]; exact g4
      have g_6 : I_1 8 5 = nI t - 1 := by rw [f_3 _ (by omega)]; exact g5
      have g_7 : I_1 8 6 = nI 0 := by rw [f_3 _ (by omega)]; exact g6
      refine ev_iinc (v := nI (b + 1)) 62 rfl d29_59 rfl (Nat.le_of_ble_eq_true rfl) (nI_add _ 1) rfl ?_
      show ai_Ev _ _ _ [some (.ref 8), some (.int (nI n)), some (.int (nI t - 1)), some (.int (nI (b + 1)))] _ _ _
      refine ev_goto 21 (by decide) d29_62 ?_
      refine ih (b + 1) I_1 (by omega) g_5 g_6 g_7 ?_ f_4
      intro x hx
      by_cases z9 : x = b
      · subst z9
        show ai_BG _ _ _ (if t = 0 ∨ t = x + 1 then 1 else 0)
        first | (rw [if_pos (by omega)]; exact b_2) | (rw [if_neg (by omega)]; exact b_2)
      · exact (hw x (by omega)).eq (f_3 _ (by omega)) (f_3 _ (by omega))
    · refine ev_aload_n 44 rfl d29_43 rfl ?_
      refine ev_geti (v := nI t - 1) 47 rfl 3 5 d29_44 rfl (by omega) (G.1 _ _ (rfl : ai_sp 8 = (3, 0)) (by decide) (by decide)) g5 ?_
      refine ev_iload_n 48 rfl d29_47 rfl ?_
      refine ev_icmp 55 51 (by decide) rfl (cmn_ne (by omega) (by omega)) d29_48 (fun hc_48 => ?_) (fun hc_48 => ?_)
      · refine ev_iconst (v := nI 0) 56 rfl d29_55 (by decide) ?_
        refine ev_cu1 59 rfl 1 d29_56 rfl rfl (by rw [G.1 _ _ (big_w (b := b) (by omega)).1 (big_w (b := b) (by omega)).2.2.2.1 (by have := (big_w (b := b) (by omega)).2.2.2.2; omega)]; rfl) (big_w (b := b) (by omega)).2.2.2.1 rfl (big_set G (big_w (b := b) (by omega)) (by decide) (by decide) (m := 0) (by omega)) (fun I_1 hr_56 => ?_)
        obtain ⟨b_2, f_3⟩ := hr_56
        have f_4 : ∀ z, (z < 8 ∨ 24 ≤ z) → I_1 z = I0 z := fun z hz => (f_3 z (by omega)).trans (hf z hz)
        have g_5 : I_1 8 4 = nI n := by rw [f_3 _ (by omega)]; exact g4
        have g_6 : I_1 8 5 = nI t - 1 := by rw [f_3 _ (by omega)]; exact g5
        have g_7 : I_1 8 6 = nI 0 := by rw [f_3 _ (by omega)]; exact g6
        refine ev_iinc (v := nI (b + 1)) 62 rfl d29_59 rfl (Nat.le_of_ble_eq_true rfl) (nI_add _ 1) rfl ?_
        show ai_Ev _ _ _ [some (.ref 8), some (.int (nI n)), some (.int (nI t - 1)), some (.int (nI (b + 1)))] _ _ _
        refine ev_goto 21 (by decide) d29_62 ?_
        refine ih (b + 1) I_1 (by omega) g_5 g_6 g_7 ?_ f_4
        intro x hx
        by_cases z9 : x = b
        · subst z9
          show ai_BG _ _ _ (if t = 0 ∨ t = x + 1 then 1 else 0)
          first | (rw [if_pos (by omega)]; exact b_2) | (rw [if_neg (by omega)]; exact b_2)
        · exact (hw x (by omega)).eq (f_3 _ (by omega)) (f_3 _ (by omega))
      · refine ev_iconst (v := nI 1) 52 rfl d29_51 (by decide) ?_
        refine ev_goto 56 (by decide) d29_52 ?_
        refine ev_cu1 59 rfl 1 d29_56 rfl rfl (by rw [G.1 _ _ (big_w (b := b) (by omega)).1 (big_w (b := b) (by omega)).2.2.2.1 (by have := (big_w (b := b) (by omega)).2.2.2.2; omega)]; rfl) (big_w (b := b) (by omega)).2.2.2.1 rfl (big_set G (big_w (b := b) (by omega)) (by decide) (by decide) (m := 1) (by omega)) (fun I_1 hr_56 => ?_)
        obtain ⟨b_2, f_3⟩ := hr_56
        have f_4 : ∀ z, (z < 8 ∨ 24 ≤ z) → I_1 z = I0 z := fun z hz => (f_3 z (by omega)).trans (hf z hz)
        have g_5 : I_1 8 4 = nI n := by rw [f_3 _ (by omega)]; exact g4
        have g_6 : I_1 8 5 = nI t - 1 := by rw [f_3 _ (by omega)]; exact g5
        have g_7 : I_1 8 6 = nI 0 := by rw [f_3 _ (by omega)]; exact g6
        refine ev_iinc (v := nI (b + 1)) 62 rfl d29_59 rfl (Nat.le_of_ble_eq_true rfl) (nI_add _ 1) rfl ?_
        show ai_Ev _ _ _ [some (.ref 8), some (.int (nI n)), some (.int (nI t - 1)), some (.int (nI (b + 1)))] _ _ _
        refine ev_goto 21 (by decide) d29_62 ?_
        refine ih (b + 1) I_1 (by omega) g_5 g_6 g_7 ?_ f_4
        intro x hx
        by_cases z9 : x = b
        · subst z9
          show ai_BG _ _ _ (if t = 0 ∨ t = x + 1 then 1 else 0)
          first | (rw [if_pos (by omega)]; exact b_2) | (rw [if_neg (by omega)]; exact b_2)
        · exact (hw x (by omega)).eq (f_3 _ (by omega)) (f_3 _ (by omega))
theorem o_start (G : ai_G S F) {n t : Nat} (hn : n ≤ 4) (ht : t ≤ 4) {I : Nat → Nat → Int32}
    : ai_Ev none 29 0 [some (.ref 8), some (.int (nI n)), some (.int (nI t - 1)), none] [] (S, I, L, F) (ai_Pu S F L (fun I2 => ai_OS I2 n t 0 (fun x => if t = 0 ∨ t = x + 1 then 1 else 0) ∧ ai_fo I I2)) := by
  refine ev_aload_n 1 rfl d29_0 rfl ?_
  refine ev_iload_n 2 rfl d29_1 rfl ?_
  refine ev_iconst (v := nI 4) 3 rfl d29_2 (by decide) ?_
  refine ev_min (v := nI n) 6 rfl d29_3 rfl rfl (if_neg (fun h => absurd ((nI_ltI (by decide) (by omega)).mp h) (by omega))) ?_
  obtain ⟨I_1, hI_1⟩ : ∃ z, z = ai_ui I 8 4 (nI n) := ⟨_, rfl⟩
  refine ev_puti (I2 := I_1) 9 rfl 3 4 d29_6 rfl (by omega) (G.1 _ _ (rfl : ai_sp 8 = (3, 0)) (by decide) (by decide)) (fun h => absurd h (by decide)) hI_1.symm ?_
  refine ev_aload_n 10 rfl d29_9 rfl ?_
  refine ev_iload_n 11 rfl d29_10 rfl ?_
  obtain ⟨I_2, hI_2⟩ : ∃ z, z = ai_ui I_1 8 5 (nI t - 1) := ⟨_, rfl⟩
  refine ev_puti (I2 := I_2) 14 rfl 3 5 d29_11 rfl (by omega) (G.1 _ _ (rfl : ai_sp 8 = (3, 0)) (by decide) (by decide)) (fun h => absurd h (by decide)) hI_2.symm ?_
  refine ev_aload_n 15 rfl d29_14 rfl ?_
  refine ev_iconst (v := nI 0) 16 rfl d29_15 (by decide) ?_
  obtain ⟨I_3, hI_3⟩ : ∃ z, z = ai_ui I_2 8 6 (nI 0) := ⟨_, rfl⟩
  refine ev_puti (I2 := I_3) 19 rfl 3 6 d29_16 rfl (by omega) (G.1 _ _ (rfl : ai_sp 8 = (3, 0)) (by decide) (by decide)) (fun h => absurd h (by decide)) hI_3.symm ?_
  refine ev_iconst (v := nI 0) 20 rfl d29_19 (by decide) ?_
  refine ev_store_in 21 rfl d29_20 (Nat.le_of_ble_eq_true rfl) rfl ?_
  show ai_Ev _ _ _ [some (.ref 8), some (.int (nI n)), some (.int (nI t - 1)), some (.int (nI 0))] _ _ _
  refine o_start_loop G hn ht n 0 _ (by omega) ?_ ?_ ?_ (fun x hx => absurd hx (by omega)) ?_
  · rw [ui_other hI_3 (by omega), ui_other hI_2 (by omega)]; exact ui_same hI_1
  · rw [ui_other hI_3 (by omega)]; exact ui_same hI_2
  · exact ui_same hI_3
  · intro z hz
    rw [ui_row hI_3 (by omega), ui_row hI_2 (by omega), ui_row hI_1 (by omega)]
theorem qs_le {f : Nat → Nat} {n b : Nat} (h : b < n) : ai_qs f b + f b ≤ ai_qs f n := by
  induction n with
  | zero => omega
  | succ n ih =>
    show _ ≤ ai_qs f n + f n
    rcases Nat.lt_or_ge b n with z | z
    · have := ih z; omega
    · have : b = n := by omega
      subst this; omega
theorem qa_lt {f : Nat → Nat} {n : Nat} (h : 0 < n) : ai_qa f n < n := by
  induction n with
  | zero => omega
  | succ n ih =>
    show (if f (ai_qa f n) < f n then n else ai_qa f n) < n + 1
    split
    · omega
    · rcases Nat.eq_zero_or_pos n with z | z
      · subst z; exact Nat.lt_succ_self _
      · have := ih z; omega

theorem o_above (G : ai_G S F) {n t k : Nat} {W : Nat → Nat} (hn : n ≤ 4) (ht : t ≤ 4) {I : Nat → Nat → Int32} (hO : ai_OS I n t k W) {b c : Nat} (hb : b < n) (hc : c < n) :
    ai_Ev none 32 0 [some (.ref 8), some (.int (nI b)), some (.int (nI c))] [] (S, I, L, F) (ai_Pb S F I L (W c < W b)) := by
  obtain ⟨g4, g5, g6, hw⟩ := hO
  refine ev_iload_n 1 rfl d32_0 rfl ?_
  refine ev_if_F 46 4 (by decide) rfl (c0_ltF (by omega)) d32_1 ?_
  refine ev_iload_n 5 rfl d32_4 rfl ?_
  refine ev_aload_n 6 rfl d32_5 rfl ?_
  refine ev_geti (v := nI n) 9 rfl 3 4 d32_6 rfl (by omega) (G.1 _ _ (rfl : ai_sp 8 = (3, 0)) (by decide) (by decide)) g4 ?_
  refine ev_icmp 46 12 (by decide) rfl (cn_ge (by omega) (by omega)) d32_9 (fun hc_9 => absurd hc_9 (by omega)) (fun hc_9 => ?_)
  refine ev_iload_n 13 rfl d32_12 rfl ?_
  refine ev_if_F 46 16 (by decide) rfl (c0_ltF (by omega)) d32_13 ?_
  refine ev_iload_n 17 rfl d32_16 rfl ?_
  refine ev_aload_n 18 rfl d32_17 rfl ?_
  refine ev_geti (v := nI n) 21 rfl 3 4 d32_18 rfl (by omega) (G.1 _ _ (rfl : ai_sp 8 = (3, 0)) (by decide) (by decide)) g4 ?_
  refine ev_icmp 46 24 (by decide) rfl (cn_ge (by omega) (by omega)) d32_21 (fun hc_21 => absurd hc_21 (by omega)) (fun hc_21 => ?_)
  refine ev_aload_n 25 rfl d32_24 rfl ?_
  refine ev_getr 28 rfl 3 0 d32_25 rfl (by omega) (G.1 _ _ (rfl : ai_sp 8 = (3, 0)) (by decide) (by decide)) (G.2 _ _ _ (rfl : ai_rf 8 0 = some 9)) ?_
  refine ev_iload_n 29 rfl d32_28 rfl ?_
  refine ev_aald_n 30 rfl d32_29 (by omega) (by decide) (G.1 _ _ (rfl : ai_sp 9 = (108, 4)) (by decide) (by decide)) (by omega) (by decide) (G.2 _ _ _ (rf_weight (by omega))) ?_
  refine ev_aload_n 31 rfl d32_30 rfl ?_
  refine ev_getr 34 rfl 3 0 d32_31 rfl (by omega) (G.1 _ _ (rfl : ai_sp 8 = (3, 0)) (by decide) (by decide)) (G.2 _ _ _ (rfl : ai_rf 8 0 = some 9)) ?_
  refine ev_iload_n 35 rfl d32_34 rfl ?_
  refine ev_aald_n 36 rfl d32_35 (by omega) (by decide) (G.1 _ _ (rfl : ai_sp 9 = (108, 4)) (by decide) (by decide)) (by omega) (by decide) (G.2 _ _ _ (rf_weight (by omega))) ?_
  refine ev_cb1 39 rfl 7 d32_36 rfl rfl (by rw [G.1 _ _ (big_w (b := b) (by omega)).1 (big_w (b := b) (by omega)).2.2.2.1 (by have := (big_w (b := b) (by omega)).2.2.2.2; omega)]; rfl) (big_w (b := b) (by omega)).2.2.2.1 rfl (big_above G (big_w (b := b) (by omega)) (by decide) (big_w (b := c) (by omega)) (by decide) (hw b (by omega)) (hw c (by omega))) (fun hq_36 => ?_) (fun hq_36 => ?_)
  · refine ev_if_F 46 42 (by decide) rfl (by decide) d32_39 ?_
    refine ev_iconst (v := nI 1) 43 rfl d32_42 (by decide) ?_
    refine ev_goto 47 (by decide) d32_43 ?_
    refine ev_iret (Or.inr ⟨rfl, Or.inr (by decide)⟩) d32_47 ?_
    exact ⟨Or.inl ⟨by omega, rfl⟩, rfl⟩
  · refine ev_if_T 46 (by decide) (by decide) d32_39 ?_
    refine ev_iconst (v := nI 0) 47 rfl d32_46 (by decide) ?_
    refine ev_iret (Or.inr ⟨rfl, Or.inl (by decide)⟩) d32_47 ?_
    exact ⟨Or.inr ⟨by omega, rfl⟩, rfl⟩
theorem o_hear_loop (G : ai_G S F) {n t k : Nat} {W : Nat → Nat} (hn : n ≤ 4) (ht : t ≤ 4) {j q a : Nat} {V U Fc : Nat → Nat} (hj : j < 24) (hq : q < 5) (ha : a < 4) (hVl : ∀ b, b < 4 → V b < 1000000) (hUl : ∀ o, o < 4 → U o < 1000000) (hF : ∀ b, b < n → (1 + V b) * ai_qp (fun x => if x = b then 1 else n + U x) n = Fc b) (hFl : ∀ b, b < n → Fc b < 2147483648) (hfit : ∀ b, b < n → Fc b * W b < 2147483648 ^ 16) {I0 : Nat → Nat → Int32} (hV : ∀ b, b < 4 → I0 (76 + 4 * j + 2) ((q * 4 + a) * 4 + b) = nI (V b)) (hB : ∀ o, o < 4 → I0 (76 + 4 * j + 3) (q * 4 + o) = nI (U o)) : ∀ (z b : Nat) (I : Nat → Nat → Int32), b + z = n → I 8 4 = nI n → I 8 5 = nI t - 1 → I 8 6 = nI k → (∀ x, x < n → ai_BG I (16 + 2 * x) 16 (if x < b then Fc x * W x else W x)) → (∀ z, (z < 8 ∨ 24 ≤ z) → I z = I0 z) →
    ai_Ev none 30 21 [some (.ref 8), some (.ref (76 + 4 * j)), some (.int (nI q)), some (.int (nI a)), some (.int (nI b))] [] (S, I, L, F) (ai_Pu S F L (fun I2 => ai_OS I2 n t k (fun x => Fc x * W x) ∧ ai_fo I0 I2)) := by
  intro z
  induction z with
  | zero =>
    intro b I hz g4 g5 g6 hw hf
    refine ev_iload 23 rfl d30_21 rfl ?_
    refine ev_aload_n 24 rfl d30_23 rfl ?_
    refine ev_geti (v := nI n) 27 rfl 3 4 d30_24 rfl (by omega) (G.1 _ _ (rfl : ai_sp 8 = (3, 0)) (by decide) (by decide)) g4 ?_
    refine ev_icmp 58 30 (by decide) rfl (cn_ge (by omega) (by omega)) d30_27 (fun hc_27 => ?_) (fun hc_27 => absurd hc_27 (by omega))
    refine ev_vret rfl d30_58 ?_
    have e : b = n := by omega
    subst e
    exact ⟨rfl, _, rfl, ⟨g4, g5, g6, fun x hx => by have k9 := hw x hx; rw [if_pos hx] at k9; exact k9⟩, hf⟩
  | succ z ih =>
    intro b I hz g4 g5 g6 hw hf
    refine ev_iload 23 rfl d30_21 rfl ?_
    refine ev_aload_n 24 rfl d30_23 rfl ?_
    refine ev_geti (v := nI n) 27 rfl 3 4 d30_24 rfl (by omega) (G.1 _ _ (rfl : ai_sp 8 = (3, 0)) (by decide) (by decide)) g4 ?_
    refine ev_icmp 58 30 (by decide) rfl (cn_ge (by omega) (by omega)) d30_27 (fun hc_27 => absurd hc_27 (by omega)) (fun hc_27 => ?_)
    have hmb := hFl b (by omega)
    have hfb := hfit b (by omega)
    have hwb : ai_BG I (16 + 2 * b) 16 (W b) := by have k9 := hw b (by omega); rw [if_neg (by omega)] at k9; exact k9
    refine ev_aload_n 31 rfl d30_30 rfl ?_
    refine ev_getr 34 rfl 3 0 d30_31 rfl (by omega) (G.1 _ _ (rfl : ai_sp 8 = (3, 0)) (by decide) (by decide)) (G.2 _ _ _ (rfl : ai_rf 8 0 = some 9)) ?_
    refine ev_iload 36 rfl d30_34 rfl ?_
    refine ev_aald_n 37 rfl d30_36 (by omega) (by decide) (G.1 _ _ (rfl : ai_sp 9 = (108, 4)) (by decide) (by decide)) (by omega) (by decide) (G.2 _ _ _ (rf_weight (by omega))) ?_
    refine ev_aload_n 38 rfl d30_37 rfl ?_
    refine ev_iload_n 39 rfl d30_38 rfl ?_
    refine ev_iload_n 40 rfl d30_39 rfl ?_
    refine ev_iload 42 rfl d30_40 rfl ?_
    refine ev_aload_n 43 rfl d30_42 rfl ?_
    refine ev_geti (v := nI n) 46 rfl 3 4 d30_43 rfl (by omega) (G.1 _ _ (rfl : ai_sp 8 = (3, 0)) (by decide) (by decide)) g4 ?_
    refine ev_cp4 49 rfl 26 d30_46 rfl rfl (by rw [G.1 _ _ (sp_judge (by omega)) (by omega) (by omega)]; rfl) (by omega) rfl (show ai_Ev none 26 0 _ [] (S, I, L, F) (ai_Pp S F I L (.int (nI (Fc b)))) from by rw [← hF b (by omega)]; exact j_factor G hj hq ha (by omega) hn (hVl _ (by omega)) hUl (by rw [hf _ (by omega)]; exact hV _ (by omega)) (fun o ho => by rw [hf _ (by omega)]; exact hB o ho)) ?_
    refine ev_cu1 52 rfl 4 d30_49 rfl rfl (by rw [G.1 _ _ (big_w (b := b) (by omega)).1 (big_w (b := b) (by omega)).2.2.2.1 (by have := (big_w (b := b) (by omega)).2.2.2.2; omega)]; rfl) (big_w (b := b) (by omega)).2.2.2.1 rfl (big_mul G (big_w (b := b) (by omega)) (by decide) hwb (m := Fc b) (by omega) (by first | omega | assumption)) (fun I_1 hr_49 => ?_)
    obtain ⟨b_2, f_3⟩ := hr_49
    have f_4 : ∀ z, (z < 8 ∨ 24 ≤ z) → I_1 z = I0 z := fun z hz => (f_3 z (by omega)).trans (hf z hz)
    have g_5 : I_1 8 4 = nI n := by rw [f_3 _ (by omega)]; exact g4
    have g_6 : I_1 8 5 = nI t - 1 := by rw [f_3 _ (by omega)]; exact g5
    have g_7 : I_1 8 6 = nI k := by rw [f_3 _ (by omega)]; exact g6
    refine ev_iinc (v := nI (b + 1)) 55 rfl d30_52 rfl (Nat.le_of_ble_eq_true rfl) (nI_add _ 1) rfl ?_
    show ai_Ev _ _ _ [some (.ref 8), some (.ref (76 + 4 * j)), some (.int (nI q)), some (.int (nI a)), some (.int (nI (b + 1)))] _ _ _
    refine ev_goto 21 (by decide) d30_55 ?_
    refine ih (b + 1) I_1 (by omega) g_5 g_6 g_7 ?_ f_4
    intro x hx
    by_cases z9 : x = b
    · subst z9
      rw [if_pos (by omega)]; exact b_2
    · have k9 := (hw x hx).eq (f_3 _ (by omega)) (f_3 _ (by omega))
      by_cases z8 : x < b
      · rw [if_pos z8] at k9; rw [if_pos (by omega)]; exact k9
      · rw [if_neg z8] at k9; rw [if_neg (by omega)]; exact k9
theorem o_hear (G : ai_G S F) {n t k : Nat} {W : Nat → Nat} (hn : n ≤ 4) (ht : t ≤ 4) {j q a : Nat} {V U Fc : Nat → Nat} (hj : j < 24) (hq : q < 5) (ha : a < 4) (hVl : ∀ b, b < 4 → V b < 1000000) (hUl : ∀ o, o < 4 → U o < 1000000) (hF : ∀ b, b < n → (1 + V b) * ai_qp (fun x => if x = b then 1 else n + U x) n = Fc b) (hFl : ∀ b, b < n → Fc b < 2147483648) (hfit : t = 0 → ∀ b, b < n → Fc b * W b < 2147483648 ^ 16) {I : Nat → Nat → Int32} (hO : ai_OS I n t k W) (hV : ∀ b, b < 4 → I (76 + 4 * j + 2) ((q * 4 + a) * 4 + b) = nI (V b)) (hB : ∀ o, o < 4 → I (76 + 4 * j + 3) (q * 4 + o) = nI (U o))
    : ai_Ev none 30 0 [some (.ref 8), some (.ref (76 + 4 * j)), some (.int (nI q)), some (.int (nI a)), none] [] (S, I, L, F) (ai_Pu S F L (fun I2 => ai_OS I2 n t (k + 1) (fun x => if t = 0 then Fc x * W x else W x) ∧ ai_fo I I2)) := by
  obtain ⟨g4, g5, g6, hw⟩ := hO
  have hf0 : ∀ z, (z < 8 ∨ 24 ≤ z) → I z = I z := fun _ _ => rfl
  refine ev_aload_n 1 rfl d30_0 rfl ?_
  refine ev_dup 2 rfl d30_1 rfl ?_
  refine ev_geti (v := nI k) 5 rfl 3 6 d30_2 rfl (by omega) (G.1 _ _ (rfl : ai_sp 8 = (3, 0)) (by decide) (by decide)) g6 ?_
  refine ev_iconst (v := nI 1) 6 rfl d30_5 (by decide) ?_
  refine ev_iadd (v := nI (k + 1)) 7 rfl d30_6 (nI_add _ _) ?_
  obtain ⟨I_1, hI_1⟩ : ∃ z, z = ai_ui I 8 6 (nI (k + 1)) := ⟨_, rfl⟩
  refine ev_puti (I2 := I_1) 10 rfl 3 6 d30_7 rfl (by omega) (G.1 _ _ (rfl : ai_sp 8 = (3, 0)) (by decide) (by decide)) (fun h => absurd h (by decide)) hI_1.symm ?_
  have f_2 : ∀ z, (z < 8 ∨ 24 ≤ z) → I_1 z = I z := fun z hz => (ui_row hI_1 (by omega)).trans (hf0 z hz)
  have g_3 : I_1 8 4 = nI n := by rw [ui_other hI_1 (by omega)]; exact g4
  have g_4 : I_1 8 5 = nI t - 1 := by rw [ui_other hI_1 (by omega)]; exact g5
  have g_6 : I_1 8 6 = nI (k + 1) := ui_same hI_1
  have w_7 : ∀ b, b < n → ai_BG I_1 (16 + 2 * b) 16 (W b) := fun b hb9 => (hw b hb9).eq (ui_row hI_1 (by omega)) (ui_row hI_1 (by omega))
  refine ev_aload_n 11 rfl d30_10 rfl ?_
  refine ev_geti (v := nI t - 1) 14 rfl 3 5 d30_11 rfl (by omega) (G.1 _ _ (rfl : ai_sp 8 = (3, 0)) (by decide) (by decide)) g_4 ?_
  refine ev_iconst (v := (-1)) 15 rfl d30_14 (by decide) ?_
  refine ev_icmp 58 18 (by decide) rfl (cq_ne (by omega)) d30_15 (fun hc_15 => ?_) (fun hc_15 => ?_)
  · refine ev_vret rfl d30_58 ?_
    refine ⟨rfl, _, rfl, ⟨g_3, g_4, g_6, fun x hx => ?_⟩, f_2⟩
    show ai_BG _ _ _ (if t = 0 then Fc x * W x else W x)
    rw [if_neg (by omega)]; exact w_7 x hx
  · refine ev_iconst (v := nI 0) 19 rfl d30_18 (by decide) ?_
    refine ev_store_i 21 rfl d30_19 ⟨rfl, Nat.le_of_ble_eq_true rfl⟩ rfl ?_
    show ai_Ev _ _ _ [some (.ref 8), some (.ref (76 + 4 * j)), some (.int (nI q)), some (.int (nI a)), some (.int (nI 0))] _ _ _
    have e9 : t = 0 := by omega
    refine (o_hear_loop G hn ht hj hq ha hVl hUl hF hFl (hfit e9) hV hB n 0 _ (by omega) g_3 g_4 g_6 ?_ f_2).imp ?_
    · intro x hx
      rw [if_neg (by omega)]; exact w_7 x hx
    · intro r h' ⟨h1, I3, h2, h3, h4⟩
      refine ⟨h1, I3, h2, ⟨h3.1, h3.2.1, h3.2.2.1, fun x hx => ?_⟩, h4⟩
      show ai_BG _ _ _ (if t = 0 then Fc x * W x else W x)
      rw [if_pos e9]; exact h3.2.2.2 x hx
theorem o_close_loop (G : ai_G S F) {n t k : Nat} {W : Nat → Nat} (hn : n ≤ 4) (ht : t ≤ 4) (hfit : ai_qs W n < 2147483648 ^ 16) {I0 : Nat → Nat → Int32} : ∀ (z b : Nat) (I : Nat → Nat → Int32), b + z = n → I 8 4 = nI n → I 8 5 = nI t - 1 → I 8 6 = nI k → (∀ x, x < n → ai_BG I (16 + 2 * x) 16 (W x)) → ai_BG I 10 16 (ai_qs W b) → I 8 7 = nI (ai_qa W b) → (∀ z, (z < 8 ∨ 24 ≤ z) → I z = I0 z) →
    ai_Ev none 31 15 [some (.ref 8), some (.int (nI b))] [] (S, I, L, F) (ai_Pu S F L (fun I2 => ai_OS I2 n t k W ∧ I2 8 7 = nI (ai_qa W n) ∧ ai_BG I2 10 16 (ai_qs W n) ∧ ai_fo I0 I2)) := by
  intro z
  induction z with
  | zero =>
    intro b I hz g4 g5 g6 hw hS g7 hf
    refine ev_iload_n 16 rfl d31_15 rfl ?_
    refine ev_aload_n 17 rfl d31_16 rfl ?_
    refine ev_geti (v := nI n) 20 rfl 3 4 d31_17 rfl (by omega) (G.1 _ _ (rfl : ai_sp 8 = (3, 0)) (by decide) (by decide)) g4 ?_
    refine ev_icmp 59 23 (by decide) rfl (cn_ge (by omega) (by omega)) d31_20 (fun hc_20 => ?_) (fun hc_20 => absurd hc_20 (by omega))
    refine ev_vret rfl d31_59 ?_
    have e : b = n := by omega
    subst e
    exact ⟨rfl, _, rfl, ⟨g4, g5, g6, hw⟩, g7, hS, hf⟩
  | succ z ih =>
    intro b I hz g4 g5 g6 hw hS g7 hf
    refine ev_iload_n 16 rfl d31_15 rfl ?_
    refine ev_aload_n 17 rfl d31_16 rfl ?_
    refine ev_geti (v := nI n) 20 rfl 3 4 d31_17 rfl (by omega) (G.1 _ _ (rfl : ai_sp 8 = (3, 0)) (by decide) (by decide)) g4 ?_
    refine ev_icmp 59 23 (by decide) rfl (cn_ge (by omega) (by omega)) d31_20 (fun hc_20 => absurd hc_20 (by omega)) (fun hc_20 => ?_)
    have hfb : ai_qs W b + W b < 2147483648 ^ 16 := Nat.lt_of_le_of_lt (qs_le (by omega)) hfit
    have hab : ai_qa W b < n := by
      rcases Nat.eq_zero_or_pos b with q | q
      · subst q; show 0 < n; omega
      · have := qa_lt (f := W) q; omega
    refine ev_aload_n 24 rfl d31_23 rfl ?_
    refine ev_getr 27 rfl 3 1 d31_24 rfl (by omega) (G.1 _ _ (rfl : ai_sp 8 = (3, 0)) (by decide) (by decide)) (G.2 _ _ _ (rfl : ai_rf 8 1 = some 10)) ?_
    refine ev_aload_n 28 rfl d31_27 rfl ?_
    refine ev_getr 31 rfl 3 0 d31_28 rfl (by omega) (G.1 _ _ (rfl : ai_sp 8 = (3, 0)) (by decide) (by decide)) (G.2 _ _ _ (rfl : ai_rf 8 0 = some 9)) ?_
    refine ev_iload_n 32 rfl d31_31 rfl ?_
    refine ev_aald_n 33 rfl d31_32 (by omega) (by decide) (G.1 _ _ (rfl : ai_sp 9 = (108, 4)) (by decide) (by decide)) (by omega) (by decide) (G.2 _ _ _ (rf_weight (by omega))) ?_
    refine ev_cu1 36 rfl 5 d31_33 rfl rfl (by rw [G.1 _ _ (rfl : ai_sp 10 = (0, 0)) (by decide) (by decide)]; rfl) (by omega) rfl (big_add G (big_16 10 (by omega)) (by decide) (big_w (b := b) (by omega)) (by decide) (by omega) hS (hw b (by omega)) (by first | omega | assumption)) (fun I_1 hr_33 => ?_)
    obtain ⟨b_2, f_3⟩ := hr_33
    have f_4 : ∀ z, (z < 8 ∨ 24 ≤ z) → I_1 z = I0 z := fun z hz => (f_3 z (by omega)).trans (hf z hz)
    have g_5 : I_1 8 4 = nI n := by rw [f_3 _ (by omega)]; exact g4
    have g_6 : I_1 8 5 = nI t - 1 := by rw [f_3 _ (by omega)]; exact g5
    have g_7 : I_1 8 6 = nI k := by rw [f_3 _ (by omega)]; exact g6
    have g_8 : I_1 8 7 = nI (ai_qa W b) := by rw [f_3 _ (by omega)]; exact g7
    have w_9 : ∀ b, b < n → ai_BG I_1 (16 + 2 * b) 16 (W b) := fun b hb9 => (hw b hb9).eq (f_3 _ (by omega)) (f_3 _ (by omega))
    refine ev_aload_n 37 rfl d31_36 rfl ?_
    refine ev_iload_n 38 rfl d31_37 rfl ?_
    refine ev_aload_n 39 rfl d31_38 rfl ?_
    refine ev_geti (v := nI (ai_qa W b)) 42 rfl 3 7 d31_39 rfl (by omega) (G.1 _ _ (rfl : ai_sp 8 = (3, 0)) (by decide) (by decide)) g_8 ?_
    refine ev_cb2 45 rfl 32 d31_42 rfl rfl (by rw [G.1 _ _ (rfl : ai_sp 8 = (3, 0)) (by decide) (by decide)]; rfl) (by omega) rfl (o_above G hn ht ⟨g_5, g_6, g_7, w_9⟩ (by omega) (by omega)) (fun hq_42 => ?_) (fun hq_42 => ?_)
    · refine ev_if_F 53 48 (by decide) rfl (by decide) d31_45 ?_
      refine ev_aload_n 49 rfl d31_48 rfl ?_
      refine ev_iload_n 50 rfl d31_49 rfl ?_
      obtain ⟨I_10, hI_10⟩ : ∃ z, z = ai_ui I_1 8 7 (nI b) := ⟨_, rfl⟩
      refine ev_puti (I2 := I_10) 53 rfl 3 7 d31_50 rfl (by omega) (G.1 _ _ (rfl : ai_sp 8 = (3, 0)) (by decide) (by decide)) (fun h => absurd h (by decide)) hI_10.symm ?_
      have b_11 : ai_BG I_10 10 16 ((ai_qs W b) + (W b)) := b_2.eq (ui_row hI_10 (by omega)) (ui_row hI_10 (by omega))
      have f_12 : ∀ z, (z < 8 ∨ 24 ≤ z) → I_10 z = I0 z := fun z hz => (ui_row hI_10 (by omega)).trans (f_4 z hz)
      have g_13 : I_10 8 4 = nI n := by rw [ui_other hI_10 (by omega)]; exact g_5
      have g_14 : I_10 8 5 = nI t - 1 := by rw [ui_other hI_10 (by omega)]; exact g_6
      have g_15 : I_10 8 6 = nI k := by rw [ui_other hI_10 (by omega)]; exact g_7
      have g_17 : I_10 8 7 = nI b := ui_same hI_10
      have w_18 : ∀ b, b < n → ai_BG I_10 (16 + 2 * b) 16 (W b) := fun b hb9 => (w_9 b hb9).eq (ui_row hI_10 (by omega)) (ui_row hI_10 (by omega))
      refine ev_iinc (v := nI (b + 1)) 56 rfl d31_53 rfl (Nat.le_of_ble_eq_true rfl) (nI_add _ 1) rfl ?_
      show ai_Ev _ _ _ [some (.ref 8), some (.int (nI (b + 1)))] _ _ _
      refine ev_goto 15 (by decide) d31_56 ?_
      have hle : ai_qa W (b + 1) = b := by
        show (if W (ai_qa W b) < W b then b else ai_qa W b) = _
        first | rw [if_pos hq_42] | rw [if_neg hq_42]
      refine ih (b + 1) I_10 (by omega) g_13 g_14 g_15 w_18 b_11 ?_ f_12
      first | (rw [hle]; exact g_17) | exact g_17
    · refine ev_if_T 53 (by decide) (by decide) d31_45 ?_
      refine ev_iinc (v := nI (b + 1)) 56 rfl d31_53 rfl (Nat.le_of_ble_eq_true rfl) (nI_add _ 1) rfl ?_
      show ai_Ev _ _ _ [some (.ref 8), some (.int (nI (b + 1)))] _ _ _
      refine ev_goto 15 (by decide) d31_56 ?_
      have hle : ai_qa W (b + 1) = ai_qa W b := by
        show (if W (ai_qa W b) < W b then b else ai_qa W b) = _
        first | rw [if_pos hq_42] | rw [if_neg hq_42]
      refine ih (b + 1) I_1 (by omega) g_5 g_6 g_7 w_9 b_2 ?_ f_4
      first | (rw [hle]; exact g_8) | exact g_8
theorem o_close (G : ai_G S F) {n t k : Nat} {W : Nat → Nat} (hn : n ≤ 4) (ht : t ≤ 4) (hfit : ai_qs W n < 2147483648 ^ 16) {I : Nat → Nat → Int32} (hO : ai_OS I n t k W) :
    ai_Ev none 31 0 [some (.ref 8), none] [] (S, I, L, F) (ai_Pu S F L (fun I2 => ai_OS I2 n t k W ∧ I2 8 7 = nI (ai_qa W n) ∧ ai_BG I2 10 16 (ai_qs W n) ∧ ai_fo I I2)) := by
  obtain ⟨g4, g5, g6, hw⟩ := hO
  have hf0 : ∀ z, (z < 8 ∨ 24 ≤ z) → I z = I z := fun _ _ => rfl
  refine ev_aload_n 1 rfl d31_0 rfl ?_
  refine ev_getr 4 rfl 3 1 d31_1 rfl (by omega) (G.1 _ _ (rfl : ai_sp 8 = (3, 0)) (by decide) (by decide)) (G.2 _ _ _ (rfl : ai_rf 8 1 = some 10)) ?_
  refine ev_iconst (v := nI 0) 5 rfl d31_4 (by decide) ?_
  refine ev_cu1 8 rfl 1 d31_5 rfl rfl (by rw [G.1 _ _ (rfl : ai_sp 10 = (0, 0)) (by decide) (by decide)]; rfl) (by omega) rfl (big_set G (big_16 10 (by omega)) (by decide) (by decide) (m := 0) (by omega)) (fun I_1 hr_5 => ?_)
  obtain ⟨b_2, f_3⟩ := hr_5
  have f_4 : ∀ z, (z < 8 ∨ 24 ≤ z) → I_1 z = I z := fun z hz => (f_3 z (by omega)).trans (hf0 z hz)
  have g_5 : I_1 8 4 = nI n := by rw [f_3 _ (by omega)]; exact g4
  have g_6 : I_1 8 5 = nI t - 1 := by rw [f_3 _ (by omega)]; exact g5
  have g_7 : I_1 8 6 = nI k := by rw [f_3 _ (by omega)]; exact g6
  have w_8 : ∀ b, b < n → ai_BG I_1 (16 + 2 * b) 16 (W b) := fun b hb9 => (hw b hb9).eq (f_3 _ (by omega)) (f_3 _ (by omega))
  refine ev_aload_n 9 rfl d31_8 rfl ?_
  refine ev_iconst (v := nI 0) 10 rfl d31_9 (by decide) ?_
  obtain ⟨I_9, hI_9⟩ : ∃ z, z = ai_ui I_1 8 7 (nI 0) := ⟨_, rfl⟩
  refine ev_puti (I2 := I_9) 13 rfl 3 7 d31_10 rfl (by omega) (G.1 _ _ (rfl : ai_sp 8 = (3, 0)) (by decide) (by decide)) (fun h => absurd h (by decide)) hI_9.symm ?_
  have b_10 : ai_BG I_9 10 16 0 := b_2.eq (ui_row hI_9 (by omega)) (ui_row hI_9 (by omega))
  have f_11 : ∀ z, (z < 8 ∨ 24 ≤ z) → I_9 z = I z := fun z hz => (ui_row hI_9 (by omega)).trans (f_4 z hz)
  have g_12 : I_9 8 4 = nI n := by rw [ui_other hI_9 (by omega)]; exact g_5
  have g_13 : I_9 8 5 = nI t - 1 := by rw [ui_other hI_9 (by omega)]; exact g_6
  have g_14 : I_9 8 6 = nI k := by rw [ui_other hI_9 (by omega)]; exact g_7
  have g_15 : I_9 8 7 = nI 0 := ui_same hI_9
  have w_16 : ∀ b, b < n → ai_BG I_9 (16 + 2 * b) 16 (W b) := fun b hb9 => (w_8 b hb9).eq (ui_row hI_9 (by omega)) (ui_row hI_9 (by omega))
  refine ev_iconst (v := nI 0) 14 rfl d31_13 (by decide) ?_
  refine ev_store_in 15 rfl d31_14 (Nat.le_of_ble_eq_true rfl) rfl ?_
  show ai_Ev _ _ _ [some (.ref 8), some (.int (nI 0))] _ _ _
  exact o_close_loop G hn ht hfit n 0 _ (by omega) g_12 g_13 g_14 w_16 b_10 g_15 f_11
theorem o_reaches (G : ai_G S F) {n t k l T mark : Nat} {W : Nat → Nat} (hn : n ≤ 4) (ht : t ≤ 4) (hl : l < n) (hm : mark ≤ 1000) (hfT : mark * T < 2147483648 ^ 16) (hfW : 1000 * W l < 2147483648 ^ 16) {I : Nat → Nat → Int32} (hO : ai_OS I n t k W) (h7 : I 8 7 = nI l) (hS : ai_BG I 10 16 T) :
    ai_Ev none 33 0 [some (.ref 8), some (.int (nI mark))] [] (S, I, L, F) (ai_Pz S F L (mark * T ≤ 1000 * W l) (fun I2 => ai_OS I2 n t k W ∧ I2 8 7 = nI l ∧ ai_BG I2 10 16 T ∧ ai_fo I I2)) := by
  obtain ⟨g4, g5, g6, hw⟩ := hO
  have hf0 : ∀ z, (z < 8 ∨ 24 ≤ z) → I z = I z := fun _ _ => rfl
  have hfW2 : W l < 2147483648 ^ 16 := by omega
  have hfT2 : T < 2147483648 ^ 16 := by rcases hS with ⟨s9, _, hs9, hok9, hv9, _⟩; rw [← hv9]; exact Nat.lt_of_lt_of_le (val_lt (fun k hk => (hok9 k hk).2)) (Nat.pow_le_pow_right (by omega) hs9)
  refine ev_aload_n 1 rfl d33_0 rfl ?_
  refine ev_getr 4 rfl 3 2 d33_1 rfl (by omega) (G.1 _ _ (rfl : ai_sp 8 = (3, 0)) (by decide) (by decide)) (G.2 _ _ _ (rfl : ai_rf 8 2 = some 12)) ?_
  refine ev_aload_n 5 rfl d33_4 rfl ?_
  refine ev_getr 8 rfl 3 0 d33_5 rfl (by omega) (G.1 _ _ (rfl : ai_sp 8 = (3, 0)) (by decide) (by decide)) (G.2 _ _ _ (rfl : ai_rf 8 0 = some 9)) ?_
  refine ev_aload_n 9 rfl d33_8 rfl ?_
  refine ev_geti (v := nI l) 12 rfl 3 7 d33_9 rfl (by omega) (G.1 _ _ (rfl : ai_sp 8 = (3, 0)) (by decide) (by decide)) h7 ?_
  refine ev_aald_n 13 rfl d33_12 (by omega) (by decide) (G.1 _ _ (rfl : ai_sp 9 = (108, 4)) (by decide) (by decide)) (by omega) (by decide) (G.2 _ _ _ (rf_weight (by omega))) ?_
  refine ev_cu1 16 rfl 2 d33_13 rfl rfl (by rw [G.1 _ _ (rfl : ai_sp 12 = (0, 0)) (by decide) (by decide)]; rfl) (by omega) rfl (big_setB G (big_16 12 (by omega)) (by decide) (big_w (b := l) (by omega)) (by decide) (by omega) (hw l (by omega)) (by first | omega | assumption)) (fun I_1 hr_13 => ?_)
  obtain ⟨b_2, f_3⟩ := hr_13
  have b_4 : ai_BG I_1 10 16 T := hS.eq (f_3 _ (by omega)) (f_3 _ (by omega))
  have f_5 : ∀ z, (z < 8 ∨ 24 ≤ z) → I_1 z = I z := fun z hz => (f_3 z (by omega)).trans (hf0 z hz)
  have g_6 : I_1 8 4 = nI n := by rw [f_3 _ (by omega)]; exact g4
  have g_7 : I_1 8 5 = nI t - 1 := by rw [f_3 _ (by omega)]; exact g5
  have g_8 : I_1 8 6 = nI k := by rw [f_3 _ (by omega)]; exact g6
  have g_9 : I_1 8 7 = nI l := by rw [f_3 _ (by omega)]; exact h7
  have w_10 : ∀ b, b < n → ai_BG I_1 (16 + 2 * b) 16 (W b) := fun b hb9 => (hw b hb9).eq (f_3 _ (by omega)) (f_3 _ (by omega))
  refine ev_aload_n 17 rfl d33_16 rfl ?_
  refine ev_getr 20 rfl 3 2 d33_17 rfl (by omega) (G.1 _ _ (rfl : ai_sp 8 = (3, 0)) (by decide) (by decide)) (G.2 _ _ _ (rfl : ai_rf 8 2 = some 12)) ?_
  refine ev_sipush (v := nI 1000) 23 rfl d33_20 (by decide) ?_
  refine ev_cu1 26 rfl 4 d33_23 rfl rfl (by rw [G.1 _ _ (rfl : ai_sp 12 = (0, 0)) (by decide) (by decide)]; rfl) (by omega) rfl (big_mul G (big_16 12 (by omega)) (by decide) b_2 (m := 1000) (by omega) (by first | omega | assumption)) (fun I_11 hr_23 => ?_)
  obtain ⟨b_12, f_13⟩ := hr_23
  have b_14 : ai_BG I_11 10 16 T := b_4.eq (f_13 _ (by omega)) (f_13 _ (by omega))
  have f_15 : ∀ z, (z < 8 ∨ 24 ≤ z) → I_11 z = I z := fun z hz => (f_13 z (by omega)).trans (f_5 z hz)
  have g_16 : I_11 8 4 = nI n := by rw [f_13 _ (by omega)]; exact g_6
  have g_17 : I_11 8 5 = nI t - 1 := by rw [f_13 _ (by omega)]; exact g_7
  have g_18 : I_11 8 6 = nI k := by rw [f_13 _ (by omega)]; exact g_8
  have g_19 : I_11 8 7 = nI l := by rw [f_13 _ (by omega)]; exact g_9
  have w_20 : ∀ b, b < n → ai_BG I_11 (16 + 2 * b) 16 (W b) := fun b hb9 => (w_10 b hb9).eq (f_13 _ (by omega)) (f_13 _ (by omega))
  refine ev_aload_n 27 rfl d33_26 rfl ?_
  refine ev_getr 30 rfl 3 3 d33_27 rfl (by omega) (G.1 _ _ (rfl : ai_sp 8 = (3, 0)) (by decide) (by decide)) (G.2 _ _ _ (rfl : ai_rf 8 3 = some 14)) ?_
  refine ev_aload_n 31 rfl d33_30 rfl ?_
  refine ev_getr 34 rfl 3 1 d33_31 rfl (by omega) (G.1 _ _ (rfl : ai_sp 8 = (3, 0)) (by decide) (by decide)) (G.2 _ _ _ (rfl : ai_rf 8 1 = some 10)) ?_
  refine ev_cu1 37 rfl 2 d33_34 rfl rfl (by rw [G.1 _ _ (rfl : ai_sp 14 = (0, 0)) (by decide) (by decide)]; rfl) (by omega) rfl (big_setB G (big_16 14 (by omega)) (by decide) (big_16 10 (by omega)) (by decide) (by omega) b_14 (by first | omega | assumption)) (fun I_21 hr_34 => ?_)
  obtain ⟨b_22, f_23⟩ := hr_34
  have b_24 : ai_BG I_21 10 16 T := b_14.eq (f_23 _ (by omega)) (f_23 _ (by omega))
  have b_25 : ai_BG I_21 12 16 (1000 * (W l)) := b_12.eq (f_23 _ (by omega)) (f_23 _ (by omega))
  have f_26 : ∀ z, (z < 8 ∨ 24 ≤ z) → I_21 z = I z := fun z hz => (f_23 z (by omega)).trans (f_15 z hz)
  have g_27 : I_21 8 4 = nI n := by rw [f_23 _ (by omega)]; exact g_16
  have g_28 : I_21 8 5 = nI t - 1 := by rw [f_23 _ (by omega)]; exact g_17
  have g_29 : I_21 8 6 = nI k := by rw [f_23 _ (by omega)]; exact g_18
  have g_30 : I_21 8 7 = nI l := by rw [f_23 _ (by omega)]; exact g_19
  have w_31 : ∀ b, b < n → ai_BG I_21 (16 + 2 * b) 16 (W b) := fun b hb9 => (w_20 b hb9).eq (f_23 _ (by omega)) (f_23 _ (by omega))
  refine ev_aload_n 38 rfl d33_37 rfl ?_
  refine ev_getr 41 rfl 3 3 d33_38 rfl (by omega) (G.1 _ _ (rfl : ai_sp 8 = (3, 0)) (by decide) (by decide)) (G.2 _ _ _ (rfl : ai_rf 8 3 = some 14)) ?_
  refine ev_iload_n 42 rfl d33_41 rfl ?_
  refine ev_cu1 45 rfl 4 d33_42 rfl rfl (by rw [G.1 _ _ (rfl : ai_sp 14 = (0, 0)) (by decide) (by decide)]; rfl) (by omega) rfl (big_mul G (big_16 14 (by omega)) (by decide) b_22 (m := mark) (by omega) (by first | omega | assumption)) (fun I_32 hr_42 => ?_)
  obtain ⟨b_33, f_34⟩ := hr_42
  have b_35 : ai_BG I_32 10 16 T := b_24.eq (f_34 _ (by omega)) (f_34 _ (by omega))
  have b_36 : ai_BG I_32 12 16 (1000 * (W l)) := b_25.eq (f_34 _ (by omega)) (f_34 _ (by omega))
  have f_37 : ∀ z, (z < 8 ∨ 24 ≤ z) → I_32 z = I z := fun z hz => (f_34 z (by omega)).trans (f_26 z hz)
  have g_38 : I_32 8 4 = nI n := by rw [f_34 _ (by omega)]; exact g_27
  have g_39 : I_32 8 5 = nI t - 1 := by rw [f_34 _ (by omega)]; exact g_28
  have g_40 : I_32 8 6 = nI k := by rw [f_34 _ (by omega)]; exact g_29
  have g_41 : I_32 8 7 = nI l := by rw [f_34 _ (by omega)]; exact g_30
  have w_42 : ∀ b, b < n → ai_BG I_32 (16 + 2 * b) 16 (W b) := fun b hb9 => (w_31 b hb9).eq (f_34 _ (by omega)) (f_34 _ (by omega))
  refine ev_aload_n 46 rfl d33_45 rfl ?_
  refine ev_getr 49 rfl 3 3 d33_46 rfl (by omega) (G.1 _ _ (rfl : ai_sp 8 = (3, 0)) (by decide) (by decide)) (G.2 _ _ _ (rfl : ai_rf 8 3 = some 14)) ?_
  refine ev_aload_n 50 rfl d33_49 rfl ?_
  refine ev_getr 53 rfl 3 2 d33_50 rfl (by omega) (G.1 _ _ (rfl : ai_sp 8 = (3, 0)) (by decide) (by decide)) (G.2 _ _ _ (rfl : ai_rf 8 2 = some 12)) ?_
  refine ev_cb1 56 rfl 7 d33_53 rfl rfl (by rw [G.1 _ _ (rfl : ai_sp 14 = (0, 0)) (by decide) (by decide)]; rfl) (by omega) rfl (big_above G (big_16 14 (by omega)) (by decide) (big_16 12 (by omega)) (by decide) b_33 b_36) (fun hq_53 => ?_) (fun hq_53 => ?_)
  · refine ev_if_T 63 (by decide) (by decide) d33_56 ?_
    refine ev_iconst (v := nI 0) 64 rfl d33_63 (by decide) ?_
    refine ev_iret (Or.inr ⟨rfl, Or.inl (by decide)⟩) d33_64 ?_
    exact ⟨_, Or.inr ⟨by omega, rfl⟩, rfl, ⟨g_38, g_39, g_40, w_42⟩, g_41, b_35, f_37⟩
  · refine ev_if_F 63 59 (by decide) rfl (by decide) d33_56 ?_
    refine ev_iconst (v := nI 1) 60 rfl d33_59 (by decide) ?_
    refine ev_goto 64 (by decide) d33_60 ?_
    refine ev_iret (Or.inr ⟨rfl, Or.inr (by decide)⟩) d33_64 ?_
    exact ⟨_, Or.inl ⟨by omega, rfl⟩, rfl, ⟨g_38, g_39, g_40, w_42⟩, g_41, b_35, f_37⟩
def ai_fg (I I2 : Nat → Nat → Int32) : Prop := ∀ z, (z < 8 ∨ (24 ≤ z ∧ z < 29) ∨ 33 ≤ z) → I2 z = I z
def ai_OQ (I : Nat → Nat → Int32) (n t k l T : Nat) (W : Nat → Nat) : Prop := ai_OS I n t k W ∧ I 8 7 = nI l ∧ ai_BG I 10 16 T

theorem o_gain_in (G : ai_G S F) {n t k l T Wh : Nat} {W U : Nat → Nat} {V F2 : Nat → Nat → Nat} (hn : n ≤ 4) (ht : t ≤ 4) (hl : l < n) {j q : Nat} (hj : j < 24) (hq : q < 5) (hVl : ∀ a b, a < 4 → b < 4 → V a b < 1000000) (hUl : ∀ o, o < 4 → U o < 1000000) (hF : ∀ a b, a < n → b < n → (1 + V a b) * ai_qp (fun x => if x = b then 1 else n + U x) n = F2 a b) (hFl : ∀ a b, a < n → b < n → F2 a b < 2147483648) (hWl : ∀ b, b < n → W b < 2147483648 ^ 16) (hfit : ∀ a b, a < n → b < n → F2 a b * W b < 2147483648 ^ 16) (hsum : ai_qs (fun x => ai_qt (fun y => F2 x y * W y) n) n < 2147483648 ^ 32) {I0 : Nat → Nat → Int32} (hV : ∀ a b, a < 4 → b < 4 → I0 (76 + 4 * j + 2) ((q * 4 + a) * 4 + b) = nI (V a b)) (hB : ∀ o, o < 4 → I0 (76 + 4 * j + 3) (q * 4 + o) = nI (U o)) {a A : Nat} (ha : a < n) {Q : Option Value → ai_H → Prop} : ∀ (z b : Nat) (I : Nat → Nat → Int32), b + z = n → ai_OQ I n t k l T W → ai_BG I 29 32 A → ai_BG I 14 16 (ai_qt (fun y => F2 a y * W y) b) → (∀ z, (z < 8 ∨ (24 ≤ z ∧ z < 29) ∨ 33 ≤ z) → I z = I0 z) → (∀ I2, ai_OQ I2 n t k l T W → ai_BG I2 29 32 A → ai_BG I2 14 16 (ai_qt (fun y => F2 a y * W y) n) → (∀ z, (z < 8 ∨ (24 ≤ z ∧ z < 29) ∨ 33 ≤ z) → I2 z = I0 z) → ai_Ev none 34 116 [some (.ref 8), some (.ref (76 + 4 * j)), some (.int (nI q)), some (.ref 28), some (.int (nI Wh)), some (.int (nI a)), some (.int (nI n))] [] (S, I2, L, F) Q) →
    ai_Ev none 34 42 [some (.ref 8), some (.ref (76 + 4 * j)), some (.int (nI q)), some (.ref 28), some (.int (nI Wh)), some (.int (nI a)), some (.int (nI b))] [] (S, I, L, F) Q := by
  intro z
  induction z with
  | zero =>
    intro b I hz hO hA h14 hf hk
    obtain ⟨⟨g4, g5, g6, hw⟩, g7, hS⟩ := hO
    refine ev_iload 44 rfl d34_42 rfl ?_
    refine ev_aload_n 45 rfl d34_44 rfl ?_
    refine ev_geti (v := nI n) 48 rfl 3 4 d34_45 rfl (by omega) (G.1 _ _ (rfl : ai_sp 8 = (3, 0)) (by decide) (by decide)) g4 ?_
    refine ev_icmp 116 51 (by decide) rfl (cn_ge (by omega) (by omega)) d34_48 (fun hc_48 => ?_) (fun hc_48 => absurd hc_48 (by omega))
    have e9 : b = n := by omega
    subst e9
    exact hk I ⟨⟨g4, g5, g6, hw⟩, g7, hS⟩ hA h14 hf
  | succ z ih =>
    intro b I hz hO hA h14 hf hk
    obtain ⟨⟨g4, g5, g6, hw⟩, g7, hS⟩ := hO
    refine ev_iload 44 rfl d34_42 rfl ?_
    refine ev_aload_n 45 rfl d34_44 rfl ?_
    refine ev_geti (v := nI n) 48 rfl 3 4 d34_45 rfl (by omega) (G.1 _ _ (rfl : ai_sp 8 = (3, 0)) (by decide) (by decide)) g4 ?_
    refine ev_icmp 116 51 (by decide) rfl (cn_ge (by omega) (by omega)) d34_48 (fun hc_48 => absurd hc_48 (by omega)) (fun hc_48 => ?_)
    have hWb := hWl b (by omega)
    have hfb := hfit a b (by omega) (by omega)
    have hfl := hFl a b (by omega) (by omega)
    refine ev_aload_n 52 rfl d34_51 rfl ?_
    refine ev_getr 55 rfl 3 2 d34_52 rfl (by omega) (G.1 _ _ (rfl : ai_sp 8 = (3, 0)) (by decide) (by decide)) (G.2 _ _ _ (rfl : ai_rf 8 2 = some 12)) ?_
    refine ev_aload_n 56 rfl d34_55 rfl ?_
    refine ev_getr 59 rfl 3 0 d34_56 rfl (by omega) (G.1 _ _ (rfl : ai_sp 8 = (3, 0)) (by decide) (by decide)) (G.2 _ _ _ (rfl : ai_rf 8 0 = some 9)) ?_
    refine ev_iload 61 rfl d34_59 rfl ?_
    refine ev_aald_n 62 rfl d34_61 (by omega) (by decide) (G.1 _ _ (rfl : ai_sp 9 = (108, 4)) (by decide) (by decide)) (by omega) (by decide) (G.2 _ _ _ (rf_weight (by omega))) ?_
    refine ev_cu1 65 rfl 2 d34_62 rfl rfl (by rw [G.1 _ _ (rfl : ai_sp 12 = (0, 0)) (by decide) (by decide)]; rfl) (by omega) rfl (big_setB G (big_16 12 (by omega)) (by decide) (big_w (b := b) (by omega)) (by decide) (by omega) (hw b (by omega)) (by first | omega | assumption)) (fun I_1 hr_62 => ?_)
    obtain ⟨b_2, f_3⟩ := hr_62
    have b_4 : ai_BG I_1 10 16 T := hS.eq (f_3 _ (by omega)) (f_3 _ (by omega))
    have b_5 : ai_BG I_1 29 32 A := hA.eq (f_3 _ (by omega)) (f_3 _ (by omega))
    have b_6 : ai_BG I_1 14 16 (ai_qt (fun y => F2 a y * W y) b) := h14.eq (f_3 _ (by omega)) (f_3 _ (by omega))
    have f_7 : ∀ z, (z < 8 ∨ (24 ≤ z ∧ z < 29) ∨ 33 ≤ z) → I_1 z = I0 z := fun z hz => (f_3 z (by omega)).trans (hf z hz)
    have g_8 : I_1 8 4 = nI n := by rw [f_3 _ (by omega)]; exact g4
    have g_9 : I_1 8 5 = nI t - 1 := by rw [f_3 _ (by omega)]; exact g5
    have g_10 : I_1 8 6 = nI k := by rw [f_3 _ (by omega)]; exact g6
    have g_11 : I_1 8 7 = nI l := by rw [f_3 _ (by omega)]; exact g7
    have w_12 : ∀ b, b < n → ai_BG I_1 (16 + 2 * b) 16 (W b) := fun b hb9 => (hw b hb9).eq (f_3 _ (by omega)) (f_3 _ (by omega))
    refine ev_aload_n 66 rfl d34_65 rfl ?_
    refine ev_getr 69 rfl 3 2 d34_66 rfl (by omega) (G.1 _ _ (rfl : ai_sp 8 = (3, 0)) (by decide) (by decide)) (G.2 _ _ _ (rfl : ai_rf 8 2 = some 12)) ?_
    refine ev_aload_n 70 rfl d34_69 rfl ?_
    refine ev_iload_n 71 rfl d34_70 rfl ?_
    refine ev_iload 73 rfl d34_71 rfl ?_
    refine ev_iload 75 rfl d34_73 rfl ?_
    refine ev_aload_n 76 rfl d34_75 rfl ?_
    refine ev_geti (v := nI n) 79 rfl 3 4 d34_76 rfl (by omega) (G.1 _ _ (rfl : ai_sp 8 = (3, 0)) (by decide) (by decide)) g_8 ?_
    refine ev_cp4 82 rfl 26 d34_79 rfl rfl (by rw [G.1 _ _ (sp_judge (by omega)) (by omega) (by omega)]; rfl) (by omega) rfl (show ai_Ev none 26 0 _ [] (S, I_1, L, F) (ai_Pp S F I_1 L (.int (nI (F2 a b)))) from by rw [← hF a b (by omega) (by omega)]; exact j_factor G hj hq (by omega) (by omega) hn (hVl _ _ (by omega) (by omega)) hUl (by rw [f_7 _ (by omega)]; exact hV _ _ (by omega) (by omega)) (fun o ho => by rw [f_7 _ (by omega)]; exact hB o ho)) ?_
    refine ev_cu1 85 rfl 4 d34_82 rfl rfl (by rw [G.1 _ _ (rfl : ai_sp 12 = (0, 0)) (by decide) (by decide)]; rfl) (by omega) rfl (big_mul G (big_16 12 (by omega)) (by decide) b_2 (m := F2 a b) (by omega) (by first | omega | assumption)) (fun I_13 hr_82 => ?_)
    obtain ⟨b_14, f_15⟩ := hr_82
    have b_16 : ai_BG I_13 10 16 T := b_4.eq (f_15 _ (by omega)) (f_15 _ (by omega))
    have b_17 : ai_BG I_13 29 32 A := b_5.eq (f_15 _ (by omega)) (f_15 _ (by omega))
    have b_18 : ai_BG I_13 14 16 (ai_qt (fun y => F2 a y * W y) b) := b_6.eq (f_15 _ (by omega)) (f_15 _ (by omega))
    have f_19 : ∀ z, (z < 8 ∨ (24 ≤ z ∧ z < 29) ∨ 33 ≤ z) → I_13 z = I0 z := fun z hz => (f_15 z (by omega)).trans (f_7 z hz)
    have g_20 : I_13 8 4 = nI n := by rw [f_15 _ (by omega)]; exact g_8
    have g_21 : I_13 8 5 = nI t - 1 := by rw [f_15 _ (by omega)]; exact g_9
    have g_22 : I_13 8 6 = nI k := by rw [f_15 _ (by omega)]; exact g_10
    have g_23 : I_13 8 7 = nI l := by rw [f_15 _ (by omega)]; exact g_11
    have w_24 : ∀ b, b < n → ai_BG I_13 (16 + 2 * b) 16 (W b) := fun b hb9 => (w_12 b hb9).eq (f_15 _ (by omega)) (f_15 _ (by omega))
    refine ev_aload_n 86 rfl d34_85 rfl ?_
    refine ev_getr 89 rfl 3 2 d34_86 rfl (by omega) (G.1 _ _ (rfl : ai_sp 8 = (3, 0)) (by decide) (by decide)) (G.2 _ _ _ (rfl : ai_rf 8 2 = some 12)) ?_
    refine ev_aload_n 90 rfl d34_89 rfl ?_
    refine ev_getr 93 rfl 3 3 d34_90 rfl (by omega) (G.1 _ _ (rfl : ai_sp 8 = (3, 0)) (by decide) (by decide)) (G.2 _ _ _ (rfl : ai_rf 8 3 = some 14)) ?_
    refine ev_cb1 96 rfl 7 d34_93 rfl rfl (by rw [G.1 _ _ (rfl : ai_sp 12 = (0, 0)) (by decide) (by decide)]; rfl) (by omega) rfl (big_above G (big_16 12 (by omega)) (by decide) (big_16 14 (by omega)) (by decide) b_14 b_18) (fun hq_93 => ?_) (fun hq_93 => ?_)
    · refine ev_if_F 110 99 (by decide) rfl (by decide) d34_96 ?_
      refine ev_aload_n 100 rfl d34_99 rfl ?_
      refine ev_getr 103 rfl 3 3 d34_100 rfl (by omega) (G.1 _ _ (rfl : ai_sp 8 = (3, 0)) (by decide) (by decide)) (G.2 _ _ _ (rfl : ai_rf 8 3 = some 14)) ?_
      refine ev_aload_n 104 rfl d34_103 rfl ?_
      refine ev_getr 107 rfl 3 2 d34_104 rfl (by omega) (G.1 _ _ (rfl : ai_sp 8 = (3, 0)) (by decide) (by decide)) (G.2 _ _ _ (rfl : ai_rf 8 2 = some 12)) ?_
      refine ev_cu1 110 rfl 2 d34_107 rfl rfl (by rw [G.1 _ _ (rfl : ai_sp 14 = (0, 0)) (by decide) (by decide)]; rfl) (by omega) rfl (big_setB G (big_16 14 (by omega)) (by decide) (big_16 12 (by omega)) (by decide) (by omega) b_14 (by first | omega | assumption)) (fun I_25 hr_107 => ?_)
      obtain ⟨b_26, f_27⟩ := hr_107
      have b_28 : ai_BG I_25 10 16 T := b_16.eq (f_27 _ (by omega)) (f_27 _ (by omega))
      have b_29 : ai_BG I_25 29 32 A := b_17.eq (f_27 _ (by omega)) (f_27 _ (by omega))
      have b_30 : ai_BG I_25 12 16 ((F2 a b) * (W b)) := b_14.eq (f_27 _ (by omega)) (f_27 _ (by omega))
      have f_31 : ∀ z, (z < 8 ∨ (24 ≤ z ∧ z < 29) ∨ 33 ≤ z) → I_25 z = I0 z := fun z hz => (f_27 z (by omega)).trans (f_19 z hz)
      have g_32 : I_25 8 4 = nI n := by rw [f_27 _ (by omega)]; exact g_20
      have g_33 : I_25 8 5 = nI t - 1 := by rw [f_27 _ (by omega)]; exact g_21
      have g_34 : I_25 8 6 = nI k := by rw [f_27 _ (by omega)]; exact g_22
      have g_35 : I_25 8 7 = nI l := by rw [f_27 _ (by omega)]; exact g_23
      have w_36 : ∀ b, b < n → ai_BG I_25 (16 + 2 * b) 16 (W b) := fun b hb9 => (w_24 b hb9).eq (f_27 _ (by omega)) (f_27 _ (by omega))
      refine ev_iinc (v := nI (b + 1)) 113 rfl d34_110 rfl (Nat.le_of_ble_eq_true rfl) (nI_add _ 1) rfl ?_
      show ai_Ev _ _ _ [some (.ref 8), some (.ref (76 + 4 * j)), some (.int (nI q)), some (.ref 28), some (.int (nI Wh)), some (.int (nI a)), some (.int (nI (b + 1)))] _ _ _
      refine ev_goto 42 (by decide) d34_113 ?_
      have hle : ai_qt (fun y => F2 a y * W y) (b + 1) = (F2 a b) * (W b) := by
        show (if ai_qt (fun y => F2 a y * W y) b < F2 a b * W b then F2 a b * W b else ai_qt (fun y => F2 a y * W y) b) = _
        rw [if_pos hq_93]
      exact ih (b + 1) I_25 (by omega) ⟨⟨g_32, g_33, g_34, w_36⟩, g_35, b_28⟩ b_29 (by rw [hle]; exact b_26) f_31 hk
    · refine ev_if_T 110 (by decide) (by decide) d34_96 ?_
      refine ev_iinc (v := nI (b + 1)) 113 rfl d34_110 rfl (Nat.le_of_ble_eq_true rfl) (nI_add _ 1) rfl ?_
      show ai_Ev _ _ _ [some (.ref 8), some (.ref (76 + 4 * j)), some (.int (nI q)), some (.ref 28), some (.int (nI Wh)), some (.int (nI a)), some (.int (nI (b + 1)))] _ _ _
      refine ev_goto 42 (by decide) d34_113 ?_
      have hle : ai_qt (fun y => F2 a y * W y) (b + 1) = ai_qt (fun y => F2 a y * W y) b := by
        show (if ai_qt (fun y => F2 a y * W y) b < F2 a b * W b then F2 a b * W b else ai_qt (fun y => F2 a y * W y) b) = _
        rw [if_neg hq_93]
      exact ih (b + 1) I_13 (by omega) ⟨⟨g_20, g_21, g_22, w_24⟩, g_23, b_16⟩ b_17 (by rw [hle]; exact b_18) f_19 hk
theorem o_gain_loop (G : ai_G S F) {n t k l T Wh : Nat} {W U : Nat → Nat} {V F2 : Nat → Nat → Nat} (hn : n ≤ 4) (ht : t ≤ 4) (hl : l < n) {j q : Nat} (hj : j < 24) (hq : q < 5) (hVl : ∀ a b, a < 4 → b < 4 → V a b < 1000000) (hUl : ∀ o, o < 4 → U o < 1000000) (hF : ∀ a b, a < n → b < n → (1 + V a b) * ai_qp (fun x => if x = b then 1 else n + U x) n = F2 a b) (hFl : ∀ a b, a < n → b < n → F2 a b < 2147483648) (hWl : ∀ b, b < n → W b < 2147483648 ^ 16) (hfit : ∀ a b, a < n → b < n → F2 a b * W b < 2147483648 ^ 16) (hsum : ai_qs (fun x => ai_qt (fun y => F2 x y * W y) n) n < 2147483648 ^ 32) {I0 : Nat → Nat → Int32} (hV : ∀ a b, a < 4 → b < 4 → I0 (76 + 4 * j + 2) ((q * 4 + a) * 4 + b) = nI (V a b)) (hB : ∀ o, o < 4 → I0 (76 + 4 * j + 3) (q * 4 + o) = nI (U o)) (hWh : Wh < 2147483648) (hWW : Wh * W l < 2147483648 ^ 16) (hWT : Wh * T < 2147483648 ^ 32) (hle : Wh * W l ≤ ai_qs (fun x => ai_qt (fun y => F2 x y * W y) n) n) : ∀ (z a : Nat) (I : Nat → Nat → Int32) (u6 : Option Value), a + z = n → ai_OQ I n t k l T W → ai_BG I 29 32 (ai_qs (fun x => ai_qt (fun y => F2 x y * W y) n) a) → (∀ z, (z < 8 ∨ (24 ≤ z ∧ z < 29) ∨ 33 ≤ z) → I z = I0 z) →
    ai_Ev none 34 22 [some (.ref 8), some (.ref (76 + 4 * j)), some (.int (nI q)), some (.ref 28), some (.int (nI Wh)), some (.int (nI a)), u6] [] (S, I, L, F) (ai_Pu S F L (fun I2 => ai_OQ I2 n t k l T W ∧ ai_BG I2 29 32 (ai_qs (fun x => ai_qt (fun y => F2 x y * W y) n) n - Wh * W l) ∧ ai_BG I2 31 32 (Wh * T) ∧ ∀ z, (z < 8 ∨ (24 ≤ z ∧ z < 29) ∨ 33 ≤ z) → I2 z = I0 z)) := by
  intro z
  induction z with
  | zero =>
    intro a I u6 hz hO hA hf
    obtain ⟨⟨g4, g5, g6, hw⟩, g7, hS⟩ := hO
    have e9 : n = a := by omega
    subst e9
    have hWl2 := hWl l hl
    have hT2 : T < 2147483648 ^ 32 := by rcases hS with ⟨s9, _, hs9, hok9, hv9, _⟩; rw [← hv9]; exact Nat.lt_of_lt_of_le (val_lt (fun k hk => (hok9 k hk).2)) (Nat.pow_le_pow_right (by omega) (by omega))
    refine ev_iload 24 rfl d34_22 rfl ?_
    refine ev_aload_n 25 rfl d34_24 rfl ?_
    refine ev_geti (v := nI n) 28 rfl 3 4 d34_25 rfl (by omega) (G.1 _ _ (rfl : ai_sp 8 = (3, 0)) (by decide) (by decide)) g4 ?_
    refine ev_icmp 133 31 (by decide) rfl (cn_ge (by omega) (by omega)) d34_28 (fun hc_28 => ?_) (fun hc_28 => absurd hc_28 (by omega))
    refine ev_aload_n 134 rfl d34_133 rfl ?_
    refine ev_getr 137 rfl 3 2 d34_134 rfl (by omega) (G.1 _ _ (rfl : ai_sp 8 = (3, 0)) (by decide) (by decide)) (G.2 _ _ _ (rfl : ai_rf 8 2 = some 12)) ?_
    refine ev_aload_n 138 rfl d34_137 rfl ?_
    refine ev_getr 141 rfl 3 0 d34_138 rfl (by omega) (G.1 _ _ (rfl : ai_sp 8 = (3, 0)) (by decide) (by decide)) (G.2 _ _ _ (rfl : ai_rf 8 0 = some 9)) ?_
    refine ev_aload_n 142 rfl d34_141 rfl ?_
    refine ev_geti (v := nI l) 145 rfl 3 7 d34_142 rfl (by omega) (G.1 _ _ (rfl : ai_sp 8 = (3, 0)) (by decide) (by decide)) g7 ?_
    refine ev_aald_n 146 rfl d34_145 (by omega) (by decide) (G.1 _ _ (rfl : ai_sp 9 = (108, 4)) (by decide) (by decide)) (by omega) (by decide) (G.2 _ _ _ (rf_weight (by omega))) ?_
    refine ev_cu1 149 rfl 2 d34_146 rfl rfl (by rw [G.1 _ _ (rfl : ai_sp 12 = (0, 0)) (by decide) (by decide)]; rfl) (by omega) rfl (big_setB G (big_16 12 (by omega)) (by decide) (big_w (b := l) (by omega)) (by decide) (by omega) (hw l (by omega)) (by first | omega | assumption)) (fun I_1 hr_146 => ?_)
    obtain ⟨b_2, f_3⟩ := hr_146
    have b_4 : ai_BG I_1 10 16 T := hS.eq (f_3 _ (by omega)) (f_3 _ (by omega))
    have b_5 : ai_BG I_1 29 32 (ai_qs (fun x => ai_qt (fun y => F2 x y * W y) n) n) := hA.eq (f_3 _ (by omega)) (f_3 _ (by omega))
    have f_6 : ∀ z, (z < 8 ∨ (24 ≤ z ∧ z < 29) ∨ 33 ≤ z) → I_1 z = I0 z := fun z hz => (f_3 z (by omega)).trans (hf z hz)
    have g_7 : I_1 8 4 = nI n := by rw [f_3 _ (by omega)]; exact g4
    have g_8 : I_1 8 5 = nI t - 1 := by rw [f_3 _ (by omega)]; exact g5
    have g_9 : I_1 8 6 = nI k := by rw [f_3 _ (by omega)]; exact g6
    have g_10 : I_1 8 7 = nI l := by rw [f_3 _ (by omega)]; exact g7
    have w_11 : ∀ b, b < n → ai_BG I_1 (16 + 2 * b) 16 (W b) := fun b hb9 => (hw b hb9).eq (f_3 _ (by omega)) (f_3 _ (by omega))
    refine ev_aload_n 150 rfl d34_149 rfl ?_
    refine ev_getr 153 rfl 3 2 d34_150 rfl (by omega) (G.1 _ _ (rfl : ai_sp 8 = (3, 0)) (by decide) (by decide)) (G.2 _ _ _ (rfl : ai_rf 8 2 = some 12)) ?_
    refine ev_iload 155 rfl d34_153 rfl ?_
    refine ev_cu1 158 rfl 4 d34_155 rfl rfl (by rw [G.1 _ _ (rfl : ai_sp 12 = (0, 0)) (by decide) (by decide)]; rfl) (by omega) rfl (big_mul G (big_16 12 (by omega)) (by decide) b_2 (m := Wh) (by omega) (by first | omega | assumption)) (fun I_12 hr_155 => ?_)
    obtain ⟨b_13, f_14⟩ := hr_155
    have b_15 : ai_BG I_12 10 16 T := b_4.eq (f_14 _ (by omega)) (f_14 _ (by omega))
    have b_16 : ai_BG I_12 29 32 (ai_qs (fun x => ai_qt (fun y => F2 x y * W y) n) n) := b_5.eq (f_14 _ (by omega)) (f_14 _ (by omega))
    have f_17 : ∀ z, (z < 8 ∨ (24 ≤ z ∧ z < 29) ∨ 33 ≤ z) → I_12 z = I0 z := fun z hz => (f_14 z (by omega)).trans (f_6 z hz)
    have g_18 : I_12 8 4 = nI n := by rw [f_14 _ (by omega)]; exact g_7
    have g_19 : I_12 8 5 = nI t - 1 := by rw [f_14 _ (by omega)]; exact g_8
    have g_20 : I_12 8 6 = nI k := by rw [f_14 _ (by omega)]; exact g_9
    have g_21 : I_12 8 7 = nI l := by rw [f_14 _ (by omega)]; exact g_10
    have w_22 : ∀ b, b < n → ai_BG I_12 (16 + 2 * b) 16 (W b) := fun b hb9 => (w_11 b hb9).eq (f_14 _ (by omega)) (f_14 _ (by omega))
    refine ev_aload_n 159 rfl d34_158 rfl ?_
    refine ev_getr 162 rfl 5 0 d34_159 rfl (by omega) (G.1 _ _ (rfl : ai_sp 28 = (5, 0)) (by decide) (by decide)) (G.2 _ _ _ (rfl : ai_rf 28 0 = some 29)) ?_
    refine ev_aload_n 163 rfl d34_162 rfl ?_
    refine ev_getr 166 rfl 3 2 d34_163 rfl (by omega) (G.1 _ _ (rfl : ai_sp 8 = (3, 0)) (by decide) (by decide)) (G.2 _ _ _ (rfl : ai_rf 8 2 = some 12)) ?_
    refine ev_cu1 169 rfl 6 d34_166 rfl rfl (by rw [G.1 _ _ (rfl : ai_sp 29 = (0, 0)) (by decide) (by decide)]; rfl) (by omega) rfl (big_sub G (big_32 29 (by omega)) (by decide) (big_16 12 (by omega)) (by decide) (by omega) b_16 b_13 (by first | omega | assumption)) (fun I_23 hr_166 => ?_)
    obtain ⟨b_24, f_25⟩ := hr_166
    have b_26 : ai_BG I_23 10 16 T := b_15.eq (f_25 _ (by omega)) (f_25 _ (by omega))
    have b_27 : ai_BG I_23 12 16 (Wh * (W l)) := b_13.eq (f_25 _ (by omega)) (f_25 _ (by omega))
    have f_28 : ∀ z, (z < 8 ∨ (24 ≤ z ∧ z < 29) ∨ 33 ≤ z) → I_23 z = I0 z := fun z hz => (f_25 z (by omega)).trans (f_17 z hz)
    have g_29 : I_23 8 4 = nI n := by rw [f_25 _ (by omega)]; exact g_18
    have g_30 : I_23 8 5 = nI t - 1 := by rw [f_25 _ (by omega)]; exact g_19
    have g_31 : I_23 8 6 = nI k := by rw [f_25 _ (by omega)]; exact g_20
    have g_32 : I_23 8 7 = nI l := by rw [f_25 _ (by omega)]; exact g_21
    have w_33 : ∀ b, b < n → ai_BG I_23 (16 + 2 * b) 16 (W b) := fun b hb9 => (w_22 b hb9).eq (f_25 _ (by omega)) (f_25 _ (by omega))
    refine ev_aload_n 170 rfl d34_169 rfl ?_
    refine ev_getr 173 rfl 5 1 d34_170 rfl (by omega) (G.1 _ _ (rfl : ai_sp 28 = (5, 0)) (by decide) (by decide)) (G.2 _ _ _ (rfl : ai_rf 28 1 = some 31)) ?_
    refine ev_aload_n 174 rfl d34_173 rfl ?_
    refine ev_getr 177 rfl 3 1 d34_174 rfl (by omega) (G.1 _ _ (rfl : ai_sp 8 = (3, 0)) (by decide) (by decide)) (G.2 _ _ _ (rfl : ai_rf 8 1 = some 10)) ?_
    refine ev_cu1 180 rfl 2 d34_177 rfl rfl (by rw [G.1 _ _ (rfl : ai_sp 31 = (0, 0)) (by decide) (by decide)]; rfl) (by omega) rfl (big_setB G (big_32 31 (by omega)) (by decide) (big_16 10 (by omega)) (by decide) (by omega) b_26 (by first | omega | assumption)) (fun I_34 hr_177 => ?_)
    obtain ⟨b_35, f_36⟩ := hr_177
    have b_37 : ai_BG I_34 10 16 T := b_26.eq (f_36 _ (by omega)) (f_36 _ (by omega))
    have b_38 : ai_BG I_34 29 32 ((ai_qs (fun x => ai_qt (fun y => F2 x y * W y) n) n) - (Wh * (W l))) := b_24.eq (f_36 _ (by omega)) (f_36 _ (by omega))
    have b_39 : ai_BG I_34 12 16 (Wh * (W l)) := b_27.eq (f_36 _ (by omega)) (f_36 _ (by omega))
    have f_40 : ∀ z, (z < 8 ∨ (24 ≤ z ∧ z < 29) ∨ 33 ≤ z) → I_34 z = I0 z := fun z hz => (f_36 z (by omega)).trans (f_28 z hz)
    have g_41 : I_34 8 4 = nI n := by rw [f_36 _ (by omega)]; exact g_29
    have g_42 : I_34 8 5 = nI t - 1 := by rw [f_36 _ (by omega)]; exact g_30
    have g_43 : I_34 8 6 = nI k := by rw [f_36 _ (by omega)]; exact g_31
    have g_44 : I_34 8 7 = nI l := by rw [f_36 _ (by omega)]; exact g_32
    have w_45 : ∀ b, b < n → ai_BG I_34 (16 + 2 * b) 16 (W b) := fun b hb9 => (w_33 b hb9).eq (f_36 _ (by omega)) (f_36 _ (by omega))
    refine ev_aload_n 181 rfl d34_180 rfl ?_
    refine ev_getr 184 rfl 5 1 d34_181 rfl (by omega) (G.1 _ _ (rfl : ai_sp 28 = (5, 0)) (by decide) (by decide)) (G.2 _ _ _ (rfl : ai_rf 28 1 = some 31)) ?_
    refine ev_iload 186 rfl d34_184 rfl ?_
    refine ev_cu1 189 rfl 4 d34_186 rfl rfl (by rw [G.1 _ _ (rfl : ai_sp 31 = (0, 0)) (by decide) (by decide)]; rfl) (by omega) rfl (big_mul G (big_32 31 (by omega)) (by decide) b_35 (m := Wh) (by omega) (by first | omega | assumption)) (fun I_46 hr_186 => ?_)
    obtain ⟨b_47, f_48⟩ := hr_186
    have b_49 : ai_BG I_46 10 16 T := b_37.eq (f_48 _ (by omega)) (f_48 _ (by omega))
    have b_50 : ai_BG I_46 29 32 ((ai_qs (fun x => ai_qt (fun y => F2 x y * W y) n) n) - (Wh * (W l))) := b_38.eq (f_48 _ (by omega)) (f_48 _ (by omega))
    have b_51 : ai_BG I_46 12 16 (Wh * (W l)) := b_39.eq (f_48 _ (by omega)) (f_48 _ (by omega))
    have f_52 : ∀ z, (z < 8 ∨ (24 ≤ z ∧ z < 29) ∨ 33 ≤ z) → I_46 z = I0 z := fun z hz => (f_48 z (by omega)).trans (f_40 z hz)
    have g_53 : I_46 8 4 = nI n := by rw [f_48 _ (by omega)]; exact g_41
    have g_54 : I_46 8 5 = nI t - 1 := by rw [f_48 _ (by omega)]; exact g_42
    have g_55 : I_46 8 6 = nI k := by rw [f_48 _ (by omega)]; exact g_43
    have g_56 : I_46 8 7 = nI l := by rw [f_48 _ (by omega)]; exact g_44
    have w_57 : ∀ b, b < n → ai_BG I_46 (16 + 2 * b) 16 (W b) := fun b hb9 => (w_45 b hb9).eq (f_48 _ (by omega)) (f_48 _ (by omega))
    refine ev_vret rfl d34_189 ?_
    exact ⟨rfl, _, rfl, ⟨⟨g_53, g_54, g_55, w_57⟩, g_56, b_49⟩, b_50, b_47, f_52⟩
  | succ z ih =>
    intro a I u6 hz hO hA hf
    obtain ⟨⟨g4, g5, g6, hw⟩, g7, hS⟩ := hO
    refine ev_iload 24 rfl d34_22 rfl ?_
    refine ev_aload_n 25 rfl d34_24 rfl ?_
    refine ev_geti (v := nI n) 28 rfl 3 4 d34_25 rfl (by omega) (G.1 _ _ (rfl : ai_sp 8 = (3, 0)) (by decide) (by decide)) g4 ?_
    refine ev_icmp 133 31 (by decide) rfl (cn_ge (by omega) (by omega)) d34_28 (fun hc_28 => absurd hc_28 (by omega)) (fun hc_28 => ?_)
    refine ev_aload_n 32 rfl d34_31 rfl ?_
    refine ev_getr 35 rfl 3 3 d34_32 rfl (by omega) (G.1 _ _ (rfl : ai_sp 8 = (3, 0)) (by decide) (by decide)) (G.2 _ _ _ (rfl : ai_rf 8 3 = some 14)) ?_
    refine ev_iconst (v := nI 0) 36 rfl d34_35 (by decide) ?_
    refine ev_cu1 39 rfl 1 d34_36 rfl rfl (by rw [G.1 _ _ (rfl : ai_sp 14 = (0, 0)) (by decide) (by decide)]; rfl) (by omega) rfl (big_set G (big_16 14 (by omega)) (by decide) (by decide) (m := 0) (by omega)) (fun I_1 hr_36 => ?_)
    obtain ⟨b_2, f_3⟩ := hr_36
    have b_4 : ai_BG I_1 10 16 T := hS.eq (f_3 _ (by omega)) (f_3 _ (by omega))
    have b_5 : ai_BG I_1 29 32 (ai_qs (fun x => ai_qt (fun y => F2 x y * W y) n) a) := hA.eq (f_3 _ (by omega)) (f_3 _ (by omega))
    have f_6 : ∀ z, (z < 8 ∨ (24 ≤ z ∧ z < 29) ∨ 33 ≤ z) → I_1 z = I0 z := fun z hz => (f_3 z (by omega)).trans (hf z hz)
    have g_7 : I_1 8 4 = nI n := by rw [f_3 _ (by omega)]; exact g4
    have g_8 : I_1 8 5 = nI t - 1 := by rw [f_3 _ (by omega)]; exact g5
    have g_9 : I_1 8 6 = nI k := by rw [f_3 _ (by omega)]; exact g6
    have g_10 : I_1 8 7 = nI l := by rw [f_3 _ (by omega)]; exact g7
    have w_11 : ∀ b, b < n → ai_BG I_1 (16 + 2 * b) 16 (W b) := fun b hb9 => (hw b hb9).eq (f_3 _ (by omega)) (f_3 _ (by omega))
    refine ev_iconst (v := nI 0) 40 rfl d34_39 (by decide) ?_
    refine ev_store_i 42 rfl d34_40 ⟨rfl, Nat.le_of_ble_eq_true rfl⟩ rfl ?_
    show ai_Ev _ _ _ [some (.ref 8), some (.ref (76 + 4 * j)), some (.int (nI q)), some (.ref 28), some (.int (nI Wh)), some (.int (nI a)), some (.int (nI 0))] _ _ _
    have k8 : ai_BG I_1 14 16 (ai_qt (fun y => F2 a y * W y) 0) := b_2
    refine o_gain_in G hn ht hl hj hq hVl hUl hF hFl hWl hfit hsum hV hB (by omega) n 0 I_1 (by omega) ⟨⟨g_7, g_8, g_9, w_11⟩, g_10, b_4⟩ b_5 k8 f_6 ?_
    intro I9 hO9 hA2 h14 hf2
    obtain ⟨⟨g4, g5, g6, hw⟩, g7, hS⟩ := hO9
    have hfb : ai_qs (fun x => ai_qt (fun y => F2 x y * W y) n) a + (fun x => ai_qt (fun y => F2 x y * W y) n) a < 2147483648 ^ 32 := Nat.lt_of_le_of_lt (qs_le (by omega)) hsum
    refine ev_aload_n 117 rfl d34_116 rfl ?_
    refine ev_getr 120 rfl 5 0 d34_117 rfl (by omega) (G.1 _ _ (rfl : ai_sp 28 = (5, 0)) (by decide) (by decide)) (G.2 _ _ _ (rfl : ai_rf 28 0 = some 29)) ?_
    refine ev_aload_n 121 rfl d34_120 rfl ?_
    refine ev_getr 124 rfl 3 3 d34_121 rfl (by omega) (G.1 _ _ (rfl : ai_sp 8 = (3, 0)) (by decide) (by decide)) (G.2 _ _ _ (rfl : ai_rf 8 3 = some 14)) ?_
    refine ev_cu1 127 rfl 5 d34_124 rfl rfl (by rw [G.1 _ _ (rfl : ai_sp 29 = (0, 0)) (by decide) (by decide)]; rfl) (by omega) rfl (big_add G (big_32 29 (by omega)) (by decide) (big_16 14 (by omega)) (by decide) (by omega) hA2 h14 (by first | omega | assumption)) (fun I_51 hr_124 => ?_)
    obtain ⟨b_52, f_53⟩ := hr_124
    have b_54 : ai_BG I_51 10 16 T := hS.eq (f_53 _ (by omega)) (f_53 _ (by omega))
    have b_55 : ai_BG I_51 14 16 ((fun x => ai_qt (fun y => F2 x y * W y) n) a) := h14.eq (f_53 _ (by omega)) (f_53 _ (by omega))
    have f_56 : ∀ z, (z < 8 ∨ (24 ≤ z ∧ z < 29) ∨ 33 ≤ z) → I_51 z = I0 z := fun z hz => (f_53 z (by omega)).trans (hf2 z hz)
    have g_57 : I_51 8 4 = nI n := by rw [f_53 _ (by omega)]; exact g4
    have g_58 : I_51 8 5 = nI t - 1 := by rw [f_53 _ (by omega)]; exact g5
    have g_59 : I_51 8 6 = nI k := by rw [f_53 _ (by omega)]; exact g6
    have g_60 : I_51 8 7 = nI l := by rw [f_53 _ (by omega)]; exact g7
    have w_61 : ∀ b, b < n → ai_BG I_51 (16 + 2 * b) 16 (W b) := fun b hb9 => (hw b hb9).eq (f_53 _ (by omega)) (f_53 _ (by omega))
    refine ev_iinc (v := nI (a + 1)) 130 rfl d34_127 rfl (Nat.le_of_ble_eq_true rfl) (nI_add _ 1) rfl ?_
    show ai_Ev _ _ _ [some (.ref 8), some (.ref (76 + 4 * j)), some (.int (nI q)), some (.ref 28), some (.int (nI Wh)), some (.int (nI (a + 1))), some (.int (nI n))] _ _ _
    refine ev_goto 22 (by decide) d34_130 ?_
    exact ih (a + 1) I_51 _ (by omega) ⟨⟨g_57, g_58, g_59, w_61⟩, g_60, b_54⟩ b_52 f_56
theorem o_gain (G : ai_G S F) {n t k l T Wh : Nat} {W U : Nat → Nat} {V F2 : Nat → Nat → Nat} (hn : n ≤ 4) (ht : t ≤ 4) (hl : l < n) {j q : Nat} (hj : j < 24) (hq : q < 5) (hVl : ∀ a b, a < 4 → b < 4 → V a b < 1000000) (hUl : ∀ o, o < 4 → U o < 1000000) (hF : ∀ a b, a < n → b < n → (1 + V a b) * ai_qp (fun x => if x = b then 1 else n + U x) n = F2 a b) (hFl : ∀ a b, a < n → b < n → F2 a b < 2147483648) (hWl : ∀ b, b < n → W b < 2147483648 ^ 16) (hfit : ∀ a b, a < n → b < n → F2 a b * W b < 2147483648 ^ 16) (hsum : ai_qs (fun x => ai_qt (fun y => F2 x y * W y) n) n < 2147483648 ^ 32) {I : Nat → Nat → Int32} (hV : ∀ a b, a < 4 → b < 4 → I (76 + 4 * j + 2) ((q * 4 + a) * 4 + b) = nI (V a b)) (hB : ∀ o, o < 4 → I (76 + 4 * j + 3) (q * 4 + o) = nI (U o)) (hWh : Wh < 2147483648) (hWW : Wh * W l < 2147483648 ^ 16) (hWT : Wh * T < 2147483648 ^ 32) (hle : Wh * W l ≤ ai_qs (fun x => ai_qt (fun y => F2 x y * W y) n) n) (hW9 : ai_qp (fun x => n + U x) n = Wh) (hO : ai_OQ I n t k l T W) :
    ai_Ev none 34 0 [some (.ref 8), some (.ref (76 + 4 * j)), some (.int (nI q)), some (.ref 28), none, none, none] [] (S, I, L, F) (ai_Pu S F L (fun I2 => ai_OQ I2 n t k l T W ∧ ai_BG I2 29 32 (ai_qs (fun x => ai_qt (fun y => F2 x y * W y) n) n - Wh * W l) ∧ ai_BG I2 31 32 (Wh * T) ∧ ∀ z, (z < 8 ∨ (24 ≤ z ∧ z < 29) ∨ 33 ≤ z) → I2 z = I z)) := by
  obtain ⟨⟨g4, g5, g6, hw⟩, g7, hS⟩ := hO
  have hf0 : ∀ z, (z < 8 ∨ (24 ≤ z ∧ z < 29) ∨ 33 ≤ z) → I z = I z := fun _ _ => rfl
  refine ev_aload_n 1 rfl d34_0 rfl ?_
  refine ev_iload_n 2 rfl d34_1 rfl ?_
  refine ev_aload_n 3 rfl d34_2 rfl ?_
  refine ev_geti (v := nI n) 6 rfl 3 4 d34_3 rfl (by omega) (G.1 _ _ (rfl : ai_sp 8 = (3, 0)) (by decide) (by decide)) g4 ?_
  refine ev_cp2 9 rfl 27 d34_6 rfl rfl (by rw [G.1 _ _ (sp_judge (by omega)) (by omega) (by omega)]; rfl) (by omega) rfl (show ai_Ev none 27 0 _ [] (S, I, L, F) (ai_Pp S F I L (.int (nI Wh))) from by rw [← hW9]; exact j_product G hj hq hn hUl hB) ?_
  refine ev_store_i 11 rfl d34_9 ⟨rfl, Nat.le_of_ble_eq_true rfl⟩ rfl ?_
  show ai_Ev _ _ _ [some (.ref 8), some (.ref (76 + 4 * j)), some (.int (nI q)), some (.ref 28), some (.int (nI Wh)), none, none] _ _ _
  refine ev_aload_n 12 rfl d34_11 rfl ?_
  refine ev_getr 15 rfl 5 0 d34_12 rfl (by omega) (G.1 _ _ (rfl : ai_sp 28 = (5, 0)) (by decide) (by decide)) (G.2 _ _ _ (rfl : ai_rf 28 0 = some 29)) ?_
  refine ev_iconst (v := nI 0) 16 rfl d34_15 (by decide) ?_
  refine ev_cu1 19 rfl 1 d34_16 rfl rfl (by rw [G.1 _ _ (rfl : ai_sp 29 = (0, 0)) (by decide) (by decide)]; rfl) (by omega) rfl (big_set G (big_32 29 (by omega)) (by decide) (by decide) (m := 0) (by omega)) (fun I_1 hr_16 => ?_)
  obtain ⟨b_2, f_3⟩ := hr_16
  have b_4 : ai_BG I_1 10 16 T := hS.eq (f_3 _ (by omega)) (f_3 _ (by omega))
  have f_5 : ∀ z, (z < 8 ∨ (24 ≤ z ∧ z < 29) ∨ 33 ≤ z) → I_1 z = I z := fun z hz => (f_3 z (by omega)).trans (hf0 z hz)
  have g_6 : I_1 8 4 = nI n := by rw [f_3 _ (by omega)]; exact g4
  have g_7 : I_1 8 5 = nI t - 1 := by rw [f_3 _ (by omega)]; exact g5
  have g_8 : I_1 8 6 = nI k := by rw [f_3 _ (by omega)]; exact g6
  have g_9 : I_1 8 7 = nI l := by rw [f_3 _ (by omega)]; exact g7
  have w_10 : ∀ b, b < n → ai_BG I_1 (16 + 2 * b) 16 (W b) := fun b hb9 => (hw b hb9).eq (f_3 _ (by omega)) (f_3 _ (by omega))
  refine ev_iconst (v := nI 0) 20 rfl d34_19 (by decide) ?_
  refine ev_store_i 22 rfl d34_20 ⟨rfl, Nat.le_of_ble_eq_true rfl⟩ rfl ?_
  show ai_Ev _ _ _ [some (.ref 8), some (.ref (76 + 4 * j)), some (.int (nI q)), some (.ref 28), some (.int (nI Wh)), some (.int (nI 0)), none] _ _ _
  exact o_gain_loop G hn ht hl hj hq hVl hUl hF hFl hWl hfit hsum hV hB hWh hWW hWT hle n 0 _ _ (by omega) ⟨⟨g_6, g_7, g_8, w_10⟩, g_9, b_4⟩ b_2 f_5
end ODDS
