section BIG3
variable {S : List (Nat × Nat)} {F : Nat → Nat → Option Nat} {L : Nat → Nat → Int64}

theorem big_addm_loop (G : ai_G S F) {a n : Nat} (hb : ai_big a n) (hn31 : n < 2 ^ 31) {b n2 : Nat} (hb2 : ai_big b n2) (hn32 : n2 < 2 ^ 31) (hab : a ≠ b) {T t f m : Nat} (hTn : T ≤ n) (hft : f + t < T) (hm : m < 2147483648) (htn : t ≤ n2) {I0 : Nat → Nat → Int32} (gok : ai_OK I0 (b + 1) t) {Q : Option Value → ai_H → Prop}
    (hk : ∀ (I : Nat → Nat → Int32) (c : Nat) (u8 u9 : Option Value), ai_OK I (a + 1) T → (∀ j, f + t ≤ j → I (a + 1) j = I0 (a + 1) j) → c < 2147483648 → ai_val 2147483648 (ai_dg I (a + 1)) (f + t) + c * 2147483648 ^ (f + t) = ai_val 2147483648 (ai_dg I0 (a + 1)) (f + t) + m * ai_val 2147483648 (ai_dg I0 (b + 1)) t * 2147483648 ^ f → (∀ x, x ≠ a + 1 → I x = I0 x) → ai_Ev none 9 85 [some (.ref a), some (.ref b), some (.int (nI m)), some (.int (nI f)), some (.long (lN c)), none, some (.int (nI t)), some (.int (nI t)), u8, u9] [] (S, I, L, F) Q) :
    ∀ (z k : Nat) (I : Nat → Nat → Int32) (c : Nat) (u8 u9 : Option Value), k + z = t → ai_OK I (a + 1) T → I (b + 1) = I0 (b + 1) → (∀ j, f + k ≤ j → I (a + 1) j = I0 (a + 1) j) → c < 2147483648 → ai_val 2147483648 (ai_dg I (a + 1)) (f + k) + c * 2147483648 ^ (f + k) = ai_val 2147483648 (ai_dg I0 (a + 1)) (f + k) + m * ai_val 2147483648 (ai_dg I0 (b + 1)) k * 2147483648 ^ f → (∀ x, x ≠ a + 1 → I x = I0 x) →
    ai_Ev none 9 22 [some (.ref a), some (.ref b), some (.int (nI m)), some (.int (nI f)), some (.long (lN c)), none, some (.int (nI t)), some (.int (nI k)), u8, u9] [] (S, I, L, F) Q := by
  intro z
  induction z with
  | zero =>
    intro k I c u8 u9 hkr hok hbr hD hc hv hfr
    obtain rfl : k = t := by omega
    refine ev_iload 24 rfl d9_22 rfl ?_
    refine ev_iload 26 rfl d9_24 rfl ?_
    refine ev_icmp 85 29 (by decide) rfl (cn_ge (by omega) (by omega)) d9_26 (fun hc_26 => ?_) (fun hc_26 => absurd hc_26 (by omega))
    exact hk I c u8 u9 hok hD hc hv hfr
  | succ z ih =>
    intro k I c u8 u9 hkr hok hbr hD hc hv hfr
    refine ev_iload 24 rfl d9_22 rfl ?_
    refine ev_iload 26 rfl d9_24 rfl ?_
    refine ev_icmp 85 29 (by decide) rfl (cn_ge (by omega) (by omega)) d9_26 (fun hc_26 => absurd hc_26 (by omega)) (fun hc_26 => ?_)
    have hek := (gok k (by omega)).2
    have hpr : m * ai_dg I0 (b + 1) k ≤ 2147483647 * 2147483647 := Nat.mul_le_mul (by omega) (by omega)
    have hdk := (hok (f + k) (by omega)).2
    refine ev_iload_n 30 rfl d9_29 rfl ?_
    refine ev_i2l (v := lN m) 31 rfl d9_30 (nI_l (by omega)) ?_
    refine ev_aload_n 32 rfl d9_31 rfl ?_
    refine ev_getr 35 rfl 0 0 d9_32 rfl hb2.2.2.2.1 (G.1 _ _ hb2.1 hb2.2.2.2.1 (by have := hb2.2.2.2.2; omega)) (G.2 _ _ _ hb2.2.1) ?_
    refine ev_iload 37 rfl d9_35 rfl ?_
    refine ev_iald_n (v := nI (ai_dg I0 (b + 1) k)) 38 rfl d9_37 (by omega) (G.1 _ _ hb2.2.2.1 (by omega) hb2.2.2.2.2) (by omega) hn32 ((congrFun hbr k).trans (gok k (by omega)).1) ?_
    refine ev_i2l (v := lN (ai_dg I0 (b + 1) k)) 39 rfl d9_38 (nI_l (by omega)) ?_
    refine ev_lmul (v := lN (m * (ai_dg I0 (b + 1) k))) 40 rfl d9_39 (lN_mul _ _) ?_
    refine ev_aload_n 41 rfl d9_40 rfl ?_
    refine ev_getr 44 rfl 0 0 d9_41 rfl hb.2.2.2.1 (G.1 _ _ hb.1 hb.2.2.2.1 (by have := hb.2.2.2.2; omega)) (G.2 _ _ _ hb.2.1) ?_
    refine ev_iload_n 45 rfl d9_44 rfl ?_
    refine ev_iload 47 rfl d9_45 rfl ?_
    refine ev_iadd (v := nI (f + k)) 48 rfl d9_47 (nI_add _ _) ?_
    refine ev_iald_n (v := nI (ai_dg I (a + 1) (f + k))) 49 rfl d9_48 (by omega) (G.1 _ _ hb.2.2.1 (by omega) hb.2.2.2.2) (by omega) hn31 (hok (f + k) (by omega)).1 ?_
    refine ev_i2l (v := lN (ai_dg I (a + 1) (f + k))) 50 rfl d9_49 (nI_l (by omega)) ?_
    refine ev_ladd (v := lN ((m * (ai_dg I0 (b + 1) k)) + (ai_dg I (a + 1) (f + k)))) 51 rfl d9_50 (lN_add _ _) ?_
    refine ev_lload 53 rfl d9_51 rfl ?_
    refine ev_ladd (v := lN (((m * (ai_dg I0 (b + 1) k)) + (ai_dg I (a + 1) (f + k))) + c)) 54 rfl d9_53 (lN_add _ _) ?_
    refine ev_store_l 56 rfl d9_54 ⟨rfl, Nat.le_of_ble_eq_true rfl⟩ rfl ?_
    show ai_Ev _ _ _ [some (.ref a), some (.ref b), some (.int (nI m)), some (.int (nI f)), some (.long (lN c)), none, some (.int (nI t)), some (.int (nI k)), some (.long (lN (((m * (ai_dg I0 (b + 1) k)) + (ai_dg I (a + 1) (f + k))) + c))), none] _ _ _
    refine ev_aload_n 57 rfl d9_56 rfl ?_
    refine ev_getr 60 rfl 0 0 d9_57 rfl hb.2.2.2.1 (G.1 _ _ hb.1 hb.2.2.2.1 (by have := hb.2.2.2.2; omega)) (G.2 _ _ _ hb.2.1) ?_
    refine ev_iload_n 61 rfl d9_60 rfl ?_
    refine ev_iload 63 rfl d9_61 rfl ?_
    refine ev_iadd (v := nI (f + k)) 64 rfl d9_63 (nI_add _ _) ?_
    refine ev_lload 66 rfl d9_64 rfl ?_
    refine ev_ldc2 (v := lN 2147483647) 69 rfl d9_66 (by decide) ?_
    refine ev_land (v := lN ((((m * (ai_dg I0 (b + 1) k)) + (ai_dg I (a + 1) (f + k))) + c) % 2147483648)) 70 rfl d9_69 (lN_mask31 (by omega)) ?_
    refine ev_l2i (v := nI ((((m * (ai_dg I0 (b + 1) k)) + (ai_dg I (a + 1) (f + k))) + c) % 2147483648)) 71 rfl d9_70 (lN_i _) ?_
    obtain ⟨I_1, hI_1⟩ : ∃ z, z = ai_ui I (a + 1) (f + k) (nI ((((m * (ai_dg I0 (b + 1) k)) + (ai_dg I (a + 1) (f + k))) + c) % 2147483648)) := ⟨_, rfl⟩
    refine ev_iast_n (I2 := I_1) 72 rfl d9_71 (by omega) (G.1 _ _ hb.2.2.1 (by omega) hb.2.2.2.2) (by omega) hn31 hI_1.symm ?_
    refine ev_lload 74 rfl d9_72 rfl ?_
    refine ev_bipush (v := nI 31) 76 rfl d9_74 (by decide) ?_
    refine ev_lushr (v := lN ((((m * (ai_dg I0 (b + 1) k)) + (ai_dg I (a + 1) (f + k))) + c) / 2147483648)) 77 rfl d9_76 (lN_shr31 (by omega)) ?_
    refine ev_store_l 79 rfl d9_77 ⟨rfl, Nat.le_of_ble_eq_true rfl⟩ rfl ?_
    show ai_Ev _ _ _ [some (.ref a), some (.ref b), some (.int (nI m)), some (.int (nI f)), some (.long (lN ((((m * (ai_dg I0 (b + 1) k)) + (ai_dg I (a + 1) (f + k))) + c) / 2147483648))), none, some (.int (nI t)), some (.int (nI k)), some (.long (lN (((m * (ai_dg I0 (b + 1) k)) + (ai_dg I (a + 1) (f + k))) + c))), none] _ _ _
    refine ev_iinc (v := nI (k + 1)) 82 rfl d9_79 rfl (Nat.le_of_ble_eq_true rfl) (nI_add _ 1) rfl ?_
    show ai_Ev _ _ _ [some (.ref a), some (.ref b), some (.int (nI m)), some (.int (nI f)), some (.long (lN ((((m * (ai_dg I0 (b + 1) k)) + (ai_dg I (a + 1) (f + k))) + c) / 2147483648))), none, some (.int (nI t)), some (.int (nI (k + 1))), some (.long (lN (((m * (ai_dg I0 (b + 1) k)) + (ai_dg I (a + 1) (f + k))) + c))), none] _ _ _
    refine ev_goto 22 (by decide) d9_82 ?_
    obtain ⟨x, hxe⟩ : ∃ x, x = m * ai_dg I0 (b + 1) k + ai_dg I (a + 1) (f + k) + c := ⟨_, rfl⟩
    rw [← hxe] at hI_1 ⊢
    have hx4 : x < 2147483648 * 2147483648 := by rw [hxe]; omega
    have hq : x / 2147483648 < 2147483648 := Nat.div_lt_of_lt_mul hx4
    have hr9 : x % 2147483648 < 2147483648 := Nat.mod_lt _ (by omega)
    have hne := big_ne hb hb2
    refine ih (k + 1) I_1 _ _ _ (by omega) (ai_OK_putIn hI_1 hr9 hok) (by rw [ui_row hI_1 (by omega)]; exact hbr) ?_ hq ?_ ?_
    · intro j hj1
      rw [ui_other hI_1 (Or.inr (by omega))]
      exact hD j (by omega)
    · have ea : ai_dg I (a + 1) (f + k) = ai_dg I0 (a + 1) (f + k) := by unfold ai_dg; rw [hD (f + k) (Nat.le_refl _)]
      rw [← Nat.add_assoc, val_put hI_1 hr9, val_succ, val_succ, Nat.pow_succ, val_carry]
      have e2 : x * 2147483648 ^ (f + k) = m * ai_dg I0 (b + 1) k * 2147483648 ^ (f + k) + ai_dg I0 (a + 1) (f + k) * 2147483648 ^ (f + k) + c * 2147483648 ^ (f + k) := by rw [hxe, ea, Nat.add_mul, Nat.add_mul]
      have e3 : m * (ai_val 2147483648 (ai_dg I0 (b + 1)) k + ai_dg I0 (b + 1) k * 2147483648 ^ k) * 2147483648 ^ f = m * ai_val 2147483648 (ai_dg I0 (b + 1)) k * 2147483648 ^ f + m * ai_dg I0 (b + 1) k * 2147483648 ^ (f + k) := by
        rw [Nat.mul_add, Nat.add_mul, Nat.pow_add, Nat.mul_comm (2147483648 ^ f), ← Nat.mul_assoc m, ← Nat.mul_assoc (m * ai_dg I0 (b + 1) k)]
      rw [e3]
      omega
    · intro z hz
      rw [ui_row hI_1 hz]
      exact hfr z hz
theorem big_addm (G : ai_G S F) {a n : Nat} (hb : ai_big a n) (hn31 : n < 2 ^ 31) {b n2 : Nat} (hb2 : ai_big b n2) (hn32 : n2 < 2 ^ 31) (hab : a ≠ b) {T t f m : Nat} (hTn : T ≤ n) (hft : f + t < T) (hm : m < 2147483648) (htn : t ≤ n2) {I0 : Nat → Nat → Int32} (h1 : I0 a 1 = nI T) (hok : ai_OK I0 (a + 1) T) (hz0 : ∀ j, f + t ≤ j → j < T → ai_dg I0 (a + 1) j = 0) (h2 : I0 b 1 = nI t) (gok : ai_OK I0 (b + 1) t) :
    ai_Ev none 9 0 [some (.ref a), some (.ref b), some (.int (nI m)), some (.int (nI f)), none, none, none, none, none, none] [] (S, I0, L, F) (ai_Pu S F L (fun I2 => (∀ x, x ≠ a + 1 → I2 x = I0 x) ∧ ai_OK I2 (a + 1) T ∧ (∀ j, f + t + 1 ≤ j → j < T → ai_dg I2 (a + 1) j = 0) ∧ ai_val 2147483648 (ai_dg I2 (a + 1)) T = ai_val 2147483648 (ai_dg I0 (a + 1)) T + m * ai_val 2147483648 (ai_dg I0 (b + 1)) t * 2147483648 ^ f)) := by
  refine ev_lconst (v := lN 0) 1 rfl d9_0 (by decide) ?_
  refine ev_store_l 3 rfl d9_1 ⟨rfl, Nat.le_of_ble_eq_true rfl⟩ rfl ?_
  show ai_Ev _ _ _ [some (.ref a), some (.ref b), some (.int (nI m)), some (.int (nI f)), some (.long (lN 0)), none, none, none, none, none] _ _ _
  refine ev_aload_n 4 rfl d9_3 rfl ?_
  refine ev_geti (v := nI t) 7 rfl 0 1 d9_4 rfl hb2.2.2.2.1 (G.1 _ _ hb2.1 hb2.2.2.2.1 (by have := hb2.2.2.2.2; omega)) h2 ?_
  refine ev_aload_n 8 rfl d9_7 rfl ?_
  refine ev_getr 11 rfl 0 0 d9_8 rfl hb.2.2.2.1 (G.1 _ _ hb.1 hb.2.2.2.1 (by have := hb.2.2.2.2; omega)) (G.2 _ _ _ hb.2.1) ?_
  refine ev_alen (v := nI n) 12 rfl d9_11 (by omega) (by decide) (G.1 _ _ hb.2.2.1 (by omega) hb.2.2.2.2) rfl ?_
  refine ev_iload_n 13 rfl d9_12 rfl ?_
  refine ev_isub (v := nI (n - f)) 14 rfl d9_13 (pk_sub (by omega)) ?_
  refine ev_min (v := nI t) 17 rfl d9_14 rfl rfl (if_neg (nI_nlt (by omega) (by omega))) ?_
  refine ev_store_i 19 rfl d9_17 ⟨rfl, Nat.le_of_ble_eq_true rfl⟩ rfl ?_
  show ai_Ev _ _ _ [some (.ref a), some (.ref b), some (.int (nI m)), some (.int (nI f)), some (.long (lN 0)), none, some (.int (nI t)), none, none, none] _ _ _
  refine ev_iconst (v := nI 0) 20 rfl d9_19 (by decide) ?_
  refine ev_store_i 22 rfl d9_20 ⟨rfl, Nat.le_of_ble_eq_true rfl⟩ rfl ?_
  show ai_Ev _ _ _ [some (.ref a), some (.ref b), some (.int (nI m)), some (.int (nI f)), some (.long (lN 0)), none, some (.int (nI t)), some (.int (nI 0)), none, none] _ _ _
  refine big_addm_loop G hb hn31 hb2 hn32 hab (T := T) (I0 := I0) hTn hft hm htn gok ?_ t 0 I0 0 none none (by omega) hok rfl (fun _ _ => rfl) (by omega) (by simp [ai_val]) (fun _ _ => rfl)
  intro I c u8 u9 g1 g2 g3 g4 g5
  refine ev_iload_n 86 rfl d9_85 rfl ?_
  refine ev_iload 88 rfl d9_86 rfl ?_
  refine ev_iadd (v := nI (f + t)) 89 rfl d9_88 (nI_add _ _) ?_
  refine ev_aload_n 90 rfl d9_89 rfl ?_
  refine ev_geti (v := nI T) 93 rfl 0 1 d9_90 rfl hb.2.2.2.1 (G.1 _ _ hb.1 hb.2.2.2.1 (by have := hb.2.2.2.2; omega)) ((congrFun (g5 a (by omega)) 1).trans h1) ?_
  refine ev_icmp 108 96 (by decide) rfl (cn_ge (by omega) (by omega)) d9_93 (fun hc_93 => absurd hc_93 (by omega)) (fun hc_93 => ?_)
  refine ev_aload_n 97 rfl d9_96 rfl ?_
  refine ev_getr 100 rfl 0 0 d9_97 rfl hb.2.2.2.1 (G.1 _ _ hb.1 hb.2.2.2.1 (by have := hb.2.2.2.2; omega)) (G.2 _ _ _ hb.2.1) ?_
  refine ev_iload_n 101 rfl d9_100 rfl ?_
  refine ev_iload 103 rfl d9_101 rfl ?_
  refine ev_iadd (v := nI (f + t)) 104 rfl d9_103 (nI_add _ _) ?_
  refine ev_lload 106 rfl d9_104 rfl ?_
  refine ev_l2i (v := nI c) 107 rfl d9_106 (lN_i _) ?_
  obtain ⟨I_1, hI_1⟩ : ∃ z, z = ai_ui I (a + 1) (f + t) (nI c) := ⟨_, rfl⟩
  refine ev_iast_n (I2 := I_1) 108 rfl d9_107 (by omega) (G.1 _ _ hb.2.2.1 (by omega) hb.2.2.2.2) (by omega) hn31 hI_1.symm ?_
  refine ev_vret rfl d9_108 ?_
  refine ⟨rfl, _, rfl, fun x hx => by rw [ui_row hI_1 hx, g5 x hx], ai_OK_putIn hI_1 g3 g1, fun j hj1 hj2 => ?_, ?_⟩
  · rw [dg_other hI_1 (Or.inr (by omega))]
    have : ai_dg I (a + 1) j = ai_dg I0 (a + 1) j := by unfold ai_dg; rw [g2 j (by omega)]
    rw [this]; exact hz0 j (by omega) hj2
  · have z1 : ai_val 2147483648 (ai_dg I_1 (a + 1)) T = ai_val 2147483648 (ai_dg I_1 (a + 1)) (f + t + 1) := val_zeros (by omega) (fun j hj1 hj2 => by
      rw [dg_other hI_1 (Or.inr (by omega))]
      have : ai_dg I (a + 1) j = ai_dg I0 (a + 1) j := by unfold ai_dg; rw [g2 j (by omega)]
      rw [this]; exact hz0 j (by omega) hj2)
    have z2 : ai_val 2147483648 (ai_dg I0 (a + 1)) T = ai_val 2147483648 (ai_dg I0 (a + 1)) (f + t) := val_zeros (by omega) (fun j hj1 hj2 => hz0 j hj1 hj2)
    rw [z1, z2, val_put hI_1 g3]
    exact g4
theorem big_zero_loop (G : ai_G S F) {a n : Nat} (hb : ai_big a n) (hn31 : n < 2 ^ 31) {b c : Nat} {T : Nat} (hTn : T ≤ n) {I0 : Nat → Nat → Int32} {Q : Option Value → ai_H → Prop}
    (hk : ∀ (I : Nat → Nat → Int32), I a 1 = nI T → (∀ j, j < T → I (a + 1) j = nI 0) → (∀ x, x ≠ a + 1 → I x = I0 x) → ai_Ev none 3 44 [some (.ref a), some (.ref b), some (.ref c), some (.int (nI T))] [] (S, I, L, F) Q) :
    ∀ (z k : Nat) (I : Nat → Nat → Int32), k + z = T → I a 1 = nI T → (∀ j, j < k → I (a + 1) j = nI 0) → (∀ x, x ≠ a + 1 → I x = I0 x) → ai_Ev none 3 23 [some (.ref a), some (.ref b), some (.ref c), some (.int (nI k))] [] (S, I, L, F) Q := by
  intro z
  induction z with
  | zero =>
    intro k I hkr h1 hz hfr
    obtain rfl : k = T := by omega
    refine ev_iload_n 24 rfl d3_23 rfl ?_
    refine ev_aload_n 25 rfl d3_24 rfl ?_
    refine ev_geti (v := nI k) 28 rfl 0 1 d3_25 rfl hb.2.2.2.1 (G.1 _ _ hb.1 hb.2.2.2.1 (by have := hb.2.2.2.2; omega)) h1 ?_
    refine ev_icmp 44 31 (by decide) rfl (cn_ge (by omega) (by omega)) d3_28 (fun hc_28 => ?_) (fun hc_28 => absurd hc_28 (by omega))
    exact hk I h1 hz hfr
  | succ z ih =>
    intro k I hkr h1 hz hfr
    refine ev_iload_n 24 rfl d3_23 rfl ?_
    refine ev_aload_n 25 rfl d3_24 rfl ?_
    refine ev_geti (v := nI T) 28 rfl 0 1 d3_25 rfl hb.2.2.2.1 (G.1 _ _ hb.1 hb.2.2.2.1 (by have := hb.2.2.2.2; omega)) h1 ?_
    refine ev_icmp 44 31 (by decide) rfl (cn_ge (by omega) (by omega)) d3_28 (fun hc_28 => absurd hc_28 (by omega)) (fun hc_28 => ?_)
    refine ev_aload_n 32 rfl d3_31 rfl ?_
    refine ev_getr 35 rfl 0 0 d3_32 rfl hb.2.2.2.1 (G.1 _ _ hb.1 hb.2.2.2.1 (by have := hb.2.2.2.2; omega)) (G.2 _ _ _ hb.2.1) ?_
    refine ev_iload_n 36 rfl d3_35 rfl ?_
    refine ev_iconst (v := nI 0) 37 rfl d3_36 (by decide) ?_
    obtain ⟨I_1, hI_1⟩ : ∃ z, z = ai_ui I (a + 1) k (nI 0) := ⟨_, rfl⟩
    refine ev_iast_n (I2 := I_1) 38 rfl d3_37 (by omega) (G.1 _ _ hb.2.2.1 (by omega) hb.2.2.2.2) (by omega) hn31 hI_1.symm ?_
    refine ev_iinc (v := nI (k + 1)) 41 rfl d3_38 rfl (Nat.le_of_ble_eq_true rfl) (nI_add _ 1) rfl ?_
    show ai_Ev _ _ _ [some (.ref a), some (.ref b), some (.ref c), some (.int (nI (k + 1)))] _ _ _
    refine ev_goto 23 (by decide) d3_41 ?_
    refine ih (k + 1) I_1 (by omega) (by rw [ui_other hI_1 (Or.inl (by omega))]; exact h1) (fun j hj => ?_) (fun x hx => by rw [ui_row hI_1 hx, hfr x hx])
    by_cases e : j = k
    · subst e; exact ui_same hI_1
    · rw [ui_other hI_1 (Or.inr e)]; exact hz j (by omega)
theorem big_prod_loop (G : ai_G S F) {a n : Nat} (hb : ai_big a n) (hn31 : n < 2 ^ 31) {b n2 : Nat} (hb2 : ai_big b n2) (hn32 : n2 < 2 ^ 31) (hab : a ≠ b) {c n3 : Nat} (hb3 : ai_big c n3) (hn33 : n3 < 2 ^ 31) (hac : a ≠ c) {T s t : Nat} (hTn : T ≤ n) (hT : T = s + t) (hsn : s ≤ n2) (htn : t ≤ n3) {I0 : Nat → Nat → Int32} (h2 : I0 b 1 = nI s) (gok : ai_OK I0 (b + 1) s) (h3 : I0 c 1 = nI t) (gok3 : ai_OK I0 (c + 1) t) {Q : Option Value → ai_H → Prop}
    (hk : ∀ (I : Nat → Nat → Int32), I a 1 = nI T → ai_OK I (a + 1) T → ai_val 2147483648 (ai_dg I (a + 1)) T = ai_val 2147483648 (ai_dg I0 (b + 1)) s * ai_val 2147483648 (ai_dg I0 (c + 1)) t → (∀ x, x ≠ a → x ≠ a + 1 → I x = I0 x) → ai_Ev none 3 72 [some (.ref a), some (.ref b), some (.ref c), some (.int (nI s))] [] (S, I, L, F) Q) :
    ∀ (z k : Nat) (I : Nat → Nat → Int32), k + z = s → I a 1 = nI T → ai_OK I (a + 1) T → (∀ j, k + t ≤ j → j < T → ai_dg I (a + 1) j = 0) → ai_val 2147483648 (ai_dg I (a + 1)) T = ai_val 2147483648 (ai_dg I0 (b + 1)) k * ai_val 2147483648 (ai_dg I0 (c + 1)) t → (∀ x, x ≠ a → x ≠ a + 1 → I x = I0 x) → ai_Ev none 3 46 [some (.ref a), some (.ref b), some (.ref c), some (.int (nI k))] [] (S, I, L, F) Q := by
  have hne2 := big_ne hb hb2
  have hne3 := big_ne hb hb3
  intro z
  induction z with
  | zero =>
    intro k I hkr h1 hok hz0 hv hfr
    obtain rfl : k = s := by omega
    refine ev_iload_n 47 rfl d3_46 rfl ?_
    refine ev_aload_n 48 rfl d3_47 rfl ?_
    refine ev_geti (v := nI k) 51 rfl 0 1 d3_48 rfl hb2.2.2.2.1 (G.1 _ _ hb2.1 hb2.2.2.2.1 (by have := hb2.2.2.2.2; omega)) ((congrFun (hfr b hab.symm hne2.1.symm) 1).trans h2) ?_
    refine ev_icmp 72 54 (by decide) rfl (cn_ge (by omega) (by omega)) d3_51 (fun hc_51 => ?_) (fun hc_51 => absurd hc_51 (by omega))
    exact hk I h1 hok hv hfr
  | succ z ih =>
    intro k I hkr h1 hok hz0 hv hfr
    refine ev_iload_n 47 rfl d3_46 rfl ?_
    refine ev_aload_n 48 rfl d3_47 rfl ?_
    refine ev_geti (v := nI s) 51 rfl 0 1 d3_48 rfl hb2.2.2.2.1 (G.1 _ _ hb2.1 hb2.2.2.2.1 (by have := hb2.2.2.2.2; omega)) ((congrFun (hfr b hab.symm hne2.1.symm) 1).trans h2) ?_
    refine ev_icmp 72 54 (by decide) rfl (cn_ge (by omega) (by omega)) d3_51 (fun hc_51 => absurd hc_51 (by omega)) (fun hc_51 => ?_)
    have hek := (gok k (by omega)).2
    have hc1 : I c 1 = nI t := (congrFun (hfr c hac.symm hne3.1.symm) 1).trans h3
    have erow : I (c + 1) = I0 (c + 1) := hfr (c + 1) hne3.2 (by omega)
    have gokc : ai_OK I (c + 1) t := gok3.row erow
    refine ev_aload_n 55 rfl d3_54 rfl ?_
    refine ev_aload_n 56 rfl d3_55 rfl ?_
    refine ev_aload_n 57 rfl d3_56 rfl ?_
    refine ev_getr 60 rfl 0 0 d3_57 rfl hb2.2.2.2.1 (G.1 _ _ hb2.1 hb2.2.2.2.1 (by have := hb2.2.2.2.2; omega)) (G.2 _ _ _ hb2.2.1) ?_
    refine ev_iload_n 61 rfl d3_60 rfl ?_
    refine ev_iald_n (v := nI (ai_dg I0 (b + 1) k)) 62 rfl d3_61 (by omega) (G.1 _ _ hb2.2.2.1 (by omega) hb2.2.2.2.2) (by omega) hn32 ((congrFun (hfr (b + 1) hne2.2 (by omega)) k).trans (gok k (by omega)).1) ?_
    refine ev_iload_n 63 rfl d3_62 rfl ?_
    refine ev_cu3 66 rfl 9 d3_63 rfl rfl (by rw [G.1 _ _ hb.1 hb.2.2.2.1 (by have := hb.2.2.2.2; omega)]; rfl) hb.2.2.2.1 rfl (big_addm G hb hn31 hb3 hn33 hac (T := T) (t := t) (f := k) hTn (by omega) hek htn h1 hok hz0 hc1 gokc) (fun I_1 hr_63 => ?_)
    obtain ⟨p1, p2, p3, p4⟩ := hr_63
    refine ev_iinc (v := nI (k + 1)) 69 rfl d3_66 rfl (Nat.le_of_ble_eq_true rfl) (nI_add _ 1) rfl ?_
    show ai_Ev _ _ _ [some (.ref a), some (.ref b), some (.ref c), some (.int (nI (k + 1)))] _ _ _
    refine ev_goto 46 (by decide) d3_69 ?_
    refine ih (k + 1) I_1 (by omega) (by rw [p1 a (by omega)]; exact h1) p2 (fun j hj1 hj2 => p3 j (by omega) hj2) ?_ (fun x hx1 hx2 => by rw [p1 x hx2, hfr x hx1 hx2])
    rw [p4, hv, val_succ, Nat.add_mul, dg_row erow]
    have e1 : ai_dg I0 (b + 1) k * ai_val 2147483648 (ai_dg I0 (c + 1)) t * 2147483648 ^ k = ai_dg I0 (b + 1) k * 2147483648 ^ k * ai_val 2147483648 (ai_dg I0 (c + 1)) t := by rw [Nat.mul_assoc, Nat.mul_assoc, Nat.mul_comm (ai_val 2147483648 (ai_dg I0 (c + 1)) t)]
    rw [e1]
theorem big_prod (G : ai_G S F) {a n : Nat} (hb : ai_big a n) (hn31 : n < 2 ^ 31) {b n2 : Nat} (hb2 : ai_big b n2) (hn32 : n2 < 2 ^ 31) (hab : a ≠ b) {c n3 : Nat} (hb3 : ai_big c n3) (hn33 : n3 < 2 ^ 31) (hac : a ≠ c) {I0 : Nat → Nat → Int32} {v u p q : Nat} (hB : ai_BG I0 b n2 v) (hC : ai_BG I0 c n3 u) (hv9 : v < 2147483648 ^ p) (hu9 : u < 2147483648 ^ q) (hpq : p + q ≤ n) :
    ai_Ev none 3 0 [some (.ref a), some (.ref b), some (.ref c), none] [] (S, I0, L, F) (ai_Pu S F L (fun I2 => ai_BG I2 a n (v * u) ∧ ai_fr2 a I0 I2)) := by
  obtain ⟨s, g1, hsn, gok, hv, gtop⟩ := hB
  obtain ⟨t, k1, htn, kok, hu, ktop⟩ := hC
  have hsp : s ≤ p := big_size_le hv gtop hv9
  have htq : t ≤ q := big_size_le hu ktop hu9
  have hTn : s + t ≤ n := by omega
  have hne2 := big_ne hb hb2
  have hne3 := big_ne hb hb3
  refine ev_aload_n 1 rfl d3_0 rfl ?_
  refine ev_aload_n 2 rfl d3_1 rfl ?_
  refine ev_geti (v := nI s) 5 rfl 0 1 d3_2 rfl hb2.2.2.2.1 (G.1 _ _ hb2.1 hb2.2.2.2.1 (by have := hb2.2.2.2.2; omega)) g1 ?_
  refine ev_aload_n 6 rfl d3_5 rfl ?_
  refine ev_geti (v := nI t) 9 rfl 0 1 d3_6 rfl hb3.2.2.2.1 (G.1 _ _ hb3.1 hb3.2.2.2.1 (by have := hb3.2.2.2.2; omega)) k1 ?_
  refine ev_iadd (v := nI (s + t)) 10 rfl d3_9 (nI_add _ _) ?_
  refine ev_aload_n 11 rfl d3_10 rfl ?_
  refine ev_getr 14 rfl 0 0 d3_11 rfl hb.2.2.2.1 (G.1 _ _ hb.1 hb.2.2.2.1 (by have := hb.2.2.2.2; omega)) (G.2 _ _ _ hb.2.1) ?_
  refine ev_alen (v := nI n) 15 rfl d3_14 (by omega) (by decide) (G.1 _ _ hb.2.2.1 (by omega) hb.2.2.2.2) rfl ?_
  refine ev_min (v := nI (s + t)) 18 rfl d3_15 rfl rfl (if_neg (nI_nlt hTn (by omega))) ?_
  obtain ⟨I_1, hI_1⟩ : ∃ z, z = ai_ui I0 a 1 (nI (s + t)) := ⟨_, rfl⟩
  refine ev_puti (I2 := I_1) 21 rfl 0 1 d3_18 rfl hb.2.2.2.1 (G.1 _ _ hb.1 hb.2.2.2.1 (by have := hb.2.2.2.2; omega)) (fun h => absurd h (by decide)) hI_1.symm ?_
  refine ev_iconst (v := nI 0) 22 rfl d3_21 (by decide) ?_
  refine ev_store_in 23 rfl d3_22 (Nat.le_of_ble_eq_true rfl) rfl ?_
  show ai_Ev _ _ _ [some (.ref a), some (.ref b), some (.ref c), some (.int (nI 0))] _ _ _
  refine big_zero_loop G hb hn31 (T := s + t) (I0 := I_1) hTn ?_ (s + t) 0 I_1 (by omega) (ui_same hI_1) (fun j hj => absurd hj (by omega)) (fun _ _ => rfl)
  intro Iz p2 p3 p4
  refine ev_iconst (v := nI 0) 45 rfl d3_44 (by decide) ?_
  refine ev_store_in 46 rfl d3_45 (Nat.le_of_ble_eq_true rfl) rfl ?_
  show ai_Ev _ _ _ [some (.ref a), some (.ref b), some (.ref c), some (.int (nI 0))] _ _ _
  have e2 : Iz (b + 1) = I0 (b + 1) := by rw [p4 _ (by omega), ui_row hI_1 (by omega)]
  have e3 : Iz (c + 1) = I0 (c + 1) := by rw [p4 _ (by omega), ui_row hI_1 (by omega)]
  have e4 : Iz b = I0 b := by rw [p4 _ (by omega), ui_row hI_1 (by omega)]
  have e5 : Iz c = I0 c := by rw [p4 _ (by omega), ui_row hI_1 (by omega)]
  have hdz : ∀ j, j < s + t → ai_dg Iz (a + 1) j = 0 := fun j hj => ai_dg_of (p3 j hj) (by omega)
  refine big_prod_loop G hb hn31 hb2 hn32 hab hb3 hn33 hac (T := s + t) (s := s) (t := t) (I0 := Iz) hTn rfl hsn htn (by rw [e4]; exact g1) (ai_OK.row gok e2) (by rw [e5]; exact k1) (ai_OK.row kok e3) ?_ s 0 Iz (by omega) p2 (fun j hj => ⟨by rw [hdz j hj]; exact p3 j hj, by rw [hdz j hj]; omega⟩) (fun j hj1 hj2 => hdz j hj2) ?_ (fun _ _ _ => rfl)
  · intro I q1 q2 q3 q4
    refine ev_aload_n 73 rfl d3_72 rfl ?_
    refine ev_cu0 76 rfl 11 d3_73 rfl rfl (by rw [G.1 _ _ hb.1 hb.2.2.2.1 (by have := hb.2.2.2.2; omega)]; rfl) hb.2.2.2.1 rfl (big_trim0 G hb hn31 (I0 := I0) (v := v * u) (s + t) q1 hTn q2 (fun x hx => by rw [q4 x hx.1 hx.2, p4 x hx.2, ui_row hI_1 hx.1]) (by rw [q3, dg_row e2, dg_row e3, hv, hu])) (fun I_1 hr_73 => ?_)
    refine ev_vret rfl d3_76 ?_
    exact ⟨rfl, _, rfl, hr_73⟩
  · rw [val_zeros (n := 0) (by omega) (fun j _ hj => hdz j hj)]
    simp [ai_val]
end BIG3
