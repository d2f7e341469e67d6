section MBIG2
variable {S : List (Nat × Nat)} {F : Nat → Nat → Option Nat} {L : Nat → Nat → Int64}
/-- a value at least one place high has a digit there -/
theorem top_pos {d : Nat → Nat} {s V : Nat} (hd : ∀ j, j < s → d j < 65536) (hv : ai_val 65536 d s = V) (hs : 0 < s) (hV : 65536 ^ (s - 1) ≤ V) : 0 < d (s - 1) := by
  rcases Nat.eq_zero_or_pos (d (s - 1)) with z | z
  · exfalso
    have e1 : ai_val 65536 d (s - 1) = V := by
      rw [← hv]
      conv => rhs; rw [show s = (s - 1) + 1 by omega]
      exact (val_top0 z).symm
    have e2 := val_lt (b := 65536) (d := d) (n := s - 1) (fun j hj => hd j (by omega))
    omega
  · exact z
theorem top_le {d : Nat → Nat} {s v : Nat} (hv : ai_val 65536 d s = v) (hs : 0 < s) (ht : 0 < d (s - 1)) : 65536 ^ (s - 1) ≤ v := by
  have e3 := val_ge (b := 65536) (d := d) (s - 1)
  rw [show s - 1 + 1 = s by omega, hv] at e3
  have e4 : 1 * 65536 ^ (s - 1) ≤ d (s - 1) * 65536 ^ (s - 1) := Nat.mul_le_mul_right _ ht
  omega

theorem m_times_loop2 (G : ai_G S F) {x m V : Nat} (hx : x < 16) (hm : m < 2 ^ 31) (hV : V < 65536 ^ 1700) (hm0 : m = 0 → V = 0) {I0 : Nat → Nat → Int32} {u5 : Option Value} : ∀ (c : Nat), c < 2 ^ 31 → ∀ (t : Nat) (I : Nat → Nat → Int32), I 593 x = nI t → t ≤ 1700 → ai_MOK I x t → ai_val 65536 (ai_md I x) t + c * 65536 ^ t = V → (c = 0 → 0 < m → 0 < t → 0 < ai_md I x (t - 1)) → ai_mf x I0 I →
    ai_Ev none 150 66 [some (.ref 572), some (.int (nI x)), some (.int (nI m)), some (.long (lN c)), none, u5] [] (S, I, L, F) (ai_Pu S F L (fun I2 => ai_MG I2 x V ∧ ai_mf x I0 I2)) := by
  intro c
  induction c using Nat.strongRecOn with
  | _ c ih =>
    intro hc31 t I h1 ht hok hv htop hfr
    refine ev_lload_n 67 rfl d150_66 rfl ?_
    refine ev_lconst (v := lN 0) 68 rfl d150_67 (by decide) ?_
    refine ev_lcmp 69 rfl d150_68 rfl ?_
    refine ev_if 113 72 (by decide) rfl (lg_le0 (by omega)) d150_69 (fun hc_69 => ?_) (fun hc_69 => ?_)
    · have hc0 : c = 0 := by omega
      refine ev_iload_n 114 rfl d150_113 rfl ?_
      refine ev_if 124 117 (by decide) rfl (c0_ne (by omega)) d150_114 (fun hc_114 => ?_) (fun hc_114 => ?_)
      · refine ev_vret rfl d150_124 ?_
        rw [hc0, Nat.zero_mul] at hv
        exact ⟨rfl, _, rfl, ⟨t, h1, ht, hok, hv, htop hc0 (by omega)⟩, hfr⟩
      · refine ev_aload_n 118 rfl d150_117 rfl ?_
        refine ev_getr 121 rfl 9 27 d150_118 rfl (by omega) (G.1 _ _ (rfl : ai_sp 572 = (9, 0)) (by decide) (by decide)) (G.2 _ _ _ (rfl : ai_rf 572 27 = some 593)) ?_
        refine ev_iload_n 122 rfl d150_121 rfl ?_
        refine ev_iconst (v := nI 0) 123 rfl d150_122 (by decide) ?_
        obtain ⟨I_1, hI_1⟩ : ∃ z, z = ai_ui I 593 x (nI 0) := ⟨_, rfl⟩
        refine ev_iast_n (I2 := I_1) 124 rfl d150_123 (by omega) (G.1 _ _ (rfl : ai_sp 593 = (100, 16)) (by decide) (by decide)) (by omega) (by decide) hI_1.symm ?_
        refine ev_vret rfl d150_124 ?_
        have hV0 : V = 0 := hm0 (by omega)
        refine ⟨rfl, _, rfl, ⟨0, ui_same hI_1, by omega, fun j hj => absurd hj (by omega), ?_, fun hj => absurd hj (by omega)⟩, hfr.trans (ai_mf.len hI_1)⟩
        rw [hV0]
        rfl
    · have ht17 : t < 1700 := m_room hv (by omega) hV
      refine ev_aload_n 73 rfl d150_72 rfl ?_
      refine ev_getr 76 rfl 9 26 d150_73 rfl (by omega) (G.1 _ _ (rfl : ai_sp 572 = (9, 0)) (by decide) (by decide)) (G.2 _ _ _ (rfl : ai_rf 572 26 = some 592)) ?_
      refine ev_sipush (v := nI 1700) 79 rfl d150_76 (by decide) ?_
      refine ev_iload_n 80 rfl d150_79 rfl ?_
      refine ev_imul (v := nI (1700 * x)) 81 rfl d150_80 (pk_mul _ _) ?_
      refine ev_aload_n 82 rfl d150_81 rfl ?_
      refine ev_getr 85 rfl 9 27 d150_82 rfl (by omega) (G.1 _ _ (rfl : ai_sp 572 = (9, 0)) (by decide) (by decide)) (G.2 _ _ _ (rfl : ai_rf 572 27 = some 593)) ?_
      refine ev_iload_n 86 rfl d150_85 rfl ?_
      refine ev_iald_n (v := nI t) 87 rfl d150_86 (by omega) (G.1 _ _ (rfl : ai_sp 593 = (100, 16)) (by decide) (by decide)) (by omega) (by decide) h1 ?_
      refine ev_iadd (v := nI ((1700 * x) + t)) 88 rfl d150_87 (nI_add _ _) ?_
      refine ev_lload_n 89 rfl d150_88 rfl ?_
      refine ev_ldc2 (v := lN 65535) 92 rfl d150_89 (by decide) ?_
      refine ev_land (v := lN (c % 65536)) 93 rfl d150_92 (lN_mask16 (by omega)) ?_
      refine ev_l2i (v := nI (c % 65536)) 94 rfl d150_93 (lN_i _) ?_
      obtain ⟨I_1, hI_1⟩ : ∃ z, z = ai_ui I 592 ((1700 * x) + t) (nI (c % 65536)) := ⟨_, rfl⟩
      refine ev_iast_n (I2 := I_1) 95 rfl d150_94 (by omega) (G.1 _ _ (rfl : ai_sp 592 = (100, 27200)) (by decide) (by decide)) (by omega) (by decide) hI_1.symm ?_
      have hI1t : I_1 593 x = nI t := by rw [ui_row hI_1 (by omega)]; exact h1
      refine ev_aload_n 96 rfl d150_95 rfl ?_
      refine ev_getr 99 rfl 9 27 d150_96 rfl (by omega) (G.1 _ _ (rfl : ai_sp 572 = (9, 0)) (by decide) (by decide)) (G.2 _ _ _ (rfl : ai_rf 572 27 = some 593)) ?_
      refine ev_iload_n 100 rfl d150_99 rfl ?_
      refine ev_dup2 101 rfl d150_100 ⟨rfl, rfl⟩ ?_
      refine ev_iald_n (v := nI t) 102 rfl d150_101 (by omega) (G.1 _ _ (rfl : ai_sp 593 = (100, 16)) (by decide) (by decide)) (by omega) (by decide) hI1t ?_
      refine ev_iconst (v := nI 1) 103 rfl d150_102 (by decide) ?_
      refine ev_iadd (v := nI (t + 1)) 104 rfl d150_103 (nI_add _ _) ?_
      obtain ⟨I_2, hI_2⟩ : ∃ z, z = ai_ui I_1 593 x (nI (t + 1)) := ⟨_, rfl⟩
      refine ev_iast_n (I2 := I_2) 105 rfl d150_104 (by omega) (G.1 _ _ (rfl : ai_sp 593 = (100, 16)) (by decide) (by decide)) (by omega) (by decide) hI_2.symm ?_
      refine ev_lload_n 106 rfl d150_105 rfl ?_
      refine ev_bipush (v := nI 16) 108 rfl d150_106 (by decide) ?_
      refine ev_lshr (v := lN (c / 65536)) 109 rfl d150_108 (lN_sar16 (by omega)) ?_
      refine ev_store_ln 110 rfl d150_109 (Nat.le_of_ble_eq_true rfl) rfl ?_
      show ai_Ev _ _ _ [some (.ref 572), some (.int (nI x)), some (.int (nI m)), some (.long (lN (c / 65536))), none, u5] _ _ _
      refine ev_goto 66 (by decide) d150_110 ?_
      have hr9 : c % 65536 < 65536 := Nat.mod_lt _ (by omega)
      refine ih (c / 65536) (by omega) (by omega) (t + 1) I_2 (ui_same hI_2) (by omega) ((ai_MOK_put hI_1 hr9 hok).len hI_2) ?_ (fun hw _ _ => ?_) ((hfr.trans (ai_mf.dig ht17 hI_1)).trans (ai_mf.len hI_2))
      · rw [val_congr (fun k _ => md_len hI_2), mval_put hI_1 hr9, Nat.pow_succ, val_carry]
        exact hv
      · rw [md_len hI_2, show t + 1 - 1 = t by omega, (md_same hI_1 hr9).2]
        omega
theorem m_times_loop (G : ai_G S F) {x m s : Nat} (hx : x < 16) (hm : m < 2 ^ 31) (hs : s ≤ 1700) {D : Nat → Nat} (hDl : ∀ j, j < s → D j < 65536) {I0 : Nat → Nat → Int32} {Q : Option Value → ai_H → Prop}
    (hk : ∀ (I : Nat → Nat → Int32) (c : Nat), I 593 x = nI s → ai_MOK I x s → c ≤ m → ai_val 65536 (ai_md I x) s + c * 65536 ^ s = m * ai_val 65536 D s → ai_mf x I0 I → ai_Ev none 150 66 [some (.ref 572), some (.int (nI x)), some (.int (nI m)), some (.long (lN c)), none, some (.int (nI s))] [] (S, I, L, F) Q) :
    ∀ (r k : Nat) (I : Nat → Nat → Int32) (c : Nat), k + r = s → I 593 x = nI s → ai_MOK I x k → (∀ j, k ≤ j → j < s → I 592 (1700 * x + j) = nI (D j)) → c ≤ m → ai_val 65536 (ai_md I x) k + c * 65536 ^ k = m * ai_val 65536 D k → ai_mf x I0 I →
    ai_Ev none 150 5 [some (.ref 572), some (.int (nI x)), some (.int (nI m)), some (.long (lN c)), none, some (.int (nI k))] [] (S, I, L, F) Q := by
  intro r
  induction r with
  | zero =>
    intro k I c hkr h1 hok hD hc hv hfr
    obtain rfl : k = s := by omega
    refine ev_iload 7 rfl d150_5 rfl ?_
    refine ev_aload_n 8 rfl d150_7 rfl ?_
    refine ev_getr 11 rfl 9 27 d150_8 rfl (by omega) (G.1 _ _ (rfl : ai_sp 572 = (9, 0)) (by decide) (by decide)) (G.2 _ _ _ (rfl : ai_rf 572 27 = some 593)) ?_
    refine ev_iload_n 12 rfl d150_11 rfl ?_
    refine ev_iald_n (v := nI k) 13 rfl d150_12 (by omega) (G.1 _ _ (rfl : ai_sp 593 = (100, 16)) (by decide) (by decide)) (by omega) (by decide) h1 ?_
    refine ev_icmp 66 16 (by decide) rfl (cn_ge (by omega) (by omega)) d150_13 (fun hc_13 => ?_) (fun hc_13 => absurd hc_13 (by omega))
    exact hk I c h1 hok hc hv hfr
  | succ r ih =>
    intro k I c hkr h1 hok hD hc hv hfr
    refine ev_iload 7 rfl d150_5 rfl ?_
    refine ev_aload_n 8 rfl d150_7 rfl ?_
    refine ev_getr 11 rfl 9 27 d150_8 rfl (by omega) (G.1 _ _ (rfl : ai_sp 572 = (9, 0)) (by decide) (by decide)) (G.2 _ _ _ (rfl : ai_rf 572 27 = some 593)) ?_
    refine ev_iload_n 12 rfl d150_11 rfl ?_
    refine ev_iald_n (v := nI s) 13 rfl d150_12 (by omega) (G.1 _ _ (rfl : ai_sp 593 = (100, 16)) (by decide) (by decide)) (by omega) (by decide) h1 ?_
    refine ev_icmp 66 16 (by decide) rfl (cn_ge (by omega) (by omega)) d150_13 (fun hc_13 => absurd hc_13 (by omega)) (fun hc_13 => ?_)
    have hdk := hDl k (by omega)
    have hpr : D k * m ≤ 65535 * 2147483647 := Nat.mul_le_mul (by omega) (by omega)
    have hple : D k * m ≤ 65535 * m := Nat.mul_le_mul_right _ (by omega)
    refine ev_lload_n 17 rfl d150_16 rfl ?_
    refine ev_aload_n 18 rfl d150_17 rfl ?_
    refine ev_getr 21 rfl 9 26 d150_18 rfl (by omega) (G.1 _ _ (rfl : ai_sp 572 = (9, 0)) (by decide) (by decide)) (G.2 _ _ _ (rfl : ai_rf 572 26 = some 592)) ?_
    refine ev_sipush (v := nI 1700) 24 rfl d150_21 (by decide) ?_
    refine ev_iload_n 25 rfl d150_24 rfl ?_
    refine ev_imul (v := nI (1700 * x)) 26 rfl d150_25 (pk_mul _ _) ?_
    refine ev_iload 28 rfl d150_26 rfl ?_
    refine ev_iadd (v := nI ((1700 * x) + k)) 29 rfl d150_28 (nI_add _ _) ?_
    refine ev_iald_n (v := nI (D k)) 30 rfl d150_29 (by omega) (G.1 _ _ (rfl : ai_sp 592 = (100, 27200)) (by decide) (by decide)) (by omega) (by decide) (hD k (Nat.le_refl _) (by omega)) ?_
    refine ev_i2l (v := lN (D k)) 31 rfl d150_30 (nI_l (by omega)) ?_
    refine ev_iload_n 32 rfl d150_31 rfl ?_
    refine ev_i2l (v := lN m) 33 rfl d150_32 (nI_l (by omega)) ?_
    refine ev_lmul (v := lN ((D k) * m)) 34 rfl d150_33 (lN_mul _ _) ?_
    refine ev_ladd (v := lN (c + ((D k) * m))) 35 rfl d150_34 (lN_add _ _) ?_
    refine ev_store_ln 36 rfl d150_35 (Nat.le_of_ble_eq_true rfl) rfl ?_
    show ai_Ev _ _ _ [some (.ref 572), some (.int (nI x)), some (.int (nI m)), some (.long (lN (c + ((D k) * m)))), none, some (.int (nI k))] _ _ _
    refine ev_aload_n 37 rfl d150_36 rfl ?_
    refine ev_getr 40 rfl 9 26 d150_37 rfl (by omega) (G.1 _ _ (rfl : ai_sp 572 = (9, 0)) (by decide) (by decide)) (G.2 _ _ _ (rfl : ai_rf 572 26 = some 592)) ?_
    refine ev_sipush (v := nI 1700) 43 rfl d150_40 (by decide) ?_
    refine ev_iload_n 44 rfl d150_43 rfl ?_
    refine ev_imul (v := nI (1700 * x)) 45 rfl d150_44 (pk_mul _ _) ?_
    refine ev_iload 47 rfl d150_45 rfl ?_
    refine ev_iadd (v := nI ((1700 * x) + k)) 48 rfl d150_47 (nI_add _ _) ?_
    refine ev_lload_n 49 rfl d150_48 rfl ?_
    refine ev_ldc2 (v := lN 65535) 52 rfl d150_49 (by decide) ?_
    refine ev_land (v := lN ((c + ((D k) * m)) % 65536)) 53 rfl d150_52 (lN_mask16 (by omega)) ?_
    refine ev_l2i (v := nI ((c + ((D k) * m)) % 65536)) 54 rfl d150_53 (lN_i _) ?_
    obtain ⟨I_1, hI_1⟩ : ∃ z, z = ai_ui I 592 ((1700 * x) + k) (nI ((c + ((D k) * m)) % 65536)) := ⟨_, rfl⟩
    refine ev_iast_n (I2 := I_1) 55 rfl d150_54 (by omega) (G.1 _ _ (rfl : ai_sp 592 = (100, 27200)) (by decide) (by decide)) (by omega) (by decide) hI_1.symm ?_
    refine ev_lload_n 56 rfl d150_55 rfl ?_
    refine ev_bipush (v := nI 16) 58 rfl d150_56 (by decide) ?_
    refine ev_lshr (v := lN ((c + ((D k) * m)) / 65536)) 59 rfl d150_58 (lN_sar16 (by omega)) ?_
    refine ev_store_ln 60 rfl d150_59 (Nat.le_of_ble_eq_true rfl) rfl ?_
    show ai_Ev _ _ _ [some (.ref 572), some (.int (nI x)), some (.int (nI m)), some (.long (lN ((c + ((D k) * m)) / 65536))), none, some (.int (nI k))] _ _ _
    refine ev_iinc (v := nI (k + 1)) 63 rfl d150_60 rfl (Nat.le_of_ble_eq_true rfl) (nI_add _ 1) rfl ?_
    show ai_Ev _ _ _ [some (.ref 572), some (.int (nI x)), some (.int (nI m)), some (.long (lN ((c + ((D k) * m)) / 65536))), none, some (.int (nI (k + 1)))] _ _ _
    refine ev_goto 5 (by decide) d150_63 ?_
    have hr9 : (c + D k * m) % 65536 < 65536 := Nat.mod_lt _ (by omega)
    refine ih (k + 1) I_1 _ (by omega) (by rw [ui_row hI_1 (by omega)]; exact h1) (ai_MOK_put hI_1 hr9 hok) ?_ (Nat.div_le_of_le_mul (by omega)) ?_ (hfr.trans (ai_mf.dig (by omega) hI_1))
    · intro j hj1 hj2
      rw [ui_other hI_1 (Or.inr (by omega))]
      exact hD j (by omega) hj2
    · rw [mval_put hI_1 hr9, val_succ, Nat.pow_succ, val_carry, Nat.mul_add, ← hv, Nat.add_mul]
      have e : m * (D k * 65536 ^ k) = D k * m * 65536 ^ k := by rw [← Nat.mul_assoc, Nat.mul_comm m]
      rw [e]
      omega
theorem m_times (G : ai_G S F) {x m v : Nat} (hx : x < 16) (hm : m < 2 ^ 31) {I : Nat → Nat → Int32} (hM : ai_MG I x v) (hV : m * v < 65536 ^ 1700) :
    ai_Ev none 150 0 [some (.ref 572), some (.int (nI x)), some (.int (nI m)), none, none, none] [] (S, I, L, F) (ai_Pu S F L (fun I2 => ai_MG I2 x (m * v) ∧ ai_mf x I I2)) := by
  obtain ⟨s, h1, h2, h3, hv, htop⟩ := hM
  refine ev_lconst (v := lN 0) 1 rfl d150_0 (by decide) ?_
  refine ev_store_ln 2 rfl d150_1 (Nat.le_of_ble_eq_true rfl) rfl ?_
  show ai_Ev _ _ _ [some (.ref 572), some (.int (nI x)), some (.int (nI m)), some (.long (lN 0)), none, none] _ _ _
  refine ev_iconst (v := nI 0) 3 rfl d150_2 (by decide) ?_
  refine ev_store_i 5 rfl d150_3 ⟨rfl, Nat.le_of_ble_eq_true rfl⟩ rfl ?_
  show ai_Ev _ _ _ [some (.ref 572), some (.int (nI x)), some (.int (nI m)), some (.long (lN 0)), none, some (.int (nI 0))] _ _ _
  refine m_times_loop G hx hm h2 (D := ai_md I x) (I0 := I) (fun j hj => (h3 j hj).2) ?_ s 0 I 0 (by omega) h1 (fun j hj => absurd hj (by omega)) (fun j _ hj => (h3 j hj).1) (by omega) (by simp [ai_val]) (ai_mf.rf x I)
  intro J c g1 g2 g3 g4 g5
  rw [hv] at g4
  refine m_times_loop2 G hx hm hV (fun h => by rw [h, Nat.zero_mul]) (I0 := I) c (by omega) s J g1 h2 g2 g4 (fun hc hm0 hs => ?_) g5
  rw [hc, Nat.zero_mul] at g4
  refine top_pos (fun j hj => (g2 j hj).2) g4 hs ?_
  have e1 := top_le hv hs (htop hs)
  have e2 : 1 * v ≤ m * v := Nat.mul_le_mul_right _ hm0
  omega
theorem m_plus_step {x k c : Nat} {I I2 : Nat → Nat → Int32} {D E : Nat → Nat} {w : Nat} (hw : w = c + (D k + E k)) (hb : ∀ j, j < k → ai_md I2 x j = ai_md I x j) (hd : ai_md I2 x k = w % 65536) (hv : ai_val 65536 (ai_md I x) k + c * 65536 ^ k = ai_val 65536 D k + ai_val 65536 E k) : ai_val 65536 (ai_md I2 x) (k + 1) + w / 65536 * 65536 ^ (k + 1) = ai_val 65536 D (k + 1) + ai_val 65536 E (k + 1) := by
  rw [val_snoc hb hd, val_succ, val_succ, Nat.pow_succ, val_carry, hw, Nat.add_mul, Nat.add_mul]
  omega

theorem m_plus_loop (G : ai_G S F) {x y v u s t : Nat} (hx : x < 16) (hy : y < 16) (hyx : y ≠ x) (hst17 : s ≤ 1700) (ht17 : t ≤ 1700) {D E : Nat → Nat} (hDz : ∀ j, s ≤ j → D j = 0) (hEz : ∀ j, t ≤ j → E j = 0) (hvv : ai_val 65536 D s = v) (huu : ai_val 65536 E t = u) (hst : 0 < s → 0 < D (s - 1)) (htt : 0 < t → 0 < E (t - 1)) (hV : v + u < 65536 ^ 1700) {I0 : Nat → Nat → Int32} : ∀ (z k r : Nat) (I : Nat → Nat → Int32) (c : Nat), k + z = 1701 → I 593 x = nI r → r ≤ 1700 → s ≤ r → (r = s ∨ r = k) → k ≤ r → ai_MOK I x r → I 593 y = nI t → ai_MOK I y t → (∀ j, k ≤ j → j < s → ai_md I x j = D j) → (∀ j, j < t → ai_md I y j = E j) → c ≤ 1 → ai_val 65536 (ai_md I x) k + c * 65536 ^ k = ai_val 65536 D k + ai_val 65536 E k → (s < k → t < k → c = 0 ∧ 0 < ai_md I x (k - 1)) → ai_mf x I0 I →
    ai_Ev none 151 5 [some (.ref 572), some (.int (nI x)), some (.int (nI y)), some (.int (nI c)), some (.int (nI k))] [] (S, I, L, F) (ai_Pu S F L (fun I2 => ai_MG I2 x (v + u) ∧ ai_mf x I0 I2)) := by
  intro z
  induction z using Nat.strongRecOn with
  | _ z ih =>
    intro k r I c hkz h1 hr17 hsr hrs hkr hok g1 gok hD hE hc hv hinv hfr
    have body : (k < t ∨ 0 < c) → ai_Ev none 151 20 [some (.ref 572), some (.int (nI x)), some (.int (nI y)), some (.int (nI c)), some (.int (nI k))] [] (S, I, L, F) (ai_Pu S F L (fun I2 => ai_MG I2 x (v + u) ∧ ai_mf x I0 I2)) := by
      intro hgo
      have hk17 : k < 1700 := by
        rcases hgo with q | q
        · omega
        · refine m_room (V := ai_val 65536 D k + ai_val 65536 E k) hv q (Nat.lt_of_le_of_lt (Nat.add_le_add ?_ ?_) hV)
          · rcases Nat.le_total k s with w | w
            · rw [← hvv]; exact val_mono w
            · rw [← hvv, val_zeros w (fun j hj1 hj2 => hDz j hj1)]; exact Nat.le_refl _
          · rcases Nat.le_total k t with w | w
            · rw [← huu]; exact val_mono w
            · rw [← huu, val_zeros w (fun j hj1 hj2 => hEz j hj1)]; exact Nat.le_refl _
      refine ev_iload 22 rfl d151_20 rfl ?_
      refine ev_aload_n 23 rfl d151_22 rfl ?_
      refine ev_getr 26 rfl 9 27 d151_23 rfl (by omega) (G.1 _ _ (rfl : ai_sp 572 = (9, 0)) (by decide) (by decide)) (G.2 _ _ _ (rfl : ai_rf 572 27 = some 593)) ?_
      refine ev_iload_n 27 rfl d151_26 rfl ?_
      refine ev_iald_n (v := nI r) 28 rfl d151_27 (by omega) (G.1 _ _ (rfl : ai_sp 593 = (100, 16)) (by decide) (by decide)) (by omega) (by decide) h1 ?_
      refine ev_icmp 55 31 (by decide) rfl (cn_ne (by omega) (by omega)) d151_28 (fun hc_28 => ?_) (fun hc_28 => ?_)
      · have hkr : k < r := by omega
        refine ev_iload_n 56 rfl d151_55 rfl ?_
        refine ev_aload_n 57 rfl d151_56 rfl ?_
        refine ev_getr 60 rfl 9 26 d151_57 rfl (by omega) (G.1 _ _ (rfl : ai_sp 572 = (9, 0)) (by decide) (by decide)) (G.2 _ _ _ (rfl : ai_rf 572 26 = some 592)) ?_
        refine ev_sipush (v := nI 1700) 63 rfl d151_60 (by decide) ?_
        refine ev_iload_n 64 rfl d151_63 rfl ?_
        refine ev_imul (v := nI (1700 * x)) 65 rfl d151_64 (pk_mul _ _) ?_
        refine ev_iload 67 rfl d151_65 rfl ?_
        refine ev_iadd (v := nI ((1700 * x) + k)) 68 rfl d151_67 (nI_add _ _) ?_
        refine ev_iald_n (v := nI (ai_md I x k)) 69 rfl d151_68 (by omega) (G.1 _ _ (rfl : ai_sp 592 = (100, 27200)) (by decide) (by decide)) (by omega) (by decide) (hok k (by omega)).1 ?_
        refine ev_iload 71 rfl d151_69 rfl ?_
        refine ev_aload_n 72 rfl d151_71 rfl ?_
        refine ev_getr 75 rfl 9 27 d151_72 rfl (by omega) (G.1 _ _ (rfl : ai_sp 572 = (9, 0)) (by decide) (by decide)) (G.2 _ _ _ (rfl : ai_rf 572 27 = some 593)) ?_
        refine ev_iload_n 76 rfl d151_75 rfl ?_
        refine ev_iald_n (v := nI t) 77 rfl d151_76 (by omega) (G.1 _ _ (rfl : ai_sp 593 = (100, 16)) (by decide) (by decide)) (by omega) (by decide) g1 ?_
        have hdy : k < t → ai_md I y k < 65536 := fun h => (gok k h).2
        have hdx9 : k < r → ai_md I x k < 65536 := fun h => (hok k h).2
        refine ev_icmp 96 80 (by decide) rfl (cn_ge (by omega) (by omega)) d151_77 (fun hc_77 => ?_) (fun hc_77 => ?_)
        · refine ev_iconst (v := nI 0) 97 rfl d151_96 (by decide) ?_
          have hdy9 : ai_md I y k < 65536 ∨ t ≤ k := by rcases Nat.lt_or_ge k t with q | q; exact Or.inl ((gok k q).2); exact Or.inr q
          refine ev_iadd (v := nI ((ai_md I x k) + 0)) 98 rfl d151_97 (nI_add _ _) ?_
          refine ev_iadd (v := nI (c + ((ai_md I x k) + 0))) 99 rfl d151_98 (nI_add _ _) ?_
          refine ev_store_in 100 rfl d151_99 (Nat.le_of_ble_eq_true rfl) rfl ?_
          show ai_Ev _ _ _ [some (.ref 572), some (.int (nI x)), some (.int (nI y)), some (.int (nI (c + ((ai_md I x k) + 0)))), some (.int (nI k))] _ _ _
          refine ev_aload_n 101 rfl d151_100 rfl ?_
          refine ev_getr 104 rfl 9 26 d151_101 rfl (by omega) (G.1 _ _ (rfl : ai_sp 572 = (9, 0)) (by decide) (by decide)) (G.2 _ _ _ (rfl : ai_rf 572 26 = some 592)) ?_
          refine ev_sipush (v := nI 1700) 107 rfl d151_104 (by decide) ?_
          refine ev_iload_n 108 rfl d151_107 rfl ?_
          refine ev_imul (v := nI (1700 * x)) 109 rfl d151_108 (pk_mul _ _) ?_
          refine ev_iload 111 rfl d151_109 rfl ?_
          refine ev_iadd (v := nI ((1700 * x) + k)) 112 rfl d151_111 (nI_add _ _) ?_
          refine ev_iload_n 113 rfl d151_112 rfl ?_
          refine ev_ldc (v := nI 65535) 115 rfl d151_113 (by decide) ?_
          refine ev_iand (v := nI ((c + ((ai_md I x k) + 0)) % 65536)) 116 rfl d151_115 (nI_mask16 _) ?_
          obtain ⟨I_1, hI_1⟩ : ∃ z, z = ai_ui I 592 ((1700 * x) + k) (nI ((c + ((ai_md I x k) + 0)) % 65536)) := ⟨_, rfl⟩
          refine ev_iast_n (I2 := I_1) 117 rfl d151_116 (by omega) (G.1 _ _ (rfl : ai_sp 592 = (100, 27200)) (by decide) (by decide)) (by omega) (by decide) hI_1.symm ?_
          refine ev_iload_n 118 rfl d151_117 rfl ?_
          refine ev_bipush (v := nI 16) 120 rfl d151_118 (by decide) ?_
          have hdy8 : ai_md I y k < 65536 ∨ t ≤ k := by rcases Nat.lt_or_ge k t with q | q; exact Or.inl ((gok k q).2); exact Or.inr q
          have hdx8 : ai_md I x k < 65536 ∨ r ≤ k := by rcases Nat.lt_or_ge k r with q | q; exact Or.inl ((hok k q).2); exact Or.inr q
          refine ev_ishr (v := nI ((c + ((ai_md I x k) + 0)) / 65536)) 121 rfl d151_120 (nI_shr16 (by omega)) ?_
          refine ev_store_in 122 rfl d151_121 (Nat.le_of_ble_eq_true rfl) rfl ?_
          show ai_Ev _ _ _ [some (.ref 572), some (.int (nI x)), some (.int (nI y)), some (.int (nI ((c + ((ai_md I x k) + 0)) / 65536))), some (.int (nI k))] _ _ _
          refine ev_iinc (v := nI (k + 1)) 125 rfl d151_122 rfl (Nat.le_of_ble_eq_true rfl) (nI_add _ 1) rfl ?_
          show ai_Ev _ _ _ [some (.ref 572), some (.int (nI x)), some (.int (nI y)), some (.int (nI ((c + ((ai_md I x k) + 0)) / 65536))), some (.int (nI (k + 1)))] _ _ _
          refine ev_goto 5 (by decide) d151_125 ?_
          obtain ⟨w, hwe⟩ : ∃ w, w = c + ((ai_md I x k) + 0) := ⟨_, rfl⟩
          rw [← hwe] at hI_1 ⊢
          have hdx := (hok k (by omega)).2
          have hw4 : w < 196608 := by rw [hwe]; omega
          have hr9 : w % 65536 < 65536 := Nat.mod_lt _ (by omega)
          have hw5 : w / 65536 ≤ 1 := by omega
          have hf3 : ai_mf x I I_1 := ai_mf.dig (by omega) hI_1
          refine ih (z - 1) (by omega) (k + 1) r I_1 _ (by omega) (by rw [ui_row hI_1 (by omega)]; exact h1) (by omega) (by omega) (by omega) (by omega) (ai_MOK_putIn hI_1 hr9 hok) (by rw [(hf3.2 y hyx).1]; exact g1) (hf3.ok hyx (by omega) gok) (fun j hj1 hj2 => by rw [md_other hI_1 (by omega)]; exact hD j (by omega) hj2) (fun j hj => by rw [hf3.md hyx (by omega)]; exact hE j hj) (by omega) ?_ (fun hs9 ht9 => absurd hs9 (by omega)) (hfr.trans hf3)
          exact m_plus_step (I := I) (c := c) (by rw [hwe, hD k (Nat.le_refl _) (by omega), hEz k (by omega)]) (fun j hj => by rw [md_other hI_1 (by omega)]) (md_same hI_1 hr9).2 hv
        · refine ev_aload_n 81 rfl d151_80 rfl ?_
          refine ev_getr 84 rfl 9 26 d151_81 rfl (by omega) (G.1 _ _ (rfl : ai_sp 572 = (9, 0)) (by decide) (by decide)) (G.2 _ _ _ (rfl : ai_rf 572 26 = some 592)) ?_
          refine ev_sipush (v := nI 1700) 87 rfl d151_84 (by decide) ?_
          refine ev_iload_n 88 rfl d151_87 rfl ?_
          refine ev_imul (v := nI (1700 * y)) 89 rfl d151_88 (pk_mul _ _) ?_
          refine ev_iload 91 rfl d151_89 rfl ?_
          refine ev_iadd (v := nI ((1700 * y) + k)) 92 rfl d151_91 (nI_add _ _) ?_
          refine ev_iald_n (v := nI (ai_md I y k)) 93 rfl d151_92 (by omega) (G.1 _ _ (rfl : ai_sp 592 = (100, 27200)) (by decide) (by decide)) (by omega) (by decide) (gok k (by omega)).1 ?_
          refine ev_goto 97 (by decide) d151_93 ?_
          have hdy9 : ai_md I y k < 65536 ∨ t ≤ k := by rcases Nat.lt_or_ge k t with q | q; exact Or.inl ((gok k q).2); exact Or.inr q
          refine ev_iadd (v := nI ((ai_md I x k) + (ai_md I y k))) 98 rfl d151_97 (nI_add _ _) ?_
          refine ev_iadd (v := nI (c + ((ai_md I x k) + (ai_md I y k)))) 99 rfl d151_98 (nI_add _ _) ?_
          refine ev_store_in 100 rfl d151_99 (Nat.le_of_ble_eq_true rfl) rfl ?_
          show ai_Ev _ _ _ [some (.ref 572), some (.int (nI x)), some (.int (nI y)), some (.int (nI (c + ((ai_md I x k) + (ai_md I y k))))), some (.int (nI k))] _ _ _
          refine ev_aload_n 101 rfl d151_100 rfl ?_
          refine ev_getr 104 rfl 9 26 d151_101 rfl (by omega) (G.1 _ _ (rfl : ai_sp 572 = (9, 0)) (by decide) (by decide)) (G.2 _ _ _ (rfl : ai_rf 572 26 = some 592)) ?_
          refine ev_sipush (v := nI 1700) 107 rfl d151_104 (by decide) ?_
          refine ev_iload_n 108 rfl d151_107 rfl ?_
          refine ev_imul (v := nI (1700 * x)) 109 rfl d151_108 (pk_mul _ _) ?_
          refine ev_iload 111 rfl d151_109 rfl ?_
          refine ev_iadd (v := nI ((1700 * x) + k)) 112 rfl d151_111 (nI_add _ _) ?_
          refine ev_iload_n 113 rfl d151_112 rfl ?_
          refine ev_ldc (v := nI 65535) 115 rfl d151_113 (by decide) ?_
          refine ev_iand (v := nI ((c + ((ai_md I x k) + (ai_md I y k))) % 65536)) 116 rfl d151_115 (nI_mask16 _) ?_
          obtain ⟨I_1, hI_1⟩ : ∃ z, z = ai_ui I 592 ((1700 * x) + k) (nI ((c + ((ai_md I x k) + (ai_md I y k))) % 65536)) := ⟨_, rfl⟩
          refine ev_iast_n (I2 := I_1) 117 rfl d151_116 (by omega) (G.1 _ _ (rfl : ai_sp 592 = (100, 27200)) (by decide) (by decide)) (by omega) (by decide) hI_1.symm ?_
          refine ev_iload_n 118 rfl d151_117 rfl ?_
          refine ev_bipush (v := nI 16) 120 rfl d151_118 (by decide) ?_
          have hdy8 : ai_md I y k < 65536 ∨ t ≤ k := by rcases Nat.lt_or_ge k t with q | q; exact Or.inl ((gok k q).2); exact Or.inr q
          have hdx8 : ai_md I x k < 65536 ∨ r ≤ k := by rcases Nat.lt_or_ge k r with q | q; exact Or.inl ((hok k q).2); exact Or.inr q
          refine ev_ishr (v := nI ((c + ((ai_md I x k) + (ai_md I y k))) / 65536)) 121 rfl d151_120 (nI_shr16 (by omega)) ?_
          refine ev_store_in 122 rfl d151_121 (Nat.le_of_ble_eq_true rfl) rfl ?_
          show ai_Ev _ _ _ [some (.ref 572), some (.int (nI x)), some (.int (nI y)), some (.int (nI ((c + ((ai_md I x k) + (ai_md I y k))) / 65536))), some (.int (nI k))] _ _ _
          refine ev_iinc (v := nI (k + 1)) 125 rfl d151_122 rfl (Nat.le_of_ble_eq_true rfl) (nI_add _ 1) rfl ?_
          show ai_Ev _ _ _ [some (.ref 572), some (.int (nI x)), some (.int (nI y)), some (.int (nI ((c + ((ai_md I x k) + (ai_md I y k))) / 65536))), some (.int (nI (k + 1)))] _ _ _
          refine ev_goto 5 (by decide) d151_125 ?_
          obtain ⟨w, hwe⟩ : ∃ w, w = c + ((ai_md I x k) + (ai_md I y k)) := ⟨_, rfl⟩
          rw [← hwe] at hI_1 ⊢
          have hdx := (hok k (by omega)).2
          have hw4 : w < 196608 := by rw [hwe]; have := (gok k (by omega)).2; omega
          have hr9 : w % 65536 < 65536 := Nat.mod_lt _ (by omega)
          have hw5 : w / 65536 ≤ 1 := by have := (gok k (by omega)).2; omega
          have hf3 : ai_mf x I I_1 := ai_mf.dig (by omega) hI_1
          refine ih (z - 1) (by omega) (k + 1) r I_1 _ (by omega) (by rw [ui_row hI_1 (by omega)]; exact h1) (by omega) (by omega) (by omega) (by omega) (ai_MOK_putIn hI_1 hr9 hok) (by rw [(hf3.2 y hyx).1]; exact g1) (hf3.ok hyx (by omega) gok) (fun j hj1 hj2 => by rw [md_other hI_1 (by omega)]; exact hD j (by omega) hj2) (fun j hj => by rw [hf3.md hyx (by omega)]; exact hE j hj) (by omega) ?_ (fun hs9 ht9 => absurd hs9 (by omega)) (hfr.trans hf3)
          exact m_plus_step (I := I) (c := c) (by rw [hwe, hD k (Nat.le_refl _) (by omega), ← hE k (by omega)]) (fun j hj => by rw [md_other hI_1 (by omega)]) (md_same hI_1 hr9).2 hv
      · refine ev_aload_n 32 rfl d151_31 rfl ?_
        refine ev_getr 35 rfl 9 26 d151_32 rfl (by omega) (G.1 _ _ (rfl : ai_sp 572 = (9, 0)) (by decide) (by decide)) (G.2 _ _ _ (rfl : ai_rf 572 26 = some 592)) ?_
        refine ev_sipush (v := nI 1700) 38 rfl d151_35 (by decide) ?_
        refine ev_iload_n 39 rfl d151_38 rfl ?_
        refine ev_imul (v := nI (1700 * x)) 40 rfl d151_39 (pk_mul _ _) ?_
        refine ev_iload 42 rfl d151_40 rfl ?_
        refine ev_iadd (v := nI ((1700 * x) + k)) 43 rfl d151_42 (nI_add _ _) ?_
        refine ev_iconst (v := nI 0) 44 rfl d151_43 (by decide) ?_
        obtain ⟨I_1, hI_1⟩ : ∃ z, z = ai_ui I 592 ((1700 * x) + k) (nI 0) := ⟨_, rfl⟩
        refine ev_iast_n (I2 := I_1) 45 rfl d151_44 (by omega) (G.1 _ _ (rfl : ai_sp 592 = (100, 27200)) (by decide) (by decide)) (by omega) (by decide) hI_1.symm ?_
        have h1b : I_1 593 x = nI r := by rw [ui_row hI_1 (by omega)]; exact h1
        refine ev_aload_n 46 rfl d151_45 rfl ?_
        refine ev_getr 49 rfl 9 27 d151_46 rfl (by omega) (G.1 _ _ (rfl : ai_sp 572 = (9, 0)) (by decide) (by decide)) (G.2 _ _ _ (rfl : ai_rf 572 27 = some 593)) ?_
        refine ev_iload_n 50 rfl d151_49 rfl ?_
        refine ev_dup2 51 rfl d151_50 ⟨rfl, rfl⟩ ?_
        refine ev_iald_n (v := nI r) 52 rfl d151_51 (by omega) (G.1 _ _ (rfl : ai_sp 593 = (100, 16)) (by decide) (by decide)) (by omega) (by decide) h1b ?_
        refine ev_iconst (v := nI 1) 53 rfl d151_52 (by decide) ?_
        refine ev_iadd (v := nI (r + 1)) 54 rfl d151_53 (nI_add _ _) ?_
        obtain ⟨I_2, hI_2⟩ : ∃ z, z = ai_ui I_1 593 x (nI (r + 1)) := ⟨_, rfl⟩
        refine ev_iast_n (I2 := I_2) 55 rfl d151_54 (by omega) (G.1 _ _ (rfl : ai_sp 593 = (100, 16)) (by decide) (by decide)) (by omega) (by decide) hI_2.symm ?_
        have hkr : k = r := by omega
        have hf1 : ai_mf x I I_1 := ai_mf.dig hk17 hI_1
        have hf2 : ai_mf x I I_2 := hf1.trans (ai_mf.len hI_2)
        have g1b : I_2 593 y = nI t := by rw [(hf2.2 y hyx).1]; exact g1
        have hz0 : I_2 592 (1700 * x + k) = nI 0 := by rw [ui_row hI_2 (by omega)]; exact ui_same hI_1
        refine ev_iload_n 56 rfl d151_55 rfl ?_
        refine ev_aload_n 57 rfl d151_56 rfl ?_
        refine ev_getr 60 rfl 9 26 d151_57 rfl (by omega) (G.1 _ _ (rfl : ai_sp 572 = (9, 0)) (by decide) (by decide)) (G.2 _ _ _ (rfl : ai_rf 572 26 = some 592)) ?_
        refine ev_sipush (v := nI 1700) 63 rfl d151_60 (by decide) ?_
        refine ev_iload_n 64 rfl d151_63 rfl ?_
        refine ev_imul (v := nI (1700 * x)) 65 rfl d151_64 (pk_mul _ _) ?_
        refine ev_iload 67 rfl d151_65 rfl ?_
        refine ev_iadd (v := nI ((1700 * x) + k)) 68 rfl d151_67 (nI_add _ _) ?_
        refine ev_iald_n (v := nI 0) 69 rfl d151_68 (by omega) (G.1 _ _ (rfl : ai_sp 592 = (100, 27200)) (by decide) (by decide)) (by omega) (by decide) hz0 ?_
        refine ev_iload 71 rfl d151_69 rfl ?_
        refine ev_aload_n 72 rfl d151_71 rfl ?_
        refine ev_getr 75 rfl 9 27 d151_72 rfl (by omega) (G.1 _ _ (rfl : ai_sp 572 = (9, 0)) (by decide) (by decide)) (G.2 _ _ _ (rfl : ai_rf 572 27 = some 593)) ?_
        refine ev_iload_n 76 rfl d151_75 rfl ?_
        refine ev_iald_n (v := nI t) 77 rfl d151_76 (by omega) (G.1 _ _ (rfl : ai_sp 593 = (100, 16)) (by decide) (by decide)) (by omega) (by decide) g1b ?_
        have hdy : k < t → ai_md I y k < 65536 := fun h => (gok k h).2
        have hdx9 : k < r → ai_md I x k < 65536 := fun h => (hok k h).2
        refine ev_icmp 96 80 (by decide) rfl (cn_ge (by omega) (by omega)) d151_77 (fun hc_77 => ?_) (fun hc_77 => ?_)
        · refine ev_iconst (v := nI 0) 97 rfl d151_96 (by decide) ?_
          have hdy9 : ai_md I y k < 65536 ∨ t ≤ k := by rcases Nat.lt_or_ge k t with q | q; exact Or.inl ((gok k q).2); exact Or.inr q
          refine ev_iadd (v := nI 0) 98 rfl d151_97 (nI_add _ _) ?_
          refine ev_iadd (v := nI (c + 0)) 99 rfl d151_98 (nI_add _ _) ?_
          refine ev_store_in 100 rfl d151_99 (Nat.le_of_ble_eq_true rfl) rfl ?_
          show ai_Ev _ _ _ [some (.ref 572), some (.int (nI x)), some (.int (nI y)), some (.int (nI (c + 0))), some (.int (nI k))] _ _ _
          refine ev_aload_n 101 rfl d151_100 rfl ?_
          refine ev_getr 104 rfl 9 26 d151_101 rfl (by omega) (G.1 _ _ (rfl : ai_sp 572 = (9, 0)) (by decide) (by decide)) (G.2 _ _ _ (rfl : ai_rf 572 26 = some 592)) ?_
          refine ev_sipush (v := nI 1700) 107 rfl d151_104 (by decide) ?_
          refine ev_iload_n 108 rfl d151_107 rfl ?_
          refine ev_imul (v := nI (1700 * x)) 109 rfl d151_108 (pk_mul _ _) ?_
          refine ev_iload 111 rfl d151_109 rfl ?_
          refine ev_iadd (v := nI ((1700 * x) + k)) 112 rfl d151_111 (nI_add _ _) ?_
          refine ev_iload_n 113 rfl d151_112 rfl ?_
          refine ev_ldc (v := nI 65535) 115 rfl d151_113 (by decide) ?_
          refine ev_iand (v := nI ((c + 0) % 65536)) 116 rfl d151_115 (nI_mask16 _) ?_
          obtain ⟨I_3, hI_3⟩ : ∃ z, z = ai_ui I_2 592 ((1700 * x) + k) (nI ((c + 0) % 65536)) := ⟨_, rfl⟩
          refine ev_iast_n (I2 := I_3) 117 rfl d151_116 (by omega) (G.1 _ _ (rfl : ai_sp 592 = (100, 27200)) (by decide) (by decide)) (by omega) (by decide) hI_3.symm ?_
          refine ev_iload_n 118 rfl d151_117 rfl ?_
          refine ev_bipush (v := nI 16) 120 rfl d151_118 (by decide) ?_
          have hdy8 : ai_md I y k < 65536 ∨ t ≤ k := by rcases Nat.lt_or_ge k t with q | q; exact Or.inl ((gok k q).2); exact Or.inr q
          have hdx8 : ai_md I x k < 65536 ∨ r ≤ k := by rcases Nat.lt_or_ge k r with q | q; exact Or.inl ((hok k q).2); exact Or.inr q
          refine ev_ishr (v := nI ((c + 0) / 65536)) 121 rfl d151_120 (nI_shr16 (by omega)) ?_
          refine ev_store_in 122 rfl d151_121 (Nat.le_of_ble_eq_true rfl) rfl ?_
          show ai_Ev _ _ _ [some (.ref 572), some (.int (nI x)), some (.int (nI y)), some (.int (nI ((c + 0) / 65536))), some (.int (nI k))] _ _ _
          refine ev_iinc (v := nI (k + 1)) 125 rfl d151_122 rfl (Nat.le_of_ble_eq_true rfl) (nI_add _ 1) rfl ?_
          show ai_Ev _ _ _ [some (.ref 572), some (.int (nI x)), some (.int (nI y)), some (.int (nI ((c + 0) / 65536))), some (.int (nI (k + 1)))] _ _ _
          refine ev_goto 5 (by decide) d151_125 ?_
          obtain ⟨w, hwe⟩ : ∃ w, w = c + 0 := ⟨_, rfl⟩
          rw [← hwe] at hI_3 ⊢
          have hw4 : w < 131072 := by rw [hwe]; omega
          have hr9 : w % 65536 < 65536 := Nat.mod_lt _ (by omega)
          have hf3 : ai_mf x I I_3 := hf2.trans (ai_mf.dig (by omega) hI_3)
          refine ih (z - 1) (by omega) (k + 1) (k + 1) I_3 _ (by omega) (by rw [ui_row hI_3 (by omega), hkr]; exact ui_same hI_2) (by omega) (by omega) (Or.inr rfl) (Nat.le_refl _) ?_ (by rw [(hf3.2 y hyx).1]; exact g1) (hf3.ok hyx (by omega) gok) (fun j hj1 hj2 => absurd hj2 (by omega)) (fun j hj => by rw [hf3.md hyx (by omega)]; exact hE j hj) (by omega) ?_ (fun hs9 ht9 => ⟨by omega, by rw [show k + 1 - 1 = k by omega, (md_same hI_3 hr9).2]; omega⟩) (hfr.trans hf3)
          · exact ai_MOK_putIn hI_3 hr9 ((ai_MOK_put hI_1 (by omega) (by rw [hkr]; exact hok)).len hI_2)
          · exact m_plus_step (I := I) (c := c) (by rw [hwe, hDz k (by omega), hEz k (by omega)]) (fun j hj => by rw [md_other hI_3 (by omega), md_len hI_2, md_other hI_1 (by omega)]) (md_same hI_3 hr9).2 hv
        · refine ev_aload_n 81 rfl d151_80 rfl ?_
          refine ev_getr 84 rfl 9 26 d151_81 rfl (by omega) (G.1 _ _ (rfl : ai_sp 572 = (9, 0)) (by decide) (by decide)) (G.2 _ _ _ (rfl : ai_rf 572 26 = some 592)) ?_
          refine ev_sipush (v := nI 1700) 87 rfl d151_84 (by decide) ?_
          refine ev_iload_n 88 rfl d151_87 rfl ?_
          refine ev_imul (v := nI (1700 * y)) 89 rfl d151_88 (pk_mul _ _) ?_
          refine ev_iload 91 rfl d151_89 rfl ?_
          refine ev_iadd (v := nI ((1700 * y) + k)) 92 rfl d151_91 (nI_add _ _) ?_
          refine ev_iald_n (v := nI (ai_md I y k)) 93 rfl d151_92 (by omega) (G.1 _ _ (rfl : ai_sp 592 = (100, 27200)) (by decide) (by decide)) (by omega) (by decide) (((hf2.2 y hyx).2 k (by omega)).trans (gok k (by omega)).1) ?_
          refine ev_goto 97 (by decide) d151_93 ?_
          have hdy9 : ai_md I y k < 65536 ∨ t ≤ k := by rcases Nat.lt_or_ge k t with q | q; exact Or.inl ((gok k q).2); exact Or.inr q
          refine ev_iadd (v := nI (0 + (ai_md I y k))) 98 rfl d151_97 (nI_add _ _) ?_
          refine ev_iadd (v := nI (c + (0 + (ai_md I y k)))) 99 rfl d151_98 (nI_add _ _) ?_
          refine ev_store_in 100 rfl d151_99 (Nat.le_of_ble_eq_true rfl) rfl ?_
          show ai_Ev _ _ _ [some (.ref 572), some (.int (nI x)), some (.int (nI y)), some (.int (nI (c + (0 + (ai_md I y k))))), some (.int (nI k))] _ _ _
          refine ev_aload_n 101 rfl d151_100 rfl ?_
          refine ev_getr 104 rfl 9 26 d151_101 rfl (by omega) (G.1 _ _ (rfl : ai_sp 572 = (9, 0)) (by decide) (by decide)) (G.2 _ _ _ (rfl : ai_rf 572 26 = some 592)) ?_
          refine ev_sipush (v := nI 1700) 107 rfl d151_104 (by decide) ?_
          refine ev_iload_n 108 rfl d151_107 rfl ?_
          refine ev_imul (v := nI (1700 * x)) 109 rfl d151_108 (pk_mul _ _) ?_
          refine ev_iload 111 rfl d151_109 rfl ?_
          refine ev_iadd (v := nI ((1700 * x) + k)) 112 rfl d151_111 (nI_add _ _) ?_
          refine ev_iload_n 113 rfl d151_112 rfl ?_
          refine ev_ldc (v := nI 65535) 115 rfl d151_113 (by decide) ?_
          refine ev_iand (v := nI ((c + (0 + (ai_md I y k))) % 65536)) 116 rfl d151_115 (nI_mask16 _) ?_
          obtain ⟨I_3, hI_3⟩ : ∃ z, z = ai_ui I_2 592 ((1700 * x) + k) (nI ((c + (0 + (ai_md I y k))) % 65536)) := ⟨_, rfl⟩
          refine ev_iast_n (I2 := I_3) 117 rfl d151_116 (by omega) (G.1 _ _ (rfl : ai_sp 592 = (100, 27200)) (by decide) (by decide)) (by omega) (by decide) hI_3.symm ?_
          refine ev_iload_n 118 rfl d151_117 rfl ?_
          refine ev_bipush (v := nI 16) 120 rfl d151_118 (by decide) ?_
          have hdy8 : ai_md I y k < 65536 ∨ t ≤ k := by rcases Nat.lt_or_ge k t with q | q; exact Or.inl ((gok k q).2); exact Or.inr q
          have hdx8 : ai_md I x k < 65536 ∨ r ≤ k := by rcases Nat.lt_or_ge k r with q | q; exact Or.inl ((hok k q).2); exact Or.inr q
          refine ev_ishr (v := nI ((c + (0 + (ai_md I y k))) / 65536)) 121 rfl d151_120 (nI_shr16 (by omega)) ?_
          refine ev_store_in 122 rfl d151_121 (Nat.le_of_ble_eq_true rfl) rfl ?_
          show ai_Ev _ _ _ [some (.ref 572), some (.int (nI x)), some (.int (nI y)), some (.int (nI ((c + (0 + (ai_md I y k))) / 65536))), some (.int (nI k))] _ _ _
          refine ev_iinc (v := nI (k + 1)) 125 rfl d151_122 rfl (Nat.le_of_ble_eq_true rfl) (nI_add _ 1) rfl ?_
          show ai_Ev _ _ _ [some (.ref 572), some (.int (nI x)), some (.int (nI y)), some (.int (nI ((c + (0 + (ai_md I y k))) / 65536))), some (.int (nI (k + 1)))] _ _ _
          refine ev_goto 5 (by decide) d151_125 ?_
          obtain ⟨w, hwe⟩ : ∃ w, w = c + (0 + (ai_md I y k)) := ⟨_, rfl⟩
          rw [← hwe] at hI_3 ⊢
          have hw4 : w < 131072 := by rw [hwe]; have := (gok k (by omega)).2; omega
          have hr9 : w % 65536 < 65536 := Nat.mod_lt _ (by omega)
          have hf3 : ai_mf x I I_3 := hf2.trans (ai_mf.dig (by omega) hI_3)
          refine ih (z - 1) (by omega) (k + 1) (k + 1) I_3 _ (by omega) (by rw [ui_row hI_3 (by omega), hkr]; exact ui_same hI_2) (by omega) (by omega) (Or.inr rfl) (Nat.le_refl _) ?_ (by rw [(hf3.2 y hyx).1]; exact g1) (hf3.ok hyx (by omega) gok) (fun j hj1 hj2 => absurd hj2 (by omega)) (fun j hj => by rw [hf3.md hyx (by omega)]; exact hE j hj) (by omega) ?_ (fun hs9 ht9 => absurd ht9 (by omega)) (hfr.trans hf3)
          · exact ai_MOK_putIn hI_3 hr9 ((ai_MOK_put hI_1 (by omega) (by rw [hkr]; exact hok)).len hI_2)
          · exact m_plus_step (I := I) (c := c) (by rw [hwe, hDz k (by omega), ← hE k (by omega)]) (fun j hj => by rw [md_other hI_3 (by omega), md_len hI_2, md_other hI_1 (by omega)]) (md_same hI_3 hr9).2 hv
    refine ev_iload 7 rfl d151_5 rfl ?_
    refine ev_aload_n 8 rfl d151_7 rfl ?_
    refine ev_getr 11 rfl 9 27 d151_8 rfl (by omega) (G.1 _ _ (rfl : ai_sp 572 = (9, 0)) (by decide) (by decide)) (G.2 _ _ _ (rfl : ai_rf 572 27 = some 593)) ?_
    refine ev_iload_n 12 rfl d151_11 rfl ?_
    refine ev_iald_n (v := nI t) 13 rfl d151_12 (by omega) (G.1 _ _ (rfl : ai_sp 593 = (100, 16)) (by decide) (by decide)) (by omega) (by decide) g1 ?_
    refine ev_icmp 20 16 (by decide) rfl (cn_lt (by omega) (by omega)) d151_13 (fun hc_13 => ?_) (fun hc_13 => ?_)
    · exact body (by omega)
    · refine ev_iload_n 17 rfl d151_16 rfl ?_
      refine ev_if 128 20 (by decide) rfl (c0_le (by omega)) d151_17 (fun hc_17 => ?_) (fun hc_17 => ?_)
      · refine ev_vret rfl d151_128 ?_
        have hc0 : c = 0 := by omega
        rw [hc0, Nat.zero_mul, Nat.add_zero] at hv
        have hvD : ai_val 65536 D r = v := by rw [← hvv]; exact val_zeros (by omega) (fun j hj1 hj2 => hDz j hj1)
        have hvE : ai_val 65536 E k = u := by rw [← huu]; exact val_zeros (by omega) (fun j hj1 hj2 => hEz j hj1)
        have hfin : ai_val 65536 (ai_md I x) r = v + u := by
          rcases hrs with hq | hq
          · have e1 : ∀ n, k ≤ n → n ≤ r → ai_val 65536 (ai_md I x) n = ai_val 65536 D n + u := by
              intro n
              induction n with
              | zero =>
                intro hn1 hn2
                obtain rfl : k = 0 := by omega
                rw [hv, hvE]
              | succ n ihn =>
                intro hn1 hn2
                rcases Nat.lt_or_ge k (n + 1) with q | q
                · rw [val_succ, val_succ, ihn (by omega) (by omega), hD n (by omega) (by omega)]; omega
                · obtain rfl : k = n + 1 := by omega
                  rw [hv, hvE]
            rw [e1 r hkr (Nat.le_refl _), hvD]
          · subst hq
            rw [hv, hvD, hvE]
        refine ⟨rfl, _, rfl, ⟨r, h1, hr17, hok, hfin, fun hr0 => ?_⟩, hfr⟩
        by_cases hz : s < k ∧ t < k
        · have h9 := (hinv hz.1 hz.2).2
          have : r = k := by omega
          rw [this]; exact h9
        · refine top_pos (fun j hj => (hok j hj).2) hfin hr0 ?_
          by_cases hz2 : r = s
          · have := top_le hvv (by omega) (hst (by omega))
            rw [hz2]; omega
          · have : r = t := by omega
            have := top_le huu (by omega) (htt (by omega))
            rw [‹r = t›]; omega
      · exact body (by omega)
theorem m_plus (G : ai_G S F) {x y v u : Nat} (hx : x < 16) (hy : y < 16) (hyx : y ≠ x) {I : Nat → Nat → Int32} (hA : ai_MG I x v) (hB : ai_MG I y u) (hV : v + u < 65536 ^ 1700) :
    ai_Ev none 151 0 [some (.ref 572), some (.int (nI x)), some (.int (nI y)), none, none] [] (S, I, L, F) (ai_Pu S F L (fun I2 => ai_MG I2 x (v + u) ∧ ai_mf x I I2)) := by
  obtain ⟨s, h1, h2, h3, h4, h5⟩ := hA
  obtain ⟨t, g1, g2, g3, g4, g5⟩ := hB
  refine ev_iconst (v := nI 0) 1 rfl d151_0 (by decide) ?_
  refine ev_store_in 2 rfl d151_1 (Nat.le_of_ble_eq_true rfl) rfl ?_
  show ai_Ev _ _ _ [some (.ref 572), some (.int (nI x)), some (.int (nI y)), some (.int (nI 0)), none] _ _ _
  refine ev_iconst (v := nI 0) 3 rfl d151_2 (by decide) ?_
  refine ev_store_i 5 rfl d151_3 ⟨rfl, Nat.le_of_ble_eq_true rfl⟩ rfl ?_
  show ai_Ev _ _ _ [some (.ref 572), some (.int (nI x)), some (.int (nI y)), some (.int (nI 0)), some (.int (nI 0))] _ _ _
  obtain ⟨D, hDD⟩ : ∃ D : Nat → Nat, ∀ k, D k = if k < s then ai_md I x k else 0 := ⟨_, fun _ => rfl⟩
  obtain ⟨E, hEE⟩ : ∃ E : Nat → Nat, ∀ k, E k = if k < t then ai_md I y k else 0 := ⟨_, fun _ => rfl⟩
  exact m_plus_loop G hx hy hyx h2 g2 (D := D) (E := E) (I0 := I) (fun j hj => by rw [hDD, if_neg (by omega)]) (fun j hj => by rw [hEE, if_neg (by omega)]) (by rw [← h4]; exact val_congr (fun j hj => by rw [hDD, if_pos hj])) (by rw [← g4]; exact val_congr (fun j hj => by rw [hEE, if_pos hj])) (fun h => by rw [hDD, if_pos (by omega)]; exact h5 h) (fun h => by rw [hEE, if_pos (by omega)]; exact g5 h) hV 1701 0 s I 0 (by omega) h1 h2 (Nat.le_refl _) (Or.inl rfl) (by omega) h3 g1 g3 (fun j _ hj => by rw [hDD, if_pos hj]) (fun j hj => by rw [hEE, if_pos hj]) (by omega) (by simp [ai_val]) (fun h _ => absurd h (by omega)) (ai_mf.rf x I)
end MBIG2
