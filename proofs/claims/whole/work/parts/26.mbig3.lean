section MBIG3
variable {S : List (Nat × Nat)} {F : Nat → Nat → Option Nat} {L : Nat → Nat → Int64}
theorem sub_digit16 {d e r : Nat} (hd : d < 65536) (he : e < 65536) (hr : r ≤ 1) : ∃ x r2, r2 ≤ 1 ∧ x < 65536 ∧ (-(nI r) + (nI d - nI e)) &&& nI 65535 = nI x ∧ (-(nI r) + (nI d - nI e)) >>> (nI 16 &&& 31) = -(nI r2) ∧ d + 65536 * r2 = x + e + r := by
  by_cases h : e + r ≤ d
  · have e1 : -(nI r) + (nI d - nI e) = nI (d - e - r) := by
      rw [Int32.add_comm, ← Int32.sub_eq_add_neg, pk_sub (by omega), pk_sub (by omega)]
    refine ⟨d - e - r, 0, by omega, by omega, ?_, ?_, by omega⟩
    · rw [e1, nI_mask16, Nat.mod_eq_of_lt (by omega)]
    · rw [e1, nI_shr16 (by omega), Nat.div_eq_of_lt (by omega)]
      decide
  · have e1 : -(nI r) + (nI d - nI e) = nI (d + 4294967296 - e - r) := by
      have z : nI (d + 4294967296) = nI d := by
        unfold nI
        rw [Int32.ofNat_add]
        simp
      rw [← z, Int32.add_comm, ← Int32.sub_eq_add_neg, pk_sub (by omega), pk_sub (by omega)]
    refine ⟨d + 65536 - e - r, 1, by omega, by omega, ?_, ?_, by omega⟩
    · rw [e1, nI_mask16]
      congr 1
      omega
    · rw [e1]
      apply Int32.toInt_inj.mp
      rw [pk_shr _ _ 16 (by decide)]
      have e3 : (nI (d + 4294967296 - e - r)).toInt = (d : Int) - e - r := by
        unfold nI
        rw [Int32.toInt_ofNat', Int.bmod_def]
        have e4 : ((d + 4294967296 - e - r : Nat) : Int) % (4294967296 : Nat) = ((d + 4294967296 - e - r : Nat) : Int) := Int.emod_eq_of_lt (by omega) (by omega)
        simp only [Int32.size]
        rw [e4]
        split <;> omega
      rw [e3, show (-(nI 1)).toInt = -1 by decide, Int.shiftRight_eq_div_pow]
      have : ((2 ^ 16 : Nat) : Int) = 65536 := by decide
      rw [this]
      omega

theorem m_trim152 (G : ai_G S F) {x y : Nat} (hx16 : x < 16) {u3 u4 : Option Value} {I0 : Nat → Nat → Int32} {v : Nat} : ∀ (s : Nat) {I : Nat → Nat → Int32}, I 593 x = nI s → s ≤ 1700 → ai_MOK I x s → ai_val 65536 (ai_md I x) s = v → ai_mf x I0 I →
    ai_Ev none 152 89 [some (.ref 572), some (.int (nI x)), some (.int (nI y)), u3, u4] [] (S, I, L, F) (ai_Pu S F L (fun I2 => ai_MG I2 x v ∧ ai_mf x I0 I2)) := by
  intro s
  induction s using Nat.strongRecOn with
  | _ s ih =>
    intro I h1 hsn hok hv hx
    refine ev_aload_n 90 rfl d152_89 rfl ?_
    refine ev_getr 93 rfl 9 27 d152_90 rfl (by omega) (G.1 _ _ (rfl : ai_sp 572 = (9, 0)) (by decide) (by decide)) (G.2 _ _ _ (rfl : ai_rf 572 27 = some 593)) ?_
    refine ev_iload_n 94 rfl d152_93 rfl ?_
    refine ev_iald_n (v := nI s) 95 rfl d152_94 (by omega) (G.1 _ _ (rfl : ai_sp 593 = (100, 16)) (by decide) (by decide)) (by omega) (by decide) h1 ?_
    refine ev_if 133 98 (by decide) rfl (c0_le (by omega)) d152_95 (fun hc_95 => ?_) (fun hc_95 => ?_)
    · refine ev_vret rfl d152_133 ?_
      refine ⟨rfl, _, rfl, ⟨s, h1, hsn, hok, hv, fun hs => by omega⟩, hx⟩
    · refine ev_aload_n 99 rfl d152_98 rfl ?_
      refine ev_getr 102 rfl 9 26 d152_99 rfl (by omega) (G.1 _ _ (rfl : ai_sp 572 = (9, 0)) (by decide) (by decide)) (G.2 _ _ _ (rfl : ai_rf 572 26 = some 592)) ?_
      refine ev_sipush (v := nI 1700) 105 rfl d152_102 (by decide) ?_
      refine ev_iload_n 106 rfl d152_105 rfl ?_
      refine ev_imul (v := nI (1700 * x)) 107 rfl d152_106 (pk_mul _ _) ?_
      refine ev_aload_n 108 rfl d152_107 rfl ?_
      refine ev_getr 111 rfl 9 27 d152_108 rfl (by omega) (G.1 _ _ (rfl : ai_sp 572 = (9, 0)) (by decide) (by decide)) (G.2 _ _ _ (rfl : ai_rf 572 27 = some 593)) ?_
      refine ev_iload_n 112 rfl d152_111 rfl ?_
      refine ev_iald_n (v := nI s) 113 rfl d152_112 (by omega) (G.1 _ _ (rfl : ai_sp 593 = (100, 16)) (by decide) (by decide)) (by omega) (by decide) h1 ?_
      refine ev_iadd (v := nI (1700 * x + s)) 114 rfl d152_113 (nI_add _ _) ?_
      refine ev_iconst (v := nI 1) 115 rfl d152_114 (by decide) ?_
      refine ev_isub (v := nI (1700 * x + (s - 1))) 116 rfl d152_115 ((pk_sub (by omega)).trans (congrArg nI (by omega))) ?_
      refine ev_iald_n (v := nI (ai_md I x (s - 1))) 117 rfl d152_116 (by omega) (G.1 _ _ (rfl : ai_sp 592 = (100, 27200)) (by decide) (by decide)) (by omega) (by decide) (hok (s - 1) (by omega)).1 ?_
      have hlt := (hok (s - 1) (by omega)).2
      refine ev_if 133 120 (by decide) rfl (c0_ne (by omega)) d152_117 (fun hc_117 => ?_) (fun hc_117 => ?_)
      · refine ev_vret rfl d152_133 ?_
        refine ⟨rfl, _, rfl, ⟨s, h1, hsn, hok, hv, fun hs => by omega⟩, hx⟩
      · refine ev_aload_n 121 rfl d152_120 rfl ?_
        refine ev_getr 124 rfl 9 27 d152_121 rfl (by omega) (G.1 _ _ (rfl : ai_sp 572 = (9, 0)) (by decide) (by decide)) (G.2 _ _ _ (rfl : ai_rf 572 27 = some 593)) ?_
        refine ev_iload_n 125 rfl d152_124 rfl ?_
        refine ev_dup2 126 rfl d152_125 ⟨rfl, rfl⟩ ?_
        refine ev_iald_n (v := nI s) 127 rfl d152_126 (by omega) (G.1 _ _ (rfl : ai_sp 593 = (100, 16)) (by decide) (by decide)) (by omega) (by decide) h1 ?_
        refine ev_iconst (v := nI 1) 128 rfl d152_127 (by decide) ?_
        refine ev_isub (v := nI (s - 1)) 129 rfl d152_128 (pk_sub (by omega)) ?_
        obtain ⟨I_1, hI_1⟩ : ∃ z, z = ai_ui I 593 x (nI (s - 1)) := ⟨_, rfl⟩
        refine ev_iast_n (I2 := I_1) 130 rfl d152_129 (by omega) (G.1 _ _ (rfl : ai_sp 593 = (100, 16)) (by decide) (by decide)) (by omega) (by decide) hI_1.symm ?_
        refine ev_goto 89 (by decide) d152_130 ?_
        refine ih (s - 1) (by omega) (ui_same hI_1) (by omega) ?_ ?_ (hx.trans (ai_mf.len hI_1))
        · intro j hj
          rw [md_len hI_1, ui_row hI_1 (by omega)]
          exact hok j (by omega)
        · rw [val_congr (fun j _ => md_len hI_1), ← hv]
          conv => rhs; rw [show s = (s - 1) + 1 by omega]
          exact (val_top0 (by omega)).symm
theorem m_trim154 (G : ai_G S F) {x y w : Nat} (hw16 : w < 16) {u4 u5 u6 u7 : Option Value} {I0 : Nat → Nat → Int32} {v : Nat} : ∀ (s : Nat) {I : Nat → Nat → Int32}, I 593 w = nI s → s ≤ 1700 → ai_MOK I w s → ai_val 65536 (ai_md I w) s = v → ai_mf w I0 I →
    ai_Ev none 154 231 [some (.ref 572), some (.int (nI x)), some (.int (nI y)), some (.int (nI w)), u4, u5, u6, u7] [] (S, I, L, F) (ai_Pu S F L (fun I2 => ai_MG I2 w v ∧ ai_mf w I0 I2)) := by
  intro s
  induction s using Nat.strongRecOn with
  | _ s ih =>
    intro I h1 hsn hok hv hx
    refine ev_aload_n 232 rfl d154_231 rfl ?_
    refine ev_getr 235 rfl 9 27 d154_232 rfl (by omega) (G.1 _ _ (rfl : ai_sp 572 = (9, 0)) (by decide) (by decide)) (G.2 _ _ _ (rfl : ai_rf 572 27 = some 593)) ?_
    refine ev_iload_n 236 rfl d154_235 rfl ?_
    refine ev_iald_n (v := nI s) 237 rfl d154_236 (by omega) (G.1 _ _ (rfl : ai_sp 593 = (100, 16)) (by decide) (by decide)) (by omega) (by decide) h1 ?_
    refine ev_if 275 240 (by decide) rfl (c0_le (by omega)) d154_237 (fun hc_237 => ?_) (fun hc_237 => ?_)
    · refine ev_vret rfl d154_275 ?_
      refine ⟨rfl, _, rfl, ⟨s, h1, hsn, hok, hv, fun hs => by omega⟩, hx⟩
    · refine ev_aload_n 241 rfl d154_240 rfl ?_
      refine ev_getr 244 rfl 9 26 d154_241 rfl (by omega) (G.1 _ _ (rfl : ai_sp 572 = (9, 0)) (by decide) (by decide)) (G.2 _ _ _ (rfl : ai_rf 572 26 = some 592)) ?_
      refine ev_sipush (v := nI 1700) 247 rfl d154_244 (by decide) ?_
      refine ev_iload_n 248 rfl d154_247 rfl ?_
      refine ev_imul (v := nI (1700 * w)) 249 rfl d154_248 (pk_mul _ _) ?_
      refine ev_aload_n 250 rfl d154_249 rfl ?_
      refine ev_getr 253 rfl 9 27 d154_250 rfl (by omega) (G.1 _ _ (rfl : ai_sp 572 = (9, 0)) (by decide) (by decide)) (G.2 _ _ _ (rfl : ai_rf 572 27 = some 593)) ?_
      refine ev_iload_n 254 rfl d154_253 rfl ?_
      refine ev_iald_n (v := nI s) 255 rfl d154_254 (by omega) (G.1 _ _ (rfl : ai_sp 593 = (100, 16)) (by decide) (by decide)) (by omega) (by decide) h1 ?_
      refine ev_iadd (v := nI (1700 * w + s)) 256 rfl d154_255 (nI_add _ _) ?_
      refine ev_iconst (v := nI 1) 257 rfl d154_256 (by decide) ?_
      refine ev_isub (v := nI (1700 * w + (s - 1))) 258 rfl d154_257 ((pk_sub (by omega)).trans (congrArg nI (by omega))) ?_
      refine ev_iald_n (v := nI (ai_md I w (s - 1))) 259 rfl d154_258 (by omega) (G.1 _ _ (rfl : ai_sp 592 = (100, 27200)) (by decide) (by decide)) (by omega) (by decide) (hok (s - 1) (by omega)).1 ?_
      have hlt := (hok (s - 1) (by omega)).2
      refine ev_if 275 262 (by decide) rfl (c0_ne (by omega)) d154_259 (fun hc_259 => ?_) (fun hc_259 => ?_)
      · refine ev_vret rfl d154_275 ?_
        refine ⟨rfl, _, rfl, ⟨s, h1, hsn, hok, hv, fun hs => by omega⟩, hx⟩
      · refine ev_aload_n 263 rfl d154_262 rfl ?_
        refine ev_getr 266 rfl 9 27 d154_263 rfl (by omega) (G.1 _ _ (rfl : ai_sp 572 = (9, 0)) (by decide) (by decide)) (G.2 _ _ _ (rfl : ai_rf 572 27 = some 593)) ?_
        refine ev_iload_n 267 rfl d154_266 rfl ?_
        refine ev_dup2 268 rfl d154_267 ⟨rfl, rfl⟩ ?_
        refine ev_iald_n (v := nI s) 269 rfl d154_268 (by omega) (G.1 _ _ (rfl : ai_sp 593 = (100, 16)) (by decide) (by decide)) (by omega) (by decide) h1 ?_
        refine ev_iconst (v := nI 1) 270 rfl d154_269 (by decide) ?_
        refine ev_isub (v := nI (s - 1)) 271 rfl d154_270 (pk_sub (by omega)) ?_
        obtain ⟨I_1, hI_1⟩ : ∃ z, z = ai_ui I 593 w (nI (s - 1)) := ⟨_, rfl⟩
        refine ev_iast_n (I2 := I_1) 272 rfl d154_271 (by omega) (G.1 _ _ (rfl : ai_sp 593 = (100, 16)) (by decide) (by decide)) (by omega) (by decide) hI_1.symm ?_
        refine ev_goto 231 (by decide) d154_272 ?_
        refine ih (s - 1) (by omega) (ui_same hI_1) (by omega) ?_ ?_ (hx.trans (ai_mf.len hI_1))
        · intro j hj
          rw [md_len hI_1, ui_row hI_1 (by omega)]
          exact hok j (by omega)
        · rw [val_congr (fun j _ => md_len hI_1), ← hv]
          conv => rhs; rw [show s = (s - 1) + 1 by omega]
          exact (val_top0 (by omega)).symm
theorem m_minus_loop (G : ai_G S F) {x y s t : Nat} (hx : x < 16) (hy : y < 16) (hyx : y ≠ x) (hs17 : s ≤ 1700) (ht17 : t ≤ 1700) {D E : Nat → Nat} (hEz : ∀ j, t ≤ j → E j = 0) {I0 : Nat → Nat → Int32} {Q : Option Value → ai_H → Prop}
    (hk : ∀ (I : Nat → Nat → Int32) (c : Nat), I 593 x = nI s → ai_MOK I x s → c ≤ 1 → ai_val 65536 (ai_md I x) s + ai_val 65536 E s = ai_val 65536 D s + c * 65536 ^ s → ai_mf x I0 I → ai_Ev none 152 89 [some (.ref 572), some (.int (nI x)), some (.int (nI y)), some (.int (-(nI c))), some (.int (nI s))] [] (S, I, L, F) Q) :
    ∀ (z k : Nat) (I : Nat → Nat → Int32) (c : Nat), k + z = s → I 593 x = nI s → ai_MOK I x s → I 593 y = nI t → ai_MOK I y t → (∀ j, k ≤ j → j < s → ai_md I x j = D j) → (∀ j, j < t → ai_md I y j = E j) → c ≤ 1 → ai_val 65536 (ai_md I x) k + ai_val 65536 E k = ai_val 65536 D k + c * 65536 ^ k → ai_mf x I0 I →
    ai_Ev none 152 5 [some (.ref 572), some (.int (nI x)), some (.int (nI y)), some (.int (-(nI c))), some (.int (nI k))] [] (S, I, L, F) Q := by
  intro z
  induction z with
  | zero =>
    intro k I c hkz h1 hok g1 gok hD hE hc hv hfr
    obtain rfl : k = s := by omega
    refine ev_iload 7 rfl d152_5 rfl ?_
    refine ev_aload_n 8 rfl d152_7 rfl ?_
    refine ev_getr 11 rfl 9 27 d152_8 rfl (by omega) (G.1 _ _ (rfl : ai_sp 572 = (9, 0)) (by decide) (by decide)) (G.2 _ _ _ (rfl : ai_rf 572 27 = some 593)) ?_
    refine ev_iload_n 12 rfl d152_11 rfl ?_
    refine ev_iald_n (v := nI k) 13 rfl d152_12 (by omega) (G.1 _ _ (rfl : ai_sp 593 = (100, 16)) (by decide) (by decide)) (by omega) (by decide) h1 ?_
    refine ev_icmp 89 16 (by decide) rfl (cn_ge (by omega) (by omega)) d152_13 (fun hc_13 => ?_) (fun hc_13 => absurd hc_13 (by omega))
    exact hk I c h1 hok hc hv hfr
  | succ z ih =>
    intro k I c hkz h1 hok g1 gok hD hE hc hv hfr
    refine ev_iload 7 rfl d152_5 rfl ?_
    refine ev_aload_n 8 rfl d152_7 rfl ?_
    refine ev_getr 11 rfl 9 27 d152_8 rfl (by omega) (G.1 _ _ (rfl : ai_sp 572 = (9, 0)) (by decide) (by decide)) (G.2 _ _ _ (rfl : ai_rf 572 27 = some 593)) ?_
    refine ev_iload_n 12 rfl d152_11 rfl ?_
    refine ev_iald_n (v := nI s) 13 rfl d152_12 (by omega) (G.1 _ _ (rfl : ai_sp 593 = (100, 16)) (by decide) (by decide)) (by omega) (by decide) h1 ?_
    refine ev_icmp 89 16 (by decide) rfl (cn_ge (by omega) (by omega)) d152_13 (fun hc_13 => absurd hc_13 (by omega)) (fun hc_13 => ?_)
    refine ev_iload_n 17 rfl d152_16 rfl ?_
    refine ev_aload_n 18 rfl d152_17 rfl ?_
    refine ev_getr 21 rfl 9 26 d152_18 rfl (by omega) (G.1 _ _ (rfl : ai_sp 572 = (9, 0)) (by decide) (by decide)) (G.2 _ _ _ (rfl : ai_rf 572 26 = some 592)) ?_
    refine ev_sipush (v := nI 1700) 24 rfl d152_21 (by decide) ?_
    refine ev_iload_n 25 rfl d152_24 rfl ?_
    refine ev_imul (v := nI (1700 * x)) 26 rfl d152_25 (pk_mul _ _) ?_
    refine ev_iload 28 rfl d152_26 rfl ?_
    refine ev_iadd (v := nI ((1700 * x) + k)) 29 rfl d152_28 (nI_add _ _) ?_
    refine ev_iald_n (v := nI (ai_md I x k)) 30 rfl d152_29 (by omega) (G.1 _ _ (rfl : ai_sp 592 = (100, 27200)) (by decide) (by decide)) (by omega) (by decide) (hok k (by omega)).1 ?_
    refine ev_iload 32 rfl d152_30 rfl ?_
    refine ev_aload_n 33 rfl d152_32 rfl ?_
    refine ev_getr 36 rfl 9 27 d152_33 rfl (by omega) (G.1 _ _ (rfl : ai_sp 572 = (9, 0)) (by decide) (by decide)) (G.2 _ _ _ (rfl : ai_rf 572 27 = some 593)) ?_
    refine ev_iload_n 37 rfl d152_36 rfl ?_
    refine ev_iald_n (v := nI t) 38 rfl d152_37 (by omega) (G.1 _ _ (rfl : ai_sp 593 = (100, 16)) (by decide) (by decide)) (by omega) (by decide) g1 ?_
    refine ev_icmp 57 41 (by decide) rfl (cn_ge (by omega) (by omega)) d152_38 (fun hc_38 => ?_) (fun hc_38 => ?_)
    · refine ev_iconst (v := nI 0) 58 rfl d152_57 (by decide) ?_
      refine ev_isub (v := nI (ai_md I x k) - nI 0) 59 rfl d152_58 rfl ?_
      refine ev_iadd (v := -(nI c) + (nI (ai_md I x k) - nI 0)) 60 rfl d152_59 rfl ?_
      obtain ⟨e, hee⟩ : ∃ e, e = 0 := ⟨_, rfl⟩
      have hel : e < 65536 := by rw [hee]; omega
      obtain ⟨x9, r2, hr2, hx2, hx3, hx5, hx4⟩ := sub_digit16 (hok k (by omega)).2 hel hc
      rw [hee] at hx3 hx5
      refine ev_store_in 61 rfl d152_60 (Nat.le_of_ble_eq_true rfl) rfl ?_
      show ai_Ev _ _ _ [some (.ref 572), some (.int (nI x)), some (.int (nI y)), some (.int (-(nI c) + (nI (ai_md I x k) - nI 0))), some (.int (nI k))] _ _ _
      refine ev_aload_n 62 rfl d152_61 rfl ?_
      refine ev_getr 65 rfl 9 26 d152_62 rfl (by omega) (G.1 _ _ (rfl : ai_sp 572 = (9, 0)) (by decide) (by decide)) (G.2 _ _ _ (rfl : ai_rf 572 26 = some 592)) ?_
      refine ev_sipush (v := nI 1700) 68 rfl d152_65 (by decide) ?_
      refine ev_iload_n 69 rfl d152_68 rfl ?_
      refine ev_imul (v := nI (1700 * x)) 70 rfl d152_69 (pk_mul _ _) ?_
      refine ev_iload 72 rfl d152_70 rfl ?_
      refine ev_iadd (v := nI ((1700 * x) + k)) 73 rfl d152_72 (nI_add _ _) ?_
      refine ev_iload_n 74 rfl d152_73 rfl ?_
      refine ev_ldc (v := nI 65535) 76 rfl d152_74 (by decide) ?_
      refine ev_iand (v := nI x9) 77 rfl d152_76 hx3 ?_
      obtain ⟨I_1, hI_1⟩ : ∃ z, z = ai_ui I 592 ((1700 * x) + k) (nI x9) := ⟨_, rfl⟩
      refine ev_iast_n (I2 := I_1) 78 rfl d152_77 (by omega) (G.1 _ _ (rfl : ai_sp 592 = (100, 27200)) (by decide) (by decide)) (by omega) (by decide) hI_1.symm ?_
      refine ev_iload_n 79 rfl d152_78 rfl ?_
      refine ev_bipush (v := nI 16) 81 rfl d152_79 (by decide) ?_
      refine ev_ishr (v := (-(nI r2))) 82 rfl d152_81 hx5 ?_
      refine ev_store_in 83 rfl d152_82 (Nat.le_of_ble_eq_true rfl) rfl ?_
      show ai_Ev _ _ _ [some (.ref 572), some (.int (nI x)), some (.int (nI y)), some (.int (-(nI r2))), some (.int (nI k))] _ _ _
      refine ev_iinc (v := nI (k + 1)) 86 rfl d152_83 rfl (Nat.le_of_ble_eq_true rfl) (nI_add _ 1) rfl ?_
      show ai_Ev _ _ _ [some (.ref 572), some (.int (nI x)), some (.int (nI y)), some (.int (-(nI r2))), some (.int (nI (k + 1)))] _ _ _
      refine ev_goto 5 (by decide) d152_86 ?_
      have hf3 : ai_mf x I I_1 := ai_mf.dig (by omega) hI_1
      refine ih (k + 1) I_1 r2 (by omega) (by rw [ui_row hI_1 (by omega)]; exact h1) (ai_MOK_putIn hI_1 hx2 hok) (by rw [(hf3.2 y hyx).1]; exact g1) (hf3.ok hyx (by omega) gok) (fun j hj1 hj2 => by rw [md_other hI_1 (by omega)]; exact hD j (by omega) hj2) (fun j hj => by rw [hf3.md hyx (by omega)]; exact hE j hj) hr2 ?_ (hfr.trans hf3)
      have ee : e = E k := by rw [hee]; exact (hEz k (by omega)).symm
      rw [mval_put hI_1 hx2, val_succ, val_succ, Nat.pow_succ]
      have e2 : (D k + 65536 * r2) * 65536 ^ k = x9 * 65536 ^ k + E k * 65536 ^ k + c * 65536 ^ k := by rw [← hD k (Nat.le_refl _) (by omega), hx4, ee, Nat.add_mul, Nat.add_mul]
      rw [Nat.add_mul] at e2
      have e3 : r2 * (65536 ^ k * 65536) = 65536 * r2 * 65536 ^ k := by rw [Nat.mul_comm (65536 ^ k), ← Nat.mul_assoc, Nat.mul_comm r2]
      omega
    · refine ev_aload_n 42 rfl d152_41 rfl ?_
      refine ev_getr 45 rfl 9 26 d152_42 rfl (by omega) (G.1 _ _ (rfl : ai_sp 572 = (9, 0)) (by decide) (by decide)) (G.2 _ _ _ (rfl : ai_rf 572 26 = some 592)) ?_
      refine ev_sipush (v := nI 1700) 48 rfl d152_45 (by decide) ?_
      refine ev_iload_n 49 rfl d152_48 rfl ?_
      refine ev_imul (v := nI (1700 * y)) 50 rfl d152_49 (pk_mul _ _) ?_
      refine ev_iload 52 rfl d152_50 rfl ?_
      refine ev_iadd (v := nI ((1700 * y) + k)) 53 rfl d152_52 (nI_add _ _) ?_
      refine ev_iald_n (v := nI (ai_md I y k)) 54 rfl d152_53 (by omega) (G.1 _ _ (rfl : ai_sp 592 = (100, 27200)) (by decide) (by decide)) (by omega) (by decide) (gok k (by omega)).1 ?_
      refine ev_goto 58 (by decide) d152_54 ?_
      refine ev_isub (v := nI (ai_md I x k) - nI (ai_md I y k)) 59 rfl d152_58 rfl ?_
      refine ev_iadd (v := -(nI c) + (nI (ai_md I x k) - nI (ai_md I y k))) 60 rfl d152_59 rfl ?_
      obtain ⟨e, hee⟩ : ∃ e, e = ai_md I y k := ⟨_, rfl⟩
      have hel : e < 65536 := by rw [hee]; exact (gok k (by omega)).2
      obtain ⟨x9, r2, hr2, hx2, hx3, hx5, hx4⟩ := sub_digit16 (hok k (by omega)).2 hel hc
      rw [hee] at hx3 hx5
      refine ev_store_in 61 rfl d152_60 (Nat.le_of_ble_eq_true rfl) rfl ?_
      show ai_Ev _ _ _ [some (.ref 572), some (.int (nI x)), some (.int (nI y)), some (.int (-(nI c) + (nI (ai_md I x k) - nI (ai_md I y k)))), some (.int (nI k))] _ _ _
      refine ev_aload_n 62 rfl d152_61 rfl ?_
      refine ev_getr 65 rfl 9 26 d152_62 rfl (by omega) (G.1 _ _ (rfl : ai_sp 572 = (9, 0)) (by decide) (by decide)) (G.2 _ _ _ (rfl : ai_rf 572 26 = some 592)) ?_
      refine ev_sipush (v := nI 1700) 68 rfl d152_65 (by decide) ?_
      refine ev_iload_n 69 rfl d152_68 rfl ?_
      refine ev_imul (v := nI (1700 * x)) 70 rfl d152_69 (pk_mul _ _) ?_
      refine ev_iload 72 rfl d152_70 rfl ?_
      refine ev_iadd (v := nI ((1700 * x) + k)) 73 rfl d152_72 (nI_add _ _) ?_
      refine ev_iload_n 74 rfl d152_73 rfl ?_
      refine ev_ldc (v := nI 65535) 76 rfl d152_74 (by decide) ?_
      refine ev_iand (v := nI x9) 77 rfl d152_76 hx3 ?_
      obtain ⟨I_1, hI_1⟩ : ∃ z, z = ai_ui I 592 ((1700 * x) + k) (nI x9) := ⟨_, rfl⟩
      refine ev_iast_n (I2 := I_1) 78 rfl d152_77 (by omega) (G.1 _ _ (rfl : ai_sp 592 = (100, 27200)) (by decide) (by decide)) (by omega) (by decide) hI_1.symm ?_
      refine ev_iload_n 79 rfl d152_78 rfl ?_
      refine ev_bipush (v := nI 16) 81 rfl d152_79 (by decide) ?_
      refine ev_ishr (v := (-(nI r2))) 82 rfl d152_81 hx5 ?_
      refine ev_store_in 83 rfl d152_82 (Nat.le_of_ble_eq_true rfl) rfl ?_
      show ai_Ev _ _ _ [some (.ref 572), some (.int (nI x)), some (.int (nI y)), some (.int (-(nI r2))), some (.int (nI k))] _ _ _
      refine ev_iinc (v := nI (k + 1)) 86 rfl d152_83 rfl (Nat.le_of_ble_eq_true rfl) (nI_add _ 1) rfl ?_
      show ai_Ev _ _ _ [some (.ref 572), some (.int (nI x)), some (.int (nI y)), some (.int (-(nI r2))), some (.int (nI (k + 1)))] _ _ _
      refine ev_goto 5 (by decide) d152_86 ?_
      have hf3 : ai_mf x I I_1 := ai_mf.dig (by omega) hI_1
      refine ih (k + 1) I_1 r2 (by omega) (by rw [ui_row hI_1 (by omega)]; exact h1) (ai_MOK_putIn hI_1 hx2 hok) (by rw [(hf3.2 y hyx).1]; exact g1) (hf3.ok hyx (by omega) gok) (fun j hj1 hj2 => by rw [md_other hI_1 (by omega)]; exact hD j (by omega) hj2) (fun j hj => by rw [hf3.md hyx (by omega)]; exact hE j hj) hr2 ?_ (hfr.trans hf3)
      have ee : e = E k := by rw [hee]; exact hE k (by omega)
      rw [mval_put hI_1 hx2, val_succ, val_succ, Nat.pow_succ]
      have e2 : (D k + 65536 * r2) * 65536 ^ k = x9 * 65536 ^ k + E k * 65536 ^ k + c * 65536 ^ k := by rw [← hD k (Nat.le_refl _) (by omega), hx4, ee, Nat.add_mul, Nat.add_mul]
      rw [Nat.add_mul] at e2
      have e3 : r2 * (65536 ^ k * 65536) = 65536 * r2 * 65536 ^ k := by rw [Nat.mul_comm (65536 ^ k), ← Nat.mul_assoc, Nat.mul_comm r2]
      omega
theorem m_minus (G : ai_G S F) {x y v u : Nat} (hx : x < 16) (hy : y < 16) (hyx : y ≠ x) {I : Nat → Nat → Int32} (hA : ai_MG I x v) (hB : ai_MG I y u) (hle : u ≤ v) :
    ai_Ev none 152 0 [some (.ref 572), some (.int (nI x)), some (.int (nI y)), none, none] [] (S, I, L, F) (ai_Pu S F L (fun I2 => ai_MG I2 x (v - u) ∧ ai_mf x I I2)) := by
  obtain ⟨s, h1, h2, h3, h4, h5⟩ := hA
  obtain ⟨t, g1, g2, g3, g4, g5⟩ := hB
  have hts : t ≤ s := val_size (b := 65536) (by omega) g5 (by
    rw [g4]
    have := val_lt (b := 65536) (d := ai_md I x) (n := s) (fun j hj => (h3 j hj).2)
    omega)
  refine ev_iconst (v := nI 0) 1 rfl d152_0 (by decide) ?_
  refine ev_store_in 2 rfl d152_1 (Nat.le_of_ble_eq_true rfl) rfl ?_
  show ai_Ev _ _ _ [some (.ref 572), some (.int (nI x)), some (.int (nI y)), some (.int (nI 0)), none] _ _ _
  refine ev_iconst (v := nI 0) 3 rfl d152_2 (by decide) ?_
  refine ev_store_i 5 rfl d152_3 ⟨rfl, Nat.le_of_ble_eq_true rfl⟩ rfl ?_
  show ai_Ev _ _ _ [some (.ref 572), some (.int (nI x)), some (.int (nI y)), some (.int (nI 0)), some (.int (nI 0))] _ _ _
  rw [show ([some (.ref 572), some (.int (nI x)), some (.int (nI y)), some (.int (nI 0)), some (.int (nI 0))] : ai_L) = [some (.ref 572), some (.int (nI x)), some (.int (nI y)), some (.int (-(nI 0))), some (.int (nI 0))] from rfl]
  obtain ⟨E, hEE⟩ : ∃ E : Nat → Nat, ∀ k, E k = if k < t then ai_md I y k else 0 := ⟨_, fun _ => rfl⟩
  have hE1 : ai_val 65536 E t = u := by rw [← g4]; exact val_congr (fun j hj => by rw [hEE, if_pos hj])
  have hE2 : ai_val 65536 E s = u := by rw [← hE1]; exact val_zeros hts (fun j hj1 hj2 => by rw [hEE, if_neg (by omega)])
  refine m_minus_loop G hx hy hyx h2 g2 (D := ai_md I x) (E := E) (I0 := I) (fun j hj => by rw [hEE, if_neg (by omega)]) ?_ s 0 I 0 (by omega) h1 h3 g1 g3 (fun _ _ _ => rfl) (fun j hj => by rw [hEE, if_pos hj]) (by omega) (by simp [ai_val]) (ai_mf.rf x I)
  intro J c k1 k2 k3 k4 k5
  refine m_trim152 G hx s k1 h2 k2 ?_ k5
  rw [hE2, h4] at k4
  have e1 := val_lt (b := 65536) (d := ai_md J x) (n := s) (fun j hj => (k2 j hj).2)
  rcases Nat.eq_zero_or_pos c with q | q
  · rw [q, Nat.zero_mul] at k4; omega
  · have : c = 1 := by omega
    rw [this, Nat.one_mul] at k4; omega
theorem m_prod_in (G : ai_G S F) {x y w i s t d : Nat} (hx : x < 16) (hy : y < 16) (hw : w < 16) (hxw : x ≠ w) (hyw : y ≠ w) (hs17 : s ≤ 1700) (ht17 : t ≤ 1700) (hT : s + t ≤ 1700) (his : i < s) {D E : Nat → Nat} (hEz : ∀ j, t ≤ j → E j = 0) (hz0 : ∀ j, i + t ≤ j → j < s + t → D j = 0) {I0 : Nat → Nat → Int32} {Q : Option Value → ai_H → Prop}
    (hk : ∀ (I : Nat → Nat → Int32) (k : Nat), t ≤ k → i + k ≤ s + t → ∀ (c : Nat), ai_MOK I w (s + t) → ai_val 65536 (ai_md I w) (i + k) = ai_val 65536 D (i + k) + d * ai_val 65536 E k * 65536 ^ i → (∀ j, i + k ≤ j → j < s + t → ai_md I w j = D j) → ai_mf w I0 I → I 593 = I0 593 → ai_Ev none 154 225 [some (.ref 572), some (.int (nI x)), some (.int (nI y)), some (.int (nI w)), some (.int (nI i)), some (.long (lN c)), none, some (.int (nI k))] [] (S, I, L, F) Q) :
    ∀ (z k : Nat) (I : Nat → Nat → Int32) (c : Nat), k + z = t + 1 → ai_MOK I w (s + t) → I 593 y = nI t → ai_MOK I y t → ai_MOK I x s → ai_md I x i = d → (∀ j, j < t → ai_md I y j = E j) → (∀ j, i + k ≤ j → j < s + t → ai_md I w j = D j) → c < 65536 → (t < k → c = 0) → ai_val 65536 (ai_md I w) (i + k) + c * 65536 ^ (i + k) = ai_val 65536 D (i + k) + d * ai_val 65536 E k * 65536 ^ i → ai_mf w I0 I → I 593 = I0 593 →
    ai_Ev none 154 104 [some (.ref 572), some (.int (nI x)), some (.int (nI y)), some (.int (nI w)), some (.int (nI i)), some (.long (lN c)), none, some (.int (nI k))] [] (S, I, L, F) Q := by
  intro z
  induction z using Nat.strongRecOn with
  | _ z ih =>
    intro k I c hkz hok g1 gok xok hd hE hD hc hck hv hfr h593
    have body : (k < t ∨ 0 < c) → ai_Ev none 154 122 [some (.ref 572), some (.int (nI x)), some (.int (nI y)), some (.int (nI w)), some (.int (nI i)), some (.long (lN c)), none, some (.int (nI k))] [] (S, I, L, F) Q := by
      intro hgo
      have hk17 : i + k < s + t := by omega
      have hxd := (xok i (by omega)).2
      have hw0 := (hok (i + k) (by omega)).2
      refine ev_lload 124 rfl d154_122 rfl ?_
      refine ev_aload_n 125 rfl d154_124 rfl ?_
      refine ev_getr 128 rfl 9 26 d154_125 rfl (by omega) (G.1 _ _ (rfl : ai_sp 572 = (9, 0)) (by decide) (by decide)) (G.2 _ _ _ (rfl : ai_rf 572 26 = some 592)) ?_
      refine ev_sipush (v := nI 1700) 131 rfl d154_128 (by decide) ?_
      refine ev_iload_n 132 rfl d154_131 rfl ?_
      refine ev_imul (v := nI (1700 * w)) 133 rfl d154_132 (pk_mul _ _) ?_
      refine ev_iload 135 rfl d154_133 rfl ?_
      refine ev_iadd (v := nI ((1700 * w) + i)) 136 rfl d154_135 (nI_add _ _) ?_
      refine ev_iload 138 rfl d154_136 rfl ?_
      refine ev_iadd (v := nI (1700 * w + (i + k))) 139 rfl d154_138 ((nI_add _ _).trans (congrArg nI (Nat.add_assoc _ _ _))) ?_
      refine ev_iald_n (v := nI (ai_md I w (i + k))) 140 rfl d154_139 (by omega) (G.1 _ _ (rfl : ai_sp 592 = (100, 27200)) (by decide) (by decide)) (by omega) (by decide) (hok (i + k) (by omega)).1 ?_
      refine ev_i2l (v := lN (ai_md I w (i + k))) 141 rfl d154_140 (nI_l (by omega)) ?_
      refine ev_iload 143 rfl d154_141 rfl ?_
      refine ev_aload_n 144 rfl d154_143 rfl ?_
      refine ev_getr 147 rfl 9 27 d154_144 rfl (by omega) (G.1 _ _ (rfl : ai_sp 572 = (9, 0)) (by decide) (by decide)) (G.2 _ _ _ (rfl : ai_rf 572 27 = some 593)) ?_
      refine ev_iload_n 148 rfl d154_147 rfl ?_
      refine ev_iald_n (v := nI t) 149 rfl d154_148 (by omega) (G.1 _ _ (rfl : ai_sp 593 = (100, 16)) (by decide) (by decide)) (by omega) (by decide) g1 ?_
      refine ev_icmp 184 152 (by decide) rfl (cn_ge (by omega) (by omega)) d154_149 (fun hc_149 => ?_) (fun hc_149 => ?_)
      · have hcpos : 0 < c := by omega
        refine ev_lconst (v := lN 0) 185 rfl d154_184 (by decide) ?_
        refine ev_ladd (v := lN ((ai_md I w (i + k)) + 0)) 186 rfl d154_185 (lN_add _ _) ?_
        refine ev_ladd (v := lN (c + ((ai_md I w (i + k)) + 0))) 187 rfl d154_186 (lN_add _ _) ?_
        refine ev_store_l 189 rfl d154_187 ⟨rfl, Nat.le_of_ble_eq_true rfl⟩ rfl ?_
        show ai_Ev _ _ _ [some (.ref 572), some (.int (nI x)), some (.int (nI y)), some (.int (nI w)), some (.int (nI i)), some (.long (lN (c + ((ai_md I w (i + k)) + 0)))), none, some (.int (nI k))] _ _ _
        refine ev_aload_n 190 rfl d154_189 rfl ?_
        refine ev_getr 193 rfl 9 26 d154_190 rfl (by omega) (G.1 _ _ (rfl : ai_sp 572 = (9, 0)) (by decide) (by decide)) (G.2 _ _ _ (rfl : ai_rf 572 26 = some 592)) ?_
        refine ev_sipush (v := nI 1700) 196 rfl d154_193 (by decide) ?_
        refine ev_iload_n 197 rfl d154_196 rfl ?_
        refine ev_imul (v := nI (1700 * w)) 198 rfl d154_197 (pk_mul _ _) ?_
        refine ev_iload 200 rfl d154_198 rfl ?_
        refine ev_iadd (v := nI ((1700 * w) + i)) 201 rfl d154_200 (nI_add _ _) ?_
        refine ev_iload 203 rfl d154_201 rfl ?_
        refine ev_iadd (v := nI (1700 * w + (i + k))) 204 rfl d154_203 ((nI_add _ _).trans (congrArg nI (Nat.add_assoc _ _ _))) ?_
        refine ev_lload 206 rfl d154_204 rfl ?_
        refine ev_ldc2 (v := lN 65535) 209 rfl d154_206 (by decide) ?_
        refine ev_land (v := lN ((c + ((ai_md I w (i + k)) + 0)) % 65536)) 210 rfl d154_209 (lN_mask16 (by omega)) ?_
        refine ev_l2i (v := nI ((c + ((ai_md I w (i + k)) + 0)) % 65536)) 211 rfl d154_210 (lN_i _) ?_
        obtain ⟨I_1, hI_1⟩ : ∃ z, z = ai_ui I 592 (1700 * w + (i + k)) (nI ((c + ((ai_md I w (i + k)) + 0)) % 65536)) := ⟨_, rfl⟩
        refine ev_iast_n (I2 := I_1) 212 rfl d154_211 (by omega) (G.1 _ _ (rfl : ai_sp 592 = (100, 27200)) (by decide) (by decide)) (by omega) (by decide) hI_1.symm ?_
        refine ev_lload 214 rfl d154_212 rfl ?_
        refine ev_bipush (v := nI 16) 216 rfl d154_214 (by decide) ?_
        refine ev_lshr (v := lN ((c + ((ai_md I w (i + k)) + 0)) / 65536)) 217 rfl d154_216 (lN_sar16 (by omega)) ?_
        refine ev_store_l 219 rfl d154_217 ⟨rfl, Nat.le_of_ble_eq_true rfl⟩ rfl ?_
        show ai_Ev _ _ _ [some (.ref 572), some (.int (nI x)), some (.int (nI y)), some (.int (nI w)), some (.int (nI i)), some (.long (lN ((c + ((ai_md I w (i + k)) + 0)) / 65536))), none, some (.int (nI k))] _ _ _
        refine ev_iinc (v := nI (k + 1)) 222 rfl d154_219 rfl (Nat.le_of_ble_eq_true rfl) (nI_add _ 1) rfl ?_
        show ai_Ev _ _ _ [some (.ref 572), some (.int (nI x)), some (.int (nI y)), some (.int (nI w)), some (.int (nI i)), some (.long (lN ((c + ((ai_md I w (i + k)) + 0)) / 65536))), none, some (.int (nI (k + 1)))] _ _ _
        refine ev_goto 104 (by decide) d154_222 ?_
        obtain ⟨q, hqe⟩ : ∃ q, q = c + ((ai_md I w (i + k)) + 0) := ⟨_, rfl⟩
        rw [← hqe] at hI_1 ⊢
        have hw1 := (hok (i + k) (by omega)).2
        have hq4 : q < 4294967296 := by rw [hqe]; omega
        have hr9 : q % 65536 < 65536 := Nat.mod_lt _ (by omega)
        have hf3 : ai_mf w I I_1 := ai_mf.dig (by omega) hI_1
        refine ih (z - 1) (by omega) (k + 1) I_1 _ (by omega) (ai_MOK_putIn hI_1 hr9 hok) (by rw [(hf3.2 y hyw).1]; exact g1) (hf3.ok hyw (by omega) gok) (hf3.ok hxw (by omega) xok) (by rw [hf3.md hxw (by omega)]; exact hd) (fun j hj => by rw [hf3.md hyw (by omega)]; exact hE j hj) (fun j hj1 hj2 => by rw [md_other hI_1 (by omega)]; exact hD j (by omega) hj2) (by omega) (fun ht => by rw [hqe, hD (i + k) (Nat.le_refl _) (by omega), hz0 (i + k) (by omega) (by omega)]; have := hcpos; omega) ?_ (hfr.trans hf3) (by rw [ui_row hI_1 (by omega)]; exact h593)
        have e1 : q = c + (D (i + k) + d * E k) := by rw [hqe, hD (i + k) (Nat.le_refl _) (by omega), hEz k (by omega), Nat.mul_zero]
        rw [← Nat.add_assoc, mval_put hI_1 hr9, val_succ, val_succ, Nat.pow_succ, val_carry]
        have e2 : q * 65536 ^ (i + k) = c * 65536 ^ (i + k) + D (i + k) * 65536 ^ (i + k) + d * E k * 65536 ^ (i + k) := by rw [e1, Nat.add_mul, Nat.add_mul, Nat.add_assoc]
        have e3 : d * (ai_val 65536 E k + E k * 65536 ^ k) * 65536 ^ i = d * ai_val 65536 E k * 65536 ^ i + d * E k * 65536 ^ (i + k) := by
          rw [Nat.mul_add, Nat.add_mul, Nat.pow_add, Nat.mul_comm (65536 ^ i), ← Nat.mul_assoc d, ← Nat.mul_assoc (d * E k)]
        rw [e3]
        omega
      · have hyd := (gok k (by omega)).2
        have hpr : ai_md I x i * ai_md I y k ≤ 65535 * 65535 := Nat.mul_le_mul (by omega) (by omega)
        refine ev_aload_n 153 rfl d154_152 rfl ?_
        refine ev_getr 156 rfl 9 26 d154_153 rfl (by omega) (G.1 _ _ (rfl : ai_sp 572 = (9, 0)) (by decide) (by decide)) (G.2 _ _ _ (rfl : ai_rf 572 26 = some 592)) ?_
        refine ev_sipush (v := nI 1700) 159 rfl d154_156 (by decide) ?_
        refine ev_iload_n 160 rfl d154_159 rfl ?_
        refine ev_imul (v := nI (1700 * x)) 161 rfl d154_160 (pk_mul _ _) ?_
        refine ev_iload 163 rfl d154_161 rfl ?_
        refine ev_iadd (v := nI ((1700 * x) + i)) 164 rfl d154_163 (nI_add _ _) ?_
        refine ev_iald_n (v := nI (ai_md I x i)) 165 rfl d154_164 (by omega) (G.1 _ _ (rfl : ai_sp 592 = (100, 27200)) (by decide) (by decide)) (by omega) (by decide) (xok i (by omega)).1 ?_
        refine ev_i2l (v := lN (ai_md I x i)) 166 rfl d154_165 (nI_l (by omega)) ?_
        refine ev_aload_n 167 rfl d154_166 rfl ?_
        refine ev_getr 170 rfl 9 26 d154_167 rfl (by omega) (G.1 _ _ (rfl : ai_sp 572 = (9, 0)) (by decide) (by decide)) (G.2 _ _ _ (rfl : ai_rf 572 26 = some 592)) ?_
        refine ev_sipush (v := nI 1700) 173 rfl d154_170 (by decide) ?_
        refine ev_iload_n 174 rfl d154_173 rfl ?_
        refine ev_imul (v := nI (1700 * y)) 175 rfl d154_174 (pk_mul _ _) ?_
        refine ev_iload 177 rfl d154_175 rfl ?_
        refine ev_iadd (v := nI ((1700 * y) + k)) 178 rfl d154_177 (nI_add _ _) ?_
        refine ev_iald_n (v := nI (ai_md I y k)) 179 rfl d154_178 (by omega) (G.1 _ _ (rfl : ai_sp 592 = (100, 27200)) (by decide) (by decide)) (by omega) (by decide) (gok k (by omega)).1 ?_
        refine ev_i2l (v := lN (ai_md I y k)) 180 rfl d154_179 (nI_l (by omega)) ?_
        refine ev_lmul (v := lN ((ai_md I x i) * (ai_md I y k))) 181 rfl d154_180 (lN_mul _ _) ?_
        refine ev_goto 185 (by decide) d154_181 ?_
        refine ev_ladd (v := lN ((ai_md I w (i + k)) + ((ai_md I x i) * (ai_md I y k)))) 186 rfl d154_185 (lN_add _ _) ?_
        refine ev_ladd (v := lN (c + ((ai_md I w (i + k)) + ((ai_md I x i) * (ai_md I y k))))) 187 rfl d154_186 (lN_add _ _) ?_
        refine ev_store_l 189 rfl d154_187 ⟨rfl, Nat.le_of_ble_eq_true rfl⟩ rfl ?_
        show ai_Ev _ _ _ [some (.ref 572), some (.int (nI x)), some (.int (nI y)), some (.int (nI w)), some (.int (nI i)), some (.long (lN (c + ((ai_md I w (i + k)) + ((ai_md I x i) * (ai_md I y k)))))), none, some (.int (nI k))] _ _ _
        refine ev_aload_n 190 rfl d154_189 rfl ?_
        refine ev_getr 193 rfl 9 26 d154_190 rfl (by omega) (G.1 _ _ (rfl : ai_sp 572 = (9, 0)) (by decide) (by decide)) (G.2 _ _ _ (rfl : ai_rf 572 26 = some 592)) ?_
        refine ev_sipush (v := nI 1700) 196 rfl d154_193 (by decide) ?_
        refine ev_iload_n 197 rfl d154_196 rfl ?_
        refine ev_imul (v := nI (1700 * w)) 198 rfl d154_197 (pk_mul _ _) ?_
        refine ev_iload 200 rfl d154_198 rfl ?_
        refine ev_iadd (v := nI ((1700 * w) + i)) 201 rfl d154_200 (nI_add _ _) ?_
        refine ev_iload 203 rfl d154_201 rfl ?_
        refine ev_iadd (v := nI (1700 * w + (i + k))) 204 rfl d154_203 ((nI_add _ _).trans (congrArg nI (Nat.add_assoc _ _ _))) ?_
        refine ev_lload 206 rfl d154_204 rfl ?_
        refine ev_ldc2 (v := lN 65535) 209 rfl d154_206 (by decide) ?_
        refine ev_land (v := lN ((c + ((ai_md I w (i + k)) + ((ai_md I x i) * (ai_md I y k)))) % 65536)) 210 rfl d154_209 (lN_mask16 (by omega)) ?_
        refine ev_l2i (v := nI ((c + ((ai_md I w (i + k)) + ((ai_md I x i) * (ai_md I y k)))) % 65536)) 211 rfl d154_210 (lN_i _) ?_
        obtain ⟨I_1, hI_1⟩ : ∃ z, z = ai_ui I 592 (1700 * w + (i + k)) (nI ((c + ((ai_md I w (i + k)) + ((ai_md I x i) * (ai_md I y k)))) % 65536)) := ⟨_, rfl⟩
        refine ev_iast_n (I2 := I_1) 212 rfl d154_211 (by omega) (G.1 _ _ (rfl : ai_sp 592 = (100, 27200)) (by decide) (by decide)) (by omega) (by decide) hI_1.symm ?_
        refine ev_lload 214 rfl d154_212 rfl ?_
        refine ev_bipush (v := nI 16) 216 rfl d154_214 (by decide) ?_
        refine ev_lshr (v := lN ((c + ((ai_md I w (i + k)) + ((ai_md I x i) * (ai_md I y k)))) / 65536)) 217 rfl d154_216 (lN_sar16 (by omega)) ?_
        refine ev_store_l 219 rfl d154_217 ⟨rfl, Nat.le_of_ble_eq_true rfl⟩ rfl ?_
        show ai_Ev _ _ _ [some (.ref 572), some (.int (nI x)), some (.int (nI y)), some (.int (nI w)), some (.int (nI i)), some (.long (lN ((c + ((ai_md I w (i + k)) + ((ai_md I x i) * (ai_md I y k)))) / 65536))), none, some (.int (nI k))] _ _ _
        refine ev_iinc (v := nI (k + 1)) 222 rfl d154_219 rfl (Nat.le_of_ble_eq_true rfl) (nI_add _ 1) rfl ?_
        show ai_Ev _ _ _ [some (.ref 572), some (.int (nI x)), some (.int (nI y)), some (.int (nI w)), some (.int (nI i)), some (.long (lN ((c + ((ai_md I w (i + k)) + ((ai_md I x i) * (ai_md I y k)))) / 65536))), none, some (.int (nI (k + 1)))] _ _ _
        refine ev_goto 104 (by decide) d154_222 ?_
        obtain ⟨q, hqe⟩ : ∃ q, q = c + ((ai_md I w (i + k)) + ((ai_md I x i) * (ai_md I y k))) := ⟨_, rfl⟩
        rw [← hqe] at hI_1 ⊢
        have hw1 := (hok (i + k) (by omega)).2
        have hq4 : q < 4294967296 := by rw [hqe]; omega
        have hr9 : q % 65536 < 65536 := Nat.mod_lt _ (by omega)
        have hf3 : ai_mf w I I_1 := ai_mf.dig (by omega) hI_1
        refine ih (z - 1) (by omega) (k + 1) I_1 _ (by omega) (ai_MOK_putIn hI_1 hr9 hok) (by rw [(hf3.2 y hyw).1]; exact g1) (hf3.ok hyw (by omega) gok) (hf3.ok hxw (by omega) xok) (by rw [hf3.md hxw (by omega)]; exact hd) (fun j hj => by rw [hf3.md hyw (by omega)]; exact hE j hj) (fun j hj1 hj2 => by rw [md_other hI_1 (by omega)]; exact hD j (by omega) hj2) (by omega) (fun ht => absurd ht (by omega)) ?_ (hfr.trans hf3) (by rw [ui_row hI_1 (by omega)]; exact h593)
        have e1 : q = c + (D (i + k) + d * E k) := by rw [hqe, hD (i + k) (Nat.le_refl _) (by omega), hd, hE k (by omega)]
        rw [← Nat.add_assoc, mval_put hI_1 hr9, val_succ, val_succ, Nat.pow_succ, val_carry]
        have e2 : q * 65536 ^ (i + k) = c * 65536 ^ (i + k) + D (i + k) * 65536 ^ (i + k) + d * E k * 65536 ^ (i + k) := by rw [e1, Nat.add_mul, Nat.add_mul, Nat.add_assoc]
        have e3 : d * (ai_val 65536 E k + E k * 65536 ^ k) * 65536 ^ i = d * ai_val 65536 E k * 65536 ^ i + d * E k * 65536 ^ (i + k) := by
          rw [Nat.mul_add, Nat.add_mul, Nat.pow_add, Nat.mul_comm (65536 ^ i), ← Nat.mul_assoc d, ← Nat.mul_assoc (d * E k)]
        rw [e3]
        omega
    refine ev_iload 106 rfl d154_104 rfl ?_
    refine ev_aload_n 107 rfl d154_106 rfl ?_
    refine ev_getr 110 rfl 9 27 d154_107 rfl (by omega) (G.1 _ _ (rfl : ai_sp 572 = (9, 0)) (by decide) (by decide)) (G.2 _ _ _ (rfl : ai_rf 572 27 = some 593)) ?_
    refine ev_iload_n 111 rfl d154_110 rfl ?_
    refine ev_iald_n (v := nI t) 112 rfl d154_111 (by omega) (G.1 _ _ (rfl : ai_sp 593 = (100, 16)) (by decide) (by decide)) (by omega) (by decide) g1 ?_
    refine ev_icmp 122 115 (by decide) rfl (cn_lt (by omega) (by omega)) d154_112 (fun hc_112 => ?_) (fun hc_112 => ?_)
    · exact body (by omega)
    · refine ev_lload 117 rfl d154_115 rfl ?_
      refine ev_lconst (v := lN 0) 118 rfl d154_117 (by decide) ?_
      refine ev_lcmp 119 rfl d154_118 rfl ?_
      refine ev_if 225 122 (by decide) rfl (lg_le0 (by omega)) d154_119 (fun hc_119 => ?_) (fun hc_119 => ?_)
      · have hc0 : c = 0 := by omega
        rw [hc0, Nat.zero_mul, Nat.add_zero] at hv
        exact hk I k (by omega) (by omega) _ hok hv hD hfr h593
      · exact body (by omega)
theorem m_prod_zero (G : ai_G S F) {x y w T : Nat} (hw : w < 16) (hT : T ≤ 1700) {I0 : Nat → Nat → Int32} {Q : Option Value → ai_H → Prop}
    (hk : ∀ (I : Nat → Nat → Int32), I 593 w = nI T → (∀ j, j < T → I 592 (1700 * w + j) = nI 0) → ai_mf w I0 I → ai_Ev none 154 75 [some (.ref 572), some (.int (nI x)), some (.int (nI y)), some (.int (nI w)), some (.int (nI T)), none, none, none] [] (S, I, L, F) Q) :
    ∀ (z k : Nat) (I : Nat → Nat → Int32), k + z = T → I 593 w = nI T → (∀ j, j < k → I 592 (1700 * w + j) = nI 0) → ai_mf w I0 I → ai_Ev none 154 44 [some (.ref 572), some (.int (nI x)), some (.int (nI y)), some (.int (nI w)), some (.int (nI k)), none, none, none] [] (S, I, L, F) Q := by
  intro z
  induction z with
  | zero =>
    intro k I hkz h1 hz hfr
    obtain rfl : k = T := by omega
    refine ev_iload 46 rfl d154_44 rfl ?_
    refine ev_aload_n 47 rfl d154_46 rfl ?_
    refine ev_getr 50 rfl 9 27 d154_47 rfl (by omega) (G.1 _ _ (rfl : ai_sp 572 = (9, 0)) (by decide) (by decide)) (G.2 _ _ _ (rfl : ai_rf 572 27 = some 593)) ?_
    refine ev_iload_n 51 rfl d154_50 rfl ?_
    refine ev_iald_n (v := nI k) 52 rfl d154_51 (by omega) (G.1 _ _ (rfl : ai_sp 593 = (100, 16)) (by decide) (by decide)) (by omega) (by decide) h1 ?_
    refine ev_icmp 75 55 (by decide) rfl (cn_ge (by omega) (by omega)) d154_52 (fun hc_52 => ?_) (fun hc_52 => absurd hc_52 (by omega))
    exact hk I h1 hz hfr
  | succ z ih =>
    intro k I hkz h1 hz hfr
    refine ev_iload 46 rfl d154_44 rfl ?_
    refine ev_aload_n 47 rfl d154_46 rfl ?_
    refine ev_getr 50 rfl 9 27 d154_47 rfl (by omega) (G.1 _ _ (rfl : ai_sp 572 = (9, 0)) (by decide) (by decide)) (G.2 _ _ _ (rfl : ai_rf 572 27 = some 593)) ?_
    refine ev_iload_n 51 rfl d154_50 rfl ?_
    refine ev_iald_n (v := nI T) 52 rfl d154_51 (by omega) (G.1 _ _ (rfl : ai_sp 593 = (100, 16)) (by decide) (by decide)) (by omega) (by decide) h1 ?_
    refine ev_icmp 75 55 (by decide) rfl (cn_ge (by omega) (by omega)) d154_52 (fun hc_52 => absurd hc_52 (by omega)) (fun hc_52 => ?_)
    refine ev_aload_n 56 rfl d154_55 rfl ?_
    refine ev_getr 59 rfl 9 26 d154_56 rfl (by omega) (G.1 _ _ (rfl : ai_sp 572 = (9, 0)) (by decide) (by decide)) (G.2 _ _ _ (rfl : ai_rf 572 26 = some 592)) ?_
    refine ev_sipush (v := nI 1700) 62 rfl d154_59 (by decide) ?_
    refine ev_iload_n 63 rfl d154_62 rfl ?_
    refine ev_imul (v := nI (1700 * w)) 64 rfl d154_63 (pk_mul _ _) ?_
    refine ev_iload 66 rfl d154_64 rfl ?_
    refine ev_iadd (v := nI ((1700 * w) + k)) 67 rfl d154_66 (nI_add _ _) ?_
    refine ev_iconst (v := nI 0) 68 rfl d154_67 (by decide) ?_
    obtain ⟨I_1, hI_1⟩ : ∃ z, z = ai_ui I 592 ((1700 * w) + k) (nI 0) := ⟨_, rfl⟩
    refine ev_iast_n (I2 := I_1) 69 rfl d154_68 (by omega) (G.1 _ _ (rfl : ai_sp 592 = (100, 27200)) (by decide) (by decide)) (by omega) (by decide) hI_1.symm ?_
    refine ev_iinc (v := nI (k + 1)) 72 rfl d154_69 rfl (Nat.le_of_ble_eq_true rfl) (nI_add _ 1) rfl ?_
    show ai_Ev _ _ _ [some (.ref 572), some (.int (nI x)), some (.int (nI y)), some (.int (nI w)), some (.int (nI (k + 1))), none, none, none] _ _ _
    refine ev_goto 44 (by decide) d154_72 ?_
    refine ih (k + 1) I_1 (by omega) (by rw [ui_row hI_1 (by omega)]; exact h1) (fun j hj => ?_) (hfr.trans (ai_mf.dig (by omega) hI_1))
    by_cases e : j = k
    · subst e; exact ui_same hI_1
    · rw [ui_other hI_1 (Or.inr (by omega))]; exact hz j (by omega)
theorem m_prod_out (G : ai_G S F) {x y w s t : Nat} (hx : x < 16) (hy : y < 16) (hw : w < 16) (hxw : x ≠ w) (hyw : y ≠ w) (hs17 : s ≤ 1700) (ht17 : t ≤ 1700) (hT : s + t ≤ 1700) {X9 E : Nat → Nat} (hEz : ∀ j, t ≤ j → E j = 0) {I0 : Nat → Nat → Int32} :
    ∀ (z i : Nat) (I : Nat → Nat → Int32) (u5 u6 u7 : Option Value), i + z = s → I 593 x = nI s → I 593 w = nI (s + t) → I 593 y = nI t → ai_MOK I w (s + t) → ai_MOK I y t → ai_MOK I x s → (∀ j, j < t → ai_md I y j = E j) → (∀ j, j < s → ai_md I x j = X9 j) → (∀ j, i + t ≤ j → j < s + t → ai_md I w j = 0) → ai_val 65536 (ai_md I w) (s + t) = ai_val 65536 X9 i * ai_val 65536 E t → ai_mf w I0 I →
    ai_Ev none 154 78 [some (.ref 572), some (.int (nI x)), some (.int (nI y)), some (.int (nI w)), some (.int (nI i)), u5, u6, u7] [] (S, I, L, F) (ai_Pu S F L (fun I2 => ai_MG I2 w (ai_val 65536 X9 s * ai_val 65536 E t) ∧ ai_mf w I0 I2)) := by
  have hEu : ∀ k, t ≤ k → ai_val 65536 E k = ai_val 65536 E t := fun k hk => val_zeros hk (fun j hj1 hj2 => hEz j hj1)
  intro z
  induction z with
  | zero =>
    intro i I u5 u6 u7 hiz h1 h2 g1 hok gok xok hE hX hz0 hv hfr
    obtain rfl : i = s := by omega
    refine ev_iload 80 rfl d154_78 rfl ?_
    refine ev_aload_n 81 rfl d154_80 rfl ?_
    refine ev_getr 84 rfl 9 27 d154_81 rfl (by omega) (G.1 _ _ (rfl : ai_sp 572 = (9, 0)) (by decide) (by decide)) (G.2 _ _ _ (rfl : ai_rf 572 27 = some 593)) ?_
    refine ev_iload_n 85 rfl d154_84 rfl ?_
    refine ev_iald_n (v := nI i) 86 rfl d154_85 (by omega) (G.1 _ _ (rfl : ai_sp 593 = (100, 16)) (by decide) (by decide)) (by omega) (by decide) h1 ?_
    refine ev_icmp 231 89 (by decide) rfl (cn_ge (by omega) (by omega)) d154_86 (fun hc_86 => ?_) (fun hc_86 => absurd hc_86 (by omega))
    exact m_trim154 G hw _ h2 hT hok hv hfr
  | succ z ih =>
    intro i I u5 u6 u7 hiz h1 h2 g1 hok gok xok hE hX hz0 hv hfr
    refine ev_iload 80 rfl d154_78 rfl ?_
    refine ev_aload_n 81 rfl d154_80 rfl ?_
    refine ev_getr 84 rfl 9 27 d154_81 rfl (by omega) (G.1 _ _ (rfl : ai_sp 572 = (9, 0)) (by decide) (by decide)) (G.2 _ _ _ (rfl : ai_rf 572 27 = some 593)) ?_
    refine ev_iload_n 85 rfl d154_84 rfl ?_
    refine ev_iald_n (v := nI s) 86 rfl d154_85 (by omega) (G.1 _ _ (rfl : ai_sp 593 = (100, 16)) (by decide) (by decide)) (by omega) (by decide) h1 ?_
    refine ev_icmp 231 89 (by decide) rfl (cn_ge (by omega) (by omega)) d154_86 (fun hc_86 => absurd hc_86 (by omega)) (fun hc_86 => ?_)
    refine ev_aload_n 90 rfl d154_89 rfl ?_
    refine ev_getr 93 rfl 9 27 d154_90 rfl (by omega) (G.1 _ _ (rfl : ai_sp 572 = (9, 0)) (by decide) (by decide)) (G.2 _ _ _ (rfl : ai_rf 572 27 = some 593)) ?_
    refine ev_iload_n 94 rfl d154_93 rfl ?_
    refine ev_iald_n (v := nI (s + t)) 95 rfl d154_94 (by omega) (G.1 _ _ (rfl : ai_sp 593 = (100, 16)) (by decide) (by decide)) (by omega) (by decide) h2 ?_
    refine ev_if 231 98 (by decide) rfl (c0_le (by omega)) d154_95 (fun hc_95 => absurd hc_95 (by omega)) (fun hc_95 => ?_)
    refine ev_lconst (v := lN 0) 99 rfl d154_98 (by decide) ?_
    refine ev_store_l 101 rfl d154_99 ⟨rfl, Nat.le_of_ble_eq_true rfl⟩ rfl ?_
    show ai_Ev _ _ _ [some (.ref 572), some (.int (nI x)), some (.int (nI y)), some (.int (nI w)), some (.int (nI i)), some (.long (lN 0)), none, u7] _ _ _
    refine ev_iconst (v := nI 0) 102 rfl d154_101 (by decide) ?_
    refine ev_store_i 104 rfl d154_102 ⟨rfl, Nat.le_of_ble_eq_true rfl⟩ rfl ?_
    show ai_Ev _ _ _ [some (.ref 572), some (.int (nI x)), some (.int (nI y)), some (.int (nI w)), some (.int (nI i)), some (.long (lN 0)), none, some (.int (nI 0))] _ _ _
    refine m_prod_in G hx hy hw hxw hyw hs17 ht17 hT (i := i) (d := ai_md I x i) (D := ai_md I w) (E := E) (I0 := I) (by omega) hEz hz0 ?_ (t + 1) 0 I 0 (by omega) hok g1 gok xok rfl hE (fun _ _ _ => rfl) (by omega) (fun h => absurd h (by omega)) (by simp [ai_val]) (ai_mf.rf w I) rfl
    intro J k hkt hkT c k1 k2 k3 k4 k5
    refine ev_iinc (v := nI (i + 1)) 228 rfl d154_225 rfl (Nat.le_of_ble_eq_true rfl) (nI_add _ 1) rfl ?_
    show ai_Ev _ _ _ [some (.ref 572), some (.int (nI x)), some (.int (nI y)), some (.int (nI w)), some (.int (nI (i + 1))), some (.long (lN c)), none, some (.int (nI k))] _ _ _
    refine ev_goto 78 (by decide) d154_228 ?_
    refine ih (i + 1) J _ _ _ (by omega) (by rw [(k4.2 x hxw).1]; exact h1) (by rw [k5]; exact h2) (by rw [(k4.2 y hyw).1]; exact g1) k1 (k4.ok hyw (by omega) gok) (k4.ok hxw (by omega) xok) (fun j hj => by rw [k4.md hyw (by omega)]; exact hE j hj) (fun j hj => by rw [k4.md hxw (by omega)]; exact hX j hj) (fun j hj1 hj2 => ?_) ?_ (hfr.trans k4)
    · rcases Nat.lt_or_ge j (i + k) with q | q
      · have hzk : ai_val 65536 (ai_md J w) (i + k) < 65536 ^ (i + t + 1) := by
          rw [k2, hEu k hkt]
          have b1 : ai_val 65536 (ai_md I w) (i + k) = ai_val 65536 (ai_md I w) (i + t) := val_zeros (by omega) (fun j hj1 hj2 => hz0 j hj1 (by omega))
          have b2 := val_lt (b := 65536) (d := ai_md I w) (n := i + t) (fun j hj => (hok j (by omega)).2)
          have b3 := val_lt (b := 65536) (d := E) (n := t) (fun j hj => by rw [← hE j hj]; exact (gok j hj).2)
          have b4 : ai_md I x i * ai_val 65536 E t * 65536 ^ i ≤ 65535 * (65536 ^ t - 1) * 65536 ^ i := Nat.mul_le_mul_right _ (Nat.mul_le_mul (by have := (xok i (by omega)).2; omega) (by omega))
          have b5 : 65535 * (65536 ^ t - 1) * 65536 ^ i + 65535 * 65536 ^ i = 65535 * 65536 ^ t * 65536 ^ i := by
            rw [← Nat.add_mul]
            have : 0 < 65536 ^ t := Nat.pow_pos (by omega)
            congr 1
            omega
          have b6 : 65536 ^ (i + t) = 65536 ^ t * 65536 ^ i := by rw [Nat.pow_add, Nat.mul_comm]
          have b7 : 65535 * 65536 ^ t * 65536 ^ i = 65535 * 65536 ^ (i + t) := by rw [b6, Nat.mul_assoc]
          rw [Nat.pow_succ]
          rw [b1]
          omega
        rcases Nat.eq_zero_or_pos (ai_md J w j) with z9 | z9
        · exact z9
        · exfalso
          have c1 := val_ge (b := 65536) (d := ai_md J w) j
          have c2 : ai_val 65536 (ai_md J w) (j + 1) ≤ ai_val 65536 (ai_md J w) (i + k) := val_mono (by omega)
          have c3 : 1 * 65536 ^ j ≤ ai_md J w j * 65536 ^ j := Nat.mul_le_mul_right _ z9
          have c4 : 65536 ^ (i + t + 1) ≤ 65536 ^ j := Nat.pow_le_pow_right (by omega) (by omega)
          omega
      · rw [k3 j q hj2]; exact hz0 j (by omega) hj2
    · have e1 : ∀ n, i + k ≤ n → n ≤ s + t → ai_val 65536 (ai_md J w) n = ai_val 65536 (ai_md I w) n + ai_md I x i * ai_val 65536 E t * 65536 ^ i := by
        intro n
        induction n with
        | zero =>
          intro hn1 hn2
          have e9 : i + k = 0 := by omega
          rw [← e9, k2, hEu k hkt]
        | succ n ihn =>
          intro hn1 hn2
          rcases Nat.lt_or_ge (i + k) (n + 1) with q | q
          · rw [val_succ, val_succ, ihn (by omega) (by omega), k3 n (by omega) (by omega)]; omega
          · have e9 : n + 1 = i + k := by omega
            rw [e9, k2, hEu k hkt]
      rw [e1 _ hkT (Nat.le_refl _), hv, val_succ, Nat.add_mul, hX i (by omega)]
      have e2 : X9 i * ai_val 65536 E t * 65536 ^ i = X9 i * 65536 ^ i * ai_val 65536 E t := by rw [Nat.mul_assoc, Nat.mul_assoc, Nat.mul_comm (ai_val 65536 E t)]
      rw [e2]
theorem m_prod (G : ai_G S F) {x y w v u p q : Nat} (hx : x < 16) (hy : y < 16) (hw : w < 16) (hxw : x ≠ w) (hyw : y ≠ w) {I : Nat → Nat → Int32} (hA : ai_MG I x v) (hB : ai_MG I y u) (hv9 : v < 65536 ^ p) (hu9 : u < 65536 ^ q) (hpq : p + q ≤ 1700) :
    ai_Ev none 154 0 [some (.ref 572), some (.int (nI x)), some (.int (nI y)), some (.int (nI w)), none, none, none, none] [] (S, I, L, F) (ai_Pu S F L (fun I2 => ai_MG I2 w (v * u) ∧ ai_mf w I I2)) := by
  obtain ⟨s, h1, h2, h3, h4, h5⟩ := hA
  obtain ⟨t, g1, g2, g3, g4, g5⟩ := hB
  have hT : s + t ≤ 1700 := by
    have := val_size (b := 65536) (by omega) h5 (by rw [h4]; exact hv9)
    have := val_size (b := 65536) (by omega) g5 (by rw [g4]; exact hu9)
    omega
  refine ev_aload_n 1 rfl d154_0 rfl ?_
  refine ev_getr 4 rfl 9 27 d154_1 rfl (by omega) (G.1 _ _ (rfl : ai_sp 572 = (9, 0)) (by decide) (by decide)) (G.2 _ _ _ (rfl : ai_rf 572 27 = some 593)) ?_
  refine ev_iload_n 5 rfl d154_4 rfl ?_
  refine ev_aload_n 6 rfl d154_5 rfl ?_
  refine ev_getr 9 rfl 9 27 d154_6 rfl (by omega) (G.1 _ _ (rfl : ai_sp 572 = (9, 0)) (by decide) (by decide)) (G.2 _ _ _ (rfl : ai_rf 572 27 = some 593)) ?_
  refine ev_iload_n 10 rfl d154_9 rfl ?_
  refine ev_iald_n (v := nI s) 11 rfl d154_10 (by omega) (G.1 _ _ (rfl : ai_sp 593 = (100, 16)) (by decide) (by decide)) (by omega) (by decide) h1 ?_
  refine ev_if 23 14 (by decide) rfl (c0_eq (by omega)) d154_11 (fun hc_11 => ?_) (fun hc_11 => ?_)
  · refine ev_iconst (v := nI 0) 24 rfl d154_23 (by decide) ?_
    refine ev_goto 40 (by decide) d154_24 ?_
    have hvu : v * u = 0 := by
      have hz9 : s = 0 ∨ t = 0 := by omega
      rcases hz9 with q | q
      · rw [← h4, q]; simp [ai_val]
      · rw [← g4, q]; simp [ai_val]
    obtain ⟨I_1, hI_1⟩ : ∃ z, z = ai_ui I 593 w (nI 0) := ⟨_, rfl⟩
    refine ev_iast_n (I2 := I_1) 41 rfl d154_40 (by omega) (G.1 _ _ (rfl : ai_sp 593 = (100, 16)) (by decide) (by decide)) (by omega) (by decide) hI_1.symm ?_
    refine ev_iconst (v := nI 0) 42 rfl d154_41 (by decide) ?_
    refine ev_store_i 44 rfl d154_42 ⟨rfl, Nat.le_of_ble_eq_true rfl⟩ rfl ?_
    show ai_Ev _ _ _ [some (.ref 572), some (.int (nI x)), some (.int (nI y)), some (.int (nI w)), some (.int (nI 0)), none, none, none] _ _ _
    refine m_prod_zero G hw (T := 0) (by omega) (I0 := I_1) ?_ 0 0 I_1 (by omega) (ui_same hI_1) (fun j hj => absurd hj (by omega)) (ai_mf.rf w I_1)
    intro Iz p2 p3 p4
    have e9 : ai_mf w I Iz := (ai_mf.len hI_1).trans p4
    refine ev_iconst (v := nI 0) 76 rfl d154_75 (by decide) ?_
    refine ev_store_i 78 rfl d154_76 ⟨rfl, Nat.le_of_ble_eq_true rfl⟩ rfl ?_
    show ai_Ev _ _ _ [some (.ref 572), some (.int (nI x)), some (.int (nI y)), some (.int (nI w)), some (.int (nI 0)), none, none, none] _ _ _
    refine ev_iload 80 rfl d154_78 rfl ?_
    refine ev_aload_n 81 rfl d154_80 rfl ?_
    refine ev_getr 84 rfl 9 27 d154_81 rfl (by omega) (G.1 _ _ (rfl : ai_sp 572 = (9, 0)) (by decide) (by decide)) (G.2 _ _ _ (rfl : ai_rf 572 27 = some 593)) ?_
    refine ev_iload_n 85 rfl d154_84 rfl ?_
    refine ev_iald_n (v := nI s) 86 rfl d154_85 (by omega) (G.1 _ _ (rfl : ai_sp 593 = (100, 16)) (by decide) (by decide)) (by omega) (by decide) (((e9.2 x hxw).1).trans h1) ?_
    refine ev_icmp 231 89 (by decide) rfl (cn_ge (by omega) (by omega)) d154_86 (fun hc_86 => ?_) (fun hc_86 => ?_)
    · exact m_trim154 G hw 0 p2 (by omega) (fun j hj => absurd hj (by omega)) (by rw [hvu]; rfl) e9
    · refine ev_aload_n 90 rfl d154_89 rfl ?_
      refine ev_getr 93 rfl 9 27 d154_90 rfl (by omega) (G.1 _ _ (rfl : ai_sp 572 = (9, 0)) (by decide) (by decide)) (G.2 _ _ _ (rfl : ai_rf 572 27 = some 593)) ?_
      refine ev_iload_n 94 rfl d154_93 rfl ?_
      refine ev_iald_n (v := nI 0) 95 rfl d154_94 (by omega) (G.1 _ _ (rfl : ai_sp 593 = (100, 16)) (by decide) (by decide)) (by omega) (by decide) p2 ?_
      refine ev_if_T 231 (by decide) (by decide) d154_95 ?_
      exact m_trim154 G hw 0 p2 (by omega) (fun j hj => absurd hj (by omega)) (by rw [hvu]; rfl) e9
  · refine ev_aload_n 15 rfl d154_14 rfl ?_
    refine ev_getr 18 rfl 9 27 d154_15 rfl (by omega) (G.1 _ _ (rfl : ai_sp 572 = (9, 0)) (by decide) (by decide)) (G.2 _ _ _ (rfl : ai_rf 572 27 = some 593)) ?_
    refine ev_iload_n 19 rfl d154_18 rfl ?_
    refine ev_iald_n (v := nI t) 20 rfl d154_19 (by omega) (G.1 _ _ (rfl : ai_sp 593 = (100, 16)) (by decide) (by decide)) (by omega) (by decide) g1 ?_
    refine ev_if 27 23 (by decide) rfl (c0_ne (by omega)) d154_20 (fun hc_20 => ?_) (fun hc_20 => ?_)
    · refine ev_aload_n 28 rfl d154_27 rfl ?_
      refine ev_getr 31 rfl 9 27 d154_28 rfl (by omega) (G.1 _ _ (rfl : ai_sp 572 = (9, 0)) (by decide) (by decide)) (G.2 _ _ _ (rfl : ai_rf 572 27 = some 593)) ?_
      refine ev_iload_n 32 rfl d154_31 rfl ?_
      refine ev_iald_n (v := nI s) 33 rfl d154_32 (by omega) (G.1 _ _ (rfl : ai_sp 593 = (100, 16)) (by decide) (by decide)) (by omega) (by decide) h1 ?_
      refine ev_aload_n 34 rfl d154_33 rfl ?_
      refine ev_getr 37 rfl 9 27 d154_34 rfl (by omega) (G.1 _ _ (rfl : ai_sp 572 = (9, 0)) (by decide) (by decide)) (G.2 _ _ _ (rfl : ai_rf 572 27 = some 593)) ?_
      refine ev_iload_n 38 rfl d154_37 rfl ?_
      refine ev_iald_n (v := nI t) 39 rfl d154_38 (by omega) (G.1 _ _ (rfl : ai_sp 593 = (100, 16)) (by decide) (by decide)) (by omega) (by decide) g1 ?_
      refine ev_iadd (v := nI (s + t)) 40 rfl d154_39 (nI_add _ _) ?_
      obtain ⟨I_1, hI_1⟩ : ∃ z, z = ai_ui I 593 w (nI (s + t)) := ⟨_, rfl⟩
      refine ev_iast_n (I2 := I_1) 41 rfl d154_40 (by omega) (G.1 _ _ (rfl : ai_sp 593 = (100, 16)) (by decide) (by decide)) (by omega) (by decide) hI_1.symm ?_
      refine ev_iconst (v := nI 0) 42 rfl d154_41 (by decide) ?_
      refine ev_store_i 44 rfl d154_42 ⟨rfl, Nat.le_of_ble_eq_true rfl⟩ rfl ?_
      show ai_Ev _ _ _ [some (.ref 572), some (.int (nI x)), some (.int (nI y)), some (.int (nI w)), some (.int (nI 0)), none, none, none] _ _ _
      refine m_prod_zero G hw (T := s + t) hT (I0 := I_1) ?_ (s + t) 0 I_1 (by omega) (ui_same hI_1) (fun j hj => absurd hj (by omega)) (ai_mf.rf w I_1)
      intro Iz p2 p3 p4
      have e9 : ai_mf w I Iz := (ai_mf.len hI_1).trans p4
      have hdz : ∀ j, j < s + t → ai_md Iz w j = 0 := fun j hj => by show (Iz 592 (1700 * w + j)).toNatClampNeg = 0; rw [p3 j hj]; exact nI_clamp (by omega)
      obtain ⟨E, hEE⟩ : ∃ E : Nat → Nat, ∀ k, E k = if k < t then ai_md I y k else 0 := ⟨_, fun _ => rfl⟩
      refine ev_iconst (v := nI 0) 76 rfl d154_75 (by decide) ?_
      refine ev_store_i 78 rfl d154_76 ⟨rfl, Nat.le_of_ble_eq_true rfl⟩ rfl ?_
      have key := m_prod_out (L := L) G hx hy hw hxw hyw h2 g2 hT (X9 := ai_md I x) (E := E) (fun j hj => by rw [hEE, if_neg (by omega)]) (I0 := I) s 0 Iz none none none (by omega) (by rw [(e9.2 x hxw).1]; exact h1) p2 (by rw [(e9.2 y hyw).1]; exact g1) (fun j hj => ⟨by rw [hdz j hj]; exact p3 j hj, by rw [hdz j hj]; omega⟩) (e9.ok hyw g2 g3) (e9.ok hxw h2 h3) (fun j hj => by rw [e9.md hyw (by omega), hEE, if_pos hj]) (fun j hj => e9.md hxw (by omega)) (fun j _ hj => hdz j hj) (by rw [val_zeros (n := 0) (by omega) (fun j _ hj => hdz j hj)]; simp [ai_val]) e9
      rw [show ai_val 65536 E t = u by rw [← g4]; exact val_congr (fun j hj => by rw [hEE, if_pos hj]), h4] at key
      exact key
    · refine ev_iconst (v := nI 0) 24 rfl d154_23 (by decide) ?_
      refine ev_goto 40 (by decide) d154_24 ?_
      have hvu : v * u = 0 := by
        have hz9 : s = 0 ∨ t = 0 := by omega
        rcases hz9 with q | q
        · rw [← h4, q]; simp [ai_val]
        · rw [← g4, q]; simp [ai_val]
      obtain ⟨I_1, hI_1⟩ : ∃ z, z = ai_ui I 593 w (nI 0) := ⟨_, rfl⟩
      refine ev_iast_n (I2 := I_1) 41 rfl d154_40 (by omega) (G.1 _ _ (rfl : ai_sp 593 = (100, 16)) (by decide) (by decide)) (by omega) (by decide) hI_1.symm ?_
      refine ev_iconst (v := nI 0) 42 rfl d154_41 (by decide) ?_
      refine ev_store_i 44 rfl d154_42 ⟨rfl, Nat.le_of_ble_eq_true rfl⟩ rfl ?_
      show ai_Ev _ _ _ [some (.ref 572), some (.int (nI x)), some (.int (nI y)), some (.int (nI w)), some (.int (nI 0)), none, none, none] _ _ _
      refine m_prod_zero G hw (T := 0) (by omega) (I0 := I_1) ?_ 0 0 I_1 (by omega) (ui_same hI_1) (fun j hj => absurd hj (by omega)) (ai_mf.rf w I_1)
      intro Iz p2 p3 p4
      have e9 : ai_mf w I Iz := (ai_mf.len hI_1).trans p4
      refine ev_iconst (v := nI 0) 76 rfl d154_75 (by decide) ?_
      refine ev_store_i 78 rfl d154_76 ⟨rfl, Nat.le_of_ble_eq_true rfl⟩ rfl ?_
      show ai_Ev _ _ _ [some (.ref 572), some (.int (nI x)), some (.int (nI y)), some (.int (nI w)), some (.int (nI 0)), none, none, none] _ _ _
      refine ev_iload 80 rfl d154_78 rfl ?_
      refine ev_aload_n 81 rfl d154_80 rfl ?_
      refine ev_getr 84 rfl 9 27 d154_81 rfl (by omega) (G.1 _ _ (rfl : ai_sp 572 = (9, 0)) (by decide) (by decide)) (G.2 _ _ _ (rfl : ai_rf 572 27 = some 593)) ?_
      refine ev_iload_n 85 rfl d154_84 rfl ?_
      refine ev_iald_n (v := nI s) 86 rfl d154_85 (by omega) (G.1 _ _ (rfl : ai_sp 593 = (100, 16)) (by decide) (by decide)) (by omega) (by decide) (((e9.2 x hxw).1).trans h1) ?_
      refine ev_icmp 231 89 (by decide) rfl (cn_ge (by omega) (by omega)) d154_86 (fun hc_86 => ?_) (fun hc_86 => ?_)
      · exact m_trim154 G hw 0 p2 (by omega) (fun j hj => absurd hj (by omega)) (by rw [hvu]; rfl) e9
      · refine ev_aload_n 90 rfl d154_89 rfl ?_
        refine ev_getr 93 rfl 9 27 d154_90 rfl (by omega) (G.1 _ _ (rfl : ai_sp 572 = (9, 0)) (by decide) (by decide)) (G.2 _ _ _ (rfl : ai_rf 572 27 = some 593)) ?_
        refine ev_iload_n 94 rfl d154_93 rfl ?_
        refine ev_iald_n (v := nI 0) 95 rfl d154_94 (by omega) (G.1 _ _ (rfl : ai_sp 593 = (100, 16)) (by decide) (by decide)) (by omega) (by decide) p2 ?_
        refine ev_if_T 231 (by decide) (by decide) d154_95 ?_
        exact m_trim154 G hw 0 p2 (by omega) (fun j hj => absurd hj (by omega)) (by rw [hvu]; rfl) e9
theorem cmp_gt (a b : Nat) : ai_cond .gt (ai_cmp a b) 0 = true ↔ b < a := by
  rw [cz_gt]
  rcases Nat.lt_trichotomy a b with q | q | q
  · rw [ai_cmp_lt q]
    exact ⟨fun z => absurd z (by decide), fun z => by omega⟩
  · rw [ai_cmp_eq q]
    exact ⟨fun z => absurd z (by decide), fun z => by omega⟩
  · rw [ai_cmp_gt q]
    exact ⟨fun _ => q, fun _ => by decide⟩
theorem m_quot_loop (G : ai_G S F) {x y v u most : Nat} (hx : x < 15) (hy : y < 15) (hu0 : 0 < u) (hm : most < 1000000000) (hV : most * u < 65536 ^ 1700) (hq : v / u ≤ most) {I0 : Nat → Nat → Int32} : ∀ (z low high : Nat) (I : Nat → Nat → Int32) (u6 : Option Value), high - low = z → low ≤ high → high ≤ most → low * u ≤ v → (high = most ∨ v < (high + 1) * u) → ai_MG I x v → ai_MG I y u → ai_mf 15 I0 I →
    ai_Ev none 155 6 [some (.ref 572), some (.int (nI x)), some (.int (nI y)), some (.int (nI most)), some (.int (nI low)), some (.int (nI high)), u6] [] (S, I, L, F) (ai_Py S F L (fun r I2 => r = nI (v / u) ∧ ai_mf 15 I0 I2)) := by
  intro z
  induction z using Nat.strongRecOn with
  | _ z ih =>
    intro low high I u6 hz hlh0 hhm hlow hh hA hB hfr
    have hx : x < 16 := by omega
    have hy16 : y < 16 := by omega
    refine ev_iload 8 rfl d155_6 rfl ?_
    refine ev_iload 10 rfl d155_8 rfl ?_
    refine ev_icmp 68 13 (by decide) rfl (cn_ge (by omega) (by omega)) d155_10 (fun hc_10 => ?_) (fun hc_10 => ?_)
    · refine ev_iload 70 rfl d155_68 rfl ?_
      refine ev_iret (Or.inl rfl) d155_70 ?_
      have hlh : low = high := by omega
      refine ⟨_, _, rfl, rfl, ?_, hfr⟩
      congr 1
      subst hlh
      rcases hh with q | q
      · have e1 := (Nat.le_div_iff_mul_le hu0).mpr hlow
        omega
      · have e1 := (Nat.le_div_iff_mul_le hu0).mpr hlow
        have e2 := (Nat.div_lt_iff_lt_mul hu0).mpr q
        omega
    · obtain ⟨mid, hmid⟩ : ∃ mid, mid = low + (high - low + 1) / 2 := ⟨_, rfl⟩
      refine ev_iload 15 rfl d155_13 rfl ?_
      refine ev_iload 17 rfl d155_15 rfl ?_
      refine ev_iload 19 rfl d155_17 rfl ?_
      refine ev_isub (v := nI (high - low)) 20 rfl d155_19 (pk_sub (by omega)) ?_
      refine ev_iconst (v := nI 1) 21 rfl d155_20 (by decide) ?_
      refine ev_iadd (v := nI ((high - low) + 1)) 22 rfl d155_21 (nI_add _ _) ?_
      refine ev_iconst (v := nI 2) 23 rfl d155_22 (by decide) ?_
      refine ev_idiv (v := nI (((high - low) + 1) / 2)) 24 rfl d155_23 (nI_ne0 (by omega) (by omega)) (pk_div (by omega) (by omega) (by omega)) ?_
      refine ev_iadd (v := nI mid) 25 rfl d155_24 ((nI_add _ _).trans (congrArg nI hmid.symm)) ?_
      refine ev_store_i 27 rfl d155_25 ⟨rfl, Nat.le_of_ble_eq_true rfl⟩ rfl ?_
      show ai_Ev _ _ _ [some (.ref 572), some (.int (nI x)), some (.int (nI y)), some (.int (nI most)), some (.int (nI low)), some (.int (nI high)), some (.int (nI mid))] _ _ _
      refine ev_aload_n 28 rfl d155_27 rfl ?_
      refine ev_iload_n 29 rfl d155_28 rfl ?_
      refine ev_bipush (v := nI 15) 31 rfl d155_29 (by decide) ?_
      refine ev_cu2 34 rfl 149 d155_31 rfl rfl (by rw [G.1 _ _ (rfl : ai_sp 572 = (9, 0)) (by decide) (by decide)]; rfl) (by omega) rfl (m_copy G hy16 (by omega) (by omega) hB) (fun I_1 hr_31 => ?_)
      obtain ⟨a1, a2⟩ := hr_31
      refine ev_aload_n 35 rfl d155_34 rfl ?_
      refine ev_bipush (v := nI 15) 37 rfl d155_35 (by decide) ?_
      refine ev_iload 39 rfl d155_37 rfl ?_
      refine ev_cu2 42 rfl 150 d155_39 rfl rfl (by rw [G.1 _ _ (rfl : ai_sp 572 = (9, 0)) (by decide) (by decide)]; rfl) (by omega) rfl (m_times G (by omega) (by omega) a1 (by have : mid * u ≤ most * u := Nat.mul_le_mul_right _ (by omega); exact Nat.lt_of_le_of_lt this hV)) (fun I_2 hr_39 => ?_)
      obtain ⟨a3, a4⟩ := hr_39
      have a5 : ai_mf 15 I I_2 := a2.trans a4
      have a6 : ai_MG I_2 x v := a5.keep (by omega) hA
      refine ev_aload_n 43 rfl d155_42 rfl ?_
      refine ev_bipush (v := nI 15) 45 rfl d155_43 (by decide) ?_
      refine ev_iload_n 46 rfl d155_45 rfl ?_
      refine ev_cp2 49 rfl 153 d155_46 rfl rfl (by rw [G.1 _ _ (rfl : ai_sp 572 = (9, 0)) (by decide) (by decide)]; rfl) (by omega) rfl (m_cmp G (by omega) hx a3 a6) ?_
      refine ev_if 59 52 (by decide) rfl (cmp_gt (mid * u) v) d155_49 (fun hc_49 => ?_) (fun hc_49 => ?_)
      · refine ev_iload 61 rfl d155_59 rfl ?_
        refine ev_iconst (v := nI 1) 62 rfl d155_61 (by decide) ?_
        refine ev_isub (v := nI (mid - 1)) 63 rfl d155_62 (pk_sub (by omega)) ?_
        refine ev_store_i 65 rfl d155_63 ⟨rfl, Nat.le_of_ble_eq_true rfl⟩ rfl ?_
        show ai_Ev _ _ _ [some (.ref 572), some (.int (nI x)), some (.int (nI y)), some (.int (nI most)), some (.int (nI low)), some (.int (nI (mid - 1))), some (.int (nI mid))] _ _ _
        refine ev_goto 6 (by decide) d155_65 ?_
        exact ih ((mid - 1) - low) (by omega) low (mid - 1) I_2 _ rfl (by omega) (by omega) hlow (Or.inr (by rw [show mid - 1 + 1 = mid by omega]; omega)) (a5.keep (by omega) hA) (a5.keep (by omega) hB) (hfr.trans a5)
      · refine ev_iload 54 rfl d155_52 rfl ?_
        refine ev_store_i 56 rfl d155_54 ⟨rfl, Nat.le_of_ble_eq_true rfl⟩ rfl ?_
        show ai_Ev _ _ _ [some (.ref 572), some (.int (nI x)), some (.int (nI y)), some (.int (nI most)), some (.int (nI mid)), some (.int (nI high)), some (.int (nI mid))] _ _ _
        refine ev_goto 65 (by decide) d155_56 ?_
        refine ev_goto 6 (by decide) d155_65 ?_
        exact ih (high - mid) (by omega) mid high I_2 _ rfl (by omega) (by omega) (by omega) hh (a5.keep (by omega) hA) (a5.keep (by omega) hB) (hfr.trans a5)
theorem m_quot (G : ai_G S F) {x y v u most : Nat} (hx : x < 15) (hy : y < 15) (hu0 : 0 < u) (hm : most < 1000000000) (hV : most * u < 65536 ^ 1700) (hq : v / u ≤ most) {I : Nat → Nat → Int32} (hA : ai_MG I x v) (hB : ai_MG I y u) :
    ai_Ev none 155 0 [some (.ref 572), some (.int (nI x)), some (.int (nI y)), some (.int (nI most)), none, none, none] [] (S, I, L, F) (ai_Py S F L (fun r I2 => r = nI (v / u) ∧ ai_mf 15 I I2)) := by
  refine ev_iconst (v := nI 0) 1 rfl d155_0 (by decide) ?_
  refine ev_store_i 3 rfl d155_1 ⟨rfl, Nat.le_of_ble_eq_true rfl⟩ rfl ?_
  show ai_Ev _ _ _ [some (.ref 572), some (.int (nI x)), some (.int (nI y)), some (.int (nI most)), some (.int (nI 0)), none, none] _ _ _
  refine ev_iload_n 4 rfl d155_3 rfl ?_
  refine ev_store_i 6 rfl d155_4 ⟨rfl, Nat.le_of_ble_eq_true rfl⟩ rfl ?_
  show ai_Ev _ _ _ [some (.ref 572), some (.int (nI x)), some (.int (nI y)), some (.int (nI most)), some (.int (nI 0)), some (.int (nI most)), none] _ _ _
  exact m_quot_loop G hx hy hu0 hm hV hq most 0 most I none (by omega) (by omega) (Nat.le_refl _) (by omega) (Or.inl rfl) hA hB (ai_mf.rf 15 I)
end MBIG3
