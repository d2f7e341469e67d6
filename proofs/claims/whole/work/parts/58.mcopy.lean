section MCOP
variable {S : List (Nat × Nat)} {F : Nat → Nat → Option Nat} {L : Nat → Nat → Int64} {I : Nat → Nat → Int32} {σ : ai_S}
theorem csub_gt {i s n : Nat} (hi : i < 2147483648) (hs : s ≤ 100) (hn : n < 2147483648) : ai_cond .gt (nI i) (nI s - nI n) = true ↔ s < i + n := by
  have e : (nI s - nI n).toInt = (s : Int) - (n : Int) := by
    rw [Int32.toInt_sub, nI_ti (by omega), nI_ti hn]
    exact Int.bmod_eq_of_le (by omega) (by omega)
  rw [cz_gt, Int32.lt_iff_toInt_lt, e, nI_ti hi]; omega
theorem csub_le {i s n : Nat} (hi : i < 2147483648) (hs : s ≤ 100) (hn : n < 2147483648) : ai_cond .le (nI i) (nI s - nI n) = true ↔ ¬ s < i + n := by
  have h := csub_gt hi hs hn
  rw [cz_gt] at h
  rw [cz_le, ← h]; exact Int32.not_lt.symm
theorem rng_F1 {z : Nat} {i n : Int32} (hz : z ≤ 100) (h : i < 0) : ¬ ai_rng z i n := fun ⟨x, y, h1, h2, h3⟩ => by
  subst h1; exact nI_nlt0 (by omega) h
theorem rng_FN {z i n : Nat} (hz : z ≤ 100) (hi : i < 2147483648) (hn : n < 2147483648) (h : z < i + n) : ¬ ai_rng z (nI i) (nI n) := fun ⟨x, y, h1, h2, h3⟩ => by
  have e1 := (nI_eq (by omega) (by omega)).mp h1
  have e2 := (nI_eq (by omega) (by omega)).mp h2
  omega
theorem rng_TN {z i n : Nat} (h : i + n ≤ z) : ai_rng z (nI i) (nI n) := ⟨i, n, rfl, rfl, h⟩
theorem m_cp2 (G : ai_G S F) {L0 : Nat → Nat → Int64} (hM : ai_RM σ I L0) (hV : ai_IV σ) {p q i j n : Nat} (hp : p < 8) (hq : q < 8) (hn : n < 2147483648) (hip : i + n ≤ σ.sz p) (hjq : j + n ≤ σ.sz q) : ∀ (z k : Nat) (L : Nat → Nat → Int64), k + z = n → (∀ x, x < n → L 577 x = σ.el p (i + x)) → (∀ x, x < k → L 576 (100 * q + j + x) = σ.el p (i + x)) → (∀ y, ¬ (100 * q + j ≤ y ∧ y < 100 * q + j + k) → L 576 y = L0 576 y) → (∀ a, a ≠ 576 → a ≠ 577 → L a = L0 a) → ai_Ev none 121 226 [some (.ref 572), some (.int (nI p)), some (.int (nI q)), some (.int (nI i)), some (.int (nI j)), some (.int (nI n)), some (.int (nI 0)), some (.int (nI k))] [] (S, I, L, F) (ai_PM S F I L0 (σ.copy p q i j n, nI 1)) := by
  have hszp := hV.sz p hp
  have hszq := hV.sz q hq
  intro z
  induction z with
  | zero =>
    intro k L hz hA hd hnd hLo
    have e9 : k = n := by omega
    subst e9
    refine ev_iload 228 rfl d121_226 rfl ?_
    refine ev_iload 230 rfl d121_228 rfl ?_
    refine ev_icmp 261 233 (by decide) rfl (cn_ge (by omega) (by omega)) d121_230 (fun hc_230 => ?_) (fun hc_230 => absurd hc_230 (by omega))
    refine ev_iconst (v := nI 1) 262 rfl d121_261 (by decide) ?_
    refine ev_iret (Or.inl rfl) d121_262 ?_
    refine ⟨_, _, rfl, rfl, rm_L hM (σ2 := σ.copy p q i j k) rfl (fun s hs x hx => ?_), fun a ha => ⟨rfl, hLo a (by omega) (by omega)⟩⟩
    show L 576 (100 * s + x) = (if s = q ∧ j ≤ x ∧ x < j + k then σ.el p (i + (x - j)) else σ.el s x)
    have hs9 := hV.sz s hs
    by_cases e : s = q ∧ j ≤ x ∧ x < j + k
    · obtain ⟨rfl, e1, e2⟩ := e
      rw [if_pos ⟨rfl, e1, e2⟩, show 100 * s + x = 100 * s + j + (x - j) by omega, hd _ (by omega)]
    · rw [if_neg e, hnd _ (by omega)]; exact hM.el s hs x hx
  | succ z ih =>
    intro k L hz hA hd hnd hLo
    refine ev_iload 228 rfl d121_226 rfl ?_
    refine ev_iload 230 rfl d121_228 rfl ?_
    refine ev_icmp 261 233 (by decide) rfl (cn_ge (by omega) (by omega)) d121_230 (fun hc_230 => absurd hc_230 (by omega)) (fun hc_230 => ?_)
    refine ev_aload_n 234 rfl d121_233 rfl ?_
    refine ev_getr 237 rfl 9 3 d121_234 rfl (by omega) (G.1 _ _ (rfl : ai_sp 572 = (9, 0)) (by decide) (by decide)) (G.2 _ _ _ (rfl : ai_rf 572 3 = some 576)) ?_
    refine ev_bipush (v := nI 100) 239 rfl d121_237 (by decide) ?_
    refine ev_iload_n 240 rfl d121_239 rfl ?_
    refine ev_imul (v := nI (100 * q)) 241 rfl d121_240 (pk_mul _ _) ?_
    refine ev_iload 243 rfl d121_241 rfl ?_
    refine ev_iadd (v := nI ((100 * q) + j)) 244 rfl d121_243 (nI_add _ _) ?_
    refine ev_iload 246 rfl d121_244 rfl ?_
    refine ev_iadd (v := nI (((100 * q) + j) + k)) 247 rfl d121_246 (nI_add _ _) ?_
    refine ev_aload_n 248 rfl d121_247 rfl ?_
    refine ev_getr 251 rfl 9 4 d121_248 rfl (by omega) (G.1 _ _ (rfl : ai_sp 572 = (9, 0)) (by decide) (by decide)) (G.2 _ _ _ (rfl : ai_rf 572 4 = some 577)) ?_
    refine ev_iload 253 rfl d121_251 rfl ?_
    refine ev_lald_n (v := σ.el p (i + k)) 254 rfl d121_253 (by omega) (G.1 _ _ (rfl : ai_sp 577 = (103, 100)) (by decide) (by decide)) (by omega) (by decide) (hA _ (by omega)) ?_
    obtain ⟨L_1, hL_1⟩ : ∃ z, z = ai_ul L 576 (((100 * q) + j) + k) (σ.el p (i + k)) := ⟨_, rfl⟩
    refine ev_last_n (L2 := L_1) 255 rfl d121_254 (by omega) (G.1 _ _ (rfl : ai_sp 576 = (103, 800)) (by decide) (by decide)) (by omega) (by decide) hL_1.symm ?_
    refine ev_iinc (v := nI (k + 1)) 258 rfl d121_255 rfl (Nat.le_of_ble_eq_true rfl) (nI_add _ 1) rfl ?_
    show ai_Ev _ _ _ [some (.ref 572), some (.int (nI p)), some (.int (nI q)), some (.int (nI i)), some (.int (nI j)), some (.int (nI n)), some (.int (nI 0)), some (.int (nI (k + 1)))] _ _ _
    refine ev_goto 226 (by decide) d121_258 ?_
    refine ih (k + 1) _ (by omega) (fun x hx => by rw [ul_row hL_1 (by omega)]; exact hA x hx) (fun x hx => ?_) (fun y hy => by rw [ul_other hL_1 (by omega)]; exact hnd y (by omega)) (fun a h1 h2 => by rw [ul_row hL_1 h1]; exact hLo a h1 h2)
    by_cases e : x = k
    · subst e; rw [hL_1]; simp [ai_ul]
    · rw [ul_other hL_1 (by omega)]; exact hd x (by omega)
theorem m_cp1 (G : ai_G S F) {L0 : Nat → Nat → Int64} (hM : ai_RM σ I L0) (hV : ai_IV σ) {p q i j n : Nat} (hp : p < 8) (hq : q < 8) (hn : n < 2147483648) (hip : i + n ≤ σ.sz p) (hjq : j + n ≤ σ.sz q) : ∀ (z k : Nat) (L : Nat → Nat → Int64), k + z = n → (∀ x, x < k → L 577 x = σ.el p (i + x)) → (∀ a, a ≠ 577 → L a = L0 a) → ai_Ev none 121 189 [some (.ref 572), some (.int (nI p)), some (.int (nI q)), some (.int (nI i)), some (.int (nI j)), some (.int (nI n)), some (.int (nI 0)), some (.int (nI k))] [] (S, I, L, F) (ai_PM S F I L0 (σ.copy p q i j n, nI 1)) := by
  have hszp := hV.sz p hp
  have hszq := hV.sz q hq
  intro z
  induction z with
  | zero =>
    intro k L hz hA hLo
    have e9 : k = n := by omega
    refine ev_iload 191 rfl d121_189 rfl ?_
    refine ev_iload 193 rfl d121_191 rfl ?_
    refine ev_icmp 223 196 (by decide) rfl (cn_ge (by omega) (by omega)) d121_193 (fun hc_193 => ?_) (fun hc_193 => absurd hc_193 (by omega))
    refine ev_iconst (v := nI 0) 224 rfl d121_223 (by decide) ?_
    refine ev_store_i 226 rfl d121_224 ⟨rfl, Nat.le_of_ble_eq_true rfl⟩ rfl ?_
    show ai_Ev _ _ _ [some (.ref 572), some (.int (nI p)), some (.int (nI q)), some (.int (nI i)), some (.int (nI j)), some (.int (nI n)), some (.int (nI 0)), some (.int (nI 0))] _ _ _
    exact m_cp2 G hM hV hp hq hn hip hjq n 0 L (by omega) (fun x hx => hA x (by omega)) (fun x hx => absurd hx (by omega)) (fun y _ => by rw [hLo 576 (by omega)]) (fun a _ h2 => hLo a h2)
  | succ z ih =>
    intro k L hz hA hLo
    refine ev_iload 191 rfl d121_189 rfl ?_
    refine ev_iload 193 rfl d121_191 rfl ?_
    refine ev_icmp 223 196 (by decide) rfl (cn_ge (by omega) (by omega)) d121_193 (fun hc_193 => absurd hc_193 (by omega)) (fun hc_193 => ?_)
    refine ev_aload_n 197 rfl d121_196 rfl ?_
    refine ev_getr 200 rfl 9 4 d121_197 rfl (by omega) (G.1 _ _ (rfl : ai_sp 572 = (9, 0)) (by decide) (by decide)) (G.2 _ _ _ (rfl : ai_rf 572 4 = some 577)) ?_
    refine ev_iload 202 rfl d121_200 rfl ?_
    refine ev_aload_n 203 rfl d121_202 rfl ?_
    refine ev_getr 206 rfl 9 3 d121_203 rfl (by omega) (G.1 _ _ (rfl : ai_sp 572 = (9, 0)) (by decide) (by decide)) (G.2 _ _ _ (rfl : ai_rf 572 3 = some 576)) ?_
    refine ev_bipush (v := nI 100) 208 rfl d121_206 (by decide) ?_
    refine ev_iload_n 209 rfl d121_208 rfl ?_
    refine ev_imul (v := nI (100 * p)) 210 rfl d121_209 (pk_mul _ _) ?_
    refine ev_iload_n 211 rfl d121_210 rfl ?_
    refine ev_iadd (v := nI ((100 * p) + i)) 212 rfl d121_211 (nI_add _ _) ?_
    refine ev_iload 214 rfl d121_212 rfl ?_
    refine ev_iadd (v := nI (((100 * p) + i) + k)) 215 rfl d121_214 (nI_add _ _) ?_
    refine ev_lald_n (v := σ.el p (i + k)) 216 rfl d121_215 (by omega) (G.1 _ _ (rfl : ai_sp 576 = (103, 800)) (by decide) (by decide)) (by omega) (by decide) ((congrFun (hLo 576 (by omega)) _).trans (by rw [show 100 * p + i + k = 100 * p + (i + k) by omega]; exact hM.el p hp _ (by omega))) ?_
    obtain ⟨L_1, hL_1⟩ : ∃ z, z = ai_ul L 577 k (σ.el p (i + k)) := ⟨_, rfl⟩
    refine ev_last_n (L2 := L_1) 217 rfl d121_216 (by omega) (G.1 _ _ (rfl : ai_sp 577 = (103, 100)) (by decide) (by decide)) (by omega) (by decide) hL_1.symm ?_
    refine ev_iinc (v := nI (k + 1)) 220 rfl d121_217 rfl (Nat.le_of_ble_eq_true rfl) (nI_add _ 1) rfl ?_
    show ai_Ev _ _ _ [some (.ref 572), some (.int (nI p)), some (.int (nI q)), some (.int (nI i)), some (.int (nI j)), some (.int (nI n)), some (.int (nI 0)), some (.int (nI (k + 1)))] _ _ _
    refine ev_goto 189 (by decide) d121_220 ?_
    refine ih (k + 1) _ (by omega) (fun x hx => ?_) (fun a h1 => by rw [ul_row hL_1 h1]; exact hLo a h1)
    by_cases e : x = k
    · subst e; rw [hL_1]; simp [ai_ul]
    · rw [ul_other hL_1 (by omega)]; exact hA x (by omega)
theorem m_copyC (G : ai_G S F) (hM : ai_RM σ I L) (hV : ai_IV σ) {z1 : Int32} {z2 : Int32} {z3 : Int32} {z4 : Int32} {z5 : Int32} : ai_Ev none 121 0 [some (.ref 572), some (.int z1), some (.int z2), some (.int z3), some (.int z4), some (.int z5), none, none] [] (S, I, L, F) (ai_PM S F I L (o_copy σ z1 z2 z3 z4 z5)) := by
  have hnT := hV.nT
  have hnQ := hV.nQ
  have hnJ := hV.nJ
  unfold o_copy
  refine ev_aload_n 1 rfl d121_0 rfl ?_
  refine ev_iload_n 2 rfl d121_1 rfl ?_
  refine ev_cb1 5 rfl 116 d121_2 rfl rfl (by rw [G.1 _ _ (rfl : ai_sp 572 = (9, 0)) (by decide) (by decide)]; rfl) (by omega) rfl (m_isShelf G) (fun hq_2 => ?_) (fun hq_2 => ?_)
  · obtain ⟨p, hp, rfl⟩ := hq_2
    refine ev_if_F 16 8 (by decide) rfl (by decide) d121_5 ?_
    refine ev_aload_n 9 rfl d121_8 rfl ?_
    refine ev_iload_n 10 rfl d121_9 rfl ?_
    refine ev_cb1 13 rfl 116 d121_10 rfl rfl (by rw [G.1 _ _ (rfl : ai_sp 572 = (9, 0)) (by decide) (by decide)]; rfl) (by omega) rfl (m_isShelf G) (fun hq_10 => ?_) (fun hq_10 => ?_)
    · obtain ⟨q, hq, rfl⟩ := hq_10
      rw [c_T ⟨is_T hp, is_T hq⟩]
      have hszp := hV.sz p hp
      have hszq := hV.sz q hq
      have hhp := hV.hd p hp
      have hhq := hV.hd q hq
      simp only [nn_I (show p < 2147483648 by omega)]
      simp only [nn_I (show q < 2147483648 by omega)]
      refine ev_if_T 22 (by decide) (by decide) d121_13 ?_
      refine ev_aload_n 23 rfl d121_22 rfl ?_
      refine ev_aload_n 24 rfl d121_23 rfl ?_
      refine ev_getr 27 rfl 9 1 d121_24 rfl (by omega) (G.1 _ _ (rfl : ai_sp 572 = (9, 0)) (by decide) (by decide)) (G.2 _ _ _ (rfl : ai_rf 572 1 = some 574)) ?_
      refine ev_iload_n 28 rfl d121_27 rfl ?_
      refine ev_iald_n (v := nI (σ.hd p) - 1) 29 rfl d121_28 (by omega) (G.1 _ _ (rfl : ai_sp 574 = (100, 8)) (by decide) (by decide)) (by omega) (by decide) (hM.hd _ (by omega)) ?_
      refine ev_iconst (v := nI 0) 30 rfl d121_29 (by decide) ?_
      refine ev_bipush (v := nI 99) 32 rfl d121_30 (by decide) ?_
      refine ev_cb3 35 rfl 114 d121_32 rfl rfl (by rw [G.1 _ _ (rfl : ai_sp 572 = (9, 0)) (by decide) (by decide)]; rfl) (by omega) rfl (pb_iff (in_M (n := 100) (by decide) (by omega) (by omega)) (m_in G)) (fun hq_32 => ?_) (fun hq_32 => ?_)
      · rw [c_T (Or.inl (show σ.pers p from hq_32))]
        refine ev_if_T 54 (by decide) (by decide) d121_35 ?_
        refine ev_iconst (v := nI 1) 55 rfl d121_54 (by decide) ?_
        refine ev_goto 59 (by decide) d121_55 ?_
        refine ev_store_i 61 rfl d121_59 ⟨rfl, Nat.le_of_ble_eq_true rfl⟩ rfl ?_
        show ai_Ev _ _ _ [some (.ref 572), some (.int (nI p)), some (.int (nI q)), some (.int z3), some (.int z4), some (.int z5), some (.int (nI 1)), none] _ _ _
        refine ev_iload 63 rfl d121_61 rfl ?_
        refine ev_if_T 99 (by decide) (by decide) d121_63 ?_
        refine ev_aload_n 100 rfl d121_99 rfl ?_
        refine ev_bipush (v := (-2)) 102 rfl d121_100 (by decide) ?_
        refine ev_cy1 105 rfl 115 d121_102 rfl rfl (by rw [G.1 _ _ (rfl : ai_sp 572 = (9, 0)) (by decide) (by decide)]; rfl) (by omega) rfl (show ai_Ev none 115 0 [some (.ref 572), some (.int (-2))] [] (S, I, L, F) _ from by rw [show ((-2) : Int32) = -(nI 2) by decide]; exact m_refuse (I := I) (L := L) (S := S) (F := F) G (k := 2) (by omega)) (fun v_2 I_1 hr_102 => ?_)
        refine ev_iret (Or.inl rfl) d121_105 ?_
        exact pm_ref hM (by omega) hr_102
      · refine ev_if_F 54 38 (by decide) rfl (by decide) d121_35 ?_
        refine ev_aload_n 39 rfl d121_38 rfl ?_
        refine ev_aload_n 40 rfl d121_39 rfl ?_
        refine ev_getr 43 rfl 9 1 d121_40 rfl (by omega) (G.1 _ _ (rfl : ai_sp 572 = (9, 0)) (by decide) (by decide)) (G.2 _ _ _ (rfl : ai_rf 572 1 = some 574)) ?_
        refine ev_iload_n 44 rfl d121_43 rfl ?_
        refine ev_iald_n (v := nI (σ.hd q) - 1) 45 rfl d121_44 (by omega) (G.1 _ _ (rfl : ai_sp 574 = (100, 8)) (by decide) (by decide)) (by omega) (by decide) (hM.hd _ (by omega)) ?_
        refine ev_iconst (v := nI 0) 46 rfl d121_45 (by decide) ?_
        refine ev_bipush (v := nI 99) 48 rfl d121_46 (by decide) ?_
        refine ev_cb3 51 rfl 114 d121_48 rfl rfl (by rw [G.1 _ _ (rfl : ai_sp 572 = (9, 0)) (by decide) (by decide)]; rfl) (by omega) rfl (pb_iff (in_M (n := 100) (by decide) (by omega) (by omega)) (m_in G)) (fun hq_48 => ?_) (fun hq_48 => ?_)
        · rw [c_T (Or.inr (Or.inl (show σ.pers q from hq_48)))]
          refine ev_if_F 58 54 (by decide) rfl (by decide) d121_51 ?_
          refine ev_iconst (v := nI 1) 55 rfl d121_54 (by decide) ?_
          refine ev_goto 59 (by decide) d121_55 ?_
          refine ev_store_i 61 rfl d121_59 ⟨rfl, Nat.le_of_ble_eq_true rfl⟩ rfl ?_
          show ai_Ev _ _ _ [some (.ref 572), some (.int (nI p)), some (.int (nI q)), some (.int z3), some (.int z4), some (.int z5), some (.int (nI 1)), none] _ _ _
          refine ev_iload 63 rfl d121_61 rfl ?_
          refine ev_if_T 99 (by decide) (by decide) d121_63 ?_
          refine ev_aload_n 100 rfl d121_99 rfl ?_
          refine ev_bipush (v := (-2)) 102 rfl d121_100 (by decide) ?_
          refine ev_cy1 105 rfl 115 d121_102 rfl rfl (by rw [G.1 _ _ (rfl : ai_sp 572 = (9, 0)) (by decide) (by decide)]; rfl) (by omega) rfl (show ai_Ev none 115 0 [some (.ref 572), some (.int (-2))] [] (S, I, L, F) _ from by rw [show ((-2) : Int32) = -(nI 2) by decide]; exact m_refuse (I := I) (L := L) (S := S) (F := F) G (k := 2) (by omega)) (fun v_2 I_1 hr_102 => ?_)
          refine ev_iret (Or.inl rfl) d121_105 ?_
          exact pm_ref hM (by omega) hr_102
        · refine ev_if_T 58 (by decide) (by decide) d121_51 ?_
          refine ev_iconst (v := nI 0) 59 rfl d121_58 (by decide) ?_
          refine ev_store_i 61 rfl d121_59 ⟨rfl, Nat.le_of_ble_eq_true rfl⟩ rfl ?_
          show ai_Ev _ _ _ [some (.ref 572), some (.int (nI p)), some (.int (nI q)), some (.int z3), some (.int z4), some (.int z5), some (.int (nI 0)), none] _ _ _
          refine ev_iload 63 rfl d121_61 rfl ?_
          refine ev_if_F 99 66 (by decide) rfl (by decide) d121_63 ?_
          refine ev_aload_n 67 rfl d121_66 rfl ?_
          refine ev_getr 70 rfl 9 1 d121_67 rfl (by omega) (G.1 _ _ (rfl : ai_sp 572 = (9, 0)) (by decide) (by decide)) (G.2 _ _ _ (rfl : ai_rf 572 1 = some 574)) ?_
          refine ev_iload_n 71 rfl d121_70 rfl ?_
          refine ev_iald_n (v := nI (σ.hd p) - 1) 72 rfl d121_71 (by omega) (G.1 _ _ (rfl : ai_sp 574 = (100, 8)) (by decide) (by decide)) (by omega) (by decide) (hM.hd _ (by omega)) ?_
          refine ev_if 106 75 (by decide) rfl (cq0_lt (by omega)) d121_72 (fun hc_72 => ?_) (fun hc_72 => ?_)
          · rw [c_F (by unfold ai_S.pers; omega)]
            refine ev_aload_n 107 rfl d121_106 rfl ?_
            refine ev_getr 110 rfl 9 1 d121_107 rfl (by omega) (G.1 _ _ (rfl : ai_sp 572 = (9, 0)) (by decide) (by decide)) (G.2 _ _ _ (rfl : ai_rf 572 1 = some 574)) ?_
            refine ev_iload_n 111 rfl d121_110 rfl ?_
            refine ev_iald_n (v := nI (σ.hd p) - 1) 112 rfl d121_111 (by omega) (G.1 _ _ (rfl : ai_sp 574 = (100, 8)) (by decide) (by decide)) (by omega) (by decide) (hM.hd _ (by omega)) ?_
            refine ev_if 124 115 (by decide) rfl (cq0_lt (by omega)) d121_112 (fun hc_112 => ?_) (fun hc_112 => ?_)
            · rw [c_F (fun h9 => absurd h9.1 (by omega))]
              refine ev_aload_n 125 rfl d121_124 rfl ?_
              refine ev_bipush (v := (-3)) 127 rfl d121_125 (by decide) ?_
              refine ev_cy1 130 rfl 115 d121_127 rfl rfl (by rw [G.1 _ _ (rfl : ai_sp 572 = (9, 0)) (by decide) (by decide)]; rfl) (by omega) rfl (show ai_Ev none 115 0 [some (.ref 572), some (.int (-3))] [] (S, I, L, F) _ from by rw [show ((-3) : Int32) = -(nI 3) by decide]; exact m_refuse (I := I) (L := L) (S := S) (F := F) G (k := 3) (by omega)) (fun v_2 I_1 hr_127 => ?_)
              refine ev_iret (Or.inl rfl) d121_130 ?_
              exact pm_ref hM (by omega) hr_127
            · refine ev_aload_n 116 rfl d121_115 rfl ?_
              refine ev_getr 119 rfl 9 1 d121_116 rfl (by omega) (G.1 _ _ (rfl : ai_sp 572 = (9, 0)) (by decide) (by decide)) (G.2 _ _ _ (rfl : ai_rf 572 1 = some 574)) ?_
              refine ev_iload_n 120 rfl d121_119 rfl ?_
              refine ev_iald_n (v := nI (σ.hd q) - 1) 121 rfl d121_120 (by omega) (G.1 _ _ (rfl : ai_sp 574 = (100, 8)) (by decide) (by decide)) (by omega) (by decide) (hM.hd _ (by omega)) ?_
              refine ev_if 131 124 (by decide) rfl (cq0_ge (by omega)) d121_121 (fun hc_121 => ?_) (fun hc_121 => ?_)
              · rw [c_T ⟨by omega, by omega⟩]
                refine ev_iload 133 rfl d121_131 rfl ?_
                refine ev_if 143 136 (by decide) rfl cz_ge d121_133 (fun hc_133 => ?_) (fun hc_133 => ?_)
                · rw [c_F (Int32.not_lt.mpr hc_133)]
                  obtain ⟨n, hn, rfl⟩ := nn_nI ( hc_133)
                  refine ev_iload_n 144 rfl d121_143 rfl ?_
                  refine ev_if 179 147 (by decide) rfl cz_lt d121_144 (fun hc_144 => ?_) (fun hc_144 => ?_)
                  · rw [c_F (fun h9 => rng_F1 (by omega) hc_144 h9.1)]
                    refine ev_aload_n 180 rfl d121_179 rfl ?_
                    refine ev_bipush (v := (-5)) 182 rfl d121_180 (by decide) ?_
                    refine ev_cy1 185 rfl 115 d121_182 rfl rfl (by rw [G.1 _ _ (rfl : ai_sp 572 = (9, 0)) (by decide) (by decide)]; rfl) (by omega) rfl (show ai_Ev none 115 0 [some (.ref 572), some (.int (-5))] [] (S, I, L, F) _ from by rw [show ((-5) : Int32) = -(nI 5) by decide]; exact m_refuse (I := I) (L := L) (S := S) (F := F) G (k := 5) (by omega)) (fun v_2 I_1 hr_182 => ?_)
                    refine ev_iret (Or.inl rfl) d121_185 ?_
                    exact pm_ref hM (by omega) hr_182
                  · obtain ⟨i, hi, rfl⟩ := nn_nI (nl_le hc_144)
                    refine ev_iload 149 rfl d121_147 rfl ?_
                    refine ev_if 179 152 (by decide) rfl cz_lt d121_149 (fun hc_149 => ?_) (fun hc_149 => ?_)
                    · rw [c_F (fun h9 => rng_F1 (by omega) hc_149 h9.2)]
                      refine ev_aload_n 180 rfl d121_179 rfl ?_
                      refine ev_bipush (v := (-5)) 182 rfl d121_180 (by decide) ?_
                      refine ev_cy1 185 rfl 115 d121_182 rfl rfl (by rw [G.1 _ _ (rfl : ai_sp 572 = (9, 0)) (by decide) (by decide)]; rfl) (by omega) rfl (show ai_Ev none 115 0 [some (.ref 572), some (.int (-5))] [] (S, I, L, F) _ from by rw [show ((-5) : Int32) = -(nI 5) by decide]; exact m_refuse (I := I) (L := L) (S := S) (F := F) G (k := 5) (by omega)) (fun v_2 I_1 hr_182 => ?_)
                      refine ev_iret (Or.inl rfl) d121_185 ?_
                      exact pm_ref hM (by omega) hr_182
                    · obtain ⟨j, hj, rfl⟩ := nn_nI (nl_le hc_149)
                      refine ev_iload_n 153 rfl d121_152 rfl ?_
                      refine ev_aload_n 154 rfl d121_153 rfl ?_
                      refine ev_getr 157 rfl 9 2 d121_154 rfl (by omega) (G.1 _ _ (rfl : ai_sp 572 = (9, 0)) (by decide) (by decide)) (G.2 _ _ _ (rfl : ai_rf 572 2 = some 575)) ?_
                      refine ev_iload_n 158 rfl d121_157 rfl ?_
                      refine ev_iald_n (v := nI (σ.sz p)) 159 rfl d121_158 (by omega) (G.1 _ _ (rfl : ai_sp 575 = (100, 8)) (by decide) (by decide)) (by omega) (by decide) (hM.sz _ (by omega)) ?_
                      refine ev_iload 161 rfl d121_159 rfl ?_
                      refine ev_isub (v := nI (σ.sz p) - nI n) 162 rfl d121_161 rfl ?_
                      refine ev_icmp 179 165 (by decide) rfl (csub_gt (by omega) (by omega) (by omega)) d121_162 (fun hc_162 => ?_) (fun hc_162 => ?_)
                      · rw [c_F (fun h9 => rng_FN (by omega) (by omega) (by omega) hc_162 h9.1)]
                        refine ev_aload_n 180 rfl d121_179 rfl ?_
                        refine ev_bipush (v := (-5)) 182 rfl d121_180 (by decide) ?_
                        refine ev_cy1 185 rfl 115 d121_182 rfl rfl (by rw [G.1 _ _ (rfl : ai_sp 572 = (9, 0)) (by decide) (by decide)]; rfl) (by omega) rfl (show ai_Ev none 115 0 [some (.ref 572), some (.int (-5))] [] (S, I, L, F) _ from by rw [show ((-5) : Int32) = -(nI 5) by decide]; exact m_refuse (I := I) (L := L) (S := S) (F := F) G (k := 5) (by omega)) (fun v_2 I_1 hr_182 => ?_)
                        refine ev_iret (Or.inl rfl) d121_185 ?_
                        exact pm_ref hM (by omega) hr_182
                      · refine ev_iload 167 rfl d121_165 rfl ?_
                        refine ev_aload_n 168 rfl d121_167 rfl ?_
                        refine ev_getr 171 rfl 9 2 d121_168 rfl (by omega) (G.1 _ _ (rfl : ai_sp 572 = (9, 0)) (by decide) (by decide)) (G.2 _ _ _ (rfl : ai_rf 572 2 = some 575)) ?_
                        refine ev_iload_n 172 rfl d121_171 rfl ?_
                        refine ev_iald_n (v := nI (σ.sz q)) 173 rfl d121_172 (by omega) (G.1 _ _ (rfl : ai_sp 575 = (100, 8)) (by decide) (by decide)) (by omega) (by decide) (hM.sz _ (by omega)) ?_
                        refine ev_iload 175 rfl d121_173 rfl ?_
                        refine ev_isub (v := nI (σ.sz q) - nI n) 176 rfl d121_175 rfl ?_
                        refine ev_icmp 186 179 (by decide) rfl (csub_le (by omega) (by omega) (by omega)) d121_176 (fun hc_176 => ?_) (fun hc_176 => ?_)
                        · rw [c_T ⟨rng_TN (by omega), rng_TN (by omega)⟩]
                          simp only [nn_I (show i < 2147483648 by omega)]
                          simp only [nn_I (show j < 2147483648 by omega)]
                          simp only [nn_I (show n < 2147483648 by omega)]
                          refine ev_iconst (v := nI 0) 187 rfl d121_186 (by decide) ?_
                          refine ev_store_i 189 rfl d121_187 ⟨rfl, Nat.le_of_ble_eq_true rfl⟩ rfl ?_
                          show ai_Ev _ _ _ [some (.ref 572), some (.int (nI p)), some (.int (nI q)), some (.int (nI i)), some (.int (nI j)), some (.int (nI n)), some (.int (nI 0)), some (.int (nI 0))] _ _ _
                          exact m_cp1 G hM hV hp hq (by omega) (by omega) (by omega) n 0 L (by omega) (fun x hx => absurd hx (by omega)) (fun _ _ => rfl)
                        · rw [c_F (fun h9 => rng_FN (by omega) (by omega) (by omega) (by omega) h9.2)]
                          refine ev_aload_n 180 rfl d121_179 rfl ?_
                          refine ev_bipush (v := (-5)) 182 rfl d121_180 (by decide) ?_
                          refine ev_cy1 185 rfl 115 d121_182 rfl rfl (by rw [G.1 _ _ (rfl : ai_sp 572 = (9, 0)) (by decide) (by decide)]; rfl) (by omega) rfl (show ai_Ev none 115 0 [some (.ref 572), some (.int (-5))] [] (S, I, L, F) _ from by rw [show ((-5) : Int32) = -(nI 5) by decide]; exact m_refuse (I := I) (L := L) (S := S) (F := F) G (k := 5) (by omega)) (fun v_2 I_1 hr_182 => ?_)
                          refine ev_iret (Or.inl rfl) d121_185 ?_
                          exact pm_ref hM (by omega) hr_182
                · rw [c_T (Int32.not_le.mp hc_133)]
                  refine ev_aload_n 137 rfl d121_136 rfl ?_
                  refine ev_bipush (v := (-4)) 139 rfl d121_137 (by decide) ?_
                  refine ev_cy1 142 rfl 115 d121_139 rfl rfl (by rw [G.1 _ _ (rfl : ai_sp 572 = (9, 0)) (by decide) (by decide)]; rfl) (by omega) rfl (show ai_Ev none 115 0 [some (.ref 572), some (.int (-4))] [] (S, I, L, F) _ from by rw [show ((-4) : Int32) = -(nI 4) by decide]; exact m_refuse (I := I) (L := L) (S := S) (F := F) G (k := 4) (by omega)) (fun v_2 I_1 hr_139 => ?_)
                  refine ev_iret (Or.inl rfl) d121_142 ?_
                  exact pm_ref hM (by omega) hr_139
              · rw [c_F (fun h9 => absurd h9.2 (by omega))]
                refine ev_aload_n 125 rfl d121_124 rfl ?_
                refine ev_bipush (v := (-3)) 127 rfl d121_125 (by decide) ?_
                refine ev_cy1 130 rfl 115 d121_127 rfl rfl (by rw [G.1 _ _ (rfl : ai_sp 572 = (9, 0)) (by decide) (by decide)]; rfl) (by omega) rfl (show ai_Ev none 115 0 [some (.ref 572), some (.int (-3))] [] (S, I, L, F) _ from by rw [show ((-3) : Int32) = -(nI 3) by decide]; exact m_refuse (I := I) (L := L) (S := S) (F := F) G (k := 3) (by omega)) (fun v_2 I_1 hr_127 => ?_)
                refine ev_iret (Or.inl rfl) d121_130 ?_
                exact pm_ref hM (by omega) hr_127
          · refine ev_aload_n 76 rfl d121_75 rfl ?_
            refine ev_getr 79 rfl 9 1 d121_76 rfl (by omega) (G.1 _ _ (rfl : ai_sp 572 = (9, 0)) (by decide) (by decide)) (G.2 _ _ _ (rfl : ai_rf 572 1 = some 574)) ?_
            refine ev_iload_n 80 rfl d121_79 rfl ?_
            refine ev_iald_n (v := nI (σ.hd q) - 1) 81 rfl d121_80 (by omega) (G.1 _ _ (rfl : ai_sp 574 = (100, 8)) (by decide) (by decide)) (by omega) (by decide) (hM.hd _ (by omega)) ?_
            refine ev_if 106 84 (by decide) rfl (cq0_lt (by omega)) d121_81 (fun hc_81 => ?_) (fun hc_81 => ?_)
            · rw [c_F (by unfold ai_S.pers; omega)]
              refine ev_aload_n 107 rfl d121_106 rfl ?_
              refine ev_getr 110 rfl 9 1 d121_107 rfl (by omega) (G.1 _ _ (rfl : ai_sp 572 = (9, 0)) (by decide) (by decide)) (G.2 _ _ _ (rfl : ai_rf 572 1 = some 574)) ?_
              refine ev_iload_n 111 rfl d121_110 rfl ?_
              refine ev_iald_n (v := nI (σ.hd p) - 1) 112 rfl d121_111 (by omega) (G.1 _ _ (rfl : ai_sp 574 = (100, 8)) (by decide) (by decide)) (by omega) (by decide) (hM.hd _ (by omega)) ?_
              refine ev_if 124 115 (by decide) rfl (cq0_lt (by omega)) d121_112 (fun hc_112 => ?_) (fun hc_112 => ?_)
              · rw [c_F (fun h9 => absurd h9.1 (by omega))]
                refine ev_aload_n 125 rfl d121_124 rfl ?_
                refine ev_bipush (v := (-3)) 127 rfl d121_125 (by decide) ?_
                refine ev_cy1 130 rfl 115 d121_127 rfl rfl (by rw [G.1 _ _ (rfl : ai_sp 572 = (9, 0)) (by decide) (by decide)]; rfl) (by omega) rfl (show ai_Ev none 115 0 [some (.ref 572), some (.int (-3))] [] (S, I, L, F) _ from by rw [show ((-3) : Int32) = -(nI 3) by decide]; exact m_refuse (I := I) (L := L) (S := S) (F := F) G (k := 3) (by omega)) (fun v_2 I_1 hr_127 => ?_)
                refine ev_iret (Or.inl rfl) d121_130 ?_
                exact pm_ref hM (by omega) hr_127
              · refine ev_aload_n 116 rfl d121_115 rfl ?_
                refine ev_getr 119 rfl 9 1 d121_116 rfl (by omega) (G.1 _ _ (rfl : ai_sp 572 = (9, 0)) (by decide) (by decide)) (G.2 _ _ _ (rfl : ai_rf 572 1 = some 574)) ?_
                refine ev_iload_n 120 rfl d121_119 rfl ?_
                refine ev_iald_n (v := nI (σ.hd q) - 1) 121 rfl d121_120 (by omega) (G.1 _ _ (rfl : ai_sp 574 = (100, 8)) (by decide) (by decide)) (by omega) (by decide) (hM.hd _ (by omega)) ?_
                refine ev_if 131 124 (by decide) rfl (cq0_ge (by omega)) d121_121 (fun hc_121 => ?_) (fun hc_121 => ?_)
                · rw [c_T ⟨by omega, by omega⟩]
                  refine ev_iload 133 rfl d121_131 rfl ?_
                  refine ev_if 143 136 (by decide) rfl cz_ge d121_133 (fun hc_133 => ?_) (fun hc_133 => ?_)
                  · rw [c_F (Int32.not_lt.mpr hc_133)]
                    obtain ⟨n, hn, rfl⟩ := nn_nI ( hc_133)
                    refine ev_iload_n 144 rfl d121_143 rfl ?_
                    refine ev_if 179 147 (by decide) rfl cz_lt d121_144 (fun hc_144 => ?_) (fun hc_144 => ?_)
                    · rw [c_F (fun h9 => rng_F1 (by omega) hc_144 h9.1)]
                      refine ev_aload_n 180 rfl d121_179 rfl ?_
                      refine ev_bipush (v := (-5)) 182 rfl d121_180 (by decide) ?_
                      refine ev_cy1 185 rfl 115 d121_182 rfl rfl (by rw [G.1 _ _ (rfl : ai_sp 572 = (9, 0)) (by decide) (by decide)]; rfl) (by omega) rfl (show ai_Ev none 115 0 [some (.ref 572), some (.int (-5))] [] (S, I, L, F) _ from by rw [show ((-5) : Int32) = -(nI 5) by decide]; exact m_refuse (I := I) (L := L) (S := S) (F := F) G (k := 5) (by omega)) (fun v_2 I_1 hr_182 => ?_)
                      refine ev_iret (Or.inl rfl) d121_185 ?_
                      exact pm_ref hM (by omega) hr_182
                    · obtain ⟨i, hi, rfl⟩ := nn_nI (nl_le hc_144)
                      refine ev_iload 149 rfl d121_147 rfl ?_
                      refine ev_if 179 152 (by decide) rfl cz_lt d121_149 (fun hc_149 => ?_) (fun hc_149 => ?_)
                      · rw [c_F (fun h9 => rng_F1 (by omega) hc_149 h9.2)]
                        refine ev_aload_n 180 rfl d121_179 rfl ?_
                        refine ev_bipush (v := (-5)) 182 rfl d121_180 (by decide) ?_
                        refine ev_cy1 185 rfl 115 d121_182 rfl rfl (by rw [G.1 _ _ (rfl : ai_sp 572 = (9, 0)) (by decide) (by decide)]; rfl) (by omega) rfl (show ai_Ev none 115 0 [some (.ref 572), some (.int (-5))] [] (S, I, L, F) _ from by rw [show ((-5) : Int32) = -(nI 5) by decide]; exact m_refuse (I := I) (L := L) (S := S) (F := F) G (k := 5) (by omega)) (fun v_2 I_1 hr_182 => ?_)
                        refine ev_iret (Or.inl rfl) d121_185 ?_
                        exact pm_ref hM (by omega) hr_182
                      · obtain ⟨j, hj, rfl⟩ := nn_nI (nl_le hc_149)
                        refine ev_iload_n 153 rfl d121_152 rfl ?_
                        refine ev_aload_n 154 rfl d121_153 rfl ?_
                        refine ev_getr 157 rfl 9 2 d121_154 rfl (by omega) (G.1 _ _ (rfl : ai_sp 572 = (9, 0)) (by decide) (by decide)) (G.2 _ _ _ (rfl : ai_rf 572 2 = some 575)) ?_
                        refine ev_iload_n 158 rfl d121_157 rfl ?_
                        refine ev_iald_n (v := nI (σ.sz p)) 159 rfl d121_158 (by omega) (G.1 _ _ (rfl : ai_sp 575 = (100, 8)) (by decide) (by decide)) (by omega) (by decide) (hM.sz _ (by omega)) ?_
                        refine ev_iload 161 rfl d121_159 rfl ?_
                        refine ev_isub (v := nI (σ.sz p) - nI n) 162 rfl d121_161 rfl ?_
                        refine ev_icmp 179 165 (by decide) rfl (csub_gt (by omega) (by omega) (by omega)) d121_162 (fun hc_162 => ?_) (fun hc_162 => ?_)
                        · rw [c_F (fun h9 => rng_FN (by omega) (by omega) (by omega) hc_162 h9.1)]
                          refine ev_aload_n 180 rfl d121_179 rfl ?_
                          refine ev_bipush (v := (-5)) 182 rfl d121_180 (by decide) ?_
                          refine ev_cy1 185 rfl 115 d121_182 rfl rfl (by rw [G.1 _ _ (rfl : ai_sp 572 = (9, 0)) (by decide) (by decide)]; rfl) (by omega) rfl (show ai_Ev none 115 0 [some (.ref 572), some (.int (-5))] [] (S, I, L, F) _ from by rw [show ((-5) : Int32) = -(nI 5) by decide]; exact m_refuse (I := I) (L := L) (S := S) (F := F) G (k := 5) (by omega)) (fun v_2 I_1 hr_182 => ?_)
                          refine ev_iret (Or.inl rfl) d121_185 ?_
                          exact pm_ref hM (by omega) hr_182
                        · refine ev_iload 167 rfl d121_165 rfl ?_
                          refine ev_aload_n 168 rfl d121_167 rfl ?_
                          refine ev_getr 171 rfl 9 2 d121_168 rfl (by omega) (G.1 _ _ (rfl : ai_sp 572 = (9, 0)) (by decide) (by decide)) (G.2 _ _ _ (rfl : ai_rf 572 2 = some 575)) ?_
                          refine ev_iload_n 172 rfl d121_171 rfl ?_
                          refine ev_iald_n (v := nI (σ.sz q)) 173 rfl d121_172 (by omega) (G.1 _ _ (rfl : ai_sp 575 = (100, 8)) (by decide) (by decide)) (by omega) (by decide) (hM.sz _ (by omega)) ?_
                          refine ev_iload 175 rfl d121_173 rfl ?_
                          refine ev_isub (v := nI (σ.sz q) - nI n) 176 rfl d121_175 rfl ?_
                          refine ev_icmp 186 179 (by decide) rfl (csub_le (by omega) (by omega) (by omega)) d121_176 (fun hc_176 => ?_) (fun hc_176 => ?_)
                          · rw [c_T ⟨rng_TN (by omega), rng_TN (by omega)⟩]
                            simp only [nn_I (show i < 2147483648 by omega)]
                            simp only [nn_I (show j < 2147483648 by omega)]
                            simp only [nn_I (show n < 2147483648 by omega)]
                            refine ev_iconst (v := nI 0) 187 rfl d121_186 (by decide) ?_
                            refine ev_store_i 189 rfl d121_187 ⟨rfl, Nat.le_of_ble_eq_true rfl⟩ rfl ?_
                            show ai_Ev _ _ _ [some (.ref 572), some (.int (nI p)), some (.int (nI q)), some (.int (nI i)), some (.int (nI j)), some (.int (nI n)), some (.int (nI 0)), some (.int (nI 0))] _ _ _
                            exact m_cp1 G hM hV hp hq (by omega) (by omega) (by omega) n 0 L (by omega) (fun x hx => absurd hx (by omega)) (fun _ _ => rfl)
                          · rw [c_F (fun h9 => rng_FN (by omega) (by omega) (by omega) (by omega) h9.2)]
                            refine ev_aload_n 180 rfl d121_179 rfl ?_
                            refine ev_bipush (v := (-5)) 182 rfl d121_180 (by decide) ?_
                            refine ev_cy1 185 rfl 115 d121_182 rfl rfl (by rw [G.1 _ _ (rfl : ai_sp 572 = (9, 0)) (by decide) (by decide)]; rfl) (by omega) rfl (show ai_Ev none 115 0 [some (.ref 572), some (.int (-5))] [] (S, I, L, F) _ from by rw [show ((-5) : Int32) = -(nI 5) by decide]; exact m_refuse (I := I) (L := L) (S := S) (F := F) G (k := 5) (by omega)) (fun v_2 I_1 hr_182 => ?_)
                            refine ev_iret (Or.inl rfl) d121_185 ?_
                            exact pm_ref hM (by omega) hr_182
                  · rw [c_T (Int32.not_le.mp hc_133)]
                    refine ev_aload_n 137 rfl d121_136 rfl ?_
                    refine ev_bipush (v := (-4)) 139 rfl d121_137 (by decide) ?_
                    refine ev_cy1 142 rfl 115 d121_139 rfl rfl (by rw [G.1 _ _ (rfl : ai_sp 572 = (9, 0)) (by decide) (by decide)]; rfl) (by omega) rfl (show ai_Ev none 115 0 [some (.ref 572), some (.int (-4))] [] (S, I, L, F) _ from by rw [show ((-4) : Int32) = -(nI 4) by decide]; exact m_refuse (I := I) (L := L) (S := S) (F := F) G (k := 4) (by omega)) (fun v_2 I_1 hr_139 => ?_)
                    refine ev_iret (Or.inl rfl) d121_142 ?_
                    exact pm_ref hM (by omega) hr_139
                · rw [c_F (fun h9 => absurd h9.2 (by omega))]
                  refine ev_aload_n 125 rfl d121_124 rfl ?_
                  refine ev_bipush (v := (-3)) 127 rfl d121_125 (by decide) ?_
                  refine ev_cy1 130 rfl 115 d121_127 rfl rfl (by rw [G.1 _ _ (rfl : ai_sp 572 = (9, 0)) (by decide) (by decide)]; rfl) (by omega) rfl (show ai_Ev none 115 0 [some (.ref 572), some (.int (-3))] [] (S, I, L, F) _ from by rw [show ((-3) : Int32) = -(nI 3) by decide]; exact m_refuse (I := I) (L := L) (S := S) (F := F) G (k := 3) (by omega)) (fun v_2 I_1 hr_127 => ?_)
                  refine ev_iret (Or.inl rfl) d121_130 ?_
                  exact pm_ref hM (by omega) hr_127
            · refine ev_aload_n 85 rfl d121_84 rfl ?_
              refine ev_getr 88 rfl 9 1 d121_85 rfl (by omega) (G.1 _ _ (rfl : ai_sp 572 = (9, 0)) (by decide) (by decide)) (G.2 _ _ _ (rfl : ai_rf 572 1 = some 574)) ?_
              refine ev_iload_n 89 rfl d121_88 rfl ?_
              refine ev_iald_n (v := nI (σ.hd p) - 1) 90 rfl d121_89 (by omega) (G.1 _ _ (rfl : ai_sp 574 = (100, 8)) (by decide) (by decide)) (by omega) (by decide) (hM.hd _ (by omega)) ?_
              refine ev_aload_n 91 rfl d121_90 rfl ?_
              refine ev_getr 94 rfl 9 1 d121_91 rfl (by omega) (G.1 _ _ (rfl : ai_sp 572 = (9, 0)) (by decide) (by decide)) (G.2 _ _ _ (rfl : ai_rf 572 1 = some 574)) ?_
              refine ev_iload_n 95 rfl d121_94 rfl ?_
              refine ev_iald_n (v := nI (σ.hd q) - 1) 96 rfl d121_95 (by omega) (G.1 _ _ (rfl : ai_sp 574 = (100, 8)) (by decide) (by decide)) (by omega) (by decide) (hM.hd _ (by omega)) ?_
              refine ev_icmp 106 99 (by decide) rfl (cmm_eq (by omega) (by omega)) d121_96 (fun hc_96 => ?_) (fun hc_96 => ?_)
              · rw [c_F (by unfold ai_S.pers; omega)]
                refine ev_aload_n 107 rfl d121_106 rfl ?_
                refine ev_getr 110 rfl 9 1 d121_107 rfl (by omega) (G.1 _ _ (rfl : ai_sp 572 = (9, 0)) (by decide) (by decide)) (G.2 _ _ _ (rfl : ai_rf 572 1 = some 574)) ?_
                refine ev_iload_n 111 rfl d121_110 rfl ?_
                refine ev_iald_n (v := nI (σ.hd p) - 1) 112 rfl d121_111 (by omega) (G.1 _ _ (rfl : ai_sp 574 = (100, 8)) (by decide) (by decide)) (by omega) (by decide) (hM.hd _ (by omega)) ?_
                refine ev_if 124 115 (by decide) rfl (cq0_lt (by omega)) d121_112 (fun hc_112 => ?_) (fun hc_112 => ?_)
                · rw [c_F (fun h9 => absurd h9.1 (by omega))]
                  refine ev_aload_n 125 rfl d121_124 rfl ?_
                  refine ev_bipush (v := (-3)) 127 rfl d121_125 (by decide) ?_
                  refine ev_cy1 130 rfl 115 d121_127 rfl rfl (by rw [G.1 _ _ (rfl : ai_sp 572 = (9, 0)) (by decide) (by decide)]; rfl) (by omega) rfl (show ai_Ev none 115 0 [some (.ref 572), some (.int (-3))] [] (S, I, L, F) _ from by rw [show ((-3) : Int32) = -(nI 3) by decide]; exact m_refuse (I := I) (L := L) (S := S) (F := F) G (k := 3) (by omega)) (fun v_2 I_1 hr_127 => ?_)
                  refine ev_iret (Or.inl rfl) d121_130 ?_
                  exact pm_ref hM (by omega) hr_127
                · refine ev_aload_n 116 rfl d121_115 rfl ?_
                  refine ev_getr 119 rfl 9 1 d121_116 rfl (by omega) (G.1 _ _ (rfl : ai_sp 572 = (9, 0)) (by decide) (by decide)) (G.2 _ _ _ (rfl : ai_rf 572 1 = some 574)) ?_
                  refine ev_iload_n 120 rfl d121_119 rfl ?_
                  refine ev_iald_n (v := nI (σ.hd q) - 1) 121 rfl d121_120 (by omega) (G.1 _ _ (rfl : ai_sp 574 = (100, 8)) (by decide) (by decide)) (by omega) (by decide) (hM.hd _ (by omega)) ?_
                  refine ev_if 131 124 (by decide) rfl (cq0_ge (by omega)) d121_121 (fun hc_121 => ?_) (fun hc_121 => ?_)
                  · rw [c_T ⟨by omega, by omega⟩]
                    refine ev_iload 133 rfl d121_131 rfl ?_
                    refine ev_if 143 136 (by decide) rfl cz_ge d121_133 (fun hc_133 => ?_) (fun hc_133 => ?_)
                    · rw [c_F (Int32.not_lt.mpr hc_133)]
                      obtain ⟨n, hn, rfl⟩ := nn_nI ( hc_133)
                      refine ev_iload_n 144 rfl d121_143 rfl ?_
                      refine ev_if 179 147 (by decide) rfl cz_lt d121_144 (fun hc_144 => ?_) (fun hc_144 => ?_)
                      · rw [c_F (fun h9 => rng_F1 (by omega) hc_144 h9.1)]
                        refine ev_aload_n 180 rfl d121_179 rfl ?_
                        refine ev_bipush (v := (-5)) 182 rfl d121_180 (by decide) ?_
                        refine ev_cy1 185 rfl 115 d121_182 rfl rfl (by rw [G.1 _ _ (rfl : ai_sp 572 = (9, 0)) (by decide) (by decide)]; rfl) (by omega) rfl (show ai_Ev none 115 0 [some (.ref 572), some (.int (-5))] [] (S, I, L, F) _ from by rw [show ((-5) : Int32) = -(nI 5) by decide]; exact m_refuse (I := I) (L := L) (S := S) (F := F) G (k := 5) (by omega)) (fun v_2 I_1 hr_182 => ?_)
                        refine ev_iret (Or.inl rfl) d121_185 ?_
                        exact pm_ref hM (by omega) hr_182
                      · obtain ⟨i, hi, rfl⟩ := nn_nI (nl_le hc_144)
                        refine ev_iload 149 rfl d121_147 rfl ?_
                        refine ev_if 179 152 (by decide) rfl cz_lt d121_149 (fun hc_149 => ?_) (fun hc_149 => ?_)
                        · rw [c_F (fun h9 => rng_F1 (by omega) hc_149 h9.2)]
                          refine ev_aload_n 180 rfl d121_179 rfl ?_
                          refine ev_bipush (v := (-5)) 182 rfl d121_180 (by decide) ?_
                          refine ev_cy1 185 rfl 115 d121_182 rfl rfl (by rw [G.1 _ _ (rfl : ai_sp 572 = (9, 0)) (by decide) (by decide)]; rfl) (by omega) rfl (show ai_Ev none 115 0 [some (.ref 572), some (.int (-5))] [] (S, I, L, F) _ from by rw [show ((-5) : Int32) = -(nI 5) by decide]; exact m_refuse (I := I) (L := L) (S := S) (F := F) G (k := 5) (by omega)) (fun v_2 I_1 hr_182 => ?_)
                          refine ev_iret (Or.inl rfl) d121_185 ?_
                          exact pm_ref hM (by omega) hr_182
                        · obtain ⟨j, hj, rfl⟩ := nn_nI (nl_le hc_149)
                          refine ev_iload_n 153 rfl d121_152 rfl ?_
                          refine ev_aload_n 154 rfl d121_153 rfl ?_
                          refine ev_getr 157 rfl 9 2 d121_154 rfl (by omega) (G.1 _ _ (rfl : ai_sp 572 = (9, 0)) (by decide) (by decide)) (G.2 _ _ _ (rfl : ai_rf 572 2 = some 575)) ?_
                          refine ev_iload_n 158 rfl d121_157 rfl ?_
                          refine ev_iald_n (v := nI (σ.sz p)) 159 rfl d121_158 (by omega) (G.1 _ _ (rfl : ai_sp 575 = (100, 8)) (by decide) (by decide)) (by omega) (by decide) (hM.sz _ (by omega)) ?_
                          refine ev_iload 161 rfl d121_159 rfl ?_
                          refine ev_isub (v := nI (σ.sz p) - nI n) 162 rfl d121_161 rfl ?_
                          refine ev_icmp 179 165 (by decide) rfl (csub_gt (by omega) (by omega) (by omega)) d121_162 (fun hc_162 => ?_) (fun hc_162 => ?_)
                          · rw [c_F (fun h9 => rng_FN (by omega) (by omega) (by omega) hc_162 h9.1)]
                            refine ev_aload_n 180 rfl d121_179 rfl ?_
                            refine ev_bipush (v := (-5)) 182 rfl d121_180 (by decide) ?_
                            refine ev_cy1 185 rfl 115 d121_182 rfl rfl (by rw [G.1 _ _ (rfl : ai_sp 572 = (9, 0)) (by decide) (by decide)]; rfl) (by omega) rfl (show ai_Ev none 115 0 [some (.ref 572), some (.int (-5))] [] (S, I, L, F) _ from by rw [show ((-5) : Int32) = -(nI 5) by decide]; exact m_refuse (I := I) (L := L) (S := S) (F := F) G (k := 5) (by omega)) (fun v_2 I_1 hr_182 => ?_)
                            refine ev_iret (Or.inl rfl) d121_185 ?_
                            exact pm_ref hM (by omega) hr_182
                          · refine ev_iload 167 rfl d121_165 rfl ?_
                            refine ev_aload_n 168 rfl d121_167 rfl ?_
                            refine ev_getr 171 rfl 9 2 d121_168 rfl (by omega) (G.1 _ _ (rfl : ai_sp 572 = (9, 0)) (by decide) (by decide)) (G.2 _ _ _ (rfl : ai_rf 572 2 = some 575)) ?_
                            refine ev_iload_n 172 rfl d121_171 rfl ?_
                            refine ev_iald_n (v := nI (σ.sz q)) 173 rfl d121_172 (by omega) (G.1 _ _ (rfl : ai_sp 575 = (100, 8)) (by decide) (by decide)) (by omega) (by decide) (hM.sz _ (by omega)) ?_
                            refine ev_iload 175 rfl d121_173 rfl ?_
                            refine ev_isub (v := nI (σ.sz q) - nI n) 176 rfl d121_175 rfl ?_
                            refine ev_icmp 186 179 (by decide) rfl (csub_le (by omega) (by omega) (by omega)) d121_176 (fun hc_176 => ?_) (fun hc_176 => ?_)
                            · rw [c_T ⟨rng_TN (by omega), rng_TN (by omega)⟩]
                              simp only [nn_I (show i < 2147483648 by omega)]
                              simp only [nn_I (show j < 2147483648 by omega)]
                              simp only [nn_I (show n < 2147483648 by omega)]
                              refine ev_iconst (v := nI 0) 187 rfl d121_186 (by decide) ?_
                              refine ev_store_i 189 rfl d121_187 ⟨rfl, Nat.le_of_ble_eq_true rfl⟩ rfl ?_
                              show ai_Ev _ _ _ [some (.ref 572), some (.int (nI p)), some (.int (nI q)), some (.int (nI i)), some (.int (nI j)), some (.int (nI n)), some (.int (nI 0)), some (.int (nI 0))] _ _ _
                              exact m_cp1 G hM hV hp hq (by omega) (by omega) (by omega) n 0 L (by omega) (fun x hx => absurd hx (by omega)) (fun _ _ => rfl)
                            · rw [c_F (fun h9 => rng_FN (by omega) (by omega) (by omega) (by omega) h9.2)]
                              refine ev_aload_n 180 rfl d121_179 rfl ?_
                              refine ev_bipush (v := (-5)) 182 rfl d121_180 (by decide) ?_
                              refine ev_cy1 185 rfl 115 d121_182 rfl rfl (by rw [G.1 _ _ (rfl : ai_sp 572 = (9, 0)) (by decide) (by decide)]; rfl) (by omega) rfl (show ai_Ev none 115 0 [some (.ref 572), some (.int (-5))] [] (S, I, L, F) _ from by rw [show ((-5) : Int32) = -(nI 5) by decide]; exact m_refuse (I := I) (L := L) (S := S) (F := F) G (k := 5) (by omega)) (fun v_2 I_1 hr_182 => ?_)
                              refine ev_iret (Or.inl rfl) d121_185 ?_
                              exact pm_ref hM (by omega) hr_182
                    · rw [c_T (Int32.not_le.mp hc_133)]
                      refine ev_aload_n 137 rfl d121_136 rfl ?_
                      refine ev_bipush (v := (-4)) 139 rfl d121_137 (by decide) ?_
                      refine ev_cy1 142 rfl 115 d121_139 rfl rfl (by rw [G.1 _ _ (rfl : ai_sp 572 = (9, 0)) (by decide) (by decide)]; rfl) (by omega) rfl (show ai_Ev none 115 0 [some (.ref 572), some (.int (-4))] [] (S, I, L, F) _ from by rw [show ((-4) : Int32) = -(nI 4) by decide]; exact m_refuse (I := I) (L := L) (S := S) (F := F) G (k := 4) (by omega)) (fun v_2 I_1 hr_139 => ?_)
                      refine ev_iret (Or.inl rfl) d121_142 ?_
                      exact pm_ref hM (by omega) hr_139
                  · rw [c_F (fun h9 => absurd h9.2 (by omega))]
                    refine ev_aload_n 125 rfl d121_124 rfl ?_
                    refine ev_bipush (v := (-3)) 127 rfl d121_125 (by decide) ?_
                    refine ev_cy1 130 rfl 115 d121_127 rfl rfl (by rw [G.1 _ _ (rfl : ai_sp 572 = (9, 0)) (by decide) (by decide)]; rfl) (by omega) rfl (show ai_Ev none 115 0 [some (.ref 572), some (.int (-3))] [] (S, I, L, F) _ from by rw [show ((-3) : Int32) = -(nI 3) by decide]; exact m_refuse (I := I) (L := L) (S := S) (F := F) G (k := 3) (by omega)) (fun v_2 I_1 hr_127 => ?_)
                    refine ev_iret (Or.inl rfl) d121_130 ?_
                    exact pm_ref hM (by omega) hr_127
              · rw [c_T (Or.inr (Or.inr ⟨by omega, by omega, by omega⟩))]
                refine ev_aload_n 100 rfl d121_99 rfl ?_
                refine ev_bipush (v := (-2)) 102 rfl d121_100 (by decide) ?_
                refine ev_cy1 105 rfl 115 d121_102 rfl rfl (by rw [G.1 _ _ (rfl : ai_sp 572 = (9, 0)) (by decide) (by decide)]; rfl) (by omega) rfl (show ai_Ev none 115 0 [some (.ref 572), some (.int (-2))] [] (S, I, L, F) _ from by rw [show ((-2) : Int32) = -(nI 2) by decide]; exact m_refuse (I := I) (L := L) (S := S) (F := F) G (k := 2) (by omega)) (fun v_2 I_1 hr_102 => ?_)
                refine ev_iret (Or.inl rfl) d121_105 ?_
                exact pm_ref hM (by omega) hr_102
    · rw [c_F (fun h9 => hq_10 h9.2)]
      refine ev_if_F 22 16 (by decide) rfl (by decide) d121_13 ?_
      refine ev_aload_n 17 rfl d121_16 rfl ?_
      refine ev_iconst (v := (-1)) 18 rfl d121_17 (by decide) ?_
      refine ev_cy1 21 rfl 115 d121_18 rfl rfl (by rw [G.1 _ _ (rfl : ai_sp 572 = (9, 0)) (by decide) (by decide)]; rfl) (by omega) rfl (show ai_Ev none 115 0 [some (.ref 572), some (.int (-1))] [] (S, I, L, F) _ from by rw [show ((-1) : Int32) = -(nI 1) by decide]; exact m_refuse (I := I) (L := L) (S := S) (F := F) G (k := 1) (by omega)) (fun v_2 I_1 hr_18 => ?_)
      refine ev_iret (Or.inl rfl) d121_21 ?_
      exact pm_ref hM (by omega) hr_18
  · rw [c_F (fun h9 => hq_2 h9.1)]
    refine ev_if_T 16 (by decide) (by decide) d121_5 ?_
    refine ev_aload_n 17 rfl d121_16 rfl ?_
    refine ev_iconst (v := (-1)) 18 rfl d121_17 (by decide) ?_
    refine ev_cy1 21 rfl 115 d121_18 rfl rfl (by rw [G.1 _ _ (rfl : ai_sp 572 = (9, 0)) (by decide) (by decide)]; rfl) (by omega) rfl (show ai_Ev none 115 0 [some (.ref 572), some (.int (-1))] [] (S, I, L, F) _ from by rw [show ((-1) : Int32) = -(nI 1) by decide]; exact m_refuse (I := I) (L := L) (S := S) (F := F) G (k := 1) (by omega)) (fun v_2 I_1 hr_18 => ?_)
    refine ev_iret (Or.inl rfl) d121_21 ?_
    exact pm_ref hM (by omega) hr_18
def ai_fT9 (I I2 : Nat → Nat → Int32) (m : Nat) : Prop := ∀ a k, ¬ (a = 590 ∧ k / 16 = m) → ¬ (a = 591 ∧ k / 4 = m) → I2 a k = I a k
theorem m_ft_in (G : ai_G S F) {I0 : Nat → Nat → Int32} {j q n : Nat} (hj : j < 24) (hq : q < 5) (han : I0 578 q = nI n) {b : Nat} (hb : b < 4) {Q : Option Value → ai_H → Prop} (hk : ∀ I2, (∀ y, y < 4 → I2 590 (((5 * j + q) * 4 + y) * 4 + b) = nI 1) → (∀ a k, ¬ (a = 590 ∧ k / 16 = 5 * j + q ∧ k % 4 = b) → I2 a k = I0 a k) → ai_Ev none 127 55 [some (.ref 572), some (.int (nI j)), some (.int (nI q)), some (.int (nI b)), some (.int (nI 4))] [] (S, I2, L, F) Q) : ∀ (z a : Nat) (I : Nat → Nat → Int32), a + z = 4 → (∀ y, y < a → I 590 (((5 * j + q) * 4 + y) * 4 + b) = nI 1) → (∀ c k, ¬ (c = 590 ∧ k / 16 = 5 * j + q ∧ k % 4 = b) → I c k = I0 c k) → ai_Ev none 127 28 [some (.ref 572), some (.int (nI j)), some (.int (nI q)), some (.int (nI b)), some (.int (nI a))] [] (S, I, L, F) Q := by
  intro z
  induction z with
  | zero =>
    intro a I hz hd hf
    have e9 : a = 4 := by omega
    subst e9
    refine ev_iload 30 rfl d127_28 rfl ?_
    refine ev_iconst (v := nI 4) 31 rfl d127_30 (by decide) ?_
    refine ev_icmp_T 55 (by decide) (by decide) d127_31 ?_
    exact hk I hd hf
  | succ z ih =>
    intro a I hz hd hf
    refine ev_iload 30 rfl d127_28 rfl ?_
    refine ev_iconst (v := nI 4) 31 rfl d127_30 (by decide) ?_
    refine ev_icmp 55 34 (by decide) rfl (cn_ge (by omega) (by omega)) d127_31 (fun hc_31 => absurd hc_31 (by omega)) (fun hc_31 => ?_)
    refine ev_aload_n 35 rfl d127_34 rfl ?_
    refine ev_getr 38 rfl 9 24 d127_35 rfl (by omega) (G.1 _ _ (rfl : ai_sp 572 = (9, 0)) (by decide) (by decide)) (G.2 _ _ _ (rfl : ai_rf 572 24 = some 590)) ?_
    refine ev_aload_n 39 rfl d127_38 rfl ?_
    refine ev_iload_n 40 rfl d127_39 rfl ?_
    refine ev_iload_n 41 rfl d127_40 rfl ?_
    refine ev_iload 43 rfl d127_41 rfl ?_
    refine ev_iload_n 44 rfl d127_43 rfl ?_
    refine ev_cp4 47 rfl 125 d127_44 rfl rfl (by rw [G.1 _ _ (rfl : ai_sp 572 = (9, 0)) (by decide) (by decide)]; rfl) (by omega) rfl (m_topAt G) ?_
    refine ev_iconst (v := nI 1) 48 rfl d127_47 (by decide) ?_
    obtain ⟨I_1, hI_1⟩ : ∃ z, z = ai_ui I 590 (((5 * j + q) * 4 + a) * 4 + b) (nI 1) := ⟨_, rfl⟩
    refine ev_iast_n (I2 := I_1) 49 rfl d127_48 (by omega) (G.1 _ _ (rfl : ai_sp 590 = (100, 1920)) (by decide) (by decide)) (by omega) (by decide) hI_1.symm ?_
    refine ev_iinc (v := nI (a + 1)) 52 rfl d127_49 rfl (Nat.le_of_ble_eq_true rfl) (nI_add _ 1) rfl ?_
    show ai_Ev _ _ _ [some (.ref 572), some (.int (nI j)), some (.int (nI q)), some (.int (nI b)), some (.int (nI (a + 1)))] _ _ _
    refine ev_goto 28 (by decide) d127_52 ?_
    refine ih (a + 1) _ (by omega) (fun y hy => ?_) (fun c k hc => by rw [ui_other hI_1 (by omega)]; exact hf c k hc)
    by_cases e : y = a
    · subst e; exact ui_same hI_1
    · rw [ui_other hI_1 (by omega)]; exact hd y (by omega)
theorem m_ft_loop (G : ai_G S F) {I0 : Nat → Nat → Int32} {j q n : Nat} (hj : j < 24) (hq : q < 5) (han : I0 578 q = nI n) : ∀ (z b : Nat) (I : Nat → Nat → Int32) (u4 : Option Value), b + z = 4 → (∀ x, x < b → I 591 ((5 * j + q) * 4 + x) = nI n) → (∀ y x, x < b → y < 4 → I 590 (((5 * j + q) * 4 + y) * 4 + x) = nI 1) → ai_fT9 I0 I (5 * j + q) → ai_Ev none 127 2 [some (.ref 572), some (.int (nI j)), some (.int (nI q)), some (.int (nI b)), u4] [] (S, I, L, F) (ai_Pu S F L (fun I2 => (∀ x, x < 4 → I2 591 ((5 * j + q) * 4 + x) = nI n) ∧ (∀ y x, x < 4 → y < 4 → I2 590 (((5 * j + q) * 4 + y) * 4 + x) = nI 1) ∧ ai_fT9 I0 I2 (5 * j + q))) := by
  intro z
  induction z with
  | zero =>
    intro b I u4 hz hd ht hf
    have e9 : b = 4 := by omega
    subst e9
    refine ev_iload_n 3 rfl d127_2 rfl ?_
    refine ev_iconst (v := nI 4) 4 rfl d127_3 (by decide) ?_
    refine ev_icmp_T 61 (by decide) (by decide) d127_4 ?_
    refine ev_vret rfl d127_61 ?_
    exact ⟨rfl, _, rfl, hd, ht, hf⟩
  | succ z ih =>
    intro b I u4 hz hd ht hf
    refine ev_iload_n 3 rfl d127_2 rfl ?_
    refine ev_iconst (v := nI 4) 4 rfl d127_3 (by decide) ?_
    refine ev_icmp 61 7 (by decide) rfl (cn_ge (by omega) (by omega)) d127_4 (fun hc_4 => absurd hc_4 (by omega)) (fun hc_4 => ?_)
    refine ev_aload_n 8 rfl d127_7 rfl ?_
    refine ev_getr 11 rfl 9 25 d127_8 rfl (by omega) (G.1 _ _ (rfl : ai_sp 572 = (9, 0)) (by decide) (by decide)) (G.2 _ _ _ (rfl : ai_rf 572 25 = some 591)) ?_
    refine ev_aload_n 12 rfl d127_11 rfl ?_
    refine ev_iload_n 13 rfl d127_12 rfl ?_
    refine ev_iload_n 14 rfl d127_13 rfl ?_
    refine ev_iload_n 15 rfl d127_14 rfl ?_
    refine ev_cp3 18 rfl 126 d127_15 rfl rfl (by rw [G.1 _ _ (rfl : ai_sp 572 = (9, 0)) (by decide) (by decide)]; rfl) (by omega) rfl (m_botAt G) ?_
    refine ev_aload_n 19 rfl d127_18 rfl ?_
    refine ev_getr 22 rfl 9 8 d127_19 rfl (by omega) (G.1 _ _ (rfl : ai_sp 572 = (9, 0)) (by decide) (by decide)) (G.2 _ _ _ (rfl : ai_rf 572 8 = some 578)) ?_
    refine ev_iload_n 23 rfl d127_22 rfl ?_
    refine ev_iald_n (v := nI n) 24 rfl d127_23 (by omega) (G.1 _ _ (rfl : ai_sp 578 = (100, 5)) (by decide) (by decide)) (by omega) (by decide) ((hf _ _ (by omega) (by omega)).trans han) ?_
    obtain ⟨I_1, hI_1⟩ : ∃ z, z = ai_ui I 591 ((5 * j + q) * 4 + b) (nI n) := ⟨_, rfl⟩
    refine ev_iast_n (I2 := I_1) 25 rfl d127_24 (by omega) (G.1 _ _ (rfl : ai_sp 591 = (100, 480)) (by decide) (by decide)) (by omega) (by decide) hI_1.symm ?_
    refine ev_iconst (v := nI 0) 26 rfl d127_25 (by decide) ?_
    refine ev_store_i 28 rfl d127_26 ⟨rfl, Nat.le_of_ble_eq_true rfl⟩ rfl ?_
    show ai_Ev _ _ _ [some (.ref 572), some (.int (nI j)), some (.int (nI q)), some (.int (nI b)), some (.int (nI 0))] _ _ _
    refine m_ft_in (I0 := I_1) G hj hq ((ui_other hI_1 (by omega)).trans ((hf _ _ (by omega) (by omega)).trans han)) (by omega) ?_ 4 0 I_1 (by omega) (fun y hy => absurd hy (by omega)) (fun _ _ _ => rfl)
    intro I9 h9 h9f
    refine ev_iinc (v := nI (b + 1)) 58 rfl d127_55 rfl (Nat.le_of_ble_eq_true rfl) (nI_add _ 1) rfl ?_
    show ai_Ev _ _ _ [some (.ref 572), some (.int (nI j)), some (.int (nI q)), some (.int (nI (b + 1))), some (.int (nI 4))] _ _ _
    refine ev_goto 2 (by decide) d127_58 ?_
    refine ih (b + 1) I9 (some (.int (nI 4))) (by omega) (fun x hx => ?_) (fun y x hx hy => ?_) (fun c k h1 h2 => ?_)
    · rw [h9f _ _ (by omega)]
      by_cases e : x = b
      · subst e; exact ui_same hI_1
      · rw [ui_other hI_1 (by omega)]; exact hd _ (by omega)
    · by_cases e : x = b
      · subst e; exact h9 y hy
      · rw [h9f _ _ (by omega), ui_row hI_1 (by omega)]; exact ht y x (by omega) hy
    · rw [h9f _ _ (by omega), ui_other hI_1 (by omega)]; exact hf c k h1 h2
theorem m_firstTable (G : ai_G S F) {j q n : Nat} (hj : j < 24) (hq : q < 5) (han : I 578 q = nI n) : ai_Ev none 127 0 [some (.ref 572), some (.int (nI j)), some (.int (nI q)), none, none] [] (S, I, L, F) (ai_Pu S F L (fun I2 => (∀ x, x < 4 → I2 591 ((5 * j + q) * 4 + x) = nI n) ∧ (∀ y x, x < 4 → y < 4 → I2 590 (((5 * j + q) * 4 + y) * 4 + x) = nI 1) ∧ ai_fT9 I I2 (5 * j + q))) := by
  refine ev_iconst (v := nI 0) 1 rfl d127_0 (by decide) ?_
  refine ev_store_in 2 rfl d127_1 (Nat.le_of_ble_eq_true rfl) rfl ?_
  show ai_Ev _ _ _ [some (.ref 572), some (.int (nI j)), some (.int (nI q)), some (.int (nI 0)), none] _ _ _
  exact m_ft_loop (I0 := I) G hj hq han 4 0 I none (by omega) (fun x hx => absurd hx (by omega)) (fun y x hx => absurd hx (by omega)) (fun _ _ _ _ => rfl)
end MCOP
