section XTAKE
variable {S : List (Nat × Nat)} {F : Nat → Nat → Option Nat} {L : Nat → Nat → Int64} {I : Nat → Nat → Int32} {σ : ai_S}
theorem said_lt4 {j c : Nat} : σ.said j c < 4 := Nat.mod_lt _ (by decide)
theorem x_kindO (G : ai_G S F) (hO : ai_RO σ I L) {j c : Nat} (hg : σ.gv j c ≤ 12) (hj : j < 24) (hc : c < 200) : ai_Ev none 15 0 [some (.ref (172 + 2 * c)), some (.int (nI j))] [] (S, I, L, F) (ai_Pp S F I L (.int (nI (σ.kd j c) - 1))) := by
  refine (k_kind G hc hj (by omega) (hO.nt c j hc hj)).imp ?_
  intro r h' ⟨h2, h3⟩
  refine ⟨h2.trans ?_, h3⟩
  unfold ai_S.kd
  by_cases e : σ.gv j c = 0
  · rw [if_pos e, if_pos e]; rfl
  · rw [if_neg e, if_neg e, nM_succ]
theorem x_saidO (G : ai_G S F) (hO : ai_RO σ I L) {j c : Nat} (hg : σ.gv j c ≤ 12) (hj : j < 24) (hc : c < 200) (h0 : σ.gv j c ≠ 0) : ai_Ev none 16 0 [some (.ref (172 + 2 * c)), some (.int (nI j))] [] (S, I, L, F) (ai_Pp S F I L (.int (nI (σ.said j c)))) := by
  refine (k_said G hc hj (by omega) (hO.nt c j hc hj)).imp ?_
  intro r h' ⟨h2, h3⟩
  refine ⟨h2.trans ?_, h3⟩
  rw [if_neg h0]; rfl
theorem kd_gv {j c : Nat} (h : σ.kd j c = 1) : σ.gv j c ≠ 0 := by
  intro e; unfold ai_S.kd at h; rw [if_pos e] at h; omega
theorem mx_ex {j k : Nat} (hj : j < 24) (hk : k < 24) (h : ¬ k = j) : ∃ y x, ((y = j ∧ x = k) ∨ (y = k ∧ x = j)) ∧ x < y ∧ y < 24 ∧ (if nI j < nI k then nI k else nI j) = nI y ∧ (if nI k < nI j then nI k else nI j) = nI x := by
  by_cases e : j < k
  · exact ⟨k, j, Or.inr ⟨rfl, rfl⟩, e, hk, if_pos ((nI_ltI (by omega) (by omega)).mpr e), if_neg (fun h2 => absurd ((nI_ltI (by omega) (by omega)).mp h2) (by omega))⟩
  · exact ⟨j, k, Or.inl ⟨rfl, rfl⟩, by omega, hj, if_neg (fun h2 => e ((nI_ltI (by omega) (by omega)).mp h2)), if_pos ((nI_ltI (by omega) (by omega)).mpr (by omega))⟩
def ai_J (σ τ : ai_S) (j k : Nat) (I : Nat → Nat → Int32) : Prop := ∀ y x, x < y → y < 24 → σ.lf x = false → σ.lf y = false → I (76 + 4 * y + 1) x = if (y = j ∧ x < k) ∨ (x = j ∧ y < k) then ai_al τ y x else ai_al σ y x
theorem J_same {τ : ai_S} {j k : Nat} (hJ : ai_J σ τ j k I) (h : ∀ y x, x < y → ((y = j ∧ x = k) ∨ (y = k ∧ x = j)) → ai_al τ y x = ai_al σ y x) : ai_J σ τ j (k + 1) I := by
  intro y x h1 h2 h3 h4
  rw [hJ y x h1 h2 h3 h4]
  by_cases e : (y = j ∧ x < k) ∨ (x = j ∧ y < k)
  · rw [if_pos e, if_pos (by omega)]
  · rw [if_neg e]
    by_cases e2 : (y = j ∧ x < k + 1) ∨ (x = j ∧ y < k + 1)
    · rw [if_pos e2, h y x h1 (by omega)]
    · rw [if_neg e2]
theorem J_set {τ : ai_S} {j k y9 x9 : Nat} {I2 : Nat → Nat → Int32} (hJ : ai_J σ τ j k I) (hp : (y9 = j ∧ x9 = k) ∨ (y9 = k ∧ x9 = j)) (hlt : x9 < y9) (hI : I2 (76 + 4 * y9 + 1) x9 = ai_al τ y9 x9) (ho : ∀ y x, ¬ (y = y9 ∧ x = x9) → I2 (76 + 4 * y + 1) x = I (76 + 4 * y + 1) x) : ai_J σ τ j (k + 1) I2 := by
  intro y x h1 h2 h3 h4
  by_cases e3 : y = y9 ∧ x = x9
  · obtain ⟨rfl, rfl⟩ := e3
    rw [hI, if_pos (by omega)]
  · rw [ho y x e3, hJ y x h1 h2 h3 h4]
    by_cases e : (y = j ∧ x < k) ∨ (x = j ∧ y < k)
    · rw [if_pos e, if_pos (by omega)]
    · rw [if_neg e, if_neg (by omega)]
def ai_fL (I I2 : Nat → Nat → Int32) : Prop := ∀ a, (a < 76 ∨ 172 ≤ a ∨ a % 4 ≠ 1) → I2 a = I a
theorem ro_fL (hX : ai_RO σ I L) {I2 : Nat → Nat → Int32} (f : ai_fL I I2) : ai_RO σ I2 L := by
  refine ⟨?_, ?_, ?_, ?_, ?_, ?_, ?_, ?_, ?_, ?_, ?_, ?_, ?_, ?_, ?_, ?_, ?_, ?_, ?_, ?_, ?_, ?_, ?_, ?_, ?_⟩
  · rw [f _ (by omega)]; exact hX.nT
  · rw [f _ (by omega)]; exact hX.nQ
  · rw [f _ (by omega)]; exact hX.nJ
  · rw [f _ (by omega)]; exact hX.mk
  · rw [f _ (by omega)]; exact hX.lk
  · rw [f _ (by omega)]; exact hX.hs
  · rw [f _ (by omega)]; exact hX.st
  · intro i g0; rw [f _ (by omega)]; exact hX.ch i g0
  · intro i g0; rw [f _ (by omega)]; exact hX.rf i g0
  · intro s g0; rw [f _ (by omega)]; exact hX.wr s g0
  · intro s g0; rw [f _ (by omega)]; exact hX.jd s g0
  · intro s g0 g1; rw [f _ (by omega)]; exact hX.so s g0 g1
  · intro s g0; rw [f _ (by omega)]; exact hX.sz s g0
  · exact hX.el
  · intro q g0 g1; rw [f _ (by omega)]; exact hX.an q g0 g1
  · intro q g0 g1 g2; rw [f _ (by omega)]; exact hX.pa q g0 g1 g2
  · intro q g0 g1 g2; rw [f _ (by omega)]; exact hX.wa q g0 g1 g2
  · intro j g0; rw [f _ (by omega)]; exact hX.lf j g0
  · intro j g0; rw [f _ (by omega)]; exact hX.gn j g0
  · intro j g0; rw [f _ (by omega)]; exact hX.sr j g0
  · intro j q a b g0 g1 g2 g3; rw [f _ (by omega)]; exact hX.sd j q a b g0 g1 g2 g3
  · intro j q b g0 g1 g2; rw [f _ (by omega)]; exact hX.sa j q b g0 g1 g2
  · intro c g0; rw [f _ (by omega)]; exact hX.tr c g0
  · intro c g0; rw [f _ (by omega)]; exact hX.ag c g0
  · intro c j g0 g1; rw [f _ (by omega)]; exact hX.nt c j g0 g1
def ai_fO (I I2 : Nat → Nat → Int32) : Prop := ∀ a k, (a < 76 ∨ 172 ≤ a ∨ a % 4 ≠ 0 ∨ k ≠ 3) → I2 a k = I a k
theorem ro_fO (hX : ai_RO σ I L) {I2 : Nat → Nat → Int32} (f : ai_fO I I2) : ai_RO σ I2 L := by
  refine ⟨?_, ?_, ?_, ?_, ?_, ?_, ?_, ?_, ?_, ?_, ?_, ?_, ?_, ?_, ?_, ?_, ?_, ?_, ?_, ?_, ?_, ?_, ?_, ?_, ?_⟩
  · rw [f _ _ (by omega)]; exact hX.nT
  · rw [f _ _ (by omega)]; exact hX.nQ
  · rw [f _ _ (by omega)]; exact hX.nJ
  · rw [f _ _ (by omega)]; exact hX.mk
  · rw [f _ _ (by omega)]; exact hX.lk
  · rw [f _ _ (by omega)]; exact hX.hs
  · rw [f _ _ (by omega)]; exact hX.st
  · intro i g0; rw [f _ _ (by omega)]; exact hX.ch i g0
  · intro i g0; rw [f _ _ (by omega)]; exact hX.rf i g0
  · intro s g0; rw [f _ _ (by omega)]; exact hX.wr s g0
  · intro s g0; rw [f _ _ (by omega)]; exact hX.jd s g0
  · intro s g0 g1; rw [f _ _ (by omega)]; exact hX.so s g0 g1
  · intro s g0; rw [f _ _ (by omega)]; exact hX.sz s g0
  · exact hX.el
  · intro q g0 g1; rw [f _ _ (by omega)]; exact hX.an q g0 g1
  · intro q g0 g1 g2; rw [f _ _ (by omega)]; exact hX.pa q g0 g1 g2
  · intro q g0 g1 g2; rw [f _ _ (by omega)]; exact hX.wa q g0 g1 g2
  · intro j g0; rw [f _ _ (by omega)]; exact hX.lf j g0
  · intro j g0; rw [f _ _ (by omega)]; exact hX.gn j g0
  · intro j g0; rw [f _ _ (by omega)]; exact hX.sr j g0
  · intro j q a b g0 g1 g2 g3; rw [f _ _ (by omega)]; exact hX.sd j q a b g0 g1 g2 g3
  · intro j q b g0 g1 g2; rw [f _ _ (by omega)]; exact hX.sa j q b g0 g1 g2
  · intro c g0; rw [f _ _ (by omega)]; exact hX.tr c g0
  · intro c g0; rw [f _ _ (by omega)]; exact hX.ag c g0
  · intro c j g0 g1; rw [f _ _ (by omega)]; exact hX.nt c j g0 g1
theorem x_cmp_loop (G : ai_G S F) (hV : ai_IV σ) {j c g : Nat} (hj : j < σ.nJ) (hc : c < 200) (hg : 1 ≤ g ∧ g ≤ 4) (h0 : σ.gv j c = 0) (hlj : σ.lf j = false) {I0 : Nat → Nat → Int32} : ∀ (z k : Nat) (I : Nat → Nat → Int32) (u4 : Option Value), k + z = σ.nJ → ai_RO (σ.take j c g) I L → ai_J σ (σ.take j c g) j k I → ai_fL I0 I → ai_Ev none 94 2 [some (.ref 1), some (.ref (172 + 2 * c)), some (.int (nI j)), some (.int (nI k)), u4] [] (S, I, L, F) (ai_Pu S F L (fun I2 => ai_J σ (σ.take j c g) j σ.nJ I2 ∧ ai_fL I0 I2)) := by
  have hnT := hV.nT
  have hnQ := hV.nQ
  have hnJ := hV.nJ
  have hgl : ∀ x, (σ.take j c g).gv x c ≤ 12 := fun x => by
    rw [take_gv]
    split
    · omega
    · exact gv_lt hV hc
  have hgj : (σ.take j c g).gv j c ≠ 0 := by rw [take_gv, if_pos ⟨rfl, rfl⟩]; omega
  have hfj : (σ.take j c g).fair j c = true := by unfold ai_S.fair; rw [take_gv, if_pos ⟨rfl, rfl⟩]; exact decide_eq_true hg
  intro z
  induction z with
  | zero =>
    intro k I u4 hz hO hJ hf
    have e9 : k = σ.nJ := by omega
    subst e9
    refine ev_iload_n 3 rfl d94_2 rfl ?_
    refine ev_aload_n 4 rfl d94_3 rfl ?_
    refine ev_geti (v := nI σ.nJ) 7 rfl 8 6 d94_4 rfl (by omega) (G.1 _ _ (rfl : ai_sp 1 = (8, 0)) (by decide) (by decide)) hO.nJ ?_
    refine ev_icmp 69 10 (by decide) rfl (cn_ge (by omega) (by omega)) d94_7 (fun hc_7 => ?_) (fun hc_7 => absurd hc_7 (by omega))
    refine ev_vret rfl d94_69 ?_
    exact ⟨rfl, _, rfl, hJ, hf⟩
  | succ z ih =>
    intro k I u4 hz hO hJ hf
    have hkdl : (σ.take j c g).kd k c ≤ 3 := by
      have := hgl k
      unfold ai_S.kd; split <;> omega
    refine ev_iload_n 3 rfl d94_2 rfl ?_
    refine ev_aload_n 4 rfl d94_3 rfl ?_
    refine ev_geti (v := nI σ.nJ) 7 rfl 8 6 d94_4 rfl (by omega) (G.1 _ _ (rfl : ai_sp 1 = (8, 0)) (by decide) (by decide)) hO.nJ ?_
    refine ev_icmp 69 10 (by decide) rfl (cn_ge (by omega) (by omega)) d94_7 (fun hc_7 => absurd hc_7 (by omega)) (fun hc_7 => ?_)
    refine ev_iload_n 11 rfl d94_10 rfl ?_
    refine ev_iload_n 12 rfl d94_11 rfl ?_
    refine ev_icmp 63 15 (by decide) rfl (cn_eq (by omega) (by omega)) d94_12 (fun hc_12 => ?_) (fun hc_12 => ?_)
    · have hnm : ∀ y x, x < y → ((y = j ∧ x = k) ∨ (y = k ∧ x = j)) → ai_al (σ.take j c g) y x = ai_al σ y x := fun y x h1 h2 => by exfalso; omega
      refine ev_iinc (v := nI (k + 1)) 66 rfl d94_63 rfl (Nat.le_of_ble_eq_true rfl) (nI_add _ 1) rfl ?_
      show ai_Ev _ _ _ [some (.ref 1), some (.ref (172 + 2 * c)), some (.int (nI j)), some (.int (nI (k + 1))), u4] _ _ _
      refine ev_goto 2 (by decide) d94_66 ?_
      exact ih (k + 1) I u4 (by omega) hO (J_same hJ hnm) hf
    · refine ev_aload_n 16 rfl d94_15 rfl ?_
      refine ev_iload_n 17 rfl d94_16 rfl ?_
      refine ev_cp1 20 rfl 15 d94_17 rfl rfl (by rw [G.1 _ _ (sp_case (by omega)) (by omega) (by omega)]; rfl) (by omega) rfl (x_kindO G hO (hgl k) (by omega) hc) ?_
      refine ev_if 63 23 (by decide) rfl (cq0_ne (by omega)) d94_20 (fun hc_20 => ?_) (fun hc_20 => ?_)
      · have hnm : ∀ y x, x < y → ((y = j ∧ x = k) ∨ (y = k ∧ x = j)) → ai_al (σ.take j c g) y x = ai_al σ y x := fun y x h1 h2 => al_nomeet hc hc_12 h0 h2 (by
          have h9 : σ.fair k c = false := nb_F (fun h8 => hc_20 (fair_kd.mp (by rw [← h8]; exact fair_of (by rw [take_gv, if_neg (by omega)]))))
          rw [h9]; simp)
        refine ev_iinc (v := nI (k + 1)) 66 rfl d94_63 rfl (Nat.le_of_ble_eq_true rfl) (nI_add _ 1) rfl ?_
        show ai_Ev _ _ _ [some (.ref 1), some (.ref (172 + 2 * c)), some (.int (nI j)), some (.int (nI (k + 1))), u4] _ _ _
        refine ev_goto 2 (by decide) d94_66 ?_
        exact ih (k + 1) I u4 (by omega) hO (J_same hJ hnm) hf
      · have hb1 := said_lt4 (σ := σ.take j c g) (j := k) (c := c)
        have hb2 := said_lt4 (σ := σ.take j c g) (j := j) (c := c)
        have hkd1 : (σ.take j c g).kd k c = 1 := by omega
        have hgk : σ.gv k c ≠ 0 := by
          have h9 := kd_gv hkd1
          rw [take_gv, if_neg (by omega)] at h9
          exact h9
        have hlk : σ.lf k = false := (hV.gv k c hc hgk).2.1
        have hfk : σ.fair k c = true := by
          have h9 := fair_kd.mpr hkd1
          rw [← h9]; exact (fair_of (σ2 := (σ.take j c g)) (σ := σ) (by rw [take_gv, if_neg (by omega)])).symm
        have hf9 : ((σ.take j c g).fair j c && σ.fair k c) = true := by rw [hfj, hfk]; rfl
        have hsk : (σ.take j c g).said k c = σ.said k c := said_of (by rw [take_gv, if_neg (by omega)])
        obtain ⟨y9, x9, hp9, hlt9, hy24, emx, emn⟩ := mx_ex (j := j) (k := k) (by omega) (by omega) hc_12
        have hc9 : I (76 + 4 * y9 + 1) x9 = ai_al σ y9 x9 := by
          rw [hJ y9 x9 hlt9 hy24 (by rcases hp9 with ⟨-, rfl⟩ | ⟨-, rfl⟩; exact hlk; exact hlj) (by rcases hp9 with ⟨rfl, -⟩ | ⟨rfl, -⟩; exact hlj; exact hlk), if_neg (by omega)]
        refine ev_aload_n 24 rfl d94_23 rfl ?_
        refine ev_iload_n 25 rfl d94_24 rfl ?_
        refine ev_cp1 28 rfl 16 d94_25 rfl rfl (by rw [G.1 _ _ (sp_case (by omega)) (by omega) (by omega)]; rfl) (by omega) rfl (x_saidO G hO (hgl k) (by omega) hc (kd_gv (by omega))) ?_
        refine ev_aload_n 29 rfl d94_28 rfl ?_
        refine ev_iload_n 30 rfl d94_29 rfl ?_
        refine ev_cp1 33 rfl 16 d94_30 rfl rfl (by rw [G.1 _ _ (sp_case (by omega)) (by omega) (by omega)]; rfl) (by omega) rfl (x_saidO G hO (hgl j) (by omega) hc hgj) ?_
        refine ev_icmp 40 36 (by decide) rfl (cn_ne (by omega) (by omega)) d94_33 (fun hc_33 => ?_) (fun hc_33 => ?_)
        · have hs9 : σ.said k c ≠ (σ.take j c g).said j c := by rw [← hsk]; exact hc_33
          refine ev_iconst (v := nI 0) 41 rfl d94_40 (by decide) ?_
          refine ev_store_i 43 rfl d94_41 ⟨rfl, Nat.le_of_ble_eq_true rfl⟩ rfl ?_
          show ai_Ev _ _ _ [some (.ref 1), some (.ref (172 + 2 * c)), some (.int (nI j)), some (.int (nI k)), some (.int (nI 0))] _ _ _
          refine ev_aload_n 44 rfl d94_43 rfl ?_
          refine ev_getr 47 rfl 8 2 d94_44 rfl (by omega) (G.1 _ _ (rfl : ai_sp 1 = (8, 0)) (by decide) (by decide)) (G.2 _ _ _ (rfl : ai_rf 1 2 = some 4)) ?_
          refine ev_iload_n 48 rfl d94_47 rfl ?_
          refine ev_iload_n 49 rfl d94_48 rfl ?_
          refine ev_max (v := nI y9) 52 rfl d94_49 rfl rfl emx ?_
          refine ev_aald_n 53 rfl d94_52 (by omega) (by decide) (G.1 _ _ (rfl : ai_sp 4 = (106, 24)) (by decide) (by decide)) (by omega) (by decide) (G.2 _ _ _ (rf_judge (by omega))) ?_
          refine ev_iload_n 54 rfl d94_53 rfl ?_
          refine ev_iload_n 55 rfl d94_54 rfl ?_
          refine ev_min (v := nI x9) 58 rfl d94_55 rfl rfl emn ?_
          refine ev_iload 60 rfl d94_58 rfl ?_
          refine ev_cu2 63 rfl 20 d94_60 rfl rfl (by rw [G.1 _ _ (sp_judge (by omega)) (by omega) (by omega)]; rfl) (by omega) rfl (j_meet0 G (by omega) (by omega)) (fun I_1 hr_60 => ?_)
          have hI9 : I_1 (76 + 4 * y9 + 1) x9 = ai_al (σ.take j c g) y9 x9 := by
            rw [(al_meet (g := g) hc hc_12 h0 hp9 hf9).2 hs9]
            by_cases e : I (76 + 4 * y9 + 1) x9 = -1
            · rw [hr_60.1 e, e]
            · exact ui_same (hr_60.2 e)
          have ho9 : ∀ y x, ¬ (y = y9 ∧ x = x9) → I_1 (76 + 4 * y + 1) x = I (76 + 4 * y + 1) x := fun y x hn => by
            by_cases e : I (76 + 4 * y9 + 1) x9 = -1
            · rw [hr_60.1 e]
            · exact ui_other (hr_60.2 e) (by omega)
          have hf8 : ai_fL I I_1 := fun a ha => by
            by_cases e : I (76 + 4 * y9 + 1) x9 = -1
            · rw [hr_60.1 e]
            · exact ui_row (hr_60.2 e) (by omega)
          refine ev_iinc (v := nI (k + 1)) 66 rfl d94_63 rfl (Nat.le_of_ble_eq_true rfl) (nI_add _ 1) rfl ?_
          show ai_Ev _ _ _ [some (.ref 1), some (.ref (172 + 2 * c)), some (.int (nI j)), some (.int (nI (k + 1))), some (.int (nI 0))] _ _ _
          refine ev_goto 2 (by decide) d94_66 ?_
          exact ih (k + 1) _ (some (.int (nI 0))) (by omega) (ro_fL hO hf8) (J_set hJ hp9 hlt9 hI9 ho9) (fun a ha => (hf8 a ha).trans (hf a ha))
        · have hs9 : σ.said k c = (σ.take j c g).said j c := by rw [← hsk]; omega
          refine ev_iconst (v := nI 1) 37 rfl d94_36 (by decide) ?_
          refine ev_goto 41 (by decide) d94_37 ?_
          refine ev_store_i 43 rfl d94_41 ⟨rfl, Nat.le_of_ble_eq_true rfl⟩ rfl ?_
          show ai_Ev _ _ _ [some (.ref 1), some (.ref (172 + 2 * c)), some (.int (nI j)), some (.int (nI k)), some (.int (nI 1))] _ _ _
          refine ev_aload_n 44 rfl d94_43 rfl ?_
          refine ev_getr 47 rfl 8 2 d94_44 rfl (by omega) (G.1 _ _ (rfl : ai_sp 1 = (8, 0)) (by decide) (by decide)) (G.2 _ _ _ (rfl : ai_rf 1 2 = some 4)) ?_
          refine ev_iload_n 48 rfl d94_47 rfl ?_
          refine ev_iload_n 49 rfl d94_48 rfl ?_
          refine ev_max (v := nI y9) 52 rfl d94_49 rfl rfl emx ?_
          refine ev_aald_n 53 rfl d94_52 (by omega) (by decide) (G.1 _ _ (rfl : ai_sp 4 = (106, 24)) (by decide) (by decide)) (by omega) (by decide) (G.2 _ _ _ (rf_judge (by omega))) ?_
          refine ev_iload_n 54 rfl d94_53 rfl ?_
          refine ev_iload_n 55 rfl d94_54 rfl ?_
          refine ev_min (v := nI x9) 58 rfl d94_55 rfl rfl emn ?_
          refine ev_iload 60 rfl d94_58 rfl ?_
          refine ev_cu2 63 rfl 20 d94_60 rfl rfl (by rw [G.1 _ _ (sp_judge (by omega)) (by omega) (by omega)]; rfl) (by omega) rfl (j_meet1 G (by omega) (by omega)) (fun I_1 hr_60 => ?_)
          have hI9 : I_1 (76 + 4 * y9 + 1) x9 = ai_al (σ.take j c g) y9 x9 := by
            rw [(al_meet (g := g) hc hc_12 h0 hp9 hf9).1 hs9]
            by_cases e : I (76 + 4 * y9 + 1) x9 = -1
            · rw [hr_60.1 e, e, if_pos (by rw [← hc9]; exact e)]
            · rw [if_neg (fun h => e (hc9.trans h)), ← hc9]; exact ui_same (hr_60.2 e)
          have ho9 : ∀ y x, ¬ (y = y9 ∧ x = x9) → I_1 (76 + 4 * y + 1) x = I (76 + 4 * y + 1) x := fun y x hn => by
            by_cases e : I (76 + 4 * y9 + 1) x9 = -1
            · rw [hr_60.1 e]
            · exact ui_other (hr_60.2 e) (by omega)
          have hf8 : ai_fL I I_1 := fun a ha => by
            by_cases e : I (76 + 4 * y9 + 1) x9 = -1
            · rw [hr_60.1 e]
            · exact ui_row (hr_60.2 e) (by omega)
          refine ev_iinc (v := nI (k + 1)) 66 rfl d94_63 rfl (Nat.le_of_ble_eq_true rfl) (nI_add _ 1) rfl ?_
          show ai_Ev _ _ _ [some (.ref 1), some (.ref (172 + 2 * c)), some (.int (nI j)), some (.int (nI (k + 1))), some (.int (nI 1))] _ _ _
          refine ev_goto 2 (by decide) d94_66 ?_
          exact ih (k + 1) _ (some (.int (nI 1))) (by omega) (ro_fL hO hf8) (J_set hJ hp9 hlt9 hI9 ho9) (fun a ha => (hf8 a ha).trans (hf a ha))
theorem x_compare (G : ai_G S F) (hV : ai_IV σ) {j c g : Nat} (hj : j < σ.nJ) (hc : c < 200) (hg : 1 ≤ g ∧ g ≤ 4) (h0 : σ.gv j c = 0) (hlj : σ.lf j = false) (hO : ai_RO (σ.take j c g) I L) (hal : ∀ y x, x < y → y < 24 → σ.lf x = false → σ.lf y = false → I (76 + 4 * y + 1) x = ai_al σ y x) : ai_Ev none 94 0 [some (.ref 1), some (.ref (172 + 2 * c)), some (.int (nI j)), none, none] [] (S, I, L, F) (ai_Pu S F L (fun I2 => ai_J σ (σ.take j c g) j σ.nJ I2 ∧ ai_fL I I2)) := by
  refine ev_iconst (v := nI 0) 1 rfl d94_0 (by decide) ?_
  refine ev_store_in 2 rfl d94_1 (Nat.le_of_ble_eq_true rfl) rfl ?_
  show ai_Ev _ _ _ [some (.ref 1), some (.ref (172 + 2 * c)), some (.int (nI j)), some (.int (nI 0)), none] _ _ _
  exact x_cmp_loop G hV hj hc hg h0 hlj σ.nJ 0 I none (by omega) hO (fun y x h1 h2 h3 h4 => by rw [if_neg (by omega)]; exact hal y x h1 h2 h3 h4) (fun _ _ => rfl)
theorem ql_stay {p : Nat → Bool} {n : Nat} (h : ai_ql p n ≠ 0) : ∀ {m : Nat}, n ≤ m → ai_ql p m = ai_ql p n := by
  intro m
  induction m with
  | zero => intro h2; rw [show n = 0 by omega]
  | succ m ih =>
    intro h2
    by_cases e : n = m + 1
    · rw [e]
    · have h3 := ih (by omega)
      show (if ai_ql p m = 0 then (if p m = true then m + 1 else 0) else ai_ql p m) = _
      rw [if_neg (by rw [h3]; exact h), h3]
theorem ql_T {p : Nat → Bool} {n : Nat} (h0 : ai_ql p n = 0) (h : p n = true) : ai_ql p (n + 1) = n + 1 := by
  show (if ai_ql p n = 0 then (if p n = true then n + 1 else 0) else ai_ql p n) = _
  rw [if_pos h0, if_pos h]
theorem ql_F {p : Nat → Bool} {n : Nat} (h0 : ai_ql p n = 0) (h : ¬ p n = true) : ai_ql p (n + 1) = 0 := by
  show (if ai_ql p n = 0 then (if p n = true then n + 1 else 0) else ai_ql p n) = _
  rw [if_pos h0, if_neg h]
def ai_S.pc (σ : ai_S) (j x : Nat) : Bool := !σ.lf x && σ.cpy j x
theorem cop_eq {j : Nat} : σ.cop j = if σ.lf j = true then 0 else ai_ql (σ.pc j) j := rfl
theorem al_6 {y x : Nat} : ¬ ai_al σ y x < nI 6 ↔ σ.cpy y x = true := by
  have hs := same_le (σ := σ) (y := y) (x := x)
  unfold ai_al ai_S.cpy
  cases hd : σ.diff y x with
  | true =>
    rw [if_pos rfl]
    exact ⟨fun h => absurd (by decide : (-1 : Int32) < nI 6) h, fun h => absurd h (by simp)⟩
  | false =>
    rw [if_neg (by decide)]
    simp only [Bool.not_false, Bool.true_and, decide_eq_true_eq]
    constructor
    · intro h
      exact Nat.le_of_not_lt (fun h2 => h ((nI_ltI (by omega) (by decide)).mpr h2))
    · intro h h2
      have := (nI_ltI (by omega) (by decide)).mp h2
      omega
theorem x_orig_loop (G : ai_G S F) (hO : ai_RO σ I L) (hnJ : σ.nJ ≤ 24) (hal : ∀ y x, x < y → y < 24 → σ.lf x = false → σ.lf y = false → I (76 + 4 * y + 1) x = ai_al σ y x) {j : Nat} (hj : j < σ.nJ) (hlj : σ.lf j = false) : ∀ (z k : Nat), k + z = j → ai_ql (σ.pc j) k = 0 → ai_Ev none 96 2 [some (.ref 1), some (.int (nI j)), some (.int (nI k))] [] (S, I, L, F) (ai_Pp S F I L (.int (nI (ai_ql (σ.pc j) j) - 1))) := by
  intro z
  induction z with
  | zero =>
    intro k hz hq0
    have e9 : k = j := by omega
    subst e9
    refine ev_iload_n 3 rfl d96_2 rfl ?_
    refine ev_iload_n 4 rfl d96_3 rfl ?_
    refine ev_icmp 42 7 (by decide) rfl (cn_ge (by omega) (by omega)) d96_4 (fun hc_4 => ?_) (fun hc_4 => absurd hc_4 (by omega))
    refine ev_iconst (v := (-1)) 43 rfl d96_42 (by decide) ?_
    refine ev_iret (Or.inl rfl) d96_43 ?_
    exact ⟨by rw [hq0]; rfl, rfl⟩
  | succ z ih =>
    intro k hz hq0
    refine ev_iload_n 3 rfl d96_2 rfl ?_
    refine ev_iload_n 4 rfl d96_3 rfl ?_
    refine ev_icmp 42 7 (by decide) rfl (cn_ge (by omega) (by omega)) d96_4 (fun hc_4 => absurd hc_4 (by omega)) (fun hc_4 => ?_)
    refine ev_aload_n 8 rfl d96_7 rfl ?_
    refine ev_getr 11 rfl 8 2 d96_8 rfl (by omega) (G.1 _ _ (rfl : ai_sp 1 = (8, 0)) (by decide) (by decide)) (G.2 _ _ _ (rfl : ai_rf 1 2 = some 4)) ?_
    refine ev_iload_n 12 rfl d96_11 rfl ?_
    refine ev_aald_n 13 rfl d96_12 (by omega) (by decide) (G.1 _ _ (rfl : ai_sp 4 = (106, 24)) (by decide) (by decide)) (by omega) (by decide) (G.2 _ _ _ (rf_judge (by omega))) ?_
    refine ev_geti (v := nI (ai_qb (σ.lf k))) 16 rfl 2 0 d96_13 rfl (by omega) (G.1 _ _ (sp_judge (by omega)) (by omega) (by omega)) (hO.lf _ (by omega)) ?_
    have hql := qb_lt (σ.lf k)
    refine ev_if 36 19 (by decide) rfl (c0_ne (by omega)) d96_16 (fun hc_16 => ?_) (fun hc_16 => ?_)
    · have hpf : ¬ σ.pc j k = true := by unfold ai_S.pc; rw [qb_1 hc_16]; simp
      refine ev_iinc (v := nI (k + 1)) 39 rfl d96_36 rfl (Nat.le_of_ble_eq_true rfl) (nI_add _ 1) rfl ?_
      show ai_Ev _ _ _ [some (.ref 1), some (.int (nI j)), some (.int (nI (k + 1)))] _ _ _
      refine ev_goto 2 (by decide) d96_39 ?_
      exact ih (k + 1) (by omega) (ql_F hq0 hpf)
    · have hlk : σ.lf k = false := nb_F (qb_0 (by omega))
      refine ev_aload_n 20 rfl d96_19 rfl ?_
      refine ev_getr 23 rfl 8 2 d96_20 rfl (by omega) (G.1 _ _ (rfl : ai_sp 1 = (8, 0)) (by decide) (by decide)) (G.2 _ _ _ (rfl : ai_rf 1 2 = some 4)) ?_
      refine ev_iload_n 24 rfl d96_23 rfl ?_
      refine ev_aald_n 25 rfl d96_24 (by omega) (by decide) (G.1 _ _ (rfl : ai_sp 4 = (106, 24)) (by decide) (by decide)) (by omega) (by decide) (G.2 _ _ _ (rf_judge (by omega))) ?_
      refine ev_iload_n 26 rfl d96_25 rfl ?_
      refine ev_cp1 29 rfl 21 d96_26 rfl rfl (by rw [G.1 _ _ (sp_judge (by omega)) (by omega) (by omega)]; rfl) (by omega) rfl (show ai_Ev none 21 0 _ [] (S, I, L, F) (ai_Pp S F I L (.int (ai_al σ j k))) from by rw [← hal j k (by omega) (by omega) hlk hlj]; exact j_alike G (by omega) (by omega)) ?_
      refine ev_bipush (v := nI 6) 31 rfl d96_29 (by decide) ?_
      refine ev_icmp 36 34 (by decide) rfl cz_lt d96_31 (fun hc_31 => ?_) (fun hc_31 => ?_)
      · have hpf : ¬ σ.pc j k = true := fun h => (al_6 (σ := σ)).mpr (by
          have h9 := h
          unfold ai_S.pc at h9; exact and_r h9) hc_31
        refine ev_iinc (v := nI (k + 1)) 39 rfl d96_36 rfl (Nat.le_of_ble_eq_true rfl) (nI_add _ 1) rfl ?_
        show ai_Ev _ _ _ [some (.ref 1), some (.int (nI j)), some (.int (nI (k + 1)))] _ _ _
        refine ev_goto 2 (by decide) d96_39 ?_
        exact ih (k + 1) (by omega) (ql_F hq0 hpf)
      · have hpt : σ.pc j k = true := by unfold ai_S.pc; rw [hlk, al_6.mp hc_31]; rfl
        refine ev_iload_n 35 rfl d96_34 rfl ?_
        refine ev_iret (Or.inl rfl) d96_35 ?_
        exact ⟨by rw [ql_stay (p := σ.pc j) (n := k + 1) (by rw [ql_T hq0 hpt]; omega) (by omega), ql_T hq0 hpt, nM_succ], rfl⟩
theorem x_originalOf (G : ai_G S F) (hO : ai_RO σ I L) (hnJ : σ.nJ ≤ 24) (hal : ∀ y x, x < y → y < 24 → σ.lf x = false → σ.lf y = false → I (76 + 4 * y + 1) x = ai_al σ y x) {j : Nat} (hj : j < σ.nJ) (hlj : σ.lf j = false) : ai_Ev none 96 0 [some (.ref 1), some (.int (nI j)), none] [] (S, I, L, F) (ai_Pp S F I L (.int (nI (ai_ql (σ.pc j) j) - 1))) := by
  refine ev_iconst (v := nI 0) 1 rfl d96_0 (by decide) ?_
  refine ev_store_in 2 rfl d96_1 (Nat.le_of_ble_eq_true rfl) rfl ?_
  show ai_Ev _ _ _ [some (.ref 1), some (.int (nI j)), some (.int (nI 0))] _ _ _
  exact x_orig_loop G hO hnJ hal hj hlj j 0 (by omega) rfl
theorem x_find_loop (G : ai_G S F) (hnJ : σ.nJ ≤ 24) {I0 : Nat → Nat → Int32} : ∀ (z k : Nat) (I : Nat → Nat → Int32), k + z = σ.nJ → ai_RO σ I L → (∀ y x, x < y → y < 24 → σ.lf x = false → σ.lf y = false → I (76 + 4 * y + 1) x = ai_al σ y x) → (∀ x, x < k → I (76 + 4 * x) 3 = nI (σ.cop x) - 1) → (∀ x, σ.nJ ≤ x → I (76 + 4 * x) 3 = I0 (76 + 4 * x) 3) → ai_fO I0 I → ai_Ev none 95 2 [some (.ref 1), some (.int (nI k))] [] (S, I, L, F) (ai_Pu S F L (fun I2 => (∀ x, x < σ.nJ → I2 (76 + 4 * x) 3 = nI (σ.cop x) - 1) ∧ (∀ x, σ.nJ ≤ x → I2 (76 + 4 * x) 3 = I0 (76 + 4 * x) 3) ∧ ai_fO I0 I2)) := by
  intro z
  induction z with
  | zero =>
    intro k I hz hO hal hog hhi hf
    have e9 : k = σ.nJ := by omega
    subst e9
    refine ev_iload_n 3 rfl d95_2 rfl ?_
    refine ev_aload_n 4 rfl d95_3 rfl ?_
    refine ev_geti (v := nI σ.nJ) 7 rfl 8 6 d95_4 rfl (by omega) (G.1 _ _ (rfl : ai_sp 1 = (8, 0)) (by decide) (by decide)) hO.nJ ?_
    refine ev_icmp 46 10 (by decide) rfl (cn_ge (by omega) (by omega)) d95_7 (fun hc_7 => ?_) (fun hc_7 => absurd hc_7 (by omega))
    refine ev_vret rfl d95_46 ?_
    exact ⟨rfl, _, rfl, hog, hhi, hf⟩
  | succ z ih =>
    intro k I hz hO hal hog hhi hf
    refine ev_iload_n 3 rfl d95_2 rfl ?_
    refine ev_aload_n 4 rfl d95_3 rfl ?_
    refine ev_geti (v := nI σ.nJ) 7 rfl 8 6 d95_4 rfl (by omega) (G.1 _ _ (rfl : ai_sp 1 = (8, 0)) (by decide) (by decide)) hO.nJ ?_
    refine ev_icmp 46 10 (by decide) rfl (cn_ge (by omega) (by omega)) d95_7 (fun hc_7 => absurd hc_7 (by omega)) (fun hc_7 => ?_)
    refine ev_aload_n 11 rfl d95_10 rfl ?_
    refine ev_getr 14 rfl 8 2 d95_11 rfl (by omega) (G.1 _ _ (rfl : ai_sp 1 = (8, 0)) (by decide) (by decide)) (G.2 _ _ _ (rfl : ai_rf 1 2 = some 4)) ?_
    refine ev_iload_n 15 rfl d95_14 rfl ?_
    refine ev_aald_n 16 rfl d95_15 (by omega) (by decide) (G.1 _ _ (rfl : ai_sp 4 = (106, 24)) (by decide) (by decide)) (by omega) (by decide) (G.2 _ _ _ (rf_judge (by omega))) ?_
    refine ev_aload_n 17 rfl d95_16 rfl ?_
    refine ev_getr 20 rfl 8 2 d95_17 rfl (by omega) (G.1 _ _ (rfl : ai_sp 1 = (8, 0)) (by decide) (by decide)) (G.2 _ _ _ (rfl : ai_rf 1 2 = some 4)) ?_
    refine ev_iload_n 21 rfl d95_20 rfl ?_
    refine ev_aald_n 22 rfl d95_21 (by omega) (by decide) (G.1 _ _ (rfl : ai_sp 4 = (106, 24)) (by decide) (by decide)) (by omega) (by decide) (G.2 _ _ _ (rf_judge (by omega))) ?_
    refine ev_geti (v := nI (ai_qb (σ.lf k))) 25 rfl 2 0 d95_22 rfl (by omega) (G.1 _ _ (sp_judge (by omega)) (by omega) (by omega)) (hO.lf _ (by omega)) ?_
    have hql := qb_lt (σ.lf k)
    refine ev_if 32 28 (by decide) rfl (c0_eq (by omega)) d95_25 (fun hc_25 => ?_) (fun hc_25 => ?_)
    · have hlk : σ.lf k = false := nb_F (qb_0 hc_25)
      have hcp : (if σ.lf k = true then 0 else ai_ql (σ.pc k) k) = ai_ql (σ.pc k) k := if_neg (by rw [hlk]; decide)
      refine ev_aload_n 33 rfl d95_32 rfl ?_
      refine ev_iload_n 34 rfl d95_33 rfl ?_
      refine ev_cp1 37 rfl 96 d95_34 rfl rfl (by rw [G.1 _ _ (rfl : ai_sp 1 = (8, 0)) (by decide) (by decide)]; rfl) (by omega) rfl (x_originalOf G hO hnJ hal (by omega) hlk) ?_
      obtain ⟨I_1, hI_1⟩ : ∃ z, z = ai_ui I (76 + 4 * k) 3 (nI (ai_ql (σ.pc k) k) - 1) := ⟨_, rfl⟩
      refine ev_puti (I2 := I_1) 40 rfl 2 3 d95_37 rfl (by omega) (G.1 _ _ (sp_judge (by omega)) (by omega) (by omega)) (fun h => absurd h (by decide)) hI_1.symm ?_
      refine ev_iinc (v := nI (k + 1)) 43 rfl d95_40 rfl (Nat.le_of_ble_eq_true rfl) (nI_add _ 1) rfl ?_
      show ai_Ev _ _ _ [some (.ref 1), some (.int (nI (k + 1)))] _ _ _
      refine ev_goto 2 (by decide) d95_43 ?_
      have hf8 : ai_fO I I_1 := fun a x ha => ui_other hI_1 (by omega)
      refine ih (k + 1) _ (by omega) (ro_fO hO hf8) (fun y x h1 h2 h3 h4 => by rw [hf8 _ _ (by omega)]; exact hal y x h1 h2 h3 h4) (fun x hx => ?_) (fun x hx => (ui_other hI_1 (by omega)).trans (hhi x hx)) (fun a x ha => (hf8 a x ha).trans (hf a x ha))
      by_cases e : x = k
      · subst e; rw [cop_eq, hcp]; exact ui_same hI_1
      · rw [ui_other hI_1 (by omega)]; exact hog x (by omega)
    · have hcp : (if σ.lf k = true then 0 else ai_ql (σ.pc k) k) = 0 := if_pos (qb_1 hc_25)
      refine ev_iconst (v := (-1)) 29 rfl d95_28 (by decide) ?_
      refine ev_goto 37 (by decide) d95_29 ?_
      obtain ⟨I_1, hI_1⟩ : ∃ z, z = ai_ui I (76 + 4 * k) 3 (-1) := ⟨_, rfl⟩
      refine ev_puti (I2 := I_1) 40 rfl 2 3 d95_37 rfl (by omega) (G.1 _ _ (sp_judge (by omega)) (by omega) (by omega)) (fun h => absurd h (by decide)) hI_1.symm ?_
      refine ev_iinc (v := nI (k + 1)) 43 rfl d95_40 rfl (Nat.le_of_ble_eq_true rfl) (nI_add _ 1) rfl ?_
      show ai_Ev _ _ _ [some (.ref 1), some (.int (nI (k + 1)))] _ _ _
      refine ev_goto 2 (by decide) d95_43 ?_
      have hf8 : ai_fO I I_1 := fun a x ha => ui_other hI_1 (by omega)
      refine ih (k + 1) _ (by omega) (ro_fO hO hf8) (fun y x h1 h2 h3 h4 => by rw [hf8 _ _ (by omega)]; exact hal y x h1 h2 h3 h4) (fun x hx => ?_) (fun x hx => (ui_other hI_1 (by omega)).trans (hhi x hx)) (fun a x ha => (hf8 a x ha).trans (hf a x ha))
      by_cases e : x = k
      · subst e; rw [cop_eq, hcp]; exact ui_same hI_1
      · rw [ui_other hI_1 (by omega)]; exact hog x (by omega)
theorem x_findOriginals (G : ai_G S F) (hnJ : σ.nJ ≤ 24) (hO : ai_RO σ I L) (hal : ∀ y x, x < y → y < 24 → σ.lf x = false → σ.lf y = false → I (76 + 4 * y + 1) x = ai_al σ y x) : ai_Ev none 95 0 [some (.ref 1), none] [] (S, I, L, F) (ai_Pu S F L (fun I2 => (∀ x, x < σ.nJ → I2 (76 + 4 * x) 3 = nI (σ.cop x) - 1) ∧ (∀ x, σ.nJ ≤ x → I2 (76 + 4 * x) 3 = I (76 + 4 * x) 3) ∧ ai_fO I I2)) := by
  refine ev_iconst (v := nI 0) 1 rfl d95_0 (by decide) ?_
  refine ev_store_in 2 rfl d95_1 (Nat.le_of_ble_eq_true rfl) rfl ?_
  show ai_Ev _ _ _ [some (.ref 1), some (.int (nI 0))] _ _ _
  exact x_find_loop G hnJ σ.nJ 0 I (by omega) hO hal (fun x hx => absurd hx (by omega)) (fun _ _ => rfl) (fun _ _ _ => rfl)
theorem cop_hi {j : Nat} (h : ∀ c, c < 200 → σ.gv j c = 0) : σ.cop j = 0 := by
  rw [cop_eq]
  split
  · rfl
  · have key : ∀ n, ai_ql (σ.pc j) n = 0 := by
      intro n
      induction n with
      | zero => rfl
      | succ n ih =>
        refine ql_F ih ?_
        have hs : σ.same j n = 0 := qn_none (fun c hc => by unfold ai_S.both; rw [not_fair0 (h c hc)]; simp)
        unfold ai_S.pc ai_S.cpy
        rw [hs]; simp
    exact key j
theorem gv_hi (hV : ai_IV σ) {j c : Nat} (hc : c < 200) (hj : σ.nJ ≤ j) : σ.gv j c = 0 := by
  by_cases e : σ.gv j c = 0
  · exact e
  · have := (hV.gv j c hc e).1; omega
/-- all of the class's cells, behind findOriginals -/
theorem rx_found (hO : ai_RO σ I L) {I2 : Nat → Nat → Int32} (hf : ai_fO I I2) (hal : ∀ y x, x < y → y < 24 → σ.lf x = false → σ.lf y = false → I (76 + 4 * y + 1) x = ai_al σ y x) (hog : ∀ x, x < σ.nJ → I2 (76 + 4 * x) 3 = nI (σ.cop x) - 1) (hhi : ∀ x, σ.nJ ≤ x → x < 24 → I2 (76 + 4 * x) 3 = nI (σ.cop x) - 1) : ai_RX σ I2 L :=
  rx_of (ro_fO hO hf) (fun j hj => by
    by_cases e : j < σ.nJ
    · exact hog j e
    · exact hhi j (by omega) hj) (fun y x h1 h2 h3 h4 => by rw [hf _ _ (by omega)]; exact hal y x h1 h2 h3 h4)
end XTAKE
