section XREC
variable {S : List (Nat × Nat)} {F : Nat → Nat → Option Nat} {L : Nat → Nat → Int64} {I : Nat → Nat → Int32} {σ : ai_S}
theorem tt_given {T : Nat → Nat → Nat → Nat → Nat} {T2 : Nat → Nat → Nat → Nat} {j : Nat} : (σ.tt T T2).given j = σ.given j := rfl
theorem tt_cop {T : Nat → Nat → Nat → Nat → Nat} {T2 : Nat → Nat → Nat → Nat} {j : Nat} : (σ.tt T T2).cop j = σ.cop j := rfl
theorem tt_diff {T : Nat → Nat → Nat → Nat → Nat} {T2 : Nat → Nat → Nat → Nat} {y x : Nat} : (σ.tt T T2).diff y x = σ.diff y x := rfl
theorem tt_same {T : Nat → Nat → Nat → Nat → Nat} {T2 : Nat → Nat → Nat → Nat} {y x : Nat} : (σ.tt T T2).same y x = σ.same y x := rfl
def ai_FT (I I2 : Nat → Nat → Int32) : Prop := ∀ a, (a < 76 ∨ 172 ≤ a ∨ (a - 76) % 4 < 2) → I2 a = I a
def ai_mm (t q k j x : Nat) : Nat := t + (if x < q ∨ (x = q ∧ j < k) then 1 else 0)
theorem mm_le {t q k : Nat} (h : t < 40) (j x : Nat) : ai_mm t q k j x ≤ 40 := by unfold ai_mm; split <;> omega
theorem mm_0 {t j x : Nat} : ai_mm t 0 0 j x = t := by unfold ai_mm; rw [if_neg (by omega)]; rfl
def ai_S.T1 (σ : ai_S) (m : Nat → Nat → Nat) (j q a b : Nat) : Nat := if j < σ.nJ ∧ q < 5 then ai_qn (σ.p1 j q a b) (m j q) else σ.sd j q a b
def ai_S.T2 (σ : ai_S) (m : Nat → Nat → Nat) (j q b : Nat) : Nat := if j < σ.nJ ∧ q < 5 then ai_qn (σ.p2 j q b) (m j q) else σ.sa j q b
theorem rx_tt0 {T9 : Nat → Nat → Nat → Nat → Nat} {T29 : Nat → Nat → Nat → Nat} (hX : ai_RX σ I L) {I2 : Nat → Nat → Int32} (f : ai_FT I I2) (h1 : ∀ j q a b, j < 24 → q < 5 → a < 4 → b < 4 → I2 (76 + 4 * j + 2) ((q * 4 + a) * 4 + b) = nI (T9 j q a b)) (h2 : ∀ j q b, j < 24 → q < 5 → b < 4 → I2 (76 + 4 * j + 3) (q * 4 + b) = nI (T29 j q b)) : ai_RX (σ.tt T9 T29) I2 L := by
  refine ⟨?_, ?_, ?_, ?_, ?_, ?_, ?_, ?_, ?_, ?_, ?_, ?_, ?_, ?_, ?_, ?_, ?_, ?_, ?_, ?_, ?_, ?_, ?_, ?_, ?_, ?_, ?_⟩
  · rw [f _ (by omega)]; exact hX.nT
  · rw [f _ (by omega)]; exact hX.nQ
  · rw [f _ (by omega)]; exact hX.nJ
  · rw [f _ (by omega)]; exact hX.mk
  · rw [f _ (by omega)]; exact hX.lk
  · rw [f _ (by omega)]; exact hX.hs
  · rw [f _ (by omega)]; exact hX.st
  · intro i h0; rw [f _ (by omega)]; exact hX.ch i h0
  · intro i h0; rw [f _ (by omega)]; exact hX.rf i h0
  · intro s h0; rw [f _ (by omega)]; exact hX.wr s h0
  · intro s h0; rw [f _ (by omega)]; exact hX.jd s h0
  · intro s h0 h1; rw [f _ (by omega)]; exact hX.so s h0 h1
  · intro s h0; rw [f _ (by omega)]; exact hX.sz s h0
  · exact hX.el
  · intro q h0 h1; rw [f _ (by omega)]; exact hX.an q h0 h1
  · intro q h0 h1 h2; rw [f _ (by omega)]; exact hX.pa q h0 h1 h2
  · intro q h0 h1 h2; rw [f _ (by omega)]; exact hX.wa q h0 h1 h2
  · intro j h0; rw [f _ (by omega)]; exact hX.lf j h0
  · intro j h0; rw [f _ (by omega), hX.gn j h0, tt_given]
  · intro j h0; rw [f _ (by omega)]; exact hX.sr j h0
  · intro j h0; rw [f _ (by omega), hX.og j h0, tt_cop]
  · intro y x h0 h3 h4 h5; rw [f _ (by omega), hX.al y x h0 h3 h4 h5, tt_diff, tt_same]
  · exact h1
  · exact h2
  · intro c h0; rw [f _ (by omega)]; exact hX.tr c h0
  · intro c h0; rw [f _ (by omega)]; exact hX.ag c h0
  · intro c j h0 h1; rw [f _ (by omega)]; exact hX.nt c j h0 h1
theorem tt_tt {T T9 : Nat → Nat → Nat → Nat → Nat} {T2 T29 : Nat → Nat → Nat → Nat} : (σ.tt T T2).tt T9 T29 = σ.tt T9 T29 := rfl
theorem rx_tt {T T9 : Nat → Nat → Nat → Nat → Nat} {T2 T29 : Nat → Nat → Nat → Nat} (hX : ai_RX (σ.tt T T2) I L) {I2 : Nat → Nat → Int32} (f : ai_FT I I2) (h1 : ∀ j q a b, j < 24 → q < 5 → a < 4 → b < 4 → I2 (76 + 4 * j + 2) ((q * 4 + a) * 4 + b) = nI (T9 j q a b)) (h2 : ∀ j q b, j < 24 → q < 5 → b < 4 → I2 (76 + 4 * j + 3) (q * 4 + b) = nI (T29 j q b)) : ai_RX (σ.tt T9 T29) I2 L := by
  have h := rx_tt0 hX f h1 h2
  rw [tt_tt] at h
  exact h
theorem rx_tabeq {m m9 : Nat → Nat → Nat} (hX : ai_RX (σ.tab m) I L) (h1 : ∀ j q a b, j < σ.nJ → q < 5 → ai_qn (σ.p1 j q a b) (m9 j q) = ai_qn (σ.p1 j q a b) (m j q)) (h2 : ∀ j q b, j < σ.nJ → q < 5 → ai_qn (σ.p2 j q b) (m9 j q) = ai_qn (σ.p2 j q b) (m j q)) : ai_RX (σ.tab m9) I L := by
  refine rx_tt hX (fun _ _ => rfl) (fun j q a b hj hq ha hb => ?_) (fun j q b hj hq hb => ?_)
  · rw [hX.sd j q a b hj hq ha hb]
    congr 1
    show (if j < σ.nJ ∧ q < 5 then ai_qn (σ.p1 j q a b) (m j q) else σ.sd j q a b) = (if j < σ.nJ ∧ q < 5 then ai_qn (σ.p1 j q a b) (m9 j q) else σ.sd j q a b)
    by_cases e : j < σ.nJ ∧ q < 5
    · rw [if_pos e, if_pos e, h1 j q a b e.1 e.2]
    · rw [if_neg e, if_neg e]
  · rw [hX.sa j q b hj hq hb]
    congr 1
    show (if j < σ.nJ ∧ q < 5 then ai_qn (σ.p2 j q b) (m j q) else σ.sa j q b) = (if j < σ.nJ ∧ q < 5 then ai_qn (σ.p2 j q b) (m9 j q) else σ.sa j q b)
    by_cases e : j < σ.nJ ∧ q < 5
    · rw [if_pos e, if_pos e, h2 j q b e.1 e.2]
    · rw [if_neg e, if_neg e]
theorem rx_count {t q k b : Nat} (hX : ai_RX (σ.tab (ai_mm t q k)) I L) (hq : q < 5) (hk : k < σ.nJ) (hk24 : k < 24) (hcd : σ.ctd k (5 * t + q) = true) (hsa : σ.said k (5 * t + q) < 4) (hb : b < 4) (htg : σ.tog (5 * t + q) = b + 1) {I2 : Nat → Nat → Int32} (h : I2 = ai_ui (ai_ui I (76 + 4 * k + 2) ((q * 4 + σ.said k (5 * t + q)) * 4 + b) (nI (ai_qn (σ.p1 k q (σ.said k (5 * t + q)) b) t + 1))) (76 + 4 * k + 3) (q * 4 + b) (nI (ai_qn (σ.p2 k q b) t + 1))) : ai_RX (σ.tab (ai_mm t q (k + 1))) I2 L ∧ ai_FT I I2 := by
  have hf : ai_FT I I2 := fun a ha => ui2_row h (by omega) (by omega)
  have m1 : ai_mm t q k k q = t := by unfold ai_mm; rw [if_neg (by omega)]; rfl
  have m2 : ai_mm t q (k + 1) k q = t + 1 := by unfold ai_mm; rw [if_pos (by omega)]
  have m3 : ∀ j x, ¬ (j = k ∧ x = q) → ai_mm t q (k + 1) j x = ai_mm t q k j x := fun j x e => by
    unfold ai_mm
    by_cases e2 : x < q ∨ (x = q ∧ j < k)
    · rw [if_pos e2, if_pos (by omega)]
    · rw [if_neg e2, if_neg (by omega)]
  refine ⟨rx_tt hX hf (fun j x a c hj hx ha hc => ?_) (fun j x c hj hx hc => ?_), hf⟩
  · have h0 : I (76 + 4 * j + 2) ((x * 4 + a) * 4 + c) = nI (σ.T1 (ai_mm t q k) j x a c) := hX.sd j x a c hj hx ha hc
    show I2 _ _ = nI (σ.T1 (ai_mm t q (k + 1)) j x a c)
    by_cases e : j = k ∧ x = q
    · obtain ⟨rfl, rfl⟩ := e
      unfold ai_S.T1 at h0 ⊢
      rw [if_pos ⟨hk, hq⟩] at h0 ⊢
      rw [m1] at h0
      rw [m2]
      by_cases e2 : a = σ.said j (5 * t + x) ∧ c = b
      · obtain ⟨rfl, rfl⟩ := e2
        rw [qn_T (p := σ.p1 j x (σ.said j (5 * t + x)) c) (by unfold ai_S.p1; rw [hcd, htg]; simp), h]
        simp [ai_ui]
      · rw [qn_F (p := σ.p1 j x a c) (by unfold ai_S.p1; rw [hcd, htg]; simp only [Bool.true_and, Bool.and_eq_true, decide_eq_true_eq]; omega), ← h0, h]
        have e3 : ¬ 76 + 4 * j + 2 = 76 + 4 * j + 3 := by omega
        have e4 : ¬ (x * 4 + a) * 4 + c = (x * 4 + σ.said j (5 * t + x)) * 4 + b := by omega
        simp [ai_ui, e4]
    · have e5 : σ.T1 (ai_mm t q (k + 1)) j x a c = σ.T1 (ai_mm t q k) j x a c := by unfold ai_S.T1; rw [m3 j x e]
      rw [e5, ← h0]
      obtain ⟨I1, hI1⟩ : ∃ z, z = ai_ui I (76 + 4 * k + 2) ((q * 4 + σ.said k (5 * t + q)) * 4 + b) (nI (ai_qn (σ.p1 k q (σ.said k (5 * t + q)) b) t + 1)) := ⟨_, rfl⟩
      rw [← hI1] at h
      rw [ui_row h (by omega), ui_other hI1 (by omega)]
  · have h0 : I (76 + 4 * j + 3) (x * 4 + c) = nI (σ.T2 (ai_mm t q k) j x c) := hX.sa j x c hj hx hc
    show I2 _ _ = nI (σ.T2 (ai_mm t q (k + 1)) j x c)
    obtain ⟨I1, hI1⟩ : ∃ z, z = ai_ui I (76 + 4 * k + 2) ((q * 4 + σ.said k (5 * t + q)) * 4 + b) (nI (ai_qn (σ.p1 k q (σ.said k (5 * t + q)) b) t + 1)) := ⟨_, rfl⟩
    rw [← hI1] at h
    by_cases e : j = k ∧ x = q
    · obtain ⟨rfl, rfl⟩ := e
      unfold ai_S.T2 at h0 ⊢
      rw [if_pos ⟨hk, hq⟩] at h0 ⊢
      rw [m1] at h0
      rw [m2]
      by_cases e2 : c = b
      · subst e2
        rw [qn_T (p := σ.p2 j x c) (by unfold ai_S.p2; rw [hcd, htg]; simp)]
        exact ui_same h
      · rw [qn_F (p := σ.p2 j x c) (by unfold ai_S.p2; rw [hcd, htg]; simp only [Bool.true_and, decide_eq_true_eq]; omega), ← h0, ui_other h (by omega), ui_row hI1 (by omega)]
    · have e5 : σ.T2 (ai_mm t q (k + 1)) j x c = σ.T2 (ai_mm t q k) j x c := by unfold ai_S.T2; rw [m3 j x e]
      rw [e5, ← h0, ui_other h (by omega), ui_row hI1 (by omega)]
theorem mm_step {t q k : Nat} {P : Nat → Bool} {j x : Nat} (h : (j = k ∧ x = q) → P t = false) : ai_qn P (ai_mm t q (k + 1) j x) = ai_qn P (ai_mm t q k j x) := by
  unfold ai_mm
  by_cases e : j = k ∧ x = q
  · rw [if_pos (by omega), if_neg (by omega)]
    exact qn_F (by rw [h e]; decide)
  · by_cases e2 : x < q ∨ (x = q ∧ j < k)
    · rw [if_pos e2, if_pos (by omega)]
    · rw [if_neg e2, if_neg (by omega)]
theorem rx_nocount {t q k : Nat} (hX : ai_RX (σ.tab (ai_mm t q k)) I L) (hcd : ¬ σ.ctd k (5 * t + q) = true) : ai_RX (σ.tab (ai_mm t q (k + 1))) I L :=
  rx_tabeq hX (fun j x a b _ _ => mm_step (fun e => by obtain ⟨rfl, rfl⟩ := e; unfold ai_S.p1; rw [nb_F hcd]; rfl)) (fun j x b _ _ => mm_step (fun e => by obtain ⟨rfl, rfl⟩ := e; unfold ai_S.p2; rw [nb_F hcd]; rfl))
theorem mm_next {t q : Nat} {P : Nat → Bool} {j x n : Nat} (hj : j < n) (h : x = q → P t = false) : ai_qn P (ai_mm t (q + 1) 0 j x) = ai_qn P (ai_mm t q 0 j x) := by
  unfold ai_mm
  by_cases e : x = q
  · rw [if_pos (by omega), if_neg (by omega)]
    exact qn_F (by rw [h e]; decide)
  · by_cases e2 : x < q
    · rw [if_pos (by omega), if_pos (by omega)]
    · rw [if_neg (by omega), if_neg (by omega)]
theorem rx_notog {t q : Nat} (hX : ai_RX (σ.tab (ai_mm t q 0)) I L) (h : σ.tog (5 * t + q) = 0) : ai_RX (σ.tab (ai_mm t (q + 1) 0)) I L :=
  rx_tabeq hX (fun j x a b hj _ => mm_next hj (fun e => by subst e; unfold ai_S.p1; rw [h]; simp)) (fun j x b hj _ => mm_next hj (fun e => by subst e; unfold ai_S.p2; rw [h]; simp))
theorem rx_allj {t q : Nat} (hX : ai_RX (σ.tab (ai_mm t q σ.nJ)) I L) : ai_RX (σ.tab (ai_mm t (q + 1) 0)) I L := by
  have e : ∀ j x, j < σ.nJ → ai_mm t (q + 1) 0 j x = ai_mm t q σ.nJ j x := fun j x hj => by
    unfold ai_mm
    by_cases e2 : x < q ∨ (x = q ∧ j < σ.nJ)
    · rw [if_pos e2, if_pos (by omega)]
    · rw [if_neg e2, if_neg (by omega)]
  exact rx_tabeq hX (fun j x a b hj _ => by rw [e j x hj]) (fun j x b hj _ => by rw [e j x hj])
theorem rx_rowend (hV : ai_IV σ) {t : Nat} (ht : t < 40) (hX : ai_RX (σ.tab (ai_mm t σ.nQ 0)) I L) : ai_RX (σ.tab (ai_mm (t + 1) 0 0)) I L := by
  have e : ∀ (P : Nat → Bool) j x, (σ.nQ ≤ x → P t = false) → ai_qn P (ai_mm (t + 1) 0 0 j x) = ai_qn P (ai_mm t σ.nQ 0 j x) := fun P j x h => by
    rw [mm_0]
    unfold ai_mm
    by_cases e2 : x < σ.nQ
    · rw [if_pos (by omega)]
    · rw [if_neg (by omega)]
      exact qn_F (by rw [h (by omega)]; decide)
  exact rx_tabeq hX (fun j x a b hj hx => e _ j x (fun hn => by unfold ai_S.p1; rw [ctd_no hV (by omega) (by omega)]; rfl)) (fun j x b hj hx => e _ j x (fun hn => by unfold ai_S.p2; rw [ctd_no hV (by omega) (by omega)]; rfl))
theorem rx_fin (hX : ai_RX (σ.tab (ai_mm σ.nT 0 0)) I L) : ai_RX σ.mkT I L :=
  rx_tabeq (m9 := fun _ _ => σ.nT) hX (fun j x a b _ _ => by rw [mm_0]) (fun j x b _ _ => by rw [mm_0])
theorem ft_tr {I I2 I3 : Nat → Nat → Int32} (h : ai_FT I I2) (h2 : ai_FT I2 I3) : ai_FT I I3 := fun a ha => (h2 a ha).trans (h a ha)

theorem tab_sd {t q k a b : Nat} (hk : k < σ.nJ) (hq : q < 5) : (σ.tab (ai_mm t q k)).sd k q a b = ai_qn (σ.p1 k q a b) t := by
  have m1 : ai_mm t q k k q = t := by unfold ai_mm; rw [if_neg (by omega)]; rfl
  show (if k < σ.nJ ∧ q < 5 then ai_qn (σ.p1 k q a b) (ai_mm t q k k q) else σ.sd k q a b) = _
  rw [if_pos ⟨hk, hq⟩, m1]
theorem tab_sa {t q k b : Nat} (hk : k < σ.nJ) (hq : q < 5) : (σ.tab (ai_mm t q k)).sa k q b = ai_qn (σ.p2 k q b) t := by
  have m1 : ai_mm t q k k q = t := by unfold ai_mm; rw [if_neg (by omega)]; rfl
  show (if k < σ.nJ ∧ q < 5 then ai_qn (σ.p2 k q b) (ai_mm t q k k q) else σ.sa k q b) = _
  rw [if_pos ⟨hk, hq⟩, m1]
theorem x_tally_loop (G : ai_G S F) (hV : ai_IV σ) {t q b : Nat} (ht : t < σ.nT) (hq : q < σ.nQ) (hb : b < 4) (htg : σ.tog (5 * t + q) = b + 1) {I0 : Nat → Nat → Int32} : ∀ (z k : Nat) (I : Nat → Nat → Int32), k + z = σ.nJ → ai_RX (σ.tab (ai_mm t q k)) I L → ai_FT I0 I → ai_Ev none 101 3 [some (.ref 1), some (.ref (172 + 2 * (5 * t + q))), some (.int (nI q)), some (.int (nI b)), some (.int (nI k))] [] (S, I, L, F) (ai_Pu S F L (fun I2 => ai_RX (σ.tab (ai_mm t (q + 1) 0)) I2 L ∧ ai_FT I0 I2)) := by
  have hnT := hV.nT
  have hnQ := hV.nQ
  have hnJ := hV.nJ
  have hc : 5 * t + q < 200 := by omega
  have hm : (5 * t + q) % 5 = q := by omega
  have han := hV.an q hq
  intro z
  induction z with
  | zero =>
    intro k I hz hX hf
    have e9 : k = σ.nJ := by omega
    subst e9
    refine ev_iload 5 rfl d101_3 rfl ?_
    refine ev_aload_n 6 rfl d101_5 rfl ?_
    refine ev_geti (v := nI σ.nJ) 9 rfl 8 6 d101_6 rfl (by omega) (G.1 _ _ (rfl : ai_sp 1 = (8, 0)) (by decide) (by decide)) hX.nJ ?_
    refine ev_icmp 46 12 (by decide) rfl (cn_ge (by omega) (by omega)) d101_9 (fun hc_9 => ?_) (fun hc_9 => absurd hc_9 (by omega))
    refine ev_vret rfl d101_46 ?_
    exact ⟨rfl, _, rfl, rx_allj hX, hf⟩
  | succ z ih =>
    intro k I hz hX hf
    have hk9 : k < σ.nJ := by omega
    have hVm := iv_tab (m := ai_mm t q k) hV (mm_le (by omega))
    refine ev_iload 5 rfl d101_3 rfl ?_
    refine ev_aload_n 6 rfl d101_5 rfl ?_
    refine ev_geti (v := nI σ.nJ) 9 rfl 8 6 d101_6 rfl (by omega) (G.1 _ _ (rfl : ai_sp 1 = (8, 0)) (by decide) (by decide)) hX.nJ ?_
    refine ev_icmp 46 12 (by decide) rfl (cn_ge (by omega) (by omega)) d101_9 (fun hc_9 => absurd hc_9 (by omega)) (fun hc_9 => ?_)
    refine ev_aload_n 13 rfl d101_12 rfl ?_
    refine ev_aload_n 14 rfl d101_13 rfl ?_
    refine ev_iload 16 rfl d101_14 rfl ?_
    refine ev_cb2 19 rfl 97 d101_16 rfl rfl (by rw [G.1 _ _ (rfl : ai_sp 1 = (8, 0)) (by decide) (by decide)]; rfl) (by omega) rfl (show ai_Ev none 97 0 _ [] (S, I, L, F) (ai_Pb S F I L (σ.ctd k (5 * t + q) = true)) from x_counting G hX hVm (by omega) hc) (fun hq_16 => ?_) (fun hq_16 => ?_)
    · have hsd := ctd_said hV hc hq_16
      rw [hm] at hsd
      have hv : I (76 + 4 * k + 2) ((q * 4 + σ.said k (5 * t + q)) * 4 + b) = nI (ai_qn (σ.p1 k q (σ.said k (5 * t + q)) b) t) := (hX.sd k q _ b (by omega) (by omega) (by omega) hb).trans (by rw [tab_sd hk9 (by omega)])
      have hu : I (76 + 4 * k + 3) (q * 4 + b) = nI (ai_qn (σ.p2 k q b) t) := (hX.sa k q b (by omega) (by omega) hb).trans (by rw [tab_sa hk9 (by omega)])
      refine ev_if_F 40 22 (by decide) rfl (by decide) d101_19 ?_
      refine ev_aload_n 23 rfl d101_22 rfl ?_
      refine ev_getr 26 rfl 8 2 d101_23 rfl (by omega) (G.1 _ _ (rfl : ai_sp 1 = (8, 0)) (by decide) (by decide)) (G.2 _ _ _ (rfl : ai_rf 1 2 = some 4)) ?_
      refine ev_iload 28 rfl d101_26 rfl ?_
      refine ev_aald_n 29 rfl d101_28 (by omega) (by decide) (G.1 _ _ (rfl : ai_sp 4 = (106, 24)) (by decide) (by decide)) (by omega) (by decide) (G.2 _ _ _ (rf_judge (by omega))) ?_
      refine ev_iload_n 30 rfl d101_29 rfl ?_
      refine ev_aload_n 31 rfl d101_30 rfl ?_
      refine ev_iload 33 rfl d101_31 rfl ?_
      refine ev_cp1 36 rfl 16 d101_33 rfl rfl (by rw [G.1 _ _ (sp_case (by omega)) (by omega) (by omega)]; rfl) (by omega) rfl (show ai_Ev none 16 0 _ [] (S, I, L, F) (ai_Pp S F I L (.int (nI (σ.said k (5 * t + q))))) from x_said G hX hVm (by omega) hc (ctd_gv hq_16)) ?_
      refine ev_iload_n 37 rfl d101_36 rfl ?_
      refine ev_cu3 40 rfl 23 d101_37 rfl rfl (by rw [G.1 _ _ (sp_judge (by omega)) (by omega) (by omega)]; rfl) (by omega) rfl (j_count G (by omega) (by omega) (by omega) hb hv hu) (fun I_1 hr_37 => ?_)
      obtain ⟨hX2, hf2⟩ := rx_count hX (by omega) hk9 (by omega) hq_16 (by omega) hb htg hr_37
      refine ev_iinc (v := nI (k + 1)) 43 rfl d101_40 rfl (Nat.le_of_ble_eq_true rfl) (nI_add _ 1) rfl ?_
      show ai_Ev _ _ _ [some (.ref 1), some (.ref (172 + 2 * (5 * t + q))), some (.int (nI q)), some (.int (nI b)), some (.int (nI (k + 1)))] _ _ _
      refine ev_goto 3 (by decide) d101_43 ?_
      exact ih (k + 1) _ (by omega) hX2 (ft_tr hf hf2)
    · refine ev_if_T 40 (by decide) (by decide) d101_19 ?_
      refine ev_iinc (v := nI (k + 1)) 43 rfl d101_40 rfl (Nat.le_of_ble_eq_true rfl) (nI_add _ 1) rfl ?_
      show ai_Ev _ _ _ [some (.ref 1), some (.ref (172 + 2 * (5 * t + q))), some (.int (nI q)), some (.int (nI b)), some (.int (nI (k + 1)))] _ _ _
      refine ev_goto 3 (by decide) d101_43 ?_
      exact ih (k + 1) I (by omega) (rx_nocount hX hq_16) hf
theorem x_tally (G : ai_G S F) (hV : ai_IV σ) {t q b : Nat} (ht : t < σ.nT) (hq : q < σ.nQ) (hb : b < 4) (htg : σ.tog (5 * t + q) = b + 1) (hX : ai_RX (σ.tab (ai_mm t q 0)) I L) : ai_Ev none 101 0 [some (.ref 1), some (.ref (172 + 2 * (5 * t + q))), some (.int (nI q)), some (.int (nI b)), none] [] (S, I, L, F) (ai_Pu S F L (fun I2 => ai_RX (σ.tab (ai_mm t (q + 1) 0)) I2 L ∧ ai_FT I I2)) := by
  refine ev_iconst (v := nI 0) 1 rfl d101_0 (by decide) ?_
  refine ev_store_i 3 rfl d101_1 ⟨rfl, Nat.le_of_ble_eq_true rfl⟩ rfl ?_
  show ai_Ev _ _ _ [some (.ref 1), some (.ref (172 + 2 * (5 * t + q))), some (.int (nI q)), some (.int (nI b)), some (.int (nI 0))] _ _ _
  exact x_tally_loop G hV ht hq hb htg σ.nJ 0 I (by omega) hX (fun _ _ => rfl)
theorem x_mk_in (G : ai_G S F) (hV : ai_IV σ) {t : Nat} (ht : t < σ.nT) {I0 : Nat → Nat → Int32} {Q : Option Value → ai_H → Prop} (hk : ∀ I2 u3 u4, ai_RX (σ.tab (ai_mm t σ.nQ 0)) I2 L → ai_FT I0 I2 → ai_Ev none 100 92 [some (.ref 1), some (.int (nI t)), some (.int (nI σ.nQ)), u3, u4] [] (S, I2, L, F) Q) : ∀ (z q : Nat) (I : Nat → Nat → Int32) (u3 u4 : Option Value), q + z = σ.nQ → ai_RX (σ.tab (ai_mm t q 0)) I L → ai_FT I0 I → ai_Ev none 100 37 [some (.ref 1), some (.int (nI t)), some (.int (nI q)), u3, u4] [] (S, I, L, F) Q := by
  have hnT := hV.nT
  have hnQ := hV.nQ
  have hnJ := hV.nJ
  intro z
  induction z with
  | zero =>
    intro q I u3 u4 hz hX hf
    have e9 : q = σ.nQ := by omega
    subst e9
    refine ev_iload_n 38 rfl d100_37 rfl ?_
    refine ev_aload_n 39 rfl d100_38 rfl ?_
    refine ev_geti (v := nI σ.nQ) 42 rfl 8 5 d100_39 rfl (by omega) (G.1 _ _ (rfl : ai_sp 1 = (8, 0)) (by decide) (by decide)) hX.nQ ?_
    refine ev_icmp 92 45 (by decide) rfl (cn_ge (by omega) (by omega)) d100_42 (fun hc_42 => ?_) (fun hc_42 => absurd hc_42 (by omega))
    exact hk _ _ _ hX hf
  | succ z ih =>
    intro q I u3 u4 hz hX hf
    have hq : q < σ.nQ := by omega
    have hc : 5 * t + q < 200 := by omega
    have htr := tr_le hV hc
    have hag := ag_le hV hc
    have hVm := iv_tab (m := ai_mm t q 0) hV (mm_le (by omega))
    refine ev_iload_n 38 rfl d100_37 rfl ?_
    refine ev_aload_n 39 rfl d100_38 rfl ?_
    refine ev_geti (v := nI σ.nQ) 42 rfl 8 5 d100_39 rfl (by omega) (G.1 _ _ (rfl : ai_sp 1 = (8, 0)) (by decide) (by decide)) hX.nQ ?_
    refine ev_icmp 92 45 (by decide) rfl (cn_ge (by omega) (by omega)) d100_42 (fun hc_42 => absurd hc_42 (by omega)) (fun hc_42 => ?_)
    refine ev_aload_n 46 rfl d100_45 rfl ?_
    refine ev_iload_n 47 rfl d100_46 rfl ?_
    refine ev_iload_n 48 rfl d100_47 rfl ?_
    refine ev_cp2 51 rfl 89 d100_48 rfl rfl (by rw [G.1 _ _ (rfl : ai_sp 1 = (8, 0)) (by decide) (by decide)]; rfl) (by omega) rfl (x_caseOf G (t := t) (q := q) (by omega) (by omega)) ?_
    refine ev_store_an 52 rfl d100_51 (Nat.le_of_ble_eq_true rfl) rfl ?_
    show ai_Ev _ _ _ [some (.ref 1), some (.int (nI t)), some (.int (nI q)), some (.ref (172 + 2 * (5 * t + q))), u4] _ _ _
    refine ev_aload_n 53 rfl d100_52 rfl ?_
    refine ev_cb0 56 rfl 13 d100_53 rfl rfl (by rw [G.1 _ _ (sp_case (by omega)) (by omega) (by omega)]; rfl) (by omega) rfl (show ai_Ev none 13 0 _ [] (S, I, L, F) (ai_Pb S F I L (σ.tr (5 * t + q) ≠ 0)) from x_known G hX hVm hc) (fun hq_53 => ?_) (fun hq_53 => ?_)
    · have htog : σ.tog (5 * t + q) = σ.tr (5 * t + q) := if_neg hq_53
      refine ev_if_F 66 59 (by decide) rfl (by decide) d100_56 ?_
      refine ev_aload_n 60 rfl d100_59 rfl ?_
      refine ev_geti (v := nI (σ.tr (5 * t + q)) - 1) 63 rfl 1 0 d100_60 rfl (by omega) (G.1 _ _ (sp_case (by omega)) (by omega) (by omega)) (hX.tr _ (by omega)) ?_
      refine ev_goto 70 (by decide) d100_63 ?_
      refine ev_store_i 72 rfl d100_70 ⟨rfl, Nat.le_of_ble_eq_true rfl⟩ rfl ?_
      show ai_Ev _ _ _ [some (.ref 1), some (.int (nI t)), some (.int (nI q)), some (.ref (172 + 2 * (5 * t + q))), some (.int (nI (σ.tr (5 * t + q)) - 1))] _ _ _
      refine ev_iload 74 rfl d100_72 rfl ?_
      refine ev_iconst (v := (-1)) 75 rfl d100_74 (by decide) ?_
      refine ev_icmp 86 78 (by decide) rfl (cq_eq (by omega)) d100_75 (fun hc_75 => ?_) (fun hc_75 => ?_)
      · refine ev_iinc (v := nI (q + 1)) 89 rfl d100_86 rfl (Nat.le_of_ble_eq_true rfl) (nI_add _ 1) rfl ?_
        show ai_Ev _ _ _ [some (.ref 1), some (.int (nI t)), some (.int (nI (q + 1))), some (.ref (172 + 2 * (5 * t + q))), some (.int (nI (σ.tr (5 * t + q)) - 1))] _ _ _
        refine ev_goto 37 (by decide) d100_89 ?_
        exact ih (q + 1) I (some (.ref (172 + 2 * (5 * t + q)))) (some (.int (nI (σ.tr (5 * t + q)) - 1))) (by omega) (rx_notog hX (by omega)) hf
      · rw [nM_pos hc_75]
        refine ev_aload_n 79 rfl d100_78 rfl ?_
        refine ev_aload_n 80 rfl d100_79 rfl ?_
        refine ev_iload_n 81 rfl d100_80 rfl ?_
        refine ev_iload 83 rfl d100_81 rfl ?_
        refine ev_cu3 86 rfl 101 d100_83 rfl rfl (by rw [G.1 _ _ (rfl : ai_sp 1 = (8, 0)) (by decide) (by decide)]; rfl) (by omega) rfl (x_tally G hV ht hq (by omega) (by omega) hX) (fun I_1 hr_83 => ?_)
        obtain ⟨hX2, hf2⟩ := hr_83
        refine ev_iinc (v := nI (q + 1)) 89 rfl d100_86 rfl (Nat.le_of_ble_eq_true rfl) (nI_add _ 1) rfl ?_
        show ai_Ev _ _ _ [some (.ref 1), some (.int (nI t)), some (.int (nI (q + 1))), some (.ref (172 + 2 * (5 * t + q))), some (.int (nI (σ.tr (5 * t + q) - 1)))] _ _ _
        refine ev_goto 37 (by decide) d100_89 ?_
        exact ih (q + 1) _ (some (.ref (172 + 2 * (5 * t + q)))) (some (.int (nI (σ.tr (5 * t + q) - 1)))) (by omega) hX2 (ft_tr hf hf2)
    · have htog : σ.tog (5 * t + q) = σ.ag (5 * t + q) := if_pos (Classical.not_not.mp hq_53)
      refine ev_if_T 66 (by decide) (by decide) d100_56 ?_
      refine ev_aload_n 67 rfl d100_66 rfl ?_
      refine ev_geti (v := nI (σ.ag (5 * t + q)) - 1) 70 rfl 1 1 d100_67 rfl (by omega) (G.1 _ _ (sp_case (by omega)) (by omega) (by omega)) (hX.ag _ (by omega)) ?_
      refine ev_store_i 72 rfl d100_70 ⟨rfl, Nat.le_of_ble_eq_true rfl⟩ rfl ?_
      show ai_Ev _ _ _ [some (.ref 1), some (.int (nI t)), some (.int (nI q)), some (.ref (172 + 2 * (5 * t + q))), some (.int (nI (σ.ag (5 * t + q)) - 1))] _ _ _
      refine ev_iload 74 rfl d100_72 rfl ?_
      refine ev_iconst (v := (-1)) 75 rfl d100_74 (by decide) ?_
      refine ev_icmp 86 78 (by decide) rfl (cq_eq (by omega)) d100_75 (fun hc_75 => ?_) (fun hc_75 => ?_)
      · refine ev_iinc (v := nI (q + 1)) 89 rfl d100_86 rfl (Nat.le_of_ble_eq_true rfl) (nI_add _ 1) rfl ?_
        show ai_Ev _ _ _ [some (.ref 1), some (.int (nI t)), some (.int (nI (q + 1))), some (.ref (172 + 2 * (5 * t + q))), some (.int (nI (σ.ag (5 * t + q)) - 1))] _ _ _
        refine ev_goto 37 (by decide) d100_89 ?_
        exact ih (q + 1) I (some (.ref (172 + 2 * (5 * t + q)))) (some (.int (nI (σ.ag (5 * t + q)) - 1))) (by omega) (rx_notog hX (by omega)) hf
      · rw [nM_pos hc_75]
        refine ev_aload_n 79 rfl d100_78 rfl ?_
        refine ev_aload_n 80 rfl d100_79 rfl ?_
        refine ev_iload_n 81 rfl d100_80 rfl ?_
        refine ev_iload 83 rfl d100_81 rfl ?_
        refine ev_cu3 86 rfl 101 d100_83 rfl rfl (by rw [G.1 _ _ (rfl : ai_sp 1 = (8, 0)) (by decide) (by decide)]; rfl) (by omega) rfl (x_tally G hV ht hq (by omega) (by omega) hX) (fun I_1 hr_83 => ?_)
        obtain ⟨hX2, hf2⟩ := hr_83
        refine ev_iinc (v := nI (q + 1)) 89 rfl d100_86 rfl (Nat.le_of_ble_eq_true rfl) (nI_add _ 1) rfl ?_
        show ai_Ev _ _ _ [some (.ref 1), some (.int (nI t)), some (.int (nI (q + 1))), some (.ref (172 + 2 * (5 * t + q))), some (.int (nI (σ.ag (5 * t + q) - 1)))] _ _ _
        refine ev_goto 37 (by decide) d100_89 ?_
        exact ih (q + 1) _ (some (.ref (172 + 2 * (5 * t + q)))) (some (.int (nI (σ.ag (5 * t + q) - 1)))) (by omega) hX2 (ft_tr hf hf2)
theorem x_mk_loop (G : ai_G S F) (hV : ai_IV σ) {I0 : Nat → Nat → Int32} : ∀ (z t : Nat) (I : Nat → Nat → Int32) (u2 u3 u4 : Option Value), t + z = σ.nT → ai_RX (σ.tab (ai_mm t 0 0)) I L → ai_FT I0 I → ai_Ev none 100 27 [some (.ref 1), some (.int (nI t)), u2, u3, u4] [] (S, I, L, F) (ai_Pu S F L (fun I2 => ai_RX σ.mkT I2 L ∧ ai_FT I0 I2)) := by
  have hnT := hV.nT
  have hnQ := hV.nQ
  have hnJ := hV.nJ
  intro z
  induction z with
  | zero =>
    intro t I u2 u3 u4 hz hX hf
    have e9 : t = σ.nT := by omega
    subst e9
    refine ev_iload_n 28 rfl d100_27 rfl ?_
    refine ev_aload_n 29 rfl d100_28 rfl ?_
    refine ev_geti (v := nI σ.nT) 32 rfl 8 4 d100_29 rfl (by omega) (G.1 _ _ (rfl : ai_sp 1 = (8, 0)) (by decide) (by decide)) hX.nT ?_
    refine ev_icmp 98 35 (by decide) rfl (cn_ge (by omega) (by omega)) d100_32 (fun hc_32 => ?_) (fun hc_32 => absurd hc_32 (by omega))
    refine ev_vret rfl d100_98 ?_
    exact ⟨rfl, _, rfl, rx_fin hX, hf⟩
  | succ z ih =>
    intro t I u2 u3 u4 hz hX hf
    have ht2 : t < σ.nT := by omega
    refine ev_iload_n 28 rfl d100_27 rfl ?_
    refine ev_aload_n 29 rfl d100_28 rfl ?_
    refine ev_geti (v := nI σ.nT) 32 rfl 8 4 d100_29 rfl (by omega) (G.1 _ _ (rfl : ai_sp 1 = (8, 0)) (by decide) (by decide)) hX.nT ?_
    refine ev_icmp 98 35 (by decide) rfl (cn_ge (by omega) (by omega)) d100_32 (fun hc_32 => absurd hc_32 (by omega)) (fun hc_32 => ?_)
    refine ev_iconst (v := nI 0) 36 rfl d100_35 (by decide) ?_
    refine ev_store_in 37 rfl d100_36 (Nat.le_of_ble_eq_true rfl) rfl ?_
    show ai_Ev _ _ _ [some (.ref 1), some (.int (nI t)), some (.int (nI 0)), u3, u4] _ _ _
    refine x_mk_in G hV ht2 ?_ σ.nQ 0 I _ _ (by omega) hX hf
    intro I9 v3 v4 hX9 hf9
    refine ev_iinc (v := nI (t + 1)) 95 rfl d100_92 rfl (Nat.le_of_ble_eq_true rfl) (nI_add _ 1) rfl ?_
    show ai_Ev _ _ _ [some (.ref 1), some (.int (nI (t + 1))), some (.int (nI σ.nQ)), v3, v4] _ _ _
    refine ev_goto 27 (by decide) d100_95 ?_
    exact ih (t + 1) I9 (some (.int (nI σ.nQ))) v3 v4 (by omega) (rx_rowend hV (by omega) hX9) hf9
theorem x_clear_loop (G : ai_G S F) (hV : ai_IV σ) {I0 : Nat → Nat → Int32} : ∀ (z k : Nat) (I : Nat → Nat → Int32), k + z = σ.nJ → ai_RX (σ.tt (fun j q a b => if j < k then 0 else σ.sd j q a b) (fun j q b => if j < k then 0 else σ.sa j q b)) I L → ai_FT I0 I → ai_Ev none 100 2 [some (.ref 1), some (.int (nI k)), none, none, none] [] (S, I, L, F) (ai_Pu S F L (fun I2 => ai_RX σ.mkT I2 L ∧ ai_FT I0 I2)) := by
  have hnT := hV.nT
  have hnQ := hV.nQ
  have hnJ := hV.nJ
  intro z
  induction z with
  | zero =>
    intro k I hz hX hf
    have e9 : k = σ.nJ := by omega
    subst e9
    refine ev_iload_n 3 rfl d100_2 rfl ?_
    refine ev_aload_n 4 rfl d100_3 rfl ?_
    refine ev_geti (v := nI σ.nJ) 7 rfl 8 6 d100_4 rfl (by omega) (G.1 _ _ (rfl : ai_sp 1 = (8, 0)) (by decide) (by decide)) hX.nJ ?_
    refine ev_icmp 25 10 (by decide) rfl (cn_ge (by omega) (by omega)) d100_7 (fun hc_7 => ?_) (fun hc_7 => absurd hc_7 (by omega))
    refine ev_iconst (v := nI 0) 26 rfl d100_25 (by decide) ?_
    refine ev_store_in 27 rfl d100_26 (Nat.le_of_ble_eq_true rfl) rfl ?_
    show ai_Ev _ _ _ [some (.ref 1), some (.int (nI 0)), none, none, none] _ _ _
    refine x_mk_loop G hV σ.nT 0 I _ _ _ (by omega) ?_ hf
    refine rx_tt hX (fun _ _ => rfl) (fun j q a b hj hq ha hb => ?_) (fun j q b hj hq hb => ?_)
    · refine (hX.sd j q a b hj hq ha hb).trans ?_
      rw [mm_0]
      show nI (if j < σ.nJ then 0 else σ.sd j q a b) = nI (if j < σ.nJ ∧ q < 5 then ai_qn (σ.p1 j q a b) 0 else σ.sd j q a b)
      by_cases e : j < σ.nJ
      · rw [if_pos e, if_pos ⟨e, hq⟩]; rfl
      · rw [if_neg e, if_neg (fun h => e h.1)]
    · refine (hX.sa j q b hj hq hb).trans ?_
      rw [mm_0]
      show nI (if j < σ.nJ then 0 else σ.sa j q b) = nI (if j < σ.nJ ∧ q < 5 then ai_qn (σ.p2 j q b) 0 else σ.sa j q b)
      by_cases e : j < σ.nJ
      · rw [if_pos e, if_pos ⟨e, hq⟩]; rfl
      · rw [if_neg e, if_neg (fun h => e h.1)]
  | succ z ih =>
    intro k I hz hX hf
    refine ev_iload_n 3 rfl d100_2 rfl ?_
    refine ev_aload_n 4 rfl d100_3 rfl ?_
    refine ev_geti (v := nI σ.nJ) 7 rfl 8 6 d100_4 rfl (by omega) (G.1 _ _ (rfl : ai_sp 1 = (8, 0)) (by decide) (by decide)) hX.nJ ?_
    refine ev_icmp 25 10 (by decide) rfl (cn_ge (by omega) (by omega)) d100_7 (fun hc_7 => absurd hc_7 (by omega)) (fun hc_7 => ?_)
    refine ev_aload_n 11 rfl d100_10 rfl ?_
    refine ev_getr 14 rfl 8 2 d100_11 rfl (by omega) (G.1 _ _ (rfl : ai_sp 1 = (8, 0)) (by decide) (by decide)) (G.2 _ _ _ (rfl : ai_rf 1 2 = some 4)) ?_
    refine ev_iload_n 15 rfl d100_14 rfl ?_
    refine ev_aald_n 16 rfl d100_15 (by omega) (by decide) (G.1 _ _ (rfl : ai_sp 4 = (106, 24)) (by decide) (by decide)) (by omega) (by decide) (G.2 _ _ _ (rf_judge (by omega))) ?_
    refine ev_cu0 19 rfl 22 d100_16 rfl rfl (by rw [G.1 _ _ (sp_judge (by omega)) (by omega) (by omega)]; rfl) (by omega) rfl (j_clear G (by omega)) (fun I_1 hr_16 => ?_)
    obtain ⟨hz1, hz2, hz3⟩ := hr_16
    have hf2 : ai_FT I I_1 := fun a ha => hz3 a (by omega) (by omega)
    have hX2 : ai_RX (σ.tt (fun j q a b => if j < (k + 1) then 0 else σ.sd j q a b) (fun j q b => if j < (k + 1) then 0 else σ.sa j q b)) I_1 L := rx_tt hX hf2 (fun j q a b hj hq ha hb => by
      by_cases e : j = k
      · subst e; rw [if_pos (by omega), hz1 _ (by omega)]
      · rw [hz3 _ (by omega) (by omega)]
        by_cases e2 : j < k
        · rw [if_pos (by omega)]; exact (hX.sd j q a b hj hq ha hb).trans (by show nI (if j < k then 0 else σ.sd j q a b) = _; rw [if_pos e2])
        · rw [if_neg (by omega)]; exact (hX.sd j q a b hj hq ha hb).trans (by show nI (if j < k then 0 else σ.sd j q a b) = _; rw [if_neg e2])) (fun j q b hj hq hb => by
      by_cases e : j = k
      · subst e; rw [if_pos (by omega), hz2 _ (by omega)]
      · rw [hz3 _ (by omega) (by omega)]
        by_cases e2 : j < k
        · rw [if_pos (by omega)]; exact (hX.sa j q b hj hq hb).trans (by show nI (if j < k then 0 else σ.sa j q b) = _; rw [if_pos e2])
        · rw [if_neg (by omega)]; exact (hX.sa j q b hj hq hb).trans (by show nI (if j < k then 0 else σ.sa j q b) = _; rw [if_neg e2]))
    refine ev_iinc (v := nI (k + 1)) 22 rfl d100_19 rfl (Nat.le_of_ble_eq_true rfl) (nI_add _ 1) rfl ?_
    show ai_Ev _ _ _ [some (.ref 1), some (.int (nI (k + 1))), none, none, none] _ _ _
    refine ev_goto 2 (by decide) d100_22 ?_
    exact ih (k + 1) _ (by omega) hX2 (ft_tr hf hf2)
theorem x_makeTables (G : ai_G S F) (hX : ai_RX σ I L) (hV : ai_IV σ) : ai_Ev none 100 0 [some (.ref 1), none, none, none, none] [] (S, I, L, F) (ai_Pu S F L (fun I2 => ai_RX σ.mkT I2 L ∧ ai_FT I I2)) := by
  refine ev_iconst (v := nI 0) 1 rfl d100_0 (by decide) ?_
  refine ev_store_in 2 rfl d100_1 (Nat.le_of_ble_eq_true rfl) rfl ?_
  show ai_Ev _ _ _ [some (.ref 1), some (.int (nI 0)), none, none, none] _ _ _
  refine x_clear_loop G hV σ.nJ 0 I (by omega) ?_ (fun _ _ => rfl)
  exact rx_tt (σ := σ) (T := σ.sd) (T2 := σ.sa) hX (fun _ _ => rfl) (fun j q a b hj hq ha hb => by rw [if_neg (Nat.not_lt_zero j)]; exact hX.sd j q a b hj hq ha hb) (fun j q b hj hq hb => by rw [if_neg (Nat.not_lt_zero j)]; exact hX.sa j q b hj hq hb)
end XREC
