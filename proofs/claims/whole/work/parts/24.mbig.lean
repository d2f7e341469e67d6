theorem nI_mask16 (n : Nat) : nI n &&& nI 65535 = nI (n % 65536) := by
  have := fa_mask n 16
  rw [show (2 : Nat) ^ 16 - 1 = 65535 by decide, show (2 : Nat) ^ 16 = 65536 by decide] at this
  exact this
theorem nI_shr16 {n : Nat} (h : n < 2 ^ 31) : nI n >>> (nI 16 &&& 31) = nI (n / 65536) := pk_shrN h _ 16 (by decide)
theorem lN_mask16 {n : Nat} (h : n < 2 ^ 64) : lN n &&& lN 65535 = lN (n % 65536) := wb_mask (k := 16) h (by omega)
theorem lN_sar16 {n : Nat} (h : n < 2 ^ 62) : lN n >>> ((nI 16).toInt64 &&& 63) = lN (n / 65536) := pf_shr (d := 16) (by decide) h
def ai_md (I : Nat → Nat → Int32) (x k : Nat) : Nat := (I 592 (1700 * x + k)).toNatClampNeg
def ai_MOK (I : Nat → Nat → Int32) (x s : Nat) : Prop := ∀ j, j < s → I 592 (1700 * x + j) = nI (ai_md I x j) ∧ ai_md I x j < 65536
/-- a number in a slot of digits of 16 bits -/
def ai_MG (I : Nat → Nat → Int32) (x v : Nat) : Prop := ∃ s, I 593 x = nI s ∧ s ≤ 1700 ∧ ai_MOK I x s ∧ ai_val 65536 (ai_md I x) s = v ∧ (0 < s → 0 < ai_md I x (s - 1))
def ai_mf (x : Nat) (I I2 : Nat → Nat → Int32) : Prop := (∀ a, a ≠ 592 → a ≠ 593 → I2 a = I a) ∧ ∀ y, y ≠ x → I2 593 y = I 593 y ∧ ∀ k, k < 1700 → I2 592 (1700 * y + k) = I 592 (1700 * y + k)
theorem ai_mf.rf (x : Nat) (I : Nat → Nat → Int32) : ai_mf x I I := ⟨fun _ _ _ => rfl, fun _ _ => ⟨rfl, fun _ _ => rfl⟩⟩
theorem ai_mf.trans {x : Nat} {I I2 I3 : Nat → Nat → Int32} (h : ai_mf x I I2) (h2 : ai_mf x I2 I3) : ai_mf x I I3 := ⟨fun a h3 h4 => (h2.1 a h3 h4).trans (h.1 a h3 h4), fun y hy => ⟨(h2.2 y hy).1.trans (h.2 y hy).1, fun k hk => ((h2.2 y hy).2 k hk).trans ((h.2 y hy).2 k hk)⟩⟩
theorem ai_mf.len {x v : Nat} {I I2 : Nat → Nat → Int32} (h : I2 = ai_ui I 593 x (nI v)) : ai_mf x I I2 := ⟨fun a h1 h2 => ui_row h h2, fun y hy => ⟨ui_other h (Or.inr hy), fun k _ => by rw [ui_row h (by omega)]⟩⟩
theorem ai_mf.dig {x k : Nat} {v : Int32} {I I2 : Nat → Nat → Int32} (hk : k < 1700) (h : I2 = ai_ui I 592 (1700 * x + k) v) : ai_mf x I I2 := ⟨fun a h1 h2 => ui_row h h1, fun y hy => ⟨by rw [ui_row h (by omega)], fun j hj => ui_other h (Or.inr (by omega))⟩⟩
theorem ai_mf.md {x y k : Nat} {I I2 : Nat → Nat → Int32} (h : ai_mf x I I2) (hy : y ≠ x) (hk : k < 1700) : ai_md I2 y k = ai_md I y k := by unfold ai_md; rw [(h.2 y hy).2 k hk]
theorem ai_mf.ok {x y s : Nat} {I I2 : Nat → Nat → Int32} (h : ai_mf x I I2) (hy : y ≠ x) (hs : s ≤ 1700) (hok : ai_MOK I y s) : ai_MOK I2 y s := fun j hj => by
  rw [h.md hy (by omega), (h.2 y hy).2 j (by omega)]; exact hok j hj
theorem ai_mf.keep {x y v : Nat} {I I2 : Nat → Nat → Int32} (h : ai_mf x I I2) (hy : y ≠ x) (hg : ai_MG I y v) : ai_MG I2 y v := by
  obtain ⟨s, g1, g2, g3, g4, g5⟩ := hg
  exact ⟨s, by rw [(h.2 y hy).1]; exact g1, g2, h.ok hy g2 g3, by rw [val_congr (fun k hk => h.md hy (by omega))]; exact g4, fun hs => by rw [h.md hy (by omega)]; exact g5 hs⟩
theorem md_same {I I2 : Nat → Nat → Int32} {x k v : Nat} (h : I2 = ai_ui I 592 (1700 * x + k) (nI v)) (hv : v < 65536) : I2 592 (1700 * x + k) = nI v ∧ ai_md I2 x k = v := ⟨ui_same h, by unfold ai_md; rw [ui_same h]; exact nI_clamp (by omega)⟩
theorem md_other {I I2 : Nat → Nat → Int32} {x k j : Nat} {v : Int32} (h : I2 = ai_ui I 592 (1700 * x + k) v) (hj : j ≠ k) : ai_md I2 x j = ai_md I x j := by unfold ai_md; rw [ui_other h (Or.inr (by omega))]
theorem md_len {I I2 : Nat → Nat → Int32} {x y k : Nat} {v : Int32} (h : I2 = ai_ui I 593 y v) : ai_md I2 x k = ai_md I x k := by unfold ai_md; rw [ui_row h (by omega)]
theorem ai_MOK.len {I I2 : Nat → Nat → Int32} {x s y : Nat} {v : Int32} (h : I2 = ai_ui I 593 y v) (hok : ai_MOK I x s) : ai_MOK I2 x s := fun j hj => by rw [md_len h, ui_row h (by omega)]; exact hok j hj
theorem ai_MOK_put {I I2 : Nat → Nat → Int32} {x k v : Nat} (h : I2 = ai_ui I 592 (1700 * x + k) (nI v)) (hv : v < 65536) (hok : ai_MOK I x k) : ai_MOK I2 x (k + 1) := by
  intro j hj
  rcases Nat.lt_or_ge j k with z | z
  · rw [md_other h (by omega), ui_other h (Or.inr (by omega))]; exact hok j z
  · have : j = k := by omega
    subst this
    rw [(md_same h hv).2]; exact ⟨(md_same h hv).1, hv⟩
theorem ai_MOK_putIn {I I2 : Nat → Nat → Int32} {x k v s : Nat} (h : I2 = ai_ui I 592 (1700 * x + k) (nI v)) (hv : v < 65536) (hok : ai_MOK I x s) : ai_MOK I2 x s := by
  intro j hj
  by_cases z : j = k
  · subst z
    rw [(md_same h hv).2]; exact ⟨(md_same h hv).1, hv⟩
  · rw [md_other h z, ui_other h (Or.inr (by omega))]; exact hok j hj
theorem mval_put {I I2 : Nat → Nat → Int32} {x k v : Nat} (h : I2 = ai_ui I 592 (1700 * x + k) (nI v)) (hv : v < 65536) : ai_val 65536 (ai_md I2 x) (k + 1) = ai_val 65536 (ai_md I x) k + v * 65536 ^ k :=
  val_snoc (fun j hj => md_other h (by omega)) (md_same h hv).2
theorem m_room {s c V A : Nat} (h : A + c * 65536 ^ s = V) (hc : 0 < c) (hV : V < 65536 ^ 1700) : s < 1700 := by
  rcases Nat.lt_or_ge s 1700 with q | q
  · exact q
  · exfalso
    have h1 : 65536 ^ 1700 ≤ 65536 ^ s := Nat.pow_le_pow_right (by omega) q
    have h2 : 1 * 65536 ^ s ≤ c * 65536 ^ s := Nat.mul_le_mul_right _ hc
    rw [Nat.one_mul] at h2
    exact absurd hV (Nat.not_lt.mpr (by rw [← h]; exact Nat.le_trans h1 (Nat.le_trans h2 (Nat.le_add_left _ _))))
section MBIG
variable {S : List (Nat × Nat)} {F : Nat → Nat → Option Nat} {L : Nat → Nat → Int64}

theorem m_becomes_loop (G : ai_G S F) {x V : Nat} (hx : x < 16) (hV : V < 65536 ^ 1700) {I0 : Nat → Nat → Int32} {u2 : Int32} : ∀ (w : Nat), w < 2 ^ 31 → ∀ (s : Nat) (I : Nat → Nat → Int32), I 593 x = nI s → s ≤ 1700 → True → ai_MOK I x s → ai_val 65536 (ai_md I x) s + w * 65536 ^ s = V → (0 < s → w = 0 → 0 < ai_md I x (s - 1)) → ai_mf x I0 I →
    ai_Ev none 148 9 [some (.ref 572), some (.int (nI x)), some (.int u2), some (.int (nI w))] [] (S, I, L, F) (ai_Pu S F L (fun I2 => ai_MG I2 x V ∧ ai_mf x I0 I2)) := by
  intro w
  induction w using Nat.strongRecOn with
  | _ w ih =>
    intro hw31 s I h1 hs _ hok hv htop hfr
    refine ev_iload_n 10 rfl d148_9 rfl ?_
    refine ev_if 52 13 (by decide) rfl (c0_le (by omega)) d148_10 (fun hc_10 => ?_) (fun hc_10 => ?_)
    · refine ev_vret rfl d148_52 ?_
      have hw0 : w = 0 := by omega
      exact ⟨rfl, _, rfl, ⟨s, h1, hs, hok, by rw [hw0, Nat.zero_mul] at hv; exact hv, fun hs0 => htop hs0 hw0⟩, hfr⟩
    · have hs17 : s < 1700 := m_room hv (by omega) hV
      refine ev_aload_n 14 rfl d148_13 rfl ?_
      refine ev_getr 17 rfl 9 26 d148_14 rfl (by omega) (G.1 _ _ (rfl : ai_sp 572 = (9, 0)) (by decide) (by decide)) (G.2 _ _ _ (rfl : ai_rf 572 26 = some 592)) ?_
      refine ev_sipush (v := nI 1700) 20 rfl d148_17 (by decide) ?_
      refine ev_iload_n 21 rfl d148_20 rfl ?_
      refine ev_imul (v := nI (1700 * x)) 22 rfl d148_21 (pk_mul _ _) ?_
      refine ev_aload_n 23 rfl d148_22 rfl ?_
      refine ev_getr 26 rfl 9 27 d148_23 rfl (by omega) (G.1 _ _ (rfl : ai_sp 572 = (9, 0)) (by decide) (by decide)) (G.2 _ _ _ (rfl : ai_rf 572 27 = some 593)) ?_
      refine ev_iload_n 27 rfl d148_26 rfl ?_
      refine ev_iald_n (v := nI s) 28 rfl d148_27 (by omega) (G.1 _ _ (rfl : ai_sp 593 = (100, 16)) (by decide) (by decide)) (by omega) (by decide) h1 ?_
      refine ev_iadd (v := nI ((1700 * x) + s)) 29 rfl d148_28 (nI_add _ _) ?_
      refine ev_iload_n 30 rfl d148_29 rfl ?_
      refine ev_ldc (v := nI 65535) 32 rfl d148_30 (by decide) ?_
      refine ev_iand (v := nI (w % 65536)) 33 rfl d148_32 (nI_mask16 _) ?_
      obtain ⟨I_1, hI_1⟩ : ∃ z, z = ai_ui I 592 ((1700 * x) + s) (nI (w % 65536)) := ⟨_, rfl⟩
      refine ev_iast_n (I2 := I_1) 34 rfl d148_33 (by omega) (G.1 _ _ (rfl : ai_sp 592 = (100, 27200)) (by decide) (by decide)) (by omega) (by decide) hI_1.symm ?_
      have hI1s : I_1 593 x = nI s := by rw [ui_row hI_1 (by omega)]; exact h1
      refine ev_aload_n 35 rfl d148_34 rfl ?_
      refine ev_getr 38 rfl 9 27 d148_35 rfl (by omega) (G.1 _ _ (rfl : ai_sp 572 = (9, 0)) (by decide) (by decide)) (G.2 _ _ _ (rfl : ai_rf 572 27 = some 593)) ?_
      refine ev_iload_n 39 rfl d148_38 rfl ?_
      refine ev_dup2 40 rfl d148_39 ⟨rfl, rfl⟩ ?_
      refine ev_iald_n (v := nI s) 41 rfl d148_40 (by omega) (G.1 _ _ (rfl : ai_sp 593 = (100, 16)) (by decide) (by decide)) (by omega) (by decide) hI1s ?_
      refine ev_iconst (v := nI 1) 42 rfl d148_41 (by decide) ?_
      refine ev_iadd (v := nI (s + 1)) 43 rfl d148_42 (nI_add _ _) ?_
      obtain ⟨I_2, hI_2⟩ : ∃ z, z = ai_ui I_1 593 x (nI (s + 1)) := ⟨_, rfl⟩
      refine ev_iast_n (I2 := I_2) 44 rfl d148_43 (by omega) (G.1 _ _ (rfl : ai_sp 593 = (100, 16)) (by decide) (by decide)) (by omega) (by decide) hI_2.symm ?_
      refine ev_iload_n 45 rfl d148_44 rfl ?_
      refine ev_bipush (v := nI 16) 47 rfl d148_45 (by decide) ?_
      refine ev_ishr (v := nI (w / 65536)) 48 rfl d148_47 (nI_shr16 (by omega)) ?_
      refine ev_store_in 49 rfl d148_48 (Nat.le_of_ble_eq_true rfl) rfl ?_
      show ai_Ev _ _ _ [some (.ref 572), some (.int (nI x)), some (.int u2), some (.int (nI (w / 65536)))] _ _ _
      refine ev_goto 9 (by decide) d148_49 ?_
      have hr9 : w % 65536 < 65536 := Nat.mod_lt _ (by omega)
      refine ih (w / 65536) (by omega) (by omega) (s + 1) I_2 (ui_same hI_2) (by omega) trivial ((ai_MOK_put hI_1 hr9 hok).len hI_2) ?_ (fun _ hw => ?_) ((hfr.trans (ai_mf.dig hs17 hI_1)).trans (ai_mf.len hI_2))
      · rw [val_congr (fun k _ => md_len hI_2), mval_put hI_1 hr9, Nat.pow_succ, val_carry]
        exact hv
      · rw [md_len hI_2, show s + 1 - 1 = s by omega, (md_same hI_1 hr9).2]
        omega
theorem m_becomes (G : ai_G S F) {x m : Nat} (hx : x < 16) (hm : m < 2 ^ 31) {I : Nat → Nat → Int32} :
    ai_Ev none 148 0 [some (.ref 572), some (.int (nI x)), some (.int (nI m)), none] [] (S, I, L, F) (ai_Pu S F L (fun I2 => ai_MG I2 x m ∧ ai_mf x I I2)) := by
  have hV : m < 65536 ^ 1700 := Nat.lt_of_lt_of_le (show m < 65536 ^ 2 by omega) (Nat.pow_le_pow_right (by omega) (by omega))
  refine ev_aload_n 1 rfl d148_0 rfl ?_
  refine ev_getr 4 rfl 9 27 d148_1 rfl (by omega) (G.1 _ _ (rfl : ai_sp 572 = (9, 0)) (by decide) (by decide)) (G.2 _ _ _ (rfl : ai_rf 572 27 = some 593)) ?_
  refine ev_iload_n 5 rfl d148_4 rfl ?_
  refine ev_iconst (v := nI 0) 6 rfl d148_5 (by decide) ?_
  obtain ⟨I_1, hI_1⟩ : ∃ z, z = ai_ui I 593 x (nI 0) := ⟨_, rfl⟩
  refine ev_iast_n (I2 := I_1) 7 rfl d148_6 (by omega) (G.1 _ _ (rfl : ai_sp 593 = (100, 16)) (by decide) (by decide)) (by omega) (by decide) hI_1.symm ?_
  refine ev_iload_n 8 rfl d148_7 rfl ?_
  refine ev_store_in 9 rfl d148_8 (Nat.le_of_ble_eq_true rfl) rfl ?_
  show ai_Ev _ _ _ [some (.ref 572), some (.int (nI x)), some (.int (nI m)), some (.int (nI m))] _ _ _
  refine m_becomes_loop G hx hV (I0 := I) m hm 0 I_1 (ui_same hI_1) (by omega) trivial (fun j hj => absurd hj (by omega)) (by simp [ai_val]) (fun h _ => absurd h (by omega)) (ai_mf.len hI_1)
theorem m_copy_loop (G : ai_G S F) {x y v : Nat} (hx : x < 16) (hy : y < 16) (hxy : x ≠ y) {s : Nat} (g2 : s ≤ 1700) {I0 : Nat → Nat → Int32} (htop : ∀ (I : Nat → Nat → Int32), 0 < s → (∀ j, j < s → ai_md I x j < 65536) → ai_val 65536 (ai_md I x) s = v → 0 < ai_md I x (s - 1)) : ∀ (z k : Nat) (I : Nat → Nat → Int32), k + z = s → I 593 y = nI s → I 593 x = nI s → ai_MOK I x s → (∀ j, j < k → I 592 (1700 * y + j) = nI (ai_md I x j)) → ai_val 65536 (ai_md I x) s = v → ai_mf y I0 I →
    ai_Ev none 149 14 [some (.ref 572), some (.int (nI x)), some (.int (nI y)), some (.int (nI k))] [] (S, I, L, F) (ai_Pu S F L (fun I2 => ai_MG I2 y v ∧ ai_mf y I0 I2)) := by
  intro z
  induction z with
  | zero =>
    intro k I hkz h1 g1 g3 hcp hv hfr
    obtain rfl : k = s := by omega
    refine ev_iload_n 15 rfl d149_14 rfl ?_
    refine ev_aload_n 16 rfl d149_15 rfl ?_
    refine ev_getr 19 rfl 9 27 d149_16 rfl (by omega) (G.1 _ _ (rfl : ai_sp 572 = (9, 0)) (by decide) (by decide)) (G.2 _ _ _ (rfl : ai_rf 572 27 = some 593)) ?_
    refine ev_iload_n 20 rfl d149_19 rfl ?_
    refine ev_iald_n (v := nI k) 21 rfl d149_20 (by omega) (G.1 _ _ (rfl : ai_sp 593 = (100, 16)) (by decide) (by decide)) (by omega) (by decide) g1 ?_
    refine ev_icmp 54 24 (by decide) rfl (cn_ge (by omega) (by omega)) d149_21 (fun hc_21 => ?_) (fun hc_21 => absurd hc_21 (by omega))
    refine ev_vret rfl d149_54 ?_
    refine ⟨rfl, _, rfl, ⟨k, h1, g2, fun j hj => ?_, ?_, fun hk => ?_⟩, hfr⟩
    · have e : ai_md I y j = ai_md I x j := by show (I 592 (1700 * y + j)).toNatClampNeg = _; rw [hcp j hj]; exact nI_clamp (by have := (g3 j hj).2; omega)
      rw [e]; exact ⟨hcp j hj, (g3 j hj).2⟩
    · rw [← hv]
      refine val_congr (fun j hj => ?_)
      show (I 592 (1700 * y + j)).toNatClampNeg = _
      rw [hcp j hj]; exact nI_clamp (by have := (g3 j hj).2; omega)
    · have e2 : ai_md I y (k - 1) = ai_md I x (k - 1) := by
        show (I 592 (1700 * y + (k - 1))).toNatClampNeg = _
        rw [hcp (k - 1) (by omega)]; exact nI_clamp (by have := (g3 (k - 1) (by omega)).2; omega)
      rw [e2]; exact htop I hk (fun j hj => (g3 j hj).2) hv
  | succ z ih =>
    intro k I hkz h1 g1 g3 hcp hv hfr
    refine ev_iload_n 15 rfl d149_14 rfl ?_
    refine ev_aload_n 16 rfl d149_15 rfl ?_
    refine ev_getr 19 rfl 9 27 d149_16 rfl (by omega) (G.1 _ _ (rfl : ai_sp 572 = (9, 0)) (by decide) (by decide)) (G.2 _ _ _ (rfl : ai_rf 572 27 = some 593)) ?_
    refine ev_iload_n 20 rfl d149_19 rfl ?_
    refine ev_iald_n (v := nI s) 21 rfl d149_20 (by omega) (G.1 _ _ (rfl : ai_sp 593 = (100, 16)) (by decide) (by decide)) (by omega) (by decide) g1 ?_
    refine ev_icmp 54 24 (by decide) rfl (cn_ge (by omega) (by omega)) d149_21 (fun hc_21 => absurd hc_21 (by omega)) (fun hc_21 => ?_)
    refine ev_aload_n 25 rfl d149_24 rfl ?_
    refine ev_getr 28 rfl 9 26 d149_25 rfl (by omega) (G.1 _ _ (rfl : ai_sp 572 = (9, 0)) (by decide) (by decide)) (G.2 _ _ _ (rfl : ai_rf 572 26 = some 592)) ?_
    refine ev_sipush (v := nI 1700) 31 rfl d149_28 (by decide) ?_
    refine ev_iload_n 32 rfl d149_31 rfl ?_
    refine ev_imul (v := nI (1700 * y)) 33 rfl d149_32 (pk_mul _ _) ?_
    refine ev_iload_n 34 rfl d149_33 rfl ?_
    refine ev_iadd (v := nI ((1700 * y) + k)) 35 rfl d149_34 (nI_add _ _) ?_
    refine ev_aload_n 36 rfl d149_35 rfl ?_
    refine ev_getr 39 rfl 9 26 d149_36 rfl (by omega) (G.1 _ _ (rfl : ai_sp 572 = (9, 0)) (by decide) (by decide)) (G.2 _ _ _ (rfl : ai_rf 572 26 = some 592)) ?_
    refine ev_sipush (v := nI 1700) 42 rfl d149_39 (by decide) ?_
    refine ev_iload_n 43 rfl d149_42 rfl ?_
    refine ev_imul (v := nI (1700 * x)) 44 rfl d149_43 (pk_mul _ _) ?_
    refine ev_iload_n 45 rfl d149_44 rfl ?_
    refine ev_iadd (v := nI ((1700 * x) + k)) 46 rfl d149_45 (nI_add _ _) ?_
    refine ev_iald_n (v := nI (ai_md I x k)) 47 rfl d149_46 (by omega) (G.1 _ _ (rfl : ai_sp 592 = (100, 27200)) (by decide) (by decide)) (by omega) (by decide) (g3 k (by omega)).1 ?_
    obtain ⟨I_1, hI_1⟩ : ∃ z, z = ai_ui I 592 ((1700 * y) + k) (nI (ai_md I x k)) := ⟨_, rfl⟩
    refine ev_iast_n (I2 := I_1) 48 rfl d149_47 (by omega) (G.1 _ _ (rfl : ai_sp 592 = (100, 27200)) (by decide) (by decide)) (by omega) (by decide) hI_1.symm ?_
    refine ev_iinc (v := nI (k + 1)) 51 rfl d149_48 rfl (Nat.le_of_ble_eq_true rfl) (nI_add _ 1) rfl ?_
    show ai_Ev _ _ _ [some (.ref 572), some (.int (nI x)), some (.int (nI y)), some (.int (nI (k + 1)))] _ _ _
    refine ev_goto 14 (by decide) d149_51 ?_
    refine ih (k + 1) I_1 (by omega) (by rw [ui_row hI_1 (by omega)]; exact h1) (by rw [ui_row hI_1 (by omega)]; exact g1) ((ai_mf.dig (by omega) hI_1).ok hxy g2 g3) ?_ (by rw [val_congr (fun j hj => (ai_mf.dig (by omega) hI_1).md hxy (by omega))]; exact hv) (hfr.trans (ai_mf.dig (by omega) hI_1))
    intro j hj
    by_cases e : j = k
    · subst e
      rw [ui_same hI_1, (ai_mf.dig (by omega) hI_1).md hxy (by omega)]
    · rw [ui_other hI_1 (Or.inr (by omega)), (ai_mf.dig (by omega) hI_1).md hxy (by omega)]
      exact hcp j (by omega)
theorem m_copy (G : ai_G S F) {x y v : Nat} (hx : x < 16) (hy : y < 16) (hxy : x ≠ y) {I : Nat → Nat → Int32} (hM : ai_MG I x v) :
    ai_Ev none 149 0 [some (.ref 572), some (.int (nI x)), some (.int (nI y)), none] [] (S, I, L, F) (ai_Pu S F L (fun I2 => ai_MG I2 y v ∧ ai_mf y I I2)) := by
  obtain ⟨s, g1, g2, g3, g4, g5⟩ := hM
  refine ev_aload_n 1 rfl d149_0 rfl ?_
  refine ev_getr 4 rfl 9 27 d149_1 rfl (by omega) (G.1 _ _ (rfl : ai_sp 572 = (9, 0)) (by decide) (by decide)) (G.2 _ _ _ (rfl : ai_rf 572 27 = some 593)) ?_
  refine ev_iload_n 5 rfl d149_4 rfl ?_
  refine ev_aload_n 6 rfl d149_5 rfl ?_
  refine ev_getr 9 rfl 9 27 d149_6 rfl (by omega) (G.1 _ _ (rfl : ai_sp 572 = (9, 0)) (by decide) (by decide)) (G.2 _ _ _ (rfl : ai_rf 572 27 = some 593)) ?_
  refine ev_iload_n 10 rfl d149_9 rfl ?_
  refine ev_iald_n (v := nI s) 11 rfl d149_10 (by omega) (G.1 _ _ (rfl : ai_sp 593 = (100, 16)) (by decide) (by decide)) (by omega) (by decide) g1 ?_
  obtain ⟨I_1, hI_1⟩ : ∃ z, z = ai_ui I 593 y (nI s) := ⟨_, rfl⟩
  refine ev_iast_n (I2 := I_1) 12 rfl d149_11 (by omega) (G.1 _ _ (rfl : ai_sp 593 = (100, 16)) (by decide) (by decide)) (by omega) (by decide) hI_1.symm ?_
  refine ev_iconst (v := nI 0) 13 rfl d149_12 (by decide) ?_
  refine ev_store_in 14 rfl d149_13 (Nat.le_of_ble_eq_true rfl) rfl ?_
  show ai_Ev _ _ _ [some (.ref 572), some (.int (nI x)), some (.int (nI y)), some (.int (nI 0))] _ _ _
  have hf : ai_mf y I I_1 := ai_mf.len hI_1
  refine m_copy_loop G hx hy hxy g2 (I0 := I) (v := v) ?_ s 0 I_1 (by omega) (ui_same hI_1) (by rw [(hf.2 x hxy).1]; exact g1) (hf.ok hxy g2 g3) (fun j hj => absurd hj (by omega)) (by rw [val_congr (fun j hj => hf.md hxy (by omega))]; exact g4) hf
  intro J hs hJ hv
  rcases Nat.eq_zero_or_pos (ai_md J x (s - 1)) with z | z
  · exfalso
    have e1 : ai_val 65536 (ai_md J x) (s - 1) = v := by
      rw [← hv]
      conv => rhs; rw [show s = (s - 1) + 1 by omega]
      exact (val_top0 z).symm
    have e2 := val_lt (b := 65536) (d := ai_md J x) (n := s - 1) (fun j hj => hJ j (by omega))
    have e3 := val_ge (b := 65536) (d := ai_md I x) (s - 1)
    rw [show s - 1 + 1 = s by omega, g4] at e3
    have e4 : 1 * 65536 ^ (s - 1) ≤ ai_md I x (s - 1) * 65536 ^ (s - 1) := Nat.mul_le_mul_right _ (g5 hs)
    omega
  · exact z
def ai_cmp (v u : Nat) : Int32 := if v < u then (-1) else if v = u then nI 0 else nI 1
theorem ai_cmp_lt {v u : Nat} (h : v < u) : ai_cmp v u = (-1) := by simp [ai_cmp, h]
theorem ai_cmp_gt {v u : Nat} (h : u < v) : ai_cmp v u = nI 1 := by simp [ai_cmp, show ¬ v < u by omega, show ¬ v = u by omega]
theorem ai_cmp_eq {v u : Nat} (h : v = u) : ai_cmp v u = nI 0 := by simp [ai_cmp, h]
theorem nI_sub_cmp {d e : Nat} (hd : d < 65536) (he : e < 65536) : (nI d - nI e = 0 ↔ d = e) ∧ (0 ≤ nI d - nI e ↔ e ≤ d) := by
  have h : (nI d - nI e).toInt = (d : Int) - e := pk_sub_toInt (by omega) (by omega)
  constructor
  · rw [← Int32.toInt_inj, h, Int32.toInt_zero]; omega
  · rw [Int32.le_iff_toInt_le, h, Int32.toInt_zero]; omega

theorem m_cmp_loop (G : ai_G S F) {x y : Nat} (hx : x < 16) (hy : y < 16) {I : Nat → Nat → Int32} {s t : Nat} (hst : t = s) (h1 : I 593 x = nI s) (g1 : I 593 y = nI t) (h2 : s ≤ 1700) (h3 : ai_MOK I x s) (g3 : ai_MOK I y t) :
    ∀ (k : Nat) {u4 : Option Value}, k < s → (∀ j, k < j → j < s → ai_md I x j = ai_md I y j) → ai_Ev none 153 45 [some (.ref 572), some (.int (nI x)), some (.int (nI y)), some (.int (nI k)), u4] [] (S, I, L, F) (ai_Pp S F I L (.int (ai_cmp (ai_val 65536 (ai_md I x) s) (ai_val 65536 (ai_md I y) s)))) := by
  intro k
  induction k with
  | zero =>
    intro u4 hkt heq
    refine ev_iload_n 46 rfl d153_45 rfl ?_
    refine ev_if_F 98 49 (by decide) rfl (by decide) d153_46 ?_
    refine ev_aload_n 50 rfl d153_49 rfl ?_
    refine ev_getr 53 rfl 9 26 d153_50 rfl (by omega) (G.1 _ _ (rfl : ai_sp 572 = (9, 0)) (by decide) (by decide)) (G.2 _ _ _ (rfl : ai_rf 572 26 = some 592)) ?_
    refine ev_sipush (v := nI 1700) 56 rfl d153_53 (by decide) ?_
    refine ev_iload_n 57 rfl d153_56 rfl ?_
    refine ev_imul (v := nI (1700 * x)) 58 rfl d153_57 (pk_mul _ _) ?_
    refine ev_iload_n 59 rfl d153_58 rfl ?_
    refine ev_iadd (v := nI ((1700 * x) + 0)) 60 rfl d153_59 (nI_add _ _) ?_
    refine ev_iald_n (v := nI (ai_md I x 0)) 61 rfl d153_60 (by omega) (G.1 _ _ (rfl : ai_sp 592 = (100, 27200)) (by decide) (by decide)) (by omega) (by decide) (h3 0 (by omega)).1 ?_
    refine ev_aload_n 62 rfl d153_61 rfl ?_
    refine ev_getr 65 rfl 9 26 d153_62 rfl (by omega) (G.1 _ _ (rfl : ai_sp 572 = (9, 0)) (by decide) (by decide)) (G.2 _ _ _ (rfl : ai_rf 572 26 = some 592)) ?_
    refine ev_sipush (v := nI 1700) 68 rfl d153_65 (by decide) ?_
    refine ev_iload_n 69 rfl d153_68 rfl ?_
    refine ev_imul (v := nI (1700 * y)) 70 rfl d153_69 (pk_mul _ _) ?_
    refine ev_iload_n 71 rfl d153_70 rfl ?_
    refine ev_iadd (v := nI ((1700 * y) + 0)) 72 rfl d153_71 (nI_add _ _) ?_
    refine ev_iald_n (v := nI (ai_md I y 0)) 73 rfl d153_72 (by omega) (G.1 _ _ (rfl : ai_sp 592 = (100, 27200)) (by decide) (by decide)) (by omega) (by decide) (g3 0 (by omega)).1 ?_
    have hx1 := (h3 0 (by omega)).2
    have hx2 := (g3 0 (by omega)).2
    have hsc := nI_sub_cmp hx1 hx2
    refine ev_isub (v := nI (ai_md I x 0) - nI (ai_md I y 0)) 74 rfl d153_73 rfl ?_
    refine ev_store_i 76 rfl d153_74 ⟨rfl, Nat.le_of_ble_eq_true rfl⟩ rfl ?_
    show ai_Ev _ _ _ [some (.ref 572), some (.int (nI x)), some (.int (nI y)), some (.int (nI 0)), some (.int (nI (ai_md I x 0) - nI (ai_md I y 0)))] _ _ _
    refine ev_iload 78 rfl d153_76 rfl ?_
    refine ev_if 92 81 (by decide) rfl (cz_eq.trans hsc.1) d153_78 (fun hc_78 => ?_) (fun hc_78 => ?_)
    · refine ev_iinc (v := (-1)) 95 rfl d153_92 rfl (Nat.le_of_ble_eq_true rfl) (by decide) rfl ?_
      show ai_Ev _ _ _ [some (.ref 572), some (.int (nI x)), some (.int (nI y)), some (.int (-1)), some (.int (nI (ai_md I x 0) - nI (ai_md I y 0)))] _ _ _
      refine ev_goto 45 (by decide) d153_95 ?_
      refine ev_iload_n 46 rfl d153_45 rfl ?_
      refine ev_if_T 98 (by decide) (by decide) d153_46 ?_
      refine ev_iconst (v := nI 0) 99 rfl d153_98 (by decide) ?_
      refine ev_iret (Or.inl rfl) d153_99 ?_
      refine ⟨?_, rfl⟩
      rw [ai_cmp_eq (val_congr (fun j hj => by
        rcases Nat.eq_zero_or_pos j with z | z
        · rw [z]; exact hc_78
        · exact heq j z hj))]
    · refine ev_iload 83 rfl d153_81 rfl ?_
      refine ev_if 90 86 (by decide) rfl (cz_ge.trans hsc.2) d153_83 (fun hc_83 => ?_) (fun hc_83 => ?_)
      · refine ev_iconst (v := nI 1) 91 rfl d153_90 (by decide) ?_
        refine ev_iret (Or.inl rfl) d153_91 ?_
        refine ⟨?_, rfl⟩
        rw [ai_cmp_gt (val_gap (k := 0) (by omega) (fun j hj => (g3 j (by omega)).2) (by omega) (fun j hj1 hj2 => heq j hj1 hj2))]
      · refine ev_iconst (v := (-1)) 87 rfl d153_86 (by decide) ?_
        refine ev_goto 91 (by decide) d153_87 ?_
        refine ev_iret (Or.inl rfl) d153_91 ?_
        refine ⟨?_, rfl⟩
        rw [ai_cmp_lt (val_gap (k := 0) (by omega) (fun j hj => (h3 j (by omega)).2) (by omega) (fun j hj1 hj2 => (heq j hj1 hj2).symm))]
  | succ k ih =>
    intro u4 hkt heq
    refine ev_iload_n 46 rfl d153_45 rfl ?_
    refine ev_if_F 98 49 (by decide) rfl (c0_ltF (by omega)) d153_46 ?_
    refine ev_aload_n 50 rfl d153_49 rfl ?_
    refine ev_getr 53 rfl 9 26 d153_50 rfl (by omega) (G.1 _ _ (rfl : ai_sp 572 = (9, 0)) (by decide) (by decide)) (G.2 _ _ _ (rfl : ai_rf 572 26 = some 592)) ?_
    refine ev_sipush (v := nI 1700) 56 rfl d153_53 (by decide) ?_
    refine ev_iload_n 57 rfl d153_56 rfl ?_
    refine ev_imul (v := nI (1700 * x)) 58 rfl d153_57 (pk_mul _ _) ?_
    refine ev_iload_n 59 rfl d153_58 rfl ?_
    refine ev_iadd (v := nI ((1700 * x) + (k + 1))) 60 rfl d153_59 (nI_add _ _) ?_
    refine ev_iald_n (v := nI (ai_md I x (k + 1))) 61 rfl d153_60 (by omega) (G.1 _ _ (rfl : ai_sp 592 = (100, 27200)) (by decide) (by decide)) (by omega) (by decide) (h3 (k + 1) (by omega)).1 ?_
    refine ev_aload_n 62 rfl d153_61 rfl ?_
    refine ev_getr 65 rfl 9 26 d153_62 rfl (by omega) (G.1 _ _ (rfl : ai_sp 572 = (9, 0)) (by decide) (by decide)) (G.2 _ _ _ (rfl : ai_rf 572 26 = some 592)) ?_
    refine ev_sipush (v := nI 1700) 68 rfl d153_65 (by decide) ?_
    refine ev_iload_n 69 rfl d153_68 rfl ?_
    refine ev_imul (v := nI (1700 * y)) 70 rfl d153_69 (pk_mul _ _) ?_
    refine ev_iload_n 71 rfl d153_70 rfl ?_
    refine ev_iadd (v := nI ((1700 * y) + (k + 1))) 72 rfl d153_71 (nI_add _ _) ?_
    refine ev_iald_n (v := nI (ai_md I y (k + 1))) 73 rfl d153_72 (by omega) (G.1 _ _ (rfl : ai_sp 592 = (100, 27200)) (by decide) (by decide)) (by omega) (by decide) (g3 (k + 1) (by omega)).1 ?_
    have hx1 := (h3 (k + 1) (by omega)).2
    have hx2 := (g3 (k + 1) (by omega)).2
    have hsc := nI_sub_cmp hx1 hx2
    refine ev_isub (v := nI (ai_md I x (k + 1)) - nI (ai_md I y (k + 1))) 74 rfl d153_73 rfl ?_
    refine ev_store_i 76 rfl d153_74 ⟨rfl, Nat.le_of_ble_eq_true rfl⟩ rfl ?_
    show ai_Ev _ _ _ [some (.ref 572), some (.int (nI x)), some (.int (nI y)), some (.int (nI (k + 1))), some (.int (nI (ai_md I x (k + 1)) - nI (ai_md I y (k + 1))))] _ _ _
    refine ev_iload 78 rfl d153_76 rfl ?_
    refine ev_if 92 81 (by decide) rfl (cz_eq.trans hsc.1) d153_78 (fun hc_78 => ?_) (fun hc_78 => ?_)
    · refine ev_iinc (v := nI k) 95 rfl d153_92 rfl (Nat.le_of_ble_eq_true rfl) (nI_pred1 k) rfl ?_
      show ai_Ev _ _ _ [some (.ref 572), some (.int (nI x)), some (.int (nI y)), some (.int (nI k)), some (.int (nI (ai_md I x (k + 1)) - nI (ai_md I y (k + 1))))] _ _ _
      refine ev_goto 45 (by decide) d153_95 ?_
      exact ih (by omega) (fun j hj1 hj2 => by
        rcases Nat.lt_or_ge (k + 1) j with z | z
        · exact heq j z hj2
        · rw [show j = k + 1 by omega]; exact hc_78)
    · refine ev_iload 83 rfl d153_81 rfl ?_
      refine ev_if 90 86 (by decide) rfl (cz_ge.trans hsc.2) d153_83 (fun hc_83 => ?_) (fun hc_83 => ?_)
      · refine ev_iconst (v := nI 1) 91 rfl d153_90 (by decide) ?_
        refine ev_iret (Or.inl rfl) d153_91 ?_
        refine ⟨?_, rfl⟩
        rw [ai_cmp_gt (val_gap (k := k + 1) (by omega) (fun j hj => (g3 j (by omega)).2) (by omega) (fun j hj1 hj2 => heq j hj1 hj2))]
      · refine ev_iconst (v := (-1)) 87 rfl d153_86 (by decide) ?_
        refine ev_goto 91 (by decide) d153_87 ?_
        refine ev_iret (Or.inl rfl) d153_91 ?_
        refine ⟨?_, rfl⟩
        rw [ai_cmp_lt (val_gap (k := k + 1) (by omega) (fun j hj => (h3 j (by omega)).2) (by omega) (fun j hj1 hj2 => (heq j hj1 hj2).symm))]
theorem m_cmp (G : ai_G S F) {x y : Nat} (hx : x < 16) (hy : y < 16) {I : Nat → Nat → Int32} {v u : Nat} (hA : ai_MG I x v) (hB : ai_MG I y u) :
    ai_Ev none 153 0 [some (.ref 572), some (.int (nI x)), some (.int (nI y)), none, none] [] (S, I, L, F) (ai_Pp S F I L (.int (ai_cmp v u))) := by
  obtain ⟨s, h1, h2, h3, rfl, h5⟩ := hA
  obtain ⟨t, g1, g2, g3, rfl, g5⟩ := hB
  by_cases hz : s = 0 ∧ t = 0
  · obtain ⟨rfl, rfl⟩ := hz
    refine ev_aload_n 1 rfl d153_0 rfl ?_
    refine ev_getr 4 rfl 9 27 d153_1 rfl (by omega) (G.1 _ _ (rfl : ai_sp 572 = (9, 0)) (by decide) (by decide)) (G.2 _ _ _ (rfl : ai_rf 572 27 = some 593)) ?_
    refine ev_iload_n 5 rfl d153_4 rfl ?_
    refine ev_iald_n (v := nI 0) 6 rfl d153_5 (by omega) (G.1 _ _ (rfl : ai_sp 593 = (100, 16)) (by decide) (by decide)) (by omega) (by decide) h1 ?_
    refine ev_aload_n 7 rfl d153_6 rfl ?_
    refine ev_getr 10 rfl 9 27 d153_7 rfl (by omega) (G.1 _ _ (rfl : ai_sp 572 = (9, 0)) (by decide) (by decide)) (G.2 _ _ _ (rfl : ai_rf 572 27 = some 593)) ?_
    refine ev_iload_n 11 rfl d153_10 rfl ?_
    refine ev_iald_n (v := nI 0) 12 rfl d153_11 (by omega) (G.1 _ _ (rfl : ai_sp 593 = (100, 16)) (by decide) (by decide)) (by omega) (by decide) g1 ?_
    refine ev_icmp_T 36 (by decide) (by decide) d153_12 ?_
    refine ev_aload_n 37 rfl d153_36 rfl ?_
    refine ev_getr 40 rfl 9 27 d153_37 rfl (by omega) (G.1 _ _ (rfl : ai_sp 572 = (9, 0)) (by decide) (by decide)) (G.2 _ _ _ (rfl : ai_rf 572 27 = some 593)) ?_
    refine ev_iload_n 41 rfl d153_40 rfl ?_
    refine ev_iald_n (v := nI 0) 42 rfl d153_41 (by omega) (G.1 _ _ (rfl : ai_sp 593 = (100, 16)) (by decide) (by decide)) (by omega) (by decide) h1 ?_
    refine ev_iconst (v := nI 1) 43 rfl d153_42 (by decide) ?_
    refine ev_isub (v := (-1)) 44 rfl d153_43 (by decide) ?_
    refine ev_store_in 45 rfl d153_44 (Nat.le_of_ble_eq_true rfl) rfl ?_
    show ai_Ev _ _ _ [some (.ref 572), some (.int (nI x)), some (.int (nI y)), some (.int (-1)), none] _ _ _
    refine ev_iload_n 46 rfl d153_45 rfl ?_
    refine ev_if_T 98 (by decide) (by decide) d153_46 ?_
    refine ev_iconst (v := nI 0) 99 rfl d153_98 (by decide) ?_
    refine ev_iret (Or.inl rfl) d153_99 ?_
    refine ⟨?_, rfl⟩
    rw [ai_cmp_eq (by simp only [ai_val])]
  refine ev_aload_n 1 rfl d153_0 rfl ?_
  refine ev_getr 4 rfl 9 27 d153_1 rfl (by omega) (G.1 _ _ (rfl : ai_sp 572 = (9, 0)) (by decide) (by decide)) (G.2 _ _ _ (rfl : ai_rf 572 27 = some 593)) ?_
  refine ev_iload_n 5 rfl d153_4 rfl ?_
  refine ev_iald_n (v := nI s) 6 rfl d153_5 (by omega) (G.1 _ _ (rfl : ai_sp 593 = (100, 16)) (by decide) (by decide)) (by omega) (by decide) h1 ?_
  refine ev_aload_n 7 rfl d153_6 rfl ?_
  refine ev_getr 10 rfl 9 27 d153_7 rfl (by omega) (G.1 _ _ (rfl : ai_sp 572 = (9, 0)) (by decide) (by decide)) (G.2 _ _ _ (rfl : ai_rf 572 27 = some 593)) ?_
  refine ev_iload_n 11 rfl d153_10 rfl ?_
  refine ev_iald_n (v := nI t) 12 rfl d153_11 (by omega) (G.1 _ _ (rfl : ai_sp 593 = (100, 16)) (by decide) (by decide)) (by omega) (by decide) g1 ?_
  refine ev_icmp 36 15 (by decide) rfl (cn_eq (by omega) (by omega)) d153_12 (fun hc_12 => ?_) (fun hc_12 => ?_)
  · refine ev_aload_n 37 rfl d153_36 rfl ?_
    refine ev_getr 40 rfl 9 27 d153_37 rfl (by omega) (G.1 _ _ (rfl : ai_sp 572 = (9, 0)) (by decide) (by decide)) (G.2 _ _ _ (rfl : ai_rf 572 27 = some 593)) ?_
    refine ev_iload_n 41 rfl d153_40 rfl ?_
    refine ev_iald_n (v := nI s) 42 rfl d153_41 (by omega) (G.1 _ _ (rfl : ai_sp 593 = (100, 16)) (by decide) (by decide)) (by omega) (by decide) h1 ?_
    refine ev_iconst (v := nI 1) 43 rfl d153_42 (by decide) ?_
    refine ev_isub (v := nI (s - 1)) 44 rfl d153_43 (pk_sub (by omega)) ?_
    refine ev_store_in 45 rfl d153_44 (Nat.le_of_ble_eq_true rfl) rfl ?_
    show ai_Ev _ _ _ [some (.ref 572), some (.int (nI x)), some (.int (nI y)), some (.int (nI (s - 1))), none] _ _ _
    have hst : t = s := by omega
    subst hst
    exact m_cmp_loop G hx hy rfl h1 g1 h2 h3 g3 (t - 1) (by omega) (fun j hj1 hj2 => by omega)
  · refine ev_aload_n 16 rfl d153_15 rfl ?_
    refine ev_getr 19 rfl 9 27 d153_16 rfl (by omega) (G.1 _ _ (rfl : ai_sp 572 = (9, 0)) (by decide) (by decide)) (G.2 _ _ _ (rfl : ai_rf 572 27 = some 593)) ?_
    refine ev_iload_n 20 rfl d153_19 rfl ?_
    refine ev_iald_n (v := nI s) 21 rfl d153_20 (by omega) (G.1 _ _ (rfl : ai_sp 593 = (100, 16)) (by decide) (by decide)) (by omega) (by decide) h1 ?_
    refine ev_aload_n 22 rfl d153_21 rfl ?_
    refine ev_getr 25 rfl 9 27 d153_22 rfl (by omega) (G.1 _ _ (rfl : ai_sp 572 = (9, 0)) (by decide) (by decide)) (G.2 _ _ _ (rfl : ai_rf 572 27 = some 593)) ?_
    refine ev_iload_n 26 rfl d153_25 rfl ?_
    refine ev_iald_n (v := nI t) 27 rfl d153_26 (by omega) (G.1 _ _ (rfl : ai_sp 593 = (100, 16)) (by decide) (by decide)) (by omega) (by decide) g1 ?_
    refine ev_icmp 34 30 (by decide) rfl (cn_ge (by omega) (by omega)) d153_27 (fun hc_27 => ?_) (fun hc_27 => ?_)
    · refine ev_iconst (v := nI 1) 35 rfl d153_34 (by decide) ?_
      refine ev_iret (Or.inl rfl) d153_35 ?_
      refine ⟨?_, rfl⟩
      rw [ai_cmp_gt (val_longer (by omega) (by omega) (fun j hj => (g3 j hj).2) (h5 (by omega)))]
    · refine ev_iconst (v := (-1)) 31 rfl d153_30 (by decide) ?_
      refine ev_goto 35 (by decide) d153_31 ?_
      refine ev_iret (Or.inl rfl) d153_35 ?_
      refine ⟨?_, rfl⟩
      rw [ai_cmp_lt (val_longer (by omega) (by omega) (fun j hj => (h3 j hj).2) (g5 (by omega)))]
end MBIG
