section BIG
variable {S : List (Nat × Nat)} {F : Nat → Nat → Option Nat} {L : Nat → Nat → Int64}
/-- the digits of a row are there -/
def ai_OK (I : Nat → Nat → Int32) (x s : Nat) : Prop := ∀ j, j < s → I x j = nI (ai_dg I x j) ∧ ai_dg I x j < 2147483648
def ai_fr2 (a : Nat) (I I2 : Nat → Nat → Int32) : Prop := ∀ x, x ≠ a ∧ x ≠ a + 1 → I2 x = I x
theorem ai_OK.row {I I2 : Nat → Nat → Int32} {x s : Nat} (h : ai_OK I x s) (e : I2 x = I x) : ai_OK I2 x s := fun j hj => by
  have e2 : ai_dg I2 x j = ai_dg I x j := by unfold ai_dg; rw [e]
  rw [e, e2]; exact h j hj
theorem dg_row {I I2 : Nat → Nat → Int32} {x : Nat} (e : I2 x = I x) : ai_dg I2 x = ai_dg I x := by funext j; unfold ai_dg; rw [e]

theorem big_limbAt (G : ai_G S F) {a n : Nat} (hb : ai_big a n) (hn31 : n < 2 ^ 31) {I : Nat → Nat → Int32} {s k : Nat} (h1 : I a 1 = nI s) (hsn : s ≤ n) (hok : ai_OK I (a + 1) s) (hk : k < 2 ^ 31) :
    ai_Ev none 8 0 [some (.ref a), some (.int (nI k))] [] (S, I, L, F) (ai_Pp S F I L (.int (nI (if k < s then ai_dg I (a + 1) k else 0)))) := by
  refine ev_iload_n 1 rfl d8_0 rfl ?_
  refine ev_if_F 21 4 (by decide) rfl (c0_ltF (by omega)) d8_1 ?_
  refine ev_iload_n 5 rfl d8_4 rfl ?_
  refine ev_aload_n 6 rfl d8_5 rfl ?_
  refine ev_geti (v := nI s) 9 rfl 0 1 d8_6 rfl hb.2.2.2.1 (G.1 _ _ hb.1 hb.2.2.2.1 (by have := hb.2.2.2.2; omega)) h1 ?_
  refine ev_icmp 21 12 (by decide) rfl (cn_ge (by omega) (by omega)) d8_9 (fun hc_9 => ?_) (fun hc_9 => ?_)
  · refine ev_iconst (v := nI 0) 22 rfl d8_21 (by decide) ?_
    refine ev_iret (Or.inl rfl) d8_22 ?_
    refine ⟨?_, rfl⟩
    first | rw [if_pos (by omega)] | rw [if_neg (by omega)]
  · refine ev_aload_n 13 rfl d8_12 rfl ?_
    refine ev_getr 16 rfl 0 0 d8_13 rfl hb.2.2.2.1 (G.1 _ _ hb.1 hb.2.2.2.1 (by have := hb.2.2.2.2; omega)) (G.2 _ _ _ hb.2.1) ?_
    refine ev_iload_n 17 rfl d8_16 rfl ?_
    refine ev_iald_n (v := nI (ai_dg I (a + 1) k)) 18 rfl d8_17 (by omega) (G.1 _ _ hb.2.2.1 (by omega) hb.2.2.2.2) (by omega) hn31 (hok k (by omega)).1 ?_
    refine ev_goto 22 (by decide) d8_18 ?_
    refine ev_iret (Or.inl rfl) d8_22 ?_
    refine ⟨?_, rfl⟩
    first | rw [if_pos (by omega)] | rw [if_neg (by omega)]
theorem big_trim0 (G : ai_G S F) {a n : Nat} (hb : ai_big a n) (hn31 : n < 2 ^ 31) {I0 : Nat → Nat → Int32} {v : Nat} : ∀ (s : Nat) {I : Nat → Nat → Int32}, I a 1 = nI s → s ≤ n → ai_OK I (a + 1) s → ai_fr2 a I0 I → ai_val 2147483648 (ai_dg I (a + 1)) s = v →
    ai_Ev none 11 0 [some (.ref a)] [] (S, I, L, F) (ai_Pu S F L (fun I2 => ai_BG I2 a n v ∧ ai_fr2 a I0 I2)) := by
  intro s
  induction s using Nat.strongRecOn with
  | _ s ih =>
    intro I h1 hsn hok hx hv
    refine ev_aload_n 1 rfl d11_0 rfl ?_
    refine ev_geti (v := nI s) 4 rfl 0 1 d11_1 rfl hb.2.2.2.1 (G.1 _ _ hb.1 hb.2.2.2.1 (by have := hb.2.2.2.2; omega)) h1 ?_
    refine ev_if 34 7 (by decide) rfl (c0_le (by omega)) d11_4 (fun hc_4 => ?_) (fun hc_4 => ?_)
    · refine ev_vret rfl d11_34 ?_
      refine ⟨rfl, _, rfl, ⟨s, h1, hsn, hok, hv, fun hs => by omega⟩, hx⟩
    · refine ev_aload_n 8 rfl d11_7 rfl ?_
      refine ev_getr 11 rfl 0 0 d11_8 rfl hb.2.2.2.1 (G.1 _ _ hb.1 hb.2.2.2.1 (by have := hb.2.2.2.2; omega)) (G.2 _ _ _ hb.2.1) ?_
      refine ev_aload_n 12 rfl d11_11 rfl ?_
      refine ev_geti (v := nI s) 15 rfl 0 1 d11_12 rfl hb.2.2.2.1 (G.1 _ _ hb.1 hb.2.2.2.1 (by have := hb.2.2.2.2; omega)) h1 ?_
      refine ev_iconst (v := nI 1) 16 rfl d11_15 (by decide) ?_
      refine ev_isub (v := nI (s - 1)) 17 rfl d11_16 (pk_sub (by omega)) ?_
      refine ev_iald_n (v := nI (ai_dg I (a + 1) (s - 1))) 18 rfl d11_17 (by omega) (G.1 _ _ hb.2.2.1 (by omega) hb.2.2.2.2) (by omega) hn31 (hok (s - 1) (by omega)).1 ?_
      have hlt := (hok (s - 1) (by omega)).2
      refine ev_if 34 21 (by decide) rfl (c0_ne (by omega)) d11_18 (fun hc_18 => ?_) (fun hc_18 => ?_)
      · refine ev_vret rfl d11_34 ?_
        refine ⟨rfl, _, rfl, ⟨s, h1, hsn, hok, hv, fun hs => by omega⟩, hx⟩
      · refine ev_aload_n 22 rfl d11_21 rfl ?_
        refine ev_dup 23 rfl d11_22 rfl ?_
        refine ev_geti (v := nI s) 26 rfl 0 1 d11_23 rfl hb.2.2.2.1 (G.1 _ _ hb.1 hb.2.2.2.1 (by have := hb.2.2.2.2; omega)) h1 ?_
        refine ev_iconst (v := nI 1) 27 rfl d11_26 (by decide) ?_
        refine ev_isub (v := nI (s - 1)) 28 rfl d11_27 (pk_sub (by omega)) ?_
        obtain ⟨I_1, hI_1⟩ : ∃ z, z = ai_ui I a 1 (nI (s - 1)) := ⟨_, rfl⟩
        refine ev_puti (I2 := I_1) 31 rfl 0 1 d11_28 rfl hb.2.2.2.1 (G.1 _ _ hb.1 hb.2.2.2.1 (by have := hb.2.2.2.2; omega)) (fun h => absurd h (by decide)) hI_1.symm ?_
        have hI_1b : I_1 a 1 = nI (s - 1) := ui_same hI_1
        refine ev_goto 0 (by decide) d11_31 ?_
        refine ih (s - 1) (by omega) hI_1b (by omega) ?_ ?_ ?_
        · intro j hj
          have e : ai_dg I_1 (a + 1) j = ai_dg I (a + 1) j := dg_other hI_1 (Or.inl (by omega))
          rw [e, ui_other hI_1 (Or.inl (by omega))]
          exact hok j (by omega)
        · intro j hj
          rw [← hx j hj, ui_row hI_1 hj.1]
        · have e : ∀ j, ai_dg I_1 (a + 1) j = ai_dg I (a + 1) j := fun j => dg_other hI_1 (Or.inl (by omega))
          rw [val_congr (fun j _ => e j), ← hv]
          conv => rhs; rw [show s = (s - 1) + 1 by omega]
          exact (val_top0 (by omega)).symm
theorem big_push (G : ai_G S F) {a n : Nat} (hb : ai_big a n) (hn31 : n < 2 ^ 31) {I : Nat → Nat → Int32} {s c : Nat} (h1 : I a 1 = nI s) (hsn : s ≤ n) (hc : c < 2 ^ 31) :
    ai_Ev none 10 0 [some (.ref a), some (.long (lN c)), none] [] (S, I, L, F) (ai_Pu S F L (fun I2 => ai_fr2 a I I2 ∧ (c = 0 → I2 a 1 = nI s ∧ I2 (a + 1) = I (a + 1)) ∧ (0 < c → s < n → I2 a 1 = nI (s + 1) ∧ I2 (a + 1) = ai_ui I (a + 1) s (nI c) (a + 1)))) := by
  refine ev_lload_n 1 rfl d10_0 rfl ?_
  refine ev_lconst (v := lN 0) 2 rfl d10_1 (by decide) ?_
  refine ev_lcmp 3 rfl d10_2 rfl ?_
  refine ev_if 39 6 (by decide) rfl (lg_le0 (by omega)) d10_3 (fun hc_3 => ?_) (fun hc_3 => ?_)
  · refine ev_vret rfl d10_39 ?_
    refine ⟨rfl, _, rfl, fun _ _ => rfl, fun hc0 => ⟨h1, rfl⟩, fun hc0 hs => by omega⟩
  · refine ev_aload_n 7 rfl d10_6 rfl ?_
    refine ev_geti (v := nI s) 10 rfl 0 1 d10_7 rfl hb.2.2.2.1 (G.1 _ _ hb.1 hb.2.2.2.1 (by have := hb.2.2.2.2; omega)) h1 ?_
    refine ev_aload_n 11 rfl d10_10 rfl ?_
    refine ev_getr 14 rfl 0 0 d10_11 rfl hb.2.2.2.1 (G.1 _ _ hb.1 hb.2.2.2.1 (by have := hb.2.2.2.2; omega)) (G.2 _ _ _ hb.2.1) ?_
    refine ev_alen (v := nI n) 15 rfl d10_14 (by omega) (by decide) (G.1 _ _ hb.2.2.1 (by omega) hb.2.2.2.2) rfl ?_
    refine ev_icmp 39 18 (by decide) rfl (cn_ge (by omega) (by omega)) d10_15 (fun hc_15 => ?_) (fun hc_15 => ?_)
    · refine ev_vret rfl d10_39 ?_
      refine ⟨rfl, _, rfl, fun _ _ => rfl, fun hc0 => ⟨h1, rfl⟩, fun hc0 hs => by omega⟩
    · refine ev_aload_n 19 rfl d10_18 rfl ?_
      refine ev_getr 22 rfl 0 0 d10_19 rfl hb.2.2.2.1 (G.1 _ _ hb.1 hb.2.2.2.1 (by have := hb.2.2.2.2; omega)) (G.2 _ _ _ hb.2.1) ?_
      refine ev_aload_n 23 rfl d10_22 rfl ?_
      refine ev_geti (v := nI s) 26 rfl 0 1 d10_23 rfl hb.2.2.2.1 (G.1 _ _ hb.1 hb.2.2.2.1 (by have := hb.2.2.2.2; omega)) h1 ?_
      refine ev_lload_n 27 rfl d10_26 rfl ?_
      refine ev_l2i (v := nI c) 28 rfl d10_27 (lN_i _) ?_
      obtain ⟨I_1, hI_1⟩ : ∃ z, z = ai_ui I (a + 1) s (nI c) := ⟨_, rfl⟩
      refine ev_iast_n (I2 := I_1) 29 rfl d10_28 (by omega) (G.1 _ _ hb.2.2.1 (by omega) hb.2.2.2.2) (by omega) hn31 hI_1.symm ?_
      have hI_1s : I_1 a 1 = nI s := by rw [ui_other hI_1 (Or.inl (by omega))]; exact h1
      refine ev_aload_n 30 rfl d10_29 rfl ?_
      refine ev_dup 31 rfl d10_30 rfl ?_
      refine ev_geti (v := nI s) 34 rfl 0 1 d10_31 rfl hb.2.2.2.1 (G.1 _ _ hb.1 hb.2.2.2.1 (by have := hb.2.2.2.2; omega)) hI_1s ?_
      refine ev_iconst (v := nI 1) 35 rfl d10_34 (by decide) ?_
      refine ev_iadd (v := nI (s + 1)) 36 rfl d10_35 (nI_add _ _) ?_
      obtain ⟨I_2, hI_2⟩ : ∃ z, z = ai_ui I_1 a 1 (nI (s + 1)) := ⟨_, rfl⟩
      refine ev_puti (I2 := I_2) 39 rfl 0 1 d10_36 rfl hb.2.2.2.1 (G.1 _ _ hb.1 hb.2.2.2.1 (by have := hb.2.2.2.2; omega)) (fun h => absurd h (by decide)) hI_2.symm ?_
      refine ev_vret rfl d10_39 ?_
      refine ⟨rfl, _, rfl, ?_, fun hc0 => by omega, fun hc0 hs => ⟨ui_same hI_2, ?_⟩⟩
      · intro x hx
        rw [ui_row hI_2 hx.1, ui_row hI_1 hx.2]
      · rw [ui_row hI_2 (by omega), hI_1]
theorem ai_pushed {I I2 : Nat → Nat → Int32} {a n s c V : Nat} (hsn : s ≤ n) (hok : ai_OK I (a + 1) s) (hc : c < 2147483648) (hv : ai_val 2147483648 (ai_dg I (a + 1)) s + c * 2147483648 ^ s = V) (hV : V < 2147483648 ^ n)
    (h0 : c = 0 → I2 a 1 = nI s ∧ I2 (a + 1) = I (a + 1)) (h1 : 0 < c → s < n → I2 a 1 = nI (s + 1) ∧ I2 (a + 1) = ai_ui I (a + 1) s (nI c) (a + 1)) : ∃ t, I2 a 1 = nI t ∧ t ≤ n ∧ ai_OK I2 (a + 1) t ∧ ai_val 2147483648 (ai_dg I2 (a + 1)) t = V ∧ ((c = 0 ∧ t = s ∧ I2 (a + 1) = I (a + 1)) ∨ (0 < c ∧ t = s + 1 ∧ ai_dg I2 (a + 1) s = c)) := by
  rcases Nat.eq_zero_or_pos c with q | q
  · obtain ⟨g1, g2⟩ := h0 q
    refine ⟨s, g1, hsn, hok.row g2, ?_, Or.inl ⟨q, rfl, g2⟩⟩
    rw [dg_row g2, ← hv, q, Nat.zero_mul]; rfl
  · have hs : s < n := by
      rcases Nat.lt_or_ge s n with z | z
      · exact z
      · exfalso
        have e : s = n := by omega
        subst e
        have : 1 * 2147483648 ^ s ≤ c * 2147483648 ^ s := Nat.mul_le_mul_right _ q
        omega
    obtain ⟨g1, g2⟩ := h1 q hs
    have e1 : ∀ j, j < s → I2 (a + 1) j = I (a + 1) j := fun j hj => by rw [g2]; simp [ai_ui, show j ≠ s by omega]
    have e2 : I2 (a + 1) s = nI c := by rw [g2]; simp [ai_ui]
    have e3 : ∀ j, j < s → ai_dg I2 (a + 1) j = ai_dg I (a + 1) j := fun j hj => by unfold ai_dg; rw [e1 j hj]
    have e4 : ai_dg I2 (a + 1) s = c := ai_dg_of e2 (by omega)
    refine ⟨s + 1, g1, hs, fun j hj => ?_, ?_, Or.inr ⟨q, rfl, e4⟩⟩
    · rcases Nat.lt_or_ge j s with z | z
      · rw [e1 j z, e3 j z]; exact hok j z
      · have : j = s := by omega
        subst this
        rw [e4]; exact ⟨e2, hc⟩
    · rw [val_snoc e3 e4]; exact hv
theorem ai_OK_put {I I2 : Nat → Nat → Int32} {x k v : Nat} (h : I2 = ai_ui I x k (nI v)) (hv : v < 2147483648) (hok : ai_OK I x k) : ai_OK I2 x (k + 1) := by
  intro j hj
  rcases Nat.lt_or_ge j k with z | z
  · rw [dg_other h (Or.inr (by omega)), ui_other h (Or.inr (by omega))]; exact hok j z
  · have : j = k := by omega
    subst this
    rw [dg_same h hv]; exact ⟨ui_same h, hv⟩
theorem val_put {I I2 : Nat → Nat → Int32} {x k v : Nat} (h : I2 = ai_ui I x k (nI v)) (hv : v < 2147483648) : ai_val 2147483648 (ai_dg I2 x) (k + 1) = ai_val 2147483648 (ai_dg I x) k + v * 2147483648 ^ k :=
  val_snoc (fun j hj => dg_other h (Or.inr (by omega))) (dg_same h hv)
theorem ai_OK_le {I : Nat → Nat → Int32} {x s t : Nat} (h : ai_OK I x s) (ht : t ≤ s) : ai_OK I x t := fun j hj => h j (by omega)

theorem big_mul_loop (G : ai_G S F) {a n : Nat} (hb : ai_big a n) (hn31 : n < 2 ^ 31) {m s : Nat} (hm : m < 2147483648) (hsn : s ≤ n) {D : Nat → Nat} (hDl : ∀ j, j < s → D j < 2147483648) {I0 : Nat → Nat → Int32} {Q : Option Value → ai_H → Prop}
    (hk : ∀ (I : Nat → Nat → Int32) (c : Nat) (u5 u6 : Option Value), I a 1 = nI s → ai_OK I (a + 1) s → c < 2147483648 → ai_val 2147483648 (ai_dg I (a + 1)) s + c * 2147483648 ^ s = m * ai_val 2147483648 D s → (∀ x, x ≠ a + 1 → I x = I0 x) → ai_Ev none 4 55 [some (.ref a), some (.int (nI m)), some (.long (lN c)), none, some (.int (nI s)), u5, u6] [] (S, I, L, F) Q) :
    ∀ (r k : Nat) (I : Nat → Nat → Int32) (c : Nat) (u5 u6 : Option Value), k + r = s → I a 1 = nI s → ai_OK I (a + 1) k → (∀ j, k ≤ j → j < s → I (a + 1) j = nI (D j)) → c < 2147483648 → ai_val 2147483648 (ai_dg I (a + 1)) k + c * 2147483648 ^ k = m * ai_val 2147483648 D k → (∀ x, x ≠ a + 1 → I x = I0 x) →
    ai_Ev none 4 5 [some (.ref a), some (.int (nI m)), some (.long (lN c)), none, some (.int (nI k)), u5, u6] [] (S, I, L, F) Q := by
  intro r
  induction r with
  | zero =>
    intro k I c u5 u6 hkr h1 hok hD hc hv hfr
    obtain rfl : k = s := by omega
    refine ev_iload 7 rfl d4_5 rfl ?_
    refine ev_aload_n 8 rfl d4_7 rfl ?_
    refine ev_geti (v := nI k) 11 rfl 0 1 d4_8 rfl hb.2.2.2.1 (G.1 _ _ hb.1 hb.2.2.2.1 (by have := hb.2.2.2.2; omega)) h1 ?_
    refine ev_icmp 55 14 (by decide) rfl (cn_ge (by omega) (by omega)) d4_11 (fun hc_11 => ?_) (fun hc_11 => absurd hc_11 (by omega))
    exact hk I c u5 u6 h1 hok hc hv hfr
  | succ r ih =>
    intro k I c u5 u6 hkr h1 hok hD hc hv hfr
    refine ev_iload 7 rfl d4_5 rfl ?_
    refine ev_aload_n 8 rfl d4_7 rfl ?_
    refine ev_geti (v := nI s) 11 rfl 0 1 d4_8 rfl hb.2.2.2.1 (G.1 _ _ hb.1 hb.2.2.2.1 (by have := hb.2.2.2.2; omega)) h1 ?_
    refine ev_icmp 55 14 (by decide) rfl (cn_ge (by omega) (by omega)) d4_11 (fun hc_11 => absurd hc_11 (by omega)) (fun hc_11 => ?_)
    have hdk := hDl k (by omega)
    have hpr : D k * m ≤ 2147483647 * 2147483647 := Nat.mul_le_mul (by omega) (by omega)
    refine ev_aload_n 15 rfl d4_14 rfl ?_
    refine ev_getr 18 rfl 0 0 d4_15 rfl hb.2.2.2.1 (G.1 _ _ hb.1 hb.2.2.2.1 (by have := hb.2.2.2.2; omega)) (G.2 _ _ _ hb.2.1) ?_
    refine ev_iload 20 rfl d4_18 rfl ?_
    refine ev_iald_n (v := nI (D k)) 21 rfl d4_20 (by omega) (G.1 _ _ hb.2.2.1 (by omega) hb.2.2.2.2) (by omega) hn31 (hD k (by omega) (by omega)) ?_
    refine ev_i2l (v := lN (D k)) 22 rfl d4_21 (nI_l (by omega)) ?_
    refine ev_iload_n 23 rfl d4_22 rfl ?_
    refine ev_i2l (v := lN m) 24 rfl d4_23 (nI_l (by omega)) ?_
    refine ev_lmul (v := lN ((D k) * m)) 25 rfl d4_24 (lN_mul _ _) ?_
    refine ev_lload_n 26 rfl d4_25 rfl ?_
    refine ev_ladd (v := lN (((D k) * m) + c)) 27 rfl d4_26 (lN_add _ _) ?_
    refine ev_store_l 29 rfl d4_27 ⟨rfl, Nat.le_of_ble_eq_true rfl⟩ rfl ?_
    show ai_Ev _ _ _ [some (.ref a), some (.int (nI m)), some (.long (lN c)), none, some (.int (nI k)), some (.long (lN (((D k) * m) + c))), none] _ _ _
    refine ev_aload_n 30 rfl d4_29 rfl ?_
    refine ev_getr 33 rfl 0 0 d4_30 rfl hb.2.2.2.1 (G.1 _ _ hb.1 hb.2.2.2.1 (by have := hb.2.2.2.2; omega)) (G.2 _ _ _ hb.2.1) ?_
    refine ev_iload 35 rfl d4_33 rfl ?_
    refine ev_lload 37 rfl d4_35 rfl ?_
    refine ev_ldc2 (v := lN 2147483647) 40 rfl d4_37 (by decide) ?_
    refine ev_land (v := lN ((((D k) * m) + c) % 2147483648)) 41 rfl d4_40 (lN_mask31 (by omega)) ?_
    refine ev_l2i (v := nI ((((D k) * m) + c) % 2147483648)) 42 rfl d4_41 (lN_i _) ?_
    obtain ⟨I_1, hI_1⟩ : ∃ z, z = ai_ui I (a + 1) k (nI ((((D k) * m) + c) % 2147483648)) := ⟨_, rfl⟩
    refine ev_iast_n (I2 := I_1) 43 rfl d4_42 (by omega) (G.1 _ _ hb.2.2.1 (by omega) hb.2.2.2.2) (by omega) hn31 hI_1.symm ?_
    refine ev_lload 45 rfl d4_43 rfl ?_
    refine ev_bipush (v := nI 31) 47 rfl d4_45 (by decide) ?_
    refine ev_lushr (v := lN ((((D k) * m) + c) / 2147483648)) 48 rfl d4_47 (lN_shr31 (by omega)) ?_
    refine ev_store_ln 49 rfl d4_48 (Nat.le_of_ble_eq_true rfl) rfl ?_
    show ai_Ev _ _ _ [some (.ref a), some (.int (nI m)), some (.long (lN ((((D k) * m) + c) / 2147483648))), none, some (.int (nI k)), some (.long (lN (((D k) * m) + c))), none] _ _ _
    refine ev_iinc (v := nI (k + 1)) 52 rfl d4_49 rfl (Nat.le_of_ble_eq_true rfl) (nI_add _ 1) rfl ?_
    show ai_Ev _ _ _ [some (.ref a), some (.int (nI m)), some (.long (lN ((((D k) * m) + c) / 2147483648))), none, some (.int (nI (k + 1))), some (.long (lN (((D k) * m) + c))), none] _ _ _
    refine ev_goto 5 (by decide) d4_52 ?_
    have hxb : D k * m + c < 2147483648 * 2147483648 := by omega
    have hq : (D k * m + c) / 2147483648 < 2147483648 := Nat.div_lt_of_lt_mul hxb
    have hr9 : (D k * m + c) % 2147483648 < 2147483648 := Nat.mod_lt _ (by omega)
    refine ih (k + 1) I_1 _ _ _ (by omega) (by rw [ui_other hI_1 (Or.inl (by omega))]; exact h1) (ai_OK_put hI_1 hr9 hok) ?_ hq ?_ ?_
    · intro j hj1 hj2
      rw [ui_other hI_1 (Or.inr (by omega))]
      exact hD j (by omega) hj2
    · rw [val_put hI_1 hr9, val_succ, Nat.pow_succ, val_carry, Nat.mul_add, ← hv, Nat.add_mul]
      have e : m * (D k * 2147483648 ^ k) = D k * m * 2147483648 ^ k := by rw [← Nat.mul_assoc, Nat.mul_comm m]
      rw [e]
      omega
    · intro x hx
      rw [ui_row hI_1 hx]
      exact hfr x hx
theorem big_mul (G : ai_G S F) {a n : Nat} (hb : ai_big a n) (hn31 : n < 2 ^ 31) {I0 : Nat → Nat → Int32} {v m : Nat} (hB : ai_BG I0 a n v) (hm : m < 2147483648) (hV : m * v < 2147483648 ^ n) :
    ai_Ev none 4 0 [some (.ref a), some (.int (nI m)), none, none, none, none, none] [] (S, I0, L, F) (ai_Pu S F L (fun I2 => ai_BG I2 a n (m * v) ∧ ai_fr2 a I0 I2)) := by
  obtain ⟨s, h1, hsn, hok, hv, htop⟩ := hB
  refine ev_lconst (v := lN 0) 1 rfl d4_0 (by decide) ?_
  refine ev_store_ln 2 rfl d4_1 (Nat.le_of_ble_eq_true rfl) rfl ?_
  show ai_Ev _ _ _ [some (.ref a), some (.int (nI m)), some (.long (lN 0)), none, none, none, none] _ _ _
  refine ev_iconst (v := nI 0) 3 rfl d4_2 (by decide) ?_
  refine ev_store_i 5 rfl d4_3 ⟨rfl, Nat.le_of_ble_eq_true rfl⟩ rfl ?_
  show ai_Ev _ _ _ [some (.ref a), some (.int (nI m)), some (.long (lN 0)), none, some (.int (nI 0)), none, none] _ _ _
  refine big_mul_loop G hb hn31 (D := ai_dg I0 (a + 1)) (I0 := I0) hm hsn (fun j hj => (hok j hj).2) ?_ s 0 I0 0 none none (by omega) h1 (fun j hj => absurd hj (by omega)) (fun j _ hj => (hok j hj).1) (by omega) (by simp [ai_val]) (fun _ _ => rfl)
  intro I c u5 u6 g1 g2 g3 g4 g5
  refine ev_aload_n 56 rfl d4_55 rfl ?_
  refine ev_lload_n 57 rfl d4_56 rfl ?_
  refine ev_cu1 60 rfl 10 d4_57 rfl rfl (by rw [G.1 _ _ hb.1 hb.2.2.2.1 (by have := hb.2.2.2.2; omega)]; rfl) hb.2.2.2.1 rfl (big_push G hb hn31 g1 hsn (by omega)) (fun I_1 hr_57 => ?_)
  obtain ⟨hp0, hp1, hp2⟩ := hr_57
  obtain ⟨t, ht1, ht2, ht3, ht4, -⟩ := ai_pushed hsn g2 g3 (g4.trans (by rw [hv])) hV hp1 hp2
  have htf : ai_fr2 a I0 I_1 := fun x hx => by rw [hp0 x hx]; exact g5 x hx.2
  refine ev_aload_n 61 rfl d4_60 rfl ?_
  refine ev_cu0 64 rfl 11 d4_61 rfl rfl (by rw [G.1 _ _ hb.1 hb.2.2.2.1 (by have := hb.2.2.2.2; omega)]; rfl) hb.2.2.2.1 rfl (big_trim0 G hb hn31 (I0 := I0) (v := m * v) t ht1 ht2 ht3 htf ht4) (fun I_2 hr_61 => ?_)
  refine ev_vret rfl d4_64 ?_
  exact ⟨rfl, _, rfl, hr_61⟩
theorem ai_and31 {m : Nat} (hm : m < 2147483648) : nI m &&& nI 2147483647 = nI m := by
  have := fa_mask m 31
  rw [show (2 : Nat) ^ 31 - 1 = 2147483647 by decide, show (2 : Nat) ^ 31 = 2147483648 by decide, Nat.mod_eq_of_lt hm] at this
  exact this
theorem big_ne {a b n n2 : Nat} (ha : ai_big a n) (hb : ai_big b n2) : a + 1 ≠ b ∧ b + 1 ≠ a := by
  refine ⟨fun e => ?_, fun e => ?_⟩
  · have h1 := ha.2.2.1
    rw [e, hb.1] at h1
    cases h1
  · have h1 := hb.2.2.1
    rw [e, ha.1] at h1
    cases h1
theorem big_set (G : ai_G S F) {a n : Nat} (hb : ai_big a n) (hn31 : n < 2 ^ 31) (hn1 : 1 ≤ n) {I : Nat → Nat → Int32} {m : Nat} (hm : m < 2147483648) :
    ai_Ev none 1 0 [some (.ref a), some (.int (nI m))] [] (S, I, L, F) (ai_Pu S F L (fun I2 => ai_BG I2 a n m ∧ ai_fr2 a I I2)) := by
  refine ev_aload_n 1 rfl d1_0 rfl ?_
  refine ev_getr 4 rfl 0 0 d1_1 rfl hb.2.2.2.1 (G.1 _ _ hb.1 hb.2.2.2.1 (by have := hb.2.2.2.2; omega)) (G.2 _ _ _ hb.2.1) ?_
  refine ev_iconst (v := nI 0) 5 rfl d1_4 (by decide) ?_
  refine ev_iload_n 6 rfl d1_5 rfl ?_
  refine ev_ldc (v := nI 2147483647) 8 rfl d1_6 (by decide) ?_
  refine ev_iand (v := nI m) 9 rfl d1_8 (ai_and31 hm) ?_
  obtain ⟨I_1, hI_1⟩ : ∃ z, z = ai_ui I (a + 1) 0 (nI m) := ⟨_, rfl⟩
  refine ev_iast_n (I2 := I_1) 10 rfl d1_9 (by omega) (G.1 _ _ hb.2.2.1 (by omega) hb.2.2.2.2) (by omega) hn31 hI_1.symm ?_
  refine ev_aload_n 11 rfl d1_10 rfl ?_
  refine ev_iconst (v := nI 1) 12 rfl d1_11 (by decide) ?_
  obtain ⟨I_2, hI_2⟩ : ∃ z, z = ai_ui I_1 a 1 (nI 1) := ⟨_, rfl⟩
  refine ev_puti (I2 := I_2) 15 rfl 0 1 d1_12 rfl hb.2.2.2.1 (G.1 _ _ hb.1 hb.2.2.2.1 (by have := hb.2.2.2.2; omega)) (fun h => absurd h (by decide)) hI_2.symm ?_
  refine ev_aload_n 16 rfl d1_15 rfl ?_
  have h11 : I_2 a 1 = nI 1 := ui_same hI_2
  have e1 : I_1 (a + 1) 0 = nI m := ui_same hI_1
  have e2 : I_2 (a + 1) = I_1 (a + 1) := ui_row hI_2 (by omega)
  have e3 : ai_dg I_2 (a + 1) 0 = m := ai_dg_of (by rw [e2]; exact e1) (by omega)
  have h12 : ai_OK I_2 (a + 1) 1 := fun j hj => by
    have : j = 0 := by omega
    subst this
    rw [e3, e2]; exact ⟨e1, hm⟩
  have h13 : ai_fr2 a I I_2 := fun x hx => by rw [ui_row hI_2 hx.1, ui_row hI_1 hx.2]
  have h14 : ai_val 2147483648 (ai_dg I_2 (a + 1)) 1 = m := by simp [ai_val, e3]
  refine ev_cu0 19 rfl 11 d1_16 rfl rfl (by rw [G.1 _ _ hb.1 hb.2.2.2.1 (by have := hb.2.2.2.2; omega)]; rfl) hb.2.2.2.1 rfl (big_trim0 G hb hn31 (I0 := I) (v := m) 1 h11 (by omega) h12 h13 h14) (fun I_3 hr_16 => ?_)
  refine ev_vret rfl d1_19 ?_
  exact ⟨rfl, _, rfl, hr_16⟩
theorem big_setB (G : ai_G S F) {a n : Nat} (hb : ai_big a n) (hn31 : n < 2 ^ 31) {b n2 : Nat} (hb2 : ai_big b n2) (hn32 : n2 < 2 ^ 31) (hab : a ≠ b) {I : Nat → Nat → Int32} {v : Nat} (hB : ai_BG I b n2 v) (hv : v < 2147483648 ^ n) :
    ai_Ev none 2 0 [some (.ref a), some (.ref b)] [] (S, I, L, F) (ai_Pu S F L (fun I2 => ai_BG I2 a n v ∧ ai_fr2 a I I2)) := by
  obtain ⟨t, g1, g2, g3, g4, g5⟩ := hB
  have htn : t ≤ n := val_size (b := 2147483648) (by omega) g5 (by rw [g4]; exact hv)
  refine ev_aload_n 1 rfl d2_0 rfl ?_
  refine ev_aload_n 2 rfl d2_1 rfl ?_
  refine ev_geti (v := nI t) 5 rfl 0 1 d2_2 rfl hb2.2.2.2.1 (G.1 _ _ hb2.1 hb2.2.2.2.1 (by have := hb2.2.2.2.2; omega)) g1 ?_
  refine ev_aload_n 6 rfl d2_5 rfl ?_
  refine ev_getr 9 rfl 0 0 d2_6 rfl hb.2.2.2.1 (G.1 _ _ hb.1 hb.2.2.2.1 (by have := hb.2.2.2.2; omega)) (G.2 _ _ _ hb.2.1) ?_
  refine ev_alen (v := nI n) 10 rfl d2_9 (by omega) (by decide) (G.1 _ _ hb.2.2.1 (by omega) hb.2.2.2.2) rfl ?_
  refine ev_min (v := nI t) 13 rfl d2_10 rfl rfl (if_neg (nI_nlt htn (by omega))) ?_
  obtain ⟨I_1, hI_1⟩ : ∃ z, z = ai_ui I a 1 (nI t) := ⟨_, rfl⟩
  refine ev_puti (I2 := I_1) 16 rfl 0 1 d2_13 rfl hb.2.2.2.1 (G.1 _ _ hb.1 hb.2.2.2.1 (by have := hb.2.2.2.2; omega)) (fun h => absurd h (by decide)) hI_1.symm ?_
  have htn9 : t < 2 ^ 31 := by omega
  refine ev_aload_n 17 rfl d2_16 rfl ?_
  refine ev_getr 20 rfl 0 0 d2_17 rfl hb2.2.2.2.1 (G.1 _ _ hb2.1 hb2.2.2.2.1 (by have := hb2.2.2.2.2; omega)) (G.2 _ _ _ hb2.2.1) ?_
  refine ev_iconst (v := nI 0) 21 rfl d2_20 (by decide) ?_
  refine ev_aload_n 22 rfl d2_21 rfl ?_
  refine ev_getr 25 rfl 0 0 d2_22 rfl hb.2.2.2.1 (G.1 _ _ hb.1 hb.2.2.2.1 (by have := hb.2.2.2.2; omega)) (G.2 _ _ _ hb.2.1) ?_
  refine ev_iconst (v := nI 0) 26 rfl d2_25 (by decide) ?_
  refine ev_aload_n 27 rfl d2_26 rfl ?_
  refine ev_geti (v := nI t) 30 rfl 0 1 d2_27 rfl hb.2.2.2.1 (G.1 _ _ hb.1 hb.2.2.2.1 (by have := hb.2.2.2.2; omega)) (ui_same hI_1) ?_
  obtain ⟨I_2, hI_2⟩ : ∃ z, z = ai_row I_1 (a + 1) (va_cpy (I_1 (b + 1)) (I_1 (a + 1)) 0 0 t) := ⟨_, rfl⟩
  refine ev_cpyi (I2 := I_2) 33 rfl d2_30 rfl rfl (by omega) (by omega) (G.1 _ _ hb2.2.2.1 (by omega) hb2.2.2.2.2) (G.1 _ _ hb.2.2.1 (by omega) hb.2.2.2.2) ⟨nI_pos (by omega), nI_pos (by omega), nI_pos (by omega), by rw [nI_clamp (by omega), nI_clamp (by omega)]; omega, by rw [nI_clamp (by omega), nI_clamp (by omega)]; omega⟩ (by first | (rw [nI_clamp (by omega), nI_clamp (by omega), nI_clamp (by omega)]; exact hI_2.symm) | (rw [nI_clamp (by omega), nI_clamp (by omega)]; exact hI_2.symm) | (rw [nI_clamp (by omega)]; exact hI_2.symm)) ?_
  refine ev_vret rfl d2_33 ?_
  refine ⟨rfl, _, rfl, ?_, ?_⟩
  · have hne := big_ne hb hb2
    have e0 : I_1 (b + 1) = I (b + 1) := ui_row hI_1 (by omega)
    have e1 : ∀ j, j < t → I_2 (a + 1) j = I (b + 1) j := fun j hj => by
      rw [hI_2, ai_row_eq, ← e0]
      simp [va_cpy, hj]
    have e2 : ∀ j, j < t → ai_dg I_2 (a + 1) j = ai_dg I (b + 1) j := fun j hj => by unfold ai_dg; rw [e1 j hj]
    refine ⟨t, ?_, htn, fun j hj => ?_, ?_, fun ht => ?_⟩
    · rw [hI_2, ai_row_ne (by omega)]; exact ui_same hI_1
    · rw [e1 j hj, e2 j hj]; exact g3 j hj
    · rw [val_congr e2]; exact g4
    · rw [e2 _ (by omega)]; exact g5 ht
  · intro x hx
    rw [hI_2, ai_row_ne hx.2, ui_row hI_1 hx.1]
theorem nI_pred1 (k : Nat) : nI (k + 1) + Int32.ofInt (-1) = nI k := nI_dec (k := 1) (by omega)
theorem big_above_loop (G : ai_G S F) {a n : Nat} (hb : ai_big a n) (hn31 : n < 2 ^ 31) {b n2 : Nat} (hb2 : ai_big b n2) {I : Nat → Nat → Int32} {t : Nat} (hn32 : n2 < 2 ^ 31) (h1 : I a 1 = nI t) (g1 : I b 1 = nI t) (hs : t ≤ n) (gs : t ≤ n2) (h3 : ai_OK I (a + 1) t) (g3 : ai_OK I (b + 1) t) :
    ∀ (k : Nat), k < t → (∀ j, k < j → j < t → ai_dg I (a + 1) j = ai_dg I (b + 1) j) → ai_Ev none 7 35 [some (.ref a), some (.ref b), some (.int (nI k))] [] (S, I, L, F) (ai_Pb S F I L (ai_val 2147483648 (ai_dg I (b + 1)) t < ai_val 2147483648 (ai_dg I (a + 1)) t)) := by
  intro k
  induction k with
  | zero =>
    intro hkt heq
    refine ev_iload_n 36 rfl d7_35 rfl ?_
    refine ev_if_F 81 39 (by decide) rfl (by decide) d7_36 ?_
    refine ev_aload_n 40 rfl d7_39 rfl ?_
    refine ev_getr 43 rfl 0 0 d7_40 rfl hb.2.2.2.1 (G.1 _ _ hb.1 hb.2.2.2.1 (by have := hb.2.2.2.2; omega)) (G.2 _ _ _ hb.2.1) ?_
    refine ev_iload_n 44 rfl d7_43 rfl ?_
    refine ev_iald_n (v := nI (ai_dg I (a + 1) 0)) 45 rfl d7_44 (by omega) (G.1 _ _ hb.2.2.1 (by omega) hb.2.2.2.2) (by omega) hn31 (h3 0 (by omega)).1 ?_
    refine ev_aload_n 46 rfl d7_45 rfl ?_
    refine ev_getr 49 rfl 0 0 d7_46 rfl hb2.2.2.2.1 (G.1 _ _ hb2.1 hb2.2.2.2.1 (by have := hb2.2.2.2.2; omega)) (G.2 _ _ _ hb2.2.1) ?_
    refine ev_iload_n 50 rfl d7_49 rfl ?_
    refine ev_iald_n (v := nI (ai_dg I (b + 1) 0)) 51 rfl d7_50 (by omega) (G.1 _ _ hb2.2.2.1 (by omega) hb2.2.2.2.2) (by omega) hn32 (g3 0 (by omega)).1 ?_
    have hx1 := (h3 0 (by omega)).2
    have hx2 := (g3 0 (by omega)).2
    refine ev_icmp 75 54 (by decide) rfl (cn_eq (by omega) (by omega)) d7_51 (fun hc_51 => ?_) (fun hc_51 => ?_)
    · refine ev_iinc (v := (-1)) 78 rfl d7_75 rfl (Nat.le_of_ble_eq_true rfl) (by decide) rfl ?_
      show ai_Ev _ _ _ [some (.ref a), some (.ref b), some (.int (-1))] _ _ _
      refine ev_goto 35 (by decide) d7_78 ?_
      refine ev_iload_n 36 rfl d7_35 rfl ?_
      refine ev_if_T 81 (by decide) (by decide) d7_36 ?_
      refine ev_iconst (v := nI 0) 82 rfl d7_81 (by decide) ?_
      refine ev_iret (Or.inr ⟨rfl, Or.inl (by decide)⟩) d7_82 ?_
      refine ⟨Or.inr ⟨?_, rfl⟩, rfl⟩
      rw [val_congr (d := ai_dg I (a + 1)) (e := ai_dg I (b + 1)) (n := t) (fun j hj => by
        rcases Nat.eq_zero_or_pos j with z | z
        · rw [z]; exact hc_51
        · exact heq j z hj)]
      exact Nat.lt_irrefl _
    · refine ev_aload_n 55 rfl d7_54 rfl ?_
      refine ev_getr 58 rfl 0 0 d7_55 rfl hb.2.2.2.1 (G.1 _ _ hb.1 hb.2.2.2.1 (by have := hb.2.2.2.2; omega)) (G.2 _ _ _ hb.2.1) ?_
      refine ev_iload_n 59 rfl d7_58 rfl ?_
      refine ev_iald_n (v := nI (ai_dg I (a + 1) 0)) 60 rfl d7_59 (by omega) (G.1 _ _ hb.2.2.1 (by omega) hb.2.2.2.2) (by omega) hn31 (h3 0 (by omega)).1 ?_
      refine ev_aload_n 61 rfl d7_60 rfl ?_
      refine ev_getr 64 rfl 0 0 d7_61 rfl hb2.2.2.2.1 (G.1 _ _ hb2.1 hb2.2.2.2.1 (by have := hb2.2.2.2.2; omega)) (G.2 _ _ _ hb2.2.1) ?_
      refine ev_iload_n 65 rfl d7_64 rfl ?_
      refine ev_iald_n (v := nI (ai_dg I (b + 1) 0)) 66 rfl d7_65 (by omega) (G.1 _ _ hb2.2.2.1 (by omega) hb2.2.2.2.2) (by omega) hn32 (g3 0 (by omega)).1 ?_
      have hx1 := (h3 0 (by omega)).2
      have hx2 := (g3 0 (by omega)).2
      refine ev_icmp 73 69 (by decide) rfl (cn_le (by omega) (by omega)) d7_66 (fun hc_66 => ?_) (fun hc_66 => ?_)
      · refine ev_iconst (v := nI 0) 74 rfl d7_73 (by decide) ?_
        refine ev_iret (Or.inr ⟨rfl, Or.inl (by decide)⟩) d7_74 ?_
        refine ⟨Or.inr ⟨?_, rfl⟩, rfl⟩
        have := val_gap (b := 2147483648) (d := ai_dg I (b + 1)) (e := ai_dg I (a + 1)) (n := t) (k := 0) (by omega) (fun j hj => (h3 j (by omega)).2) (by omega) (fun j hj1 hj2 => (heq j hj1 hj2).symm)
        omega
      · refine ev_iconst (v := nI 1) 70 rfl d7_69 (by decide) ?_
        refine ev_goto 74 (by decide) d7_70 ?_
        refine ev_iret (Or.inr ⟨rfl, Or.inr (by decide)⟩) d7_74 ?_
        refine ⟨Or.inl ⟨?_, rfl⟩, rfl⟩
        exact val_gap (k := 0) (by omega) (fun j hj => (g3 j (by omega)).2) (by omega) (fun j hj1 hj2 => heq j hj1 hj2)
  | succ k ih =>
    intro hkt heq
    refine ev_iload_n 36 rfl d7_35 rfl ?_
    refine ev_if_F 81 39 (by decide) rfl (c0_ltF (by omega)) d7_36 ?_
    refine ev_aload_n 40 rfl d7_39 rfl ?_
    refine ev_getr 43 rfl 0 0 d7_40 rfl hb.2.2.2.1 (G.1 _ _ hb.1 hb.2.2.2.1 (by have := hb.2.2.2.2; omega)) (G.2 _ _ _ hb.2.1) ?_
    refine ev_iload_n 44 rfl d7_43 rfl ?_
    refine ev_iald_n (v := nI (ai_dg I (a + 1) (k + 1))) 45 rfl d7_44 (by omega) (G.1 _ _ hb.2.2.1 (by omega) hb.2.2.2.2) (by omega) hn31 (h3 (k + 1) (by omega)).1 ?_
    refine ev_aload_n 46 rfl d7_45 rfl ?_
    refine ev_getr 49 rfl 0 0 d7_46 rfl hb2.2.2.2.1 (G.1 _ _ hb2.1 hb2.2.2.2.1 (by have := hb2.2.2.2.2; omega)) (G.2 _ _ _ hb2.2.1) ?_
    refine ev_iload_n 50 rfl d7_49 rfl ?_
    refine ev_iald_n (v := nI (ai_dg I (b + 1) (k + 1))) 51 rfl d7_50 (by omega) (G.1 _ _ hb2.2.2.1 (by omega) hb2.2.2.2.2) (by omega) hn32 (g3 (k + 1) (by omega)).1 ?_
    have hx1 := (h3 (k + 1) (by omega)).2
    have hx2 := (g3 (k + 1) (by omega)).2
    refine ev_icmp 75 54 (by decide) rfl (cn_eq (by omega) (by omega)) d7_51 (fun hc_51 => ?_) (fun hc_51 => ?_)
    · refine ev_iinc (v := nI k) 78 rfl d7_75 rfl (Nat.le_of_ble_eq_true rfl) (nI_pred1 k) rfl ?_
      show ai_Ev _ _ _ [some (.ref a), some (.ref b), some (.int (nI k))] _ _ _
      refine ev_goto 35 (by decide) d7_78 ?_
      exact ih (by omega) (fun j hj1 hj2 => by
        rcases Nat.lt_or_ge (k + 1) j with z | z
        · exact heq j z hj2
        · rw [show j = k + 1 by omega]; exact hc_51)
    · refine ev_aload_n 55 rfl d7_54 rfl ?_
      refine ev_getr 58 rfl 0 0 d7_55 rfl hb.2.2.2.1 (G.1 _ _ hb.1 hb.2.2.2.1 (by have := hb.2.2.2.2; omega)) (G.2 _ _ _ hb.2.1) ?_
      refine ev_iload_n 59 rfl d7_58 rfl ?_
      refine ev_iald_n (v := nI (ai_dg I (a + 1) (k + 1))) 60 rfl d7_59 (by omega) (G.1 _ _ hb.2.2.1 (by omega) hb.2.2.2.2) (by omega) hn31 (h3 (k + 1) (by omega)).1 ?_
      refine ev_aload_n 61 rfl d7_60 rfl ?_
      refine ev_getr 64 rfl 0 0 d7_61 rfl hb2.2.2.2.1 (G.1 _ _ hb2.1 hb2.2.2.2.1 (by have := hb2.2.2.2.2; omega)) (G.2 _ _ _ hb2.2.1) ?_
      refine ev_iload_n 65 rfl d7_64 rfl ?_
      refine ev_iald_n (v := nI (ai_dg I (b + 1) (k + 1))) 66 rfl d7_65 (by omega) (G.1 _ _ hb2.2.2.1 (by omega) hb2.2.2.2.2) (by omega) hn32 (g3 (k + 1) (by omega)).1 ?_
      have hx1 := (h3 (k + 1) (by omega)).2
      have hx2 := (g3 (k + 1) (by omega)).2
      refine ev_icmp 73 69 (by decide) rfl (cn_le (by omega) (by omega)) d7_66 (fun hc_66 => ?_) (fun hc_66 => ?_)
      · refine ev_iconst (v := nI 0) 74 rfl d7_73 (by decide) ?_
        refine ev_iret (Or.inr ⟨rfl, Or.inl (by decide)⟩) d7_74 ?_
        refine ⟨Or.inr ⟨?_, rfl⟩, rfl⟩
        have := val_gap (b := 2147483648) (d := ai_dg I (b + 1)) (e := ai_dg I (a + 1)) (n := t) (k := k + 1) (by omega) (fun j hj => (h3 j (by omega)).2) (by omega) (fun j hj1 hj2 => (heq j hj1 hj2).symm)
        omega
      · refine ev_iconst (v := nI 1) 70 rfl d7_69 (by decide) ?_
        refine ev_goto 74 (by decide) d7_70 ?_
        refine ev_iret (Or.inr ⟨rfl, Or.inr (by decide)⟩) d7_74 ?_
        refine ⟨Or.inl ⟨?_, rfl⟩, rfl⟩
        exact val_gap (k := k + 1) (by omega) (fun j hj => (g3 j (by omega)).2) (by omega) (fun j hj1 hj2 => heq j hj1 hj2)
theorem big_above (G : ai_G S F) {a n : Nat} (hb : ai_big a n) (hn31 : n < 2 ^ 31) {b n2 : Nat} (hb2 : ai_big b n2) (hn32 : n2 < 2 ^ 31) {I : Nat → Nat → Int32} {v u : Nat} (hA : ai_BG I a n v) (hB : ai_BG I b n2 u) :
    ai_Ev none 7 0 [some (.ref a), some (.ref b), none] [] (S, I, L, F) (ai_Pb S F I L (u < v)) := by
  obtain ⟨s, h1, h2, h3, rfl, h5⟩ := hA
  obtain ⟨t, g1, g2, g3, rfl, g5⟩ := hB
  by_cases hz : s = 0 ∧ t = 0
  · obtain ⟨rfl, rfl⟩ := hz
    refine ev_aload_n 1 rfl d7_0 rfl ?_
    refine ev_geti (v := nI 0) 4 rfl 0 1 d7_1 rfl hb.2.2.2.1 (G.1 _ _ hb.1 hb.2.2.2.1 (by have := hb.2.2.2.2; omega)) h1 ?_
    refine ev_aload_n 5 rfl d7_4 rfl ?_
    refine ev_geti (v := nI 0) 8 rfl 0 1 d7_5 rfl hb2.2.2.2.1 (G.1 _ _ hb2.1 hb2.2.2.2.1 (by have := hb2.2.2.2.2; omega)) g1 ?_
    refine ev_icmp_T 28 (by decide) (by decide) d7_8 ?_
    refine ev_aload_n 29 rfl d7_28 rfl ?_
    refine ev_geti (v := nI 0) 32 rfl 0 1 d7_29 rfl hb.2.2.2.1 (G.1 _ _ hb.1 hb.2.2.2.1 (by have := hb.2.2.2.2; omega)) h1 ?_
    refine ev_iconst (v := nI 1) 33 rfl d7_32 (by decide) ?_
    refine ev_isub (v := (-1)) 34 rfl d7_33 (by decide) ?_
    refine ev_store_in 35 rfl d7_34 (Nat.le_of_ble_eq_true rfl) rfl ?_
    show ai_Ev _ _ _ [some (.ref a), some (.ref b), some (.int (-1))] _ _ _
    refine ev_iload_n 36 rfl d7_35 rfl ?_
    refine ev_if_T 81 (by decide) (by decide) d7_36 ?_
    refine ev_iconst (v := nI 0) 82 rfl d7_81 (by decide) ?_
    refine ev_iret (Or.inr ⟨rfl, Or.inl (by decide)⟩) d7_82 ?_
    refine ⟨Or.inr ⟨?_, rfl⟩, rfl⟩
    simp only [ai_val]
    exact Nat.lt_irrefl 0
  refine ev_aload_n 1 rfl d7_0 rfl ?_
  refine ev_geti (v := nI s) 4 rfl 0 1 d7_1 rfl hb.2.2.2.1 (G.1 _ _ hb.1 hb.2.2.2.1 (by have := hb.2.2.2.2; omega)) h1 ?_
  refine ev_aload_n 5 rfl d7_4 rfl ?_
  refine ev_geti (v := nI t) 8 rfl 0 1 d7_5 rfl hb2.2.2.2.1 (G.1 _ _ hb2.1 hb2.2.2.2.1 (by have := hb2.2.2.2.2; omega)) g1 ?_
  refine ev_icmp 28 11 (by decide) rfl (cn_eq (by omega) (by omega)) d7_8 (fun hc_8 => ?_) (fun hc_8 => ?_)
  · refine ev_aload_n 29 rfl d7_28 rfl ?_
    refine ev_geti (v := nI s) 32 rfl 0 1 d7_29 rfl hb.2.2.2.1 (G.1 _ _ hb.1 hb.2.2.2.1 (by have := hb.2.2.2.2; omega)) h1 ?_
    refine ev_iconst (v := nI 1) 33 rfl d7_32 (by decide) ?_
    refine ev_isub (v := nI (s - 1)) 34 rfl d7_33 (pk_sub (by omega)) ?_
    refine ev_store_in 35 rfl d7_34 (Nat.le_of_ble_eq_true rfl) rfl ?_
    show ai_Ev _ _ _ [some (.ref a), some (.ref b), some (.int (nI (s - 1)))] _ _ _
    have hst : s = t := by omega
    subst hst
    rcases Nat.eq_zero_or_pos s with z | z
    · exact absurd z (by omega)
    · exact big_above_loop G hb hn31 hb2 hn32 h1 g1 h2 g2 h3 g3 (s - 1) (by omega) (fun j hj1 hj2 => by omega)
  · refine ev_aload_n 12 rfl d7_11 rfl ?_
    refine ev_geti (v := nI s) 15 rfl 0 1 d7_12 rfl hb.2.2.2.1 (G.1 _ _ hb.1 hb.2.2.2.1 (by have := hb.2.2.2.2; omega)) h1 ?_
    refine ev_aload_n 16 rfl d7_15 rfl ?_
    refine ev_geti (v := nI t) 19 rfl 0 1 d7_16 rfl hb2.2.2.2.1 (G.1 _ _ hb2.1 hb2.2.2.2.1 (by have := hb2.2.2.2.2; omega)) g1 ?_
    refine ev_icmp 26 22 (by decide) rfl (cn_le (by omega) (by omega)) d7_19 (fun hc_19 => ?_) (fun hc_19 => ?_)
    · refine ev_iconst (v := nI 0) 27 rfl d7_26 (by decide) ?_
      refine ev_iret (Or.inr ⟨rfl, Or.inl (by decide)⟩) d7_27 ?_
      refine ⟨Or.inr ⟨?_, rfl⟩, rfl⟩
      have := val_longer (b := 2147483648) (d := ai_dg I (b + 1)) (e := ai_dg I (a + 1)) (n := t) (m := s) (by omega) (by omega) (fun j hj => (h3 j hj).2) (g5 (by omega))
      omega
    · refine ev_iconst (v := nI 1) 23 rfl d7_22 (by decide) ?_
      refine ev_goto 27 (by decide) d7_23 ?_
      refine ev_iret (Or.inr ⟨rfl, Or.inr (by decide)⟩) d7_27 ?_
      refine ⟨Or.inl ⟨?_, rfl⟩, rfl⟩
      exact val_longer (by omega) (by omega) (fun j hj => (g3 j hj).2) (h5 (by omega))
end BIG
