section BIG2
variable {S : List (Nat × Nat)} {F : Nat → Nat → Option Nat} {L : Nat → Nat → Int64}
theorem ai_OK_putIn {I I2 : Nat → Nat → Int32} {x k v s : Nat} (h : I2 = ai_ui I x k (nI v)) (hv : v < 2147483648) (hok : ai_OK I x s) : ai_OK I2 x s := by
  intro j hj
  by_cases z : j = k
  · subst z
    rw [dg_same h hv]; exact ⟨ui_same h, hv⟩
  · rw [dg_other h (Or.inr z), ui_other h (Or.inr z)]; exact hok j hj
theorem big_fits {b s t v u : Nat} {d : Nat → Nat} (hb : 1 < b) (ht : 0 < s → 0 < d (s - 1)) (hv : ai_val b d s = v) (hle : v ≤ u) (hu : u < b ^ t) : s ≤ t := val_size hb ht (by rw [hv]; omega)

theorem big_add_loop (G : ai_G S F) {a n : Nat} (hb : ai_big a n) (hn31 : n < 2 ^ 31) {b n2 : Nat} (hb2 : ai_big b n2) (hn32 : n2 < 2 ^ 31) (hab : a ≠ b) {s t r : Nat} (hsn : s ≤ n) (htn : t ≤ n2) (hrn : r ≤ n) {I0 : Nat → Nat → Int32} (g1 : I0 b 1 = nI t) (gok : ai_OK I0 (b + 1) t) {D E : Nat → Nat} (hDD : ∀ k, (if k < s then ai_dg I0 (a + 1) k else 0) = D k) (hEE : ∀ k, (if k < t then ai_dg I0 (b + 1) k else 0) = E k) {Q : Option Value → ai_H → Prop}
    (hk : ∀ (I : Nat → Nat → Int32) (c : Nat) (u6 u7 : Option Value), ai_OK I (a + 1) r → c < 2147483648 → ai_val 2147483648 (ai_dg I (a + 1)) r + c * 2147483648 ^ r = ai_val 2147483648 D r + ai_val 2147483648 E r → (∀ x, x ≠ a + 1 → I x = I0 x) → ai_Ev none 5 78 [some (.ref a), some (.ref b), some (.long (lN c)), none, some (.int (nI r)), some (.int (nI r)), u6, u7] [] (S, I, L, F) Q) :
    ∀ (z k : Nat) (I : Nat → Nat → Int32) (c : Nat) (u6 u7 : Option Value), k + z = r → I a 1 = nI s → ai_OK I (a + 1) s → I (b + 1) = I0 (b + 1) → ai_OK I (a + 1) k → (∀ j, k ≤ j → I (a + 1) j = I0 (a + 1) j) → c < 2147483648 → ai_val 2147483648 (ai_dg I (a + 1)) k + c * 2147483648 ^ k = ai_val 2147483648 D k + ai_val 2147483648 E k → (∀ x, x ≠ a + 1 → I x = I0 x) →
    ai_Ev none 5 26 [some (.ref a), some (.ref b), some (.long (lN c)), none, some (.int (nI r)), some (.int (nI k)), u6, u7] [] (S, I, L, F) Q := by
  intro z
  induction z with
  | zero =>
    intro k I c u6 u7 hkr h1 hok hbr hokk hD hc hv hfr
    obtain rfl : k = r := by omega
    refine ev_iload 28 rfl d5_26 rfl ?_
    refine ev_iload 30 rfl d5_28 rfl ?_
    refine ev_icmp 78 33 (by decide) rfl (cn_ge (by omega) (by omega)) d5_30 (fun hc_30 => ?_) (fun hc_30 => absurd hc_30 (by omega))
    exact hk I c u6 u7 hokk hc hv hfr
  | succ z ih =>
    intro k I c u6 u7 hkr h1 hok hbr hokk hD hc hv hfr
    refine ev_iload 28 rfl d5_26 rfl ?_
    refine ev_iload 30 rfl d5_28 rfl ?_
    refine ev_icmp 78 33 (by decide) rfl (cn_ge (by omega) (by omega)) d5_30 (fun hc_30 => absurd hc_30 (by omega)) (fun hc_30 => ?_)
    have hk31 : k < 2 ^ 31 := by omega
    have g1 : I b 1 = nI t := by rw [hfr b (by have := big_ne hb hb2; omega)]; exact g1
    have gok : ai_OK I (b + 1) t := gok.row hbr
    have hda : (if k < s then ai_dg I (a + 1) k else 0) < 2147483648 := by
      split
      · exact (hok k (by omega)).2
      · omega
    have hdb : (if k < t then ai_dg I (b + 1) k else 0) < 2147483648 := by
      split
      · exact (gok k (by omega)).2
      · omega
    refine ev_lload_n 34 rfl d5_33 rfl ?_
    refine ev_aload_n 35 rfl d5_34 rfl ?_
    refine ev_iload 37 rfl d5_35 rfl ?_
    refine ev_cp1 40 rfl 8 d5_37 rfl rfl (by rw [G.1 _ _ hb.1 hb.2.2.2.1 (by have := hb.2.2.2.2; omega)]; rfl) hb.2.2.2.1 rfl (big_limbAt G hb hn31 h1 hsn hok hk31) ?_
    refine ev_i2l (v := lN (if k < s then ai_dg I (a + 1) k else 0)) 41 rfl d5_40 (nI_l (by omega)) ?_
    refine ev_ladd (v := lN (c + (if k < s then ai_dg I (a + 1) k else 0))) 42 rfl d5_41 (lN_add _ _) ?_
    refine ev_aload_n 43 rfl d5_42 rfl ?_
    refine ev_iload 45 rfl d5_43 rfl ?_
    refine ev_cp1 48 rfl 8 d5_45 rfl rfl (by rw [G.1 _ _ hb2.1 hb2.2.2.2.1 (by have := hb2.2.2.2.2; omega)]; rfl) hb2.2.2.2.1 rfl (big_limbAt G hb2 hn32 g1 htn gok hk31) ?_
    refine ev_i2l (v := lN (if k < t then ai_dg I (b + 1) k else 0)) 49 rfl d5_48 (nI_l (by omega)) ?_
    refine ev_ladd (v := lN ((c + (if k < s then ai_dg I (a + 1) k else 0)) + (if k < t then ai_dg I (b + 1) k else 0))) 50 rfl d5_49 (lN_add _ _) ?_
    refine ev_store_l 52 rfl d5_50 ⟨rfl, Nat.le_of_ble_eq_true rfl⟩ rfl ?_
    show ai_Ev _ _ _ [some (.ref a), some (.ref b), some (.long (lN c)), none, some (.int (nI r)), some (.int (nI k)), some (.long (lN ((c + (if k < s then ai_dg I (a + 1) k else 0)) + (if k < t then ai_dg I (b + 1) k else 0)))), none] _ _ _
    refine ev_aload_n 53 rfl d5_52 rfl ?_
    refine ev_getr 56 rfl 0 0 d5_53 rfl hb.2.2.2.1 (G.1 _ _ hb.1 hb.2.2.2.1 (by have := hb.2.2.2.2; omega)) (G.2 _ _ _ hb.2.1) ?_
    refine ev_iload 58 rfl d5_56 rfl ?_
    refine ev_lload 60 rfl d5_58 rfl ?_
    refine ev_ldc2 (v := lN 2147483647) 63 rfl d5_60 (by decide) ?_
    refine ev_land (v := lN (((c + (if k < s then ai_dg I (a + 1) k else 0)) + (if k < t then ai_dg I (b + 1) k else 0)) % 2147483648)) 64 rfl d5_63 (lN_mask31 (by omega)) ?_
    refine ev_l2i (v := nI (((c + (if k < s then ai_dg I (a + 1) k else 0)) + (if k < t then ai_dg I (b + 1) k else 0)) % 2147483648)) 65 rfl d5_64 (lN_i _) ?_
    obtain ⟨I_1, hI_1⟩ : ∃ z, z = ai_ui I (a + 1) k (nI (((c + (if k < s then ai_dg I (a + 1) k else 0)) + (if k < t then ai_dg I (b + 1) k else 0)) % 2147483648)) := ⟨_, rfl⟩
    refine ev_iast_n (I2 := I_1) 66 rfl d5_65 (by omega) (G.1 _ _ hb.2.2.1 (by omega) hb.2.2.2.2) (by omega) hn31 hI_1.symm ?_
    refine ev_lload 68 rfl d5_66 rfl ?_
    refine ev_bipush (v := nI 31) 70 rfl d5_68 (by decide) ?_
    refine ev_lushr (v := lN (((c + (if k < s then ai_dg I (a + 1) k else 0)) + (if k < t then ai_dg I (b + 1) k else 0)) / 2147483648)) 71 rfl d5_70 (lN_shr31 (by omega)) ?_
    refine ev_store_ln 72 rfl d5_71 (Nat.le_of_ble_eq_true rfl) rfl ?_
    show ai_Ev _ _ _ [some (.ref a), some (.ref b), some (.long (lN (((c + (if k < s then ai_dg I (a + 1) k else 0)) + (if k < t then ai_dg I (b + 1) k else 0)) / 2147483648))), none, some (.int (nI r)), some (.int (nI k)), some (.long (lN ((c + (if k < s then ai_dg I (a + 1) k else 0)) + (if k < t then ai_dg I (b + 1) k else 0)))), none] _ _ _
    refine ev_iinc (v := nI (k + 1)) 75 rfl d5_72 rfl (Nat.le_of_ble_eq_true rfl) (nI_add _ 1) rfl ?_
    show ai_Ev _ _ _ [some (.ref a), some (.ref b), some (.long (lN (((c + (if k < s then ai_dg I (a + 1) k else 0)) + (if k < t then ai_dg I (b + 1) k else 0)) / 2147483648))), none, some (.int (nI r)), some (.int (nI (k + 1))), some (.long (lN ((c + (if k < s then ai_dg I (a + 1) k else 0)) + (if k < t then ai_dg I (b + 1) k else 0)))), none] _ _ _
    refine ev_goto 26 (by decide) d5_75 ?_
    obtain ⟨x, hxe⟩ : ∃ x, x = c + (if k < s then ai_dg I (a + 1) k else 0) + (if k < t then ai_dg I (b + 1) k else 0) := ⟨_, rfl⟩
    rw [← hxe] at hI_1 ⊢
    have hx4 : x < 6442450944 := by rw [hxe]; omega
    have hq : x / 2147483648 < 2147483648 := by omega
    have hr9 : x % 2147483648 < 2147483648 := Nat.mod_lt _ (by omega)
    have hne := big_ne hb hb2
    refine ih (k + 1) I_1 _ _ _ (by omega) (by rw [ui_other hI_1 (Or.inl (by omega))]; exact h1) (ai_OK_putIn hI_1 hr9 hok) (by rw [ui_row hI_1 (by omega)]; exact hbr) (ai_OK_put hI_1 hr9 hokk) ?_ hq ?_ ?_
    · intro j hj1
      rw [ui_other hI_1 (Or.inr (by omega))]
      exact hD j (by omega)
    · have ea : (if k < s then ai_dg I (a + 1) k else 0) = D k := by
        have : ai_dg I (a + 1) k = ai_dg I0 (a + 1) k := by unfold ai_dg; rw [hD k (Nat.le_refl _)]
        rw [this, hDD]
      have eb : (if k < t then ai_dg I (b + 1) k else 0) = E k := by
        have : ai_dg I (b + 1) k = ai_dg I0 (b + 1) k := by unfold ai_dg; rw [hbr]
        rw [this, hEE]
      rw [ea, eb] at hxe
      rw [val_put hI_1 hr9, val_succ, val_succ, Nat.pow_succ, val_carry]
      have e2 : x * 2147483648 ^ k = c * 2147483648 ^ k + D k * 2147483648 ^ k + E k * 2147483648 ^ k := by rw [hxe, Nat.add_mul, Nat.add_mul]
      omega
    · intro z hz
      rw [ui_row hI_1 hz]
      exact hfr z hz
theorem val_part {b s r : Nat} {d D : Nat → Nat} (hD : ∀ k, (if k < s then d k else 0) = D k) (hsr : s ≤ r) : ai_val b D r = ai_val b d s := by
  rw [val_zeros (n := s) hsr (fun k h1 h2 => by rw [← hD k, if_neg (by omega)])]
  exact val_congr (fun k hk => by rw [← hD k, if_pos hk])
theorem big_size_le {I : Nat → Nat → Int32} {x s m v : Nat} (hv : ai_val 2147483648 (ai_dg I x) s = v) (hp : 0 < s → 0 < ai_dg I x (s - 1)) (h : v < 2147483648 ^ m) : s ≤ m := val_size (b := 2147483648) (by omega) hp (by rw [hv]; exact h)
theorem big_add (G : ai_G S F) {a n : Nat} (hb : ai_big a n) (hn31 : n < 2 ^ 31) {b n2 : Nat} (hb2 : ai_big b n2) (hn32 : n2 < 2 ^ 31) (hab : a ≠ b) {I0 : Nat → Nat → Int32} {v u : Nat} (hA : ai_BG I0 a n v) (hB : ai_BG I0 b n2 u) (hV : v + u < 2147483648 ^ n) :
    ai_Ev none 5 0 [some (.ref a), some (.ref b), none, none, none, none, none, none] [] (S, I0, L, F) (ai_Pu S F L (fun I2 => ai_BG I2 a n (v + u) ∧ ai_fr2 a I0 I2)) := by
  obtain ⟨s, h1, hsn, hok, hv, htop⟩ := hA
  obtain ⟨t, g1, htn, gok, hu, gtop⟩ := hB
  have htn1 : t ≤ n := big_size_le hu gtop (by omega)
  obtain ⟨r, hrd⟩ : ∃ r, r = if s < t then t else s := ⟨_, rfl⟩
  have hsr : s ≤ r := by rw [hrd]; split <;> omega
  have htr : t ≤ r := by rw [hrd]; split <;> omega
  have hrn : r ≤ n := by rw [hrd]; split <;> omega
  have hrmax : (if nI s < nI t then nI t else nI s) = nI r := by
    by_cases z : s < t
    · rw [if_pos (nI_lt z (by omega)), hrd, if_pos z]
    · rw [if_neg (nI_nlt (by omega) (by omega)), hrd, if_neg z]
  obtain ⟨D, hDD⟩ : ∃ D : Nat → Nat, ∀ k, (if k < s then ai_dg I0 (a + 1) k else 0) = D k := ⟨_, fun _ => rfl⟩
  obtain ⟨E, hEE⟩ : ∃ E : Nat → Nat, ∀ k, (if k < t then ai_dg I0 (b + 1) k else 0) = E k := ⟨_, fun _ => rfl⟩
  refine ev_lconst (v := lN 0) 1 rfl d5_0 (by decide) ?_
  refine ev_store_ln 2 rfl d5_1 (Nat.le_of_ble_eq_true rfl) rfl ?_
  show ai_Ev _ _ _ [some (.ref a), some (.ref b), some (.long (lN 0)), none, none, none, none, none] _ _ _
  refine ev_aload_n 3 rfl d5_2 rfl ?_
  refine ev_geti (v := nI s) 6 rfl 0 1 d5_3 rfl hb.2.2.2.1 (G.1 _ _ hb.1 hb.2.2.2.1 (by have := hb.2.2.2.2; omega)) h1 ?_
  refine ev_aload_n 7 rfl d5_6 rfl ?_
  refine ev_geti (v := nI t) 10 rfl 0 1 d5_7 rfl hb2.2.2.2.1 (G.1 _ _ hb2.1 hb2.2.2.2.1 (by have := hb2.2.2.2.2; omega)) g1 ?_
  refine ev_aload_n 11 rfl d5_10 rfl ?_
  refine ev_getr 14 rfl 0 0 d5_11 rfl hb.2.2.2.1 (G.1 _ _ hb.1 hb.2.2.2.1 (by have := hb.2.2.2.2; omega)) (G.2 _ _ _ hb.2.1) ?_
  refine ev_alen (v := nI n) 15 rfl d5_14 (by omega) (by decide) (G.1 _ _ hb.2.2.1 (by omega) hb.2.2.2.2) rfl ?_
  refine ev_min (v := nI t) 18 rfl d5_15 rfl rfl (if_neg (nI_nlt htn1 (by omega))) ?_
  refine ev_max (v := nI r) 21 rfl d5_18 rfl rfl hrmax ?_
  refine ev_store_i 23 rfl d5_21 ⟨rfl, Nat.le_of_ble_eq_true rfl⟩ rfl ?_
  show ai_Ev _ _ _ [some (.ref a), some (.ref b), some (.long (lN 0)), none, some (.int (nI r)), none, none, none] _ _ _
  refine ev_iconst (v := nI 0) 24 rfl d5_23 (by decide) ?_
  refine ev_store_i 26 rfl d5_24 ⟨rfl, Nat.le_of_ble_eq_true rfl⟩ rfl ?_
  show ai_Ev _ _ _ [some (.ref a), some (.ref b), some (.long (lN 0)), none, some (.int (nI r)), some (.int (nI 0)), none, none] _ _ _
  refine big_add_loop G hb hn31 hb2 hn32 hab (D := D) (E := E) (I0 := I0) hsn htn hrn g1 gok hDD hEE ?_ r 0 I0 0 none none (by omega) h1 hok rfl (fun j hj => absurd hj (by omega)) (fun _ _ => rfl) (by omega) (by simp [ai_val]) (fun _ _ => rfl)
  intro I c u6 u7 g2 g3 g4 g5
  refine ev_aload_n 79 rfl d5_78 rfl ?_
  refine ev_iload 81 rfl d5_79 rfl ?_
  obtain ⟨I_1, hI_1⟩ : ∃ z, z = ai_ui I a 1 (nI r) := ⟨_, rfl⟩
  refine ev_puti (I2 := I_1) 84 rfl 0 1 d5_81 rfl hb.2.2.2.1 (G.1 _ _ hb.1 hb.2.2.2.1 (by have := hb.2.2.2.2; omega)) (fun h => absurd h (by decide)) hI_1.symm ?_
  have hrow : I_1 (a + 1) = I (a + 1) := ui_row hI_1 (by omega)
  have hok1 : ai_OK I_1 (a + 1) r := g2.row hrow
  have hv1 : ai_val 2147483648 (ai_dg I_1 (a + 1)) r + c * 2147483648 ^ r = v + u := by rw [dg_row hrow, g4, val_part hDD hsr, val_part hEE htr, hv, hu]
  refine ev_aload_n 85 rfl d5_84 rfl ?_
  refine ev_lload_n 86 rfl d5_85 rfl ?_
  refine ev_cu1 89 rfl 10 d5_86 rfl rfl (by rw [G.1 _ _ hb.1 hb.2.2.2.1 (by have := hb.2.2.2.2; omega)]; rfl) hb.2.2.2.1 rfl (big_push G hb hn31 (s := r) (ui_same hI_1) hrn (by omega)) (fun I_2 hr_86 => ?_)
  obtain ⟨hp0, hp1, hp2⟩ := hr_86
  refine ev_vret rfl d5_89 ?_
  obtain ⟨q, q1, q2, q3, q4, q5⟩ := ai_pushed hrn hok1 g3 hv1 hV hp1 hp2
  refine ⟨rfl, _, rfl, ⟨q, q1, q2, q3, q4, fun hq => ?_⟩, fun x hx => by rw [hp0 x hx, ui_row hI_1 hx.1, g5 x hx.2]⟩
  rcases q5 with ⟨z1, z2, z3⟩ | ⟨z1, z2, z3⟩
  · rcases Nat.eq_zero_or_pos (ai_dg I_2 (a + 1) (q - 1)) with w | w
    · exfalso
      have e1 : ai_val 2147483648 (ai_dg I_2 (a + 1)) (q - 1) = v + u := by
        rw [← q4]
        conv => rhs; rw [show q = (q - 1) + 1 by omega]
        exact (val_top0 w).symm
      have e2 := val_lt (b := 2147483648) (d := ai_dg I_2 (a + 1)) (n := q - 1) (fun j hj => (q3 j (by omega)).2)
      have e3 := big_size_le hv htop (m := q - 1) (by omega)
      have e4 := big_size_le hu gtop (m := q - 1) (by omega)
      have hrst : r = s ∨ r = t := by rw [hrd]; split <;> omega
      omega
    · exact w
  · rw [show q - 1 = r by omega, z3]; exact z1
theorem sub_digit {d e r : Nat} (hd : d < 2147483648) (he : e < 2147483648) (hr : r ≤ 1) : ∃ x r2, r2 ≤ 1 ∧ x < 2147483648 ∧ (nI d - nI e - nI r) &&& nI 2147483647 = nI x ∧ d + 2147483648 * r2 = x + e + r ∧ ((0 : Int32) ≤ nI d - nI e - nI r ↔ r2 = 0) := by
  by_cases h : e + r ≤ d
  · have e1 : nI d - nI e - nI r = nI (d - e - r) := by rw [pk_sub (by omega), pk_sub (by omega)]
    refine ⟨d - e - r, 0, by omega, by omega, ?_, by omega, ?_⟩
    · rw [e1]; exact ai_and31 (by omega)
    · rw [e1]; exact ⟨fun _ => rfl, fun _ => nI_pos' (by omega)⟩
  · have e1 : nI d - nI e - nI r = nI (d + 4294967296 - e - r) := by
      have z : nI (d + 4294967296) = nI d := by
        unfold nI
        rw [Int32.ofNat_add]
        simp
      rw [← z, pk_sub (by omega), pk_sub (by omega)]
    have hx := fa_mask (d + 4294967296 - e - r) 31
    refine ⟨d + 2147483648 - e - r, 1, by omega, by omega, ?_, by omega, ?_⟩
    · rw [e1]
      have e2 : (d + 4294967296 - e - r) % 2 ^ 31 = d + 2147483648 - e - r := by omega
      rw [e2] at hx
      exact hx
    · rw [e1]
      refine ⟨fun q => ?_, fun q => by omega⟩
      exfalso
      rw [Int32.le_iff_toInt_le] at q
      have e3 : (nI (d + 4294967296 - e - r)).toInt < 0 := by
        unfold nI
        rw [Int32.toInt_ofNat']
        rw [Int.bmod_def]
        have e4 : ((d + 4294967296 - e - r : Nat) : Int) % (4294967296 : Nat) = ((d + 4294967296 - e - r : Nat) : Int) := Int.emod_eq_of_lt (by omega) (by omega)
        simp only [Int32.size]
        rw [e4]
        split <;> omega
      have e5 : (0 : Int32).toInt = 0 := by decide
      omega
theorem big_sub_loop (G : ai_G S F) {a n : Nat} (hb : ai_big a n) (hn31 : n < 2 ^ 31) {b n2 : Nat} (hb2 : ai_big b n2) (hn32 : n2 < 2 ^ 31) (hab : a ≠ b) {s t : Nat} (hsn : s ≤ n) (htn : t ≤ n2) {I0 : Nat → Nat → Int32} (g1 : I0 b 1 = nI t) (gok : ai_OK I0 (b + 1) t) {E : Nat → Nat} (hEE : ∀ k, (if k < t then ai_dg I0 (b + 1) k else 0) = E k) {Q : Option Value → ai_H → Prop}
    (hk : ∀ (I : Nat → Nat → Int32) (c : Nat) (u4 : Option Value), I a 1 = nI s → ai_OK I (a + 1) s → c ≤ 1 → ai_val 2147483648 (ai_dg I (a + 1)) s + ai_val 2147483648 E s = ai_val 2147483648 (ai_dg I0 (a + 1)) s + c * 2147483648 ^ s → (∀ x, x ≠ a + 1 → I x = I0 x) → ai_Ev none 6 56 [some (.ref a), some (.ref b), some (.int (nI c)), some (.int (nI s)), u4] [] (S, I, L, F) Q) :
    ∀ (z k : Nat) (I : Nat → Nat → Int32) (c : Nat) (u4 : Option Value), k + z = s → I a 1 = nI s → ai_OK I (a + 1) s → I (b + 1) = I0 (b + 1) → (∀ j, k ≤ j → I (a + 1) j = I0 (a + 1) j) → c ≤ 1 → ai_val 2147483648 (ai_dg I (a + 1)) k + ai_val 2147483648 E k = ai_val 2147483648 (ai_dg I0 (a + 1)) k + c * 2147483648 ^ k → (∀ x, x ≠ a + 1 → I x = I0 x) →
    ai_Ev none 6 4 [some (.ref a), some (.ref b), some (.int (nI c)), some (.int (nI k)), u4] [] (S, I, L, F) Q := by
  intro z
  induction z with
  | zero =>
    intro k I c u4 hkr h1 hok hbr hD hc hv hfr
    obtain rfl : k = s := by omega
    refine ev_iload_n 5 rfl d6_4 rfl ?_
    refine ev_aload_n 6 rfl d6_5 rfl ?_
    refine ev_geti (v := nI k) 9 rfl 0 1 d6_6 rfl hb.2.2.2.1 (G.1 _ _ hb.1 hb.2.2.2.1 (by have := hb.2.2.2.2; omega)) h1 ?_
    refine ev_icmp 56 12 (by decide) rfl (cn_ge (by omega) (by omega)) d6_9 (fun hc_9 => ?_) (fun hc_9 => absurd hc_9 (by omega))
    exact hk I c u4 h1 hok hc hv hfr
  | succ z ih =>
    intro k I c u4 hkr h1 hok hbr hD hc hv hfr
    refine ev_iload_n 5 rfl d6_4 rfl ?_
    refine ev_aload_n 6 rfl d6_5 rfl ?_
    refine ev_geti (v := nI s) 9 rfl 0 1 d6_6 rfl hb.2.2.2.1 (G.1 _ _ hb.1 hb.2.2.2.1 (by have := hb.2.2.2.2; omega)) h1 ?_
    refine ev_icmp 56 12 (by decide) rfl (cn_ge (by omega) (by omega)) d6_9 (fun hc_9 => absurd hc_9 (by omega)) (fun hc_9 => ?_)
    have hk31 : k < 2 ^ 31 := by omega
    have hne := big_ne hb hb2
    have g1 : I b 1 = nI t := by rw [hfr b (by omega)]; exact g1
    have gok : ai_OK I (b + 1) t := gok.row hbr
    obtain ⟨e, hee⟩ : ∃ e, e = if k < t then ai_dg I (b + 1) k else 0 := ⟨_, rfl⟩
    have hel : e < 2147483648 := by
      rw [hee]
      split
      · exact (gok k (by omega)).2
      · omega
    obtain ⟨x, r2, hr2, hx2, hx3, hx4, hx5⟩ := sub_digit (hok k (by omega)).2 hel hc
    rw [hee] at hx3 hx5
    refine ev_aload_n 13 rfl d6_12 rfl ?_
    refine ev_getr 16 rfl 0 0 d6_13 rfl hb.2.2.2.1 (G.1 _ _ hb.1 hb.2.2.2.1 (by have := hb.2.2.2.2; omega)) (G.2 _ _ _ hb.2.1) ?_
    refine ev_iload_n 17 rfl d6_16 rfl ?_
    refine ev_iald_n (v := nI (ai_dg I (a + 1) k)) 18 rfl d6_17 (by omega) (G.1 _ _ hb.2.2.1 (by omega) hb.2.2.2.2) (by omega) hn31 (hok k (by omega)).1 ?_
    refine ev_aload_n 19 rfl d6_18 rfl ?_
    refine ev_iload_n 20 rfl d6_19 rfl ?_
    refine ev_cp1 23 rfl 8 d6_20 rfl rfl (by rw [G.1 _ _ hb2.1 hb2.2.2.2.1 (by have := hb2.2.2.2.2; omega)]; rfl) hb2.2.2.2.1 rfl (big_limbAt G hb2 hn32 g1 htn gok hk31) ?_
    refine ev_isub (v := nI (ai_dg I (a + 1) k) - nI (if k < t then ai_dg I (b + 1) k else 0)) 24 rfl d6_23 rfl ?_
    refine ev_iload_n 25 rfl d6_24 rfl ?_
    refine ev_isub (v := nI (ai_dg I (a + 1) k) - nI (if k < t then ai_dg I (b + 1) k else 0) - nI c) 26 rfl d6_25 rfl ?_
    refine ev_store_i 28 rfl d6_26 ⟨rfl, Nat.le_of_ble_eq_true rfl⟩ rfl ?_
    show ai_Ev _ _ _ [some (.ref a), some (.ref b), some (.int (nI c)), some (.int (nI k)), some (.int (nI (ai_dg I (a + 1) k) - nI (if k < t then ai_dg I (b + 1) k else 0) - nI c))] _ _ _
    refine ev_aload_n 29 rfl d6_28 rfl ?_
    refine ev_getr 32 rfl 0 0 d6_29 rfl hb.2.2.2.1 (G.1 _ _ hb.1 hb.2.2.2.1 (by have := hb.2.2.2.2; omega)) (G.2 _ _ _ hb.2.1) ?_
    refine ev_iload_n 33 rfl d6_32 rfl ?_
    refine ev_iload 35 rfl d6_33 rfl ?_
    refine ev_ldc (v := nI 2147483647) 37 rfl d6_35 (by decide) ?_
    refine ev_iand (v := nI x) 38 rfl d6_37 hx3 ?_
    obtain ⟨I_1, hI_1⟩ : ∃ z, z = ai_ui I (a + 1) k (nI x) := ⟨_, rfl⟩
    refine ev_iast_n (I2 := I_1) 39 rfl d6_38 (by omega) (G.1 _ _ hb.2.2.1 (by omega) hb.2.2.2.2) (by omega) hn31 hI_1.symm ?_
    refine ev_iload 41 rfl d6_39 rfl ?_
    refine ev_if 48 44 (by decide) rfl (cz_ge.trans hx5) d6_41 (fun hc_41 => ?_) (fun hc_41 => ?_)
    · refine ev_iconst (v := nI 0) 49 rfl d6_48 (by decide) ?_
      refine ev_store_in 50 rfl d6_49 (Nat.le_of_ble_eq_true rfl) rfl ?_
      show ai_Ev _ _ _ [some (.ref a), some (.ref b), some (.int (nI 0)), some (.int (nI k)), some (.int (nI (ai_dg I (a + 1) k) - nI (if k < t then ai_dg I (b + 1) k else 0) - nI c))] _ _ _
      refine ev_iinc (v := nI (k + 1)) 53 rfl d6_50 rfl (Nat.le_of_ble_eq_true rfl) (nI_add _ 1) rfl ?_
      show ai_Ev _ _ _ [some (.ref a), some (.ref b), some (.int (nI 0)), some (.int (nI (k + 1))), some (.int (nI (ai_dg I (a + 1) k) - nI (if k < t then ai_dg I (b + 1) k else 0) - nI c))] _ _ _
      refine ev_goto 4 (by decide) d6_53 ?_
      have hr20 : r2 = 0 := by omega
      subst hr20
      refine ih (k + 1) I_1 0 _ (by omega) (by rw [ui_other hI_1 (Or.inl (by omega))]; exact h1) (ai_OK_putIn hI_1 hx2 hok) (by rw [ui_row hI_1 (by omega)]; exact hbr) ?_ hr2 ?_ ?_
      · intro j hj1
        rw [ui_other hI_1 (Or.inr (by omega))]
        exact hD j (by omega)
      · have eb : e = E k := by
          rw [hee]
          have : ai_dg I (b + 1) k = ai_dg I0 (b + 1) k := by unfold ai_dg; rw [hbr]
          rw [this, hEE]
        have ea : ai_dg I (a + 1) k = ai_dg I0 (a + 1) k := by unfold ai_dg; rw [hD k (Nat.le_refl _)]
        rw [val_put hI_1 hx2, val_succ, val_succ, Nat.pow_succ]
        have e2 : (ai_dg I0 (a + 1) k + 2147483648 * 0) * 2147483648 ^ k = x * 2147483648 ^ k + E k * 2147483648 ^ k + c * 2147483648 ^ k := by rw [← ea, hx4, eb, Nat.add_mul, Nat.add_mul]
        rw [Nat.add_mul] at e2
        have e3 : 0 * (2147483648 ^ k * 2147483648) = 2147483648 * 0 * 2147483648 ^ k := by rw [Nat.mul_comm (2147483648 ^ k), ← Nat.mul_assoc, Nat.mul_comm 0]
        omega
      · intro z hz
        rw [ui_row hI_1 hz]
        exact hfr z hz
    · refine ev_iconst (v := nI 1) 45 rfl d6_44 (by decide) ?_
      refine ev_goto 49 (by decide) d6_45 ?_
      refine ev_store_in 50 rfl d6_49 (Nat.le_of_ble_eq_true rfl) rfl ?_
      show ai_Ev _ _ _ [some (.ref a), some (.ref b), some (.int (nI 1)), some (.int (nI k)), some (.int (nI (ai_dg I (a + 1) k) - nI (if k < t then ai_dg I (b + 1) k else 0) - nI c))] _ _ _
      refine ev_iinc (v := nI (k + 1)) 53 rfl d6_50 rfl (Nat.le_of_ble_eq_true rfl) (nI_add _ 1) rfl ?_
      show ai_Ev _ _ _ [some (.ref a), some (.ref b), some (.int (nI 1)), some (.int (nI (k + 1))), some (.int (nI (ai_dg I (a + 1) k) - nI (if k < t then ai_dg I (b + 1) k else 0) - nI c))] _ _ _
      refine ev_goto 4 (by decide) d6_53 ?_
      have hr20 : r2 = 1 := by omega
      subst hr20
      refine ih (k + 1) I_1 1 _ (by omega) (by rw [ui_other hI_1 (Or.inl (by omega))]; exact h1) (ai_OK_putIn hI_1 hx2 hok) (by rw [ui_row hI_1 (by omega)]; exact hbr) ?_ hr2 ?_ ?_
      · intro j hj1
        rw [ui_other hI_1 (Or.inr (by omega))]
        exact hD j (by omega)
      · have eb : e = E k := by
          rw [hee]
          have : ai_dg I (b + 1) k = ai_dg I0 (b + 1) k := by unfold ai_dg; rw [hbr]
          rw [this, hEE]
        have ea : ai_dg I (a + 1) k = ai_dg I0 (a + 1) k := by unfold ai_dg; rw [hD k (Nat.le_refl _)]
        rw [val_put hI_1 hx2, val_succ, val_succ, Nat.pow_succ]
        have e2 : (ai_dg I0 (a + 1) k + 2147483648 * 1) * 2147483648 ^ k = x * 2147483648 ^ k + E k * 2147483648 ^ k + c * 2147483648 ^ k := by rw [← ea, hx4, eb, Nat.add_mul, Nat.add_mul]
        rw [Nat.add_mul] at e2
        have e3 : 1 * (2147483648 ^ k * 2147483648) = 2147483648 * 1 * 2147483648 ^ k := by rw [Nat.mul_comm (2147483648 ^ k), ← Nat.mul_assoc, Nat.mul_comm 1]
        omega
      · intro z hz
        rw [ui_row hI_1 hz]
        exact hfr z hz
theorem big_sub (G : ai_G S F) {a n : Nat} (hb : ai_big a n) (hn31 : n < 2 ^ 31) {b n2 : Nat} (hb2 : ai_big b n2) (hn32 : n2 < 2 ^ 31) (hab : a ≠ b) {I0 : Nat → Nat → Int32} {v u : Nat} (hA : ai_BG I0 a n v) (hB : ai_BG I0 b n2 u) (hle : u ≤ v) :
    ai_Ev none 6 0 [some (.ref a), some (.ref b), none, none, none] [] (S, I0, L, F) (ai_Pu S F L (fun I2 => ai_BG I2 a n (v - u) ∧ ai_fr2 a I0 I2)) := by
  obtain ⟨s, h1, hsn, hok, hv, htop⟩ := hA
  obtain ⟨t, g1, htn, gok, hu, gtop⟩ := hB
  have hts : t ≤ s := big_size_le hu gtop (by have := val_lt (b := 2147483648) (d := ai_dg I0 (a + 1)) (n := s) (fun j hj => (hok j hj).2); omega)
  obtain ⟨E, hEE⟩ : ∃ E : Nat → Nat, ∀ k, (if k < t then ai_dg I0 (b + 1) k else 0) = E k := ⟨_, fun _ => rfl⟩
  refine ev_iconst (v := nI 0) 1 rfl d6_0 (by decide) ?_
  refine ev_store_in 2 rfl d6_1 (Nat.le_of_ble_eq_true rfl) rfl ?_
  show ai_Ev _ _ _ [some (.ref a), some (.ref b), some (.int (nI 0)), none, none] _ _ _
  refine ev_iconst (v := nI 0) 3 rfl d6_2 (by decide) ?_
  refine ev_store_in 4 rfl d6_3 (Nat.le_of_ble_eq_true rfl) rfl ?_
  show ai_Ev _ _ _ [some (.ref a), some (.ref b), some (.int (nI 0)), some (.int (nI 0)), none] _ _ _
  refine big_sub_loop G hb hn31 hb2 hn32 hab (E := E) (I0 := I0) hsn htn g1 gok hEE ?_ s 0 I0 0 none (by omega) h1 hok rfl (fun _ _ => rfl) (by omega) (by simp [ai_val]) (fun _ _ => rfl)
  intro I c u4 g2 g3 g4 g5 g6
  have htf : ai_fr2 a I0 I := fun x hx => g6 x hx.2
  have hfin : ai_val 2147483648 (ai_dg I (a + 1)) s = v - u := by
    rw [val_part hEE hts, hu, hv] at g5
    have e1 := val_lt (b := 2147483648) (d := ai_dg I (a + 1)) (n := s) (fun j hj => (g3 j hj).2)
    rcases Nat.eq_zero_or_pos c with q | q
    · rw [q, Nat.zero_mul] at g5; omega
    · have : c = 1 := by omega
      rw [this, Nat.one_mul] at g5; omega
  refine ev_aload_n 57 rfl d6_56 rfl ?_
  refine ev_cu0 60 rfl 11 d6_57 rfl rfl (by rw [G.1 _ _ hb.1 hb.2.2.2.1 (by have := hb.2.2.2.2; omega)]; rfl) hb.2.2.2.1 rfl (big_trim0 G hb hn31 (I0 := I0) (v := v - u) s g2 hsn g3 htf hfin) (fun I_1 hr_57 => ?_)
  refine ev_vret rfl d6_60 ?_
  exact ⟨rfl, _, rfl, hr_57⟩
end BIG2
