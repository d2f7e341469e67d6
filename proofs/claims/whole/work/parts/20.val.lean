def ai_val (b : Nat) (d : Nat → Nat) : Nat → Nat
  | 0 => 0
  | n + 1 => ai_val b d n + d n * b ^ n
theorem val_succ (b : Nat) (d : Nat → Nat) (n : Nat) : ai_val b d (n + 1) = ai_val b d n + d n * b ^ n := rfl
def ai_dg (I : Nat → Nat → Int32) (x k : Nat) : Nat := (I x k).toNatClampNeg
theorem ai_dg_of {I : Nat → Nat → Int32} {x k v : Nat} (h : I x k = nI v) (hv : v < 2 ^ 31) : ai_dg I x k = v := by unfold ai_dg; rw [h]; exact nI_clamp hv
theorem val_congr {b : Nat} {d e : Nat → Nat} : ∀ {n : Nat}, (∀ k, k < n → d k = e k) → ai_val b d n = ai_val b e n := by
  intro n
  induction n with
  | zero => intro _; rfl
  | succ n ih =>
    intro h
    simp only [val_succ]
    rw [ih (fun k hk => h k (by omega)), h n (by omega)]
theorem val_lt {b : Nat} {d : Nat → Nat} : ∀ {n : Nat}, (∀ k, k < n → d k < b) → ai_val b d n < b ^ n := by
  intro n
  induction n with
  | zero => intro _; exact Nat.one_pos
  | succ n ih =>
    intro h
    simp only [val_succ]
    have h1 := ih (fun k hk => h k (by omega))
    have h2 := h n (by omega)
    have h3 : (d n + 1) * b ^ n ≤ b * b ^ n := Nat.mul_le_mul_right _ h2
    rw [Nat.pow_succ, Nat.mul_comm (b ^ n) b]
    rw [Nat.add_mul, Nat.one_mul] at h3
    omega
theorem val_ge {b : Nat} {d : Nat → Nat} (n : Nat) : d n * b ^ n ≤ ai_val b d (n + 1) := by rw [val_succ]; omega
theorem val_mono {b : Nat} {d : Nat → Nat} {n m : Nat} (h : n ≤ m) : ai_val b d n ≤ ai_val b d m := by
  induction m with
  | zero => rw [Nat.le_zero.mp h]; exact Nat.le_refl _
  | succ m ih =>
    rcases Nat.lt_or_ge n (m + 1) with q | q
    · exact Nat.le_trans (ih (by omega)) (by rw [val_succ]; omega)
    · rw [show n = m + 1 by omega]; exact Nat.le_refl _
theorem val_top0 {b : Nat} {d : Nat → Nat} {n : Nat} (h : d n = 0) : ai_val b d (n + 1) = ai_val b d n := by rw [val_succ, h, Nat.zero_mul]; rfl
theorem val_zeros {b : Nat} {d : Nat → Nat} {n m : Nat} (h : n ≤ m) (hz : ∀ k, n ≤ k → k < m → d k = 0) : ai_val b d m = ai_val b d n := by
  induction m with
  | zero => rw [Nat.le_zero.mp h]
  | succ m ih =>
    rcases Nat.lt_or_ge n (m + 1) with q | q
    · rw [val_top0 (hz m (by omega) (by omega)), ih (by omega) (fun k h1 h2 => hz k h1 (by omega))]
    · rw [show n = m + 1 by omega]
theorem val_gap {b : Nat} {d e : Nat → Nat} {n k : Nat} (hk : k < n) (hd : ∀ j, j < k → e j < b) (h : e k < d k) (hs : ∀ j, k < j → j < n → d j = e j) : ai_val b e n < ai_val b d n := by
  induction n with
  | zero => omega
  | succ n ih =>
    simp only [val_succ]
    rcases Nat.lt_or_ge k n with q | q
    · rw [hs n q (by omega)]
      have := ih q (fun j h1 h2 => hs j h1 (by omega))
      omega
    · have hkn : k = n := by omega
      subst hkn
      have h1 := val_lt (n := k) hd
      have h2 : (e k + 1) * b ^ k ≤ d k * b ^ k := Nat.mul_le_mul_right _ h
      rw [Nat.add_mul, Nat.one_mul] at h2
      omega
theorem val_longer {b : Nat} {d e : Nat → Nat} {n m : Nat} (hb : 1 < b) (hnm : m < n) (he : ∀ k, k < m → e k < b) (ht : 0 < d (n - 1)) : ai_val b e m < ai_val b d n := by
  have h1 := val_lt he
  have h2 := val_ge (b := b) (d := d) (n - 1)
  rw [show n - 1 + 1 = n by omega] at h2
  have h3 : b ^ m ≤ b ^ (n - 1) := Nat.pow_le_pow_right (by omega) (by omega)
  have h4 : 1 * b ^ (n - 1) ≤ d (n - 1) * b ^ (n - 1) := Nat.mul_le_mul_right _ ht
  omega
theorem val_size {b : Nat} {d : Nat → Nat} {n m : Nat} (hb : 1 < b) (ht : 0 < n → 0 < d (n - 1)) (h : ai_val b d n < b ^ m) : n ≤ m := by
  rcases Nat.lt_or_ge m n with q | q
  · have h2 := val_ge (b := b) (d := d) (n - 1)
    rw [show n - 1 + 1 = n by omega] at h2
    have h3 : b ^ m ≤ b ^ (n - 1) := Nat.pow_le_pow_right (by omega) (by omega)
    have h4 : 1 * b ^ (n - 1) ≤ d (n - 1) * b ^ (n - 1) := Nat.mul_le_mul_right _ (ht (by omega))
    omega
  · exact q
/-- one place of a sum with a carry -/
theorem val_carry {b x A P : Nat} : A + (x % b) * P + (x / b) * (P * b) = A + x * P := by
  have h : x % b + x / b * b = x := by
    have := Nat.mod_add_div x b
    rw [Nat.mul_comm] at this
    exact this
  have e : (x % b) * P + (x / b) * (P * b) = (x % b + x / b * b) * P := by
    rw [Nat.add_mul, Nat.mul_assoc, Nat.mul_comm P b]
  rw [Nat.add_assoc, e, h]
theorem val_snoc {b : Nat} {d e : Nat → Nat} {n v : Nat} (h1 : ∀ k, k < n → e k = d k) (h2 : e n = v) : ai_val b e (n + 1) = ai_val b d n + v * b ^ n := by
  show ai_val b e n + e n * b ^ n = _
  rw [val_congr h1, h2]
theorem ui_same {I I2 : Nat → Nat → Int32} {a k : Nat} {v : Int32} (h : I2 = ai_ui I a k v) : I2 a k = v := by rw [h]; simp [ai_ui]
theorem ui_other {I I2 : Nat → Nat → Int32} {a k : Nat} {v : Int32} (h : I2 = ai_ui I a k v) {x j : Nat} (hx : x ≠ a ∨ j ≠ k) : I2 x j = I x j := by
  rw [h]
  unfold ai_ui
  by_cases e : x = a
  · subst e
    have : j ≠ k := by rcases hx with q | q; exact absurd rfl q; exact q
    simp [this]
  · simp [e]
theorem ui_row {I I2 : Nat → Nat → Int32} {a k : Nat} {v : Int32} (h : I2 = ai_ui I a k v) {x : Nat} (hx : x ≠ a) : I2 x = I x := by rw [h]; simp [ai_ui, hx]
theorem dg_same {I I2 : Nat → Nat → Int32} {a k v : Nat} (h : I2 = ai_ui I a k (nI v)) (hv : v < 2 ^ 31) : ai_dg I2 a k = v := ai_dg_of (ui_same h) hv
theorem dg_other {I I2 : Nat → Nat → Int32} {a k : Nat} {v : Int32} (h : I2 = ai_ui I a k v) {x j : Nat} (hx : x ≠ a ∨ j ≠ k) : ai_dg I2 x j = ai_dg I x j := by unfold ai_dg; rw [ui_other h hx]
theorem lN_mask31 {n : Nat} (h : n < 2 ^ 64) : lN n &&& lN 2147483647 = lN (n % 2147483648) := wb_mask (k := 31) h (by omega)
theorem lN_shr31 {n : Nat} (h : n < 2 ^ 64) : ((lN n).toUInt64 >>> ((nI 31).toInt64.toUInt64 &&& Int64.toUInt64 63)).toInt64 = lN (n / 2147483648) := wb_shr (k := 31) h (by omega)
theorem lg_le0 {a : Nat} (h : a < 2 ^ 63) : ai_cond .le (lg_cmp (lN a) (lN 0)) 0 = true ↔ a = 0 := by
  rw [cz_le]
  unfold lg_cmp
  rcases Nat.eq_zero_or_pos a with q | q
  · subst q
    exact ⟨fun _ => rfl, fun _ => by decide⟩
  · have h1 : lN a > lN 0 := (pk_lLT (by omega) h).mpr q
    rw [if_pos h1]
    exact ⟨fun z => absurd z (by decide), fun z => by omega⟩
/-- a number in a row of limbs of 31 bits -/
def ai_BG (I : Nat → Nat → Int32) (a n v : Nat) : Prop := ∃ s, I a 1 = nI s ∧ s ≤ n ∧ (∀ k, k < s → I (a + 1) k = nI (ai_dg I (a + 1) k) ∧ ai_dg I (a + 1) k < 2147483648) ∧ ai_val 2147483648 (ai_dg I (a + 1)) s = v ∧ (0 < s → 0 < ai_dg I (a + 1) (s - 1))
theorem ai_BG.eq {I I2 : Nat → Nat → Int32} {a n v : Nat} (h : ai_BG I a n v) (h1 : I2 a = I a) (h2 : I2 (a + 1) = I (a + 1)) : ai_BG I2 a n v := by
  obtain ⟨s, g1, g2, g3, g4, g5⟩ := h
  have e : ai_dg I2 (a + 1) = ai_dg I (a + 1) := by funext k; unfold ai_dg; rw [h2]
  exact ⟨s, by rw [h1]; exact g1, g2, fun k hk => by rw [h2, e]; exact g3 k hk, by rw [e]; exact g4, by rw [e]; exact g5⟩
