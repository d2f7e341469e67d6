section BND
variable {σ : ai_S}
theorem amgm (a b : Nat) : 4 * (a * b) ≤ (a + b) * (a + b) := by
  rcases Nat.le_total a b with h | h
  · obtain ⟨d, rfl⟩ := Nat.le.dest h
    have e : d * a = a * d := Nat.mul_comm d a
    simp only [Nat.mul_add, Nat.add_mul, e]
    omega
  · obtain ⟨d, rfl⟩ := Nat.le.dest h
    have e : d * b = b * d := Nat.mul_comm d b
    simp only [Nat.mul_add, Nat.add_mul, e]
    omega
theorem four_le {a b c d : Nat} (h : a + b + c + d ≤ 56) : a * b * c * d ≤ 38416 := by
  have h1 := amgm a b
  have h2 := amgm c d
  have h3 := amgm (a + b) (c + d)
  have h4 : (a + b + (c + d)) * (a + b + (c + d)) ≤ 56 * 56 := Nat.mul_le_mul (by omega) (by omega)
  have h5 : (a + b) * (c + d) ≤ 784 := by omega
  have h6 : 4 * (a * b) * (4 * (c * d)) ≤ (a + b) * (a + b) * ((c + d) * (c + d)) := Nat.mul_le_mul h1 h2
  have h7 : (a + b) * (a + b) * ((c + d) * (c + d)) = ((a + b) * (c + d)) * ((a + b) * (c + d)) := Nat.mul_mul_mul_comm _ _ _ _
  have h8 : ((a + b) * (c + d)) * ((a + b) * (c + d)) ≤ 784 * 784 := Nat.mul_le_mul h5 h5
  have h9 : 4 * (a * b) * (4 * (c * d)) = 16 * (a * b * c * d) := by
    rw [Nat.mul_mul_mul_comm, Nat.mul_assoc (a * b) c d]
  omega
theorem three_le {a b c : Nat} (h : a + b + c ≤ 49) : a * b * c ≤ 38416 := by
  have h1 := amgm a b
  have h2 : (a + b) * (a + b) ≤ 49 * 49 := Nat.mul_le_mul (by omega) (by omega)
  have h3 : a * b ≤ 601 := by omega
  have h4 : a * b * c ≤ 601 * 49 := Nat.mul_le_mul h3 (by omega)
  omega
theorem whole_le (hV : ai_IV σ) {j q : Nat} (hj : j < 24) (hq : q < σ.nQ) : σ.whole j q ≤ 38416 := by
  have h1 := hV.an q hq
  have h2 := hV.sa j q hj hq
  unfold ai_S.whole
  have h3 : σ.an q = 2 ∨ σ.an q = 3 ∨ σ.an q = 4 := by omega
  rcases h3 with e | e | e
  · rw [e] at h2 ⊢
    show 1 * (σ.an q + σ.sa j q 0) * (σ.an q + σ.sa j q 1) ≤ _
    have h4 : 0 + σ.sa j q 0 + σ.sa j q 1 ≤ 40 := h2
    rw [e, Nat.one_mul]
    have h5 : (2 + σ.sa j q 0) * (2 + σ.sa j q 1) ≤ 42 * 42 := Nat.mul_le_mul (by omega) (by omega)
    omega
  · rw [e] at h2 ⊢
    show 1 * (σ.an q + σ.sa j q 0) * (σ.an q + σ.sa j q 1) * (σ.an q + σ.sa j q 2) ≤ _
    have h4 : 0 + σ.sa j q 0 + σ.sa j q 1 + σ.sa j q 2 ≤ 40 := h2
    rw [e, Nat.one_mul]
    exact three_le (by omega)
  · rw [e] at h2 ⊢
    show 1 * (σ.an q + σ.sa j q 0) * (σ.an q + σ.sa j q 1) * (σ.an q + σ.sa j q 2) * (σ.an q + σ.sa j q 3) ≤ _
    have h4 : 0 + σ.sa j q 0 + σ.sa j q 1 + σ.sa j q 2 + σ.sa j q 3 ≤ 40 := h2
    rw [e, Nat.one_mul]
    exact four_le (by omega)
theorem qp_cong {f g : Nat → Nat} : ∀ {n : Nat}, (∀ k, k < n → f k = g k) → ai_qp f n = ai_qp g n := by
  intro n
  induction n with
  | zero => intro _; rfl
  | succ n ih =>
    intro h
    show ai_qp f n * f n = ai_qp g n * g n
    rw [ih (fun k hk => h k (by omega)), h n (by omega)]
theorem qs_cong {f g : Nat → Nat} : ∀ {n : Nat}, (∀ k, k < n → f k = g k) → ai_qs f n = ai_qs g n := by
  intro n
  induction n with
  | zero => intro _; rfl
  | succ n ih =>
    intro h
    show ai_qs f n + f n = ai_qs g n + g n
    rw [ih (fun k hk => h k (by omega)), h n (by omega)]
theorem qn_cong {f g : Nat → Bool} : ∀ {n : Nat}, (∀ k, k < n → f k = g k) → ai_qn f n = ai_qn g n := by
  intro n
  induction n with
  | zero => intro _; rfl
  | succ n ih =>
    intro h
    show ai_qn f n + ai_qb (f n) = ai_qn g n + ai_qb (g n)
    rw [ih (fun k hk => h k (by omega)), h n (by omega)]
theorem qa_cong {f g : Nat → Nat} : ∀ {n : Nat}, (∀ k, k < n → f k = g k) → ai_qa f n = ai_qa g n := by
  intro n
  induction n with
  | zero => intro _; rfl
  | succ n ih =>
    intro h
    show (if f (ai_qa f n) < f n then n else ai_qa f n) = (if g (ai_qa g n) < g n then n else ai_qa g n)
    rw [ih (fun k hk => h k (by omega)), h n (by omega)]
    rcases Nat.eq_zero_or_pos n with z | z
    · subst z
      show (if f 0 < g 0 then 0 else 0) = (if g 0 < g 0 then 0 else 0)
      split <;> split <;> rfl
    · rw [h _ (Nat.lt_succ_of_lt (qa_lt z))]
theorem qt_cong {f g : Nat → Nat} : ∀ {n : Nat}, (∀ k, k < n → f k = g k) → ai_qt f n = ai_qt g n := by
  intro n
  induction n with
  | zero => intro _; rfl
  | succ n ih =>
    intro h
    show (if ai_qt f n < f n then f n else ai_qt f n) = (if ai_qt g n < g n then g n else ai_qt g n)
    rw [ih (fun k hk => h k (by omega)), h n (by omega)]
theorem qn_le (p : Nat → Bool) : ∀ n, ai_qn p n ≤ n := by
  intro n
  induction n with
  | zero => exact Nat.le_refl 0
  | succ n ih =>
    show ai_qn p n + ai_qb (p n) ≤ n + 1
    have := qb_lt (p n)
    omega
theorem qp_skip {f : Nat → Nat} : ∀ {n b : Nat}, b < n → ai_qp (fun o => if o = b then 1 else f o) n * f b = ai_qp f n := by
  intro n
  induction n with
  | zero => intro b h; omega
  | succ n ih =>
    intro b h
    show ai_qp (fun o => if o = b then 1 else f o) n * (if n = b then 1 else f n) * f b = ai_qp f n * f n
    by_cases e : n = b
    · subst e
      rw [if_pos rfl, Nat.mul_one]
      congr 1
      exact qp_cong (fun k hk => by rw [if_neg (by omega)])
    · rw [if_neg e, Nat.mul_assoc, Nat.mul_comm (f n), ← Nat.mul_assoc, ih (by omega)]
theorem qp_pos {f : Nat → Nat} : ∀ {n : Nat}, (∀ k, k < n → 0 < f k) → 0 < ai_qp f n := by
  intro n
  induction n with
  | zero => intro _; exact Nat.one_pos
  | succ n ih =>
    intro h
    exact Nat.mul_pos (ih (fun k hk => h k (by omega))) (h n (by omega))
theorem qp_le {f : Nat → Nat} {B : Nat} : ∀ {n : Nat}, (∀ k, k < n → f k ≤ B) → ai_qp f n ≤ B ^ n := by
  intro n
  induction n with
  | zero => intro _; exact Nat.le_refl 1
  | succ n ih =>
    intro h
    show ai_qp f n * f n ≤ B ^ n * B
    exact Nat.mul_le_mul (ih (fun k hk => h k (by omega))) (h n (by omega))
theorem qs_bound {f : Nat → Nat} {B : Nat} : ∀ {n : Nat}, (∀ k, k < n → f k ≤ B) → ai_qs f n ≤ n * B := by
  intro n
  induction n with
  | zero => intro _; exact Nat.zero_le _
  | succ n ih =>
    intro h
    show ai_qs f n + f n ≤ _
    rw [Nat.succ_mul]
    exact Nat.add_le_add (ih (fun k hk => h k (by omega))) (h n (by omega))
theorem top_le' (hV : ai_IV σ) {j q a b : Nat} (hj : j < 24) (hq : q < σ.nQ) (ha : a < σ.an q) (hb : b < σ.an q) : σ.top j q a b ≤ σ.bot j q b := by
  have h1 := hV.an q hq
  have h2 := hV.sd j q b hj hq hb
  have h3 := qs_le (f := fun a => σ.sd j q a b) ha
  show 1 + σ.sd j q a b ≤ σ.an q + σ.sa j q b
  have h4 : σ.sd j q a b ≤ σ.sa j q b := by rw [← h2]; exact Nat.le_trans (Nat.le_add_left _ _) h3
  omega
theorem fac_le_whole (hV : ai_IV σ) {j q a b : Nat} (hj : j < 24) (hq : q < σ.nQ) (ha : a < σ.an q) (hb : b < σ.an q) : σ.fac j q a b ≤ σ.whole j q := by
  unfold ai_S.fac ai_S.whole
  rw [← qp_skip (f := σ.bot j q) hb, Nat.mul_comm]
  exact Nat.mul_le_mul_left _ (top_le' hV hj hq ha hb)
theorem fac_le (hV : ai_IV σ) {j q a b : Nat} (hj : j < 24) (hq : q < σ.nQ) (ha : a < σ.an q) (hb : b < σ.an q) : σ.fac j q a b ≤ 38416 := Nat.le_trans (fac_le_whole hV hj hq ha hb) (whole_le hV hj hq)
theorem bot_pos (hV : ai_IV σ) {j q b : Nat} (hq : q < σ.nQ) : 0 < σ.bot j q b := by
  have h1 := hV.an q hq
  show 0 < σ.an q + _
  omega
theorem whole_pos (hV : ai_IV σ) {j q : Nat} (hq : q < σ.nQ) : 0 < σ.whole j q := qp_pos (fun k _ => bot_pos hV hq)
theorem fac_pos (hV : ai_IV σ) {j q a b : Nat} (hq : q < σ.nQ) : 0 < σ.fac j q a b := by
  unfold ai_S.fac
  refine Nat.mul_pos (by show 0 < 1 + _; omega) (qp_pos (fun k _ => ?_))
  show 0 < if k = b then 1 else σ.bot j q k
  split
  · omega
  · exact bot_pos hV hq
def ai_S.wk (σ : ai_S) (c b k : Nat) : Nat := if σ.tr c = 0 then ai_qp (fun j => if σ.ctd j c = true then σ.fac j (c % 5) (σ.said j c) b else 1) k else if σ.tr c = b + 1 then 1 else 0
theorem wk_T {c b k : Nat} (h : σ.ctd k c = true) : σ.wk c b (k + 1) = if σ.tr c = 0 then σ.fac k (c % 5) (σ.said k c) b * σ.wk c b k else σ.wk c b k := by
  unfold ai_S.wk
  by_cases e : σ.tr c = 0
  · simp only [if_pos e]
    show ai_qp _ k * (if σ.ctd k c = true then _ else 1) = _
    rw [if_pos h, Nat.mul_comm]
  · simp only [if_neg e]
theorem wk_F {c b k : Nat} (h : ¬ σ.ctd k c = true) : σ.wk c b (k + 1) = σ.wk c b k := by
  unfold ai_S.wk
  by_cases e : σ.tr c = 0
  · simp only [if_pos e]
    show ai_qp _ k * (if σ.ctd k c = true then _ else 1) = _
    rw [if_neg h, Nat.mul_one]
  · simp only [if_neg e]
theorem ctd_gv {c j : Nat} (h : σ.ctd j c = true) : σ.gv j c ≠ 0 := by
  have h1 := (ctd_iff.mp h).1
  intro e
  unfold ai_S.kd at h1
  rw [if_pos e] at h1
  omega
theorem ctd_said (hV : ai_IV σ) {c j : Nat} (hc : c < 200) (h : σ.ctd j c = true) : j < σ.nJ ∧ σ.said j c < σ.an (c % 5) ∧ c % 5 < σ.nQ := by
  have h2 := hV.gv j c hc (ctd_gv h)
  exact ⟨h2.1, h2.2.2.2.2.1, h2.2.2.2.1⟩
theorem wk_le (hV : ai_IV σ) {c b : Nat} (hc : c < 200) (hb : b < σ.an (c % 5)) {k : Nat} (hk : k ≤ 24) : σ.wk c b k ≤ 65536 ^ 24 := by
  unfold ai_S.wk
  split
  · refine Nat.le_trans (qp_le (B := 65536) (fun j hj => ?_)) (Nat.pow_le_pow_right (by omega) hk)
    show (if σ.ctd j c = true then _ else 1) ≤ _
    split
    · rename_i h
      have h2 := ctd_said hV hc h
      exact Nat.le_trans (fac_le hV (by omega) h2.2.2 h2.2.1 hb) (by omega)
    · omega
  · split
    · decide
    · exact Nat.zero_le _
theorem wt_le (hV : ai_IV σ) {c b : Nat} (hc : c < 200) (hb : b < σ.an (c % 5)) : σ.wt c b ≤ 65536 ^ 24 := wk_le hV hc hb hV.nJ
theorem an_le (hV : ai_IV σ) {c : Nat} (hq : c % 5 < σ.nQ) : σ.an (c % 5) ≤ 4 := (hV.an _ hq).2
theorem tot_le (hV : ai_IV σ) {c : Nat} (hc : c < 200) (hq : c % 5 < σ.nQ) : σ.tot c ≤ 4 * 65536 ^ 24 := Nat.le_trans (qs_bound (fun k hk => wt_le hV hc hk)) (Nat.mul_le_mul_right _ (an_le hV hq))
theorem wt_pos (hV : ai_IV σ) {c b : Nat} (hc : c < 200) (hq : c % 5 < σ.nQ) (h : σ.tr c = 0) : 0 < σ.wt c b := by
  unfold ai_S.wt
  rw [if_pos h]
  refine qp_pos (fun k _ => ?_)
  show 0 < if σ.ctd k c = true then _ else 1
  split
  · exact fac_pos hV hq
  · omega
theorem tot_pos (hV : ai_IV σ) {c : Nat} (hc : c < 200) (hq : c % 5 < σ.nQ) : 0 < σ.tot c := by
  have h1 := hV.an _ hq
  by_cases h : σ.tr c = 0
  · have h2 := qs_le (f := σ.wt c) (n := σ.an (c % 5)) (b := 0) (by omega)
    have h3 := wt_pos hV (b := 0) hc hq h
    unfold ai_S.tot
    omega
  · have h4 := hV.tr c hc h
    have h2 := qs_le (f := σ.wt c) (n := σ.an (c % 5)) (b := σ.tr c - 1) (by omega)
    have h3 : σ.wt c (σ.tr c - 1) = 1 := by unfold ai_S.wt; rw [if_neg h, if_pos (by omega)]
    unfold ai_S.tot
    omega
theorem lead_lt (hV : ai_IV σ) {c : Nat} (hq : c % 5 < σ.nQ) : σ.lead c < σ.an (c % 5) := by
  have h1 := hV.an _ hq
  exact qa_lt (by omega)
theorem big16 {x : Nat} (h : x ≤ 38416000 * (4 * 65536 ^ 24)) : x < 2147483648 ^ 16 := Nat.lt_of_le_of_lt h (by decide)
theorem tr_le (hV : ai_IV σ) {c : Nat} (hc : c < 200) : σ.tr c ≤ 4 := by
  by_cases h : σ.tr c = 0
  · omega
  · have h2 := hV.tr c hc h
    have h3 := hV.an _ h2.2.1
    omega
theorem ag_le (hV : ai_IV σ) {c : Nat} (hc : c < 200) : σ.ag c ≤ 4 := by
  by_cases h : σ.ag c = 0
  · omega
  · have h2 := hV.ag c hc h
    have h3 := hV.an _ h2.2.1
    omega
end BND
