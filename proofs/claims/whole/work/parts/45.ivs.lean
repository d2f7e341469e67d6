section IVS
variable {σ : ai_S}
theorem iv_refuse (hV : ai_IV σ) {k : Nat} : ai_IV (σ.refuse k).1 := by
  refine ⟨hV.nT, hV.nQ, hV.nJ, hV.mk, hV.lk, hV.hs, hV.st, hV.ch, hV.hd, hV.sz, hV.an, hV.pa, hV.tr, hV.ag, hV.gv, hV.lf, hV.sd, hV.sa, hV.sz0, hV.sl⟩
theorem iv_el (hV : ai_IV σ) {g : Nat → Nat → Int64} : ai_IV (σ.wEl g) := by
  refine ⟨hV.nT, hV.nQ, hV.nJ, hV.mk, hV.lk, hV.hs, hV.st, hV.ch, hV.hd, hV.sz, hV.an, hV.pa, hV.tr, hV.ag, hV.gv, hV.lf, hV.sd, hV.sa, hV.sz0, hV.sl⟩
theorem iv_row (hV : ai_IV σ) {s so n : Nat} (hso : so < 4) (hn : n ≤ 100) : ai_IV (σ.row s so n) := by
  refine ⟨hV.nT, hV.nQ, hV.nJ, hV.mk, hV.lk, hV.hs, hV.st, hV.ch, ?_, ?_, hV.an, hV.pa, hV.tr, hV.ag, hV.gv, hV.lf, hV.sd, hV.sa, hV.sz0, hV.sl⟩
  · intro x hx
    show (if x = s then 101 + so else σ.hd x) ≤ σ.nJ ∨ _
    have h1 := hV.hd x hx
    split
    · right; show 101 ≤ (if x = s then 101 + so else σ.hd x) ∧ (if x = s then 101 + so else σ.hd x) ≤ 104
      rw [if_pos (by assumption)]; omega
    · rcases h1 with h1 | h1
      · exact Or.inl h1
      · right; show 101 ≤ (if x = s then 101 + so else σ.hd x) ∧ (if x = s then 101 + so else σ.hd x) ≤ 104
        rw [if_neg (by assumption)]; exact h1
  · intro x hx
    show (if x = s then n else σ.sz x) ≤ 100
    have h1 := hV.sz x hx
    split <;> omega
theorem iv_hold (hV : ai_IV σ) {s d : Nat} (hd : d ≤ σ.nJ) : ai_IV (σ.hold s d) := by
  refine ⟨hV.nT, hV.nQ, hV.nJ, hV.mk, hV.lk, hV.hs, hV.st, hV.ch, ?_, hV.sz, hV.an, hV.pa, hV.tr, hV.ag, hV.gv, hV.lf, hV.sd, hV.sa, hV.sz0, hV.sl⟩
  · intro x hx
    have h1 := hV.hd x hx
    show (if x = s then d else σ.hd x) ≤ σ.nJ ∨ (101 ≤ (if x = s then d else σ.hd x) ∧ (if x = s then d else σ.hd x) ≤ 104)
    by_cases e : x = s
    · rw [if_pos e]; exact Or.inl hd
    · rw [if_neg e]; exact h1
theorem iv_things (hV : ai_IV σ) {n : Nat} (hn : n ≤ 40) (h : σ.nT ≤ n) : ai_IV (σ.wNT n) := by
  refine ⟨?_, hV.nQ, hV.nJ, hV.mk, hV.lk, hV.hs, hV.st, hV.ch, hV.hd, hV.sz, hV.an, hV.pa, ?_, ?_, ?_, hV.lf, hV.sd, hV.sa, hV.sz0, hV.sl⟩
  · exact hn
  · intro c hc h0; have h1 := hV.tr c hc h0; exact ⟨Nat.lt_of_lt_of_le h1.1 h, h1.2⟩
  · intro c hc h0; have h1 := hV.ag c hc h0; exact ⟨Nat.lt_of_lt_of_le h1.1 h, h1.2⟩
  · intro j c hc h0; have h1 := hV.gv j c hc h0; exact ⟨h1.1, h1.2.1, Nat.lt_of_lt_of_le h1.2.2.1 h, h1.2.2.2⟩
theorem iv_judge (hV : ai_IV σ) (h : σ.nJ < 24) : ai_IV (σ.wNJ (σ.nJ + 1)) := by
  refine ⟨hV.nT, hV.nQ, ?_, hV.mk, hV.lk, hV.hs, hV.st, hV.ch, ?_, hV.sz, hV.an, hV.pa, hV.tr, hV.ag, ?_, ?_, hV.sd, hV.sa, hV.sz0, hV.sl⟩
  · exact h
  · intro s hs; have h1 := hV.hd s hs; exact h1.elim (fun h2 => Or.inl (Nat.le_succ_of_le h2)) Or.inr
  · intro j c hc h0; have h1 := hV.gv j c hc h0; exact ⟨Nat.lt_succ_of_lt h1.1, h1.2⟩
  · intro j h0; exact Nat.lt_succ_of_lt (hV.lf j h0)
theorem iv_know (hV : ai_IV σ) {t q b : Nat} (ht : t < σ.nT) (hq : q < σ.nQ) (hb : b ≤ σ.an q) : ai_IV (σ.know (5 * t + q) b) := by
  refine ⟨hV.nT, hV.nQ, hV.nJ, hV.mk, hV.lk, hV.hs, hV.st, hV.ch, hV.hd, hV.sz, hV.an, hV.pa, ?_, hV.ag, hV.gv, hV.lf, hV.sd, hV.sa, hV.sz0, hV.sl⟩
  · intro c hc h0
    have h1 : (if c = 5 * t + q then b else σ.tr c) ≠ 0 := h0
    show c / 5 < σ.nT ∧ c % 5 < σ.nQ ∧ (if c = 5 * t + q then b else σ.tr c) ≤ σ.an (c % 5)
    have hnQ := hV.nQ
    by_cases e : c = 5 * t + q
    · rw [if_pos e, show c / 5 = t by omega, show c % 5 = q by omega]; exact ⟨ht, hq, hb⟩
    · rw [if_neg e] at h1 ⊢; exact hV.tr c hc h1
theorem iv_rest (hV : ai_IV σ) {j : Nat} : ai_IV (σ.rest j) := by
  refine ⟨hV.nT, hV.nQ, hV.nJ, hV.mk, hV.lk, hV.hs, hV.st, hV.ch, hV.hd, hV.sz, hV.an, hV.pa, hV.tr, hV.ag, hV.gv, hV.lf, hV.sd, hV.sa, hV.sz0, hV.sl⟩
theorem iv_mark (hV : ai_IV σ) {n : Nat} (h : 1 ≤ n ∧ n ≤ 1000) : ai_IV (σ.wMk n) := by
  refine ⟨hV.nT, hV.nQ, hV.nJ, ?_, hV.lk, hV.hs, hV.st, hV.ch, hV.hd, hV.sz, hV.an, hV.pa, hV.tr, hV.ag, hV.gv, hV.lf, hV.sd, hV.sa, hV.sz0, hV.sl⟩
  · exact h
theorem iv_look (hV : ai_IV σ) {n : Nat} (h : 1 ≤ n ∧ n ≤ 24) : ai_IV (σ.wLk n) := by
  refine ⟨hV.nT, hV.nQ, hV.nJ, hV.mk, ?_, hV.hs, hV.st, hV.ch, hV.hd, hV.sz, hV.an, hV.pa, hV.tr, hV.ag, hV.gv, hV.lf, hV.sd, hV.sa, hV.sz0, hV.sl⟩
  · exact h
theorem iv_haste (hV : ai_IV σ) {n : Nat} (h : n ≤ 100) : ai_IV (σ.wHs n) := by
  refine ⟨hV.nT, hV.nQ, hV.nJ, hV.mk, hV.lk, ?_, hV.st, hV.ch, hV.hd, hV.sz, hV.an, hV.pa, hV.tr, hV.ag, hV.gv, hV.lf, hV.sd, hV.sa, hV.sz0, hV.sl⟩
  · exact h
theorem iv_quest (hV : ai_IV σ) {n p w : Nat} (hq : σ.nQ < 5) (hn : 2 ≤ n ∧ n ≤ 4) (hp : 0 < σ.nQ → p < σ.nQ ∧ w < σ.an p) : ai_IV (σ.quest n p w) := by
  refine ⟨hV.nT, ?_, hV.nJ, hV.mk, hV.lk, hV.hs, hV.st, hV.ch, hV.hd, hV.sz, ?_, ?_, ?_, ?_, ?_, hV.lf, ?_, ?_, ?_, hV.sl⟩
  · exact hq
  · intro q h1
    show 2 ≤ (if q = σ.nQ then n else σ.an q) ∧ (if q = σ.nQ then n else σ.an q) ≤ 4
    by_cases e : q = σ.nQ
    · rw [if_pos e]; exact hn
    · rw [if_neg e]; have h2 : q < σ.nQ + 1 := h1; exact hV.an q (by omega)
  · intro q h0 h1
    have h2 : q < σ.nQ + 1 := h1
    show (if q = σ.nQ then p else σ.pa q) < q ∧ (if q = σ.nQ then w else σ.wa q) < (if (if q = σ.nQ then p else σ.pa q) = σ.nQ then n else σ.an (if q = σ.nQ then p else σ.pa q))
    by_cases e : q = σ.nQ
    · rw [if_pos e, if_pos e]
      have h3 := hp (by omega)
      rw [if_neg (by omega)]
      exact ⟨by omega, h3.2⟩
    · rw [if_neg e, if_neg e]
      have h3 := hV.pa q h0 (by omega)
      rw [if_neg (by omega)]
      exact h3
  · intro c hc h0
    have h1 := hV.tr c hc h0
    show c / 5 < σ.nT ∧ c % 5 < σ.nQ + 1 ∧ σ.tr c ≤ (if c % 5 = σ.nQ then n else σ.an (c % 5))
    rw [if_neg (by omega)]
    exact ⟨h1.1, by omega, h1.2.2⟩
  · intro c hc h0
    have h1 := hV.ag c hc h0
    show c / 5 < σ.nT ∧ c % 5 < σ.nQ + 1 ∧ σ.ag c ≤ (if c % 5 = σ.nQ then n else σ.an (c % 5))
    rw [if_neg (by omega)]
    exact ⟨h1.1, by omega, h1.2.2⟩
  · intro j c hc h0
    have h1 := hV.gv j c hc h0
    show j < σ.nJ ∧ σ.lf j = false ∧ c / 5 < σ.nT ∧ c % 5 < σ.nQ + 1 ∧ σ.said j c < (if c % 5 = σ.nQ then n else σ.an (c % 5)) ∧ σ.gv j c ≤ 12
    rw [if_neg (by omega)]
    exact ⟨h1.1, h1.2.1, h1.2.2.1, by omega, h1.2.2.2.2⟩
  · intro j q b hj h1 hb
    have h2 : q < σ.nQ + 1 := h1
    have hb2 : b < (if q = σ.nQ then n else σ.an q) := hb
    show ai_qs (fun a => σ.sd j q a b) (if q = σ.nQ then n else σ.an q) = σ.sa j q b
    by_cases e : q = σ.nQ
    · rw [if_pos e]
      have h3 := fun a => hV.sz0 j q a b hj (by omega)
      rw [qs_cong (g := fun _ => 0) (fun a _ => (h3 a).1), qs_zero, (h3 0).2]
    · rw [if_neg e] at hb2 ⊢; exact hV.sd j q b hj (by omega) hb2
  · intro j q hj h1
    have h2 : q < σ.nQ + 1 := h1
    show ai_qs (σ.sa j q) (if q = σ.nQ then n else σ.an q) ≤ 40
    by_cases e : q = σ.nQ
    · rw [if_pos e, qs_cong (g := fun _ => 0) (fun b _ => (hV.sz0 j q 0 b hj (by omega)).2), qs_zero]; omega
    · rw [if_neg e]; exact hV.sa j q hj (by omega)
  · intro j q a b hj h1
    exact hV.sz0 j q a b hj (Nat.le_of_succ_le h1)
def ai_S.tog (σ : ai_S) (c : Nat) : Nat := if σ.tr c = 0 then σ.ag c else σ.tr c
def ai_S.p1 (σ : ai_S) (j q a b t : Nat) : Bool := σ.ctd j (5 * t + q) && (decide (σ.said j (5 * t + q) = a) && decide (σ.tog (5 * t + q) = b + 1))
def ai_S.p2 (σ : ai_S) (j q b t : Nat) : Bool := σ.ctd j (5 * t + q) && decide (σ.tog (5 * t + q) = b + 1)
def ai_S.tt (σ : ai_S) (T : Nat → Nat → Nat → Nat → Nat) (T2 : Nat → Nat → Nat → Nat) : ai_S := (σ.rf, σ.hd, σ.sz, σ.el, σ.nT, σ.nQ, σ.nJ, σ.an, σ.pa, σ.wa, σ.tr, σ.ag, σ.gv, σ.lf, σ.sr, σ.mk, σ.lk, σ.hs, σ.ch, σ.st, T, T2)
def ai_S.tab (σ : ai_S) (m : Nat → Nat → Nat) : ai_S := σ.tt (fun j q a b => if j < σ.nJ ∧ q < 5 then ai_qn (σ.p1 j q a b) (m j q) else σ.sd j q a b) (fun j q b => if j < σ.nJ ∧ q < 5 then ai_qn (σ.p2 j q b) (m j q) else σ.sa j q b)
def ai_S.mkT (σ : ai_S) : ai_S := σ.tab (fun _ _ => σ.nT)
theorem qs_pick {x y : Bool} {f : Nat} : ∀ {n : Nat}, (x = true → f < n) → ai_qs (fun a => ai_qb (x && (decide (f = a) && y))) n = ai_qb (x && y) := by
  have key : ∀ {n : Nat}, ai_qs (fun a => ai_qb (x && (decide (f = a) && y))) n = if f < n then ai_qb (x && y) else 0 := by
    intro n
    induction n with
    | zero => rfl
    | succ n ih =>
      show ai_qs (fun a => ai_qb (x && (decide (f = a) && y))) n + ai_qb (x && (decide (f = n) && y)) = _
      rw [ih]
      by_cases e : f = n
      · subst e; rw [if_neg (by omega), if_pos (by omega)]; simp
      · by_cases h : f < n
        · rw [if_pos h, if_pos (by omega)]; simp [e, ai_qb]
        · rw [if_neg h, if_neg (by omega)]; simp [e, ai_qb]
  intro n h
  rw [key]
  cases x with
  | false => simp [ai_qb]
  | true => rw [if_pos (h rfl)]
theorem qs_qn {n : Nat} {Q R : Nat → Bool} {f : Nat → Nat} : ∀ {m : Nat}, (∀ t, t < m → Q t = true → f t < n) → ai_qs (fun a => ai_qn (fun t => Q t && (decide (f t = a) && R t)) m) n = ai_qn (fun t => Q t && R t) m := by
  intro m
  induction m with
  | zero => intro _; exact qs_zero
  | succ m ih =>
    intro h
    show ai_qs (fun a => ai_qn (fun t => Q t && (decide (f t = a) && R t)) m + ai_qb (Q m && (decide (f m = a) && R m))) n = ai_qn (fun t => Q t && R t) m + ai_qb (Q m && R m)
    rw [qs_add, ih (fun t ht => h t (by omega)), qs_pick (h m (by omega))]
theorem qs_one_le {x : Bool} {f : Nat} : ∀ {n : Nat}, ai_qs (fun b => ai_qb (x && decide (f = b + 1))) n ≤ 1 := by
  have key : ∀ {n : Nat}, ai_qs (fun b => ai_qb (x && decide (f = b + 1))) n ≤ if f < n + 1 then 1 else 0 := by
    intro n
    induction n with
    | zero => exact Nat.zero_le _
    | succ n ih =>
      show ai_qs (fun b => ai_qb (x && decide (f = b + 1))) n + ai_qb (x && decide (f = n + 1)) ≤ _
      by_cases e : f = n + 1
      · subst e
        rw [if_neg (by omega)] at ih
        rw [if_pos (by omega)]
        have := qb_lt (x && decide (n + 1 = n + 1))
        omega
      · have h0 : ai_qb (x && decide (f = n + 1)) = 0 := by simp [e, ai_qb]
        rw [h0]
        by_cases h : f < n + 1
        · rw [if_pos h] at ih; rw [if_pos (by omega)]; omega
        · rw [if_neg h] at ih; omega
  intro n
  refine Nat.le_trans key ?_
  split <;> omega
theorem qs_qn_le {n : Nat} {Q : Nat → Bool} {f : Nat → Nat} : ∀ {m : Nat}, ai_qs (fun b => ai_qn (fun t => Q t && decide (f t = b + 1)) m) n ≤ m := by
  intro m
  induction m with
  | zero => exact Nat.le_of_eq qs_zero
  | succ m ih =>
    show ai_qs (fun b => ai_qn (fun t => Q t && decide (f t = b + 1)) m + ai_qb (Q m && decide (f m = b + 1))) n ≤ m + 1
    rw [qs_add]
    exact Nat.add_le_add ih qs_one_le
theorem qn_none {p : Nat → Bool} : ∀ {n : Nat}, (∀ k, k < n → p k = false) → ai_qn p n = 0 := by
  intro n
  induction n with
  | zero => intro _; rfl
  | succ n ih =>
    intro h
    rw [qn_F (by rw [h n (by omega)]; decide)]
    exact ih (fun k hk => h k (by omega))
theorem ctd_no (hV : ai_IV σ) {j c : Nat} (hc : c < 200) (h : σ.nQ ≤ c % 5) : σ.ctd j c = false := by
  cases e : σ.ctd j c with
  | false => rfl
  | true => have := (ctd_said hV hc e).2.2; omega
theorem ctd_noT (hV : ai_IV σ) {j c : Nat} (hc : c < 200) (h : σ.nT ≤ c / 5) : σ.ctd j c = false := by
  cases e : σ.ctd j c with
  | false => rfl
  | true => have := hV.gv j c hc (ctd_gv e); omega
theorem iv_tab (hV : ai_IV σ) {m : Nat → Nat → Nat} (hm : ∀ j q, m j q ≤ 40) : ai_IV (σ.tab m) := by
  refine ⟨hV.nT, hV.nQ, hV.nJ, hV.mk, hV.lk, hV.hs, hV.st, hV.ch, hV.hd, hV.sz, hV.an, hV.pa, hV.tr, hV.ag, hV.gv, hV.lf, ?_, ?_, ?_, ?_⟩
  · intro j q b hj hq hb
    have hnQ := hV.nQ
    have hq2 : q < σ.nQ := hq
    show ai_qs (fun a => if j < σ.nJ ∧ q < 5 then ai_qn (σ.p1 j q a b) (m j q) else σ.sd j q a b) (σ.an q) = (if j < σ.nJ ∧ q < 5 then ai_qn (σ.p2 j q b) (m j q) else σ.sa j q b)
    by_cases e : j < σ.nJ ∧ q < 5
    · rw [if_pos e, qs_cong (g := fun a => ai_qn (σ.p1 j q a b) (m j q)) (fun a _ => if_pos e)]
      refine qs_qn (Q := fun t => σ.ctd j (5 * t + q)) (R := fun t => decide (σ.tog (5 * t + q) = b + 1)) (f := fun t => σ.said j (5 * t + q)) (fun t ht hc => ?_)
      have h1 := hm j q
      have h2 := ctd_said hV (c := 5 * t + q) (by omega) hc
      rw [show (5 * t + q) % 5 = q by omega] at h2
      exact h2.2.1
    · rw [if_neg e, qs_cong (g := fun a => σ.sd j q a b) (fun a _ => if_neg e)]
      exact hV.sd j q b hj hq hb
  · intro j q hj hq
    show ai_qs (fun b => if j < σ.nJ ∧ q < 5 then ai_qn (σ.p2 j q b) (m j q) else σ.sa j q b) (σ.an q) ≤ 40
    by_cases e : j < σ.nJ ∧ q < 5
    · rw [qs_cong (g := fun b => ai_qn (σ.p2 j q b) (m j q)) (fun a _ => if_pos e)]
      exact Nat.le_trans (qs_qn_le (Q := fun t => σ.ctd j (5 * t + q)) (f := fun t => σ.tog (5 * t + q))) (hm j q)
    · rw [qs_cong (g := fun b => σ.sa j q b) (fun a _ => if_neg e)]
      exact hV.sa j q hj hq
  · intro j q a b hj hq
    have hq2 : σ.nQ ≤ q := hq
    have h0 := hV.sz0 j q a b hj hq2
    have h1 := hm j q
    show (if j < σ.nJ ∧ q < 5 then ai_qn (σ.p1 j q a b) (m j q) else σ.sd j q a b) = 0 ∧ (if j < σ.nJ ∧ q < 5 then ai_qn (σ.p2 j q b) (m j q) else σ.sa j q b) = 0
    by_cases e : j < σ.nJ ∧ q < 5
    · rw [if_pos e, if_pos e]
      constructor
      · refine qn_none (fun t ht => ?_)
        unfold ai_S.p1; rw [ctd_no hV (by omega) (by omega)]; rfl
      · refine qn_none (fun t ht => ?_)
        unfold ai_S.p2; rw [ctd_no hV (by omega) (by omega)]; rfl
    · rw [if_neg e, if_neg e]; exact h0
  · intro j q a b
    have h0 := hV.sl j q a b
    have h1 := hm j q
    show (if j < σ.nJ ∧ q < 5 then ai_qn (σ.p1 j q a b) (m j q) else σ.sd j q a b) ≤ 40 ∧ (if j < σ.nJ ∧ q < 5 then ai_qn (σ.p2 j q b) (m j q) else σ.sa j q b) ≤ 40
    by_cases e : j < σ.nJ ∧ q < 5
    · rw [if_pos e, if_pos e]
      exact ⟨Nat.le_trans (qn_le _ _) h1, Nat.le_trans (qn_le _ _) h1⟩
    · rw [if_neg e, if_neg e]; exact h0
theorem iv_mkT (hV : ai_IV σ) : ai_IV σ.mkT := iv_tab hV (fun _ _ => hV.nT)
def ai_S.chg (σ : ai_S) (c : Nat) : Bool := decide (σ.tr c = 0 ∧ 0 < σ.look c ∧ (σ.ag c = 0 ∨ σ.wt c (σ.ag c - 1) < σ.wt c (σ.lead c)))
theorem chg_iff {c : Nat} : σ.chg c = true ↔ σ.tr c = 0 ∧ 0 < σ.look c ∧ (σ.ag c = 0 ∨ σ.wt c (σ.ag c - 1) < σ.wt c (σ.lead c)) := by unfold ai_S.chg; rw [decide_eq_true_eq]
theorem look_no (hV : ai_IV σ) {c : Nat} (hc : c < 200) (h : ¬ (c / 5 < σ.nT ∧ c % 5 < σ.nQ)) : σ.look c = 0 := by
  refine qn_none (fun j _ => ?_)
  show σ.ctd j c = false
  by_cases e : c % 5 < σ.nQ
  · exact ctd_noT hV hc (by omega)
  · exact ctd_no hV hc (by omega)
theorem chg_there (hV : ai_IV σ) {c : Nat} (hc : c < 200) (h : σ.chg c = true) : c / 5 < σ.nT ∧ c % 5 < σ.nQ := by
  by_cases e : c / 5 < σ.nT ∧ c % 5 < σ.nQ
  · exact e
  · have h1 := (chg_iff.mp h).2.1
    rw [look_no hV hc e] at h1; omega
theorem chg_no (hV : ai_IV σ) {c : Nat} (hc : c < 200) (h : ¬ (c / 5 < σ.nT ∧ c % 5 < σ.nQ)) : σ.chg c = false := nb_F (fun h2 => h (chg_there hV hc h2))
def ai_S.stp (σ : ai_S) (m : Nat) : ai_S := σ.wAg (fun c => if c < m ∧ σ.chg c = true then σ.lead c + 1 else σ.ag c)
theorem iv_stp (hV : ai_IV σ) {m : Nat} : ai_IV (σ.stp m) := by
  refine ⟨hV.nT, hV.nQ, hV.nJ, hV.mk, hV.lk, hV.hs, hV.st, hV.ch, hV.hd, hV.sz, hV.an, hV.pa, hV.tr, ?_, hV.gv, hV.lf, hV.sd, hV.sa, hV.sz0, hV.sl⟩
  · intro c hc h0
    have h1 : (if c < m ∧ σ.chg c = true then σ.lead c + 1 else σ.ag c) ≠ 0 := h0
    show c / 5 < σ.nT ∧ c % 5 < σ.nQ ∧ (if c < m ∧ σ.chg c = true then σ.lead c + 1 else σ.ag c) ≤ σ.an (c % 5)
    by_cases e : c < m ∧ σ.chg c = true
    · rw [if_pos e]
      have h2 := chg_there hV hc e.2
      have h3 := lead_lt hV h2.2
      exact ⟨h2.1, h2.2, h3⟩
    · rw [if_neg e] at h1 ⊢; exact hV.ag c hc h1
def ai_S.rk0 (σ : ai_S) : ai_S := σ.wAg (fun _ => 0)
def ai_S.step1 (σ : ai_S) : ai_S := (((σ.stp 200).mkT).wCh (fun i => if i = σ.st then ai_qn σ.chg 200 else σ.ch i)).wSt (σ.st + 1)
def ai_S.rkgo : Nat → ai_S → ai_S
  | 0, σ => σ
  | k + 1, σ => if ai_qn σ.chg 200 = 0 then σ.step1 else ai_S.rkgo k σ.step1
def ai_S.rk1 (σ : ai_S) : ai_S := (σ.rk0.mkT).wSt 0
def o_reckon (σ : ai_S) (b : Nat) : ai_S × Int32 := if b = 0 then (ai_S.rkgo 30 σ.rk1, nI (ai_S.rkgo 30 σ.rk1).st) else (σ.rk1, nI 0)
theorem iv_rk0 (hV : ai_IV σ) : ai_IV σ.rk0 := by
  refine ⟨hV.nT, hV.nQ, hV.nJ, hV.mk, hV.lk, hV.hs, hV.st, hV.ch, hV.hd, hV.sz, hV.an, hV.pa, hV.tr, ?_, hV.gv, hV.lf, hV.sd, hV.sa, hV.sz0, hV.sl⟩
  · intro c hc h0; exact absurd rfl h0
theorem iv_st (hV : ai_IV σ) {n : Nat} (hn : n ≤ 30) (h : ∀ i, i < n → σ.ch i ≤ 200) : ai_IV (σ.wSt n) := by
  refine ⟨hV.nT, hV.nQ, hV.nJ, hV.mk, hV.lk, hV.hs, ?_, ?_, hV.hd, hV.sz, hV.an, hV.pa, hV.tr, hV.ag, hV.gv, hV.lf, hV.sd, hV.sa, hV.sz0, hV.sl⟩
  · exact hn
  · exact h
theorem iv_rk1 (hV : ai_IV σ) : ai_IV σ.rk1 := iv_st (iv_mkT (iv_rk0 hV)) (by omega) (fun i hi => absurd hi (by omega))
theorem iv_step1 {σ2 : ai_S} (hV : ai_IV σ2) {f : Nat → Nat} {n : Nat} (hn : n ≤ 30) (hf : ∀ i, i < n → f i ≤ 200) : ai_IV ((σ2.wCh f).wSt n) := by
  refine ⟨hV.nT, hV.nQ, hV.nJ, hV.mk, hV.lk, hV.hs, ?_, ?_, hV.hd, hV.sz, hV.an, hV.pa, hV.tr, hV.ag, hV.gv, hV.lf, hV.sd, hV.sa, hV.sz0, hV.sl⟩
  · exact hn
  · exact hf
theorem iv_step (hV : ai_IV σ) (h : σ.st < 30) : ai_IV σ.step1 := iv_step1 (iv_mkT (iv_stp hV)) h (fun i hi => by
  show (if i = σ.st then ai_qn σ.chg 200 else σ.ch i) ≤ 200
  split
  · exact qn_le _ _
  · exact hV.ch i (by omega))
theorem iv_rkgo : ∀ (k : Nat) (σ : ai_S), ai_IV σ → σ.st + k ≤ 30 → ai_IV (ai_S.rkgo k σ) := by
  intro k
  induction k with
  | zero => intro σ h _; exact h
  | succ k ih =>
    intro σ h h2
    show ai_IV (if ai_qn σ.chg 200 = 0 then σ.step1 else ai_S.rkgo k σ.step1)
    split
    · exact iv_step h (by omega)
    · exact ih _ (iv_step h (by omega)) (by show σ.st + 1 + k ≤ 30; omega)
theorem iv_reckon (hV : ai_IV σ) {b : Nat} : ai_IV (o_reckon σ b).1 := by
  unfold o_reckon
  split
  · exact iv_rkgo 30 _ (iv_rk1 hV) (by show 0 + 30 ≤ 30; omega)
  · exact iv_rk1 hV
end IVS
