def ai_S : Type := (Nat → Int32) × (Nat → Nat) × (Nat → Nat) × (Nat → Nat → Int64) × (Nat) × (Nat) × (Nat) × (Nat → Nat) × (Nat → Nat) × (Nat → Nat) × (Nat → Nat) × (Nat → Nat) × (Nat → Nat → Nat) × (Nat → Bool) × (Nat → Int32) × (Nat) × (Nat) × (Nat) × (Nat → Nat) × (Nat) × (Nat → Nat → Nat → Nat → Nat) × (Nat → Nat → Nat → Nat)
def ai_S.rf (σ : ai_S) : Nat → Int32 := σ.1
def ai_S.hd (σ : ai_S) : Nat → Nat := σ.2.1
def ai_S.sz (σ : ai_S) : Nat → Nat := σ.2.2.1
def ai_S.el (σ : ai_S) : Nat → Nat → Int64 := σ.2.2.2.1
def ai_S.nT (σ : ai_S) : Nat := σ.2.2.2.2.1
def ai_S.nQ (σ : ai_S) : Nat := σ.2.2.2.2.2.1
def ai_S.nJ (σ : ai_S) : Nat := σ.2.2.2.2.2.2.1
def ai_S.an (σ : ai_S) : Nat → Nat := σ.2.2.2.2.2.2.2.1
def ai_S.pa (σ : ai_S) : Nat → Nat := σ.2.2.2.2.2.2.2.2.1
def ai_S.wa (σ : ai_S) : Nat → Nat := σ.2.2.2.2.2.2.2.2.2.1
def ai_S.tr (σ : ai_S) : Nat → Nat := σ.2.2.2.2.2.2.2.2.2.2.1
def ai_S.ag (σ : ai_S) : Nat → Nat := σ.2.2.2.2.2.2.2.2.2.2.2.1
def ai_S.gv (σ : ai_S) : Nat → Nat → Nat := σ.2.2.2.2.2.2.2.2.2.2.2.2.1
def ai_S.lf (σ : ai_S) : Nat → Bool := σ.2.2.2.2.2.2.2.2.2.2.2.2.2.1
def ai_S.sr (σ : ai_S) : Nat → Int32 := σ.2.2.2.2.2.2.2.2.2.2.2.2.2.2.1
def ai_S.mk (σ : ai_S) : Nat := σ.2.2.2.2.2.2.2.2.2.2.2.2.2.2.2.1
def ai_S.lk (σ : ai_S) : Nat := σ.2.2.2.2.2.2.2.2.2.2.2.2.2.2.2.2.1
def ai_S.hs (σ : ai_S) : Nat := σ.2.2.2.2.2.2.2.2.2.2.2.2.2.2.2.2.2.1
def ai_S.ch (σ : ai_S) : Nat → Nat := σ.2.2.2.2.2.2.2.2.2.2.2.2.2.2.2.2.2.2.1
def ai_S.st (σ : ai_S) : Nat := σ.2.2.2.2.2.2.2.2.2.2.2.2.2.2.2.2.2.2.2.1
def ai_S.sd (σ : ai_S) : Nat → Nat → Nat → Nat → Nat := σ.2.2.2.2.2.2.2.2.2.2.2.2.2.2.2.2.2.2.2.2.1
def ai_S.sa (σ : ai_S) : Nat → Nat → Nat → Nat := σ.2.2.2.2.2.2.2.2.2.2.2.2.2.2.2.2.2.2.2.2.2
def ai_S.wRf (σ : ai_S) (x : Nat → Int32) : ai_S := (x, σ.hd, σ.sz, σ.el, σ.nT, σ.nQ, σ.nJ, σ.an, σ.pa, σ.wa, σ.tr, σ.ag, σ.gv, σ.lf, σ.sr, σ.mk, σ.lk, σ.hs, σ.ch, σ.st, σ.sd, σ.sa)
def ai_S.wHd (σ : ai_S) (x : Nat → Nat) : ai_S := (σ.rf, x, σ.sz, σ.el, σ.nT, σ.nQ, σ.nJ, σ.an, σ.pa, σ.wa, σ.tr, σ.ag, σ.gv, σ.lf, σ.sr, σ.mk, σ.lk, σ.hs, σ.ch, σ.st, σ.sd, σ.sa)
def ai_S.wSz (σ : ai_S) (x : Nat → Nat) : ai_S := (σ.rf, σ.hd, x, σ.el, σ.nT, σ.nQ, σ.nJ, σ.an, σ.pa, σ.wa, σ.tr, σ.ag, σ.gv, σ.lf, σ.sr, σ.mk, σ.lk, σ.hs, σ.ch, σ.st, σ.sd, σ.sa)
def ai_S.wEl (σ : ai_S) (x : Nat → Nat → Int64) : ai_S := (σ.rf, σ.hd, σ.sz, x, σ.nT, σ.nQ, σ.nJ, σ.an, σ.pa, σ.wa, σ.tr, σ.ag, σ.gv, σ.lf, σ.sr, σ.mk, σ.lk, σ.hs, σ.ch, σ.st, σ.sd, σ.sa)
def ai_S.wNT (σ : ai_S) (x : Nat) : ai_S := (σ.rf, σ.hd, σ.sz, σ.el, x, σ.nQ, σ.nJ, σ.an, σ.pa, σ.wa, σ.tr, σ.ag, σ.gv, σ.lf, σ.sr, σ.mk, σ.lk, σ.hs, σ.ch, σ.st, σ.sd, σ.sa)
def ai_S.wNQ (σ : ai_S) (x : Nat) : ai_S := (σ.rf, σ.hd, σ.sz, σ.el, σ.nT, x, σ.nJ, σ.an, σ.pa, σ.wa, σ.tr, σ.ag, σ.gv, σ.lf, σ.sr, σ.mk, σ.lk, σ.hs, σ.ch, σ.st, σ.sd, σ.sa)
def ai_S.wNJ (σ : ai_S) (x : Nat) : ai_S := (σ.rf, σ.hd, σ.sz, σ.el, σ.nT, σ.nQ, x, σ.an, σ.pa, σ.wa, σ.tr, σ.ag, σ.gv, σ.lf, σ.sr, σ.mk, σ.lk, σ.hs, σ.ch, σ.st, σ.sd, σ.sa)
def ai_S.wAn (σ : ai_S) (x : Nat → Nat) : ai_S := (σ.rf, σ.hd, σ.sz, σ.el, σ.nT, σ.nQ, σ.nJ, x, σ.pa, σ.wa, σ.tr, σ.ag, σ.gv, σ.lf, σ.sr, σ.mk, σ.lk, σ.hs, σ.ch, σ.st, σ.sd, σ.sa)
def ai_S.wPa (σ : ai_S) (x : Nat → Nat) : ai_S := (σ.rf, σ.hd, σ.sz, σ.el, σ.nT, σ.nQ, σ.nJ, σ.an, x, σ.wa, σ.tr, σ.ag, σ.gv, σ.lf, σ.sr, σ.mk, σ.lk, σ.hs, σ.ch, σ.st, σ.sd, σ.sa)
def ai_S.wWa (σ : ai_S) (x : Nat → Nat) : ai_S := (σ.rf, σ.hd, σ.sz, σ.el, σ.nT, σ.nQ, σ.nJ, σ.an, σ.pa, x, σ.tr, σ.ag, σ.gv, σ.lf, σ.sr, σ.mk, σ.lk, σ.hs, σ.ch, σ.st, σ.sd, σ.sa)
def ai_S.wTr (σ : ai_S) (x : Nat → Nat) : ai_S := (σ.rf, σ.hd, σ.sz, σ.el, σ.nT, σ.nQ, σ.nJ, σ.an, σ.pa, σ.wa, x, σ.ag, σ.gv, σ.lf, σ.sr, σ.mk, σ.lk, σ.hs, σ.ch, σ.st, σ.sd, σ.sa)
def ai_S.wAg (σ : ai_S) (x : Nat → Nat) : ai_S := (σ.rf, σ.hd, σ.sz, σ.el, σ.nT, σ.nQ, σ.nJ, σ.an, σ.pa, σ.wa, σ.tr, x, σ.gv, σ.lf, σ.sr, σ.mk, σ.lk, σ.hs, σ.ch, σ.st, σ.sd, σ.sa)
def ai_S.wGv (σ : ai_S) (x : Nat → Nat → Nat) : ai_S := (σ.rf, σ.hd, σ.sz, σ.el, σ.nT, σ.nQ, σ.nJ, σ.an, σ.pa, σ.wa, σ.tr, σ.ag, x, σ.lf, σ.sr, σ.mk, σ.lk, σ.hs, σ.ch, σ.st, σ.sd, σ.sa)
def ai_S.wLf (σ : ai_S) (x : Nat → Bool) : ai_S := (σ.rf, σ.hd, σ.sz, σ.el, σ.nT, σ.nQ, σ.nJ, σ.an, σ.pa, σ.wa, σ.tr, σ.ag, σ.gv, x, σ.sr, σ.mk, σ.lk, σ.hs, σ.ch, σ.st, σ.sd, σ.sa)
def ai_S.wSr (σ : ai_S) (x : Nat → Int32) : ai_S := (σ.rf, σ.hd, σ.sz, σ.el, σ.nT, σ.nQ, σ.nJ, σ.an, σ.pa, σ.wa, σ.tr, σ.ag, σ.gv, σ.lf, x, σ.mk, σ.lk, σ.hs, σ.ch, σ.st, σ.sd, σ.sa)
def ai_S.wMk (σ : ai_S) (x : Nat) : ai_S := (σ.rf, σ.hd, σ.sz, σ.el, σ.nT, σ.nQ, σ.nJ, σ.an, σ.pa, σ.wa, σ.tr, σ.ag, σ.gv, σ.lf, σ.sr, x, σ.lk, σ.hs, σ.ch, σ.st, σ.sd, σ.sa)
def ai_S.wLk (σ : ai_S) (x : Nat) : ai_S := (σ.rf, σ.hd, σ.sz, σ.el, σ.nT, σ.nQ, σ.nJ, σ.an, σ.pa, σ.wa, σ.tr, σ.ag, σ.gv, σ.lf, σ.sr, σ.mk, x, σ.hs, σ.ch, σ.st, σ.sd, σ.sa)
def ai_S.wHs (σ : ai_S) (x : Nat) : ai_S := (σ.rf, σ.hd, σ.sz, σ.el, σ.nT, σ.nQ, σ.nJ, σ.an, σ.pa, σ.wa, σ.tr, σ.ag, σ.gv, σ.lf, σ.sr, σ.mk, σ.lk, x, σ.ch, σ.st, σ.sd, σ.sa)
def ai_S.wCh (σ : ai_S) (x : Nat → Nat) : ai_S := (σ.rf, σ.hd, σ.sz, σ.el, σ.nT, σ.nQ, σ.nJ, σ.an, σ.pa, σ.wa, σ.tr, σ.ag, σ.gv, σ.lf, σ.sr, σ.mk, σ.lk, σ.hs, x, σ.st, σ.sd, σ.sa)
def ai_S.wSt (σ : ai_S) (x : Nat) : ai_S := (σ.rf, σ.hd, σ.sz, σ.el, σ.nT, σ.nQ, σ.nJ, σ.an, σ.pa, σ.wa, σ.tr, σ.ag, σ.gv, σ.lf, σ.sr, σ.mk, σ.lk, σ.hs, σ.ch, x, σ.sd, σ.sa)
def ai_S.wSd (σ : ai_S) (x : Nat → Nat → Nat → Nat → Nat) : ai_S := (σ.rf, σ.hd, σ.sz, σ.el, σ.nT, σ.nQ, σ.nJ, σ.an, σ.pa, σ.wa, σ.tr, σ.ag, σ.gv, σ.lf, σ.sr, σ.mk, σ.lk, σ.hs, σ.ch, σ.st, x, σ.sa)
def ai_S.wSa (σ : ai_S) (x : Nat → Nat → Nat → Nat) : ai_S := (σ.rf, σ.hd, σ.sz, σ.el, σ.nT, σ.nQ, σ.nJ, σ.an, σ.pa, σ.wa, σ.tr, σ.ag, σ.gv, σ.lf, σ.sr, σ.mk, σ.lk, σ.hs, σ.ch, σ.st, σ.sd, x)
def ai_qb (b : Bool) : Nat := if b = true then 1 else 0
def ai_qn (p : Nat → Bool) : Nat → Nat
  | 0 => 0
  | n + 1 => ai_qn p n + ai_qb (p n)
def ai_qs (f : Nat → Nat) : Nat → Nat
  | 0 => 0
  | n + 1 => ai_qs f n + f n
def ai_qp (f : Nat → Nat) : Nat → Nat
  | 0 => 1
  | n + 1 => ai_qp f n * f n
def ai_ql (p : Nat → Bool) : Nat → Nat
  | 0 => 0
  | n + 1 => if ai_ql p n = 0 then (if p n = true then n + 1 else 0) else ai_ql p n
def ai_qa (f : Nat → Nat) : Nat → Nat
  | 0 => 0
  | n + 1 => if f (ai_qa f n) < f n then n else ai_qa f n
def ai_qt (f : Nat → Nat) : Nat → Nat
  | 0 => 0
  | n + 1 => if ai_qt f n < f n then f n else ai_qt f n
def ai_S.fair (σ : ai_S) (j c : Nat) : Bool := decide (1 ≤ σ.gv j c ∧ σ.gv j c ≤ 4)
def ai_S.said (σ : ai_S) (j c : Nat) : Nat := (σ.gv j c - 1) % 4
def ai_S.kind (σ : ai_S) (j c : Nat) : Nat := (σ.gv j c - 1) / 4
def ai_S.both (σ : ai_S) (y x c : Nat) : Bool := σ.fair x c && σ.fair y c
def ai_S.same (σ : ai_S) (y x : Nat) : Nat := ai_qn (σ.both y x) 200
def ai_S.diff (σ : ai_S) (y x : Nat) : Bool := decide (0 < ai_qn (fun c => σ.both y x c && !(σ.said x c == σ.said y c)) 200)
def ai_S.cpy (σ : ai_S) (y x : Nat) : Bool := !σ.diff y x && decide (6 ≤ σ.same y x)
def ai_S.cop (σ : ai_S) (j : Nat) : Nat := if σ.lf j = true then 0 else ai_ql (fun x => !σ.lf x && σ.cpy j x) j
def ai_S.ctd (σ : ai_S) (j c : Nat) : Bool := σ.fair j c && (decide (σ.cop j = 0) || !σ.fair (σ.cop j - 1) c)
def ai_S.look (σ : ai_S) (c : Nat) : Nat := ai_qn (fun j => σ.ctd j c) σ.nJ
def ai_S.top (σ : ai_S) (j q a b : Nat) : Nat := 1 + σ.sd j q a b
def ai_S.bot (σ : ai_S) (j q b : Nat) : Nat := σ.an q + σ.sa j q b
def ai_S.fac (σ : ai_S) (j q a b : Nat) : Nat := σ.top j q a b * ai_qp (fun o => if o = b then 1 else σ.bot j q o) (σ.an q)
def ai_S.whole (σ : ai_S) (j q : Nat) : Nat := ai_qp (σ.bot j q) (σ.an q)
def ai_S.wt (σ : ai_S) (c b : Nat) : Nat := if σ.tr c = 0 then ai_qp (fun j => if σ.ctd j c = true then σ.fac j (c % 5) (σ.said j c) b else 1) σ.nJ else if σ.tr c = b + 1 then 1 else 0
def ai_S.tot (σ : ai_S) (c : Nat) : Nat := ai_qs (σ.wt c) (σ.an (c % 5))
def ai_S.lead (σ : ai_S) (c : Nat) : Nat := ai_qa (σ.wt c) (σ.an (c % 5))
def ai_S.ended (σ : ai_S) (c : Nat) : Bool := decide (σ.tr c ≠ 0 ∨ (0 < σ.look c ∧ (σ.lk ≤ σ.look c ∨ σ.mk * σ.tot c ≤ 1000 * σ.wt c (σ.lead c))))
def ai_S.opn (σ : ai_S) (t : Nat) : Nat → Nat → Bool
  | 0, _ => false
  | k + 1, q => decide (q = 0) || (ai_S.opn σ t k (σ.pa q) && (σ.ended (5 * t + σ.pa q) && decide (σ.lead (5 * t + σ.pa q) = σ.wa q)))
def ai_S.isOpen (σ : ai_S) (c : Nat) : Bool := σ.opn (c / 5) 5 (c % 5)
def ai_S.best (σ : ai_S) (j c a : Nat) : Nat := ai_qt (fun b => σ.fac j (c % 5) a b * σ.wt c b) (σ.an (c % 5))
def ai_S.gnA (σ : ai_S) (j c : Nat) : Nat := ai_qs (σ.best j c) (σ.an (c % 5)) - σ.whole j (c % 5) * σ.wt c (σ.lead c)
def ai_S.gnB (σ : ai_S) (j c : Nat) : Nat := σ.whole j (c % 5) * σ.tot c
def ai_S.there (σ : ai_S) (c : Nat) : Bool := decide (c / 5 < σ.nT ∧ c % 5 < σ.nQ)
def ai_S.nxt (σ : ai_S) (j : Nat) : Nat → Nat
  | 0 => 0
  | c + 1 => if (σ.there c && (σ.isOpen c && (!σ.ended c && decide (σ.gv j c = 0)))) = true then (if ai_S.nxt σ j c = 0 then c + 1 else if σ.gnA j (ai_S.nxt σ j c - 1) * σ.gnB j c < σ.gnA j c * σ.gnB j (ai_S.nxt σ j c - 1) then c + 1 else ai_S.nxt σ j c) else ai_S.nxt σ j c
def ai_S.totB (σ : ai_S) (q : Nat) : Nat → Nat
  | 0 => 1
  | t + 1 => if σ.isOpen (5 * t + q) = true then ai_S.totB σ q t * σ.tot (5 * t + q) else ai_S.totB σ q t
def ai_S.totA (σ : ai_S) (q b : Nat) : Nat → Nat
  | 0 => 0
  | t + 1 => if σ.isOpen (5 * t + q) = true then ai_S.totA σ q b t * σ.tot (5 * t + q) + σ.totB q t * σ.wt (5 * t + q) b else ai_S.totA σ q b t
def ai_S.given (σ : ai_S) (j : Nat) : Nat := ai_qn (fun c => !(σ.gv j c == 0)) 200
def ai_RX (σ : ai_S) (I : Nat → Nat → Int32) (L : Nat → Nat → Int64) : Prop := (I 1 4 = nI σ.nT) ∧ (I 1 5 = nI σ.nQ) ∧ (I 1 6 = nI σ.nJ) ∧ (I 1 7 = nI σ.mk) ∧ (I 1 8 = nI σ.lk) ∧ (I 1 9 = nI σ.hs) ∧ (I 1 11 = nI σ.st) ∧ (∀ i, i < σ.st → I 6 i = nI (σ.ch i)) ∧ (∀ i, i < 7 → I 7 i = σ.rf i) ∧ (∀ s, s < 8 → I (55 + 2 * s) 0 = nI (if 100 < σ.hd s then 1 else 0)) ∧ (∀ s, s < 8 → I (55 + 2 * s) 1 = nI (if 100 < σ.hd s then 0 else σ.hd s) - 1) ∧ (∀ s, s < 8 → 100 < σ.hd s → I (55 + 2 * s) 2 = nI (σ.hd s - 101)) ∧ (∀ s, s < 8 → I (55 + 2 * s) 3 = nI (σ.sz s)) ∧ (∀ s, s < 8 → ∀ i, i < σ.sz s → L (55 + 2 * s + 1) i = σ.el s i) ∧ (∀ q, q < 5 → q < σ.nQ → I (71 + q) 0 = nI (σ.an q)) ∧ (∀ q, q < 5 → 0 < q → q < σ.nQ → I (71 + q) 1 = nI (σ.pa q)) ∧ (∀ q, q < 5 → 0 < q → q < σ.nQ → I (71 + q) 2 = nI (σ.wa q)) ∧ (∀ j, j < 24 → I (76 + 4 * j) 0 = nI (ai_qb (σ.lf j))) ∧ (∀ j, j < 24 → I (76 + 4 * j) 1 = nI (σ.given j)) ∧ (∀ j, j < 24 → I (76 + 4 * j) 2 = σ.sr j) ∧ (∀ j, j < 24 → I (76 + 4 * j) 3 = nI (σ.cop j) - 1) ∧ (∀ y x, x < y → y < 24 → σ.lf x = false → σ.lf y = false → I (76 + 4 * y + 1) x = (if σ.diff y x = true then -1 else nI (σ.same y x))) ∧ (∀ j q a b, j < 24 → q < 5 → a < 4 → b < 4 → I (76 + 4 * j + 2) ((q * 4 + a) * 4 + b) = nI (σ.sd j q a b)) ∧ (∀ j q b, j < 24 → q < 5 → b < 4 → I (76 + 4 * j + 3) (q * 4 + b) = nI (σ.sa j q b)) ∧ (∀ c, c < 200 → I (172 + 2 * c) 0 = nI (σ.tr c) - 1) ∧ (∀ c, c < 200 → I (172 + 2 * c) 1 = nI (σ.ag c) - 1) ∧ (∀ c j, c < 200 → j < 24 → I (172 + 2 * c + 1) j = nI (σ.gv j c))
theorem ai_RX.nT {σ : ai_S} {I : Nat → Nat → Int32} {L : Nat → Nat → Int64} (h : ai_RX σ I L) : I 1 4 = nI σ.nT := h.1
theorem ai_RX.nQ {σ : ai_S} {I : Nat → Nat → Int32} {L : Nat → Nat → Int64} (h : ai_RX σ I L) : I 1 5 = nI σ.nQ := h.2.1
theorem ai_RX.nJ {σ : ai_S} {I : Nat → Nat → Int32} {L : Nat → Nat → Int64} (h : ai_RX σ I L) : I 1 6 = nI σ.nJ := h.2.2.1
theorem ai_RX.mk {σ : ai_S} {I : Nat → Nat → Int32} {L : Nat → Nat → Int64} (h : ai_RX σ I L) : I 1 7 = nI σ.mk := h.2.2.2.1
theorem ai_RX.lk {σ : ai_S} {I : Nat → Nat → Int32} {L : Nat → Nat → Int64} (h : ai_RX σ I L) : I 1 8 = nI σ.lk := h.2.2.2.2.1
theorem ai_RX.hs {σ : ai_S} {I : Nat → Nat → Int32} {L : Nat → Nat → Int64} (h : ai_RX σ I L) : I 1 9 = nI σ.hs := h.2.2.2.2.2.1
theorem ai_RX.st {σ : ai_S} {I : Nat → Nat → Int32} {L : Nat → Nat → Int64} (h : ai_RX σ I L) : I 1 11 = nI σ.st := h.2.2.2.2.2.2.1
theorem ai_RX.ch {σ : ai_S} {I : Nat → Nat → Int32} {L : Nat → Nat → Int64} (h : ai_RX σ I L) : ∀ i, i < σ.st → I 6 i = nI (σ.ch i) := h.2.2.2.2.2.2.2.1
theorem ai_RX.rf {σ : ai_S} {I : Nat → Nat → Int32} {L : Nat → Nat → Int64} (h : ai_RX σ I L) : ∀ i, i < 7 → I 7 i = σ.rf i := h.2.2.2.2.2.2.2.2.1
theorem ai_RX.wr {σ : ai_S} {I : Nat → Nat → Int32} {L : Nat → Nat → Int64} (h : ai_RX σ I L) : ∀ s, s < 8 → I (55 + 2 * s) 0 = nI (if 100 < σ.hd s then 1 else 0) := h.2.2.2.2.2.2.2.2.2.1
theorem ai_RX.jd {σ : ai_S} {I : Nat → Nat → Int32} {L : Nat → Nat → Int64} (h : ai_RX σ I L) : ∀ s, s < 8 → I (55 + 2 * s) 1 = nI (if 100 < σ.hd s then 0 else σ.hd s) - 1 := h.2.2.2.2.2.2.2.2.2.2.1
theorem ai_RX.so {σ : ai_S} {I : Nat → Nat → Int32} {L : Nat → Nat → Int64} (h : ai_RX σ I L) : ∀ s, s < 8 → 100 < σ.hd s → I (55 + 2 * s) 2 = nI (σ.hd s - 101) := h.2.2.2.2.2.2.2.2.2.2.2.1
theorem ai_RX.sz {σ : ai_S} {I : Nat → Nat → Int32} {L : Nat → Nat → Int64} (h : ai_RX σ I L) : ∀ s, s < 8 → I (55 + 2 * s) 3 = nI (σ.sz s) := h.2.2.2.2.2.2.2.2.2.2.2.2.1
theorem ai_RX.el {σ : ai_S} {I : Nat → Nat → Int32} {L : Nat → Nat → Int64} (h : ai_RX σ I L) : ∀ s, s < 8 → ∀ i, i < σ.sz s → L (55 + 2 * s + 1) i = σ.el s i := h.2.2.2.2.2.2.2.2.2.2.2.2.2.1
theorem ai_RX.an {σ : ai_S} {I : Nat → Nat → Int32} {L : Nat → Nat → Int64} (h : ai_RX σ I L) : ∀ q, q < 5 → q < σ.nQ → I (71 + q) 0 = nI (σ.an q) := h.2.2.2.2.2.2.2.2.2.2.2.2.2.2.1
theorem ai_RX.pa {σ : ai_S} {I : Nat → Nat → Int32} {L : Nat → Nat → Int64} (h : ai_RX σ I L) : ∀ q, q < 5 → 0 < q → q < σ.nQ → I (71 + q) 1 = nI (σ.pa q) := h.2.2.2.2.2.2.2.2.2.2.2.2.2.2.2.1
theorem ai_RX.wa {σ : ai_S} {I : Nat → Nat → Int32} {L : Nat → Nat → Int64} (h : ai_RX σ I L) : ∀ q, q < 5 → 0 < q → q < σ.nQ → I (71 + q) 2 = nI (σ.wa q) := h.2.2.2.2.2.2.2.2.2.2.2.2.2.2.2.2.1
theorem ai_RX.lf {σ : ai_S} {I : Nat → Nat → Int32} {L : Nat → Nat → Int64} (h : ai_RX σ I L) : ∀ j, j < 24 → I (76 + 4 * j) 0 = nI (ai_qb (σ.lf j)) := h.2.2.2.2.2.2.2.2.2.2.2.2.2.2.2.2.2.1
theorem ai_RX.gn {σ : ai_S} {I : Nat → Nat → Int32} {L : Nat → Nat → Int64} (h : ai_RX σ I L) : ∀ j, j < 24 → I (76 + 4 * j) 1 = nI (σ.given j) := h.2.2.2.2.2.2.2.2.2.2.2.2.2.2.2.2.2.2.1
theorem ai_RX.sr {σ : ai_S} {I : Nat → Nat → Int32} {L : Nat → Nat → Int64} (h : ai_RX σ I L) : ∀ j, j < 24 → I (76 + 4 * j) 2 = σ.sr j := h.2.2.2.2.2.2.2.2.2.2.2.2.2.2.2.2.2.2.2.1
theorem ai_RX.og {σ : ai_S} {I : Nat → Nat → Int32} {L : Nat → Nat → Int64} (h : ai_RX σ I L) : ∀ j, j < 24 → I (76 + 4 * j) 3 = nI (σ.cop j) - 1 := h.2.2.2.2.2.2.2.2.2.2.2.2.2.2.2.2.2.2.2.2.1
theorem ai_RX.al {σ : ai_S} {I : Nat → Nat → Int32} {L : Nat → Nat → Int64} (h : ai_RX σ I L) : ∀ y x, x < y → y < 24 → σ.lf x = false → σ.lf y = false → I (76 + 4 * y + 1) x = (if σ.diff y x = true then -1 else nI (σ.same y x)) := h.2.2.2.2.2.2.2.2.2.2.2.2.2.2.2.2.2.2.2.2.2.1
theorem ai_RX.sd {σ : ai_S} {I : Nat → Nat → Int32} {L : Nat → Nat → Int64} (h : ai_RX σ I L) : ∀ j q a b, j < 24 → q < 5 → a < 4 → b < 4 → I (76 + 4 * j + 2) ((q * 4 + a) * 4 + b) = nI (σ.sd j q a b) := h.2.2.2.2.2.2.2.2.2.2.2.2.2.2.2.2.2.2.2.2.2.2.1
theorem ai_RX.sa {σ : ai_S} {I : Nat → Nat → Int32} {L : Nat → Nat → Int64} (h : ai_RX σ I L) : ∀ j q b, j < 24 → q < 5 → b < 4 → I (76 + 4 * j + 3) (q * 4 + b) = nI (σ.sa j q b) := h.2.2.2.2.2.2.2.2.2.2.2.2.2.2.2.2.2.2.2.2.2.2.2.1
theorem ai_RX.tr {σ : ai_S} {I : Nat → Nat → Int32} {L : Nat → Nat → Int64} (h : ai_RX σ I L) : ∀ c, c < 200 → I (172 + 2 * c) 0 = nI (σ.tr c) - 1 := h.2.2.2.2.2.2.2.2.2.2.2.2.2.2.2.2.2.2.2.2.2.2.2.2.1
theorem ai_RX.ag {σ : ai_S} {I : Nat → Nat → Int32} {L : Nat → Nat → Int64} (h : ai_RX σ I L) : ∀ c, c < 200 → I (172 + 2 * c) 1 = nI (σ.ag c) - 1 := h.2.2.2.2.2.2.2.2.2.2.2.2.2.2.2.2.2.2.2.2.2.2.2.2.2.1
theorem ai_RX.nt {σ : ai_S} {I : Nat → Nat → Int32} {L : Nat → Nat → Int64} (h : ai_RX σ I L) : ∀ c j, c < 200 → j < 24 → I (172 + 2 * c + 1) j = nI (σ.gv j c) := h.2.2.2.2.2.2.2.2.2.2.2.2.2.2.2.2.2.2.2.2.2.2.2.2.2.2
def ai_RM (σ : ai_S) (I : Nat → Nat → Int32) (L : Nat → Nat → Int64) : Prop := (∀ i, i < 7 → I 573 (i + 1) = σ.rf i) ∧ (∀ s, s < 8 → I 574 s = nI (σ.hd s) - 1) ∧ (∀ s, s < 8 → I 575 s = nI (σ.sz s)) ∧ (∀ s, s < 8 → ∀ i, i < σ.sz s → L 576 (100 * s + i) = σ.el s i) ∧ (I 572 5 = nI σ.nT) ∧ (I 572 6 = nI σ.nQ) ∧ (I 572 7 = nI σ.nJ) ∧ (∀ q, q < σ.nQ → I 578 q = nI (σ.an q)) ∧ (∀ q, 0 < q → q < σ.nQ → I 579 q = nI (σ.pa q)) ∧ (∀ q, 0 < q → q < σ.nQ → I 580 q = nI (σ.wa q)) ∧ (∀ c, c < 200 → c % 5 < σ.nQ → I 581 c = nI (σ.tr c) - 1) ∧ (∀ c, c < 200 → c % 5 < σ.nQ → I 582 c = nI (σ.ag c) - 1) ∧ (∀ j, j < 24 → I 583 j = nI (ai_qb (σ.lf j))) ∧ (∀ j, j < 24 → I 584 j = σ.sr j) ∧ (∀ j, j < 24 → σ.lf j = false → I 585 j = nI (σ.given j)) ∧ (∀ j c, j < 24 → c < 200 → σ.lf j = false → c % 5 < σ.nQ → I 586 (200 * j + c) = (if σ.gv j c = 0 then -1 else nI (σ.said j c))) ∧ (∀ j c, j < 24 → c < 200 → σ.lf j = false → c % 5 < σ.nQ → σ.gv j c ≠ 0 → I 587 (200 * j + c) = nI (σ.kind j c)) ∧ (I 572 20 = nI 1 ∨ (I 572 20 = nI 0 ∧ ∀ j, j < σ.nJ → I 589 j = nI (σ.cop j) - 1 ∧ ∀ c, c < 200 → I 588 (200 * j + c) = nI (ai_qb (σ.ctd j c)))) ∧ (I 572 21 = nI σ.mk) ∧ (I 572 22 = nI σ.lk) ∧ (I 572 23 = nI σ.hs) ∧ (∀ j q a b, j < 24 → q < σ.nQ → a < 4 → b < 4 → I 590 (((5 * j + q) * 4 + a) * 4 + b) = nI (σ.top j q a b)) ∧ (∀ j q b, j < 24 → q < σ.nQ → b < 4 → I 591 ((5 * j + q) * 4 + b) = nI (σ.bot j q b)) ∧ (∀ i, i < σ.st → I 594 i = nI (σ.ch i)) ∧ (I 572 29 = nI σ.st)
theorem ai_RM.rf {σ : ai_S} {I : Nat → Nat → Int32} {L : Nat → Nat → Int64} (h : ai_RM σ I L) : ∀ i, i < 7 → I 573 (i + 1) = σ.rf i := h.1
theorem ai_RM.hd {σ : ai_S} {I : Nat → Nat → Int32} {L : Nat → Nat → Int64} (h : ai_RM σ I L) : ∀ s, s < 8 → I 574 s = nI (σ.hd s) - 1 := h.2.1
theorem ai_RM.sz {σ : ai_S} {I : Nat → Nat → Int32} {L : Nat → Nat → Int64} (h : ai_RM σ I L) : ∀ s, s < 8 → I 575 s = nI (σ.sz s) := h.2.2.1
theorem ai_RM.el {σ : ai_S} {I : Nat → Nat → Int32} {L : Nat → Nat → Int64} (h : ai_RM σ I L) : ∀ s, s < 8 → ∀ i, i < σ.sz s → L 576 (100 * s + i) = σ.el s i := h.2.2.2.1
theorem ai_RM.nT {σ : ai_S} {I : Nat → Nat → Int32} {L : Nat → Nat → Int64} (h : ai_RM σ I L) : I 572 5 = nI σ.nT := h.2.2.2.2.1
theorem ai_RM.nQ {σ : ai_S} {I : Nat → Nat → Int32} {L : Nat → Nat → Int64} (h : ai_RM σ I L) : I 572 6 = nI σ.nQ := h.2.2.2.2.2.1
theorem ai_RM.nJ {σ : ai_S} {I : Nat → Nat → Int32} {L : Nat → Nat → Int64} (h : ai_RM σ I L) : I 572 7 = nI σ.nJ := h.2.2.2.2.2.2.1
theorem ai_RM.an {σ : ai_S} {I : Nat → Nat → Int32} {L : Nat → Nat → Int64} (h : ai_RM σ I L) : ∀ q, q < σ.nQ → I 578 q = nI (σ.an q) := h.2.2.2.2.2.2.2.1
theorem ai_RM.pa {σ : ai_S} {I : Nat → Nat → Int32} {L : Nat → Nat → Int64} (h : ai_RM σ I L) : ∀ q, 0 < q → q < σ.nQ → I 579 q = nI (σ.pa q) := h.2.2.2.2.2.2.2.2.1
theorem ai_RM.wa {σ : ai_S} {I : Nat → Nat → Int32} {L : Nat → Nat → Int64} (h : ai_RM σ I L) : ∀ q, 0 < q → q < σ.nQ → I 580 q = nI (σ.wa q) := h.2.2.2.2.2.2.2.2.2.1
theorem ai_RM.tr {σ : ai_S} {I : Nat → Nat → Int32} {L : Nat → Nat → Int64} (h : ai_RM σ I L) : ∀ c, c < 200 → c % 5 < σ.nQ → I 581 c = nI (σ.tr c) - 1 := h.2.2.2.2.2.2.2.2.2.2.1
theorem ai_RM.ag {σ : ai_S} {I : Nat → Nat → Int32} {L : Nat → Nat → Int64} (h : ai_RM σ I L) : ∀ c, c < 200 → c % 5 < σ.nQ → I 582 c = nI (σ.ag c) - 1 := h.2.2.2.2.2.2.2.2.2.2.2.1
theorem ai_RM.lf {σ : ai_S} {I : Nat → Nat → Int32} {L : Nat → Nat → Int64} (h : ai_RM σ I L) : ∀ j, j < 24 → I 583 j = nI (ai_qb (σ.lf j)) := h.2.2.2.2.2.2.2.2.2.2.2.2.1
theorem ai_RM.sr {σ : ai_S} {I : Nat → Nat → Int32} {L : Nat → Nat → Int64} (h : ai_RM σ I L) : ∀ j, j < 24 → I 584 j = σ.sr j := h.2.2.2.2.2.2.2.2.2.2.2.2.2.1
theorem ai_RM.gn {σ : ai_S} {I : Nat → Nat → Int32} {L : Nat → Nat → Int64} (h : ai_RM σ I L) : ∀ j, j < 24 → σ.lf j = false → I 585 j = nI (σ.given j) := h.2.2.2.2.2.2.2.2.2.2.2.2.2.2.1
theorem ai_RM.gv {σ : ai_S} {I : Nat → Nat → Int32} {L : Nat → Nat → Int64} (h : ai_RM σ I L) : ∀ j c, j < 24 → c < 200 → σ.lf j = false → c % 5 < σ.nQ → I 586 (200 * j + c) = (if σ.gv j c = 0 then -1 else nI (σ.said j c)) := h.2.2.2.2.2.2.2.2.2.2.2.2.2.2.2.1
theorem ai_RM.mn {σ : ai_S} {I : Nat → Nat → Int32} {L : Nat → Nat → Int64} (h : ai_RM σ I L) : ∀ j c, j < 24 → c < 200 → σ.lf j = false → c % 5 < σ.nQ → σ.gv j c ≠ 0 → I 587 (200 * j + c) = nI (σ.kind j c) := h.2.2.2.2.2.2.2.2.2.2.2.2.2.2.2.2.1
theorem ai_RM.old {σ : ai_S} {I : Nat → Nat → Int32} {L : Nat → Nat → Int64} (h : ai_RM σ I L) : I 572 20 = nI 1 ∨ (I 572 20 = nI 0 ∧ ∀ j, j < σ.nJ → I 589 j = nI (σ.cop j) - 1 ∧ ∀ c, c < 200 → I 588 (200 * j + c) = nI (ai_qb (σ.ctd j c))) := h.2.2.2.2.2.2.2.2.2.2.2.2.2.2.2.2.2.1
theorem ai_RM.mk {σ : ai_S} {I : Nat → Nat → Int32} {L : Nat → Nat → Int64} (h : ai_RM σ I L) : I 572 21 = nI σ.mk := h.2.2.2.2.2.2.2.2.2.2.2.2.2.2.2.2.2.2.1
theorem ai_RM.lk {σ : ai_S} {I : Nat → Nat → Int32} {L : Nat → Nat → Int64} (h : ai_RM σ I L) : I 572 22 = nI σ.lk := h.2.2.2.2.2.2.2.2.2.2.2.2.2.2.2.2.2.2.2.1
theorem ai_RM.hs {σ : ai_S} {I : Nat → Nat → Int32} {L : Nat → Nat → Int64} (h : ai_RM σ I L) : I 572 23 = nI σ.hs := h.2.2.2.2.2.2.2.2.2.2.2.2.2.2.2.2.2.2.2.2.1
theorem ai_RM.tp {σ : ai_S} {I : Nat → Nat → Int32} {L : Nat → Nat → Int64} (h : ai_RM σ I L) : ∀ j q a b, j < 24 → q < σ.nQ → a < 4 → b < 4 → I 590 (((5 * j + q) * 4 + a) * 4 + b) = nI (σ.top j q a b) := h.2.2.2.2.2.2.2.2.2.2.2.2.2.2.2.2.2.2.2.2.2.1
theorem ai_RM.bt {σ : ai_S} {I : Nat → Nat → Int32} {L : Nat → Nat → Int64} (h : ai_RM σ I L) : ∀ j q b, j < 24 → q < σ.nQ → b < 4 → I 591 ((5 * j + q) * 4 + b) = nI (σ.bot j q b) := h.2.2.2.2.2.2.2.2.2.2.2.2.2.2.2.2.2.2.2.2.2.2.1
theorem ai_RM.ch {σ : ai_S} {I : Nat → Nat → Int32} {L : Nat → Nat → Int64} (h : ai_RM σ I L) : ∀ i, i < σ.st → I 594 i = nI (σ.ch i) := h.2.2.2.2.2.2.2.2.2.2.2.2.2.2.2.2.2.2.2.2.2.2.2.1
theorem ai_RM.st {σ : ai_S} {I : Nat → Nat → Int32} {L : Nat → Nat → Int64} (h : ai_RM σ I L) : I 572 29 = nI σ.st := h.2.2.2.2.2.2.2.2.2.2.2.2.2.2.2.2.2.2.2.2.2.2.2.2
def ai_IV (σ : ai_S) : Prop := (σ.nT ≤ 40) ∧ (σ.nQ ≤ 5) ∧ (σ.nJ ≤ 24) ∧ (1 ≤ σ.mk ∧ σ.mk ≤ 1000) ∧ (1 ≤ σ.lk ∧ σ.lk ≤ 24) ∧ (σ.hs ≤ 100) ∧ (σ.st ≤ 30) ∧ (∀ i, i < σ.st → σ.ch i ≤ 200) ∧ (∀ s, s < 8 → σ.hd s ≤ σ.nJ ∨ (101 ≤ σ.hd s ∧ σ.hd s ≤ 104)) ∧ (∀ s, s < 8 → σ.sz s ≤ 100) ∧ (∀ q, q < σ.nQ → 2 ≤ σ.an q ∧ σ.an q ≤ 4) ∧ (∀ q, 0 < q → q < σ.nQ → σ.pa q < q ∧ σ.wa q < σ.an (σ.pa q)) ∧ (∀ c, c < 200 → σ.tr c ≠ 0 → c / 5 < σ.nT ∧ c % 5 < σ.nQ ∧ σ.tr c ≤ σ.an (c % 5)) ∧ (∀ c, c < 200 → σ.ag c ≠ 0 → c / 5 < σ.nT ∧ c % 5 < σ.nQ ∧ σ.ag c ≤ σ.an (c % 5)) ∧ (∀ j c, c < 200 → σ.gv j c ≠ 0 → j < σ.nJ ∧ σ.lf j = false ∧ c / 5 < σ.nT ∧ c % 5 < σ.nQ ∧ σ.said j c < σ.an (c % 5) ∧ σ.gv j c ≤ 12) ∧ (∀ j, σ.lf j = true → j < σ.nJ) ∧ (∀ j q b, j < 24 → q < σ.nQ → b < σ.an q → ai_qs (fun a => σ.sd j q a b) (σ.an q) = σ.sa j q b) ∧ (∀ j q, j < 24 → q < σ.nQ → ai_qs (σ.sa j q) (σ.an q) ≤ 40) ∧ (∀ j q a b, j < 24 → σ.nQ ≤ q → σ.sd j q a b = 0 ∧ σ.sa j q b = 0) ∧ (∀ j q a b, σ.sd j q a b ≤ 40 ∧ σ.sa j q b ≤ 40)
theorem ai_IV.nT {σ : ai_S} (h : ai_IV σ) : σ.nT ≤ 40 := h.1
theorem ai_IV.nQ {σ : ai_S} (h : ai_IV σ) : σ.nQ ≤ 5 := h.2.1
theorem ai_IV.nJ {σ : ai_S} (h : ai_IV σ) : σ.nJ ≤ 24 := h.2.2.1
theorem ai_IV.mk {σ : ai_S} (h : ai_IV σ) : 1 ≤ σ.mk ∧ σ.mk ≤ 1000 := h.2.2.2.1
theorem ai_IV.lk {σ : ai_S} (h : ai_IV σ) : 1 ≤ σ.lk ∧ σ.lk ≤ 24 := h.2.2.2.2.1
theorem ai_IV.hs {σ : ai_S} (h : ai_IV σ) : σ.hs ≤ 100 := h.2.2.2.2.2.1
theorem ai_IV.st {σ : ai_S} (h : ai_IV σ) : σ.st ≤ 30 := h.2.2.2.2.2.2.1
theorem ai_IV.ch {σ : ai_S} (h : ai_IV σ) : ∀ i, i < σ.st → σ.ch i ≤ 200 := h.2.2.2.2.2.2.2.1
theorem ai_IV.hd {σ : ai_S} (h : ai_IV σ) : ∀ s, s < 8 → σ.hd s ≤ σ.nJ ∨ (101 ≤ σ.hd s ∧ σ.hd s ≤ 104) := h.2.2.2.2.2.2.2.2.1
theorem ai_IV.sz {σ : ai_S} (h : ai_IV σ) : ∀ s, s < 8 → σ.sz s ≤ 100 := h.2.2.2.2.2.2.2.2.2.1
theorem ai_IV.an {σ : ai_S} (h : ai_IV σ) : ∀ q, q < σ.nQ → 2 ≤ σ.an q ∧ σ.an q ≤ 4 := h.2.2.2.2.2.2.2.2.2.2.1
theorem ai_IV.pa {σ : ai_S} (h : ai_IV σ) : ∀ q, 0 < q → q < σ.nQ → σ.pa q < q ∧ σ.wa q < σ.an (σ.pa q) := h.2.2.2.2.2.2.2.2.2.2.2.1
theorem ai_IV.tr {σ : ai_S} (h : ai_IV σ) : ∀ c, c < 200 → σ.tr c ≠ 0 → c / 5 < σ.nT ∧ c % 5 < σ.nQ ∧ σ.tr c ≤ σ.an (c % 5) := h.2.2.2.2.2.2.2.2.2.2.2.2.1
theorem ai_IV.ag {σ : ai_S} (h : ai_IV σ) : ∀ c, c < 200 → σ.ag c ≠ 0 → c / 5 < σ.nT ∧ c % 5 < σ.nQ ∧ σ.ag c ≤ σ.an (c % 5) := h.2.2.2.2.2.2.2.2.2.2.2.2.2.1
theorem ai_IV.gv {σ : ai_S} (h : ai_IV σ) : ∀ j c, c < 200 → σ.gv j c ≠ 0 → j < σ.nJ ∧ σ.lf j = false ∧ c / 5 < σ.nT ∧ c % 5 < σ.nQ ∧ σ.said j c < σ.an (c % 5) ∧ σ.gv j c ≤ 12 := h.2.2.2.2.2.2.2.2.2.2.2.2.2.2.1
theorem ai_IV.lf {σ : ai_S} (h : ai_IV σ) : ∀ j, σ.lf j = true → j < σ.nJ := h.2.2.2.2.2.2.2.2.2.2.2.2.2.2.2.1
theorem ai_IV.sd {σ : ai_S} (h : ai_IV σ) : ∀ j q b, j < 24 → q < σ.nQ → b < σ.an q → ai_qs (fun a => σ.sd j q a b) (σ.an q) = σ.sa j q b := h.2.2.2.2.2.2.2.2.2.2.2.2.2.2.2.2.1
theorem ai_IV.sa {σ : ai_S} (h : ai_IV σ) : ∀ j q, j < 24 → q < σ.nQ → ai_qs (σ.sa j q) (σ.an q) ≤ 40 := h.2.2.2.2.2.2.2.2.2.2.2.2.2.2.2.2.2.1
theorem ai_IV.sz0 {σ : ai_S} (h : ai_IV σ) : ∀ j q a b, j < 24 → σ.nQ ≤ q → σ.sd j q a b = 0 ∧ σ.sa j q b = 0 := h.2.2.2.2.2.2.2.2.2.2.2.2.2.2.2.2.2.2.1
theorem ai_IV.sl {σ : ai_S} (h : ai_IV σ) : ∀ j q a b, σ.sd j q a b ≤ 40 ∧ σ.sa j q b ≤ 40 := h.2.2.2.2.2.2.2.2.2.2.2.2.2.2.2.2.2.2.2
theorem ai_RX.frame {σ : ai_S} {I I2 : Nat → Nat → Int32} {L : Nat → Nat → Int64} (h : ai_RX σ I L) (f : ∀ a, a < 8 ∨ 55 ≤ a → a < 572 → I2 a = I a) : ai_RX σ I2 L := by
  refine ⟨?_, ?_, ?_, ?_, ?_, ?_, ?_, ?_, ?_, ?_, ?_, ?_, ?_, h.el, ?_, ?_, ?_, ?_, ?_, ?_, ?_, ?_, ?_, ?_, ?_, ?_, ?_⟩
  · rw [f _ (by omega) (by omega)]; exact h.nT
  · rw [f _ (by omega) (by omega)]; exact h.nQ
  · rw [f _ (by omega) (by omega)]; exact h.nJ
  · rw [f _ (by omega) (by omega)]; exact h.mk
  · rw [f _ (by omega) (by omega)]; exact h.lk
  · rw [f _ (by omega) (by omega)]; exact h.hs
  · rw [f _ (by omega) (by omega)]; exact h.st
  · intro i h0; rw [f _ (by omega) (by omega)]; exact h.ch i h0
  · intro i h0; rw [f _ (by omega) (by omega)]; exact h.rf i h0
  · intro s h0; rw [f _ (by omega) (by omega)]; exact h.wr s h0
  · intro s h0; rw [f _ (by omega) (by omega)]; exact h.jd s h0
  · intro s h0 h1; rw [f _ (by omega) (by omega)]; exact h.so s h0 h1
  · intro s h0; rw [f _ (by omega) (by omega)]; exact h.sz s h0
  · intro q h0 h1; rw [f _ (by omega) (by omega)]; exact h.an q h0 h1
  · intro q h0 h1 h2; rw [f _ (by omega) (by omega)]; exact h.pa q h0 h1 h2
  · intro q h0 h1 h2; rw [f _ (by omega) (by omega)]; exact h.wa q h0 h1 h2
  · intro j h0; rw [f _ (by omega) (by omega)]; exact h.lf j h0
  · intro j h0; rw [f _ (by omega) (by omega)]; exact h.gn j h0
  · intro j h0; rw [f _ (by omega) (by omega)]; exact h.sr j h0
  · intro j h0; rw [f _ (by omega) (by omega)]; exact h.og j h0
  · intro y x h0 h1 h2 h3; rw [f _ (by omega) (by omega)]; exact h.al y x h0 h1 h2 h3
  · intro j q a b h0 h1 h2 h3; rw [f _ (by omega) (by omega)]; exact h.sd j q a b h0 h1 h2 h3
  · intro j q b h0 h1 h2; rw [f _ (by omega) (by omega)]; exact h.sa j q b h0 h1 h2
  · intro c h0; rw [f _ (by omega) (by omega)]; exact h.tr c h0
  · intro c h0; rw [f _ (by omega) (by omega)]; exact h.ag c h0
  · intro c j h0 h1; rw [f _ (by omega) (by omega)]; exact h.nt c j h0 h1
theorem ai_RM.frame {σ : ai_S} {I I2 : Nat → Nat → Int32} {L : Nat → Nat → Int64} (h : ai_RM σ I L) (f : ∀ a, 572 ≤ a → a ≠ 592 → a ≠ 593 → a < 595 → I2 a = I a) : ai_RM σ I2 L := by
  refine ⟨?_, ?_, ?_, h.el, ?_, ?_, ?_, ?_, ?_, ?_, ?_, ?_, ?_, ?_, ?_, ?_, ?_, ?_, ?_, ?_, ?_, ?_, ?_, ?_, ?_⟩
  · intro i h0; rw [f 573 (by omega) (by omega) (by omega) (by omega)]; exact h.rf i h0
  · intro s h0; rw [f 574 (by omega) (by omega) (by omega) (by omega)]; exact h.hd s h0
  · intro s h0; rw [f 575 (by omega) (by omega) (by omega) (by omega)]; exact h.sz s h0
  · rw [f 572 (by omega) (by omega) (by omega) (by omega)]; exact h.nT
  · rw [f 572 (by omega) (by omega) (by omega) (by omega)]; exact h.nQ
  · rw [f 572 (by omega) (by omega) (by omega) (by omega)]; exact h.nJ
  · intro q h0; rw [f 578 (by omega) (by omega) (by omega) (by omega)]; exact h.an q h0
  · intro q h0 h1; rw [f 579 (by omega) (by omega) (by omega) (by omega)]; exact h.pa q h0 h1
  · intro q h0 h1; rw [f 580 (by omega) (by omega) (by omega) (by omega)]; exact h.wa q h0 h1
  · intro c h0 h1; rw [f 581 (by omega) (by omega) (by omega) (by omega)]; exact h.tr c h0 h1
  · intro c h0 h1; rw [f 582 (by omega) (by omega) (by omega) (by omega)]; exact h.ag c h0 h1
  · intro j h0; rw [f 583 (by omega) (by omega) (by omega) (by omega)]; exact h.lf j h0
  · intro j h0; rw [f 584 (by omega) (by omega) (by omega) (by omega)]; exact h.sr j h0
  · intro j h0 h1; rw [f 585 (by omega) (by omega) (by omega) (by omega)]; exact h.gn j h0 h1
  · intro j c h0 h1 h2 h3; rw [f 586 (by omega) (by omega) (by omega) (by omega)]; exact h.gv j c h0 h1 h2 h3
  · intro j c h0 h1 h2 h3 h4; rw [f 587 (by omega) (by omega) (by omega) (by omega)]; exact h.mn j c h0 h1 h2 h3 h4
  · rw [f 572 (by omega) (by omega) (by omega) (by omega), f 589 (by omega) (by omega) (by omega) (by omega), f 588 (by omega) (by omega) (by omega) (by omega)]; exact h.old
  · rw [f 572 (by omega) (by omega) (by omega) (by omega)]; exact h.mk
  · rw [f 572 (by omega) (by omega) (by omega) (by omega)]; exact h.lk
  · rw [f 572 (by omega) (by omega) (by omega) (by omega)]; exact h.hs
  · intro j q a b h0 h1 h2 h3; rw [f 590 (by omega) (by omega) (by omega) (by omega)]; exact h.tp j q a b h0 h1 h2 h3
  · intro j q b h0 h1 h2; rw [f 591 (by omega) (by omega) (by omega) (by omega)]; exact h.bt j q b h0 h1 h2
  · intro i h0; rw [f 594 (by omega) (by omega) (by omega) (by omega)]; exact h.ch i h0
  · rw [f 572 (by omega) (by omega) (by omega) (by omega)]; exact h.st
