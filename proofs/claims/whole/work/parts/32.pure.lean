/-! THE PURE PART: what holds between the calls -/
/-- a texture cell of the class, T, holds the model's texture t -/
def TB (m : Mm) (T t : Int) : Prop := ((36 ≤ T ∧ T ≤ 70) ∧ kd T = (10, 12) ∧ kd (T + 1) = (20, 6) ∧ kd (T + 2) = (20, 5) ∧ kd (T + 3) = (20, 5)) ∧ (m T 0 = T + 1 ∧ m T 1 = T + 2 ∧ m T 2 = T + 3) ∧ (m T 4 = tex m t 0 ∧ m T 5 = m 93 (tex m t 0) ∧ m T 6 = 8 + tex m t 0) ∧ (m T 7 = tex m t 2 ∧ m T 8 = tex m t 3 ∧ m T 9 = tex m t 4 ∧ m T 10 = tex m t 5 ∧ m T 11 = tex m t 6) ∧ (∀ l : Nat, (l : Int) ≤ tex m t 4 → m (T + 1) l = fst' m t l) ∧ (∀ l : Nat, (l : Int) < tex m t 4 → m (T + 2) l = hv (tex m t 2) l ∧ m (T + 3) l = hv (tex m t 3) l)
def tcl (m : Mm) (t : Int) : Int := m 1 3 + 6 + 4 * t
def PLN (m : Mm) : Prop := (m 1 3 = 30 ∨ m 1 3 = 52) ∧ m 1 4 = 82 - m 1 3 ∧ m (m 1 3) 6 = m 90 4
def STC (m : Mm) : Prop := m 6 5 = m 90 3 ∧ ∀ s : Int, 0 ≤ s → s < m 90 3 → m 14 s = m 93 s ∧ m 15 s = m 94 s
def CSH (m : Mm) : Prop := (m 90 0 = 1 ∨ m 90 0 = 2 ∨ m 90 0 = 4 ∨ m 90 0 = 8) ∧ (1 ≤ m 90 1 ∧ m 90 1 ≤ 4) ∧ (m 90 2 = 1 ∨ m 90 2 = 2 ∨ m 90 2 = 4 ∨ m 90 2 = 8 ∨ m 90 2 = 16) ∧ (m 77 2 = m 90 0 ∧ m 77 3 = m 90 1 ∧ m 77 4 = m 90 2) ∧ (m 80 2 = m 90 0 ∧ m 80 3 = m 90 1 ∧ m 80 4 = m 90 2)
def SH (m : Mm) : Prop := PLN m ∧ KLM m ∧ TXM m ∧ STC m ∧ (∀ t : Int, isT m t → TB m (tcl m t) t) ∧ CSH m
/-- a place of the class against the model's number, and whether it is there -/
def CR (k r n th : Int) : Prop := (k ≤ 7 ∧ r = n ∧ -1000000 ≤ n ∧ n ≤ 1000000) ∨ (8 ≤ k ∧ ((th = 0 ∧ r = -2147483648 ∧ n = -1) ∨ (th = 1 ∧ r = n ∧ -1000000 ≤ n ∧ n ≤ 1000000)))
def ROWS (m : Mm) : Prop := ∀ s p : Int, 0 ≤ s → s < m 90 3 → 0 ≤ p → p < m 94 s → CR (m 93 s) (m (8 + s) p) (m 97 (400 * s + p)) (m 98 (400 * s + p))
def slt (m : Mm) (k : Int) : Int := (m 74 2 + k) % 21
def PST (m : Mm) (k j : Int) (N TH : Int → Int) : Prop := (0 ≤ m 76 j ∧ m 76 j < m 90 3) ∧ (∀ p : Int, 0 ≤ p → p < m 94 (m 76 j) → CR (m 93 (m 76 j)) (m (109 + j) p) (m 99 (2400 * k + (400 * m 76 j + p))) (m 100 (2400 * k + (400 * m 76 j + p)))) ∧ (∀ s p : Int, 0 ≤ s → s < m 90 3 → s ≠ m 76 j → 0 ≤ p → p < m 94 s → N (400 * s + p) = m 99 (2400 * k + (400 * s + p)) ∧ TH (400 * s + p) = m 100 (2400 * k + (400 * s + p)))
/-- the class's ring of rows -/
def RNG (n : Int) (m : Mm) : Prop := (0 ≤ m 74 3 ∧ m 74 3 ≤ 20) ∧ (0 ≤ m 74 2 ∧ m 74 2 < 21) ∧ (109 ≤ n ∧ n ≤ 130) ∧ (∀ j : Int, 0 ≤ j → j < 21 → m 75 j = if j < n - 109 then 109 + j else 0) ∧ (n = 130 ∨ (m 74 2 = 0 ∧ m 74 3 ≤ n - 109))
def ACT (m : Mm) : Prop := m 88 26 = m 74 3 ∧ ∀ k : Int, 0 ≤ k → k < m 74 3 → PST m k (slt m k) (if k + 1 = m 74 3 then m 97 else fun q => m 99 (2400 * (k + 1) + q)) (if k + 1 = m 74 3 then m 98 else fun q => m 100 (2400 * (k + 1) + q))
def IMG (m : Mm) : Prop := ∀ b : Int, 0 ≤ b → b < 2 → (m 29 b = 0 ∨ m 29 b = 1) ∧ m 108 b = m 29 b ∧ (m 29 b = 1 → ∀ s p : Int, 0 ≤ s → s < m 90 3 → 0 ≤ p → p < m 94 s → CR (m 93 s) (m (17 + 6 * b + s) p) (m 106 (2400 * b + (400 * s + p))) (m 107 (2400 * b + (400 * s + p))))
/-- how many lines are held, of the first so many of the model's places -/
def hct (f : Int → Int) : Nat → Int
  | 0 => 0
  | k + 1 => hct f k + (if f k = -1 then 0 else 1)
/-- a cache of the class, its rows c, c + 1, against the model's places from b on -/
def LRU (S W : Int) (cl cf ml mf : Int → Int) (b cc mc : Int) : Prop := ∀ t j : Int, 0 ≤ t → t < S → 0 ≤ j → j < W → cl (t * W + j) = ml (b + 4 * t + j) ∧ -1 ≤ ml (b + 4 * t + j) ∧ (ml (b + 4 * t + j) ≠ -1 → cf (t * W + j) ≤ cc ∧ mf (b + 4 * t + j) ≤ mc ∧ ∀ j' : Int, 0 ≤ j' → j' < W → ml (b + 4 * t + j') ≠ -1 → (cf (t * W + j) < cf (t * W + j') ↔ mf (b + 4 * t + j) < mf (b + 4 * t + j')))
def CAC (i : Int) (m : Mm) : Prop := LRU (m 90 0) (m 90 1) (m 78) (m 79) (m 103) (m 104) 0 (m 77 5) (m 88 36) ∧ m 77 6 = hct (m 103) 32 ∧ (0 ≤ m 77 5 ∧ m 77 5 ≤ i) ∧ (0 ≤ m 88 36 ∧ m 88 36 ≤ 2000 * i)
def TAL (i : Int) (m : Mm) : Prop := m 83 1 = m 88 34 ∧ m 83 2 = m 88 35 ∧ (0 ≤ m 83 1 ∧ m 83 1 ≤ i) ∧ (0 ≤ m 83 2 ∧ m 83 2 ≤ i) ∧ ∀ k : Int, 0 ≤ k → k < 2400 → m 84 k = m 105 k ∧ 0 ≤ m 84 k ∧ m 84 k ≤ i
def TAP (m : Mm) : Prop := m 1 1 = m 88 1 ∧ (0 ≤ m 1 1 ∧ m 1 1 ≤ 900) ∧ ∀ k : Int, 0 ≤ k → k < m 1 1 → m 2 k = w8 (m 89 k) ∧ 0 ≤ m 89 k ∧ m 89 k ≤ 255
def FLT (m : Mm) : Prop := m 3 2 = m 88 10 ∧ m 3 3 = m 88 11
def OUT (m : Mm) : Prop := m 88 30 = -1 ∧ (∀ k : Int, -2147483648 ≤ m (-1) k ∧ m (-1) k < 2147483648) ∧ m (-2) 0 = 1 ∧ m (-2) 1 = 250 ∧ m (-2) 2 = 244 ∧ m (-2) 3 = 248 ∧ m (-2) 4 = 240 ∧ m (-2) 5 = 224 ∧ m (-2) 6 = 192 ∧ m (-2) 7 = 128
def INV (i : Int) (h : Hq) : Prop := FX h.2 ∧ SH h.2 ∧ ROWS h.2 ∧ (RNG h.1 h.2 ∧ ACT h.2) ∧ IMG h.2 ∧ CAC i h.2 ∧ TAL i h.2 ∧ TAP h.2 ∧ FLT h.2 ∧ OUT h.2 ∧ (0 ≤ i ∧ i ≤ 600)
section
variable {i : Int} {h : Hq}
theorem INV.fx (I : INV i h) : FX h.2 := I.1
theorem INV.sh (I : INV i h) : SH h.2 := I.2.1
theorem INV.ro (I : INV i h) : ROWS h.2 := I.2.2.1
theorem INV.rn (I : INV i h) : RNG h.1 h.2 := I.2.2.2.1.1
theorem INV.ac (I : INV i h) : ACT h.2 := I.2.2.2.1.2
theorem INV.im (I : INV i h) : IMG h.2 := I.2.2.2.2.1
theorem INV.ca (I : INV i h) : CAC i h.2 := I.2.2.2.2.2.1
theorem INV.ta (I : INV i h) : TAL i h.2 := I.2.2.2.2.2.2.1
theorem INV.tp (I : INV i h) : TAP h.2 := I.2.2.2.2.2.2.2.1
theorem INV.fl (I : INV i h) : FLT h.2 := I.2.2.2.2.2.2.2.2.1
theorem INV.ou (I : INV i h) : OUT h.2 := I.2.2.2.2.2.2.2.2.2.1
theorem INV.ir (I : INV i h) : 0 ≤ i ∧ i ≤ 600 := I.2.2.2.2.2.2.2.2.2.2
theorem INV.pl (I : INV i h) : PLN h.2 := I.sh.1
theorem INV.kl (I : INV i h) : KLM h.2 := I.sh.2.1
theorem INV.tx (I : INV i h) : TXM h.2 := I.sh.2.2.1
theorem INV.st (I : INV i h) : STC h.2 := I.sh.2.2.2.1
theorem INV.tb (I : INV i h) {t : Int} (ht : isT h.2 t) : TB h.2 (tcl h.2 t) t := I.sh.2.2.2.2.1 t ht
theorem INV.cs (I : INV i h) : CSH h.2 := I.sh.2.2.2.2.2
/-- one call more -/
theorem INV.up (I : INV i h) (hi : i < 600) : INV (i + 1) h := by
  obtain ⟨a, b, c, d, e, f, g, t, u, v, w⟩ := I
  refine ⟨a, b, c, d, e, ⟨f.1, f.2.1, ⟨f.2.2.1.1, by have := f.2.2.1.2; omega⟩, ⟨f.2.2.2.1, by have := f.2.2.2.2; omega⟩⟩, ⟨g.1, g.2.1, ⟨g.2.2.1.1, by have := g.2.2.1.2; omega⟩, ⟨g.2.2.2.1.1, by have := g.2.2.2.1.2; omega⟩, fun k k0 k1 => ?_⟩, t, u, v, by omega⟩
  have := g.2.2.2.2 k k0 k1
  omega
end
/-- a call of both: they answer alike -/
def OKC (i : Int) (c md : Nat) (as : List Vl) (h : Hq) : Prop := ∃ (v : Vl) (h1 h2 : Hq), vm c ((2, 1) :: as) h = some (some v, h1) ∧ vm md ((2, 88) :: as) h1 = some (some v, h2) ∧ h1.2 (-1) = h.2 (-1) ∧ h2.2 (-1) = h.2 (-1) ∧ INV (i + 1) h2
theorem OKC.ro {i : Int} {c md : Nat} {as : List Vl} {h : Hq} (I : INV i h) (hi : i < 600) (v : Vl) (h1 : vm c ((2, 1) :: as) h = some (some v, h)) (h2 : vm md ((2, 88) :: as) h = some (some v, h)) : OKC i c md as h := ⟨v, h, h, h1, h2, rfl, rfl, I.up hi⟩
