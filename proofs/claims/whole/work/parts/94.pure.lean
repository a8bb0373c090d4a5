/-! THE PURE PART: ranks -/
def cG (f : Int → Int) (c : Int) : Nat → Int
  | 0 => 0
  | k + 1 => cG f c k + if f k > c then 1 else 0
def cE (f : Int → Int) (c : Int) : Nat → Int
  | 0 => 0
  | k + 1 => cE f c k + if f k = c then 1 else 0
def gB (f : Int → Int) (b : Int) : Nat → Int
  | 0 => 0
  | k + 1 => if f k ≥ b then gB f b k else max (gB f b k) (f k)
theorem cG_rng (f : Int → Int) (c : Int) : ∀ n : Nat, 0 ≤ cG f c n ∧ 0 ≤ cE f c n ∧ cG f c n + cE f c n ≤ n
  | 0 => by unfold cG cE; omega
  | n + 1 => by
    have := cG_rng f c n
    unfold cG cE
    split <;> split <;> omega
theorem cG_lt (f : Int → Int) {c c' : Int} (h : c' < c) : ∀ n : Nat, cG f c n + cE f c n ≤ cG f c' n
  | 0 => by unfold cG cE; omega
  | n + 1 => by
    have := cG_lt f h n
    unfold cG cE
    split <;> split <;> split <;> omega
theorem cE_mono (f : Int → Int) (c : Int) {a : Nat} : ∀ n : Nat, a ≤ n → cE f c a ≤ cE f c n
  | 0, h => by
    rw [show a = 0 by omega]
    exact Int.le_refl _
  | n + 1, h => by
    by_cases z : a = n + 1
    · rw [z]
      exact Int.le_refl _
    · have := cE_mono f c n (show a ≤ n by omega)
      rw [show cE f c (n + 1) = cE f c n + if f n = c then 1 else 0 from rfl]
      split <;> omega
theorem cE_at (f : Int → Int) (c : Int) {a n : Nat} (h : a < n) (e : f a = c) : cE f c a + 1 ≤ cE f c n := by
  have := cE_mono f c n (show a + 1 ≤ n by omega)
  rw [show cE f c (a + 1) = cE f c a + if f a = c then 1 else 0 from rfl, if_pos e] at this
  exact this
theorem gB_rng (f : Int → Int) {b : Int} (b0 : 0 < b) : ∀ n : Nat, (∀ k : Nat, k < n → 0 ≤ f k) → (0 ≤ gB f b n ∧ gB f b n < b) ∧ (gB f b n = 0 ∨ ∃ a : Nat, a < n ∧ f a = gB f b n) ∧ ∀ k : Nat, k < n → f k < b → f k ≤ gB f b n
  | 0, _ => by
    unfold gB
    exact ⟨by omega, Or.inl rfl, fun k hk => by omega⟩
  | n + 1, h => by
    obtain ⟨r, t, u⟩ := gB_rng f b0 n (fun k hk => h k (by omega))
    have h0 := h n (by omega)
    unfold gB
    by_cases z : f n ≥ b
    · rw [if_pos z]
      refine ⟨r, ?_, fun k hk hb => ?_⟩
      · rcases t with t | ⟨a, t1, t2⟩
        · exact Or.inl t
        · exact Or.inr ⟨a, by omega, t2⟩
      · by_cases w : k = n
        · rw [w] at hb
          omega
        · exact u k (by omega) hb
    · rw [if_neg z]
      refine ⟨by omega, ?_, fun k hk hb => ?_⟩
      · by_cases w : gB f b n ≤ f n
        · rw [show max (gB f b n) (f n) = f n by omega]
          exact Or.inr ⟨n, by omega, rfl⟩
        · rw [show max (gB f b n) (f n) = gB f b n by omega]
          rcases t with t | ⟨a, t1, t2⟩
          · exact Or.inl t
          · exact Or.inr ⟨a, by omega, t2⟩
      · by_cases w : k = n
        · rw [w]
          omega
        · have := u k (by omega) hb
          omega
theorem cG_nx (f : Int → Int) {b g : Int} : ∀ n : Nat, (∀ k : Nat, k < n → (f k > g ↔ f k ≥ b)) → cG f g n = cG f b n + cE f b n
  | 0, _ => by unfold cG cE; omega
  | n + 1, h => by
    have := cG_nx f n (fun k hk => h k (by omega))
    have e := h n (by omega)
    unfold cG cE
    split <;> split <;> split <;> omega
theorem cG_none (f : Int → Int) {b : Int} : ∀ n : Nat, (∀ k : Nat, k < n → f k < b) → cG f b n = 0 ∧ cE f b n = 0
  | 0, _ => ⟨rfl, rfl⟩
  | n + 1, h => by
    have := cG_none f n (fun k hk => h k (by omega))
    have e := h n (by omega)
    unfold cG cE
    rw [this.1, this.2, if_neg (by omega), if_neg (by omega)]
    exact ⟨rfl, rfl⟩
/-- the line of a rank -/
def rkO (f : Int → Int) (a : Nat) : Int := cG f (f a) 2400 + cE f (f a) a
def RES (f : Int → Int) (K v : Int) : Prop := (v = -1 ∧ ∀ a : Nat, a < 2400 → f a > 0 → rkO f a ≠ K) ∨ (∃ a : Nat, a < 2400 ∧ v = a ∧ f a > 0 ∧ rkO f a = K)
theorem rkO_lt (f : Int → Int) {a : Nat} (ha : a < 2400) {c : Int} (h : c < f a) : rkO f a < cG f c 2400 := by
  have a1 := cG_lt f h 2400
  have a2 := cE_at f (f a) ha rfl
  unfold rkO
  omega
theorem rkO_inj (f : Int → Int) {a b : Nat} (ha : a < 2400) (hb : b < 2400) (e : rkO f a = rkO f b) : a = b := by
  rcases Int.lt_trichotomy (f a) (f b) with h | h | h
  · have := rkO_lt f hb h
    have := (cG_rng f (f a) a).2.1
    unfold rkO at *
    omega
  · rcases Nat.lt_trichotomy a b with w | w | w
    · have := cE_at f (f a) w rfl
      unfold rkO at e
      rw [← h] at e
      omega
    · exact w
    · have := cE_at f (f b) w rfl
      unfold rkO at e
      rw [h] at e
      omega
  · have := rkO_lt f ha h
    have := (cG_rng f (f b) b).2.1
    unfold rkO at *
    omega
theorem RES.uniq {f : Int → Int} {K v v' : Int} (h : RES f K v) (h' : RES f K v') : v = v' := by
  rcases h with ⟨a, b⟩ | ⟨a, a1, a2, a3, a4⟩
  · rcases h' with ⟨c, d⟩ | ⟨c, c1, c2, c3, c4⟩
    · rw [a, c]
    · exact absurd c4 (b c c1 c3)
  · rcases h' with ⟨c, d⟩ | ⟨c, c1, c2, c3, c4⟩
    · exact absurd a4 (d a a1 a3)
    · rw [a2, c2, rkO_inj f a1 c1 (a4.trans c4.symm)]
def aH (f : Int → Int) (c line : Int) : Nat → Int
  | 0 => 0
  | k + 1 => aH f c line k + if f k > c then 1 else if f k = c ∧ (k : Int) < line then 1 else 0
theorem aH_eq (f : Int → Int) (c : Int) (line : Nat) : ∀ n : Nat, aH f c line n = cG f c n + cE f c (min n line)
  | 0 => by
    rw [show min 0 line = 0 by omega]
    rfl
  | n + 1 => by
    have ih := aH_eq f c line n
    rw [show aH f c line (n + 1) = aH f c line n + if f n > c then 1 else if f n = c ∧ (n : Int) < line then 1 else 0 from rfl, show cG f c (n + 1) = cG f c n + if f n > c then 1 else 0 from rfl, ih]
    by_cases z : n < line
    · rw [show min (n + 1) line = n + 1 by omega, show min n line = n by omega, show cE f c (n + 1) = cE f c n + if f n = c then 1 else 0 from rfl]
      by_cases g : f n > c
      · rw [if_pos g, if_pos g, if_neg (by omega)]
        omega
      · rw [if_neg g, if_neg g]
        by_cases e : f n = c
        · rw [if_pos ⟨e, by omega⟩, if_pos e]
          omega
        · rw [if_neg (fun w => e w.1), if_neg e]
          omega
    · rw [show min (n + 1) line = line by omega, show min n line = line by omega]
      by_cases g : f n > c
      · rw [if_pos g, if_pos g]
        omega
      · rw [if_neg g, if_neg g, if_neg (fun w => z (by omega))]
        omega
