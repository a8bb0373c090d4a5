/-! THE PURE PART: textures made, poured: what becomes of the row -/
noncomputable def stpX (m : Mm) (t : Int) (l : Nat) (x y : Int) (r : Int → Int) : Int → Int := up1 r (plO m t (tex m t 5) (l + 1) x y) (ctk (m 93 (tex m t 0)) (blV m t l x y r))
noncomputable def mkX (m : Mm) (t : Int) (l : Nat) (y : Int) : Nat → (Int → Int) → Int → Int
  | 0, r => r
  | n + 1, r => stpX m t l n y (mkX m t l y n r)
noncomputable def mkY (m : Mm) (t : Int) (l : Nat) : Nat → (Int → Int) → Int → Int
  | 0, r => r
  | n + 1, r => mkX m t l n (hv (tex m t 2) (l + 1)).toNat (mkY m t l n r)
noncomputable def mkL (m : Mm) (t : Int) : Nat → (Int → Int) → Int → Int
  | 0, r => r
  | n + 1, r => mkY m t n (hv (tex m t 3) (n + 1)).toNat (mkL m t n r)
def pv (a b c x y : Int) : Int := w32 ((w32 ((w32 (a * x)) + (w32 (b * y)))) + c)
def flX (m : Mm) (t a b c y : Int) : Nat → (Int → Int) → Int → Int
  | 0, r => r
  | n + 1, r => up1 (flX m t a b c y n r) (plO m t (tex m t 5) 0 n y) (ctk (m 93 (tex m t 0)) (pv a b c n y))
def flY (m : Mm) (t a b c : Int) : Nat → (Int → Int) → Int → Int
  | 0, r => r
  | n + 1, r => flX m t a b c n (tex m t 2).toNat (flY m t a b c n r)
/-- all within a million, nothing outside of the texture changed -/
def PR (m : Mm) (t : Int) (r0 r : Int → Int) : Prop := NB m t r ∧ ∀ p : Int, (p < tex m t 1 ∨ tex m t 1 + plc (tex m t 2) (tex m t 3) (tex m t 4).toNat ≤ p) → r p = r0 p
theorem PR.up {m : Mm} (X : TXM m) (K : KLM m) {t : Int} {r0 r : Int → Int} (P : PR m t r0 r) {l : Nat} {x y v : Int} (hx : isX m t l x y) (v0 : -1000000 ≤ v) (v1 : v ≤ 1000000) : PR m t r0 (up1 r (plO m t (tex m t 5) l x y) v) := by
  have W := X.wh hx.1 hx.2.1
  have Y := X.lv hx.1
  have Q := plO_rng X K W.2.2.2.2.2.1 W.2.2.2.2.2.2 hx
  have M := plc_mono (w := tex m t 2) (h := tex m t 3) (by omega) (by omega) (by omega) (by omega) (show l + 1 ≤ (tex m t 4).toNat by have := hx.2.1; omega)
  have G := plc_rng (w := tex m t 2) (h := tex m t 3) (by omega) (by omega) (by omega) (by omega) l
  have e : plc (tex m t 2) (tex m t 3) (l + 1) = plc (tex m t 2) (tex m t 3) l + hv (tex m t 2) l * hv (tex m t 3) l := rfl
  have ef : fst' m t l = tex m t 1 + plc (tex m t 2) (tex m t 3) l := rfl
  rw [e] at M
  rw [ef] at Q
  generalize plO m t (tex m t 5) l x y = q at *
  generalize hv (tex m t 2) l * hv (tex m t 3) l = a at *
  generalize plc (tex m t 2) (tex m t 3) l = b at *
  refine ⟨fun p p0 p1 => ?_, fun p hp => ?_⟩
  · by_cases z : p = q
    · subst z; rw [up1_c]; exact ⟨v0, v1⟩
    · rw [up1_o z]; exact P.1 p p0 p1
  · rw [up1_o (by omega)]
    exact P.2 p hp
theorem PR.stpX {m : Mm} (X : TXM m) (K : KLM m) {t : Int} {r0 r : Int → Int} (P : PR m t r0 r) {l : Nat} {x y : Int} (hx : isX m t (l + 1) x y) : PR m t r0 (stpX m t l x y r) := by
  have b := blV_rng X K hx.1 (l := l) (by have := hx.2.1; omega) hx.2.2.1.1 hx.2.2.1.2 hx.2.2.2.1 hx.2.2.2.2 P.1
  have c := ctk_rng (k := m 93 (tex m t 0)) b.1 b.2
  exact P.up X K hx c.1 c.2
theorem PR.mkX {m : Mm} (X : TXM m) (K : KLM m) {t : Int} (ht : isT m t) {r0 r : Int → Int} (P : PR m t r0 r) {l : Nat} (hl : ((l + 1 : Nat) : Int) < tex m t 4) {y : Int} (y0 : 0 ≤ y) (y1 : y < hv (tex m t 3) (l + 1)) : ∀ n : Nat, (n : Int) ≤ hv (tex m t 2) (l + 1) → PR m t r0 (mkX m t l y n r)
  | 0, _ => P
  | n + 1, hn => (PR.mkX X K ht P hl y0 y1 n (by omega)).stpX X K ⟨ht, hl, ⟨by omega, by omega⟩, y0, y1⟩
theorem PR.mkY {m : Mm} (X : TXM m) (K : KLM m) {t : Int} (ht : isT m t) {r0 r : Int → Int} (P : PR m t r0 r) {l : Nat} (hl : ((l + 1 : Nat) : Int) < tex m t 4) : ∀ n : Nat, (n : Int) ≤ hv (tex m t 3) (l + 1) → PR m t r0 (mkY m t l n r)
  | 0, _ => P
  | n + 1, hn => (PR.mkY X K ht P hl n (by omega)).mkX X K ht hl (by omega) (by omega) _ (by have := (X.wh ht hl).1.1; omega)
theorem PR.mkL {m : Mm} (X : TXM m) (K : KLM m) {t : Int} (ht : isT m t) {r0 r : Int → Int} (P : PR m t r0 r) : ∀ n : Nat, (n : Int) < tex m t 4 → PR m t r0 (mkL m t n r)
  | 0, _ => P
  | n + 1, hn => (PR.mkL X K ht P n (by omega)).mkY X K ht hn _ (by have := (X.wh ht hn).2.1.1; omega)
theorem hv_0 {w : Int} (w0 : 1 ≤ w) : hv w 0 = w := by
  unfold hv
  rw [Int.pow_zero, Int.ediv_one]
  omega
theorem pv_rng {a b c x y : Int} (ha : -9999 ≤ a ∧ a ≤ 9999) (hb : -9999 ≤ b ∧ b ≤ 9999) (hc : -9999 ≤ c ∧ c ≤ 9999) (x0 : 0 ≤ x) (x1 : x ≤ 16) (y0 : 0 ≤ y) (y1 : y ≤ 16) : -1000000 ≤ pv a b c x y ∧ pv a b c x y ≤ 1000000 := by
  have h1 := mul_rng (a := a) (b := x) (A := 9999) (B := 16) (by decide) ha.1 ha.2 x0 x1
  have h2 := mul_rng (a := b) (b := y) (A := 9999) (B := 16) (by decide) hb.1 hb.2 y0 y1
  unfold pv
  rw [w32_i (x := a * x) (by omega) (by omega), w32_i (x := b * y) (by omega) (by omega), w32_i (x := a * x + b * y) (by omega) (by omega), w32_i (by omega) (by omega)]
  omega
theorem PR.flX {m : Mm} (X : TXM m) (K : KLM m) {t : Int} (ht : isT m t) {r0 r : Int → Int} (P : PR m t r0 r) {a b c y : Int} (ha : -9999 ≤ a ∧ a ≤ 9999) (hb : -9999 ≤ b ∧ b ≤ 9999) (hc : -9999 ≤ c ∧ c ≤ 9999) (y0 : 0 ≤ y) (y1 : y < tex m t 3) : ∀ n : Nat, (n : Int) ≤ tex m t 2 → PR m t r0 (flX m t a b c y n r)
  | 0, _ => P
  | n + 1, hn => by
    have Y := X.lv ht
    have v := pv_rng (x := n) (y := y) ha hb hc (by omega) (by omega) y0 (by omega)
    have k := ctk_rng (k := m 93 (tex m t 0)) v.1 v.2
    exact (PR.flX X K ht P ha hb hc y0 y1 n (by omega)).up X K (l := 0) ⟨ht, by omega, ⟨by omega, by rw [hv_0 (by omega)]; omega⟩, y0, by rw [hv_0 (by omega)]; omega⟩ k.1 k.2
theorem PR.flY {m : Mm} (X : TXM m) (K : KLM m) {t : Int} (ht : isT m t) {r0 r : Int → Int} (P : PR m t r0 r) {a b c : Int} (ha : -9999 ≤ a ∧ a ≤ 9999) (hb : -9999 ≤ b ∧ b ≤ 9999) (hc : -9999 ≤ c ∧ c ≤ 9999) : ∀ n : Nat, (n : Int) ≤ tex m t 3 → PR m t r0 (flY m t a b c n r)
  | 0, _ => P
  | n + 1, hn => (PR.flY X K ht P ha hb hc n (by omega)).flX X K ht ha hb hc (by omega) (by omega) _ (by have := X.lv ht; omega)
section
variable {m m' : Mm} {t : Int}
theorem plO_g (e : m' 95 = m 95) (o : Int) (l : Nat) (x y : Int) : plO m' t o l x y = plO m t o l x y := by
  unfold plO fst' tex
  rw [e]
theorem bls_g (e : m' 95 = m 95) (l : Nat) (x y : Int) (r : Int → Int) : ∀ k : Nat, bls m' t l x y r k = bls m t l x y r k ∧ blc m' t l x y k = blc m t l x y k
  | 0 => ⟨rfl, rfl⟩
  | k + 1 => by
    have ih := bls_g e l x y r k
    have ei : inb m' t l (2 * x + (k : Int) % 2) (2 * y + (k : Int) / 2) = inb m t l (2 * x + (k : Int) % 2) (2 * y + (k : Int) / 2) := by
      unfold inb tex
      rw [e]
    have e5 : tex m' t 5 = tex m t 5 := by unfold tex; rw [e]
    by_cases h : inb m t l (2 * x + (k : Int) % 2) (2 * y + (k : Int) / 2)
    · have h' : inb m' t l (2 * x + (k : Int) % 2) (2 * y + (k : Int) / 2) := by rw [ei]; exact h
      rw [(bls_p (r := r) h).1, (bls_p (r := r) h').1, (bls_p (r := r) h).2, (bls_p (r := r) h').2, ih.1, ih.2, plO_g e, e5]
      exact ⟨rfl, rfl⟩
    · have h' : ¬ inb m' t l (2 * x + (k : Int) % 2) (2 * y + (k : Int) / 2) := by rw [ei]; exact h
      rw [(bls_n (r := r) h).1, (bls_n (r := r) h').1, (bls_n (r := r) h).2, (bls_n (r := r) h').2, ih.1, ih.2]
      exact ⟨rfl, rfl⟩
theorem stpX_g (e : m' 95 = m 95) (f : m' 93 = m 93) (l : Nat) (x y : Int) (r : Int → Int) : stpX m' t l x y r = stpX m t l x y r := by
  have e5 : ∀ w, tex m' t w = tex m t w := fun w => by unfold tex; rw [e]
  unfold stpX blV
  rw [plO_g e, e5, e5, f, (bls_g e l x y r 4).1, (bls_g e l x y r 4).2]
theorem mkX_g (e : m' 95 = m 95) (f : m' 93 = m 93) (l : Nat) (y : Int) (r : Int → Int) : ∀ n : Nat, mkX m' t l y n r = mkX m t l y n r
  | 0 => rfl
  | n + 1 => by
    show stpX m' t l n y (mkX m' t l y n r) = stpX m t l n y (mkX m t l y n r)
    rw [mkX_g e f l y r n, stpX_g e f]
theorem mkY_g (e : m' 95 = m 95) (f : m' 93 = m 93) (l : Nat) (r : Int → Int) : ∀ n : Nat, mkY m' t l n r = mkY m t l n r
  | 0 => rfl
  | n + 1 => by
    have e5 : ∀ w, tex m' t w = tex m t w := fun w => by unfold tex; rw [e]
    show mkX m' t l n (hv (tex m' t 2) (l + 1)).toNat (mkY m' t l n r) = mkX m t l n (hv (tex m t 2) (l + 1)).toNat (mkY m t l n r)
    rw [mkY_g e f l r n, mkX_g e f, e5]
theorem mkL_g (e : m' 95 = m 95) (f : m' 93 = m 93) (r : Int → Int) : ∀ n : Nat, mkL m' t n r = mkL m t n r
  | 0 => rfl
  | n + 1 => by
    have e5 : ∀ w, tex m' t w = tex m t w := fun w => by unfold tex; rw [e]
    show mkY m' t n (hv (tex m' t 3) (n + 1)).toNat (mkL m' t n r) = mkY m t n (hv (tex m t 3) (n + 1)).toNat (mkL m t n r)
    rw [mkL_g e f r n, mkY_g e f, e5]
theorem flX_g (e : m' 95 = m 95) (f : m' 93 = m 93) (a b c y : Int) (r : Int → Int) : ∀ n : Nat, flX m' t a b c y n r = flX m t a b c y n r
  | 0 => rfl
  | n + 1 => by
    have e5 : ∀ w, tex m' t w = tex m t w := fun w => by unfold tex; rw [e]
    show up1 (flX m' t a b c y n r) (plO m' t (tex m' t 5) 0 n y) (ctk (m' 93 (tex m' t 0)) _) = up1 (flX m t a b c y n r) (plO m t (tex m t 5) 0 n y) (ctk (m 93 (tex m t 0)) _)
    rw [flX_g e f a b c y r n, plO_g e, e5, e5, f]
theorem flY_g (e : m' 95 = m 95) (f : m' 93 = m 93) (a b c : Int) (r : Int → Int) : ∀ n : Nat, flY m' t a b c n r = flY m t a b c n r
  | 0 => rfl
  | n + 1 => by
    have e5 : ∀ w, tex m' t w = tex m t w := fun w => by unfold tex; rw [e]
    show flX m' t a b c n (tex m' t 2).toNat (flY m' t a b c n r) = flX m t a b c n (tex m t 2).toNat (flY m t a b c n r)
    rw [flY_g e f a b c r n, flX_g e f, e5]
end
