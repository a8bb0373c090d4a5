/-! THE PURE PART: the walks -/
def wkx (how w h k : Int) : Int := if how = 0 then k % w else if how = 1 then k / h else k / (min 4 w * min 4 h) % (w / min 4 w) * min 4 w + k % (min 4 w * min 4 h) % min 4 w
def wky (how w h k : Int) : Int := if how = 0 then k / w else if how = 1 then k % h else k / (min 4 w * min 4 h) / (w / min 4 w) * min 4 h + k % (min 4 w * min 4 h) / min 4 w
def WK (w h k : Int) : Prop :=
  (w32 (min 4 w * min 4 h) ≠ 0 ∧ min 4 w ≠ 0 ∧ w32 (w.tdiv (min 4 w)) ≠ 0) ∧
  (k.tmod w = wkx 0 w h k ∧ w32 (k.tdiv w) = wky 0 w h k) ∧
  (w32 (k.tdiv h) = wkx 1 w h k ∧ k.tmod h = wky 1 w h k) ∧
  (w32 (w32 ((w32 (k.tdiv (w32 (min 4 w * min 4 h)))).tmod (w32 (w.tdiv (min 4 w))) * min 4 w) + (k.tmod (w32 (min 4 w * min 4 h))).tmod (min 4 w)) = wkx 3 w h k ∧ w32 (w32 (w32 ((w32 (k.tdiv (w32 (min 4 w * min 4 h)))).tdiv (w32 (w.tdiv (min 4 w)))) * min 4 h) + w32 ((k.tmod (w32 (min 4 w * min 4 h))).tdiv (min 4 w))) = wky 3 w h k) ∧
  (∀ how ∈ [(0 : Int), 1, 3], (0 ≤ wkx how w h k ∧ wkx how w h k < w) ∧ (0 ≤ wky how w h k ∧ wky how w h k < h) ∧ (wky how w h k * w + wkx how w h k).tmod w = wkx how w h k ∧ w32 ((wky how w h k * w + wkx how w h k).tdiv w) = wky how w h k) ∧
  k = wky 0 w h k * w + wkx 0 w h k ∧
  w32 (w32 (k.tmod h * w) + w32 (k.tdiv h)) = wky 1 w h k * w + wkx 1 w h k ∧
  w32 (w32 (w32 (w32 (w32 (w32 ((w32 (k.tdiv (w32 (min 4 w * min 4 h)))).tdiv (w32 (w.tdiv (min 4 w)))) * min 4 h) + w32 ((k.tmod (w32 (min 4 w * min 4 h))).tdiv (min 4 w))) * w) + w32 ((w32 (k.tdiv (w32 (min 4 w * min 4 h)))).tmod (w32 (w.tdiv (min 4 w))) * min 4 w)) + (k.tmod (w32 (min 4 w * min 4 h))).tmod (min 4 w)) = wky 3 w h k * w + wkx 3 w h k
set_option maxRecDepth 100000 in
theorem wk_fin : ∀ a ∈ sz5, ∀ b ∈ sz5, ∀ k, k < a * b → WK (a : Int) (b : Int) (k : Int) := by unfold WK; decide +kernel
theorem wk_ok {w h k : Int} (hw : SZ w) (hh : SZ h) (k0 : 0 ≤ k) (k1 : k < w * h) : WK w h k := by
  obtain ⟨a, ha, rfl⟩ := hw
  obtain ⟨b, hb, rfl⟩ := hh
  obtain ⟨j, rfl⟩ : ∃ j : Nat, k = j := ⟨k.toNat, by omega⟩
  exact wk_fin a ha b hb j (by exact_mod_cast k1)
