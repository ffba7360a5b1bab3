/-! shifting: strip k at left L meets defect d -/
def hit (bg en fr to : Nat → Nat) (L k d : Nat) : Prop := L + bg k < to d ∧ fr d < L + en k
def okL (bg en fr to : Nat → Nat) (sc dc L : Nat) : Prop := ∀ k, k < sc → ∀ d, d < dc → ¬ hit bg en fr to L k d
/-- how many pairs lie still ahead -/
def npas (bg to : Nat → Nat) (sc dc L : Nat) : Nat := sumN (fun k => sumN (fun d => if L + bg k < to d then 1 else 0) dc) sc
theorem sumN_le {f g : Nat → Nat} : ∀ {n : Nat}, (∀ j, j < n → f j ≤ g j) → sumN f n ≤ sumN g n
  | 0, _ => Nat.le_refl _
  | n + 1, h => by
    have := sumN_le (n := n) (fun j hj => h j (by omega))
    have := h n (by omega)
    rw [sumN, sumN]
    omega
theorem sumN_lt {f g : Nat → Nat} : ∀ {n : Nat}, (∀ j, j < n → f j ≤ g j) → ∀ k, k < n → f k < g k → sumN f n < sumN g n
  | 0, _, k, hk, _ => absurd hk (Nat.not_lt_zero k)
  | n + 1, h, k, hk, hl => by
    have h1 := h n (by omega)
    rw [sumN, sumN]
    by_cases e : k = n
    · subst e
      have := sumN_le (n := k) (fun j hj => h j (by omega))
      omega
    · have := sumN_lt (n := n) (fun j hj => h j (by omega)) k (by omega) hl
      omega
theorem npas_le {bg to : Nat → Nat} {sc dc L : Nat} : npas bg to sc dc L ≤ sc * dc := by
  have h1 : ∀ n, sumN (fun _ => dc) n = n * dc := by
    intro n
    induction n with
    | zero => simp [sumN]
    | succ n ih => rw [sumN, ih, Nat.succ_mul]
  have h2 : ∀ n, sumN (fun _ => 1) n = n := by
    intro n
    induction n with
    | zero => rfl
    | succ n ih => rw [sumN, ih]
  rw [← h1]
  refine sumN_le (fun k _ => ?_)
  show sumN (fun d => if L + bg k < to d then 1 else 0) dc ≤ dc
  have := sumN_le (f := fun d => if L + bg k < to d then 1 else 0) (g := fun _ => 1) (n := dc) (fun j _ => by split <;> omega)
  rw [h2] at this
  exact this
theorem npas_lt {bg to : Nat → Nat} {sc dc p p' k d : Nat} (hp : p ≤ p') (hk : k < sc) (hd : d < dc) (h1 : p + bg k < to d) (h2 : ¬ p' + bg k < to d) : npas bg to sc dc p' < npas bg to sc dc p := by
  refine sumN_lt (fun j _ => ?_) k hk ?_
  · refine sumN_le (fun i _ => ?_)
    skip
    split <;> split <;> omega
  · refine sumN_lt (fun i _ => ?_) d hd ?_
    · skip
      split <;> split <;> omega
    · skip
      rw [if_neg h2, if_pos h1]
      omega
/-- where leftPast stands: pairs ahead of (k, d) are seen, p is the left so far -/
def LPI (bg en fr to : Nat → Nat) (sc dc least k d p : Nat) : Prop := least ≤ p ∧ (p = least ∨ p ≤ 20000) ∧ (∀ L, least ≤ L → okL bg en fr to sc dc L → p ≤ L) ∧
  (p = least → ∀ k', k' < sc → ∀ d', d' < dc → (k' < k ∨ (k' = k ∧ d' < d)) → ¬ hit bg en fr to least k' d') ∧ (p ≠ least → npas bg to sc dc p < npas bg to sc dc least)
theorem LPI.init (bg en fr to : Nat → Nat) (sc dc least : Nat) : LPI bg en fr to sc dc least 0 0 least := ⟨Nat.le_refl _, Or.inl rfl, fun _ h _ => h, fun _ _ _ _ _ h => by omega, fun h => absurd rfl h⟩
theorem LPI.next {bg en fr to : Nat → Nat} {sc dc least k d p : Nat} (h : LPI bg en fr to sc dc least k d p) (hd : dc ≤ d) : LPI bg en fr to sc dc least (k + 1) 0 p := by
  obtain ⟨h1, h2, h3, h4, h5⟩ := h
  exact ⟨h1, h2, h3, fun e k' hk d' hd' h => h4 e k' hk d' hd' (by omega), h5⟩
theorem LPI.skip {bg en fr to : Nat → Nat} {sc dc least k d p : Nat} (h : LPI bg en fr to sc dc least k d p) (hh : ¬ hit bg en fr to p k d) : LPI bg en fr to sc dc least k (d + 1) p := by
  obtain ⟨h1, h2, h3, h4, h5⟩ := h
  refine ⟨h1, h2, h3, fun e k' hk d' hd' h => ?_, h5⟩
  by_cases e2 : k' = k ∧ d' = d
  · obtain ⟨rfl, rfl⟩ := e2
    rw [← e]
    exact hh
  · exact h4 e k' hk d' hd' (by omega)
theorem LPI.jump {bg en fr to : Nat → Nat} {sc dc least k d p : Nat} (h : LPI bg en fr to sc dc least k d p) (hk : k < sc) (hd : d < dc) (hto : to d ≤ 20000) (hh : hit bg en fr to p k d) : LPI bg en fr to sc dc least k (d + 1) (to d - bg k) := by
  obtain ⟨h1, h2, h3, h4, h5⟩ := h
  obtain ⟨g1, g2⟩ := hh
  have hn := npas_lt (sc := sc) (dc := dc) (bg := bg) (to := to) (p := p) (p' := to d - bg k) (by omega) hk hd g1 (by omega)
  refine ⟨by omega, Or.inr (by omega), fun L hL ok => ?_, fun e => by omega, fun _ => ?_⟩
  · have hp := h3 L hL ok
    have := ok k hk d hd
    unfold hit at this
    omega
  · by_cases e : p = least
    · rw [← e]
      exact hn
    · have := h5 e
      omega
/-- what leftPast answers -/
def LPa (bg en fr to : Nat → Nat) (sc dc least x : Nat) : Prop := least ≤ x ∧ (x = least ∨ x ≤ 20000) ∧ (∀ L, least ≤ L → okL bg en fr to sc dc L → x ≤ L) ∧ (x = least → okL bg en fr to sc dc least) ∧ (x ≠ least → npas bg to sc dc x < npas bg to sc dc least)
theorem LPI.done {bg en fr to : Nat → Nat} {sc dc least k d p : Nat} (h : LPI bg en fr to sc dc least k d p) (hk : sc ≤ k) : LPa bg en fr to sc dc least p := by
  obtain ⟨h1, h2, h3, h4, h5⟩ := h
  exact ⟨h1, h2, h3, fun e k' hk' d' hd' => h4 e k' hk' d' hd' (by omega), h5⟩
/-- the least left from tr to gr without a defect, or none -/
def SS (bg en fr to : Nat → Nat) (sc dc tr gr : Nat) (r : Int) : Prop := (∃ L : Nat, r = L ∧ tr ≤ L ∧ L ≤ gr ∧ okL bg en fr to sc dc L ∧ ∀ L', tr ≤ L' → okL bg en fr to sc dc L' → L ≤ L') ∨ (r = -1 ∧ ∀ L, tr ≤ L → L ≤ gr → ¬ okL bg en fr to sc dc L)
theorem SS.uniq {bg en fr to : Nat → Nat} {sc dc tr gr : Nat} {r r' : Int} (h : SS bg en fr to sc dc tr gr r) (h' : SS bg en fr to sc dc tr gr r') : r = r' := by
  rcases h with ⟨L, e, a, b, c, d⟩ | ⟨e, a⟩ <;> rcases h' with ⟨L', e', a', b', c', d'⟩ | ⟨e', a'⟩
  · have := d L' a' c'
    have := d' L a c
    omega
  · exact absurd c (a' L a b)
  · exact absurd c' (a L' a' b')
  · omega
