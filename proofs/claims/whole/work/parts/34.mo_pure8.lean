set_option maxRecDepth 100000 in
theorem sto_pos : ∀ S, S < 512 → ∀ x, x < 9 → 0 < sto S x := by decide +kernel
set_option maxRecDepth 100000 in
theorem bit_sto : ∀ S, S < 512 → ∀ x, x < 9 → ∀ y, y < 9 → bit (sto S x) y = if y = x then 1 else bit S y := by decide +kernel
/-- the moves by way of b, in the reference's table -/
def msm (mo re : Nat → Nat) (la : Int) (V b : Nat) : Nat := (if la < 0 then 0 else mo (9 * la.toNat + b)) + re (9 * sto V b + b)
def vS (num : Nat → Nat) : Nat → Nat
  | 0 => 0
  | k + 1 => sto (vS num k) (num k)
/-- the lowest one that is not in V and by way of which the moves are fewest -/
def LM (f : Nat → Nat) (V n x : Nat) : Prop := x < n ∧ bit V x = 0 ∧ ∀ y, y < n → bit V y = 0 → f x ≤ f y ∧ (y < x → f x < f y)
def MG (mo re : Nat → Nat) (n : Nat) (num : Nat → Nat) (k : Nat) : Prop := ∀ j, j < k → LM (msm mo re (laS num j) (vS num j)) (vS num j) n (num j)
/-- r is the fewest by way of those not in V -/
def MIN (f : Nat → Nat) (V n r : Nat) : Prop := (∃ x, x < n ∧ bit V x = 0 ∧ f x = r) ∧ ∀ y, y < n → bit V y = 0 → r ≤ f y
/-- the search down: nx is the lowest above z so far -/
def DNI (M : Nat → Prop) (n : Nat) (z nx : Int) : Prop := (nx = -1 ∧ ∀ y : Nat, z < y → y < n → ¬ M y) ∨ (∃ x : Nat, nx = x ∧ z < x ∧ x < n ∧ M x ∧ ∀ y : Nat, z < y → y < x → ¬ M y)
theorem DNI.take {M : Nat → Prop} {n : Nat} {z nx : Int} (h : DNI M n z nx) (h0 : 0 ≤ z) (h1 : z < n) (hm : M z.toNat) : DNI M n (z - 1) z := Or.inr ⟨z.toNat, by omega, by omega, by omega, hm, fun y a b => by omega⟩
theorem DNI.skip {M : Nat → Prop} {n : Nat} {z nx : Int} (h : DNI M n z nx) (h0 : 0 ≤ z) (hm : ¬ M z.toNat) : DNI M n (z - 1) nx := by
  rcases h with ⟨a, b⟩ | ⟨x, a, b, c, d, f⟩
  · refine Or.inl ⟨a, fun y h1 h2 => ?_⟩
    by_cases e : y = z.toNat
    · rw [e]; exact hm
    · exact b y (by omega) h2
  · refine Or.inr ⟨x, a, by omega, c, d, fun y h1 h2 => ?_⟩
    by_cases e : y = z.toNat
    · rw [e]; exact hm
    · exact f y (by omega) h2
theorem DNI.lm {f : Nat → Nat} {V n r : Nat} {nx : Int} (h : DNI (fun y => bit V y = 0 ∧ f y = r) n (-1) nx) (hm : MIN f V n r) : ∃ x : Nat, nx = x ∧ LM f V n x ∧ f x = r := by
  obtain ⟨⟨x0, a, b, c⟩, d⟩ := hm
  rcases h with ⟨_, h⟩ | ⟨x, h1, h2, h3, ⟨h4, h5⟩, h6⟩
  · exact absurd ⟨b, c⟩ (h x0 (by omega) a)
  · refine ⟨x, h1, ⟨h3, h4, fun y hy hb => ?_⟩, h5⟩
    have h7 := d y hy hb
    refine ⟨by omega, fun hl => ?_⟩
    have h8 := h6 y (by omega) hl
    have : ¬ f y = r := fun q => h8 ⟨hb, q⟩
    omega
theorem vS_congr {a b : Nat → Nat} : ∀ {k : Nat}, (∀ j, j < k → a j = b j) → vS a k = vS b k
  | 0, _ => rfl
  | k + 1, h => by rw [vS, vS, vS_congr (fun j hj => h j (by omega)), h k (by omega)]
theorem MG.push {mo re : Nat → Nat} {n k : Nat} {num : Nat → Nat} {x : Nat} (h : MG mo re n num k) (hx : LM (msm mo re (laS num k) (vS num k)) (vS num k) n x) : MG mo re n (up num k x) (k + 1) := by
  have e : ∀ j, j < k → num j = up num k x j := fun j hj => (up_n _ _ (by omega)).symm
  refine lt_s (fun j hj => ?_) ?_
  · rw [← vS_congr (fun i hi => e i (by omega)), ← laS_congr (fun i hi => e i (by omega)), ← e j hj]
    exact h j hj
  · rw [up_s, ← vS_congr e, ← laS_congr e]
    exact hx
theorem vS_512 {mo re : Nat → Nat} {n : Nat} {num : Nat → Nat} (hn : n ≤ 9) : ∀ {k : Nat}, MG mo re n num k → vS num k < 2 ^ n ∧ sumN (bit (vS num k)) n = k := by
  have h512 : 2 ^ n ≤ 512 := (Nat.pow_le_pow_right (by decide) hn : 2 ^ n ≤ 2 ^ 9)
  intro k
  induction k with
  | zero => intro _; exact ⟨Nat.pos_of_ne_zero (by simp), sumN_zeros (fun i _ => by show 0 / 2 ^ i % 2 = 0; rw [Nat.zero_div])⟩
  | succ k ih =>
    intro h
    obtain ⟨h1, h2⟩ := ih (fun j hj => h j (by omega))
    obtain ⟨a, b, -⟩ := h k (by omega)
    refine ⟨sto_2n n (by omega) _ h1 _ a, ?_⟩
    have key : ∀ m, m ≤ n → sumN (bit (vS num (k + 1))) m = sumN (bit (vS num k)) m + (if num k < m then 1 else 0) := by
      intro m
      induction m with
      | zero => intro _; simp [sumN]
      | succ m ih2 =>
        intro hm
        have h4 := bit_sto (vS num k) (by omega) (num k) (by omega) m (by omega)
        rw [sumN, sumN, ih2 (by omega)]
        show _ + bit (sto (vS num k) (num k)) m = _
        rw [h4]
        by_cases e : m = num k
        · rw [if_pos e, if_neg (by omega), if_pos (by omega), e, b]
        · rw [if_neg e]
          by_cases e2 : num k < m
          · rw [if_pos e2, if_pos (by omega)]; omega
          · rw [if_neg e2, if_neg (by omega)]; omega
    rw [key n (Nat.le_refl _), h2, if_pos a]
theorem sto_0 : ∀ x, x < 9 → sto 0 x = 2 ^ x := by decide +kernel
theorem bit_0 : ∀ x, x < 9 → bit 0 x = 0 := by decide +kernel
theorem MIN.first {mo re : Nat → Nat} {n v : Nat} (hn : n ≤ 9) (h0 : 0 < n) (h : LST re n v) : MIN (msm mo re (-1) 0) 0 n v := by
  have e : ∀ x, x < n → msm mo re (-1) 0 x = re (9 * 2 ^ x + x) := fun x hx => by
    unfold msm
    rw [if_pos (by omega), sto_0 x (by omega), Nat.zero_add]
  rcases h with ⟨a, _⟩ | ⟨x, a, b, c⟩
  · omega
  · exact ⟨⟨x, a, bit_0 x (by omega), by rw [e x a, b]⟩, fun y hy _ => by rw [e y hy]; exact c y hy⟩
/-- the next one's fewest: what is left -/
theorem MIN.next {mo re : Nat → Nat} {n V x r : Nat} {la : Int} (hn : n ≤ 9) (hV : V < 2 ^ n) (hB : MB mo re n 0 0) (hx : x < n) (hr : msm mo re la V x = r) (hz : ∃ y, y < n ∧ bit (sto V x) y = 0) : MIN (msm mo re (x : Int) (sto V x)) (sto V x) n (r - (if la < 0 then 0 else mo (9 * la.toNat + x))) ∧ (if la < 0 then 0 else mo (9 * la.toNat + x)) ≤ r := by
  have h512 : 2 ^ n ≤ 512 := (Nat.pow_le_pow_right (by decide) hn : 2 ^ n ≤ 2 ^ 9)
  have h1 := sto_2n n (by omega) V hV x hx
  have h3 : ∀ b, msm mo re (x : Int) (sto V x) b = mth mo re (sto V x) x b := fun b => by
    unfold msm mth
    rw [if_neg (by omega), Int.toNat_natCast]
  have h4 : r - (if la < 0 then 0 else mo (9 * la.toNat + x)) = re (9 * sto V x + x) := by
    rw [← hr]
    unfold msm
    omega
  have h0 : 0 < sto V x := by
    have := sto_pos V (by omega) x (by omega)
    exact this
  refine ⟨?_, by rw [← hr]; unfold msm; omega⟩
  rw [h4]
  rcases (hB (sto V x) x hx h1 (Or.inl (by omega))).1 with ⟨a, _⟩ | ⟨y, a, b, c, d⟩
  · obtain ⟨y, p, q⟩ := hz
    exact absurd q (a y p)
  · exact ⟨⟨y, a, b, by rw [h3, c]⟩, fun y2 p q => by rw [h3, c]; exact d y2 p q⟩
theorem zero_left {V n k : Nat} (h : sumN (bit V) n = k) (hk : k < n) : ∃ y, y < n ∧ bit V y = 0 := by
  by_cases q : ∃ y, y < n ∧ bit V y = 0
  · exact q
  · exfalso
    have all : ∀ m, m ≤ n → sumN (bit V) m = m := by
      intro m
      induction m with
      | zero => intro _; rfl
      | succ m ih =>
        intro hm
        have : bit V m = 1 := by
          rcases bit_01 V m with e | e
          · exact absurd ⟨m, by omega, e⟩ q
          · exact e
        rw [sumN, ih (by omega), this]
    have := all n (Nat.le_refl _)
    omega
theorem vS_push {num : Nat → Nat} {k x : Nat} : vS (up num k x) (k + 1) = sto (vS num k) x := by
  show sto (vS (up num k x) k) (up num k x k) = _
  rw [up_s, ← vS_congr (fun j hj => (up_n num x (show j ≠ k by omega)).symm)]
theorem MIN.push {mo re : Nat → Nat} {n k : Nat} {num : Nat → Nat} {x r : Nat} (h7 : n ≤ 9) (hB : MB mo re n 0 0) (hG : MG mo re n num k) (hL : LM (msm mo re (laS num k) (vS num k)) (vS num k) n x) (hr : msm mo re (laS num k) (vS num k) x = r) (hk : k + 1 < n) :
    MIN (msm mo re (x : Int) (sto (vS num k) x)) (sto (vS num k) x) n (r - (if laS num k < 0 then 0 else mo (9 * (laS num k).toNat + x))) := by
  have hc2 := (vS_512 h7 (hG.push hL)).2
  rw [vS_push] at hc2
  exact (MIN.next h7 (vS_512 h7 hG).1 hB hL.1 hr (zero_left hc2 hk)).1
theorem LST_le {mo re : Nat → Nat} {n v : Nat} (h : LST re n v) (hB : MB mo re n 0 0) (hn : n ≤ 9) : v ≤ 60 * 512 := by
  rcases h with ⟨_, h⟩ | ⟨x, a, b, _⟩
  · omega
  · have h2 : 2 ^ x < 2 ^ n := Nat.pow_lt_pow_right (by decide) a
    have h3 : 1 ≤ 2 ^ x := Nat.pos_of_ne_zero (by simp)
    have := (hB (2 ^ x) x a h2 (Or.inl (by omega))).2
    omega
