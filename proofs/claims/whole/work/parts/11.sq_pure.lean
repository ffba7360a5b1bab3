set_option maxRecDepth 100000 in
theorem bit_clr : ∀ S, S < 512 → ∀ x, x < 9 → ∀ y, y < 9 → bit S x = 1 → bit (clr S x) y = if y = x then 0 else bit S y := by decide +kernel
set_option maxRecDepth 100000 in
theorem clr_lt : ∀ S, S < 512 → ∀ x, x < 9 → bit S x = 1 → clr S x < S := by decide +kernel
theorem bit_full : ∀ n, n < 10 → ∀ y, y < n → bit (2 ^ n - 1) y = 1 := by decide +kernel
/-- the table's value at S behind l: the fewest moves by way of one of S, 0 where S is empty -/
def TA (sp fw : Nat → Nat) (n S l : Nat) : Prop := ((∀ y, y < n → bit S y = 0) ∧ fw (S * 9 + l) = 0) ∨ (∃ x, x < n ∧ bit S x = 1 ∧ fw (S * 9 + l) = thr sp fw S l x ∧ ∀ y, y < n → bit S y = 1 → thr sp fw S l x ≤ thr sp fw S l y)
def MI (sp fw : Nat → Nat) (n S l : Nat) : Prop := ∀ S' l', l' < n → bit S' l' = 0 → (S' < S ∨ (S' = S ∧ l' < l)) → TA sp fw n S' l' ∧ fw (S' * 9 + l') ≤ 60 * S'
theorem MI.init (sp fw : Nat → Nat) (n : Nat) : MI sp fw n 0 0 := fun _ _ _ _ h => by omega
theorem MI.skip {sp fw : Nat → Nat} {n S l : Nat} (h : MI sp fw n S l) (hb : ¬ bit S l = 0) : MI sp fw n S (l + 1) := fun S' l' h1 h2 h3 => h S' l' h1 h2 (by
  by_cases e : S' = S ∧ l' = l
  · obtain ⟨rfl, rfl⟩ := e
    exact absurd h2 hb
  · omega)
theorem MI.nextS {sp fw : Nat → Nat} {n S l : Nat} (h : MI sp fw n S l) (hl : n ≤ l) : MI sp fw n (S + 1) 0 := fun S' l' h1 h2 h3 => h S' l' h1 h2 (by omega)
theorem thr_le {sp fw : Nat → Nat} {n S l : Nat} (h : MI sp fw n S l) (hn : n ≤ 9) (hS : S < 512) (hc : ∀ x, x < n → sp (l * 9 + x) ≤ 60) {x : Nat} (hx : x < n) (hb : bit S x = 1) : thr sp fw S l x ≤ 60 * S := by
  have h1 := clr_lt S hS x (by omega) hb
  have h2 := bit_clr S hS x (by omega) x (by omega) hb
  rw [if_pos rfl] at h2
  have h3 := (h (clr S x) x hx h2 (Or.inl h1)).2
  have h4 := hc x hx
  unfold thr stp
  rw [if_neg (by omega), Int.toNat_natCast]
  omega
/-- the value that comes into the table -/
def tv (sp fw : Nat → Nat) (S l : Nat) (z : Int) : Nat := if z = -1 then 0 else thr sp fw S l z.toNat
theorem thr_up {sp fw : Nat → Nat} {S l v S' : Nat} {la : Int} {x : Nat} (hS : S < 512) (hS' : S' ≤ S) (hx : x < 9) (hl : l < 9) (hb : bit S' x = 1) : thr sp (up fw (S * 9 + l) v) S' la x = thr sp fw S' la x := by
  have h1 := clr_lt S' (by omega) x hx hb
  unfold thr
  rw [up_n _ _ (by omega)]
theorem MI.put {sp fw : Nat → Nat} {n S l : Nat} {z : Int} (h : MI sp fw n S l) (hn : n ≤ 9) (hS : S < 512) (hl : l < n) (hc : ∀ x, x < n → sp (l * 9 + x) ≤ 60) (hz : LN (thr sp fw S l) S n z) : MI sp (up fw (S * 9 + l) (tv sp fw S l z)) n S (l + 1) := by
  intro S' l' h1 h2 h3
  by_cases e : S' = S ∧ l' = l
  · obtain ⟨rfl, rfl⟩ := e
    unfold TA
    rw [up_s]
    rcases hz with ⟨hz, hno⟩ | ⟨x, hz, hxn, hxb, hmin⟩
    · unfold tv
      rw [if_pos hz]
      exact ⟨Or.inl ⟨hno, rfl⟩, Nat.zero_le _⟩
    · have ez : tv sp fw S' l' z = thr sp fw S' l' x := by
        unfold tv
        rw [if_neg (by omega), hz, Int.toNat_natCast]
      rw [ez]
      refine ⟨Or.inr ⟨x, hxn, hxb, ?_, ?_⟩, thr_le h hn hS hc hxn hxb⟩
      · rw [thr_up hS (Nat.le_refl _) (by omega) (by omega) hxb]
      · intro y hy hyb
        rw [thr_up hS (Nat.le_refl _) (by omega) (by omega) hxb, thr_up hS (Nat.le_refl _) (by omega) (by omega) hyb]
        exact (hmin y hy hyb).1
  · obtain ⟨g1, g2⟩ := h S' l' h1 h2 (by omega)
    have hne : S' * 9 + l' ≠ S * 9 + l := by omega
    unfold TA
    rw [up_n _ _ hne]
    refine ⟨?_, g2⟩
    rcases g1 with ⟨a, b⟩ | ⟨x, a, b, d, f⟩
    · exact Or.inl ⟨a, b⟩
    · refine Or.inr ⟨x, a, b, ?_, ?_⟩
      · rw [thr_up hS (by omega) (by omega) (by omega) b]; exact d
      · intro y hy hyb
        rw [thr_up hS (by omega) (by omega) (by omega) b, thr_up hS (by omega) (by omega) (by omega) hyb]
        exact f y hy hyb
/-! the order read off the table -/
def stS (n : Nat) (num : Nat → Nat) : Nat → Nat
  | 0 => 2 ^ n - 1
  | k + 1 => clr (stS n num k) (num k)
def laS (num : Nat → Nat) : Nat → Int
  | 0 => -1
  | k + 1 => (num k : Int)
def GR (sp fw : Nat → Nat) (n : Nat) (num : Nat → Nat) (k : Nat) : Prop := ∀ j, j < k → LN (thr sp fw (stS n num j) (laS num j)) (stS n num j) n (num j)
def tot (sp : Nat → Nat) (num : Nat → Nat) (k : Nat) : Nat := sumN (fun j => stp sp (laS num j) (num j)) k
theorem stS_congr {n : Nat} {a b : Nat → Nat} : ∀ {k : Nat}, (∀ j, j < k → a j = b j) → stS n a k = stS n b k
  | 0, _ => rfl
  | k + 1, h => by rw [stS, stS, stS_congr (fun j hj => h j (by omega)), h k (by omega)]
theorem laS_congr {a b : Nat → Nat} {k : Nat} (h : ∀ j, j < k → a j = b j) : laS a k = laS b k := by
  cases k with
  | zero => rfl
  | succ k => rw [laS, laS, h k (by omega)]
theorem stS_le (n : Nat) (num : Nat → Nat) : ∀ k, stS n num k ≤ 2 ^ n - 1
  | 0 => Nat.le_refl _
  | k + 1 => Nat.le_trans (clr_le _ _) (stS_le n num k)
theorem GR.congr {sp fw : Nat → Nat} {n k : Nat} {a b : Nat → Nat} (h : GR sp fw n a k) (e : ∀ j, j < k → a j = b j) : GR sp fw n b k := fun j hj => by
  have h1 : stS n a j = stS n b j := stS_congr (fun i hi => e i (by omega))
  have h2 : laS a j = laS b j := laS_congr (fun i hi => e i (by omega))
  rw [← h1, ← h2, ← e j hj]
  exact h j hj
theorem tot_congr {sp : Nat → Nat} {k : Nat} {a b : Nat → Nat} (e : ∀ j, j < k → a j = b j) : tot sp a k = tot sp b k := sumN_congr (fun j hj => by
  rw [laS_congr (k := j) (fun i hi => e i (by omega)), e j hj])
/-- of the full set's n so many are left -/
theorem bits_left {sp fw : Nat → Nat} {n : Nat} (hn : n ≤ 9) {num : Nat → Nat} : ∀ {k : Nat}, GR sp fw n num k → (∀ j, j < k → num j < n) → sumN (bit (stS n num k)) n + k = n := by
  have h512 : 2 ^ n ≤ 512 := (Nat.pow_le_pow_right (by decide) hn : 2 ^ n ≤ 2 ^ 9)
  intro k
  induction k with
  | zero =>
    intro _ _
    have h1 : ∀ m, m ≤ n → sumN (bit (2 ^ n - 1)) m = m := by
      intro m
      induction m with
      | zero => intro _; rfl
      | succ m ih =>
        intro hm
        rw [sumN, ih (by omega), bit_full n (by omega) m (by omega)]
    show sumN (bit (2 ^ n - 1)) n + 0 = n
    rw [h1 n (Nat.le_refl _)]
    rfl
  | succ k ih =>
    intro hg hb
    have h1 := ih (fun j hj => hg j (by omega)) (fun j hj => hb j (by omega))
    have hs := stS_le n num k
    have hnk := hb k (by omega)
    have hbit : bit (stS n num k) (num k) = 1 := by
      rcases hg k (by omega) with ⟨h, _⟩ | ⟨x, h, _, h2, _⟩
      · omega
      · have : x = num k := by omega
        rw [← this]
        exact h2
    have h2 : ∀ m, m ≤ n → sumN (bit (stS n num (k + 1))) m + (if num k < m then 1 else 0) = sumN (bit (stS n num k)) m := by
      intro m
      induction m with
      | zero => intro _; simp [sumN]
      | succ m ih2 =>
        intro hm
        have h3 := ih2 (by omega)
        have h4 := bit_clr (stS n num k) (by omega) (num k) (by omega) m (by omega) hbit
        rw [sumN, sumN]
        show _ + bit (clr (stS n num k) (num k)) m + _ = _
        rw [h4]
        by_cases e : m = num k
        · rw [if_pos e, if_pos (by omega)]
          rw [if_neg (by omega)] at h3
          rw [e, hbit]
          rw [e] at h3
          omega
        · rw [if_neg e]
          by_cases e2 : num k < m
          · rw [if_pos (by omega)]
            rw [if_pos e2] at h3
            omega
          · rw [if_neg (by omega)]
            rw [if_neg e2] at h3
            omega
    have h3 := h2 n (Nat.le_refl _)
    rw [if_pos hnk] at h3
    omega
theorem GR.push {sp fw : Nat → Nat} {n k : Nat} {num : Nat → Nat} {x : Nat} (h : GR sp fw n num k) (hx : LN (thr sp fw (stS n num k) (laS num k)) (stS n num k) n x) : GR sp fw n (up num k x) (k + 1) := by
  have e : ∀ j, j < k → num j = up num k x j := fun j hj => (up_n _ _ (by omega)).symm
  refine lt_s (h.congr e) ?_
  show LN (thr sp fw (stS n (up num k x) k) (laS (up num k x) k)) (stS n (up num k x) k) n ((up num k x k : Nat) : Int)
  rw [up_s, ← stS_congr e, ← laS_congr e]
  exact hx
theorem tot_push {sp : Nat → Nat} {k : Nat} {num : Nat → Nat} {x : Nat} : tot sp (up num k x) (k + 1) = tot sp num k + stp sp (laS num k) x := by
  have e : ∀ j, j < k → num j = up num k x j := fun j hj => (up_n _ _ (by omega)).symm
  show sumN _ k + stp sp (laS (up num k x) k) (up num k x k) = _
  rw [up_s, ← laS_congr e]
  show tot sp (up num k x) k + _ = _
  rw [← tot_congr e]
theorem num_push {nm : Nat → Nat} {n k x : Nat} (h : ∀ j, j < k → nm j < n) (hx : x < n) : ∀ j, j < k + 1 → up nm k x j < n := fun j hj => by
  by_cases e : j = k
  · subst e
    rw [up_s]
    exact hx
  · rw [up_n _ _ e]
    exact h j (by omega)
theorem tv_0 {sp fw : Nat → Nat} {S l : Nat} {z : Int} (h : z = -1) : tv sp fw S l z = 0 := if_pos h
theorem tv_1 {sp fw : Nat → Nat} {S l : Nat} {z : Int} (h : ¬ z = -1) : tv sp fw S l z = thr sp fw S l z.toNat := if_neg h
