set_option maxRecDepth 100000 in
theorem sto_lt : ∀ S, S < 512 → ∀ x, x < 9 → bit S x = 0 → S < sto S x := by decide +kernel
set_option maxRecDepth 100000 in
theorem sto_512 : ∀ S, S < 512 → ∀ x, x < 9 → sto S x < 512 := by decide +kernel
theorem sto_2n : ∀ n, n < 10 → ∀ S, S < 2 ^ n → ∀ x, x < n → sto S x < 2 ^ n := by decide +kernel
/-- the moves between two set-ups of the reference -/
def MVm (ww sf sl ss : Nat → Nat) (nu : Nat → Nat → Nat) (a b : Nat) : Nat := mvF (Bm ww (nu b) (sf b) (sl b)) (Em ww (nu b) (sf b) (sl b)) (fun x => hkB (Bm ww (nu a) (sf a) (sl a)) (Em ww (nu a) (sf a) (sl a)) x (sumN (fun w => ss (5 * a + w)) 5)) (sumN (fun w => ss (5 * b + w)) 5)
def mth (mo re : Nat → Nat) (S l x : Nat) : Nat := mo (9 * l + x) + re (9 * sto S x + x)
/-- the fewest so far, or -1 -/
def MNI (f : Nat → Nat) (P : Nat → Prop) (n : Nat) (le : Int) : Prop := (le = -1 ∧ ∀ y, y < n → ¬ P y) ∨ (∃ x : Nat, x < n ∧ P x ∧ le = f x ∧ ∀ y, y < n → P y → f x ≤ f y)
theorem MNI.init (f : Nat → Nat) (P : Nat → Prop) : MNI f P 0 (-1) := Or.inl ⟨rfl, fun _ h => by omega⟩
theorem MNI.skip {f : Nat → Nat} {P : Nat → Prop} {n : Nat} {le : Int} (h : MNI f P n le) (hp : ¬ P n) : MNI f P (n + 1) le := by
  rcases h with ⟨a, b⟩ | ⟨x, a, b, c, d⟩
  · exact Or.inl ⟨a, lt_s b hp⟩
  · exact Or.inr ⟨x, by omega, b, c, lt_s d (fun q => absurd q hp)⟩
theorem MNI.keep {f : Nat → Nat} {P : Nat → Prop} {n : Nat} {le : Int} (h : MNI f P n le) (h1 : 0 ≤ le) (h2 : le ≤ f n) : MNI f P (n + 1) le := by
  rcases h with ⟨a, b⟩ | ⟨x, a, b, c, d⟩
  · omega
  · exact Or.inr ⟨x, by omega, b, c, lt_s d (fun _ => by omega)⟩
theorem MNI.take {f : Nat → Nat} {P : Nat → Prop} {n : Nat} {le : Int} (h : MNI f P n le) (hp : P n) (h1 : le < 0 ∨ (f n : Int) < le) : MNI f P (n + 1) (f n) := by
  refine Or.inr ⟨n, by omega, hp, rfl, lt_s (fun y hy py => ?_) (fun _ => Nat.le_refl _)⟩
  rcases h with ⟨a, b⟩ | ⟨x, a, b, c, d⟩
  · exact absurd py (b y hy)
  · have := d y hy py
    rcases h1 with h1 | h1 <;> omega
theorem MNI.range {f : Nat → Nat} {P : Nat → Prop} {n : Nat} {le : Int} {B : Nat} (h : MNI f P n le) (hB : ∀ x, x < n → P x → f x ≤ B) : -1 ≤ le ∧ le ≤ B := by
  rcases h with ⟨a, b⟩ | ⟨x, a, b, c, d⟩
  · omega
  · have := hB x a b
    omega
def TB (mo re : Nat → Nat) (n S l : Nat) : Prop := ((∀ y, y < n → ¬ bit S y = 0) ∧ re (9 * S + l) = 0) ∨ (∃ x, x < n ∧ bit S x = 0 ∧ re (9 * S + l) = mth mo re S l x ∧ ∀ y, y < n → bit S y = 0 → mth mo re S l x ≤ mth mo re S l y)
def MB (mo re : Nat → Nat) (n : Nat) (y : Int) (l : Nat) : Prop := ∀ S' l' : Nat, l' < n → S' < 2 ^ n → (y < S' ∨ (y = S' ∧ l' < l)) → TB mo re n S' l' ∧ re (9 * S' + l') ≤ 60 * (512 - S')
theorem MB.init {mo re : Nat → Nat} {n : Nat} (h1 : 1 ≤ 2 ^ n) : MB mo re n (((2 ^ n - 1 : Nat) : Nat) : Int) 0 := fun S' l' _ h2 h3 => by omega
theorem MB.nextS {mo re : Nat → Nat} {n l : Nat} {y : Int} (h : MB mo re n y l) (hl : n ≤ l) : MB mo re n (y - 1) 0 := fun S' l' a b c => h S' l' a b (by omega)
theorem mth_le {mo re : Nat → Nat} {n S l : Nat} (h : MB mo re n (S : Int) l) (hn : n ≤ 9) (hS : S < 2 ^ n) (hc : ∀ x, x < n → mo (9 * l + x) ≤ 60) {x : Nat} (hx : x < n) (hb : bit S x = 0) : mth mo re S l x ≤ 60 * (512 - S) := by
  have h512 : 2 ^ n ≤ 512 := (Nat.pow_le_pow_right (by decide) hn : 2 ^ n ≤ 2 ^ 9)
  have h1 := sto_lt S (by omega) x (by omega) hb
  have h2 := sto_2n n (by omega) S hS x hx
  have h3 := (h (sto S x) x hx h2 (Or.inl (by omega))).2
  have h4 := hc x hx
  unfold mth
  omega
def tvB (le : Int) : Nat := if le < 0 then 0 else le.toNat
theorem tvB_0 {le : Int} (h : le < 0) : tvB le = 0 := if_pos h
theorem tvB_1 {le : Int} (h : 0 ≤ le) : tvB le = le.toNat := if_neg (by omega)
theorem mth_up {mo re : Nat → Nat} {S l v S' l' x : Nat} (hS : S' < 512) (h : S ≤ S') (hx : x < 9) (hl : l < 9) (hb : bit S' x = 0) : mth mo (up re (9 * S + l) v) S' l' x = mth mo re S' l' x := by
  have h1 := sto_lt S' hS x hx hb
  unfold mth
  rw [up_n _ _ (by omega)]
theorem MB.put {mo re : Nat → Nat} {n S l : Nat} {le : Int} (h : MB mo re n (S : Int) l) (hn : n ≤ 9) (hS : S < 2 ^ n) (hl : l < n) (hc : ∀ x, x < n → mo (9 * l + x) ≤ 60) (hz : MNI (mth mo re S l) (fun y => bit S y = 0) n le) : MB mo (up re (9 * S + l) (tvB le)) n (S : Int) (l + 1) := by
  have h512 : 2 ^ n ≤ 512 := (Nat.pow_le_pow_right (by decide) hn : 2 ^ n ≤ 2 ^ 9)
  intro S' l' a b c
  by_cases e : S' = S ∧ l' = l
  · obtain ⟨rfl, rfl⟩ := e
    unfold TB
    rw [up_s]
    rcases hz with ⟨hz, hno⟩ | ⟨x, hx, hxb, hz, hmin⟩
    · rw [tvB_0 (by omega)]
      exact ⟨Or.inl ⟨hno, rfl⟩, Nat.zero_le _⟩
    · have ez : tvB le = mth mo re S' l' x := by rw [tvB_1 (by omega), hz, Int.toNat_natCast]
      rw [ez]
      refine ⟨Or.inr ⟨x, hx, hxb, ?_, ?_⟩, mth_le h hn hS hc hx hxb⟩
      · rw [mth_up (by omega) (Nat.le_refl _) (by omega) (by omega) hxb]
      · intro y hy hyb
        rw [mth_up (by omega) (Nat.le_refl _) (by omega) (by omega) hxb, mth_up (by omega) (Nat.le_refl _) (by omega) (by omega) hyb]
        exact hmin y hy hyb
  · obtain ⟨g1, g2⟩ := h S' l' a b (by omega)
    have hne : 9 * S' + l' ≠ 9 * S + l := by omega
    unfold TB
    rw [up_n _ _ hne]
    refine ⟨?_, g2⟩
    rcases g1 with ⟨p, q⟩ | ⟨x, p, q, r, t⟩
    · exact Or.inl ⟨p, q⟩
    · refine Or.inr ⟨x, p, q, ?_, ?_⟩
      · rw [mth_up (by omega) (by omega) (by omega) (by omega) q]; exact r
      · intro y hy hyb
        rw [mth_up (by omega) (by omega) (by omega) (by omega) q, mth_up (by omega) (by omega) (by omega) (by omega) hyb]
        exact t y hy hyb
theorem mo_put {mo MV : Nat → Nat} {F : Nat → Nat → Nat} {n a b : Nat} (hn : n ≤ 9) (h : ∀ a', a' < n → ∀ b', b' < n → (a' < a ∨ (a' = a ∧ b' < b)) → mo (9 * a' + b') = F a' b') (hb : b < n) (ha : a < n) : ∀ a', a' < n → ∀ b', b' < n → (a' < a ∨ (a' = a ∧ b' < b + 1)) → up mo (9 * a + b) (F a b) (9 * a' + b') = F a' b' := fun a' h1 b' h2 h3 => by
  by_cases e : a' = a ∧ b' = b
  · obtain ⟨rfl, rfl⟩ := e
    rw [up_s]
  · rw [up_n _ _ (by omega)]
    exact h a' h1 b' h2 (by omega)
/-- the fewest moves of all orders -/
def LST (re : Nat → Nat) (n v : Nat) : Prop := (n = 0 ∧ v = 0) ∨ (∃ x, x < n ∧ v = re (9 * 2 ^ x + x) ∧ ∀ y, y < n → v ≤ re (9 * 2 ^ y + y))
theorem LST.S {re : Nat → Nat} {n v w : Nat} (h : LST re n v) (hw : (w = re (9 * 2 ^ n + n) ∧ (n = 0 ∨ re (9 * 2 ^ n + n) < v)) ∨ (w = v ∧ ¬ n = 0 ∧ v ≤ re (9 * 2 ^ n + n))) : LST re (n + 1) w := by
  rcases hw with ⟨e, hw⟩ | ⟨e, h0, hw⟩
  · refine Or.inr ⟨n, by omega, e, lt_s (fun y hy => ?_) (by omega)⟩
    rcases h with ⟨a, b⟩ | ⟨x, a, b, c⟩
    · omega
    · have := c y hy
      omega
  · rcases h with ⟨a, b⟩ | ⟨x, a, b, c⟩
    · omega
    · exact Or.inr ⟨x, by omega, by omega, lt_s (fun y hy => by rw [e]; exact c y hy) (by omega)⟩
