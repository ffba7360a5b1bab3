/-! the strips and knives of a set-up -/
def skn (kc : Nat) (kp : Nat → Nat) (x : Nat) : Nat × (Nat → Nat) := if 0 < kc ∧ kp (kc - 1) = x then (kc, kp) else (kc + 1, up kp kc x)
theorem skn_in {kc : Nat} {kp : Nat → Nat} {x : Nat} (h : 0 < kc ∧ kp (kc - 1) = x) : skn kc kp x = (kc, kp) := if_pos h
theorem skn_out {kc : Nat} {kp : Nat → Nat} {x : Nat} (h : ¬ (0 < kc ∧ kp (kc - 1) = x)) : skn kc kp x = (kc + 1, up kp kc x) := if_neg h
/-- a strip's begin is the end of the one before -/
def joi (bg en : Nat → Nat) (k : Nat) : Prop := 0 < k ∧ en (k - 1) = bg k
def joiB (bg en : Nat → Nat) (k : Nat) : Bool := decide (0 < k) && en (k - 1) == bg k
theorem joiB_iff {bg en : Nat → Nat} {k : Nat} : joiB bg en k = true ↔ joi bg en k := by simp [joiB, joi]
/-- how many knives the first k strips have -/
def kq (bg en : Nat → Nat) : Nat → Nat
  | 0 => 0
  | k + 1 => kq bg en k + (if joiB bg en k = true then 0 else 1) + 1
def KN (bg en : Nat → Nat) (sc kc : Nat) (kp : Nat → Nat) : Prop := kc = kq bg en sc ∧ ∀ k, k < sc → (joi bg en k → kp (kq bg en k - 1) = bg k) ∧ (¬ joi bg en k → kp (kq bg en k) = bg k) ∧ kp (kq bg en (k + 1) - 1) = en k
/-- the strips laid so far: numbers rise through the counts, each begins a kerf behind the one before -/
def LYI (bc wd : Nat → Nat) (cf sc : Nat) (nu bg en : Nat → Nat) : Prop := ∀ k, k < sc → (sumN bc (nu k) ≤ k ∧ k < sumN bc (nu k + 1)) ∧ bg k = sumN (fun j => wd (nu j) + cf) k ∧ en k = bg k + wd (nu k)
theorem kq_congr {bg en bg' en' : Nat → Nat} : ∀ {k : Nat}, (∀ j, j < k → bg j = bg' j ∧ en j = en' j) → kq bg en k = kq bg' en' k
  | 0, _ => rfl
  | k + 1, h => by
    have h1 := h k (by omega)
    have e : joiB bg en k = joiB bg' en' k := by
      unfold joiB
      by_cases h0 : 0 < k
      · rw [h1.1, (h (k - 1) (by omega)).2]
      · simp [h0]
    rw [kq, kq, kq_congr (fun j hj => h j (by omega)), e]
theorem kq_ge (bg en : Nat → Nat) : ∀ k, k ≤ kq bg en k ∧ kq bg en k ≤ 2 * k
  | 0 => ⟨Nat.le_refl _, Nat.le_refl _⟩
  | k + 1 => by
    have := kq_ge bg en k
    rw [kq]
    split <;> omega
theorem kq_S (bg en : Nat → Nat) (k : Nat) : kq bg en k < kq bg en (k + 1) := by
  rw [kq]
  omega
theorem kq_mono {bg en : Nat → Nat} {a b : Nat} (h : a ≤ b) : kq bg en a ≤ kq bg en b := by
  induction b with
  | zero => rw [show a = 0 by omega]; exact Nat.le_refl _
  | succ b ih =>
    by_cases e : a = b + 1
    · rw [e]; exact Nat.le_refl _
    · have := ih (by omega)
      have := kq_S bg en b
      omega
theorem joi_up {bg en : Nat → Nat} {sc b2 e2 k : Nat} (h : k ≤ sc) : joi (up bg sc b2) (up en sc e2) k ↔ (if k = sc then 0 < sc ∧ en (sc - 1) = b2 else joi bg en k) := by
  unfold joi
  by_cases e : k = sc
  · subst e
    rw [if_pos rfl, up_s]
    by_cases h0 : 0 < k
    · rw [up_n en e2 (by omega)]
    · constructor <;> intro g <;> omega
  · rw [if_neg e, up_n bg b2 e]
    by_cases h0 : 0 < k
    · rw [up_n en e2 (by omega)]
    · constructor <;> intro g <;> omega
/-- one strip more: its two places come behind the others -/
theorem KN.push {bg en : Nat → Nat} {sc kc : Nat} {kp : Nat → Nat} (h : KN bg en sc kc kp) {b2 e2 : Nat} (hbe : b2 < e2) : KN (up bg sc b2) (up en sc e2) (sc + 1) (skn (skn kc kp b2).1 (skn kc kp b2).2 e2).1 (skn (skn kc kp b2).1 (skn kc kp b2).2 e2).2 := by
  obtain ⟨hk, hp⟩ := h
  have ek : ∀ k, k ≤ sc → kq (up bg sc b2) (up en sc e2) k = kq bg en k := fun k hk => (kq_congr (fun j hj => ⟨(up_n _ _ (by omega)).symm, (up_n _ _ (by omega)).symm⟩)).symm
  have hlast : 0 < sc → 0 < kc ∧ kp (kc - 1) = en (sc - 1) := fun h0 => by
    have h1 := (hp (sc - 1) (by omega)).2.2
    rw [show sc - 1 + 1 = sc by omega, ← hk] at h1
    have := kq_ge bg en sc
    exact ⟨by omega, h1⟩
  have hz : sc = 0 → kc = 0 := fun h0 => by rw [hk, h0]; rfl
  have hj : joi (up bg sc b2) (up en sc e2) sc ↔ (0 < kc ∧ kp (kc - 1) = b2) := by
    rw [joi_up (Nat.le_refl _), if_pos rfl]
    by_cases h0 : 0 < sc
    · have := hlast h0
      constructor
      · intro g; exact ⟨this.1, by rw [this.2]; exact g.2⟩
      · intro g; exact ⟨h0, by rw [← this.2]; exact g.2⟩
    · have := hz (by omega)
      constructor <;> intro g <;> omega
  have key : ∀ k1 kp1, skn kc kp b2 = (k1, kp1) → k1 = kc + (if joiB (up bg sc b2) (up en sc e2) sc = true then 0 else 1) ∧ (∀ i, i < kc → kp1 i = kp i) ∧ 0 < k1 ∧ kp1 (k1 - 1) = b2 := by
    intro k1 kp1 e
    by_cases hin : 0 < kc ∧ kp (kc - 1) = b2
    · rw [skn_in hin] at e
      cases e
      rw [if_pos (joiB_iff.mpr (hj.mpr hin))]
      exact ⟨rfl, fun _ _ => rfl, hin.1, hin.2⟩
    · rw [skn_out hin] at e
      cases e
      rw [if_neg (fun g => hin (hj.mp (joiB_iff.mp g)))]
      exact ⟨rfl, fun i hi => up_n _ _ (by omega), by omega, by rw [show kc + 1 - 1 = kc by omega, up_s]⟩
  rcases hq : skn kc kp b2 with ⟨k1, kp1⟩
  obtain ⟨g1, g2, g3, g4⟩ := key k1 kp1 hq
  dsimp only
  rw [skn_out (show ¬ (0 < k1 ∧ kp1 (k1 - 1) = e2) by omega)]
  dsimp only
  refine ⟨?_, fun k hks => ?_⟩
  · rw [kq, ek sc (Nat.le_refl _), ← hk, g1]
  · by_cases e : k = sc
    · subst e
      rw [ek k (Nat.le_refl _), up_s, up_s]
      refine ⟨fun g => ?_, fun g => ?_, ?_⟩
      · have hin := hj.mp g
        rw [if_pos (joiB_iff.mpr g)] at g1
        rw [← hk, up_n _ _ (by omega), g2 _ (by omega)]
        exact hin.2
      · rw [if_neg (fun q => g (joiB_iff.mp q))] at g1
        rw [← hk, up_n _ _ (by omega)]
        rw [g1, show kc + 1 - 1 = kc by omega] at g4
        exact g4
      · rw [kq, ek k (Nat.le_refl _), ← hk, ← g1, show k1 + 1 - 1 = k1 by omega, up_s]
    · have hk2 : k < sc := by omega
      obtain ⟨p1, p2, p3⟩ := hp k hk2
      have q1 := kq_S bg en k
      have q2 : kq bg en (k + 1) ≤ kc := by rw [hk]; exact kq_mono hk2
      have q0 := kq_ge bg en k
      rw [ek k (by omega), ek (k + 1) (by omega), up_n bg b2 e, up_n en e2 e, joi_up (by omega), if_neg e]
      refine ⟨fun g => ?_, fun g => ?_, ?_⟩
      · rw [up_n _ _ (by omega), g2 _ (by omega)]; exact p1 g
      · rw [up_n _ _ (by omega), g2 _ (by omega)]; exact p2 g
      · rw [up_n _ _ (by omega), g2 _ (by omega)]; exact p3
theorem LYI.push {bc wd : Nat → Nat} {cf sc : Nat} {nu bg en : Nat → Nat} (h : LYI bc wd cf sc nu bg en) {w x : Nat} (h1 : sumN bc w ≤ sc) (h2 : sc < sumN bc (w + 1)) (hx : x = sumN (fun j => wd (nu j) + cf) sc) :
    LYI bc wd cf (sc + 1) (up nu sc w) (up bg sc x) (up en sc (x + wd w)) ∧ x + (wd w + cf) = sumN (fun j => wd (up nu sc w j) + cf) (sc + 1) := by
  have es : ∀ k, k ≤ sc → sumN (fun j => wd (up nu sc w j) + cf) k = sumN (fun j => wd (nu j) + cf) k := fun k hk => sumN_congr (fun j hj => by rw [up_n _ _ (by omega)])
  refine ⟨fun k hk => ?_, ?_⟩
  · by_cases e : k = sc
    · subst e
      rw [up_s, up_s, up_s, es k (Nat.le_refl _)]
      exact ⟨⟨h1, h2⟩, hx, rfl⟩
    · obtain ⟨a, b, d⟩ := h k (by omega)
      rw [up_n _ _ e, up_n _ _ e, up_n _ _ e, es k (by omega)]
      exact ⟨a, b, d⟩
  · rw [sumN, es sc (Nat.le_refl _), up_s, ← hx]
theorem skn_le (kc : Nat) (kp : Nat → Nat) (x : Nat) : (skn kc kp x).1 ≤ kc + 1 ∧ 0 < (skn kc kp x).1 ∧ (skn kc kp x).2 ((skn kc kp x).1 - 1) = x := by
  by_cases h : 0 < kc ∧ kp (kc - 1) = x
  · rw [skn_in h]
    exact ⟨by dsimp only; omega, h.1, h.2⟩
  · rw [skn_out h]
    exact ⟨Nat.le_refl _, by dsimp only; omega, by dsimp only; rw [show kc + 1 - 1 = kc by omega, up_s]⟩
