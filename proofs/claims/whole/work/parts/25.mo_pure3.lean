/-- all pairs seen so far are sound -/
def sndI (ok : Nat → Nat → Prop) (n m k d v : Nat) : Prop := v ≤ 1 ∧ (v = 1 ↔ ∀ k', k' < n → ∀ d', d' < m → (k' < k ∨ (k' = k ∧ d' < d)) → ok k' d')
theorem sndI.init (ok : Nat → Nat → Prop) (n m : Nat) : sndI ok n m 0 0 1 := ⟨Nat.le_refl _, fun _ _ _ _ _ h => by omega, fun _ => rfl⟩
theorem sndI.next {ok : Nat → Nat → Prop} {n m k d v : Nat} (h : sndI ok n m k d v) (hd : m ≤ d) : sndI ok n m (k + 1) 0 v := by
  refine ⟨h.1, h.2.trans ⟨fun g k' a d' b c => g k' a d' b (by omega), fun g k' a d' b c => g k' a d' b (by omega)⟩⟩
theorem sndI.step {ok : Nat → Nat → Prop} {n m k d v w : Nat} (h : sndI ok n m k d v) (hk : k < n) (hd : d < m) (hw : w ≤ 1) (e : w = 1 ↔ v = 1 ∧ ok k d) : sndI ok n m k (d + 1) w := by
  refine ⟨hw, e.trans ⟨fun g k' a d' b c => ?_, fun g => ⟨h.2.mpr (fun k' a d' b c => g k' a d' b (by omega)), g k hk d hd (by omega)⟩⟩⟩
  by_cases q : k' = k ∧ d' = d
  · obtain ⟨rfl, rfl⟩ := q
    exact g.2
  · exact h.2.mp g.1 k' a d' b (by omega)
theorem sndI.done {ok : Nat → Nat → Prop} {n m k d v : Nat} (h : sndI ok n m k d v) (hk : n ≤ k) : v = 1 ↔ ∀ k', k' < n → ∀ d', d' < m → ok k' d' := h.2.trans ⟨fun g k' a d' b => g k' a d' b (by omega), fun g k' a d' b _ => g k' a d' b⟩
/-- the next one below: v = 0 where there is none -/
def GD (wa nw : Nat → Nat) (cnt : Nat) (nw' : Nat → Nat) (v : Nat) : Prop := (v = 0 ∧ ∀ i, i < cnt → nw i = 0) ∨ (v = 1 ∧ ∃ w, w < cnt ∧ 0 < nw w ∧ (∀ i, w < i → i < cnt → nw i = 0) ∧ nw' w = nw w - 1 ∧ (∀ i, i < w → nw' i = nw i) ∧ ∀ i, w < i → i < cnt → nw' i = wa i)
theorem gd_2 {nw : Nat → Nat} {cnt : Nat} {y : Int} (h : ∀ i : Nat, y < i → i < cnt → nw i = 0) (h0 : nw y.toNat = 0) (hy : 0 ≤ y) : ∀ i : Nat, y - 1 < i → i < cnt → nw i = 0 := fun i h1 h2 => by
  by_cases e : i = y.toNat
  · rw [e]; exact h0
  · exact h i (by omega) h2
theorem gd_3 {nx wa : Nat → Nat} {cnt : Nat} {y : Int} (h : ∀ i : Nat, y < i → i < cnt → nx i = wa i) (hy : 0 ≤ y) : ∀ i : Nat, y - 1 < i → i < cnt → up nx y.toNat (wa y.toNat) i = wa i := fun i h1 h2 => by
  by_cases e : i = y.toNat
  · rw [e, up_s]
  · rw [up_n _ _ e]; exact h i (by omega) h2
/-- its rank, the first width the heaviest -/
def rk (wa : Nat → Nat) (c : Nat → Nat) : Nat → Nat
  | 0 => 0
  | n + 1 => rk wa c n * (wa n + 1) + c n
theorem rk_congr {wa c d : Nat → Nat} : ∀ {n : Nat}, (∀ i, i < n → c i = d i) → rk wa c n = rk wa d n
  | 0, _ => rfl
  | n + 1, h => by rw [rk, rk, rk_congr (fun i hi => h i (by omega)), h n (by omega)]
theorem GD_rk {wa nw nw' : Nat → Nat} {cnt w : Nat} (hw : w < cnt) (h0 : 0 < nw w) (h1 : ∀ i, w < i → i < cnt → nw i = 0) (h2 : nw' w = nw w - 1) (h3 : ∀ i, i < w → nw' i = nw i) (h4 : ∀ i, w < i → i < cnt → nw' i = wa i) : rk wa nw' cnt + 1 = rk wa nw cnt := by
  have key : ∀ d, w + 1 + d ≤ cnt → rk wa nw' (w + 1 + d) + 1 = rk wa nw (w + 1 + d) := by
    intro d
    induction d with
    | zero =>
      intro _
      show rk wa nw' w * (wa w + 1) + nw' w + 1 = rk wa nw w * (wa w + 1) + nw w
      rw [rk_congr h3, h2]
      omega
    | succ d ih =>
      intro hd
      have e := ih (by omega)
      show rk wa nw' (w + 1 + d) * (wa (w + 1 + d) + 1) + nw' (w + 1 + d) + 1 = rk wa nw (w + 1 + d) * (wa (w + 1 + d) + 1) + nw (w + 1 + d)
      rw [h4 _ (by omega) (by omega), h1 _ (by omega) (by omega), ← e, Nat.succ_mul]
      omega
  have := key (cnt - (w + 1)) (by omega)
  rwa [show w + 1 + (cnt - (w + 1)) = cnt by omega] at this
theorem GD_lex {wa nw nw' : Nat → Nat} {cnt w : Nat} (hw : w < cnt) (h0 : 0 < nw w) (h1 : ∀ i, w < i → i < cnt → nw i = 0) (h2 : nw' w = nw w - 1) (h3 : ∀ i, i < w → nw' i = nw i) (h4 : ∀ i, w < i → i < cnt → nw' i = wa i) :
    lexgt cnt nw nw' ∧ ∀ c : Nat → Nat, (∀ i, i < cnt → c i ≤ wa i) → lexgt cnt c nw' → lexgt cnt c nw ∨ eqto cnt c nw := by
  refine ⟨⟨w, hw, fun i hi => (h3 i hi).symm, by omega⟩, fun c hc hl => ?_⟩
  obtain ⟨k, hk, e, g⟩ := hl
  rcases Nat.lt_trichotomy k w with h | h | h
  · exact Or.inl ⟨k, hk, fun i hi => by rw [e i hi, h3 i (by omega)], by rw [← h3 k h]; exact g⟩
  · subst h
    by_cases q : c k = nw k
    · by_cases q2 : ∃ j, j < cnt ∧ (∀ i, i < j → c i = nw i) ∧ nw j < c j
      · exact Or.inl q2
      · refine Or.inr (fun i hi => ?_)
        have all : ∀ n, n ≤ cnt → ∀ i, i < n → c i = nw i := by
          intro n
          induction n with
          | zero => intro _ i hi; omega
          | succ n ih =>
            intro hn i hi
            by_cases e2 : i = n
            · subst e2
              by_cases l1 : i < k
              · rw [e i l1, h3 i l1]
              · by_cases l2 : i = k
                · rw [l2]; exact q
                · have z := h1 i (by omega) (by omega)
                  have : ¬ nw i < c i := fun q3 => q2 ⟨i, by omega, ih (by omega), q3⟩
                  omega
            · exact ih (by omega) i (by omega)
        exact all cnt (Nat.le_refl _) i hi
    · exact Or.inl ⟨k, hk, fun i hi => by rw [e i hi, h3 i hi], by omega⟩
  · have := hc k hk
    rw [h4 k h hk] at g
    omega
theorem lex_zero {cnt : Nat} {c z : Nat → Nat} (hz : ∀ i, i < cnt → z i = 0) : eqto cnt c z ∨ lexgt cnt c z := by
  have key : ∀ n, n ≤ cnt → (∀ i, i < n → c i = z i) ∨ ∃ k, k < n ∧ (∀ i, i < k → c i = z i) ∧ z k < c k := by
    intro n
    induction n with
    | zero => intro _; exact Or.inl (fun i hi => absurd hi (Nat.not_lt_zero i))
    | succ n ih =>
      intro hn
      rcases ih (by omega) with h | ⟨k, h1, h2, h3⟩
      · by_cases e : c n = z n
        · exact Or.inl (lt_s h e)
        · have := hz n (by omega)
          exact Or.inr ⟨n, by omega, h, by omega⟩
      · exact Or.inr ⟨k, by omega, h2, h3⟩
  rcases key cnt (Nat.le_refl _) with h | ⟨k, h1, h2, h3⟩
  · exact Or.inl h
  · exact Or.inr ⟨k, h1, h2, h3⟩
theorem psum_pit (ww c : Nat → Nat) (kf : Nat) : ∀ n, psum (pit ww kf) c n = sumN (fun i => c i * ww i) n + kf * sumN c n
  | 0 => by simp [psum, sumN]
  | n + 1 => by
    have := psum_pit ww c kf n
    show psum (pit ww kf) c n + c n * (ww n + kf) = sumN (fun i => c i * ww i) n + c n * ww n + kf * (sumN c n + c n)
    rw [this, Nat.mul_add, Nat.mul_add, Nat.mul_comm (c n) kf]
    omega
theorem BO.eqC {pi st : Nat → Nat} {room : Int} {most cnt bs bn : Nat} {V : (Nat → Nat) → Prop} {bc bd ct cu : Nat → Nat} (h : BO pi st room most cnt V (bs, bn, bc, ct)) (e : eqto cnt bc bd) (hV : ∀ c d, eqto cnt c d → V c → V d) : BO pi st room most cnt V (bs, bn, bd, cu) := by
  obtain ⟨⟨a, b, d⟩, f⟩ := h
  dsimp only at a b d f
  refine ⟨⟨?_, ?_, ?_⟩, fun c hc hv => ?_⟩
  · show bs = psum pi bd cnt
    rw [a, psum_congr e]
  · show bn = sumN bd cnt
    rw [b, e.sum]
  · rcases d with ⟨x, y⟩ | d
    · refine Or.inl ⟨⟨fun i hi => ?_, ?_, ?_⟩, hV _ _ e y⟩
      · show bd i ≤ st i
        rw [← e i hi]; exact x.1 i hi
      · show ((psum pi bd cnt : Nat) : Int) ≤ room
        rw [← psum_congr e]; exact x.2.1
      · show sumN bd cnt ≤ most
        rw [← e.sum]; exact x.2.2
    · exact Or.inr (fun i hi => by show bd i = 0; rw [← e i hi]; exact d i hi)
  · have e' : eqto cnt bd bc := fun i hi => (e i hi).symm
    rcases f c hc hv with g | g
    · exact Or.inl (fun i hi => by show bd i = c i; rw [e' i hi]; exact g i hi)
    · refine Or.inr ?_
      have p1 := psum_congr (pi := pi) e
      have p2 := e.sum
      rcases g with g | ⟨g, g3 | ⟨g3, k, g4, g5, g6⟩⟩
      · exact Or.inl (by show psum pi c cnt < psum pi bd cnt; omega)
      · exact Or.inr ⟨by show psum pi c cnt = psum pi bd cnt; omega, Or.inl (by show sumN bd cnt < sumN c cnt; omega)⟩
      · exact Or.inr ⟨by show psum pi c cnt = psum pi bd cnt; omega, Or.inr ⟨by show sumN bd cnt = sumN c cnt; omega, k, g4, fun i hi => by show bd i = c i; rw [e' i (by omega)]; exact g5 i hi, by show c k < bd k; rw [e' k g4]; exact g6⟩⟩
/-- out of all seen: the best pattern -/
theorem BO.good {cw cr cf cn cnt bs bn : Nat} {ww wa bc ct : Nat → Nat} (h : BO (pit ww cf) wa ((cw : Int) - 2 * cr + cf) (cn - 1) cnt (fun c => ∀ i, i < cnt → c i ≤ wa i) (bs, bn, bc, ct)) : GoodP cw cr cf cn cnt ww wa bn (if bn = 0 then 0 else bs - cf) bc := by
  obtain ⟨⟨e1, e2, e3⟩, e4⟩ := h
  dsimp only at e1 e2 e3 e4
  refine ⟨fun hr => ?_, fun hr => ⟨⟨?_, fun c hc => e4 c hc hc.1⟩, e2, by rw [e1]⟩⟩
  · have z : ∀ i, i < cnt → bc i = 0 := by
      rcases e3 with ⟨x, _⟩ | x
      · exact absurd x.2.1 (by omega)
      · exact x
    have : bn = 0 := by rw [e2]; exact sumN_zeros z
    rw [if_pos this]
    exact ⟨this, rfl, z⟩
  · rcases e3 with ⟨x, _⟩ | x
    · exact x
    · have y1 : psum (pit ww cf) bc cnt = 0 := sumN_zeros (fun i hi => by rw [x i hi, Nat.zero_mul])
      exact ⟨fun i hi => by rw [x i hi]; exact Nat.zero_le _, by rw [y1]; omega, by rw [sumN_zeros x]; exact Nat.zero_le _⟩
