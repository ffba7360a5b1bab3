/-! the whole search -/
def MSI (wd st : Nat → Nat) (cf cnt : Nat) (pi pf : Nat → Nat) (z : Int) : Prop := pf cnt = 0 ∧ ∀ j : Nat, z < j → j < cnt → pi j = wd j + cf ∧ pf j = pf (j + 1) + st j * pi j
theorem MSI.step {wd st : Nat → Nat} {cf cnt : Nat} {pi pf : Nat → Nat} {z : Int} (h : MSI wd st cf cnt pi pf z) (h0 : 0 ≤ z) (h1 : z < cnt) : MSI wd st cf cnt (up pi z.toNat (wd z.toNat + cf)) (up pf z.toNat (pf (z.toNat + 1) + st z.toNat * up pi z.toNat (wd z.toNat + cf) z.toNat)) (z - 1) := by
  refine ⟨by rw [up_n _ _ (by omega)]; exact h.1, fun j hj hc => ?_⟩
  by_cases e : j = z.toNat
  · subst e
    rw [up_s, up_s, up_n _ _ (by omega)]
    exact ⟨rfl, rfl⟩
  · rw [up_n _ _ e, up_n _ _ e]
    have := h.2 j (by omega) hc
    by_cases e2 : j + 1 = z.toNat
    · omega
    · rw [up_n _ _ e2]
      exact this
theorem MSI.le {wd st : Nat → Nat} {cf cnt : Nat} {pi pf : Nat → Nat} (h : MSI wd st cf cnt pi pf (-1)) (hc5 : cnt ≤ 5) (hst : ∀ i, i < cnt → st i ≤ 6) (hwd : ∀ i, i < cnt → wd i ≤ 20000) (hcf : cf ≤ 100) : ∀ d w, w + d = cnt → pf w ≤ d * 120600 := by
  intro d
  induction d with
  | zero => intro w hw; rw [show w = cnt by omega, h.1]; exact Nat.zero_le _
  | succ d ih =>
    intro w hw
    have h1 := ih (w + 1) (by omega)
    have h2 := h.2 w (by omega) (by omega)
    have h3 := hst w (by omega)
    have h4 := hwd w (by omega)
    have h5 : st w * pi w ≤ 6 * 20100 := Nat.mul_le_mul h3 (by omega)
    omega
theorem MSI.sum {wd st : Nat → Nat} {cf cnt : Nat} {pi pf : Nat → Nat} (h : MSI wd st cf cnt pi pf (-1)) {c : Nat → Nat} (hc : ∀ i, i < cnt → c i ≤ st i) : ∀ d w, w + d = cnt → psum pi c cnt ≤ psum pi c w + pf w := by
  intro d
  induction d with
  | zero => intro w hw; rw [show w = cnt by omega]; exact Nat.le_add_right _ _
  | succ d ih =>
    intro w hw
    have h1 := ih (w + 1) (by omega)
    have h2 := (h.2 w (by omega) (by omega)).2
    have h3 : c w * pi w ≤ st w * pi w := Nat.mul_le_mul_right _ (hc w (by omega))
    have h4 : psum pi c (w + 1) = psum pi c w + c w * pi w := rfl
    omega
theorem downP_id {f : Nat → PS → PS} {q : PS} (h : ∀ n, f n q = q) : ∀ n, downP f n q = q
  | 0 => h 0
  | n + 1 => by rw [downP, h]; exact downP_id h n
theorem tcP_neg {pi st pf : Nat → Nat} {room : Int} {most : Nat} (hr : room < 0) : ∀ (k w : Nat) (q : PS), q.1 = 0 → q.2.1 = 0 → tcP pi st pf room most k w 0 0 q = q
  | 0, w, q, h, h2 => by rw [tcP]; unfold keepP; rw [if_neg (by omega)]
  | k + 1, w, q, h, h2 => by
    rw [tcP]
    split
    · rfl
    · refine downP_id (fun n => ?_) _
      exact if_neg (fun h => absurd h.1 (Int.not_le.mpr (Int.lt_of_lt_of_le hr (Int.natCast_nonneg (0 + n * pi w)))))
def pit (wd : Nat → Nat) (cf : Nat) : Nat → Nat := fun i => wd i + cf
/-- what the search keeps: the best pattern (none where it has no strip) -/
def GoodP (cw cr cf cn cnt : Nat) (wd st : Nat → Nat) (bn bf : Nat) (bc : Nat → Nat) : Prop := ((cw : Int) - 2 * cr + cf < 0 → bn = 0 ∧ bf = 0 ∧ ∀ i, i < cnt → bc i = 0) ∧
  (0 ≤ (cw : Int) - 2 * cr + cf → IsBest (pit wd cf) st ((cw : Int) - 2 * cr + cf) (cn - 1) cnt bc ∧ bn = sumN bc cnt ∧ bf = if bn = 0 then 0 else psum (pit wd cf) bc cnt - cf)
theorem psum_pi {pi pj c : Nat → Nat} {n : Nat} (h : ∀ i, i < n → pi i = pj i) : psum pi c n = psum pj c n := sumN_congr (fun j hj => by rw [h j hj])
theorem IsBest.pi {pi pj st : Nat → Nat} {room : Int} {most cnt : Nat} {b : Nat → Nat} (e : ∀ i, i < cnt → pi i = pj i) (h : IsBest pi st room most cnt b) : IsBest pj st room most cnt b := by
  obtain ⟨⟨h1, h2, h3⟩, h4⟩ := h
  refine ⟨⟨h1, by rw [← psum_pi e]; exact h2, h3⟩, fun c hc => ?_⟩
  rcases h4 c ⟨hc.1, by rw [psum_pi e]; exact hc.2.1, hc.2.2⟩ with g | g
  · exact Or.inl g
  · refine Or.inr ?_
    unfold better at g ⊢
    rw [← psum_pi e, ← psum_pi e]
    exact g
theorem psum_ge {pi c : Nat → Nat} {cf : Nat} : ∀ {n : Nat}, (∀ i, i < n → cf ≤ pi i) → ¬ sumN c n = 0 → cf ≤ psum pi c n
  | 0, _, h => absurd rfl h
  | n + 1, hp, h => by
    have e : psum pi c (n + 1) = psum pi c n + c n * pi n := rfl
    rw [e]
    by_cases g : sumN c n = 0
    · have h1 : 1 ≤ c n := by rw [sumN, g] at h; omega
      have h2 : 1 * pi n ≤ c n * pi n := Nat.mul_le_mul_right _ h1
      have := hp n (by omega)
      omega
    · have := psum_ge (n := n) (fun i hi => hp i (by omega)) g
      omega
/-- out of the search's end -/
theorem search_ok {cw cr cf cn cnt : Nat} {wd st pi pf bc0 ct0 : Nat → Nat} {bs bn : Nat} {bc ct : Nat → Nat} {room : Int} (hc5 : cnt ≤ 5) (hroom : room = (cw : Int) - 2 * cr + cf) (hM : MSI wd st cf cnt pi pf (-1)) (h0 : ∀ j, j < 5 → bc0 j = 0)
    (hw : (bs, bn, bc, ct) = tcP pi st pf room (cn - 1) cnt 0 0 0 (0, 0, bc0, ct0)) : (¬ bn = 0 → cf ≤ bs) ∧ GoodP cw cr cf cn cnt wd st bn (if bn = 0 then 0 else bs - cf) bc := by
  have hpi : ∀ i, i < cnt → pi i = pit wd cf i := fun i hi => (hM.2 i (by omega) hi).1
  have z1 : ∀ i, i < cnt → bc0 i = 0 := fun i hi => h0 i (by omega)
  have z2 : psum pi bc0 cnt = 0 := sumN_zeros (fun i hi => by rw [z1 i hi, Nat.zero_mul])
  by_cases hr : room < 0
  · rw [tcP_neg hr _ _ _ rfl rfl] at hw
    cases hw
    refine ⟨fun h => absurd rfl h, fun _ => ⟨rfl, rfl, z1⟩, fun h => ?_⟩
    omega
  · obtain ⟨hB, -⟩ := tcP_BO (pi := pi) (st := st) (pf := pf) (room := room) (most := cn - 1) (cnt := cnt) hc5 (fun w hwc c hc => hM.sum hc (cnt - w) w (by omega)) cnt 0 (0, 0, bc0, ct0) (fun _ => False) 0 0 (by omega) (fun i hi => absurd hi (Nat.not_lt_zero i)) rfl rfl (by omega) (Nat.zero_le _)
      ⟨⟨z2.symm, (sumN_zeros z1).symm, Or.inr z1⟩, fun c _ h => h.elim⟩ (fun c h => h.elim)
    rw [← hw] at hB
    obtain ⟨⟨e1, e2, e3⟩, e4⟩ := hB
    dsimp only at e1 e2 e3 e4
    have hIs : IsBest pi st room (cn - 1) cnt bc := by
      refine ⟨?_, fun c hc => e4 c hc (Or.inr (fun i hi => absurd hi (Nat.not_lt_zero i)))⟩
      rcases e3 with ⟨h, _⟩ | h
      · exact h
      · have y1 : psum pi bc cnt = 0 := sumN_zeros (fun i hi => by rw [h i hi, Nat.zero_mul])
        exact ⟨fun i hi => by rw [h i hi]; exact Nat.zero_le _, by rw [y1]; omega, by rw [sumN_zeros h]; exact Nat.zero_le _⟩
    refine ⟨fun h => ?_, fun h => absurd h (by omega), fun _ => ⟨?_, e2, ?_⟩⟩
    · rw [e1]
      exact psum_ge (fun i hi => by rw [hpi i hi]; unfold pit; omega) (by rw [← e2]; exact h)
    · rw [← hroom]
      exact hIs.pi hpi
    · rw [e1, psum_pi hpi]
