theorem fv_eq (ww nw : Nat → Nat) (kf n : Nat) : (kf : Int) * (((sumN nw n : Nat) : Int) - 1) + ((sumN (fun i => nw i * ww i) n : Nat) : Int) = ((psum (pit ww kf) nw n : Nat) : Int) - kf := by
  rw [psum_pit, Int.mul_sub, Int.natCast_add, Int.natCast_mul]
  omega
theorem psum_bd {pi c : Nat → Nat} {B M : Nat} : ∀ {n : Nat}, (∀ i, i < n → c i ≤ B ∧ pi i ≤ M) → psum pi c n ≤ n * (B * M)
  | 0, _ => Nat.zero_le _
  | n + 1, h => by
    have h1 := psum_bd (n := n) (fun i hi => h i (by omega))
    have h2 := h n (by omega)
    have h3 : c n * pi n ≤ B * M := Nat.mul_le_mul h2.1 h2.2
    show psum pi c n + c n * pi n ≤ _
    rw [Nat.succ_mul]
    omega
theorem sumN_bd {c : Nat → Nat} {B : Nat} : ∀ {n : Nat}, (∀ i, i < n → c i ≤ B) → sumN c n ≤ n * B
  | 0, _ => Nat.zero_le _
  | n + 1, h => by
    have h1 := sumN_bd (n := n) (fun i hi => h i (by omega))
    have h2 := h n (by omega)
    rw [sumN, Nat.succ_mul]
    omega
def FV (cnt : Nat) (wa nw : Nat → Nat) : (Nat → Nat) → Prop := fun c => (∀ i, i < cnt → c i ≤ wa i) ∧ lexgt cnt c nw
/-- the reference's search: v = 1 while there is more -/
def FBI (cw cr cf cn cnt : Nat) (ww wa nw be : Nat → Nat) (v mo fw : Nat) : Prop := v ≤ 1 ∧ (fw = 0 → mo = 0) ∧ ∃ bs, (¬ fw = 0 → mo + cf = bs) ∧
  (v = 1 → (∀ i, i < cnt → nw i ≤ wa i) ∧ BO (pit ww cf) wa ((cw : Int) - 2 * cr + cf) (cn - 1) cnt (FV cnt wa nw) (bs, fw, be, nw)) ∧
  (v = 0 → BO (pit ww cf) wa ((cw : Int) - 2 * cr + cf) (cn - 1) cnt (fun c => ∀ i, i < cnt → c i ≤ wa i) (bs, fw, be, nw))
/-- behind the comparison: this one is seen too -/
def FBM (cw cr cf cn cnt : Nat) (ww wa nw be : Nat → Nat) (mo fw : Nat) : Prop := (fw = 0 → mo = 0) ∧ (∀ i, i < cnt → nw i ≤ wa i) ∧ ∃ bs, (¬ fw = 0 → mo + cf = bs) ∧ BO (pit ww cf) wa ((cw : Int) - 2 * cr + cf) (cn - 1) cnt (fun c => FV cnt wa nw c ∨ eqto cnt c nw) (bs, fw, be, nw)
theorem FBI.start {cw cr cf cn cnt : Nat} {ww wa nw be : Nat → Nat} (hn : ∀ i, i < cnt → nw i = wa i) (hb : ∀ i, i < cnt → be i = 0) : FBI cw cr cf cn cnt ww wa nw be 1 0 0 := by
  refine ⟨Nat.le_refl _, fun _ => rfl, 0, fun h => absurd rfl h, fun _ => ⟨fun i hi => by rw [hn i hi]; exact Nat.le_refl _, ?_⟩, fun h => absurd h (by decide)⟩
  refine ⟨⟨?_, ?_, Or.inr hb⟩, fun c _ hv => ?_⟩
  · show 0 = psum _ be cnt
    exact (sumN_zeros (fun i hi => by rw [hb i hi, Nat.zero_mul])).symm
  · show 0 = sumN be cnt
    exact (sumN_zeros hb).symm
  · obtain ⟨h1, k, hk, _, h3⟩ := hv
    have := h1 k hk
    rw [hn k hk] at h3
    omega
theorem FBI.no {cw cr cf cn cnt : Nat} {ww wa nw be : Nat → Nat} {mo fw : Nat} (hc5 : cnt ≤ 5) (h2 : 2 ≤ cn) (hw : ∀ i, i < cnt → 1 ≤ ww i) (h : FBI cw cr cf cn cnt ww wa nw be 1 mo fw)
    (hn : ¬ (0 < sumN nw cnt ∧ sumN nw cnt < cn ∧ ((psum (pit ww cf) nw cnt : Nat) : Int) - cf ≤ (cw : Int) - 2 * cr ∧ ((mo : Int) < ((psum (pit ww cf) nw cnt : Nat) : Int) - cf ∨ (((psum (pit ww cf) nw cnt : Nat) : Int) - cf = mo ∧ sumN nw cnt < fw)))) : FBM cw cr cf cn cnt ww wa nw be mo fw := by
  obtain ⟨-, h0, bs, hb, h1, -⟩ := h
  obtain ⟨hle, hB⟩ := h1 rfl
  refine ⟨h0, hle, bs, hb, ?_⟩
  have e1 : bs = psum (pit ww cf) be cnt := hB.1.1
  have e2 : fw = sumN be cnt := hB.1.2.1
  by_cases hz : sumN nw cnt = 0
  · refine hB.mono (fun c h => Or.inl h) (fun c hc hv => ?_)
    rcases hv with hv | hv
    · exact Or.inl hv
    · refine Or.inr ?_
      show Beq (pit ww cf) cnt be c
      by_cases hf : fw = 0
      · refine Or.inl (fun i hi => ?_)
        rw [sumN_zero (f := be) (n := cnt) (by rw [← e2]; exact hf) i hi, hv i hi, sumN_zero (f := nw) (n := cnt) hz i hi]
      · refine Or.inr (Or.inl ?_)
        have p1 : psum (pit ww cf) c cnt = 0 := sumN_zeros (fun i hi => by rw [hv i hi, sumN_zero (f := nw) (n := cnt) hz i hi, Nat.zero_mul])
        have p2 := psum_ge (pi := pit ww cf) (c := be) (cf := 1) (n := cnt) (fun i hi => by have := hw i hi; unfold pit; omega) (by rw [← e2]; exact hf)
        omega
  · by_cases hf : Fe (pit ww cf) wa ((cw : Int) - 2 * cr + cf) (cn - 1) cnt nw
    · have hk := keepP_BO hc5 hB hf (fun c hc => hc.2)
      have hs := psum_ge (pi := pit ww cf) (c := nw) (cf := cf + 1) (n := cnt) (fun i hi => by have := hw i hi; unfold pit; omega) hz
      have f2 := hf.2.1
      have f3 := hf.2.2
      rw [keepP_ne (show ¬ (bs < psum (pit ww cf) nw cnt ∨ (psum (pit ww cf) nw cnt = bs ∧ sumN nw cnt < fw)) from fun q => hn ⟨by omega, by omega, by omega, by
        by_cases g : fw = 0
        · have := h0 g
          omega
        · have := hb g
          omega⟩)] at hk
      exact hk
    · refine hB.mono (fun c h => Or.inl h) (fun c hc hv => ?_)
      rcases hv with hv | hv
      · exact Or.inl hv
      · exact absurd ⟨hle, by rw [← psum_congr hv]; exact hc.2.1, by rw [← hv.sum]; exact hc.2.2⟩ hf
theorem FBI.yes {cw cr cf cn cnt : Nat} {ww wa nw be bx : Nat → Nat} {mo fw : Nat} (hc5 : cnt ≤ 5) (h2 : 2 ≤ cn) (hw : ∀ i, i < cnt → 1 ≤ ww i) (h : FBI cw cr cf cn cnt ww wa nw be 1 mo fw)
    (a1 : 0 < sumN nw cnt) (a2 : sumN nw cnt < cn) (a3 : ((psum (pit ww cf) nw cnt : Nat) : Int) - cf ≤ (cw : Int) - 2 * cr) (a4 : (mo : Int) < ((psum (pit ww cf) nw cnt : Nat) : Int) - cf ∨ (((psum (pit ww cf) nw cnt : Nat) : Int) - cf = mo ∧ sumN nw cnt < fw)) (hx : ∀ i, i < cnt → bx i = nw i) :
    FBM cw cr cf cn cnt ww wa nw bx (psum (pit ww cf) nw cnt - cf) (sumN nw cnt) := by
  obtain ⟨-, h0, bs, hb, h1, -⟩ := h
  obtain ⟨hle, hB⟩ := h1 rfl
  have e1 : bs = psum (pit ww cf) be cnt := hB.1.1
  have e2 : fw = sumN be cnt := hB.1.2.1
  have hs := psum_ge (pi := pit ww cf) (c := nw) (cf := cf + 1) (n := cnt) (fun i hi => by have := hw i hi; unfold pit; omega) (by omega)
  have hk := keepP_BO hc5 hB ⟨hle, by dsimp only; omega, by dsimp only; omega⟩ (fun c hc => hc.2)
  have hcond : bs < psum (pit ww cf) nw cnt ∨ (psum (pit ww cf) nw cnt = bs ∧ sumN nw cnt < fw) := by
    by_cases g : fw = 0
    · left
      have p0 : psum (pit ww cf) be cnt = 0 := sumN_zeros (fun i hi => by rw [sumN_zero (f := be) (n := cnt) (by rw [← e2]; exact g) i hi, Nat.zero_mul])
      omega
    · have := hb g
      omega
  rw [keepP_eq (q := (bs, fw, be, nw)) hcond] at hk
  refine ⟨fun g => by omega, hle, psum (pit ww cf) nw cnt, fun _ => by omega, hk.eqC (fun i hi => ?_) (fun c d e v => ?_)⟩
  · show cpy5 nw be i = bx i
    unfold cpy5
    rw [if_pos (by omega), hx i hi]
  · have e' : eqto cnt d c := fun i hi => (e i hi).symm
    rcases v with ⟨v1, k, v2, v3, v4⟩ | v
    · exact Or.inl ⟨fun i hi => by rw [e' i hi]; exact v1 i hi, k, v2, fun i hi => by rw [e' i (by omega)]; exact v3 i hi, by rw [e' k v2]; exact v4⟩
    · exact Or.inr (fun i hi => by rw [e' i hi]; exact v i hi)
theorem FBM.next {cw cr cf cn cnt : Nat} {ww wa nw nw' be : Nat → Nat} {mo fw v : Nat} (h : FBM cw cr cf cn cnt ww wa nw be mo fw) (hg : GD wa nw cnt nw' v) : FBI cw cr cf cn cnt ww wa nw' be v mo fw ∧ (v = 1 → rk wa nw' cnt + 1 = rk wa nw cnt) := by
  obtain ⟨h0, hle, bs, hb, hB⟩ := h
  rcases hg with ⟨hv, hz⟩ | ⟨hv, w, g1, g2, g3, g4, g5, g6⟩
  · refine ⟨⟨by omega, h0, bs, hb, fun e => by omega, fun _ => ?_⟩, fun e => by omega⟩
    have hB2 := hB.mono (V' := fun c => ∀ i, i < cnt → c i ≤ wa i) (fun c hv => by
      rcases hv with hv | hv
      · exact hv.1
      · exact fun i hi => by rw [hv i hi]; exact hle i hi) (fun c hc hv => by
      rcases lex_zero (c := c) hz with q | q
      · exact Or.inl (Or.inr q)
      · exact Or.inl (Or.inl ⟨hv, q⟩))
    exact hB2
  · obtain ⟨l1, l2⟩ := GD_lex (wa := wa) g1 g2 g3 g4 g5 g6
    have hle' : ∀ i, i < cnt → nw' i ≤ wa i := fun i hi => by
      rcases Nat.lt_trichotomy i w with q | q | q
      · rw [g5 i q]; exact hle i hi
      · have := hle w g1
        rw [q, g4]; omega
      · rw [g6 i q hi]; exact Nat.le_refl _
    refine ⟨⟨by omega, h0, bs, hb, fun _ => ⟨hle', ?_⟩, fun e => by omega⟩, fun _ => GD_rk g1 g2 g3 g4 g5 g6⟩
    have hB2 := hB.mono (V' := FV cnt wa nw') (fun c hv => by
      rcases hv with hv | hv
      · exact ⟨hv.1, hv.2.trans l1⟩
      · refine ⟨fun i hi => by rw [hv i hi]; exact hle i hi, ?_⟩
        obtain ⟨k, k1, k2, k3⟩ := l1
        exact ⟨k, k1, fun i hi => by rw [hv i (by omega)]; exact k2 i hi, by rw [hv k k1]; exact k3⟩) (fun c hc hv => Or.inl (by
      rcases l2 c hv.1 hv.2 with q | q
      · exact Or.inl ⟨hv.1, q⟩
      · exact Or.inr q))
    exact hB2
theorem FBI.done {cw cr cf cn cnt : Nat} {ww wa nw be : Nat → Nat} {mo fw : Nat} (h : FBI cw cr cf cn cnt ww wa nw be 0 mo fw) : GoodP cw cr cf cn cnt ww wa fw mo be := by
  obtain ⟨-, h0, bs, hb, -, h1⟩ := h
  have := (h1 rfl).good
  by_cases g : fw = 0
  · rw [if_pos g, ← h0 g] at this
    exact this
  · rw [if_neg g, ← hb g, Nat.add_sub_cancel] at this
    exact this
