/-! pure words: how many places of a row are not in another; sums; the least left without a defect -/
/-- is x among the first m of g -/
def isin (g : Nat → Nat) (x : Nat) : Nat → Bool
  | 0 => false
  | m + 1 => isin g x m || g m == x
theorem isin_iff {g : Nat → Nat} {x : Nat} : ∀ {m : Nat}, isin g x m = true ↔ ∃ j, j < m ∧ g j = x
  | 0 => by simp [isin]
  | m + 1 => by
    rw [isin, Bool.or_eq_true, isin_iff (m := m), beq_iff_eq]
    constructor
    · rintro (⟨j, h1, h2⟩ | h)
      · exact ⟨j, by omega, h2⟩
      · exact ⟨m, by omega, h⟩
    · rintro ⟨j, h1, h2⟩
      by_cases h : j = m
      · subst h
        exact Or.inr h2
      · exact Or.inl ⟨j, by omega, h2⟩
/-- how many of the first n of f are not among the first m of g -/
def cntNot (f g : Nat → Nat) (m : Nat) : Nat → Nat
  | 0 => 0
  | n + 1 => cntNot f g m n + if isin g (f n) m = true then 0 else 1
theorem cntNot_le (f g : Nat → Nat) (m : Nat) : ∀ n, cntNot f g m n ≤ n
  | 0 => Nat.le_refl 0
  | n + 1 => by
    have := cntNot_le f g m n
    rw [cntNot]
    split <;> omega
theorem cntNot_in {f g : Nat → Nat} {m n : Nat} (h : ∃ j, j < m ∧ g j = f n) : cntNot f g m (n + 1) = cntNot f g m n := by
  rw [cntNot, if_pos (isin_iff.mpr h), Nat.add_zero]
theorem cntNot_out {f g : Nat → Nat} {m n : Nat} (h : ¬ ∃ j, j < m ∧ g j = f n) : cntNot f g m (n + 1) = cntNot f g m n + 1 := by
  rw [cntNot, if_neg (fun q => h (isin_iff.mp q))]
/-- the sum of the first n -/
def sumN (f : Nat → Nat) : Nat → Nat
  | 0 => 0
  | n + 1 => sumN f n + f n
theorem sumN_congr {f g : Nat → Nat} : ∀ {n : Nat}, (∀ j, j < n → f j = g j) → sumN f n = sumN g n
  | 0, _ => rfl
  | n + 1, h => by
    rw [sumN, sumN, sumN_congr (fun j hj => h j (by omega)), h n (by omega)]
/-! the best pattern: counts c of the first cnt widths; pitches pi, wanted strips st -/
def psum (pi c : Nat → Nat) : Nat → Nat := sumN (fun i => c i * pi i)
def Fe (pi st : Nat → Nat) (room : Int) (most cnt : Nat) (c : Nat → Nat) : Prop := (∀ i, i < cnt → c i ≤ st i) ∧ ((psum pi c cnt : Nat) : Int) ≤ room ∧ sumN c cnt ≤ most
/-- b comes ahead of c by its numbers -/
def lexgt (cnt : Nat) (b c : Nat → Nat) : Prop := ∃ k, k < cnt ∧ (∀ i, i < k → b i = c i) ∧ c k < b k
def better (pi : Nat → Nat) (cnt : Nat) (b c : Nat → Nat) : Prop := psum pi c cnt < psum pi b cnt ∨ (psum pi c cnt = psum pi b cnt ∧ (sumN b cnt < sumN c cnt ∨ (sumN b cnt = sumN c cnt ∧ lexgt cnt b c)))
def eqto (cnt : Nat) (b c : Nat → Nat) : Prop := ∀ i, i < cnt → b i = c i
def Beq (pi : Nat → Nat) (cnt : Nat) (b c : Nat → Nat) : Prop := eqto cnt b c ∨ better pi cnt b c
theorem psum_congr {pi c d : Nat → Nat} {n : Nat} (h : eqto n c d) : psum pi c n = psum pi d n := sumN_congr (fun j hj => by rw [h j hj])
theorem eqto.sum {c d : Nat → Nat} {n : Nat} (h : eqto n c d) : sumN c n = sumN d n := sumN_congr h
theorem lexgt.trans {n : Nat} {a b c : Nat → Nat} (h1 : lexgt n a b) (h2 : lexgt n b c) : lexgt n a c := by
  obtain ⟨j, hj, e1, l1⟩ := h1
  obtain ⟨k, hk, e2, l2⟩ := h2
  rcases Nat.lt_trichotomy j k with h | h | h
  · exact ⟨j, hj, fun i hi => by rw [e1 i hi, e2 i (by omega)], by rw [← e2 j h]; exact l1⟩
  · subst h
    exact ⟨j, hj, fun i hi => by rw [e1 i hi, e2 i hi], by omega⟩
  · exact ⟨k, hk, fun i hi => by rw [e1 i (by omega), e2 i hi], by rw [e1 k h]; exact l2⟩
theorem lexgt.eqR {n : Nat} {a b c : Nat → Nat} (h1 : lexgt n a b) (h2 : eqto n b c) : lexgt n a c := by
  obtain ⟨j, hj, e1, l1⟩ := h1
  exact ⟨j, hj, fun i hi => by rw [e1 i hi, h2 i (by omega)], by rw [← h2 j hj]; exact l1⟩
theorem lexgt.irrefl {n : Nat} {a b : Nat → Nat} (h1 : lexgt n a b) (h2 : eqto n a b) : False := by
  obtain ⟨j, hj, e1, l1⟩ := h1
  have := h2 j hj
  omega
theorem better.eqR {pi : Nat → Nat} {n : Nat} {a b c : Nat → Nat} (h1 : better pi n a b) (h2 : eqto n b c) : better pi n a c := by
  have e1 : psum pi b n = psum pi c n := psum_congr h2
  have e2 := h2.sum
  rcases h1 with h | ⟨h, h3 | ⟨h3, h4⟩⟩
  · exact Or.inl (by omega)
  · exact Or.inr ⟨by omega, Or.inl (by omega)⟩
  · exact Or.inr ⟨by omega, Or.inr ⟨by omega, h4.eqR h2⟩⟩
theorem better.trans {pi : Nat → Nat} {n : Nat} {a b c : Nat → Nat} (h1 : better pi n a b) (h2 : better pi n b c) : better pi n a c := by
  rcases h1 with h | ⟨h, h3 | ⟨h3, h4⟩⟩ <;> rcases h2 with g | ⟨g, g3 | ⟨g3, g4⟩⟩
  · exact Or.inl (by omega)
  · exact Or.inl (by omega)
  · exact Or.inl (by omega)
  · exact Or.inl (by omega)
  · exact Or.inr ⟨by omega, Or.inl (by omega)⟩
  · exact Or.inr ⟨by omega, Or.inl (by omega)⟩
  · exact Or.inl (by omega)
  · exact Or.inr ⟨by omega, Or.inl (by omega)⟩
  · exact Or.inr ⟨by omega, Or.inr ⟨by omega, h4.trans g4⟩⟩
theorem better.irrefl {pi : Nat → Nat} {n : Nat} {a b : Nat → Nat} (h1 : better pi n a b) (h2 : eqto n a b) : False := by
  have e1 : psum pi a n = psum pi b n := psum_congr h2
  have e2 := h2.sum
  rcases h1 with h | ⟨h, h3 | ⟨h3, h4⟩⟩
  · omega
  · omega
  · exact h4.irrefl h2
/-- the best one: there is one at most -/
def IsBest (pi st : Nat → Nat) (room : Int) (most cnt : Nat) (b : Nat → Nat) : Prop := Fe pi st room most cnt b ∧ ∀ c, Fe pi st room most cnt c → Beq pi cnt b c
theorem IsBest.uniq {pi st : Nat → Nat} {room : Int} {most cnt : Nat} {a b : Nat → Nat} (h1 : IsBest pi st room most cnt a) (h2 : IsBest pi st room most cnt b) : eqto cnt a b := by
  rcases h1.2 b h2.1 with h | h
  · exact h
  · rcases h2.2 a h1.1 with g | g
    · exact fun i hi => (g i hi).symm
    · exact absurd (fun i _ => rfl) (fun q => (h.trans g).irrefl q)
/-! the search: bestSum, bestStrips, bestCounts, counts -/
abbrev PS : Type := Nat × Nat × (Nat → Nat) × (Nat → Nat)
def cpy5 (f g : Nat → Nat) : Nat → Nat := fun j => if j < 5 then f j else g j
def keepP (s n : Nat) (q : PS) : PS := if q.1 < s ∨ (s = q.1 ∧ n < q.2.1) then (s, n, cpy5 q.2.2.2 q.2.2.1, q.2.2.2) else q
def downP (f : Nat → PS → PS) : Nat → PS → PS
  | 0, q => f 0 q
  | n + 1, q => downP f n (f (n + 1) q)
def tcP (pi st pf : Nat → Nat) (room : Int) (most : Nat) : Nat → Nat → Nat → Nat → PS → PS
  | 0, _, sum, strips, q => keepP sum strips q
  | k + 1, w, sum, strips, q => if sum + pf w < q.1 then q else downP (fun n q => if ((sum + n * pi w : Nat) : Int) ≤ room ∧ strips + n ≤ most then tcP pi st pf room most k (w + 1) (sum + n * pi w) (strips + n) (q.1, q.2.1, q.2.2.1, up q.2.2.2 w n) else q) (st w) q
/-- the best so far, of those seen -/
def BO (pi st : Nat → Nat) (room : Int) (most cnt : Nat) (V : (Nat → Nat) → Prop) (q : PS) : Prop :=
  (q.1 = psum pi q.2.2.1 cnt ∧ q.2.1 = sumN q.2.2.1 cnt ∧ ((Fe pi st room most cnt q.2.2.1 ∧ V q.2.2.1) ∨ ∀ i, i < cnt → q.2.2.1 i = 0)) ∧ ∀ c, Fe pi st room most cnt c → V c → Beq pi cnt q.2.2.1 c
theorem sumN_zero {f : Nat → Nat} : ∀ {n : Nat}, sumN f n = 0 → ∀ i, i < n → f i = 0
  | 0, _, i, hi => absurd hi (Nat.not_lt_zero i)
  | n + 1, h, i, hi => by
    rw [sumN] at h
    by_cases e : i = n
    · subst e
      omega
    · exact sumN_zero (n := n) (by omega) i (by omega)
theorem sumN_zeros {f : Nat → Nat} : ∀ {n : Nat}, (∀ i, i < n → f i = 0) → sumN f n = 0
  | 0, _ => rfl
  | n + 1, h => by rw [sumN, sumN_zeros (fun i hi => h i (by omega)), h n (by omega)]
theorem BO.mono {pi st : Nat → Nat} {room : Int} {most cnt : Nat} {V V' : (Nat → Nat) → Prop} {q : PS} (h : BO pi st room most cnt V q) (h1 : ∀ c, V c → V' c) (h2 : ∀ c, Fe pi st room most cnt c → V' c → V c ∨ Beq pi cnt q.2.2.1 c) : BO pi st room most cnt V' q := by
  obtain ⟨⟨a, b, d⟩, f⟩ := h
  refine ⟨⟨a, b, ?_⟩, ?_⟩
  · rcases d with ⟨x, y⟩ | d
    · exact Or.inl ⟨x, h1 _ y⟩
    · exact Or.inr d
  · intro c hc hv
    rcases h2 c hc hv with g | g
    · exact f c hc g
    · exact g
theorem keepP_ct (s n : Nat) (q : PS) : (keepP s n q).2.2.2 = q.2.2.2 := by
  unfold keepP
  split <;> rfl
theorem keepP_BO {pi st : Nat → Nat} {room : Int} {most cnt : Nat} {V : (Nat → Nat) → Prop} {q : PS} (hc5 : cnt ≤ 5) (h : BO pi st room most cnt V q) (hf : Fe pi st room most cnt q.2.2.2)
    (hV : ∀ c, V c → lexgt cnt c q.2.2.2) : BO pi st room most cnt (fun c => V c ∨ eqto cnt c q.2.2.2) (keepP (psum pi q.2.2.2 cnt) (sumN q.2.2.2 cnt) q) := by
  obtain ⟨bs, bn, bc, ct⟩ := q
  obtain ⟨⟨a, b, d⟩, f⟩ := id h
  dsimp only at a b d f hf hV ⊢
  have hcp : eqto cnt (cpy5 ct bc) ct := fun i hi => by unfold cpy5; rw [if_pos (by omega)]
  unfold keepP
  dsimp only
  split
  · rename_i hif
    have e1 : psum pi (cpy5 ct bc) cnt = psum pi ct cnt := psum_congr hcp
    have e2 := hcp.sum
    refine ⟨⟨e1.symm, e2.symm, Or.inl ⟨⟨fun i hi => by show cpy5 ct bc i ≤ st i; rw [hcp i hi]; exact hf.1 i hi, by show ((psum pi (cpy5 ct bc) cnt : Nat) : Int) ≤ room; rw [e1]; exact hf.2.1, by show sumN (cpy5 ct bc) cnt ≤ most; rw [e2]; exact hf.2.2⟩, Or.inr hcp⟩⟩, ?_⟩
    intro c hc hv
    dsimp only
    have hb : better pi cnt (cpy5 ct bc) bc := by
      rcases hif with g | ⟨g1, g2⟩
      · exact Or.inl (by omega)
      · exact Or.inr ⟨by omega, Or.inl (by omega)⟩
    rcases hv with hv | hv
    · rcases f c hc hv with g | g
      · exact Or.inr (hb.eqR g)
      · exact Or.inr (hb.trans g)
    · exact Or.inl (fun i hi => by rw [hcp i hi, hv i hi])
  · rename_i hif
    refine h.mono (fun c hc => Or.inl hc) ?_
    intro c hc hv
    rcases hv with hv | hv
    · exact Or.inl hv
    refine Or.inr ?_
    dsimp only
    have e1 : psum pi c cnt = psum pi ct cnt := psum_congr hv
    have e2 := hv.sum
    have hn : ¬ bs < psum pi ct cnt := fun q => hif (Or.inl q)
    by_cases g1 : psum pi ct cnt = bs
    · have hn2 : ¬ sumN ct cnt < bn := fun q => hif (Or.inr ⟨g1, q⟩)
      by_cases g2 : bn < sumN ct cnt
      · exact Or.inr (Or.inr ⟨by omega, Or.inl (by omega)⟩)
      · rcases d with ⟨x, y⟩ | d
        · exact Or.inr (Or.inr ⟨by omega, Or.inr ⟨by omega, (hV _ y).eqR (fun i hi => (hv i hi).symm)⟩⟩)
        · have z := sumN_zeros d
          exact Or.inl (fun i hi => by rw [d i hi, sumN_zero (f := c) (n := cnt) (by omega) i hi])
    · exact Or.inr (Or.inl (by omega))
theorem sumN_mono {f : Nat → Nat} {a b : Nat} (h : a ≤ b) : sumN f a ≤ sumN f b := by
  induction b with
  | zero => rw [show a = 0 by omega]; exact Nat.le_refl _
  | succ b ih =>
    by_cases e : a = b + 1
    · rw [e]; exact Nat.le_refl _
    · have := ih (by omega)
      rw [sumN]
      omega
theorem psum_up (pi ct : Nat → Nat) (w n : Nat) : psum pi (up ct w n) (w + 1) = psum pi ct w + n * pi w := by
  have h : psum pi (up ct w n) w = psum pi ct w := psum_congr (fun i hi => up_n ct n (by omega))
  show sumN _ w + up ct w n w * pi w = _
  rw [up_s]
  show psum pi (up ct w n) w + n * pi w = _
  rw [h]
theorem sumN_up (ct : Nat → Nat) (w n : Nat) : sumN (up ct w n) (w + 1) = sumN ct w + n := by
  have h : sumN (up ct w n) w = sumN ct w := sumN_congr (fun i hi => up_n ct n (by omega))
  rw [sumN, up_s, h]
theorem downP_ind {P : Nat → PS → Prop} {f : Nat → PS → PS} (hs : ∀ n q, P (n + 1) q → P n (f n q)) : ∀ n q, P (n + 1) q → P 0 (downP f n q)
  | 0, q, h => hs 0 q h
  | n + 1, q, h => downP_ind hs n _ (hs (n + 1) q h)
/-- the search sees all: what it keeps is the best of those seen before and of all with this beginning -/
theorem tcP_BO {pi st pf : Nat → Nat} {room : Int} {most cnt : Nat} (hc5 : cnt ≤ 5) (hpf : ∀ w, w < cnt → ∀ c : Nat → Nat, (∀ i, i < cnt → c i ≤ st i) → psum pi c cnt ≤ psum pi c w + pf w) :
    ∀ (k w : Nat) (q : PS) (V : (Nat → Nat) → Prop) (sum strips : Nat), w + k = cnt → (∀ i, i < w → q.2.2.2 i ≤ st i) → sum = psum pi q.2.2.2 w → strips = sumN q.2.2.2 w → ((sum : Nat) : Int) ≤ room → strips ≤ most → BO pi st room most cnt V q →
      (∀ c, V c → ∃ j, j < w ∧ (∀ i, i < j → c i = q.2.2.2 i) ∧ q.2.2.2 j < c j) →
      BO pi st room most cnt (fun c => V c ∨ eqto w c q.2.2.2) (tcP pi st pf room most k w sum strips q) ∧ eqto w (tcP pi st pf room most k w sum strips q).2.2.2 q.2.2.2 := by
  intro k
  induction k with
  | zero =>
    intro w q V sum strips hw hst hsum hstr hroom hmost hB hV
    have e : w = cnt := by omega
    subst e
    subst hsum; subst hstr
    rw [tcP]
    refine ⟨keepP_BO hc5 hB ⟨hst, hroom, hmost⟩ hV, ?_⟩
    rw [keepP_ct]
    exact fun i _ => rfl
  | succ k ih =>
    intro w q V sum strips hw hst hsum hstr hroom hmost hB hV
    have hwc : w < cnt := by omega
    rw [tcP]
    split
    · rename_i hpr
      refine ⟨hB.mono (fun c h => Or.inl h) ?_, fun i _ => rfl⟩
      intro c hc hv
      rcases hv with hv | hv
      · exact Or.inl hv
      · refine Or.inr (Or.inr (Or.inl ?_))
        have h1 := hpf w hwc c hc.1
        have h2 : psum pi c w = psum pi q.2.2.2 w := psum_congr hv
        have h3 := hB.1.1
        omega
    · have key : ∀ n q1, (BO pi st room most cnt (fun c => V c ∨ (eqto w c q.2.2.2 ∧ n + 1 ≤ c w)) q1 ∧ eqto w q1.2.2.2 q.2.2.2) → n ≤ st w →
          (BO pi st room most cnt (fun c => V c ∨ (eqto w c q.2.2.2 ∧ n ≤ c w)) (if ((sum + n * pi w : Nat) : Int) ≤ room ∧ strips + n ≤ most then tcP pi st pf room most k (w + 1) (sum + n * pi w) (strips + n) (q1.1, q1.2.1, q1.2.2.1, up q1.2.2.2 w n) else q1) ∧ eqto w (if ((sum + n * pi w : Nat) : Int) ≤ room ∧ strips + n ≤ most then tcP pi st pf room most k (w + 1) (sum + n * pi w) (strips + n) (q1.1, q1.2.1, q1.2.2.1, up q1.2.2.2 w n) else q1).2.2.2 q.2.2.2) := by
        intro n q1 h1 hn
        obtain ⟨hB1, hE1⟩ := h1
        have es : psum pi q1.2.2.2 w = sum := by rw [hsum]; exact psum_congr hE1
        have et : sumN q1.2.2.2 w = strips := by rw [hstr]; exact hE1.sum
        split
        · rename_i hif
          obtain ⟨r1, r2⟩ := ih (w + 1) (q1.1, q1.2.1, q1.2.2.1, up q1.2.2.2 w n) (fun c => V c ∨ (eqto w c q.2.2.2 ∧ n + 1 ≤ c w)) (sum + n * pi w) (strips + n) (by omega)
            (fun i hi => by
              show up q1.2.2.2 w n i ≤ st i
              by_cases e : i = w
              · subst e; rw [up_s]; exact hn
              · rw [up_n _ _ e, hE1 i (by omega)]; exact hst i (by omega))
            (by show _ = psum pi (up q1.2.2.2 w n) (w + 1); rw [psum_up, es])
            (by show _ = sumN (up q1.2.2.2 w n) (w + 1); rw [sumN_up, et])
            hif.1 hif.2 hB1
            (fun c hv => by
              rcases hv with hv | ⟨hv, hg⟩
              · obtain ⟨j, hj, e1, l1⟩ := hV c hv
                refine ⟨j, by omega, fun i hi => ?_, ?_⟩
                · show c i = up q1.2.2.2 w n i
                  rw [up_n _ _ (by omega), hE1 i (by omega)]; exact e1 i hi
                · show up q1.2.2.2 w n j < c j
                  rw [up_n _ _ (by omega), hE1 j (by omega)]; exact l1
              · refine ⟨w, by omega, fun i hi => ?_, ?_⟩
                · show c i = up q1.2.2.2 w n i
                  rw [up_n _ _ (by omega), hE1 i hi]; exact hv i hi
                · show up q1.2.2.2 w n w < c w
                  rw [up_s]; omega)
          refine ⟨r1.mono ?_ ?_, ?_⟩
          · intro c hv
            rcases hv with (hv | ⟨hv, hg⟩) | hv
            · exact Or.inl hv
            · exact Or.inr ⟨hv, by omega⟩
            · refine Or.inr ⟨fun i hi => ?_, ?_⟩
              · have := hv i (by omega)
                rw [this]
                show up q1.2.2.2 w n i = _
                rw [up_n _ _ (by omega), hE1 i hi]
              · have := hv w (by omega)
                rw [this]
                show n ≤ up q1.2.2.2 w n w
                rw [up_s]
                exact Nat.le_refl n
          · intro c hc hv
            refine Or.inl ?_
            rcases hv with hv | ⟨hv, hg⟩
            · exact Or.inl (Or.inl hv)
            · by_cases e : c w = n
              · refine Or.inr (fun i hi => ?_)
                show c i = up q1.2.2.2 w n i
                by_cases e2 : i = w
                · subst e2; rw [up_s, e]
                · rw [up_n _ _ e2, hE1 i (by omega)]; exact hv i (by omega)
              · exact Or.inl (Or.inr ⟨hv, by omega⟩)
          · intro i hi
            have := r2 i (by omega)
            rw [this]
            show up q1.2.2.2 w n i = _
            rw [up_n _ _ (by omega), hE1 i hi]
        · rename_i hif
          refine ⟨hB1.mono ?_ ?_, hE1⟩
          · intro c hv
            rcases hv with hv | ⟨hv, hg⟩
            · exact Or.inl hv
            · exact Or.inr ⟨hv, by omega⟩
          · intro c hc hv
            rcases hv with hv | ⟨hv, hg⟩
            · exact Or.inl (Or.inl hv)
            · by_cases e : c w = n
              · exfalso
                apply hif
                have m1 : psum pi c (w + 1) ≤ psum pi c cnt := sumN_mono (by omega)
                have m2 : sumN c (w + 1) ≤ sumN c cnt := sumN_mono (by omega)
                have m3 : psum pi c (w + 1) = psum pi c w + n * pi w := by
                  show sumN _ w + c w * pi w = _
                  rw [e]
                  rfl
                have m4 : sumN c (w + 1) = sumN c w + n := by rw [sumN, e]
                have m5 : psum pi c w = sum := by rw [hsum]; exact psum_congr hv
                have m6 : sumN c w = strips := by rw [hstr]; exact hv.sum
                have m7 := hc.2.1
                have m8 := hc.2.2
                constructor
                · omega
                · omega
              · exact Or.inl (Or.inr ⟨hv, by omega⟩)
      have fin := (downP_ind (P := fun n q1 => n ≤ st w + 1 ∧ (BO pi st room most cnt (fun c => V c ∨ (eqto w c q.2.2.2 ∧ n ≤ c w)) q1 ∧ eqto w q1.2.2.2 q.2.2.2))
        (f := fun n q1 => if ((sum + n * pi w : Nat) : Int) ≤ room ∧ strips + n ≤ most then tcP pi st pf room most k (w + 1) (sum + n * pi w) (strips + n) (q1.1, q1.2.1, q1.2.2.1, up q1.2.2.2 w n) else q1)
        (fun n q1 h => ⟨by omega, key n q1 h.2 (by omega)⟩) (st w) q
        ⟨Nat.le_refl _, hB.mono (fun c h => Or.inl h) (fun c hc hv => by
          rcases hv with hv | ⟨hv, hg⟩
          · exact Or.inl hv
          · have := hc.1 w hwc
            omega), fun i _ => rfl⟩).2
      refine ⟨fin.1.mono ?_ ?_, fin.2⟩
      · intro c hv
        rcases hv with hv | ⟨hv, hg⟩
        · exact Or.inl hv
        · exact Or.inr hv
      · intro c hc hv
        refine Or.inl ?_
        rcases hv with hv | hv
        · exact Or.inl hv
        · exact Or.inr ⟨hv, Nat.zero_le _⟩
