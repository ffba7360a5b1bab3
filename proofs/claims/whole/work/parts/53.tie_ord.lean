/-! the class's order is the reference's -/
set_option maxRecDepth 20000 in
theorem cp_bit : ∀ n, n < 10 → ∀ V, V < 2 ^ n → ∀ x, x < n → bit (2 ^ n - 1 - V) x = 1 - bit V x := by decide +kernel
set_option maxRecDepth 20000 in
theorem cp_clr : ∀ n, n < 10 → ∀ V, V < 2 ^ n → ∀ x, x < n → bit V x = 0 → clr (2 ^ n - 1 - V) x = 2 ^ n - 1 - sto V x := by decide +kernel
theorem p512 {n : Nat} (hn : n ≤ 9) : 2 ^ n ≤ 512 := (Nat.pow_le_pow_right (by decide) hn : 2 ^ n ≤ 2 ^ 9)
theorem cp_1 {n V x : Nat} (hn : n ≤ 9) (hV : V < 2 ^ n) (hx : x < n) : bit (2 ^ n - 1 - V) x = 1 ↔ bit V x = 0 := by
  have h := cp_bit n (by omega) V hV x hx
  have := bit_01 V x
  omega
theorem cp_0 {n V x : Nat} (hn : n ≤ 9) (hV : V < 2 ^ n) (hx : x < n) : bit (2 ^ n - 1 - V) x = 0 ↔ bit V x = 1 := by
  have h := cp_bit n (by omega) V hV x hx
  have := bit_01 V x
  omega
theorem sto_b {n V x : Nat} (hn : n ≤ 9) (hV : V < 2 ^ n) (hx : x < n) : bit (sto V x) x = 1 := by
  have := p512 hn
  rw [bit_sto V (by omega) x (by omega) x (by omega), if_pos rfl]
section ORD
variable {sp fw mo re : Nat → Nat} {n : Nat}
theorem re_fw (hn : n ≤ 9) (he : ∀ a, a < n → ∀ b, b < n → sp (a * 9 + b) = mo (9 * a + b)) (hI : MI sp fw n (2 ^ n) 0) (hB : MB mo re n 0 0) : ∀ d V l : Nat, 2 ^ n - 1 - V = d → 0 < V → V < 2 ^ n → l < n → bit V l = 1 → re (9 * V + l) = fw ((2 ^ n - 1 - V) * 9 + l) := by
  have h5 := p512 hn
  intro d
  induction d using Nat.strongRecOn with
  | ind d ih =>
    intro V l hd hV hV2 hl hb
    have hA := (hI (2 ^ n - 1 - V) l hl ((cp_0 hn hV2 hl).mpr hb) (Or.inl (by omega))).1
    have hT := (hB V l hl hV2 (Or.inl (by omega))).1
    have eq : ∀ x, x < n → bit V x = 0 → mth mo re V l x = thr sp fw (2 ^ n - 1 - V) l x := fun x hx hx0 => by
      have h1 := cp_clr n (by omega) V hV2 x hx hx0
      have h2 := sto_2n n (by omega) V hV2 x hx
      have h3 := sto_lt V (by omega) x (by omega) hx0
      have h4 := ih (2 ^ n - 1 - sto V x) (by omega) (sto V x) x rfl (by omega) h2 hx (sto_b hn hV2 hx)
      unfold mth thr stp
      rw [if_neg (by omega), h1, ← h4, Int.toNat_natCast, he l hl x hx]
    rcases hT with ⟨a1, a2⟩ | ⟨x, a1, a2, a3, a4⟩
    · rcases hA with ⟨b1, b2⟩ | ⟨y, b1, b2, _⟩
      · rw [a2, b2]
      · exact absurd ((cp_1 hn hV2 b1).mp b2) (a1 y b1)
    · rcases hA with ⟨b1, b2⟩ | ⟨y, b1, b2, b3, b4⟩
      · have := b1 x a1
        have := (cp_1 hn hV2 a1).mpr a2
        omega
      · have ey := (cp_1 hn hV2 b1).mp b2
        have e1 := a4 y b1 ey
        have e2 := b4 x a1 ((cp_1 hn hV2 a1).mpr a2)
        rw [a3, b3]
        rw [eq x a1 a2] at e1 ⊢
        rw [eq y b1 ey] at e1
        omega
theorem thr_msm (hn : n ≤ 9) (he : ∀ a, a < n → ∀ b, b < n → sp (a * 9 + b) = mo (9 * a + b)) (hI : MI sp fw n (2 ^ n) 0) (hB : MB mo re n 0 0) {V z : Nat} {la : Int} (hV : V < 2 ^ n) (hz : z < n) (h0 : bit V z = 0) (hla : la = -1 ∨ ∃ a : Nat, a < n ∧ la = a) : thr sp fw (2 ^ n - 1 - V) la z = msm mo re la V z := by
  have h5 := p512 hn
  have h1 := cp_clr n (by omega) V hV z hz h0
  have h2 := sto_2n n (by omega) V hV z hz
  have h3 := sto_lt V (by omega) z (by omega) h0
  have h4 := re_fw hn he hI hB _ (sto V z) z rfl (by omega) h2 hz (sto_b hn hV hz)
  unfold thr stp msm
  rw [h1, h4]
  rcases hla with rfl | ⟨a, ha, rfl⟩
  · rw [if_pos rfl, if_pos (by decide)]
  · rw [if_neg (by omega), if_neg (by omega), Int.toNat_natCast, he a ha z hz]
theorem LN.nat {f : Nat → Nat} {S n x : Nat} (h : LN f S n (x : Int)) : x < n ∧ bit S x = 1 ∧ ∀ y, y < n → bit S y = 1 → f x ≤ f y ∧ (y < x → f x < f y) := by
  rcases h with ⟨h, _⟩ | ⟨y, h, h2⟩
  · omega
  · have e : x = y := by omega
    subst e
    exact h2
theorem st_v {b : Nat → Nat} {k : Nat} (hn : n ≤ 9) (hM : MG mo re n b k) : ∀ j, j ≤ k → stS n b j = 2 ^ n - 1 - vS b j
  | 0, _ => rfl
  | j + 1, h => by
    have hv := (vS_512 hn (k := j) (fun i hi => hM i (by omega))).1
    have hl := hM j (by omega)
    show clr (stS n b j) (b j) = 2 ^ n - 1 - sto (vS b j) (b j)
    rw [st_v hn hM j (by omega), cp_clr n (by omega) _ hv _ hl.1 hl.2.1]
theorem GR_MG (hn : n ≤ 9) (he : ∀ a, a < n → ∀ b, b < n → sp (a * 9 + b) = mo (9 * a + b)) (hI : MI sp fw n (2 ^ n) 0) (hB : MB mo re n 0 0) {a b : Nat → Nat} {k : Nat} (hG : GR sp fw n a n) (hM : MG mo re n b k) (hk : k ≤ n) : ∀ j, j < k → a j = b j := by
  intro j
  induction j using Nat.strongRecOn with
  | ind j ih =>
    intro hj
    have pre : ∀ i, i < j → a i = b i := fun i hi => ih i hi (by omega)
    have hL := hG j (by omega)
    rw [stS_congr pre, laS_congr pre, st_v hn hM j (by omega)] at hL
    have hv := (vS_512 hn (k := j) (fun i hi => hM i (by omega))).1
    obtain ⟨c1, c2, c3⟩ := hL.nat
    obtain ⟨d1, d2, d3⟩ := hM j hj
    have hla : laS b j = -1 ∨ ∃ a : Nat, a < n ∧ laS b j = a := by
      cases j with
      | zero => exact Or.inl rfl
      | succ i => exact Or.inr ⟨b i, (hM i (by omega)).1, rfl⟩
    have c2' := (cp_1 hn hv c1).mp c2
    have x1 := c3 (b j) d1 ((cp_1 hn hv d1).mpr d2)
    have x2 := d3 (a j) c1 c2'
    rw [thr_msm hn he hI hB hv d1 d2 hla, thr_msm hn he hI hB hv c1 c2' hla] at x1
    rcases Nat.lt_trichotomy (a j) (b j) with h | h | h
    · have := x2.2 h
      omega
    · exact h
    · have := x1.2 h
      omega
theorem GR.rest {nm : Nat → Nat} (hn : n ≤ 9) (hI : MI sp fw n (2 ^ n) 0) (hG : GR sp fw n nm n) (hlt : ∀ j, j < n → nm j < n) : ∀ d j, j + d + 1 = n → thr sp fw (stS n nm j) (laS nm j) (nm j) + tot sp nm j = tot sp nm n := by
  have h5 := p512 hn
  have h1 : 1 ≤ 2 ^ n := Nat.pos_of_ne_zero (by simp)
  intro d
  induction d with
  | zero =>
    intro j hj
    obtain ⟨c1, c2, -⟩ := (hG j (by omega)).nat
    have hS := stS_le n nm j
    have hS1 := stS_le n nm (j + 1)
    have hb := bit_clr (stS n nm j) (by omega) (nm j) (by omega) (nm j) (by omega) c2
    rw [if_pos rfl] at hb
    have hTA := (hI (stS n nm (j + 1)) (nm j) c1 hb (Or.inl (by omega))).1
    have hz := bits_left hn hG hlt
    have hz2 := sumN_zero (f := bit (stS n nm n)) (n := n) (by omega)
    have e0 : fw (stS n nm (j + 1) * 9 + nm j) = 0 := by
      rcases hTA with ⟨_, h⟩ | ⟨x, a1, a2, _⟩
      · exact h
      · rw [show j + 1 = n by omega] at a2
        have := hz2 x a1
        omega
    have et : tot sp nm n = tot sp nm j + stp sp (laS nm j) (nm j) := by
      rw [← show j + 1 = n by omega]
      rfl
    have e2 : thr sp fw (stS n nm j) (laS nm j) (nm j) = stp sp (laS nm j) (nm j) + fw (stS n nm (j + 1) * 9 + nm j) := rfl
    omega
  | succ d ih =>
    intro j hj
    obtain ⟨c1, c2, -⟩ := (hG j (by omega)).nat
    have hS := stS_le n nm j
    have hS1 := stS_le n nm (j + 1)
    have hb := bit_clr (stS n nm j) (by omega) (nm j) (by omega) (nm j) (by omega) c2
    rw [if_pos rfl] at hb
    have hTA := (hI (stS n nm (j + 1)) (nm j) c1 hb (Or.inl (by omega))).1
    obtain ⟨g1, g2, g3⟩ := (hG (j + 1) (by omega)).nat
    have e0 : fw (stS n nm (j + 1) * 9 + nm j) = thr sp fw (stS n nm (j + 1)) (laS nm (j + 1)) (nm (j + 1)) := by
      rcases hTA with ⟨h, _⟩ | ⟨x, a1, a2, a3, a4⟩
      · have := h _ g1
        omega
      · have x1 := a4 _ g1 g2
        have x2 := (g3 x a1 a2).1
        rw [a3]
        show thr sp fw (stS n nm (j + 1)) (laS nm (j + 1)) x = _
        have x1 : thr sp fw (stS n nm (j + 1)) (laS nm (j + 1)) x ≤ thr sp fw (stS n nm (j + 1)) (laS nm (j + 1)) (nm (j + 1)) := x1
        omega
    have et : tot sp nm (j + 1) = tot sp nm j + stp sp (laS nm j) (nm j) := rfl
    have e2 : thr sp fw (stS n nm j) (laS nm j) (nm j) = stp sp (laS nm j) (nm j) + fw (stS n nm (j + 1) * 9 + nm j) := rfl
    have := ih (j + 1) (by omega)
    omega
theorem ord_tot {F : Nat → Nat → Nat} {tt v : Nat} {nm : Nat → Nat} (hn : n ≤ 9) (hO : GoodO F n tt nm) (hm : ∀ a, a < n → ∀ b, b < n → mo (9 * a + b) = F a b) (hB : MB mo re n 0 0) (hL : LST re n v) : tt = v := by
  obtain ⟨sp, fw, h1, hI, hG, hlt, rfl⟩ := hO
  have he : ∀ a, a < n → ∀ b, b < n → sp (a * 9 + b) = mo (9 * a + b) := fun a ha b hb => by rw [h1 a ha b hb, hm a ha b hb]
  have h1p : 1 ≤ 2 ^ n := Nat.pos_of_ne_zero (by simp)
  rcases hL with ⟨rfl, rfl⟩ | ⟨x, a1, a2, a3⟩
  · rfl
  · have hr := GR.rest hn hI hG hlt (n - 1) 0 (by omega)
    obtain ⟨g1, g2, g3⟩ := (hG 0 (by omega)).nat
    have key : ∀ y, y < n → thr sp fw (2 ^ n - 1) (-1) y = re (9 * 2 ^ y + y) := fun y hy => by
      have := thr_msm hn he hI hB (V := 0) (z := y) (la := -1) (by omega) hy (bit_0 y (by omega)) (Or.inl rfl)
      rw [Nat.sub_zero] at this
      rw [this]
      unfold msm
      rw [if_pos (by decide), sto_0 y (by omega), Nat.zero_add]
    have e1 : thr sp fw (stS n nm 0) (laS nm 0) (nm 0) = re (9 * 2 ^ nm 0 + nm 0) := key _ g1
    have e2 : thr sp fw (stS n nm 0) (laS nm 0) x = re (9 * 2 ^ x + x) := key _ a1
    have e3 := (g3 x a1 (bit_full n (by omega) x a1)).1
    have e4 := a3 _ g1
    have e5 : tot sp nm 0 = 0 := rfl
    omega
theorem ord_num {F : Nat → Nat → Nat} {tt k : Nat} {nm num : Nat → Nat} (hn : n ≤ 9) (hO : GoodO F n tt nm) (hm : ∀ a, a < n → ∀ b, b < n → mo (9 * a + b) = F a b) (hB : MB mo re n 0 0) (hM : MG mo re n num (k + 1)) (hk : k < n) : nm k = num k := by
  obtain ⟨sp, fw, h1, hI, hG, hlt, rfl⟩ := hO
  have he : ∀ a, a < n → ∀ b, b < n → sp (a * 9 + b) = mo (9 * a + b) := fun a ha b hb => by rw [h1 a ha b hb, hm a ha b hb]
  exact GR_MG hn he hI hB hG hM (by omega) k (by omega)
theorem GoodO.congr {F G : Nat → Nat → Nat} {tt : Nat} {nm : Nat → Nat} (h : GoodO F n tt nm) (e : ∀ a, a < n → ∀ b, b < n → F a b = G a b) : GoodO G n tt nm := by
  obtain ⟨sp, fw, h1, h2⟩ := h
  exact ⟨sp, fw, fun a ha b hb => by rw [h1 a ha b hb, e a ha b hb], h2⟩
end ORD
/-! the class's knives are the reference's -/
theorem kn_mem {bg en : Nat → Nat} {sc kc : Nat} {kp : Nat → Nat} (h : KN bg en sc kc kp) (x : Nat) : (∃ j, j < kc ∧ kp j = x) ↔ ∃ k, k < sc ∧ (bg k = x ∨ en k = x) := by
  obtain ⟨rfl, hp⟩ := h
  have key : ∀ n, n ≤ sc → ((∃ j, j < kq bg en n ∧ kp j = x) ↔ ∃ k, k < n ∧ (bg k = x ∨ en k = x)) := by
    intro n
    induction n with
    | zero =>
      intro _
      constructor
      · rintro ⟨j, h, _⟩
        exact absurd h (Nat.not_lt_zero _)
      · rintro ⟨j, h, _⟩
        exact absurd h (Nat.not_lt_zero _)
    | succ n ih =>
      intro hn
      have ih := ih (by omega)
      obtain ⟨p1, p2, p3⟩ := hp n (by omega)
      have hq : kq bg en (n + 1) = kq bg en n + (if joiB bg en n = true then 0 else 1) + 1 := rfl
      by_cases hj : joi bg en n
      · rw [if_pos (joiB_iff.mpr hj)] at hq
        rw [hq, Nat.add_zero, Nat.add_sub_cancel] at p3
        have p1 := p1 hj
        have hge := (kq_ge bg en n).1
        have hj0 := hj.1
        constructor
        · rintro ⟨j, h1, h2⟩
          by_cases e : j = kq bg en n
          · subst e
            exact ⟨n, by omega, Or.inr (by rw [← p3]; exact h2)⟩
          · obtain ⟨k, k1, k2⟩ := ih.mp ⟨j, by omega, h2⟩
            exact ⟨k, by omega, k2⟩
        · rintro ⟨k, k1, k2⟩
          by_cases e : k = n
          · subst e
            rcases k2 with k2 | k2
            · exact ⟨kq bg en k - 1, by omega, by rw [p1]; exact k2⟩
            · exact ⟨kq bg en k, by omega, by rw [p3]; exact k2⟩
          · obtain ⟨j, j1, j2⟩ := ih.mpr ⟨k, by omega, k2⟩
            exact ⟨j, by omega, j2⟩
      · rw [if_neg (fun q => hj (joiB_iff.mp q))] at hq
        rw [hq, Nat.add_sub_cancel] at p3
        have p2 := p2 hj
        constructor
        · rintro ⟨j, h1, h2⟩
          by_cases e : j = kq bg en n
          · subst e
            exact ⟨n, by omega, Or.inl (by rw [← p2]; exact h2)⟩
          · by_cases e2 : j = kq bg en n + 1
            · subst e2
              exact ⟨n, by omega, Or.inr (by rw [← p3]; exact h2)⟩
            · obtain ⟨k, k1, k2⟩ := ih.mp ⟨j, by omega, h2⟩
              exact ⟨k, by omega, k2⟩
        · rintro ⟨k, k1, k2⟩
          by_cases e : k = n
          · subst e
            rcases k2 with k2 | k2
            · exact ⟨kq bg en k, by omega, by rw [p2]; exact k2⟩
            · exact ⟨kq bg en k + 1, by omega, by rw [p3]; exact k2⟩
          · obtain ⟨j, j1, j2⟩ := ih.mpr ⟨k, by omega, k2⟩
            exact ⟨j, by omega, j2⟩
  exact key sc (Nat.le_refl _)
/-- the knives rise -/
theorem KN.rise {bg en : Nat → Nat} {sc kc : Nat} {kp : Nat → Nat} (h : KN bg en sc kc kp) (h1 : ∀ k, k < sc → bg k < en k) (h2 : ∀ k, k + 1 < sc → en k ≤ bg (k + 1)) : ∀ j, j + 1 < kc → kp j < kp (j + 1) := by
  obtain ⟨rfl, hp⟩ := h
  have key : ∀ n, n ≤ sc → ∀ j, j + 1 < kq bg en n → kp j < kp (j + 1) := by
    intro n
    induction n with
    | zero =>
      intro _ j hj
      exact absurd hj (Nat.not_lt_zero _)
    | succ n ih =>
      intro hn j hj
      have ih := ih (by omega)
      obtain ⟨p1, p2, p3⟩ := hp n (by omega)
      have hq : kq bg en (n + 1) = kq bg en n + (if joiB bg en n = true then 0 else 1) + 1 := rfl
      have hbe := h1 n (by omega)
      by_cases hJ : joi bg en n
      · rw [if_pos (joiB_iff.mpr hJ)] at hq
        rw [hq, Nat.add_zero, Nat.add_sub_cancel] at p3
        by_cases e : j + 1 = kq bg en n
        · have p1 := p1 hJ
          rw [e, p3, show j = kq bg en n - 1 by omega, p1]
          exact hbe
        · exact ih j (by omega)
      · rw [if_neg (fun q => hJ (joiB_iff.mp q))] at hq
        rw [hq, Nat.add_sub_cancel] at p3
        have p2 := p2 hJ
        by_cases e : j + 1 = kq bg en n + 1
        · rw [e, p3, show j = kq bg en n by omega, p2]
          exact hbe
        · by_cases e2 : j + 1 = kq bg en n
          · have hn0 : 0 < n := by
              rcases Nat.eq_zero_or_pos n with h | h
              · subst h
                exact absurd e2 (Nat.succ_ne_zero j)
              · exact h
            have q3 := (hp (n - 1) (by omega)).2.2
            rw [show n - 1 + 1 = n by omega] at q3
            rw [e2, p2, show j = kq bg en n - 1 by omega, q3]
            have q4 := h2 (n - 1) (by omega)
            rw [show n - 1 + 1 = n by omega] at q4
            have q5 : en (n - 1) ≠ bg n := fun q => hJ ⟨hn0, q⟩
            omega
          · exact ih j (by omega)
  exact key sc (Nat.le_refl _)
theorem mv_eq {bg en B E : Nat → Nat} {sc kc lf : Nat} {kp g : Nat → Nat} {m : Nat} {Hf : Nat → Bool} (h : KN bg en sc kc kp) (hB : ∀ k, k < sc → B k = lf + bg k ∧ E k = lf + en k) (hH : ∀ x, Hf x = true ↔ ∃ j, j < m ∧ g j = x) : cntNot (fun x => lf + kp x) g m kc = mvF B E Hf sc := by
  obtain ⟨rfl, hp⟩ := h
  have st : ∀ i, cntNot (fun x => lf + kp x) g m (i + 1) = cntNot (fun x => lf + kp x) g m i + (if Hf (lf + kp i) = true then 0 else 1) := fun i => by
    rw [cntNot]
    congr 1
    by_cases q : Hf (lf + kp i) = true
    · rw [if_pos q, if_pos (isin_iff.mpr ((hH _).mp q))]
    · rw [if_neg q, if_neg (fun z => q ((hH _).mpr (isin_iff.mp z)))]
  have key : ∀ n, n ≤ sc → cntNot (fun x => lf + kp x) g m (kq bg en n) = mvF B E Hf n := by
    intro n
    induction n with
    | zero => intro _; rfl
    | succ n ih =>
      intro hn
      have ih := ih (by omega)
      obtain ⟨p1, p2, p3⟩ := hp n (by omega)
      obtain ⟨b1, b2⟩ := hB n (by omega)
      have ej : joiB B E n = joiB bg en n := by
        unfold joiB
        by_cases h0 : 0 < n
        · rw [b1, (hB (n - 1) (by omega)).2]
          have e9 : (lf + en (n - 1) == lf + bg n) = (en (n - 1) == bg n) := by
            by_cases q : en (n - 1) = bg n
            · rw [q]; simp
            · rw [beq_eq_false_iff_ne.mpr q, beq_eq_false_iff_ne.mpr (by omega)]
          rw [e9]
        · simp [h0]
      have hq : kq bg en (n + 1) = kq bg en n + (if joiB bg en n = true then 0 else 1) + 1 := rfl
      rw [mvF, ej, b1, b2]
      by_cases hJ : joi bg en n
      · have jb := joiB_iff.mpr hJ
        rw [if_pos jb] at hq
        rw [hq, Nat.add_zero, Nat.add_sub_cancel] at p3
        rw [hq, Nat.add_zero, st, ih, p3, if_pos (Or.inl jb), Nat.add_zero]
      · have jb : ¬ joiB bg en n = true := fun q => hJ (joiB_iff.mp q)
        rw [if_neg jb] at hq
        rw [hq, Nat.add_sub_cancel] at p3
        rw [hq, st, st, ih, p3, p2 hJ]
        congr 2
        by_cases q : Hf (lf + bg n) = true
        · rw [if_pos q, if_pos (Or.inr q)]
        · rw [if_neg q, if_neg (fun z => z.elim jb q)]
  exact key sc (Nat.le_refl _)
