/-! a set-up of the class and the reference's -/
def TI (ww sw sk sr sf sl ss : Nat → Nat) (cnt : Nat) (sa : Nat → Nat → Nat → Nat) (sv : Nat → Nat → Nat) (i : Nat) : Prop :=
  (sw i = sv i 3 ∧ sk i = sv i 4 ∧ sr i = sv i 5 ∧ sl i = sv i 1) ∧
  (∀ w, w < 5 → ss (5 * i + w) ≤ 6) ∧ sv i 0 = sumN (fun w => ss (5 * i + w)) 5 ∧ HW (fun w => ss (5 * i + w)) (sa i 0) ∧
  (∀ k, k < sv i 0 → sa i 0 k < cnt ∧ 1 ≤ ww (sa i 0 k) ∧ sa i 1 k = bgm ww (sa i 0) (sf i) k ∧ sa i 2 k = sa i 1 k + ww (sa i 0 k)) ∧
  KN (sa i 1) (sa i 2) (sv i 0) (sv i 2) (sa i 3) ∧
  1 ≤ sv i 0 ∧ sv i 6 = sa i 2 (sv i 0 - 1) ∧ 1 ≤ sv i 3 ∧ sv i 3 ≤ 20000 ∧ sv i 4 ≤ 50000 ∧ sv i 5 ≤ sv i 1 ∧ sv i 1 + sv i 6 + sv i 5 ≤ sv i 3
section TIS
variable {ww sw sk sr sf sl ss : Nat → Nat} {cnt : Nat} {sa : Nat → Nat → Nat → Nat} {sv : Nat → Nat → Nat} {i : Nat}
theorem TI.step (h : TI ww sw sk sr sf sl ss cnt sa sv i) {k : Nat} (hk : k + 1 < sv i 0) : sa i 2 k ≤ sa i 1 (k + 1) := by
  obtain ⟨-, -, -, -, h5, -⟩ := h
  have a := h5 k (by omega)
  have b := h5 (k + 1) hk
  have e : bgm ww (sa i 0) (sf i) (k + 1) = bgm ww (sa i 0) (sf i) k + (ww (sa i 0 k) + sf i) := rfl
  rw [b.2.2.1, e, a.2.2.2, a.2.2.1]
  omega
theorem TI.en_le (h : TI ww sw sk sr sf sl ss cnt sa sv i) : ∀ d k, k + d + 1 = sv i 0 → sa i 2 k ≤ sv i 6 := by
  intro d
  induction d with
  | zero =>
    intro k hk
    obtain ⟨-, -, -, -, -, -, -, h8, -⟩ := h
    rw [h8, show sv i 0 - 1 = k by omega]
    exact Nat.le_refl _
  | succ d ih =>
    intro k hk
    have a := h.step (k := k) (by omega)
    have b := ih (k + 1) (by omega)
    have c := (h.2.2.2.2.1 (k + 1) (by omega)).2.2.2
    omega
theorem TI.le30 (h : TI ww sw sk sr sf sl ss cnt sa sv i) : sv i 0 ≤ 30 := by
  have h2 := h.2.1
  have h0 := h2 0 (by omega); have h1 := h2 1 (by omega); have h2' := h2 2 (by omega); have h3 := h2 3 (by omega); have h4 := h2 4 (by omega)
  rw [h.2.2.1]
  simp only [sumN]
  omega
theorem TI.sok (h : TI ww sw sk sr sf sl ss cnt sa sv i) : SOK sa sv i := by
  have h30 := h.le30
  have hel := h.en_le
  obtain ⟨-, -, -, -, h5, -, h7, h8, h9, h10, h11, h12, h13⟩ := h
  refine ⟨h30, h9, h10, h11, by omega, fun k hk => ⟨?_, ?_⟩⟩
  · have := (h5 k hk).2.2.2
    omega
  · have := hel (sv i 0 - k - 1) k (by omega)
    omega
theorem TI.lt (h : TI ww sw sk sr sf sl ss cnt sa sv i) {k : Nat} (hk : k < sv i 0) : sa i 1 k < sa i 2 k := by
  have := h.2.2.2.2.1 k hk
  omega
theorem TI.kok (h : TI ww sw sk sr sf sl ss cnt sa sv i) : KOK sa sv i := by
  have hs := h.sok
  have hK := h.2.2.2.2.2.1
  refine ⟨?_, hK.rise (fun k hk => h.lt hk) (fun k hk => h.step hk), fun j hj => ?_⟩
  · have := (kq_ge (sa i 1) (sa i 2) (sv i 0)).2
    have := hK.1
    have := hs.1
    omega
  · obtain ⟨k, k1, k2⟩ := (kn_mem hK (sa i 3 j)).mp ⟨j, hj, rfl⟩
    have := hs.2.2.2.2.2 k k1
    rcases k2 with k2 | k2 <;> omega
theorem TI.em (h : TI ww sw sk sr sf sl ss cnt sa sv i) {k : Nat} (hk : k < sv i 0) : Bm ww (sa i 0) (sf i) (sl i) k = sv i 1 + sa i 1 k ∧ Em ww (sa i 0) (sf i) (sl i) k = sv i 1 + sa i 2 k := by
  obtain ⟨⟨-, -, -, h4⟩, -, -, -, h5, -⟩ := h
  obtain ⟨-, -, a, b⟩ := h5 k hk
  unfold Bm Em
  rw [h4, b, a]
  exact ⟨rfl, by omega⟩
theorem TI.all (h : TI ww sw sk sr sf sl ss cnt sa sv i) : HW (fun w => ss (5 * i + w)) (sa i 0) ∧ (∀ w, w < 5 → ss (5 * i + w) ≤ 6) ∧ ∀ k, k < sumN (fun w => ss (5 * i + w)) 5 → Em ww (sa i 0) (sf i) (sl i) k < 1000000 := by
  refine ⟨h.2.2.2.1, h.2.1, fun k hk => ?_⟩
  rw [← h.2.2.1] at hk
  have := (h.sok.2.2.2.2.2 k hk).2
  rw [(h.em hk).2]
  omega
theorem TI.hsw (h : TI ww sw sk sr sf sl ss cnt sa sv i) : 1 ≤ sw i ∧ sw i ≤ 20000 ∧ sk i ≤ 50000 := by
  obtain ⟨⟨h1, h2, -, -⟩, -, -, -, -, -, -, -, h9, h10, h11, -⟩ := h
  rw [h1, h2]
  exact ⟨h9, h10, h11⟩
theorem TI.ber (h : TI ww sw sk sr sf sl ss cnt sa sv i) {k : Nat} (hk : k < sv i 0) : bgr ww (sa i 0) (sf i) k = sa i 1 k ∧ enr ww (sa i 0) (sf i) k = sa i 2 k := by
  obtain ⟨-, -, a, b⟩ := h.2.2.2.2.1 k hk
  unfold bgr enr
  rw [b, a]
  exact ⟨rfl, rfl⟩
theorem TI.hsh (h : TI ww sw sk sr sf sl ss cnt sa sv i) : 1 ≤ sumN (fun w => ss (5 * i + w)) 5 ∧ sl i ≤ 20000 ∧ sw i ≤ 20000 ∧ 2 * sr i + enr ww (sa i 0) (sf i) (sumN (fun w => ss (5 * i + w)) 5 - 1) ≤ sw i := by
  have h' := h
  obtain ⟨⟨h1, h2, h3, h4⟩, -, h5, -, -, -, h7, h8, h9, h10, h11, h12, h13⟩ := h'
  rw [← h5, (h.ber (k := sv i 0 - 1) (by omega)).2, h1, h3, h4]
  omega
theorem TI.wgt (h : TI ww sw sk sr sf sl ss cnt sa sv i) {k : Nat} (hk : k < sv i 0) : wt (sv i 4) (sv i 3) (sv i 1) (sa i 1) (sa i 2) k = sk i * Em ww (sa i 0) (sf i) (sl i) k / sw i - sk i * Bm ww (sa i 0) (sf i) (sl i) k / sw i := by
  rw [(h.em hk).1, (h.em hk).2, h.1.1, h.1.2.1]
  rfl
theorem TI.mv {j : Nat} (ha : TI ww sw sk sr sf sl ss cnt sa sv i) (hb : TI ww sw sk sr sf sl ss cnt sa sv j) : MVc sa sv i j = MVm ww sf sl ss (fun i => sa i 0) i j := by
  unfold MVc MVm
  rw [← hb.2.2.1, ← ha.2.2.1]
  refine mv_eq (lf := sv j 1) hb.2.2.2.2.2.1 (fun k hk => hb.em hk) (fun x => ?_)
  rw [hkB_iff]
  constructor
  · rintro ⟨k, k1, k2⟩
    rw [(ha.em k1).1, (ha.em k1).2] at k2
    obtain ⟨y, y1, y2⟩ := (kn_mem ha.2.2.2.2.2.1 (x - sv i 1)).mpr ⟨k, k1, by omega⟩
    refine ⟨y, y1, ?_⟩
    show sv i 1 + sa i 3 y = x
    omega
  · rintro ⟨y, y1, y2⟩
    have y2 : sv i 1 + sa i 3 y = x := y2
    obtain ⟨k, k1, k2⟩ := (kn_mem ha.2.2.2.2.2.1 (sa i 3 y)).mp ⟨y, y1, rfl⟩
    refine ⟨k, k1, ?_⟩
    rw [(ha.em k1).1, (ha.em k1).2]
    omega
theorem okL_congr {bg en bg' en' fr to : Nat → Nat} {sc dc L : Nat} (e : ∀ k, k < sc → bg k = bg' k ∧ en k = en' k) : okL bg en fr to sc dc L → okL bg' en' fr to sc dc L := fun h k hk d hd => by
  have := h k hk d hd
  unfold hit at this ⊢
  rw [← (e k hk).1, ← (e k hk).2]
  exact this
theorem SS.congr {bg en bg' en' fr to : Nat → Nat} {sc dc tr gr : Nat} {y : Int} (e : ∀ k, k < sc → bg k = bg' k ∧ en k = en' k) (h : SS bg en fr to sc dc tr gr y) : SS bg' en' fr to sc dc tr gr y := by
  have e' : ∀ k, k < sc → bg' k = bg k ∧ en' k = en k := fun k hk => ⟨(e k hk).1.symm, (e k hk).2.symm⟩
  rcases h with ⟨L, a1, a2, a3, a4, a5⟩ | ⟨a1, a2⟩
  · exact Or.inl ⟨L, a1, a2, a3, okL_congr e a4, fun L' b1 b2 => a5 L' b1 (okL_congr e' b2)⟩
  · exact Or.inr ⟨a1, fun L b1 b2 b3 => a2 L b1 b2 (okL_congr e' b3)⟩
theorem TI.sss {fr to : Nat → Nat} {dc : Nat} {y : Int} (h : TI ww sw sk sr sf sl ss cnt sa sv i) (hs : SS (bgr ww (sa i 0) (sf i)) (enr ww (sa i 0) (sf i)) fr to (sumN (fun w => ss (5 * i + w)) 5) dc (sr i) (sw i - sr i - enr ww (sa i 0) (sf i) (sumN (fun w => ss (5 * i + w)) 5 - 1)) y) : SS (sa i 1) (sa i 2) fr to (sv i 0) dc (sv i 5) (sv i 3 - sv i 5 - sv i 6) y := by
  have h' := h
  obtain ⟨⟨h1, h2, h3, h4⟩, -, h5, -, -, -, h7, h8, -⟩ := h'
  rw [← h5, (h.ber (k := sv i 0 - 1) (by omega)).2, h1, h3, ← h8] at hs
  exact SS.congr (fun k hk => h.ber hk) hs
theorem TI.cg {ww' sw' sk' sr' sf' sl' ss' : Nat → Nat} {cnt' : Nat} {sa' : Nat → Nat → Nat → Nat} {sv' : Nat → Nat → Nat} (h : TI ww sw sk sr sf sl ss cnt sa sv i) (e1 : sw' i = sw i) (e2 : sk' i = sk i) (e3 : sr' i = sr i) (e4 : sf' i = sf i) (e5 : sl' i = sl i) (e6 : ∀ w, w < 5 → ss' (5 * i + w) = ss (5 * i + w)) (e7 : sa' i = sa i) (e8 : sv' i = sv i) (e9 : cnt ≤ cnt') (e10 : ∀ j, j < cnt → ww' j = ww j) : TI ww' sw' sk' sr' sf' sl' ss' cnt' sa' sv' i := by
  obtain ⟨⟨h1, h2, h3, h4⟩, h5, h6, h7, h8, h9⟩ := h
  have eS : ∀ n, n ≤ 5 → sumN (fun w => ss' (5 * i + w)) n = sumN (fun w => ss (5 * i + w)) n := fun n hn => sumN_congr (fun j hj => e6 j (by omega))
  have eB : ∀ k, k ≤ sv i 0 → bgm ww' (sa i 0) (sf i) k = bgm ww (sa i 0) (sf i) k := fun k hk => sumN_congr (fun j hj => by rw [e10 _ (h8 j (by omega)).1])
  unfold TI
  rw [e1, e2, e3, e4, e5, e7, e8, eS 5 (Nat.le_refl _)]
  refine ⟨⟨h1, h2, h3, h4⟩, fun w hw => by rw [e6 w hw]; exact h5 w hw, h6, fun j hj => ?_, fun k hk => ?_, h9⟩
  · rw [eS 5 (Nat.le_refl _)] at hj
    obtain ⟨a, b, c⟩ := h7 j hj
    rw [eS _ (by omega), eS _ (by omega)]
    exact ⟨a, b, c⟩
  · obtain ⟨a, b, c, d⟩ := h8 k hk
    rw [e10 _ a, eB k (by omega)]
    exact ⟨by omega, b, c, d⟩
theorem TI.shift {L : Nat} (h : TI ww sw sk sr sf sl ss cnt sa sv i) (h1 : sv i 5 ≤ L) (h2 : L + sv i 6 + sv i 5 ≤ sv i 3) : TI ww sw sk sr sf (up sl i L) ss cnt (upG sa i (sa i)) (upG sv i (fv7 (sv i 0) L (sv i 2) (sv i 3) (sv i 4) (sv i 5) (sv i 6))) i := by
  obtain ⟨⟨g1, g2, g3, g4⟩, g5, g6, g7, g8, g9, g10, g11, g12, g13, g14, g15, g16⟩ := h
  unfold TI
  rw [upG_s, upG_s, up_s]
  exact ⟨⟨g1, g2, g3, rfl⟩, g5, g6, g7, g8, g9, g10, g11, g12, g13, g14, h1, h2⟩
end TIS
/-! the best pattern is one -/
section GPS
variable {cw cr cf cn cnt bn bf bn' bf' : Nat} {wd st st' bc bc' : Nat → Nat}
theorem Fe.still {pi : Nat → Nat} {room : Int} {most : Nat} {c : Nat → Nat} (e : ∀ i, i < cnt → st i = st' i) (h : Fe pi st room most cnt c) : Fe pi st' room most cnt c := ⟨fun i hi => by rw [← e i hi]; exact h.1 i hi, h.2⟩
theorem GoodP.still (e : ∀ i, i < cnt → st i = st' i) (h : GoodP cw cr cf cn cnt wd st bn bf bc) : GoodP cw cr cf cn cnt wd st' bn bf bc :=
  ⟨h.1, fun hr => ⟨⟨Fe.still e (h.2 hr).1.1, fun c hc => (h.2 hr).1.2 c (Fe.still (fun i hi => (e i hi).symm) hc)⟩, (h.2 hr).2⟩⟩
theorem GoodP.uniq (h : GoodP cw cr cf cn cnt wd st bn bf bc) (h' : GoodP cw cr cf cn cnt wd st bn' bf' bc') : bn = bn' ∧ bf = bf' ∧ ∀ i, i < cnt → bc i = bc' i := by
  by_cases hr : (cw : Int) - 2 * cr + cf < 0
  · obtain ⟨a1, a2, a3⟩ := h.1 hr
    obtain ⟨b1, b2, b3⟩ := h'.1 hr
    exact ⟨by omega, by omega, fun i hi => by rw [a3 i hi, b3 i hi]⟩
  · obtain ⟨a1, a2, a3⟩ := h.2 (by omega)
    obtain ⟨b1, b2, b3⟩ := h'.2 (by omega)
    have e := a1.uniq b1
    have e1 : bn = bn' := by rw [a2, b2]; exact sumN_congr e
    exact ⟨e1, by rw [a3, b3, e1, psum_congr e], e⟩
theorem GoodP.bn_lt (h : GoodP cw cr cf cn cnt wd st bn bf bc) (h1 : 2 ≤ cn) (h2 : cn ≤ 40) : bn < 40 := by
  by_cases hr : (cw : Int) - 2 * cr + cf < 0
  · have := (h.1 hr).1
    omega
  · obtain ⟨a1, a2, -⟩ := h.2 (by omega)
    have := a1.1.2.2
    omega
theorem psum_gt {pi c : Nat → Nat} {cf : Nat} : ∀ {n : Nat}, (∀ i, i < n → cf < pi i) → ¬ sumN c n = 0 → cf < psum pi c n
  | 0, _, h => absurd rfl h
  | n + 1, hp, h => by
    have e : psum pi c (n + 1) = psum pi c n + c n * pi n := rfl
    have e2 : sumN c (n + 1) = sumN c n + c n := rfl
    by_cases h0 : sumN c n = 0
    · have h1 : 1 ≤ c n := by omega
      have := hp n (by omega)
      have := Nat.mul_le_mul_right (pi n) h1
      omega
    · have := psum_gt (fun i hi => hp i (by omega)) h0
      omega
theorem GoodP.some (h : GoodP cw cr cf cn cnt wd st bn bf bc) (hw : ∀ i, i < cnt → 1 ≤ wd i) (h0 : ¬ bn = 0) : bn = sumN bc cnt ∧ bf + cf = psum (pit wd cf) bc cnt ∧ 1 ≤ bf ∧ 2 * cr + bf ≤ cw := by
  by_cases hr : (cw : Int) - 2 * cr + cf < 0
  · exact absurd (h.1 hr).1 h0
  · obtain ⟨a1, a2, a3⟩ := h.2 (by omega)
    rw [if_neg h0] at a3
    have hp := psum_gt (pi := pit wd cf) (c := bc) (cf := cf) (n := cnt) (fun i hi => by have := hw i hi; unfold pit; omega) (by omega)
    have := a1.1.2.1
    exact ⟨a2, by omega, by omega, by omega⟩
theorem GoodP.none (h : GoodP cw cr cf cn cnt wd st bn bf bc) (h0 : bn = 0) : bf = 0 := by
  by_cases hr : (cw : Int) - 2 * cr + cf < 0
  · exact (h.1 hr).2.1
  · have := (h.2 (by omega)).2.2
    rw [if_pos h0] at this
    exact this
theorem GoodP.zero (h : GoodP cw cr cf cn cnt wd st bn bf bc) (hw : ∀ i, i < cnt → 1 ≤ wd i) : bn = 0 ↔ bf = 0 := by
  refine ⟨h.none, fun h0 => ?_⟩
  by_cases e : bn = 0
  · exact e
  · have := h.some hw e
    omega
end GPS
theorem sumN_tail {f : Nat → Nat} {a : Nat} : ∀ {b : Nat}, a ≤ b → (∀ i, a ≤ i → i < b → f i = 0) → sumN f b = sumN f a
  | 0, h, _ => by rw [show a = 0 by omega]
  | b + 1, h, h0 => by
    by_cases e : a = b + 1
    · rw [e]
    · have e2 : sumN f (b + 1) = sumN f b + f b := rfl
      rw [e2, h0 b (by omega) (by omega), sumN_tail (b := b) (by omega) (fun i h1 h2 => h0 i h1 (by omega))]
      rfl
/-- the strips in their order have the pattern's sum -/
theorem lay_sum {bc nu h : Nat → Nat} {n : Nat} (hL : ∀ k, k < n → sumN bc (nu k) ≤ k ∧ k < sumN bc (nu k + 1)) : ∀ w, sumN bc w ≤ n → sumN (fun j => h (nu j)) (sumN bc w) = sumN (fun i => bc i * h i) w
  | 0, _ => rfl
  | w + 1, hw => by
    have e : sumN bc (w + 1) = sumN bc w + bc w := rfl
    have ih := lay_sum (h := h) hL w (by omega)
    have key : ∀ m, m ≤ bc w → sumN (fun j => h (nu j)) (sumN bc w + m) = sumN (fun i => bc i * h i) w + m * h w := by
      intro m
      induction m with
      | zero => intro _; rw [Nat.add_zero, ih, Nat.zero_mul, Nat.add_zero]
      | succ m im =>
        intro hm
        have im := im (by omega)
        obtain ⟨a, b⟩ := hL (sumN bc w + m) (by omega)
        have en : nu (sumN bc w + m) = w := wo_uniq a b (by omega) (by rw [e]; omega)
        show sumN (fun j => h (nu j)) (sumN bc w + m) + h (nu (sumN bc w + m)) = _
        rw [im, en, Nat.succ_mul]
        omega
    rw [e, key (bc w) (Nat.le_refl _)]
    rfl
theorem TI.cut {cw ck cr cf cn cnt bn bf n sn kc : Nat} {wd st bc be nu bg en kp sw sk sr sf sl ss9 : Nat → Nat} {sa : Nat → Nat → Nat → Nat} {sv : Nat → Nat → Nat} (hG : GoodP cw cr cf cn cnt wd st bn bf bc) (h0 : ¬ bn = 0) (hc5 : cnt ≤ 5) (hst : ∀ i, i < cnt → st i ≤ 6) (hw1 : ∀ i, i < cnt → 1 ≤ wd i) (hcw : 1 ≤ cw) (hcw2 : cw ≤ 20000) (hck : ck ≤ 50000)
    (hsn : sn = sumN bc cnt) (hL : LYI bc wd cf sn nu bg en) (hK : KN bg en sn kc kp) (hbe : ∀ i, i < cnt → be i = bc i) (hbe0 : ∀ i, cnt ≤ i → i < 5 → be i = 0) (hss : ∀ w, w < 5 → ss9 (5 * n + w) = be w) :
    TI wd (up sw n cw) (up sk n ck) (up sr n cr) (up sf n cf) (up sl n cr) ss9 cnt (upG sa n (fa4 nu bg en kp)) (upG sv n (fv7 sn cr kc cw ck cr bf)) n := by
  obtain ⟨g1, g2, g3, g4⟩ := hG.some hw1 h0
  have ef : ∀ m, m ≤ cnt → sumN (fun w => ss9 (5 * n + w)) m = sumN bc m := fun m hm => sumN_congr (fun j hj => by show ss9 (5 * n + j) = bc j; rw [hss j (by omega), hbe j (by omega)])
  have e5 : sumN (fun w => ss9 (5 * n + w)) 5 = sn := by
    rw [sumN_tail (f := fun w => ss9 (5 * n + w)) (a := cnt) (b := 5) hc5 (fun i h1 h2 => by show ss9 (5 * n + i) = 0; rw [hss i h2, hbe0 i h1 h2]), ef cnt (Nat.le_refl _), hsn]
  have hnu : ∀ k, k < sn → nu k < cnt := fun k hk => by
    rcases Nat.lt_or_ge (nu k) cnt with h | h
    · exact h
    · have := (hL k hk).1.1
      have := sumN_mono (f := bc) h
      omega
  have hsum := lay_sum (bc := bc) (nu := nu) (h := pit wd cf) (n := sn) (fun k hk => (hL k hk).1) cnt (by omega)
  unfold TI
  rw [upG_s, upG_s, up_s, up_s, up_s, up_s, up_s, e5]
  refine ⟨⟨rfl, rfl, rfl, rfl⟩, fun w hw => ?_, rfl, fun i hi => ?_, fun k hk => ?_, hK, ?_, ?_, hcw, hcw2, hck, Nat.le_refl _, ?_⟩
  · rw [hss w hw]
    by_cases h : w < cnt
    · rw [hbe w h]
      exact Nat.le_trans (hG.le w h) (hst w h)
    · rw [hbe0 w (by omega) hw]
      exact Nat.zero_le _
  · rw [e5] at hi
    have hn := hnu i hi
    obtain ⟨a, b⟩ := (hL i hi).1
    show sumN (fun w => ss9 (5 * n + w)) (nu i) ≤ i ∧ i < sumN (fun w => ss9 (5 * n + w)) (nu i + 1) ∧ nu i < 5
    rw [ef _ (by omega), ef _ (by omega)]
    exact ⟨a, b, by omega⟩
  · have hk : k < sn := hk
    obtain ⟨-, b, c⟩ := hL k hk
    exact ⟨hnu k hk, hw1 _ (hnu k hk), b, c⟩
  · show 1 ≤ sn
    omega
  · show bf = en (sn - 1)
    obtain ⟨-, b, c⟩ := hL (sn - 1) (by omega)
    have e9 : sumN (fun j => wd (nu j) + cf) sn = sumN (fun j => wd (nu j) + cf) (sn - 1) + (wd (nu (sn - 1)) + cf) := by
      rw [show sn = (sn - 1) + 1 by omega]
      rfl
    have e10 : sumN (fun j => wd (nu j) + cf) sn = psum (pit wd cf) bc cnt := by rw [hsn]; exact hsum
    omega
  · show cr + bf + cr ≤ cw
    omega
