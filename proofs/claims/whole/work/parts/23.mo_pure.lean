section IXL
variable {p : Program} {l : Launch} {e : Env} {R : Room} {s : State} {m : MethodId} {args : Array Value} {below : List Frame} {meth : Method} {c : Code} {H : Heap} {locs : List Loc} {cells slots : Nat} {Q : State → Prop} {cc : ByteArray} {pc : Nat} {ls : Array Slot} {rest : List Value}
theorem lv_toplr {x y : Int64} (h : x = y) (k : W p l e R s m args below meth c H locs cells slots Q (F0 m pc ls (.long y :: rest))) : W p l e R s m args below meth c H locs cells slots Q (F0 m pc ls (.long x :: rest)) := by
  subst h
  exact k
theorem ix_ldiv (hexec : p.tables.exec = Jvm.exec) (hb : c.code = cc) {x d : Nat} (hx : x < 9223372036854775808) (h0 : 0 < d) (hd : d < 9223372036854775808) (hdg : decode cc pc = .ok (.ldiv, 1))
    (k : W p l e R s m args below meth c H locs cells slots Q (F0 m (pc + 1) ls (.long (lN (x / d)) :: rest))) : W p l e R s m args below meth c H locs cells slots Q (F0 m pc ls (.long (lN d) :: .long (lN x) :: rest)) := by
  refine lv_ldiv hexec hb hdg ?_ ?_
  · intro h
    have : lN d = lN 0 := h
    rw [pk_lEQ (by omega) (by decide)] at this
    omega
  · rw [pk_lDiv (by omega) h0 (by omega)]
    exact k
end IXL
/-- is x the begin or the end of one of the first n strips -/
def hkB (B E : Nat → Nat) (x : Nat) : Nat → Bool
  | 0 => false
  | n + 1 => (hkB B E x n || B n == x) || E n == x
theorem hkB_iff {B E : Nat → Nat} {x : Nat} : ∀ {n : Nat}, hkB B E x n = true ↔ ∃ k, k < n ∧ (B k = x ∨ E k = x)
  | 0 => by simp [hkB]
  | n + 1 => by
    rw [hkB, Bool.or_eq_true, Bool.or_eq_true, hkB_iff (n := n), beq_iff_eq, beq_iff_eq]
    constructor
    · rintro ((⟨k, h1, h2⟩ | h) | h)
      · exact ⟨k, by omega, h2⟩
      · exact ⟨n, by omega, Or.inl h⟩
      · exact ⟨n, by omega, Or.inr h⟩
    · rintro ⟨k, h1, h2⟩
      by_cases e : k = n
      · subst e
        rcases h2 with h2 | h2
        · exact Or.inl (Or.inr h2)
        · exact Or.inr h2
      · exact Or.inl (Or.inl ⟨k, by omega, h2⟩)
theorem hkB_S {B E : Nat → Nat} {x n v : Nat} (hv : v = b01 (hkB B E x n = true)) (w : Nat) (hw : w ≤ 1) (h : w = 1 ↔ (v = 1 ∨ B n = x ∨ E n = x)) : w = b01 (hkB B E x (n + 1) = true) := by
  have h1 : (hkB B E x (n + 1) = true) ↔ (v = 1 ∨ B n = x ∨ E n = x) := by
    rw [hv, b01_1, hkB, Bool.or_eq_true, Bool.or_eq_true, beq_iff_eq, beq_iff_eq, or_assoc]
  by_cases g : w = 1
  · rw [b01_t (h1.mpr (h.mp g)), g]
  · rw [b01_f (fun q => g (h.mpr (h1.mp q)))]
    omega
/-- the moves to strips (B, E), H: which places the other one has -/
def mvF (B E : Nat → Nat) (H : Nat → Bool) : Nat → Nat
  | 0 => 0
  | k + 1 => mvF B E H k + (if joiB B E k = true ∨ H (B k) = true then 0 else 1) + (if H (E k) = true then 0 else 1)
theorem mvF_le (B E : Nat → Nat) (H : Nat → Bool) : ∀ k, mvF B E H k ≤ 2 * k
  | 0 => Nat.le_refl _
  | k + 1 => by
    have := mvF_le B E H k
    rw [mvF]
    split <;> split <;> omega
theorem mvF_S {B E : Nat → Nat} {H : Nat → Bool} {k n a b : Nat} (hn : n = mvF B E H k) (ha : a = if joiB B E k = true ∨ H (B k) = true then 0 else 1) (hb : b = if H (E k) = true then 0 else 1) : n + a + b = mvF B E H (k + 1) := by
  rw [hn, ha, hb]
  rfl
/-- where the strips of a set-up begin and end -/
def Bm (ww nu : Nat → Nat) (kf lf : Nat) : Nat → Nat := fun k => lf + bgm ww nu kf k
def Em (ww nu : Nat → Nat) (kf lf : Nat) : Nat → Nat := fun k => lf + bgm ww nu kf k + ww (nu k)
