/-! the nine set-ups' cells: ad their addresses, sa their rows (numbers, begins, ends, places), sv their numbers (strips, left, knives, width, kilos, trim, span) -/
def suB (cI : ClassId) (ad : Nat → Nat → Nat) (sa : Nat → Nat → Nat → Nat) (sv : Nat → Nat → Nat) (i : Nat) : va_W :=
  [(ad i 0, .inr (4, [.ref (ad i 1), .ref (ad i 2), .ref (ad i 3), .int (nI (sv i 0)), .int (nI (sv i 1)), .ref (ad i 4), .int (nI (sv i 2)), .int (nI (sv i 3)), .int (nI (sv i 4)), .int (nI (sv i 5)), .int (nI (sv i 6))])),
   (ad i 1, .inl (cI, 30, .inl (aN (sa i 0)))), (ad i 2, .inl (cI, 30, .inl (aN (sa i 1)))), (ad i 3, .inl (cI, 30, .inl (aN (sa i 2)))), (ad i 4, .inl (cI, 60, .inl (aN (sa i 3))))]
def suT (cI : ClassId) (ad : Nat → Nat → Nat) (sa : Nat → Nat → Nat → Nat) (sv : Nat → Nat → Nat) : Nat → va_W
  | 0 => []
  | n + 1 => suT cI ad sa sv n ++ suB cI ad sa sv n
theorem va_P_iff {D : va_G} {cl : List vw_C} {ws : va_W} {H : Heap} : va_P D cl ws H ↔ ∀ q ∈ ws, va_at D cl q H := by
  constructor
  · intro h q hq
    obtain ⟨k, hk⟩ := List.getElem?_of_mem hq
    exact h k q hk
  · intro h k q hk
    exact h q (List.mem_of_getElem? hk)
theorem suT_mem {cI : ClassId} {ad : Nat → Nat → Nat} {sa : Nat → Nat → Nat → Nat} {sv : Nat → Nat → Nat} {q : Nat × va_E} : ∀ {n : Nat}, q ∈ suT cI ad sa sv n ↔ ∃ i, i < n ∧ q ∈ suB cI ad sa sv i
  | 0 => by simp [suT]
  | n + 1 => by
    rw [suT, List.mem_append, suT_mem (n := n)]
    constructor
    · rintro (⟨i, h1, h2⟩ | h)
      · exact ⟨i, by omega, h2⟩
      · exact ⟨n, by omega, h⟩
    · rintro ⟨i, h1, h2⟩
      by_cases e : i = n
      · subst e
        exact Or.inr h2
      · exact Or.inl ⟨i, by omega, h2⟩
theorem su_at {D : va_G} {cl : List vw_C} {X : va_W} {cI : ClassId} {ad : Nat → Nat → Nat} {sa : Nat → Nat → Nat → Nat} {sv : Nat → Nat → Nat} {n : Nat} {H : Heap} (h : va_P D cl (X ++ suT cI ad sa sv n) H) {i : Nat} (hi : i < n) : va_P D cl (suB cI ad sa sv i) H :=
  va_P_iff.mpr (fun q hq => va_P_iff.mp h q (List.mem_append_right _ (suT_mem.mpr ⟨i, hi, hq⟩)))
/-- the moves between two set-ups -/
def MVc (sa : Nat → Nat → Nat → Nat) (sv : Nat → Nat → Nat) (a b : Nat) : Nat := cntNot (fun x => sv b 1 + sa b 3 x) (fun x => sv a 1 + sa a 3 x) (sv a 2) (sv b 2)
/-- knives rise, in their bounds -/
def KOK (sa : Nat → Nat → Nat → Nat) (sv : Nat → Nat → Nat) (i : Nat) : Prop := sv i 2 ≤ 60 ∧ (∀ j, j + 1 < sv i 2 → sa i 3 j < sa i 3 (j + 1)) ∧ ∀ j, j < sv i 2 → sv i 1 + sa i 3 j < 1000000
theorem sp_put {sp : Nat → Nat} {F : Nat → Nat → Nat} {n a b : Nat} (hn : n ≤ 9) (h : ∀ a', a' < n → ∀ b', b' < n → (a' < a ∨ (a' = a ∧ b' < b)) → sp (a' * 9 + b') = F a' b') (hb : b < n) (ha : a < n) : ∀ a', a' < n → ∀ b', b' < n → (a' < a ∨ (a' = a ∧ b' < b + 1)) → up sp (a * 9 + b) (F a b) (a' * 9 + b') = F a' b' := fun a' h1 b' h2 h3 => by
  by_cases e : a' = a ∧ b' = b
  · obtain ⟨rfl, rfl⟩ := e
    rw [up_s]
  · rw [up_n _ _ (by omega)]
    exact h a' h1 b' h2 (by omega)
