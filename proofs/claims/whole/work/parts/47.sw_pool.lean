/-! one set-up of the pool taken out, and put back -/
def upG {α : Type} (f : Nat → α) (i : Nat) (x : α) : Nat → α := fun j => if j = i then x else f j
theorem upG_s {α : Type} (f : Nat → α) (i : Nat) (x : α) : upG f i x i = x := if_pos rfl
theorem upG_n {α : Type} (f : Nat → α) {i j : Nat} (x : α) (h : j ≠ i) : upG f i x j = f j := if_neg h
def suK (cI : ClassId) (d : Nat → Nat) (fa : Nat → Nat → Nat) (fv : Nat → Nat) : va_W :=
  [(d 0, .inr (4, [.ref (d 1), .ref (d 2), .ref (d 3), .int (nI (fv 0)), .int (nI (fv 1)), .ref (d 4), .int (nI (fv 2)), .int (nI (fv 3)), .int (nI (fv 4)), .int (nI (fv 5)), .int (nI (fv 6))])),
   (d 1, .inl (cI, 30, .inl (aN (fa 0)))), (d 2, .inl (cI, 30, .inl (aN (fa 1)))), (d 3, .inl (cI, 30, .inl (aN (fa 2)))), (d 4, .inl (cI, 60, .inl (aN (fa 3))))]
theorem suB_K (cI : ClassId) (ad : Nat → Nat → Nat) (sa : Nat → Nat → Nat → Nat) (sv : Nat → Nat → Nat) (i : Nat) : suB cI ad sa sv i = suK cI (ad i) (sa i) (sv i) := rfl
def fa4 (a b c d : Nat → Nat) : Nat → Nat → Nat := fun k => match k with
  | 0 => a
  | 1 => b
  | 2 => c
  | _ => d
def fv7 (a b c d e f g : Nat) : Nat → Nat := fun k => match k with
  | 0 => a
  | 1 => b
  | 2 => c
  | 3 => d
  | 4 => e
  | 5 => f
  | _ => g
/-- the pool without the i-th -/
def suO (cI : ClassId) (ad : Nat → Nat → Nat) (sa : Nat → Nat → Nat → Nat) (sv : Nat → Nat → Nat) (i : Nat) : Nat → va_W
  | 0 => []
  | n + 1 => suO cI ad sa sv i n ++ (if n = i then [] else suB cI ad sa sv n)
theorem suO_all {cI : ClassId} {ad : Nat → Nat → Nat} {sa : Nat → Nat → Nat → Nat} {sv : Nat → Nat → Nat} {i : Nat} : ∀ {n : Nat}, n ≤ i → suO cI ad sa sv i n = suT cI ad sa sv n
  | 0, _ => rfl
  | n + 1, h => by
    rw [suO, suT, suO_all (n := n) (by omega), if_neg (by omega)]
theorem suO_eq {cI : ClassId} {ad : Nat → Nat → Nat} {sa sa' : Nat → Nat → Nat → Nat} {sv sv' : Nat → Nat → Nat} {i : Nat} (h1 : ∀ j, j ≠ i → sa' j = sa j) (h2 : ∀ j, j ≠ i → sv' j = sv j) : ∀ n, suO cI ad sa' sv' i n = suO cI ad sa sv i n
  | 0 => rfl
  | n + 1 => by
    rw [suO, suO, suO_eq h1 h2 n]
    by_cases e : n = i
    · rw [if_pos e, if_pos e]
    · rw [if_neg e, if_neg e, suB_K, suB_K, h1 n e, h2 n e]
theorem suT_perm {cI : ClassId} {ad : Nat → Nat → Nat} {sa : Nat → Nat → Nat → Nat} {sv : Nat → Nat → Nat} {i : Nat} : ∀ {n : Nat}, i < n → (suT cI ad sa sv n).Perm (suB cI ad sa sv i ++ suO cI ad sa sv i n)
  | 0, h => absurd h (Nat.not_lt_zero _)
  | n + 1, h => by
    rw [suT, suO]
    by_cases e : n = i
    · subst e
      rw [if_pos rfl, List.append_nil, suO_all (Nat.le_refl _)]
      exact List.perm_append_comm
    · rw [if_neg e, ← List.append_assoc]
      exact (suT_perm (n := n) (by omega)).append_right _
theorem va_D_iff {A : Nat → Prop} {ws : va_W} : va_D A ws ↔ ws.Pairwise (fun a b => a.1 ≠ b.1) ∧ ∀ q ∈ ws, A q.1 := by
  constructor
  · intro h
    refine ⟨List.pairwise_iff_getElem.mpr (fun i j hi hj hij he => ?_), fun q hq => ?_⟩
    · have := h.1 i j _ _ (List.getElem?_eq_getElem hi) (List.getElem?_eq_getElem hj) he
      omega
    · obtain ⟨k, hk⟩ := List.getElem?_of_mem hq
      exact h.2 k q hk
  · intro h
    refine ⟨fun i j p q hi hj he => ?_, fun k q hk => h.2 q (List.mem_of_getElem? hk)⟩
    obtain ⟨hi1, hi2⟩ := List.getElem?_eq_some_iff.mp hi
    obtain ⟨hj1, hj2⟩ := List.getElem?_eq_some_iff.mp hj
    rcases Nat.lt_trichotomy i j with hh | hh | hh
    · exact absurd (by rw [hi2, hj2]; exact he) (List.pairwise_iff_getElem.mp h.1 i j hi1 hj1 hh)
    · exact hh
    · exact absurd (by rw [hi2, hj2]; exact he.symm) (List.pairwise_iff_getElem.mp h.1 j i hj1 hi1 hh)
theorem va_P.perm {D : va_G} {cl : List vw_C} {w1 w2 : va_W} {H : Heap} (h : va_P D cl w1 H) (hp : w1.Perm w2) : va_P D cl w2 H := va_P_iff.mpr (fun q hq => va_P_iff.mp h q (hp.mem_iff.mpr hq))
theorem va_D.perm {A : Nat → Prop} {w1 w2 : va_W} (h : va_D A w1) (hp : w1.Perm w2) : va_D A w2 := by
  rw [va_D_iff] at h ⊢
  exact ⟨(hp.pairwise_iff (fun {x y} hne => Ne.symm hne)).mp h.1, fun q hq => h.2 q (hp.mem_iff.mpr hq)⟩
theorem su_pm {X : va_W} {cI : ClassId} {ad : Nat → Nat → Nat} {sa : Nat → Nat → Nat → Nat} {sv : Nat → Nat → Nat} {i n : Nat} (hi : i < n) : (X ++ suT cI ad sa sv n).Perm ((X ++ suB cI ad sa sv i) ++ suO cI ad sa sv i n) := by
  rw [List.append_assoc]
  exact (suT_perm hi).append_left X
theorem su_out {D : va_G} {cl : List vw_C} {X : va_W} {cI : ClassId} {ad : Nat → Nat → Nat} {sa : Nat → Nat → Nat → Nat} {sv : Nat → Nat → Nat} {n : Nat} {H : Heap} (h : va_P D cl (X ++ suT cI ad sa sv n) H) (i : Nat) (hi : i < n) : va_P D cl ((X ++ suB cI ad sa sv i) ++ suO cI ad sa sv i n) H := h.perm (su_pm hi)
theorem su_outD {A : Nat → Prop} {X : va_W} {cI : ClassId} {ad : Nat → Nat → Nat} {sa : Nat → Nat → Nat → Nat} {sv : Nat → Nat → Nat} {n : Nat} (h : va_D A (X ++ suT cI ad sa sv n)) (i : Nat) (hi : i < n) : va_D A ((X ++ suB cI ad sa sv i) ++ suO cI ad sa sv i n) := h.perm (su_pm hi)
theorem su_qm {X : va_W} {cI : ClassId} {ad : Nat → Nat → Nat} {sa : Nat → Nat → Nat → Nat} {sv : Nat → Nat → Nat} {i n : Nat} (hi : i < n) (fa : Nat → Nat → Nat) (fv : Nat → Nat) : ((X ++ suK cI (ad i) fa fv) ++ suO cI ad sa sv i n).Perm (X ++ suT cI ad (upG sa i fa) (upG sv i fv) n) := by
  have h := (su_pm (X := X) (cI := cI) (ad := ad) (sa := upG sa i fa) (sv := upG sv i fv) hi).symm
  rw [suB_K, upG_s, upG_s, suO_eq (sa := sa) (sv := sv) (fun j hj => upG_n _ _ hj) (fun j hj => upG_n _ _ hj)] at h
  exact h
theorem su_in {D : va_G} {cl : List vw_C} {X : va_W} {cI : ClassId} {ad : Nat → Nat → Nat} {sa : Nat → Nat → Nat → Nat} {sv : Nat → Nat → Nat} {n : Nat} {H : Heap} (i : Nat) (hi : i < n) (fa : Nat → Nat → Nat) (fv : Nat → Nat) (h : va_P D cl ((X ++ suK cI (ad i) fa fv) ++ suO cI ad sa sv i n) H) : va_P D cl (X ++ suT cI ad (upG sa i fa) (upG sv i fv) n) H := h.perm (su_qm hi fa fv)
theorem su_inD {A : Nat → Prop} {X : va_W} {cI : ClassId} {ad : Nat → Nat → Nat} {sa : Nat → Nat → Nat → Nat} {sv : Nat → Nat → Nat} {n : Nat} (i : Nat) (hi : i < n) (fa : Nat → Nat → Nat) (fv : Nat → Nat) (h : va_D A ((X ++ suK cI (ad i) fa fv) ++ suO cI ad sa sv i n)) : va_D A (X ++ suT cI ad (upG sa i fa) (upG sv i fv) n) := h.perm (su_qm hi fa fv)
/-- a set-up in its bounds -/
def SOK (sa : Nat → Nat → Nat → Nat) (sv : Nat → Nat → Nat) (i : Nat) : Prop := sv i 0 ≤ 30 ∧ 1 ≤ sv i 3 ∧ sv i 3 ≤ 20000 ∧ sv i 4 ≤ 50000 ∧ sv i 5 + sv i 6 ≤ sv i 3 ∧ ∀ k, k < sv i 0 → sa i 1 k ≤ sa i 2 k ∧ sv i 1 + sa i 2 k ≤ 20000
theorem SOK.kg {sa : Nat → Nat → Nat → Nat} {sv : Nat → Nat → Nat} {i k : Nat} (h : SOK sa sv i) (hk : k < sv i 0) : sv i 4 * (sv i 1 + sa i 2 k) < 2147483648 := by
  have := Nat.mul_le_mul h.2.2.2.1 (h.2.2.2.2.2 k hk).2
  omega
