set_option maxHeartbeats 4000000 in
set_option maxRecDepth 100000 in
/-- plan(): the tables, and the fewest moves -/
theorem c_MO_plan (l : Launch) (dC : Nat → ClassId) (dI : Nat → Nat → Nat) (sz : Nat) (z g : Nat → Nat) (cI : ClassId) (ww sf sl ss : Nat → Nat) (re mo : Nat → Nat) (nu : Nat → Nat → Nat) (h7 : g 7 ≤ 9) (hs : ∀ s, s < g 7 → HW (fun w => ss (5 * s + w)) (nu s) ∧ (∀ w, w < 5 → ss (5 * s + w) ≤ 6) ∧ ∀ k, k < sumN (fun w => ss (5 * s + w)) 5 → Em ww (nu s) (sf s) (sl s) k < 1000000) : Met l y_MO_plan w_MO_plan { frames := 5, cells := 0, slots := 0, locals := 119 } (rw_Pc (dC, dI) vwCl [(cI, .int)] sz [.ref (z 0)] [(z 0, .inr (7, [.int (nI (g 0)), .int (nI (g 1)), .int (nI (g 2)), .int (nI (g 3)), .int (nI (g 4)), .int (nI (g 5)), .int (nI (g 6)), .ref (z 1), .ref (z 2), .ref (z 3), .ref (z 4), .int (nI (g 7)), .ref (z 5), .ref (z 6), .ref (z 7), .ref (z 8), .ref (z 9), .ref (z 10), .int (nI (g 8)), .ref (z 11), .ref (z 12), .ref (z 13), .ref (z 14)])), (z 1, .inl (cI, 5, .inl (aN ww))), (z 8, .inl (cI, 9, .inl (aN sf))), (z 9, .inl (cI, 9, .inl (aN sl))), (z 10, .inl (cI, 45, .inl (aN ss))), (z 13, .inl (cI, 4608, .inl (aN re))), (z 14, .inl (cI, 81, .inl (aN mo)))]) (va_Qi (fun (r : Int32) (u : (Nat → Nat) × (Nat → Nat)) => (∀ a, a < g 7 → ∀ b, b < g 7 → u.2 (9 * a + b) = MVm ww sf sl ss nu a b) ∧ MB u.2 u.1 (g 7) 0 0 ∧ ∃ v, r = nI v ∧ LST u.1 (g 7) v) (rw_B (dC, dI) vwCl [(cI, .int)] (va_A [(z 0, .inr (7, [.int (nI (g 0)), .int (nI (g 1)), .int (nI (g 2)), .int (nI (g 3)), .int (nI (g 4)), .int (nI (g 5)), .int (nI (g 6)), .ref (z 1), .ref (z 2), .ref (z 3), .ref (z 4), .int (nI (g 7)), .ref (z 5), .ref (z 6), .ref (z 7), .ref (z 8), .ref (z 9), .ref (z 10), .int (nI (g 8)), .ref (z 11), .ref (z 12), .ref (z 13), .ref (z 14)])), (z 1, .inl (cI, 5, .inl (aN ww))), (z 8, .inl (cI, 9, .inl (aN sf))), (z 9, .inl (cI, 9, .inl (aN sl))), (z 10, .inl (cI, 45, .inl (aN ss))), (z 13, .inl (cI, 4608, .inl (aN re))), (z 14, .inl (cI, 81, .inl (aN mo)))] sz) (fun u : (Nat → Nat) × (Nat → Nat) => [(z 0, .inr (7, [.int (nI (g 0)), .int (nI (g 1)), .int (nI (g 2)), .int (nI (g 3)), .int (nI (g 4)), .int (nI (g 5)), .int (nI (g 6)), .ref (z 1), .ref (z 2), .ref (z 3), .ref (z 4), .int (nI (g 7)), .ref (z 5), .ref (z 6), .ref (z 7), .ref (z 8), .ref (z 9), .ref (z 10), .int (nI (g 8)), .ref (z 11), .ref (z 12), .ref (z 13), .ref (z 14)])), (z 1, .inl (cI, 5, .inl (aN ww))), (z 8, .inl (cI, 9, .inl (aN sf))), (z 9, .inl (cI, 9, .inl (aN sl))), (z 10, .inl (cI, 45, .inl (aN ss))), (z 13, .inl (cI, 4608, .inl (aN u.1))), (z 14, .inl (cI, 81, .inl (aN u.2)))])) (va_A [(z 0, .inr (7, [.int (nI (g 0)), .int (nI (g 1)), .int (nI (g 2)), .int (nI (g 3)), .int (nI (g 4)), .int (nI (g 5)), .int (nI (g 6)), .ref (z 1), .ref (z 2), .ref (z 3), .ref (z 4), .int (nI (g 7)), .ref (z 5), .ref (z 6), .ref (z 7), .ref (z 8), .ref (z 9), .ref (z 10), .int (nI (g 8)), .ref (z 11), .ref (z 12), .ref (z 13), .ref (z 14)])), (z 1, .inl (cI, 5, .inl (aN ww))), (z 8, .inl (cI, 9, .inl (aN sf))), (z 9, .inl (cI, 9, .inl (aN sl))), (z 10, .inl (cI, 45, .inl (aN ss))), (z 13, .inl (cI, 4608, .inl (aN re))), (z 14, .inl (cI, 81, .inl (aN mo)))] sz)) 0 0 (va_A [(z 0, .inr (7, [.int (nI (g 0)), .int (nI (g 1)), .int (nI (g 2)), .int (nI (g 3)), .int (nI (g 4)), .int (nI (g 5)), .int (nI (g 6)), .ref (z 1), .ref (z 2), .ref (z 3), .ref (z 4), .int (nI (g 7)), .ref (z 5), .ref (z 6), .ref (z 7), .ref (z 8), .ref (z 9), .ref (z 10), .int (nI (g 8)), .ref (z 11), .ref (z 12), .ref (z 13), .ref (z 14)])), (z 1, .inl (cI, 5, .inl (aN ww))), (z 8, .inl (cI, 9, .inl (aN sf))), (z 9, .inl (cI, 9, .inl (aN sl))), (z 10, .inl (cI, 45, .inl (aN ss))), (z 13, .inl (cI, 4608, .inl (aN re))), (z 14, .inl (cI, 81, .inl (aN mo)))] sz) := by
  refine Met.ofW (cc := b_MO_plan) (maxL := 8) (ret := (some .int)) (by decide) rfl ?_
  intro p e s m args below meth c s₁ B hml hv
  obtain ⟨rfl, hsz, hP, hK, hD0⟩ := hv
  have hx := B.exec
  have hb := B.bytes
  have hr := B.returns
  have hts := gw_h (atoms_spec (ws := w_MO_plan) B.pre)
  have hown : s.vm.findClass R_MO = some m.cls := findClass_of_methodNamed B.named
  have hlocks := B.notSynchronized
  subst hsz
  have hD := hD0.self (sz := s.heap.size)
  generalize hAe : va_A [(z 0, .inr (7, [.int (nI (g 0)), .int (nI (g 1)), .int (nI (g 2)), .int (nI (g 3)), .int (nI (g 4)), .int (nI (g 5)), .int (nI (g 6)), .ref (z 1), .ref (z 2), .ref (z 3), .ref (z 4), .int (nI (g 7)), .ref (z 5), .ref (z 6), .ref (z 7), .ref (z 8), .ref (z 9), .ref (z 10), .int (nI (g 8)), .ref (z 11), .ref (z 12), .ref (z 13), .ref (z 14)])), (z 1, .inl (cI, 5, .inl (aN ww))), (z 8, .inl (cI, 9, .inl (aN sf))), (z 9, .inl (cI, 9, .inl (aN sl))), (z 10, .inl (cI, 45, .inl (aN ss))), (z 13, .inl (cI, 4608, .inl (aN re))), (z 14, .inl (cI, 81, .inl (aN mo)))] s.heap.size = A at hD ⊢
  have hA : ∀ q : Nat, s.heap.size ≤ q → A q := fun q h => by rw [← hAe]; exact Or.inr h
  have hS : va_S A s.heap s.heap [] := va_S.rf
  have hP : va_P (dC, dI) vwCl [(z 0, .inr (7, [.int (nI (g 0)), .int (nI (g 1)), .int (nI (g 2)), .int (nI (g 3)), .int (nI (g 4)), .int (nI (g 5)), .int (nI (g 6)), .ref (z 1), .ref (z 2), .ref (z 3), .ref (z 4), .int (nI (g 7)), .ref (z 5), .ref (z 6), .ref (z 7), .ref (z 8), .ref (z 9), .ref (z 10), .int (nI (g 8)), .ref (z 11), .ref (z 12), .ref (z 13), .ref (z 14)])), (z 1, .inl (cI, 5, .inl (aN ww))), (z 8, .inl (cI, 9, .inl (aN sf))), (z 9, .inl (cI, 9, .inl (aN sl))), (z 10, .inl (cI, 45, .inl (aN ss))), (z 13, .inl (cI, 4608, .inl (aN re))), (z 14, .inl (cI, 81, .inl (aN mo)))] s.heap := hP
  have hl := lv_entry ([.ref (z 0)]) (n := 8) (Nat.le_of_ble_eq_true rfl)
  rw [lg_entry_eq]
  generalize (lg_sl ([.ref (z 0)]) ++ List.replicate (8 - (lg_sl ([.ref (z 0)])).length) Slot.unset).toArray = ls at hl ⊢
  have hl : lv_has ls 8 [(0, .ref (z 0))] := hl
  have h512 : 2 ^ g 7 ≤ 512 := (Nat.pow_le_pow_right (by decide) h7 : 2 ^ g 7 ≤ 2 ^ 9)
  have h1p : 1 ≤ 2 ^ g 7 := Nat.pos_of_ne_zero (by simp)
  have hMV : ∀ a b, b < g 7 → MVm ww sf sl ss nu a b ≤ 60 := fun a b hb => by
    have h0 := (hs b hb).2.1 0 (by omega); have h1 := (hs b hb).2.1 1 (by omega); have h2 := (hs b hb).2.1 2 (by omega); have h3 := (hs b hb).2.1 3 (by omega); have h4 := (hs b hb).2.1 4 (by omega)
    have h5 : sumN (fun w => ss (5 * b + w)) 5 ≤ 30 := by simp only [sumN]; omega
    have := mvF_le (Bm ww (nu b) (sf b) (sl b)) (Em ww (nu b) (sf b) (sl b)) (fun x => hkB (Bm ww (nu a) (sf a) (sl a)) (Em ww (nu a) (sf a) (sl a)) x (sumN (fun w => ss (5 * a + w)) 5)) (sumN (fun w => ss (5 * b + w)) 5)
    unfold MVm; omega
  refine lv_iconst (v := nI 0) hx hb d_MO_plan_0 (by decide +kernel) ?_
  refine lv_istore_n (lv' := [(1, .int (nI 0)), (0, .ref (z 0))]) hx hb d_MO_plan_1 rfl hl (by decide) rfl (fun ls hl => ?_)
  have la : ∀ (n_la : Nat) (a9 : Nat) (mo : Nat → Nat), (g 7 + 1 ≤ a9 + n_la) → (a9 ≤ g 7) → (∀ a', a' < g 7 → ∀ b', b' < g 7 → (a' < a9 ∨ (a' = a9 ∧ b' < 0)) → mo (9 * a' + b') = MVm ww sf sl ss nu a' b') → ∀ (H : Heap) (locs : List Loc) (ls : Array Slot), va_P (dC, dI) vwCl [(z 0, .inr (7, [.int (nI (g 0)), .int (nI (g 1)), .int (nI (g 2)), .int (nI (g 3)), .int (nI (g 4)), .int (nI (g 5)), .int (nI (g 6)), .ref (z 1), .ref (z 2), .ref (z 3), .ref (z 4), .int (nI (g 7)), .ref (z 5), .ref (z 6), .ref (z 7), .ref (z 8), .ref (z 9), .ref (z 10), .int (nI (g 8)), .ref (z 11), .ref (z 12), .ref (z 13), .ref (z 14)])), (z 1, .inl (cI, 5, .inl (aN ww))), (z 8, .inl (cI, 9, .inl (aN sf))), (z 9, .inl (cI, 9, .inl (aN sl))), (z 10, .inl (cI, 45, .inl (aN ss))), (z 13, .inl (cI, 4608, .inl (aN re))), (z 14, .inl (cI, 81, .inl (aN mo)))] H → va_D A [(z 0, .inr (7, [.int (nI (g 0)), .int (nI (g 1)), .int (nI (g 2)), .int (nI (g 3)), .int (nI (g 4)), .int (nI (g 5)), .int (nI (g 6)), .ref (z 1), .ref (z 2), .ref (z 3), .ref (z 4), .int (nI (g 7)), .ref (z 5), .ref (z 6), .ref (z 7), .ref (z 8), .ref (z 9), .ref (z 10), .int (nI (g 8)), .ref (z 11), .ref (z 12), .ref (z 13), .ref (z 14)])), (z 1, .inl (cI, 5, .inl (aN ww))), (z 8, .inl (cI, 9, .inl (aN sf))), (z 9, .inl (cI, 9, .inl (aN sl))), (z 10, .inl (cI, 45, .inl (aN ss))), (z 13, .inl (cI, 4608, .inl (aN re))), (z 14, .inl (cI, 81, .inl (aN mo)))] → va_S A s.heap H locs → lv_has ls 8 [(0, .ref (z 0)), (1, .int (nI a9))] → W p l e (headSpec w_MO_plan { frames := 5, cells := 0, slots := 0, locals := 119 }).room s m [.ref (z 0)].toArray below meth c H locs 0 0 (MQ below (va_Qi (fun (r : Int32) (u : (Nat → Nat) × (Nat → Nat)) => (∀ a, a < g 7 → ∀ b, b < g 7 → u.2 (9 * a + b) = MVm ww sf sl ss nu a b) ∧ MB u.2 u.1 (g 7) 0 0 ∧ ∃ v, r = nI v ∧ LST u.1 (g 7) v) (rw_B (dC, dI) vwCl [(cI, .int)] A (fun u : (Nat → Nat) × (Nat → Nat) => [(z 0, .inr (7, [.int (nI (g 0)), .int (nI (g 1)), .int (nI (g 2)), .int (nI (g 3)), .int (nI (g 4)), .int (nI (g 5)), .int (nI (g 6)), .ref (z 1), .ref (z 2), .ref (z 3), .ref (z 4), .int (nI (g 7)), .ref (z 5), .ref (z 6), .ref (z 7), .ref (z 8), .ref (z 9), .ref (z 10), .int (nI (g 8)), .ref (z 11), .ref (z 12), .ref (z 13), .ref (z 14)])), (z 1, .inl (cI, 5, .inl (aN ww))), (z 8, .inl (cI, 9, .inl (aN sf))), (z 9, .inl (cI, 9, .inl (aN sl))), (z 10, .inl (cI, 45, .inl (aN ss))), (z 13, .inl (cI, 4608, .inl (aN u.1))), (z 14, .inl (cI, 81, .inl (aN u.2)))])) A) [.ref (z 0)].toArray s 0 0 A) (F0 m 2 ls []) := by
    intro n_la
    induction n_la with
    | zero =>
      intro a9 mo hma ha7 hI
      exact absurd hma (by omega)
    | succ n_la ih_la =>
      intro a9 mo hma ha7 hI H locs ls hP hD hS hl
      refine lv_iload_n hx hb d_MO_plan_2 rfl (lv_at hl 1 rfl) ?_
      refine lv_aload_n hx hb d_MO_plan_3 rfl (lv_at hl 0 rfl) ?_
      refine va_get (D := (dC, dI)) (ci := 7) (v := .int (nI (g 7))) (C := R_MO) (T := F_MO) (N := 23) hx hb hts in_MO hown hK hP 0 rfl rfl 11 (by decide) (hts _ m_583) (fun _ h9 => h9) rfl d_MO_plan_4 ?_
      refine ix_icmp_ge (tgt := 49) hx hb (nI_tI (n := a9) (by omega)) (nI_tI (n := g 7) (by omega)) d_MO_plan_7 (by decide) (fun c_7 => ?_) (fun c_7 => ?_)
      · have hmo : ∀ a, a < g 7 → ∀ b, b < g 7 → mo (9 * a + b) = MVm ww sf sl ss nu a b := fun a ha b hb => hI a ha b hb (by omega)
        have hmc : ∀ a, a < g 7 → ∀ b, b < g 7 → mo (9 * a + b) ≤ 60 := fun a ha b hb => by rw [hmo a ha b hb]; exact hMV a b hb
        refine lv_iconst (v := nI 1) hx hb d_MO_plan_49 (by decide +kernel) ?_
        refine lv_aload_n hx hb d_MO_plan_50 rfl (lv_at hl 0 rfl) ?_
        refine va_get (D := (dC, dI)) (ci := 7) (v := .int (nI (g 7))) (C := R_MO) (T := F_MO) (N := 23) hx hb hts in_MO hown hK hP 0 rfl rfl 11 (by decide) (hts _ m_583) (fun _ h9 => h9) rfl d_MO_plan_51 ?_
        refine lv_ishl hx hb d_MO_plan_54 ?_
        refine lv_topr (show _ = nI (2 ^ g 7) from bt_pow (g 7) (by omega)) ?_
        refine lv_iconst (v := nI 1) hx hb d_MO_plan_55 (by decide +kernel) ?_
        refine lv_isub hx hb d_MO_plan_56 ?_
        refine lv_topr (show _ = nI ((2 ^ g 7) - 1) from nn_subN (by omega)) ?_
        refine lv_istore_n (lv' := [(1, .int (nI ((2 ^ g 7) - 1))), (0, .ref (z 0))]) hx hb d_MO_plan_57 rfl hl (by decide) rfl (fun ls hl => ?_)
        refine lv_iload_n hx hb d_MO_plan_58 rfl (lv_at hl 0 rfl) ?_
        refine lv_topr (show _ = zI ((2 ^ g 7 - 1 : Nat) : Int) from zI_n _) ?_
        refine lv_istore_n (lv' := [(2, .int (zI ((2 ^ g 7 - 1 : Nat) : Int))), (1, .int (nI ((2 ^ g 7) - 1))), (0, .ref (z 0))]) hx hb d_MO_plan_59 rfl hl (by decide) rfl (fun ls hl => ?_)
        have ls : ∀ (n_ls : Nat) (y9 : Int) (re : Nat → Nat), (y9 + 1 ≤ (n_ls : Int)) → (0 ≤ y9) → (y9 < ((2 ^ g 7 : Nat) : Int)) → (MB mo re (g 7) y9 0) → ∀ (H : Heap) (locs : List Loc) (ls : Array Slot), va_P (dC, dI) vwCl [(z 0, .inr (7, [.int (nI (g 0)), .int (nI (g 1)), .int (nI (g 2)), .int (nI (g 3)), .int (nI (g 4)), .int (nI (g 5)), .int (nI (g 6)), .ref (z 1), .ref (z 2), .ref (z 3), .ref (z 4), .int (nI (g 7)), .ref (z 5), .ref (z 6), .ref (z 7), .ref (z 8), .ref (z 9), .ref (z 10), .int (nI (g 8)), .ref (z 11), .ref (z 12), .ref (z 13), .ref (z 14)])), (z 1, .inl (cI, 5, .inl (aN ww))), (z 8, .inl (cI, 9, .inl (aN sf))), (z 9, .inl (cI, 9, .inl (aN sl))), (z 10, .inl (cI, 45, .inl (aN ss))), (z 13, .inl (cI, 4608, .inl (aN re))), (z 14, .inl (cI, 81, .inl (aN mo)))] H → va_D A [(z 0, .inr (7, [.int (nI (g 0)), .int (nI (g 1)), .int (nI (g 2)), .int (nI (g 3)), .int (nI (g 4)), .int (nI (g 5)), .int (nI (g 6)), .ref (z 1), .ref (z 2), .ref (z 3), .ref (z 4), .int (nI (g 7)), .ref (z 5), .ref (z 6), .ref (z 7), .ref (z 8), .ref (z 9), .ref (z 10), .int (nI (g 8)), .ref (z 11), .ref (z 12), .ref (z 13), .ref (z 14)])), (z 1, .inl (cI, 5, .inl (aN ww))), (z 8, .inl (cI, 9, .inl (aN sf))), (z 9, .inl (cI, 9, .inl (aN sl))), (z 10, .inl (cI, 45, .inl (aN ss))), (z 13, .inl (cI, 4608, .inl (aN re))), (z 14, .inl (cI, 81, .inl (aN mo)))] → va_S A s.heap H locs → lv_has ls 8 [(0, .ref (z 0)), (1, .int (nI (2 ^ g 7 - 1))), (2, .int (zI y9))] → W p l e (headSpec w_MO_plan { frames := 5, cells := 0, slots := 0, locals := 119 }).room s m [.ref (z 0)].toArray below meth c H locs 0 0 (MQ below (va_Qi (fun (r : Int32) (u : (Nat → Nat) × (Nat → Nat)) => (∀ a, a < g 7 → ∀ b, b < g 7 → u.2 (9 * a + b) = MVm ww sf sl ss nu a b) ∧ MB u.2 u.1 (g 7) 0 0 ∧ ∃ v, r = nI v ∧ LST u.1 (g 7) v) (rw_B (dC, dI) vwCl [(cI, .int)] A (fun u : (Nat → Nat) × (Nat → Nat) => [(z 0, .inr (7, [.int (nI (g 0)), .int (nI (g 1)), .int (nI (g 2)), .int (nI (g 3)), .int (nI (g 4)), .int (nI (g 5)), .int (nI (g 6)), .ref (z 1), .ref (z 2), .ref (z 3), .ref (z 4), .int (nI (g 7)), .ref (z 5), .ref (z 6), .ref (z 7), .ref (z 8), .ref (z 9), .ref (z 10), .int (nI (g 8)), .ref (z 11), .ref (z 12), .ref (z 13), .ref (z 14)])), (z 1, .inl (cI, 5, .inl (aN ww))), (z 8, .inl (cI, 9, .inl (aN sf))), (z 9, .inl (cI, 9, .inl (aN sl))), (z 10, .inl (cI, 45, .inl (aN ss))), (z 13, .inl (cI, 4608, .inl (aN u.1))), (z 14, .inl (cI, 81, .inl (aN u.2)))])) A) [.ref (z 0)].toArray s 0 0 A) (F0 m 60 ls []) := by
          intro n_ls
          induction n_ls with
          | zero =>
            intro y9 re hms hy0 hy1 hB
            exact absurd hms (by omega)
          | succ n_ls ih_ls =>
            intro y9 re hms hy0 hy1 hB H locs ls hP hD hS hl
            refine lv_iload_n hx hb d_MO_plan_60 rfl (lv_at hl 2 rfl) ?_
            refine ix_if_le (tgt := 212) hx hb (zI_toInt (z := y9) (by omega) (by omega)) d_MO_plan_61 (by decide) (fun c_61 => ?_) (fun c_61 => ?_)
            · refine lv_iconst (v := nI 0) hx hb d_MO_plan_212 (by decide +kernel) ?_
              refine lv_istore_n (lv' := [(2, .int (nI 0)), (0, .ref (z 0)), (1, .int (nI (2 ^ g 7 - 1)))]) hx hb d_MO_plan_213 rfl hl (by decide) rfl (fun ls hl => ?_)
              refine lv_iconst (v := nI 0) hx hb d_MO_plan_214 (by decide +kernel) ?_
              refine lv_istore_n (lv' := [(3, .int (nI 0)), (2, .int (nI 0)), (0, .ref (z 0)), (1, .int (nI (2 ^ g 7 - 1)))]) hx hb d_MO_plan_215 rfl hl (by decide) rfl (fun ls hl => ?_)
              have hB0 : MB mo re (g 7) 0 0 := by rw [show y9 = 0 by omega] at hB; exact hB
              have hreb : ∀ x, x < g 7 → re (9 * 2 ^ x + x) ≤ 60 * 512 := fun x hx => by have h2 : 2 ^ x < 2 ^ g 7 := Nat.pow_lt_pow_right (by decide) hx; have h3 : 1 ≤ 2 ^ x := Nat.pos_of_ne_zero (by simp); have := (hB0 (2 ^ x) x hx h2 (Or.inl (by omega))).2; omega
              have le3 : ∀ (n_le3 : Nat) (s9 : Nat) (v9 : Nat), (g 7 + 1 ≤ s9 + n_le3) → (s9 ≤ g 7) → (LST re s9 v9) → (v9 ≤ 60 * 512) → ∀ (H : Heap) (locs : List Loc) (ls : Array Slot), va_P (dC, dI) vwCl [(z 0, .inr (7, [.int (nI (g 0)), .int (nI (g 1)), .int (nI (g 2)), .int (nI (g 3)), .int (nI (g 4)), .int (nI (g 5)), .int (nI (g 6)), .ref (z 1), .ref (z 2), .ref (z 3), .ref (z 4), .int (nI (g 7)), .ref (z 5), .ref (z 6), .ref (z 7), .ref (z 8), .ref (z 9), .ref (z 10), .int (nI (g 8)), .ref (z 11), .ref (z 12), .ref (z 13), .ref (z 14)])), (z 1, .inl (cI, 5, .inl (aN ww))), (z 8, .inl (cI, 9, .inl (aN sf))), (z 9, .inl (cI, 9, .inl (aN sl))), (z 10, .inl (cI, 45, .inl (aN ss))), (z 13, .inl (cI, 4608, .inl (aN re))), (z 14, .inl (cI, 81, .inl (aN mo)))] H → va_D A [(z 0, .inr (7, [.int (nI (g 0)), .int (nI (g 1)), .int (nI (g 2)), .int (nI (g 3)), .int (nI (g 4)), .int (nI (g 5)), .int (nI (g 6)), .ref (z 1), .ref (z 2), .ref (z 3), .ref (z 4), .int (nI (g 7)), .ref (z 5), .ref (z 6), .ref (z 7), .ref (z 8), .ref (z 9), .ref (z 10), .int (nI (g 8)), .ref (z 11), .ref (z 12), .ref (z 13), .ref (z 14)])), (z 1, .inl (cI, 5, .inl (aN ww))), (z 8, .inl (cI, 9, .inl (aN sf))), (z 9, .inl (cI, 9, .inl (aN sl))), (z 10, .inl (cI, 45, .inl (aN ss))), (z 13, .inl (cI, 4608, .inl (aN re))), (z 14, .inl (cI, 81, .inl (aN mo)))] → va_S A s.heap H locs → lv_has ls 8 [(0, .ref (z 0)), (2, .int (nI v9)), (3, .int (nI s9))] → W p l e (headSpec w_MO_plan { frames := 5, cells := 0, slots := 0, locals := 119 }).room s m [.ref (z 0)].toArray below meth c H locs 0 0 (MQ below (va_Qi (fun (r : Int32) (u : (Nat → Nat) × (Nat → Nat)) => (∀ a, a < g 7 → ∀ b, b < g 7 → u.2 (9 * a + b) = MVm ww sf sl ss nu a b) ∧ MB u.2 u.1 (g 7) 0 0 ∧ ∃ v, r = nI v ∧ LST u.1 (g 7) v) (rw_B (dC, dI) vwCl [(cI, .int)] A (fun u : (Nat → Nat) × (Nat → Nat) => [(z 0, .inr (7, [.int (nI (g 0)), .int (nI (g 1)), .int (nI (g 2)), .int (nI (g 3)), .int (nI (g 4)), .int (nI (g 5)), .int (nI (g 6)), .ref (z 1), .ref (z 2), .ref (z 3), .ref (z 4), .int (nI (g 7)), .ref (z 5), .ref (z 6), .ref (z 7), .ref (z 8), .ref (z 9), .ref (z 10), .int (nI (g 8)), .ref (z 11), .ref (z 12), .ref (z 13), .ref (z 14)])), (z 1, .inl (cI, 5, .inl (aN ww))), (z 8, .inl (cI, 9, .inl (aN sf))), (z 9, .inl (cI, 9, .inl (aN sl))), (z 10, .inl (cI, 45, .inl (aN ss))), (z 13, .inl (cI, 4608, .inl (aN u.1))), (z 14, .inl (cI, 81, .inl (aN u.2)))])) A) [.ref (z 0)].toArray s 0 0 A) (F0 m 216 ls []) := by
                intro n_le3
                induction n_le3 with
                | zero =>
                  intro s9 v9 hm3 hs7 hL3 hv9
                  exact absurd hm3 (by omega)
                | succ n_le3 ih_le3 =>
                  intro s9 v9 hm3 hs7 hL3 hv9 H locs ls hP hD hS hl
                  refine lv_iload_n hx hb d_MO_plan_216 rfl (lv_at hl 2 rfl) ?_
                  refine lv_aload_n hx hb d_MO_plan_217 rfl (lv_at hl 0 rfl) ?_
                  refine va_get (D := (dC, dI)) (ci := 7) (v := .int (nI (g 7))) (C := R_MO) (T := F_MO) (N := 23) hx hb hts in_MO hown hK hP 0 rfl rfl 11 (by decide) (hts _ m_583) (fun _ h9 => h9) rfl d_MO_plan_218 ?_
                  refine ix_icmp_ge (tgt := 269) hx hb (nI_tI (n := s9) (by omega)) (nI_tI (n := g 7) (by omega)) d_MO_plan_221 (by decide) (fun c_221 => ?_) (fun c_221 => ?_)
                  · refine lv_iload_n hx hb d_MO_plan_269 rfl (lv_at hl 1 rfl) ?_
                    have hs97 : s9 = g 7 := by omega
                    rw [hs97] at hL3
                    exact W.iret (v := nI v9) hx hb hr (fun t ht hW => ⟨⟨nI v9, (re, mo), rfl, ⟨hmo, hB0, v9, rfl, hL3⟩, by rw [ht]; exact hP, va_K.moved hW.alike hK, hD⟩, hS.F ht⟩) hS.2.2 d_MO_plan_270
                  have h2s : 2 ^ s9 < 2 ^ g 7 := Nat.pow_lt_pow_right (by decide) (by omega)
                  have hrb := hreb s9 (by omega)
                  refine lv_iload_n hx hb d_MO_plan_224 rfl (lv_at hl 2 rfl) ?_
                  refine ix_if_eq (tgt := 245) hx hb (nI_tI (n := s9) (by omega)) d_MO_plan_225 (by decide) (fun c_225 => ?_) (fun c_225 => ?_)
                  · refine lv_aload_n hx hb d_MO_plan_245 rfl (lv_at hl 0 rfl) ?_
                    refine va_get (D := (dC, dI)) (ci := 7) (v := .ref (z 13)) (C := R_MO) (T := F_MO) (N := 23) hx hb hts in_MO hown hK hP 0 rfl rfl 21 (by decide) (hts _ m_593) (fun _ h9 => h9) rfl d_MO_plan_246 ?_
                    refine lv_bipush (v := nI 9) hx hb d_MO_plan_249 (by decide +kernel) ?_
                    refine lv_iconst (v := nI 1) hx hb d_MO_plan_251 (by decide +kernel) ?_
                    refine lv_iload_n hx hb d_MO_plan_252 rfl (lv_at hl 2 rfl) ?_
                    refine lv_ishl hx hb d_MO_plan_253 ?_
                    refine lv_topr (show _ = nI (2 ^ s9) from bt_pow s9 (by omega)) ?_
                    refine lv_imul hx hb d_MO_plan_254 ?_
                    refine lv_topr (show _ = nI (9 * (2 ^ s9)) from nn_mul _ _) ?_
                    refine lv_iload_n hx hb d_MO_plan_255 rfl (lv_at hl 2 rfl) ?_
                    refine lv_iadd hx hb d_MO_plan_256 ?_
                    refine lv_topr (show _ = nI ((9 * (2 ^ s9)) + s9) from nn_add _ _) ?_
                    refine ix_ialdN (i := (9 * (2 ^ s9)) + s9) hx hb hK hP 5 0 rfl rfl (by omega) (by decide) d_MO_plan_257 ?_
                    refine lv_goto (tgt := 262) hx hb d_MO_plan_258 (by decide) ?_
                    refine lv_istore_n (lv' := [(2, .int (nI (re ((9 * (2 ^ s9)) + s9)))), (0, .ref (z 0)), (3, .int (nI s9))]) hx hb d_MO_plan_262 rfl hl (by decide) rfl (fun ls hl => ?_)
                    refine lv_iinc (v := nI (s9 + 1)) (lv' := [(3, .int (nI (s9 + 1))), (2, .int (nI (re ((9 * (2 ^ s9)) + s9)))), (0, .ref (z 0))]) hx hb d_MO_plan_263 hl (k := 2) rfl (n_incN s9 1) (by decide) rfl (fun ls hl => ?_)
                    refine lv_goto (tgt := 216) hx hb d_MO_plan_266 (by decide) ?_
                    exact ih_le3 (s9 + 1) (re ((9 * (2 ^ s9)) + s9)) (by omega) (by omega) (hL3.S (by omega)) (by omega) _ _ _ hP hD hS (lv_sub hl [2, 1, 0] rfl)
                  refine lv_aload_n hx hb d_MO_plan_228 rfl (lv_at hl 0 rfl) ?_
                  refine va_get (D := (dC, dI)) (ci := 7) (v := .ref (z 13)) (C := R_MO) (T := F_MO) (N := 23) hx hb hts in_MO hown hK hP 0 rfl rfl 21 (by decide) (hts _ m_593) (fun _ h9 => h9) rfl d_MO_plan_229 ?_
                  refine lv_bipush (v := nI 9) hx hb d_MO_plan_232 (by decide +kernel) ?_
                  refine lv_iconst (v := nI 1) hx hb d_MO_plan_234 (by decide +kernel) ?_
                  refine lv_iload_n hx hb d_MO_plan_235 rfl (lv_at hl 2 rfl) ?_
                  refine lv_ishl hx hb d_MO_plan_236 ?_
                  refine lv_topr (show _ = nI (2 ^ s9) from bt_pow s9 (by omega)) ?_
                  refine lv_imul hx hb d_MO_plan_237 ?_
                  refine lv_topr (show _ = nI (9 * (2 ^ s9)) from nn_mul _ _) ?_
                  refine lv_iload_n hx hb d_MO_plan_238 rfl (lv_at hl 2 rfl) ?_
                  refine lv_iadd hx hb d_MO_plan_239 ?_
                  refine lv_topr (show _ = nI ((9 * (2 ^ s9)) + s9) from nn_add _ _) ?_
                  refine ix_ialdN (i := (9 * (2 ^ s9)) + s9) hx hb hK hP 5 0 rfl rfl (by omega) (by decide) d_MO_plan_240 ?_
                  refine lv_iload_n hx hb d_MO_plan_241 rfl (lv_at hl 1 rfl) ?_
                  refine ix_icmp_ge (tgt := 261) hx hb (nI_tI (n := re ((9 * (2 ^ s9)) + s9)) (by omega)) (nI_tI (n := v9) (by omega)) d_MO_plan_242 (by decide) (fun c_242 => ?_) (fun c_242 => ?_)
                  · refine lv_iload_n hx hb d_MO_plan_261 rfl (lv_at hl 1 rfl) ?_
                    refine lv_istore_n (lv' := [(2, .int (nI v9)), (0, .ref (z 0)), (3, .int (nI s9))]) hx hb d_MO_plan_262 rfl hl (by decide) rfl (fun ls hl => ?_)
                    refine lv_iinc (v := nI (s9 + 1)) (lv' := [(3, .int (nI (s9 + 1))), (2, .int (nI v9)), (0, .ref (z 0))]) hx hb d_MO_plan_263 hl (k := 2) rfl (n_incN s9 1) (by decide) rfl (fun ls hl => ?_)
                    refine lv_goto (tgt := 216) hx hb d_MO_plan_266 (by decide) ?_
                    exact ih_le3 (s9 + 1) (v9) (by omega) (by omega) (hL3.S (by omega)) (by omega) _ _ _ hP hD hS (lv_sub hl [2, 1, 0] rfl)
                  refine lv_aload_n hx hb d_MO_plan_245 rfl (lv_at hl 0 rfl) ?_
                  refine va_get (D := (dC, dI)) (ci := 7) (v := .ref (z 13)) (C := R_MO) (T := F_MO) (N := 23) hx hb hts in_MO hown hK hP 0 rfl rfl 21 (by decide) (hts _ m_593) (fun _ h9 => h9) rfl d_MO_plan_246 ?_
                  refine lv_bipush (v := nI 9) hx hb d_MO_plan_249 (by decide +kernel) ?_
                  refine lv_iconst (v := nI 1) hx hb d_MO_plan_251 (by decide +kernel) ?_
                  refine lv_iload_n hx hb d_MO_plan_252 rfl (lv_at hl 2 rfl) ?_
                  refine lv_ishl hx hb d_MO_plan_253 ?_
                  refine lv_topr (show _ = nI (2 ^ s9) from bt_pow s9 (by omega)) ?_
                  refine lv_imul hx hb d_MO_plan_254 ?_
                  refine lv_topr (show _ = nI (9 * (2 ^ s9)) from nn_mul _ _) ?_
                  refine lv_iload_n hx hb d_MO_plan_255 rfl (lv_at hl 2 rfl) ?_
                  refine lv_iadd hx hb d_MO_plan_256 ?_
                  refine lv_topr (show _ = nI ((9 * (2 ^ s9)) + s9) from nn_add _ _) ?_
                  refine ix_ialdN (i := (9 * (2 ^ s9)) + s9) hx hb hK hP 5 0 rfl rfl (by omega) (by decide) d_MO_plan_257 ?_
                  refine lv_goto (tgt := 262) hx hb d_MO_plan_258 (by decide) ?_
                  refine lv_istore_n (lv' := [(2, .int (nI (re ((9 * (2 ^ s9)) + s9)))), (0, .ref (z 0)), (3, .int (nI s9))]) hx hb d_MO_plan_262 rfl hl (by decide) rfl (fun ls hl => ?_)
                  refine lv_iinc (v := nI (s9 + 1)) (lv' := [(3, .int (nI (s9 + 1))), (2, .int (nI (re ((9 * (2 ^ s9)) + s9)))), (0, .ref (z 0))]) hx hb d_MO_plan_263 hl (k := 2) rfl (n_incN s9 1) (by decide) rfl (fun ls hl => ?_)
                  refine lv_goto (tgt := 216) hx hb d_MO_plan_266 (by decide) ?_
                  exact ih_le3 (s9 + 1) (re ((9 * (2 ^ s9)) + s9)) (by omega) (by omega) (hL3.S (by omega)) (by omega) _ _ _ hP hD hS (lv_sub hl [2, 1, 0] rfl)
              exact le3 (g 7 + 1) 0 0 (by omega) (by omega) (Or.inl ⟨rfl, rfl⟩) (by omega) _ _ _ hP hD hS (lv_sub hl [2, 1, 0] rfl)
            refine lv_iconst (v := nI 0) hx hb d_MO_plan_64 (by decide +kernel) ?_
            refine lv_istore_n (lv' := [(3, .int (nI 0)), (0, .ref (z 0)), (1, .int (nI (2 ^ g 7 - 1))), (2, .int (zI y9))]) hx hb d_MO_plan_65 rfl hl (by decide) rfl (fun ls hl => ?_)
            obtain ⟨S, hSy⟩ : ∃ S : Nat, y9 = S := ⟨y9.toNat, by omega⟩
            subst hSy
            have lc : ∀ (n_lc : Nat) (l9 : Nat) (re : Nat → Nat), (g 7 + 1 ≤ l9 + n_lc) → (l9 ≤ g 7) → (MB mo re (g 7) (S : Int) l9) → ∀ (H : Heap) (locs : List Loc) (ls : Array Slot), va_P (dC, dI) vwCl [(z 0, .inr (7, [.int (nI (g 0)), .int (nI (g 1)), .int (nI (g 2)), .int (nI (g 3)), .int (nI (g 4)), .int (nI (g 5)), .int (nI (g 6)), .ref (z 1), .ref (z 2), .ref (z 3), .ref (z 4), .int (nI (g 7)), .ref (z 5), .ref (z 6), .ref (z 7), .ref (z 8), .ref (z 9), .ref (z 10), .int (nI (g 8)), .ref (z 11), .ref (z 12), .ref (z 13), .ref (z 14)])), (z 1, .inl (cI, 5, .inl (aN ww))), (z 8, .inl (cI, 9, .inl (aN sf))), (z 9, .inl (cI, 9, .inl (aN sl))), (z 10, .inl (cI, 45, .inl (aN ss))), (z 13, .inl (cI, 4608, .inl (aN re))), (z 14, .inl (cI, 81, .inl (aN mo)))] H → va_D A [(z 0, .inr (7, [.int (nI (g 0)), .int (nI (g 1)), .int (nI (g 2)), .int (nI (g 3)), .int (nI (g 4)), .int (nI (g 5)), .int (nI (g 6)), .ref (z 1), .ref (z 2), .ref (z 3), .ref (z 4), .int (nI (g 7)), .ref (z 5), .ref (z 6), .ref (z 7), .ref (z 8), .ref (z 9), .ref (z 10), .int (nI (g 8)), .ref (z 11), .ref (z 12), .ref (z 13), .ref (z 14)])), (z 1, .inl (cI, 5, .inl (aN ww))), (z 8, .inl (cI, 9, .inl (aN sf))), (z 9, .inl (cI, 9, .inl (aN sl))), (z 10, .inl (cI, 45, .inl (aN ss))), (z 13, .inl (cI, 4608, .inl (aN re))), (z 14, .inl (cI, 81, .inl (aN mo)))] → va_S A s.heap H locs → lv_has ls 8 [(0, .ref (z 0)), (1, .int (nI (2 ^ g 7 - 1))), (2, .int (zI (S : Int))), (3, .int (nI l9))] → W p l e (headSpec w_MO_plan { frames := 5, cells := 0, slots := 0, locals := 119 }).room s m [.ref (z 0)].toArray below meth c H locs 0 0 (MQ below (va_Qi (fun (r : Int32) (u : (Nat → Nat) × (Nat → Nat)) => (∀ a, a < g 7 → ∀ b, b < g 7 → u.2 (9 * a + b) = MVm ww sf sl ss nu a b) ∧ MB u.2 u.1 (g 7) 0 0 ∧ ∃ v, r = nI v ∧ LST u.1 (g 7) v) (rw_B (dC, dI) vwCl [(cI, .int)] A (fun u : (Nat → Nat) × (Nat → Nat) => [(z 0, .inr (7, [.int (nI (g 0)), .int (nI (g 1)), .int (nI (g 2)), .int (nI (g 3)), .int (nI (g 4)), .int (nI (g 5)), .int (nI (g 6)), .ref (z 1), .ref (z 2), .ref (z 3), .ref (z 4), .int (nI (g 7)), .ref (z 5), .ref (z 6), .ref (z 7), .ref (z 8), .ref (z 9), .ref (z 10), .int (nI (g 8)), .ref (z 11), .ref (z 12), .ref (z 13), .ref (z 14)])), (z 1, .inl (cI, 5, .inl (aN ww))), (z 8, .inl (cI, 9, .inl (aN sf))), (z 9, .inl (cI, 9, .inl (aN sl))), (z 10, .inl (cI, 45, .inl (aN ss))), (z 13, .inl (cI, 4608, .inl (aN u.1))), (z 14, .inl (cI, 81, .inl (aN u.2)))])) A) [.ref (z 0)].toArray s 0 0 A) (F0 m 66 ls []) := by
              intro n_lc
              induction n_lc with
              | zero =>
                intro l9 re hmc9 hl9 hB
                exact absurd hmc9 (by omega)
              | succ n_lc ih_lc =>
                intro l9 re hmc9 hl9 hB H locs ls hP hD hS hl
                refine lv_iload_n hx hb d_MO_plan_66 rfl (lv_at hl 3 rfl) ?_
                refine lv_aload_n hx hb d_MO_plan_67 rfl (lv_at hl 0 rfl) ?_
                refine va_get (D := (dC, dI)) (ci := 7) (v := .int (nI (g 7))) (C := R_MO) (T := F_MO) (N := 23) hx hb hts in_MO hown hK hP 0 rfl rfl 11 (by decide) (hts _ m_583) (fun _ h9 => h9) rfl d_MO_plan_68 ?_
                refine ix_icmp_ge (tgt := 206) hx hb (nI_tI (n := l9) (by omega)) (nI_tI (n := g 7) (by omega)) d_MO_plan_71 (by decide) (fun c_71 => ?_) (fun c_71 => ?_)
                · refine lv_iinc (v := zI ((S : Int) - 1)) (lv' := [(2, .int (zI ((S : Int) - 1))), (0, .ref (z 0)), (1, .int (nI (2 ^ g 7 - 1))), (3, .int (nI l9))]) hx hb d_MO_plan_206 hl (k := 2) rfl ((n_incZ (S : Int) (-1))) (by decide) rfl (fun ls hl => ?_)
                  refine lv_goto (tgt := 60) hx hb d_MO_plan_209 (by decide) ?_
                  exact ih_ls ((S : Int) - 1) re (by omega) (by omega) (by omega) (hB.nextS (by omega)) _ _ _ hP hD hS (lv_sub hl [1, 2, 0] rfl)
                refine lv_iconst (v := zI (-1)) hx hb d_MO_plan_74 (by decide +kernel) ?_
                refine lv_istore (lv' := [(4, .int (zI (-1))), (0, .ref (z 0)), (1, .int (nI (2 ^ g 7 - 1))), (2, .int (zI (S : Int))), (3, .int (nI l9))]) hx hb d_MO_plan_75 hl (by decide) rfl (fun ls hl => ?_)
                refine lv_iconst (v := nI 0) hx hb d_MO_plan_77 (by decide +kernel) ?_
                refine lv_istore (lv' := [(5, .int (nI 0)), (4, .int (zI (-1))), (0, .ref (z 0)), (1, .int (nI (2 ^ g 7 - 1))), (2, .int (zI (S : Int))), (3, .int (nI l9))]) hx hb d_MO_plan_78 hl (by decide) rfl (fun ls hl => ?_)
                have hthl : ∀ x, x < g 7 → bit S x = 0 → mth mo re S l9 x ≤ 60 * (512 - S) := fun x hx hb => mth_le hB h7 (by omega) (fun y hy => hmc l9 (by omega) y hy) hx hb
                have ld : ∀ (n_ld : Nat) (b9 : Nat) (le : Int), (g 7 + 1 ≤ b9 + n_ld) → (b9 ≤ g 7) → (MNI (mth mo re S l9) (fun y => bit S y = 0) b9 le) → ∀ (H : Heap) (locs : List Loc) (ls : Array Slot), va_P (dC, dI) vwCl [(z 0, .inr (7, [.int (nI (g 0)), .int (nI (g 1)), .int (nI (g 2)), .int (nI (g 3)), .int (nI (g 4)), .int (nI (g 5)), .int (nI (g 6)), .ref (z 1), .ref (z 2), .ref (z 3), .ref (z 4), .int (nI (g 7)), .ref (z 5), .ref (z 6), .ref (z 7), .ref (z 8), .ref (z 9), .ref (z 10), .int (nI (g 8)), .ref (z 11), .ref (z 12), .ref (z 13), .ref (z 14)])), (z 1, .inl (cI, 5, .inl (aN ww))), (z 8, .inl (cI, 9, .inl (aN sf))), (z 9, .inl (cI, 9, .inl (aN sl))), (z 10, .inl (cI, 45, .inl (aN ss))), (z 13, .inl (cI, 4608, .inl (aN re))), (z 14, .inl (cI, 81, .inl (aN mo)))] H → va_D A [(z 0, .inr (7, [.int (nI (g 0)), .int (nI (g 1)), .int (nI (g 2)), .int (nI (g 3)), .int (nI (g 4)), .int (nI (g 5)), .int (nI (g 6)), .ref (z 1), .ref (z 2), .ref (z 3), .ref (z 4), .int (nI (g 7)), .ref (z 5), .ref (z 6), .ref (z 7), .ref (z 8), .ref (z 9), .ref (z 10), .int (nI (g 8)), .ref (z 11), .ref (z 12), .ref (z 13), .ref (z 14)])), (z 1, .inl (cI, 5, .inl (aN ww))), (z 8, .inl (cI, 9, .inl (aN sf))), (z 9, .inl (cI, 9, .inl (aN sl))), (z 10, .inl (cI, 45, .inl (aN ss))), (z 13, .inl (cI, 4608, .inl (aN re))), (z 14, .inl (cI, 81, .inl (aN mo)))] → va_S A s.heap H locs → lv_has ls 8 [(0, .ref (z 0)), (1, .int (nI (2 ^ g 7 - 1))), (2, .int (zI (S : Int))), (3, .int (nI l9)), (4, .int (zI le)), (5, .int (nI b9))] → W p l e (headSpec w_MO_plan { frames := 5, cells := 0, slots := 0, locals := 119 }).room s m [.ref (z 0)].toArray below meth c H locs 0 0 (MQ below (va_Qi (fun (r : Int32) (u : (Nat → Nat) × (Nat → Nat)) => (∀ a, a < g 7 → ∀ b, b < g 7 → u.2 (9 * a + b) = MVm ww sf sl ss nu a b) ∧ MB u.2 u.1 (g 7) 0 0 ∧ ∃ v, r = nI v ∧ LST u.1 (g 7) v) (rw_B (dC, dI) vwCl [(cI, .int)] A (fun u : (Nat → Nat) × (Nat → Nat) => [(z 0, .inr (7, [.int (nI (g 0)), .int (nI (g 1)), .int (nI (g 2)), .int (nI (g 3)), .int (nI (g 4)), .int (nI (g 5)), .int (nI (g 6)), .ref (z 1), .ref (z 2), .ref (z 3), .ref (z 4), .int (nI (g 7)), .ref (z 5), .ref (z 6), .ref (z 7), .ref (z 8), .ref (z 9), .ref (z 10), .int (nI (g 8)), .ref (z 11), .ref (z 12), .ref (z 13), .ref (z 14)])), (z 1, .inl (cI, 5, .inl (aN ww))), (z 8, .inl (cI, 9, .inl (aN sf))), (z 9, .inl (cI, 9, .inl (aN sl))), (z 10, .inl (cI, 45, .inl (aN ss))), (z 13, .inl (cI, 4608, .inl (aN u.1))), (z 14, .inl (cI, 81, .inl (aN u.2)))])) A) [.ref (z 0)].toArray s 0 0 A) (F0 m 80 ls []) := by
                  intro n_ld
                  induction n_ld with
                  | zero =>
                    intro b9 le hmd hb9 hL
                    exact absurd hmd (by omega)
                  | succ n_ld ih_ld =>
                    intro b9 le hmd hb9 hL H locs ls hP hD hS hl
                    refine lv_iload hx hb d_MO_plan_80 (lv_at hl 5 rfl) ?_
                    refine lv_aload_n hx hb d_MO_plan_82 rfl (lv_at hl 0 rfl) ?_
                    refine va_get (D := (dC, dI)) (ci := 7) (v := .int (nI (g 7))) (C := R_MO) (T := F_MO) (N := 23) hx hb hts in_MO hown hK hP 0 rfl rfl 11 (by decide) (hts _ m_583) (fun _ h9 => h9) rfl d_MO_plan_83 ?_
                    refine ix_icmp_ge (tgt := 178) hx hb (nI_tI (n := b9) (by omega)) (nI_tI (n := g 7) (by omega)) d_MO_plan_86 (by decide) (fun c_86 => ?_) (fun c_86 => ?_)
                    · have hb7 : b9 = g 7 := by omega
                      rw [hb7] at hL
                      have hrg := hL.range (fun x hx hb => hthl x hx hb)
                      refine lv_aload_n hx hb d_MO_plan_178 rfl (lv_at hl 0 rfl) ?_
                      refine va_get (D := (dC, dI)) (ci := 7) (v := .ref (z 13)) (C := R_MO) (T := F_MO) (N := 23) hx hb hts in_MO hown hK hP 0 rfl rfl 21 (by decide) (hts _ m_593) (fun _ h9 => h9) rfl d_MO_plan_179 ?_
                      refine lv_bipush (v := nI 9) hx hb d_MO_plan_182 (by decide +kernel) ?_
                      refine lv_iload_n hx hb d_MO_plan_184 rfl (lv_at hl 2 rfl) ?_
                      refine lv_topr (show _ = nI S from z_toN rfl) ?_
                      refine lv_imul hx hb d_MO_plan_185 ?_
                      refine lv_topr (show _ = nI (9 * S) from nn_mul _ _) ?_
                      refine lv_iload_n hx hb d_MO_plan_186 rfl (lv_at hl 3 rfl) ?_
                      refine lv_iadd hx hb d_MO_plan_187 ?_
                      refine lv_topr (show _ = nI ((9 * S) + l9) from nn_add _ _) ?_
                      refine lv_iload hx hb d_MO_plan_188 (lv_at hl 4 rfl) ?_
                      refine ix_if_ge (tgt := 197) hx hb (zI_toInt (z := le) (by omega) (by omega)) d_MO_plan_190 (by decide) (fun c_190 => ?_) (fun c_190 => ?_)
                      · refine lv_iload hx hb d_MO_plan_197 (lv_at hl 4 rfl) ?_
                        refine lv_topr (show _ = nI le.toNat from z_toN (by omega)) ?_
                        refine ix_iast (i := (9 * S) + l9) hx hb hK hP hD hS 5 0 rfl rfl (by omega) (by decide) d_MO_plan_199 (fun H locs hP hD hS => ?_)
                        have hP : va_P (dC, dI) vwCl [(z 0, .inr (7, [.int (nI (g 0)), .int (nI (g 1)), .int (nI (g 2)), .int (nI (g 3)), .int (nI (g 4)), .int (nI (g 5)), .int (nI (g 6)), .ref (z 1), .ref (z 2), .ref (z 3), .ref (z 4), .int (nI (g 7)), .ref (z 5), .ref (z 6), .ref (z 7), .ref (z 8), .ref (z 9), .ref (z 10), .int (nI (g 8)), .ref (z 11), .ref (z 12), .ref (z 13), .ref (z 14)])), (z 1, .inl (cI, 5, .inl (aN ww))), (z 8, .inl (cI, 9, .inl (aN sf))), (z 9, .inl (cI, 9, .inl (aN sl))), (z 10, .inl (cI, 45, .inl (aN ss))), (z 13, .inl (cI, 4608, .inl (aN (up re ((9 * S) + l9) le.toNat)))), (z 14, .inl (cI, 81, .inl (aN mo)))] H := hP
                        have hD : va_D A [(z 0, .inr (7, [.int (nI (g 0)), .int (nI (g 1)), .int (nI (g 2)), .int (nI (g 3)), .int (nI (g 4)), .int (nI (g 5)), .int (nI (g 6)), .ref (z 1), .ref (z 2), .ref (z 3), .ref (z 4), .int (nI (g 7)), .ref (z 5), .ref (z 6), .ref (z 7), .ref (z 8), .ref (z 9), .ref (z 10), .int (nI (g 8)), .ref (z 11), .ref (z 12), .ref (z 13), .ref (z 14)])), (z 1, .inl (cI, 5, .inl (aN ww))), (z 8, .inl (cI, 9, .inl (aN sf))), (z 9, .inl (cI, 9, .inl (aN sl))), (z 10, .inl (cI, 45, .inl (aN ss))), (z 13, .inl (cI, 4608, .inl (aN (up re ((9 * S) + l9) le.toNat)))), (z 14, .inl (cI, 81, .inl (aN mo)))] := hD
                        refine lv_iinc (v := nI (l9 + 1)) (lv' := [(3, .int (nI (l9 + 1))), (0, .ref (z 0)), (1, .int (nI (2 ^ g 7 - 1))), (2, .int (zI (S : Int))), (4, .int (zI le)), (5, .int (nI b9))]) hx hb d_MO_plan_200 hl (k := 3) rfl (n_incN l9 1) (by decide) rfl (fun ls hl => ?_)
                        refine lv_goto (tgt := 66) hx hb d_MO_plan_203 (by decide) ?_
                        exact ih_lc (l9 + 1) (up re ((9 * S) + l9) le.toNat) (by omega) (by omega) (by have q := hB.put h7 (by omega) (by omega) (fun y hy => hmc l9 (by omega) y hy) hL; rw [tvB_1 (by omega)] at q; exact q) _ _ _ hP hD hS (lv_sub hl [1, 2, 3, 0] rfl)
                      refine lv_iconst (v := nI 0) hx hb d_MO_plan_193 (by decide +kernel) ?_
                      refine lv_goto (tgt := 199) hx hb d_MO_plan_194 (by decide) ?_
                      refine ix_iast (i := (9 * S) + l9) hx hb hK hP hD hS 5 0 rfl rfl (by omega) (by decide) d_MO_plan_199 (fun H locs hP hD hS => ?_)
                      have hP : va_P (dC, dI) vwCl [(z 0, .inr (7, [.int (nI (g 0)), .int (nI (g 1)), .int (nI (g 2)), .int (nI (g 3)), .int (nI (g 4)), .int (nI (g 5)), .int (nI (g 6)), .ref (z 1), .ref (z 2), .ref (z 3), .ref (z 4), .int (nI (g 7)), .ref (z 5), .ref (z 6), .ref (z 7), .ref (z 8), .ref (z 9), .ref (z 10), .int (nI (g 8)), .ref (z 11), .ref (z 12), .ref (z 13), .ref (z 14)])), (z 1, .inl (cI, 5, .inl (aN ww))), (z 8, .inl (cI, 9, .inl (aN sf))), (z 9, .inl (cI, 9, .inl (aN sl))), (z 10, .inl (cI, 45, .inl (aN ss))), (z 13, .inl (cI, 4608, .inl (aN (up re ((9 * S) + l9) 0)))), (z 14, .inl (cI, 81, .inl (aN mo)))] H := hP
                      have hD : va_D A [(z 0, .inr (7, [.int (nI (g 0)), .int (nI (g 1)), .int (nI (g 2)), .int (nI (g 3)), .int (nI (g 4)), .int (nI (g 5)), .int (nI (g 6)), .ref (z 1), .ref (z 2), .ref (z 3), .ref (z 4), .int (nI (g 7)), .ref (z 5), .ref (z 6), .ref (z 7), .ref (z 8), .ref (z 9), .ref (z 10), .int (nI (g 8)), .ref (z 11), .ref (z 12), .ref (z 13), .ref (z 14)])), (z 1, .inl (cI, 5, .inl (aN ww))), (z 8, .inl (cI, 9, .inl (aN sf))), (z 9, .inl (cI, 9, .inl (aN sl))), (z 10, .inl (cI, 45, .inl (aN ss))), (z 13, .inl (cI, 4608, .inl (aN (up re ((9 * S) + l9) 0)))), (z 14, .inl (cI, 81, .inl (aN mo)))] := hD
                      refine lv_iinc (v := nI (l9 + 1)) (lv' := [(3, .int (nI (l9 + 1))), (0, .ref (z 0)), (1, .int (nI (2 ^ g 7 - 1))), (2, .int (zI (S : Int))), (4, .int (zI le)), (5, .int (nI b9))]) hx hb d_MO_plan_200 hl (k := 3) rfl (n_incN l9 1) (by decide) rfl (fun ls hl => ?_)
                      refine lv_goto (tgt := 66) hx hb d_MO_plan_203 (by decide) ?_
                      exact ih_lc (l9 + 1) (up re ((9 * S) + l9) 0) (by omega) (by omega) (by have q := hB.put h7 (by omega) (by omega) (fun y hy => hmc l9 (by omega) y hy) hL; rw [tvB_0 (by omega)] at q; exact q) _ _ _ hP hD hS (lv_sub hl [1, 2, 3, 0] rfl)
                    refine lv_iload_n hx hb d_MO_plan_89 rfl (lv_at hl 2 rfl) ?_
                    refine lv_topr (show _ = nI S from z_toN rfl) ?_
                    refine lv_iload hx hb d_MO_plan_90 (lv_at hl 5 rfl) ?_
                    refine lv_ishr hx hb d_MO_plan_92 ?_
                    refine lv_iconst (v := nI 1) hx hb d_MO_plan_93 (by decide +kernel) ?_
                    refine lv_iand hx hb d_MO_plan_94 ?_
                    have hb01 := bit_01 S b9
                    refine lv_topr (show _ = nI (bit S b9) from bt_bit S (by omega) b9 (by omega)) ?_
                    have hrg := hL.range (fun x hx hb => hthl x (by omega) hb)
                    refine ix_if_ne (tgt := 102) hx hb (nI_tI (n := bit S b9) (by omega)) d_MO_plan_95 (by decide) (fun c_95 => ?_) (fun c_95 => ?_)
                    · refine lv_iconst (v := nI 0) hx hb d_MO_plan_102 (by decide +kernel) ?_
                      refine lv_istore (lv' := [(6, .int (nI 0)), (0, .ref (z 0)), (1, .int (nI (2 ^ g 7 - 1))), (2, .int (zI (S : Int))), (3, .int (nI l9)), (4, .int (zI le)), (5, .int (nI b9))]) hx hb d_MO_plan_103 hl (by decide) rfl (fun ls hl => ?_)
                      refine lv_iload hx hb d_MO_plan_105 (lv_at hl 0 rfl) ?_
                      refine ix_if_eq (tgt := 143) hx hb (nI_tI (n := 0) (by omega)) d_MO_plan_107 (by decide) (fun c_107 => ?_) (fun c_107 => absurd c_107 (by omega))
                      refine lv_iconst (v := nI 0) hx hb d_MO_plan_143 (by decide +kernel) ?_
                      refine lv_istore (lv' := [(7, .int (nI 0)), (6, .int (nI 0)), (0, .ref (z 0)), (1, .int (nI (2 ^ g 7 - 1))), (2, .int (zI (S : Int))), (3, .int (nI l9)), (4, .int (zI le)), (5, .int (nI b9))]) hx hb d_MO_plan_144 hl (by decide) rfl (fun ls hl => ?_)
                      refine lv_iload hx hb d_MO_plan_146 (lv_at hl 1 rfl) ?_
                      refine ix_if_eq (tgt := 168) hx hb (nI_tI (n := 0) (by omega)) d_MO_plan_148 (by decide) (fun c_148 => ?_) (fun c_148 => absurd c_148 (by omega))
                      refine lv_iload hx hb d_MO_plan_168 (lv_at hl 6 rfl) ?_
                      refine lv_istore (lv' := [(4, .int (zI le)), (7, .int (nI 0)), (6, .int (nI 0)), (0, .ref (z 0)), (1, .int (nI (2 ^ g 7 - 1))), (2, .int (zI (S : Int))), (3, .int (nI l9)), (5, .int (nI b9))]) hx hb d_MO_plan_170 hl (by decide) rfl (fun ls hl => ?_)
                      refine lv_iinc (v := nI (b9 + 1)) (lv' := [(5, .int (nI (b9 + 1))), (4, .int (zI le)), (7, .int (nI 0)), (6, .int (nI 0)), (0, .ref (z 0)), (1, .int (nI (2 ^ g 7 - 1))), (2, .int (zI (S : Int))), (3, .int (nI l9))]) hx hb d_MO_plan_172 hl (k := 7) rfl (n_incN b9 1) (by decide) rfl (fun ls hl => ?_)
                      refine lv_goto (tgt := 80) hx hb d_MO_plan_175 (by decide) ?_
                      exact ih_ld (b9 + 1) le (by omega) (by omega) (hL.skip (by omega)) _ _ _ hP hD hS (lv_sub hl [4, 5, 6, 7, 1, 0] rfl)
                    refine lv_iconst (v := nI 1) hx hb d_MO_plan_98 (by decide +kernel) ?_
                    refine lv_goto (tgt := 103) hx hb d_MO_plan_99 (by decide) ?_
                    refine lv_istore (lv' := [(6, .int (nI 1)), (0, .ref (z 0)), (1, .int (nI (2 ^ g 7 - 1))), (2, .int (zI (S : Int))), (3, .int (nI l9)), (4, .int (zI le)), (5, .int (nI b9))]) hx hb d_MO_plan_103 hl (by decide) rfl (fun ls hl => ?_)
                    refine lv_iload hx hb d_MO_plan_105 (lv_at hl 0 rfl) ?_
                    refine ix_if_eq (tgt := 143) hx hb (nI_tI (n := 1) (by omega)) d_MO_plan_107 (by decide) (fun c_107 => absurd c_107 (by omega)) (fun c_107 => ?_)
                    have hb0 : bit S b9 = 0 := by omega
                    have hst := sto_512 S (by omega) b9 (by omega)
                    have hth := hthl b9 (by omega) hb0
                    refine lv_aload_n hx hb d_MO_plan_110 rfl (lv_at hl 1 rfl) ?_
                    refine va_get (D := (dC, dI)) (ci := 7) (v := .ref (z 14)) (C := R_MO) (T := F_MO) (N := 23) hx hb hts in_MO hown hK hP 0 rfl rfl 22 (by decide) (hts _ m_594) (fun _ h9 => h9) rfl d_MO_plan_111 ?_
                    refine lv_bipush (v := nI 9) hx hb d_MO_plan_114 (by decide +kernel) ?_
                    refine lv_iload_n hx hb d_MO_plan_116 rfl (lv_at hl 4 rfl) ?_
                    refine lv_imul hx hb d_MO_plan_117 ?_
                    refine lv_topr (show _ = nI (9 * l9) from nn_mul _ _) ?_
                    refine lv_iload hx hb d_MO_plan_118 (lv_at hl 6 rfl) ?_
                    refine lv_iadd hx hb d_MO_plan_120 ?_
                    refine lv_topr (show _ = nI ((9 * l9) + b9) from nn_add _ _) ?_
                    refine ix_ialdN (i := (9 * l9) + b9) hx hb hK hP 6 0 rfl rfl (by omega) (by decide) d_MO_plan_121 ?_
                    refine lv_aload_n hx hb d_MO_plan_122 rfl (lv_at hl 1 rfl) ?_
                    refine va_get (D := (dC, dI)) (ci := 7) (v := .ref (z 13)) (C := R_MO) (T := F_MO) (N := 23) hx hb hts in_MO hown hK hP 0 rfl rfl 21 (by decide) (hts _ m_593) (fun _ h9 => h9) rfl d_MO_plan_123 ?_
                    refine lv_bipush (v := nI 9) hx hb d_MO_plan_126 (by decide +kernel) ?_
                    refine lv_iload_n hx hb d_MO_plan_128 rfl (lv_at hl 3 rfl) ?_
                    refine lv_topr (show _ = nI S from z_toN rfl) ?_
                    refine lv_iconst (v := nI 1) hx hb d_MO_plan_129 (by decide +kernel) ?_
                    refine lv_iload hx hb d_MO_plan_130 (lv_at hl 6 rfl) ?_
                    refine lv_ishl hx hb d_MO_plan_132 ?_
                    refine lv_ior hx hb d_MO_plan_133 ?_
                    refine lv_topr (show _ = nI (sto S b9) from bt_sto S (by omega) b9 (by omega)) ?_
                    refine lv_imul hx hb d_MO_plan_134 ?_
                    refine lv_topr (show _ = nI (9 * (sto S b9)) from nn_mul _ _) ?_
                    refine lv_iload hx hb d_MO_plan_135 (lv_at hl 6 rfl) ?_
                    refine lv_iadd hx hb d_MO_plan_137 ?_
                    refine lv_topr (show _ = nI ((9 * (sto S b9)) + b9) from nn_add _ _) ?_
                    refine ix_ialdN (i := (9 * (sto S b9)) + b9) hx hb hK hP 5 0 rfl rfl (by omega) (by decide) d_MO_plan_138 ?_
                    refine lv_iadd hx hb d_MO_plan_139 ?_
                    refine lv_topr (show _ = nI ((mo ((9 * l9) + b9)) + (re ((9 * (sto S b9)) + b9))) from nn_add _ _) ?_
                    refine lv_goto (tgt := 144) hx hb d_MO_plan_140 (by decide) ?_
                    refine lv_topr (show _ = nI (mth mo re S l9 b9) from rfl) ?_
                    refine lv_istore (lv' := [(7, .int (nI (mth mo re S l9 b9))), (6, .int (nI 1)), (0, .ref (z 0)), (1, .int (nI (2 ^ g 7 - 1))), (2, .int (zI (S : Int))), (3, .int (nI l9)), (4, .int (zI le)), (5, .int (nI b9))]) hx hb d_MO_plan_144 hl (by decide) rfl (fun ls hl => ?_)
                    refine lv_iload hx hb d_MO_plan_146 (lv_at hl 1 rfl) ?_
                    refine ix_if_eq (tgt := 168) hx hb (nI_tI (n := 1) (by omega)) d_MO_plan_148 (by decide) (fun c_148 => absurd c_148 (by omega)) (fun c_148 => ?_)
                    refine lv_iload hx hb d_MO_plan_151 (lv_at hl 6 rfl) ?_
                    refine ix_if_lt (tgt := 163) hx hb (zI_toInt (z := le) (by omega) (by omega)) d_MO_plan_153 (by decide) (fun c_153 => ?_) (fun c_153 => ?_)
                    · refine lv_iload hx hb d_MO_plan_163 (lv_at hl 0 rfl) ?_
                      refine lv_goto (tgt := 170) hx hb d_MO_plan_165 (by decide) ?_
                      refine lv_topr (show _ = zI ((mth mo re S l9 b9 : Nat) : Int) from zI_n _) ?_
                      refine lv_istore (lv' := [(4, .int (zI ((mth mo re S l9 b9 : Nat) : Int))), (7, .int (nI (mth mo re S l9 b9))), (6, .int (nI 1)), (0, .ref (z 0)), (1, .int (nI (2 ^ g 7 - 1))), (2, .int (zI (S : Int))), (3, .int (nI l9)), (5, .int (nI b9))]) hx hb d_MO_plan_170 hl (by decide) rfl (fun ls hl => ?_)
                      refine lv_iinc (v := nI (b9 + 1)) (lv' := [(5, .int (nI (b9 + 1))), (4, .int (zI ((mth mo re S l9 b9 : Nat) : Int))), (7, .int (nI (mth mo re S l9 b9))), (6, .int (nI 1)), (0, .ref (z 0)), (1, .int (nI (2 ^ g 7 - 1))), (2, .int (zI (S : Int))), (3, .int (nI l9))]) hx hb d_MO_plan_172 hl (k := 7) rfl (n_incN b9 1) (by decide) rfl (fun ls hl => ?_)
                      refine lv_goto (tgt := 80) hx hb d_MO_plan_175 (by decide) ?_
                      exact ih_ld (b9 + 1) ((mth mo re S l9 b9 : Nat) : Int) (by omega) (by omega) (hL.take hb0 (by omega)) _ _ _ hP hD hS (lv_sub hl [4, 5, 6, 7, 1, 0] rfl)
                    refine lv_iload hx hb d_MO_plan_156 (lv_at hl 0 rfl) ?_
                    refine lv_iload hx hb d_MO_plan_158 (lv_at hl 6 rfl) ?_
                    refine ix_icmp_ge (tgt := 168) hx hb (nI_tI (n := mth mo re S l9 b9) (by omega)) (zI_toInt (z := le) (by omega) (by omega)) d_MO_plan_160 (by decide) (fun c_160 => ?_) (fun c_160 => ?_)
                    · refine lv_iload hx hb d_MO_plan_168 (lv_at hl 6 rfl) ?_
                      refine lv_istore (lv' := [(4, .int (zI le)), (7, .int (nI (mth mo re S l9 b9))), (6, .int (nI 1)), (0, .ref (z 0)), (1, .int (nI (2 ^ g 7 - 1))), (2, .int (zI (S : Int))), (3, .int (nI l9)), (5, .int (nI b9))]) hx hb d_MO_plan_170 hl (by decide) rfl (fun ls hl => ?_)
                      refine lv_iinc (v := nI (b9 + 1)) (lv' := [(5, .int (nI (b9 + 1))), (4, .int (zI le)), (7, .int (nI (mth mo re S l9 b9))), (6, .int (nI 1)), (0, .ref (z 0)), (1, .int (nI (2 ^ g 7 - 1))), (2, .int (zI (S : Int))), (3, .int (nI l9))]) hx hb d_MO_plan_172 hl (k := 7) rfl (n_incN b9 1) (by decide) rfl (fun ls hl => ?_)
                      refine lv_goto (tgt := 80) hx hb d_MO_plan_175 (by decide) ?_
                      exact ih_ld (b9 + 1) le (by omega) (by omega) (hL.keep (by omega) (by omega)) _ _ _ hP hD hS (lv_sub hl [4, 5, 6, 7, 1, 0] rfl)
                    refine lv_iload hx hb d_MO_plan_163 (lv_at hl 0 rfl) ?_
                    refine lv_goto (tgt := 170) hx hb d_MO_plan_165 (by decide) ?_
                    refine lv_topr (show _ = zI ((mth mo re S l9 b9 : Nat) : Int) from zI_n _) ?_
                    refine lv_istore (lv' := [(4, .int (zI ((mth mo re S l9 b9 : Nat) : Int))), (7, .int (nI (mth mo re S l9 b9))), (6, .int (nI 1)), (0, .ref (z 0)), (1, .int (nI (2 ^ g 7 - 1))), (2, .int (zI (S : Int))), (3, .int (nI l9)), (5, .int (nI b9))]) hx hb d_MO_plan_170 hl (by decide) rfl (fun ls hl => ?_)
                    refine lv_iinc (v := nI (b9 + 1)) (lv' := [(5, .int (nI (b9 + 1))), (4, .int (zI ((mth mo re S l9 b9 : Nat) : Int))), (7, .int (nI (mth mo re S l9 b9))), (6, .int (nI 1)), (0, .ref (z 0)), (1, .int (nI (2 ^ g 7 - 1))), (2, .int (zI (S : Int))), (3, .int (nI l9))]) hx hb d_MO_plan_172 hl (k := 7) rfl (n_incN b9 1) (by decide) rfl (fun ls hl => ?_)
                    refine lv_goto (tgt := 80) hx hb d_MO_plan_175 (by decide) ?_
                    exact ih_ld (b9 + 1) ((mth mo re S l9 b9 : Nat) : Int) (by omega) (by omega) (hL.take hb0 (by omega)) _ _ _ hP hD hS (lv_sub hl [4, 5, 6, 7, 1, 0] rfl)
                exact ld (g 7 + 1) 0 (-1) (by omega) (by omega) (MNI.init _ _) _ _ _ hP hD hS (lv_sub hl [2, 3, 4, 5, 1, 0] rfl)
            exact lc (g 7 + 1) 0 re (by omega) (by omega) hB _ _ _ hP hD hS (lv_sub hl [1, 2, 3, 0] rfl)
        exact ls (2 ^ g 7) ((2 ^ g 7 - 1 : Nat) : Int) re (by omega) (by omega) (by omega) (MB.init h1p) _ _ _ hP hD hS (lv_sub hl [2, 1, 0] rfl)
      refine lv_iconst (v := nI 0) hx hb d_MO_plan_10 (by decide +kernel) ?_
      refine lv_istore_n (lv' := [(2, .int (nI 0)), (0, .ref (z 0)), (1, .int (nI a9))]) hx hb d_MO_plan_11 rfl hl (by decide) rfl (fun ls hl => ?_)
      have lb : ∀ (n_lb : Nat) (b9 : Nat) (mo : Nat → Nat), (g 7 + 1 ≤ b9 + n_lb) → (b9 ≤ g 7) → (∀ a', a' < g 7 → ∀ b', b' < g 7 → (a' < a9 ∨ (a' = a9 ∧ b' < b9)) → mo (9 * a' + b') = MVm ww sf sl ss nu a' b') → ∀ (H : Heap) (locs : List Loc) (ls : Array Slot), va_P (dC, dI) vwCl [(z 0, .inr (7, [.int (nI (g 0)), .int (nI (g 1)), .int (nI (g 2)), .int (nI (g 3)), .int (nI (g 4)), .int (nI (g 5)), .int (nI (g 6)), .ref (z 1), .ref (z 2), .ref (z 3), .ref (z 4), .int (nI (g 7)), .ref (z 5), .ref (z 6), .ref (z 7), .ref (z 8), .ref (z 9), .ref (z 10), .int (nI (g 8)), .ref (z 11), .ref (z 12), .ref (z 13), .ref (z 14)])), (z 1, .inl (cI, 5, .inl (aN ww))), (z 8, .inl (cI, 9, .inl (aN sf))), (z 9, .inl (cI, 9, .inl (aN sl))), (z 10, .inl (cI, 45, .inl (aN ss))), (z 13, .inl (cI, 4608, .inl (aN re))), (z 14, .inl (cI, 81, .inl (aN mo)))] H → va_D A [(z 0, .inr (7, [.int (nI (g 0)), .int (nI (g 1)), .int (nI (g 2)), .int (nI (g 3)), .int (nI (g 4)), .int (nI (g 5)), .int (nI (g 6)), .ref (z 1), .ref (z 2), .ref (z 3), .ref (z 4), .int (nI (g 7)), .ref (z 5), .ref (z 6), .ref (z 7), .ref (z 8), .ref (z 9), .ref (z 10), .int (nI (g 8)), .ref (z 11), .ref (z 12), .ref (z 13), .ref (z 14)])), (z 1, .inl (cI, 5, .inl (aN ww))), (z 8, .inl (cI, 9, .inl (aN sf))), (z 9, .inl (cI, 9, .inl (aN sl))), (z 10, .inl (cI, 45, .inl (aN ss))), (z 13, .inl (cI, 4608, .inl (aN re))), (z 14, .inl (cI, 81, .inl (aN mo)))] → va_S A s.heap H locs → lv_has ls 8 [(0, .ref (z 0)), (1, .int (nI a9)), (2, .int (nI b9))] → W p l e (headSpec w_MO_plan { frames := 5, cells := 0, slots := 0, locals := 119 }).room s m [.ref (z 0)].toArray below meth c H locs 0 0 (MQ below (va_Qi (fun (r : Int32) (u : (Nat → Nat) × (Nat → Nat)) => (∀ a, a < g 7 → ∀ b, b < g 7 → u.2 (9 * a + b) = MVm ww sf sl ss nu a b) ∧ MB u.2 u.1 (g 7) 0 0 ∧ ∃ v, r = nI v ∧ LST u.1 (g 7) v) (rw_B (dC, dI) vwCl [(cI, .int)] A (fun u : (Nat → Nat) × (Nat → Nat) => [(z 0, .inr (7, [.int (nI (g 0)), .int (nI (g 1)), .int (nI (g 2)), .int (nI (g 3)), .int (nI (g 4)), .int (nI (g 5)), .int (nI (g 6)), .ref (z 1), .ref (z 2), .ref (z 3), .ref (z 4), .int (nI (g 7)), .ref (z 5), .ref (z 6), .ref (z 7), .ref (z 8), .ref (z 9), .ref (z 10), .int (nI (g 8)), .ref (z 11), .ref (z 12), .ref (z 13), .ref (z 14)])), (z 1, .inl (cI, 5, .inl (aN ww))), (z 8, .inl (cI, 9, .inl (aN sf))), (z 9, .inl (cI, 9, .inl (aN sl))), (z 10, .inl (cI, 45, .inl (aN ss))), (z 13, .inl (cI, 4608, .inl (aN u.1))), (z 14, .inl (cI, 81, .inl (aN u.2)))])) A) [.ref (z 0)].toArray s 0 0 A) (F0 m 12 ls []) := by
        intro n_lb
        induction n_lb with
        | zero =>
          intro b9 mo hmb hb7 hI
          exact absurd hmb (by omega)
        | succ n_lb ih_lb =>
          intro b9 mo hmb hb7 hI H locs ls hP hD hS hl
          refine lv_iload_n hx hb d_MO_plan_12 rfl (lv_at hl 2 rfl) ?_
          refine lv_aload_n hx hb d_MO_plan_13 rfl (lv_at hl 0 rfl) ?_
          refine va_get (D := (dC, dI)) (ci := 7) (v := .int (nI (g 7))) (C := R_MO) (T := F_MO) (N := 23) hx hb hts in_MO hown hK hP 0 rfl rfl 11 (by decide) (hts _ m_583) (fun _ h9 => h9) rfl d_MO_plan_14 ?_
          refine ix_icmp_ge (tgt := 43) hx hb (nI_tI (n := b9) (by omega)) (nI_tI (n := g 7) (by omega)) d_MO_plan_17 (by decide) (fun c_17 => ?_) (fun c_17 => ?_)
          · refine lv_iinc (v := nI (a9 + 1)) (lv' := [(1, .int (nI (a9 + 1))), (0, .ref (z 0)), (2, .int (nI b9))]) hx hb d_MO_plan_43 hl (k := 1) rfl (n_incN a9 1) (by decide) rfl (fun ls hl => ?_)
            refine lv_goto (tgt := 2) hx hb d_MO_plan_46 (by decide) ?_
            exact ih_la (a9 + 1) mo (by omega) (by omega) (fun a' h1 b' h2 h3 => hI a' h1 b' h2 (by omega)) _ _ _ hP hD hS (lv_sub hl [1, 0] rfl)
          refine lv_aload_n hx hb d_MO_plan_20 rfl (lv_at hl 0 rfl) ?_
          refine va_get (D := (dC, dI)) (ci := 7) (v := .ref (z 14)) (C := R_MO) (T := F_MO) (N := 23) hx hb hts in_MO hown hK hP 0 rfl rfl 22 (by decide) (hts _ m_594) (fun _ h9 => h9) rfl d_MO_plan_21 ?_
          refine lv_bipush (v := nI 9) hx hb d_MO_plan_24 (by decide +kernel) ?_
          refine lv_iload_n hx hb d_MO_plan_26 rfl (lv_at hl 1 rfl) ?_
          refine lv_imul hx hb d_MO_plan_27 ?_
          refine lv_topr (show _ = nI (9 * a9) from nn_mul _ _) ?_
          refine lv_iload_n hx hb d_MO_plan_28 rfl (lv_at hl 2 rfl) ?_
          refine lv_iadd hx hb d_MO_plan_29 ?_
          refine lv_topr (show _ = nI ((9 * a9) + b9) from nn_add _ _) ?_
          refine lv_aload_n hx hb d_MO_plan_30 rfl (lv_at hl 0 rfl) ?_
          refine lv_iload_n hx hb d_MO_plan_31 rfl (lv_at hl 1 rfl) ?_
          refine lv_iload_n hx hb d_MO_plan_32 rfl (lv_at hl 2 rfl) ?_
          have hPc := hP.sub (ws' := [(z 0, .inr (7, [.int (nI (g 0)), .int (nI (g 1)), .int (nI (g 2)), .int (nI (g 3)), .int (nI (g 4)), .int (nI (g 5)), .int (nI (g 6)), .ref (z 1), .ref (z 2), .ref (z 3), .ref (z 4), .int (nI (g 7)), .ref (z 5), .ref (z 6), .ref (z 7), .ref (z 8), .ref (z 9), .ref (z 10), .int (nI (g 8)), .ref (z 11), .ref (z 12), .ref (z 13), .ref (z 14)])), (z 1, .inl (cI, 5, .inl (aN ww))), (z 8, .inl (cI, 9, .inl (aN sf))), (z 9, .inl (cI, 9, .inl (aN sl))), (z 10, .inl (cI, 45, .inl (aN ss)))]) [0, 1, 2, 3, 4] rfl
          refine ro_calli (va_runV (As := [.int (nI a9), .int (nI b9)]) (rest := [.int (nI ((9 * a9) + b9)), .ref (z 14)]) ⟨hx, hb, hml, hown, hts⟩ (c_MO_movesFrom l dC dI z g cI ww sf sl ss (nu a9) (nu b9) a9 b9 (by omega) (hs a9 (by omega)).1 (hs a9 (by omega)).2.1 (hs a9 (by omega)).2.2 (by omega) (hs b9 (by omega)).1 (hs b9 (by omega)).2.1 (hs b9 (by omega)).2.2) (cwV 2 hts (gw_V m_730 m_732 s_27 m_8 m_733) rfl rfl rfl (by decide +kernel) ⟨Nat.le_of_ble_eq_true rfl, Nat.le_of_ble_eq_true rfl⟩) ⟨ro_blind, va_recv hK hPc (ci := 7) (q0 := 0) rfl rfl, fun U hU hW => ⟨rfl, by rw [hU]; exact hPc, va_K.moved hW.alike hK⟩⟩ rfl rfl hl.1 rfl (lv_room (Nat.le_of_ble_eq_true rfl)) d_MO_plan_33 ⟨Nat.le_of_ble_eq_true rfl, Nat.le_of_ble_eq_true rfl⟩) hS hP (fun r H locs er hP hS => ?_)
          subst er
          refine ix_iast (i := (9 * a9) + b9) hx hb hK hP hD hS 6 0 rfl rfl (by omega) (by decide) d_MO_plan_36 (fun H locs hP hD hS => ?_)
          have hP : va_P (dC, dI) vwCl [(z 0, .inr (7, [.int (nI (g 0)), .int (nI (g 1)), .int (nI (g 2)), .int (nI (g 3)), .int (nI (g 4)), .int (nI (g 5)), .int (nI (g 6)), .ref (z 1), .ref (z 2), .ref (z 3), .ref (z 4), .int (nI (g 7)), .ref (z 5), .ref (z 6), .ref (z 7), .ref (z 8), .ref (z 9), .ref (z 10), .int (nI (g 8)), .ref (z 11), .ref (z 12), .ref (z 13), .ref (z 14)])), (z 1, .inl (cI, 5, .inl (aN ww))), (z 8, .inl (cI, 9, .inl (aN sf))), (z 9, .inl (cI, 9, .inl (aN sl))), (z 10, .inl (cI, 45, .inl (aN ss))), (z 13, .inl (cI, 4608, .inl (aN re))), (z 14, .inl (cI, 81, .inl (aN (up mo ((9 * a9) + b9) (MVm ww sf sl ss nu a9 b9)))))] H := hP
          have hD : va_D A [(z 0, .inr (7, [.int (nI (g 0)), .int (nI (g 1)), .int (nI (g 2)), .int (nI (g 3)), .int (nI (g 4)), .int (nI (g 5)), .int (nI (g 6)), .ref (z 1), .ref (z 2), .ref (z 3), .ref (z 4), .int (nI (g 7)), .ref (z 5), .ref (z 6), .ref (z 7), .ref (z 8), .ref (z 9), .ref (z 10), .int (nI (g 8)), .ref (z 11), .ref (z 12), .ref (z 13), .ref (z 14)])), (z 1, .inl (cI, 5, .inl (aN ww))), (z 8, .inl (cI, 9, .inl (aN sf))), (z 9, .inl (cI, 9, .inl (aN sl))), (z 10, .inl (cI, 45, .inl (aN ss))), (z 13, .inl (cI, 4608, .inl (aN re))), (z 14, .inl (cI, 81, .inl (aN (up mo ((9 * a9) + b9) (MVm ww sf sl ss nu a9 b9)))))] := hD
          refine lv_iinc (v := nI (b9 + 1)) (lv' := [(2, .int (nI (b9 + 1))), (0, .ref (z 0)), (1, .int (nI a9))]) hx hb d_MO_plan_37 hl (k := 2) rfl (n_incN b9 1) (by decide) rfl (fun ls hl => ?_)
          refine lv_goto (tgt := 12) hx hb d_MO_plan_40 (by decide) ?_
          exact ih_lb (b9 + 1) (up mo (9 * a9 + b9) (MVm ww sf sl ss nu a9 b9)) (by omega) (by omega) (mo_put (MV := mo) (F := MVm ww sf sl ss nu) h7 hI (by omega) (by omega)) _ _ _ hP hD hS (lv_sub hl [1, 2, 0] rfl)
      exact lb (g 7 + 1) 0 mo (by omega) (by omega) hI _ _ _ hP hD hS (lv_sub hl [1, 2, 0] rfl)
  exact la (g 7 + 1) 0 mo (by omega) (by omega) (fun a' h1 b' h2 h3 => by omega) _ _ _ hP hD hS (lv_sub hl [1, 0] rfl)
