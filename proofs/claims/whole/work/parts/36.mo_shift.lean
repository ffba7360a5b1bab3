/-- strips from the left on -/
def bgr (ww nu : Nat → Nat) (kf : Nat) : Nat → Nat := bgm ww nu kf
def enr (ww nu : Nat → Nat) (kf : Nat) : Nat → Nat := fun k => bgm ww nu kf k + ww (nu k)
theorem ok_iff {ww nu df dt : Nat → Nat} {kf lf n m L : Nat} : (∀ k, k < n → ∀ d, d < m → ((Em ww nu kf lf k : Int) + ((L : Int) - lf) ≤ df d ∨ (dt d : Int) ≤ Bm ww nu kf lf k + ((L : Int) - lf))) ↔ okL (bgr ww nu kf) (enr ww nu kf) df dt n m L := by
  constructor
  · intro h k hk d hd q
    have := h k hk d hd
    unfold hit at q
    unfold Em Bm at this
    unfold bgr enr at q
    omega
  · intro h k hk d hd
    have q := h k hk d hd
    unfold hit at q
    unfold Em Bm
    unfold bgr enr at q
    omega
set_option maxHeartbeats 4000000 in
set_option maxRecDepth 100000 in
/-- shift(s) -/
theorem c_MO_shift (l : Launch) (dC : Nat → ClassId) (dI : Nat → Nat → Nat) (sz : Nat) (z g : Nat → Nat) (cI : ClassId) (sw sr ww sf sl ss df dt : Nat → Nat) (nu : Nat → Nat → Nat) (h7 : g 7 ≤ 9) (hs : ∀ s, s < g 7 → HW (fun w => ss (5 * s + w)) (nu s) ∧ (∀ w, w < 5 → ss (5 * s + w) ≤ 6) ∧ ∀ k, k < sumN (fun w => ss (5 * s + w)) 5 → Em ww (nu s) (sf s) (sl s) k < 1000000) (hsh : ∀ s, s < g 7 → 1 ≤ sumN (fun w => ss (5 * s + w)) 5 ∧ sl s ≤ 20000 ∧ sw s ≤ 20000 ∧ 2 * sr s + enr ww (nu s) (sf s) (sumN (fun w => ss (5 * s + w)) 5 - 1) ≤ sw s) (h8 : g 8 ≤ 10) (hdf : ∀ d, d < g 8 → df d ≤ 20000 ∧ dt d ≤ 20000) (a1 : Int) (ha1 : -2147483648 ≤ a1 ∧ a1 < 2147483648) : Met l y_MO_shift w_MO_shift { frames := 4, cells := 0, slots := 0, locals := 95 } (rw_Pc (dC, dI) vwCl [(cI, .int)] sz [.ref (z 0), .int (zI a1)] [(z 0, .inr (7, [.int (nI (g 0)), .int (nI (g 1)), .int (nI (g 2)), .int (nI (g 3)), .int (nI (g 4)), .int (nI (g 5)), .int (nI (g 6)), .ref (z 1), .ref (z 2), .ref (z 3), .ref (z 4), .int (nI (g 7)), .ref (z 5), .ref (z 6), .ref (z 7), .ref (z 8), .ref (z 9), .ref (z 10), .int (nI (g 8)), .ref (z 11), .ref (z 12), .ref (z 13), .ref (z 14)])), (z 1, .inl (cI, 5, .inl (aN ww))), (z 5, .inl (cI, 9, .inl (aN sw))), (z 7, .inl (cI, 9, .inl (aN sr))), (z 8, .inl (cI, 9, .inl (aN sf))), (z 9, .inl (cI, 9, .inl (aN sl))), (z 10, .inl (cI, 45, .inl (aN ss))), (z 11, .inl (cI, 10, .inl (aN df))), (z 12, .inl (cI, 10, .inl (aN dt)))]) (va_Qi (fun (r : Int32) (u : Nat × (Nat → Nat)) => (¬ (0 ≤ a1 ∧ a1 < g 7) → u.1 = 1 ∧ u.2 = sl) ∧ ((0 ≤ a1 ∧ a1 < g 7) → ∃ y, SS (bgr ww (nu a1.toNat) (sf a1.toNat)) (enr ww (nu a1.toNat) (sf a1.toNat)) df dt (sumN (fun w => ss (5 * a1.toNat + w)) 5) (g 8) (sr a1.toNat) (sw a1.toNat - sr a1.toNat - enr ww (nu a1.toNat) (sf a1.toNat) ((sumN (fun w => ss (5 * a1.toNat + w)) 5) - 1)) y ∧ (y = -1 → u.1 = 2 ∧ u.2 = sl) ∧ (¬ y = -1 → u.1 = 0 ∧ u.2 = up sl a1.toNat y.toNat ∧ r = zI y))) (rw_B (dC, dI) vwCl [(cI, .int)] (va_A [(z 0, .inr (7, [.int (nI (g 0)), .int (nI (g 1)), .int (nI (g 2)), .int (nI (g 3)), .int (nI (g 4)), .int (nI (g 5)), .int (nI (g 6)), .ref (z 1), .ref (z 2), .ref (z 3), .ref (z 4), .int (nI (g 7)), .ref (z 5), .ref (z 6), .ref (z 7), .ref (z 8), .ref (z 9), .ref (z 10), .int (nI (g 8)), .ref (z 11), .ref (z 12), .ref (z 13), .ref (z 14)])), (z 1, .inl (cI, 5, .inl (aN ww))), (z 5, .inl (cI, 9, .inl (aN sw))), (z 7, .inl (cI, 9, .inl (aN sr))), (z 8, .inl (cI, 9, .inl (aN sf))), (z 9, .inl (cI, 9, .inl (aN sl))), (z 10, .inl (cI, 45, .inl (aN ss))), (z 11, .inl (cI, 10, .inl (aN df))), (z 12, .inl (cI, 10, .inl (aN dt)))] sz) (fun u : Nat × (Nat → Nat) => [(z 0, .inr (7, [.int (nI u.1), .int (nI (g 1)), .int (nI (g 2)), .int (nI (g 3)), .int (nI (g 4)), .int (nI (g 5)), .int (nI (g 6)), .ref (z 1), .ref (z 2), .ref (z 3), .ref (z 4), .int (nI (g 7)), .ref (z 5), .ref (z 6), .ref (z 7), .ref (z 8), .ref (z 9), .ref (z 10), .int (nI (g 8)), .ref (z 11), .ref (z 12), .ref (z 13), .ref (z 14)])), (z 1, .inl (cI, 5, .inl (aN ww))), (z 5, .inl (cI, 9, .inl (aN sw))), (z 7, .inl (cI, 9, .inl (aN sr))), (z 8, .inl (cI, 9, .inl (aN sf))), (z 9, .inl (cI, 9, .inl (aN u.2))), (z 10, .inl (cI, 45, .inl (aN ss))), (z 11, .inl (cI, 10, .inl (aN df))), (z 12, .inl (cI, 10, .inl (aN dt)))])) (va_A [(z 0, .inr (7, [.int (nI (g 0)), .int (nI (g 1)), .int (nI (g 2)), .int (nI (g 3)), .int (nI (g 4)), .int (nI (g 5)), .int (nI (g 6)), .ref (z 1), .ref (z 2), .ref (z 3), .ref (z 4), .int (nI (g 7)), .ref (z 5), .ref (z 6), .ref (z 7), .ref (z 8), .ref (z 9), .ref (z 10), .int (nI (g 8)), .ref (z 11), .ref (z 12), .ref (z 13), .ref (z 14)])), (z 1, .inl (cI, 5, .inl (aN ww))), (z 5, .inl (cI, 9, .inl (aN sw))), (z 7, .inl (cI, 9, .inl (aN sr))), (z 8, .inl (cI, 9, .inl (aN sf))), (z 9, .inl (cI, 9, .inl (aN sl))), (z 10, .inl (cI, 45, .inl (aN ss))), (z 11, .inl (cI, 10, .inl (aN df))), (z 12, .inl (cI, 10, .inl (aN dt)))] sz)) 0 0 (va_A [(z 0, .inr (7, [.int (nI (g 0)), .int (nI (g 1)), .int (nI (g 2)), .int (nI (g 3)), .int (nI (g 4)), .int (nI (g 5)), .int (nI (g 6)), .ref (z 1), .ref (z 2), .ref (z 3), .ref (z 4), .int (nI (g 7)), .ref (z 5), .ref (z 6), .ref (z 7), .ref (z 8), .ref (z 9), .ref (z 10), .int (nI (g 8)), .ref (z 11), .ref (z 12), .ref (z 13), .ref (z 14)])), (z 1, .inl (cI, 5, .inl (aN ww))), (z 5, .inl (cI, 9, .inl (aN sw))), (z 7, .inl (cI, 9, .inl (aN sr))), (z 8, .inl (cI, 9, .inl (aN sf))), (z 9, .inl (cI, 9, .inl (aN sl))), (z 10, .inl (cI, 45, .inl (aN ss))), (z 11, .inl (cI, 10, .inl (aN df))), (z 12, .inl (cI, 10, .inl (aN dt)))] sz) := by
  refine Met.ofW (cc := b_MO_shift) (maxL := 4) (ret := (some .int)) (by decide) rfl ?_
  intro p e s m args below meth c s₁ B hml hv
  obtain ⟨rfl, hsz, hP, hK, hD0⟩ := hv
  have hx := B.exec
  have hb := B.bytes
  have hr := B.returns
  have hts := gw_h (atoms_spec (ws := w_MO_shift) B.pre)
  have hown : s.vm.findClass R_MO = some m.cls := findClass_of_methodNamed B.named
  have hlocks := B.notSynchronized
  subst hsz
  have hD := hD0.self (sz := s.heap.size)
  generalize hAe : va_A [(z 0, .inr (7, [.int (nI (g 0)), .int (nI (g 1)), .int (nI (g 2)), .int (nI (g 3)), .int (nI (g 4)), .int (nI (g 5)), .int (nI (g 6)), .ref (z 1), .ref (z 2), .ref (z 3), .ref (z 4), .int (nI (g 7)), .ref (z 5), .ref (z 6), .ref (z 7), .ref (z 8), .ref (z 9), .ref (z 10), .int (nI (g 8)), .ref (z 11), .ref (z 12), .ref (z 13), .ref (z 14)])), (z 1, .inl (cI, 5, .inl (aN ww))), (z 5, .inl (cI, 9, .inl (aN sw))), (z 7, .inl (cI, 9, .inl (aN sr))), (z 8, .inl (cI, 9, .inl (aN sf))), (z 9, .inl (cI, 9, .inl (aN sl))), (z 10, .inl (cI, 45, .inl (aN ss))), (z 11, .inl (cI, 10, .inl (aN df))), (z 12, .inl (cI, 10, .inl (aN dt)))] s.heap.size = A at hD ⊢
  have hA : ∀ q : Nat, s.heap.size ≤ q → A q := fun q h => by rw [← hAe]; exact Or.inr h
  have hS : va_S A s.heap s.heap [] := va_S.rf
  have hP : va_P (dC, dI) vwCl [(z 0, .inr (7, [.int (nI (g 0)), .int (nI (g 1)), .int (nI (g 2)), .int (nI (g 3)), .int (nI (g 4)), .int (nI (g 5)), .int (nI (g 6)), .ref (z 1), .ref (z 2), .ref (z 3), .ref (z 4), .int (nI (g 7)), .ref (z 5), .ref (z 6), .ref (z 7), .ref (z 8), .ref (z 9), .ref (z 10), .int (nI (g 8)), .ref (z 11), .ref (z 12), .ref (z 13), .ref (z 14)])), (z 1, .inl (cI, 5, .inl (aN ww))), (z 5, .inl (cI, 9, .inl (aN sw))), (z 7, .inl (cI, 9, .inl (aN sr))), (z 8, .inl (cI, 9, .inl (aN sf))), (z 9, .inl (cI, 9, .inl (aN sl))), (z 10, .inl (cI, 45, .inl (aN ss))), (z 11, .inl (cI, 10, .inl (aN df))), (z 12, .inl (cI, 10, .inl (aN dt)))] s.heap := hP
  have hl := lv_entry ([.ref (z 0), .int (zI a1)]) (n := 4) (Nat.le_of_ble_eq_true rfl)
  rw [lg_entry_eq]
  generalize (lg_sl ([.ref (z 0), .int (zI a1)]) ++ List.replicate (4 - (lg_sl ([.ref (z 0), .int (zI a1)])).length) Slot.unset).toArray = ls at hl ⊢
  have hl : lv_has ls 4 [(0, .ref (z 0)), (1, .int (zI a1))] := hl
  refine lv_aload_n hx hb d_MO_shift_0 rfl (lv_at hl 0 rfl) ?_
  refine lv_aload_n hx hb d_MO_shift_1 rfl (lv_at hl 0 rfl) ?_
  refine lv_iload_n hx hb d_MO_shift_2 rfl (lv_at hl 1 rfl) ?_
  have hPc := hP.sub (ws' := [(z 0, .inr (7, [.int (nI (g 0)), .int (nI (g 1)), .int (nI (g 2)), .int (nI (g 3)), .int (nI (g 4)), .int (nI (g 5)), .int (nI (g 6)), .ref (z 1), .ref (z 2), .ref (z 3), .ref (z 4), .int (nI (g 7)), .ref (z 5), .ref (z 6), .ref (z 7), .ref (z 8), .ref (z 9), .ref (z 10), .int (nI (g 8)), .ref (z 11), .ref (z 12), .ref (z 13), .ref (z 14)]))]) [0] rfl
  refine ro_calli (va_runV (As := [.int (zI a1)]) (rest := [.ref (z 0)]) ⟨hx, hb, hml, hown, hts⟩ (c_MO_isSetup l dC dI z g cI a1 ha1 h7) (cwV 1 hts (gw_V m_698 m_700 s_21 m_8 m_701) rfl rfl rfl (by decide +kernel) ⟨Nat.le_of_ble_eq_true rfl, Nat.le_of_ble_eq_true rfl⟩) ⟨ro_blind, va_recv hK hPc (ci := 7) (q0 := 0) rfl rfl, fun U hU hW => ⟨rfl, by rw [hU]; exact hPc, va_K.moved hW.alike hK⟩⟩ rfl rfl hl.1 rfl (lv_room (Nat.le_of_ble_eq_true rfl)) d_MO_shift_3 ⟨Nat.le_of_ble_eq_true rfl, Nat.le_of_ble_eq_true rfl⟩) hS hP (fun r H locs er hP hS => ?_)
  subst er
  have hq3 := @b01_1 (0 ≤ a1 ∧ a1 < (g 7 : Int)) _
  have hr3 := @b01_le (0 ≤ a1 ∧ a1 < (g 7 : Int)) _
  refine ix_if_ne (tgt := 13) hx hb (nI_tI (n := b01 (0 ≤ a1 ∧ a1 < (g 7 : Int))) (by omega)) d_MO_shift_6 (by decide) (fun c_6 => ?_) (fun c_6 => ?_)
  · refine lv_iconst (v := nI 0) hx hb d_MO_shift_13 (by decide +kernel) ?_
    refine lv_iconst (v := nI 0) hx hb d_MO_shift_14 (by decide +kernel) ?_
    have hPc := hP.sub (ws' := [(z 0, .inr (7, [.int (nI (g 0)), .int (nI (g 1)), .int (nI (g 2)), .int (nI (g 3)), .int (nI (g 4)), .int (nI (g 5)), .int (nI (g 6)), .ref (z 1), .ref (z 2), .ref (z 3), .ref (z 4), .int (nI (g 7)), .ref (z 5), .ref (z 6), .ref (z 7), .ref (z 8), .ref (z 9), .ref (z 10), .int (nI (g 8)), .ref (z 11), .ref (z 12), .ref (z 13), .ref (z 14)]))]) [0] rfl
    have hDc := hD.sub (ws' := [(z 0, .inr (7, [.int (nI (g 0)), .int (nI (g 1)), .int (nI (g 2)), .int (nI (g 3)), .int (nI (g 4)), .int (nI (g 5)), .int (nI (g 6)), .ref (z 1), .ref (z 2), .ref (z 3), .ref (z 4), .int (nI (g 7)), .ref (z 5), .ref (z 6), .ref (z 7), .ref (z 8), .ref (z 9), .ref (z 10), .int (nI (g 8)), .ref (z 11), .ref (z 12), .ref (z 13), .ref (z 14)]))]) [0] (by decide) rfl
    have hFc := va_free (wc := [(z 0, .inr (7, [.int (nI (g 0)), .int (nI (g 1)), .int (nI (g 2)), .int (nI (g 3)), .int (nI (g 4)), .int (nI (g 5)), .int (nI (g 6)), .ref (z 1), .ref (z 2), .ref (z 3), .ref (z 4), .int (nI (g 7)), .ref (z 5), .ref (z 6), .ref (z 7), .ref (z 8), .ref (z 9), .ref (z 10), .int (nI (g 8)), .ref (z 11), .ref (z 12), .ref (z 13), .ref (z 14)]))]) hD hS hA [0] rfl
    refine va_calli (va_runV (As := [.int (nI 0), .int (nI 0)]) (rest := []) ⟨hx, hb, hml, hown, hts⟩ (c_MO_throwing l dC dI H.size z g cI 0 0 (by decide) (by decide)) (cwV 2 hts (gw_V m_654 m_656 s_16 m_8 m_657) rfl rfl rfl (by decide +kernel) ⟨Nat.le_of_ble_eq_true rfl, Nat.le_of_ble_eq_true rfl⟩) ⟨rw_blind, va_recv hK hPc (ci := 7) (q0 := 0) rfl rfl, fun U hU hW => ⟨rfl, by rw [hU], by rw [hU]; exact hPc, va_K.moved hW.alike hK, hDc.weaken (fun _ _ _ _ => trivial)⟩⟩ rfl rfl hl.1 rfl (lv_room (Nat.le_of_ble_eq_true rfl)) d_MO_shift_15 ⟨Nat.le_of_ble_eq_true rfl, Nat.le_of_ble_eq_true rfl⟩) hS (fun q _ h => hFc q h) hFc (fun r u t H1 locs ht hvm hw hB hz1 hk1 hS => ?_)
    obtain ⟨th1, rfl⟩ : ∃ z, z = u := ⟨_, rfl⟩
    obtain ⟨hP1, hK1, hD1⟩ := hB
    rw [ht] at hP1
    try dsimp only at hw
    obtain ⟨hP, hD⟩ := va_join (wr := [(z 1, .inl (cI, 5, .inl (aN ww))), (z 5, .inl (cI, 9, .inl (aN sw))), (z 7, .inl (cI, 9, .inl (aN sr))), (z 8, .inl (cI, 9, .inl (aN sf))), (z 9, .inl (cI, 9, .inl (aN sl))), (z 10, .inl (cI, 45, .inl (aN ss))), (z 11, .inl (cI, 10, .inl (aN df))), (z 12, .inl (cI, 10, .inl (aN dt)))]) (w1 := [(z 0, .inr (7, [.int (nI th1), .int (nI (g 1)), .int (nI (g 2)), .int (nI (g 3)), .int (nI (g 4)), .int (nI (g 5)), .int (nI (g 6)), .ref (z 1), .ref (z 2), .ref (z 3), .ref (z 4), .int (nI (g 7)), .ref (z 5), .ref (z 6), .ref (z 7), .ref (z 8), .ref (z 9), .ref (z 10), .int (nI (g 8)), .ref (z 11), .ref (z 12), .ref (z 13), .ref (z 14)]))]) hP hD [0] [1, 2, 3, 4, 5, 6, 7, 8] rfl rfl (by decide) (by decide) hk1 hFc hP1 hD1
    generalize H1 = H at hP hS ⊢
    have hP : va_P (dC, dI) vwCl [(z 0, .inr (7, [.int (nI th1), .int (nI (g 1)), .int (nI (g 2)), .int (nI (g 3)), .int (nI (g 4)), .int (nI (g 5)), .int (nI (g 6)), .ref (z 1), .ref (z 2), .ref (z 3), .ref (z 4), .int (nI (g 7)), .ref (z 5), .ref (z 6), .ref (z 7), .ref (z 8), .ref (z 9), .ref (z 10), .int (nI (g 8)), .ref (z 11), .ref (z 12), .ref (z 13), .ref (z 14)])), (z 1, .inl (cI, 5, .inl (aN ww))), (z 5, .inl (cI, 9, .inl (aN sw))), (z 7, .inl (cI, 9, .inl (aN sr))), (z 8, .inl (cI, 9, .inl (aN sf))), (z 9, .inl (cI, 9, .inl (aN sl))), (z 10, .inl (cI, 45, .inl (aN ss))), (z 11, .inl (cI, 10, .inl (aN df))), (z 12, .inl (cI, 10, .inl (aN dt)))] H := hP.sub [8, 0, 1, 2, 3, 4, 5, 6, 7] rfl
    have hD : va_D A [(z 0, .inr (7, [.int (nI th1), .int (nI (g 1)), .int (nI (g 2)), .int (nI (g 3)), .int (nI (g 4)), .int (nI (g 5)), .int (nI (g 6)), .ref (z 1), .ref (z 2), .ref (z 3), .ref (z 4), .int (nI (g 7)), .ref (z 5), .ref (z 6), .ref (z 7), .ref (z 8), .ref (z 9), .ref (z 10), .int (nI (g 8)), .ref (z 11), .ref (z 12), .ref (z 13), .ref (z 14)])), (z 1, .inl (cI, 5, .inl (aN ww))), (z 5, .inl (cI, 9, .inl (aN sw))), (z 7, .inl (cI, 9, .inl (aN sr))), (z 8, .inl (cI, 9, .inl (aN sf))), (z 9, .inl (cI, 9, .inl (aN sl))), (z 10, .inl (cI, 45, .inl (aN ss))), (z 11, .inl (cI, 10, .inl (aN df))), (z 12, .inl (cI, 10, .inl (aN dt)))] := hD.sub [8, 0, 1, 2, 3, 4, 5, 6, 7] (by decide) rfl
    obtain ⟨rfl, hth⟩ := hw
    have hth : th1 = 0 := hth
    subst hth
    have hP : va_P (dC, dI) vwCl [(z 0, .inr (7, [.int (nI 0), .int (nI (g 1)), .int (nI (g 2)), .int (nI (g 3)), .int (nI (g 4)), .int (nI (g 5)), .int (nI (g 6)), .ref (z 1), .ref (z 2), .ref (z 3), .ref (z 4), .int (nI (g 7)), .ref (z 5), .ref (z 6), .ref (z 7), .ref (z 8), .ref (z 9), .ref (z 10), .int (nI (g 8)), .ref (z 11), .ref (z 12), .ref (z 13), .ref (z 14)])), (z 1, .inl (cI, 5, .inl (aN ww))), (z 5, .inl (cI, 9, .inl (aN sw))), (z 7, .inl (cI, 9, .inl (aN sr))), (z 8, .inl (cI, 9, .inl (aN sf))), (z 9, .inl (cI, 9, .inl (aN sl))), (z 10, .inl (cI, 45, .inl (aN ss))), (z 11, .inl (cI, 10, .inl (aN df))), (z 12, .inl (cI, 10, .inl (aN dt)))] H := hP
    have hD : va_D A [(z 0, .inr (7, [.int (nI 0), .int (nI (g 1)), .int (nI (g 2)), .int (nI (g 3)), .int (nI (g 4)), .int (nI (g 5)), .int (nI (g 6)), .ref (z 1), .ref (z 2), .ref (z 3), .ref (z 4), .int (nI (g 7)), .ref (z 5), .ref (z 6), .ref (z 7), .ref (z 8), .ref (z 9), .ref (z 10), .int (nI (g 8)), .ref (z 11), .ref (z 12), .ref (z 13), .ref (z 14)])), (z 1, .inl (cI, 5, .inl (aN ww))), (z 5, .inl (cI, 9, .inl (aN sw))), (z 7, .inl (cI, 9, .inl (aN sr))), (z 8, .inl (cI, 9, .inl (aN sf))), (z 9, .inl (cI, 9, .inl (aN sl))), (z 10, .inl (cI, 45, .inl (aN ss))), (z 11, .inl (cI, 10, .inl (aN df))), (z 12, .inl (cI, 10, .inl (aN dt)))] := hD
    refine lv_topr (show _ = nI 0 from rfl) ?_
    refine ix_if_eq (tgt := 23) hx hb (nI_tI (n := 0) (by omega)) d_MO_shift_18 (by decide) (fun c_18 => ?_) (fun c_18 => absurd c_18 (by omega))
    obtain ⟨s8, hvs8⟩ : ∃ s : Nat, a1 = s := ⟨a1.toNat, by omega⟩
    subst hvs8
    have hs7s8 : s8 < g 7 := by omega
    have hs9s8 : s8 < 9 := by omega
    have hW9s8 := (hs s8 hs7s8).1
    have hb9s8 := (hs s8 hs7s8).2.1
    have hp9s8 := (hs s8 hs7s8).2.2
    have h30s8 : sumN (fun w => ss (5 * s8 + w)) 5 ≤ 30 := by have h0 := hb9s8 0 (by omega); have h1 := hb9s8 1 (by omega); have h2 := hb9s8 2 (by omega); have h3 := hb9s8 3 (by omega); have h4 := hb9s8 4 (by omega); simp only [sumN]; omega
    have hbbs8 : ∀ w, w < 5 → ss (5 * s8 + w) ≤ 1000 := fun w hw => Nat.le_trans (hb9s8 w hw) (by decide)
    obtain ⟨hsa, hsb, hsc, hsd⟩ := hsh s8 hs7s8
    have hEl := hp9s8 (sumN (fun w => ss (5 * s8 + w)) 5 - 1) (by omega)
    have hEe : Em ww (nu s8) (sf s8) (sl s8) (sumN (fun w => ss (5 * s8 + w)) 5 - 1) = sl s8 + enr ww (nu s8) (sf s8) (sumN (fun w => ss (5 * s8 + w)) 5 - 1) := Nat.add_assoc _ _ _
    refine lv_aload_n hx hb d_MO_shift_23 rfl (lv_at hl 0 rfl) ?_
    refine lv_iload_n hx hb d_MO_shift_24 rfl (lv_at hl 1 rfl) ?_
    refine lv_topr (show _ = nI s8 from z_toN rfl) ?_
    refine lv_aload_n hx hb d_MO_shift_25 rfl (lv_at hl 0 rfl) ?_
    refine lv_iload_n hx hb d_MO_shift_26 rfl (lv_at hl 1 rfl) ?_
    refine lv_topr (show _ = nI s8 from z_toN rfl) ?_
    have hPc := hP.sub (ws' := [(z 0, .inr (7, [.int (nI 0), .int (nI (g 1)), .int (nI (g 2)), .int (nI (g 3)), .int (nI (g 4)), .int (nI (g 5)), .int (nI (g 6)), .ref (z 1), .ref (z 2), .ref (z 3), .ref (z 4), .int (nI (g 7)), .ref (z 5), .ref (z 6), .ref (z 7), .ref (z 8), .ref (z 9), .ref (z 10), .int (nI (g 8)), .ref (z 11), .ref (z 12), .ref (z 13), .ref (z 14)])), (z 10, .inl (cI, 45, .inl (aN ss)))]) [0, 6] rfl
    refine ro_calli (va_runV (As := [.int (nI s8)]) (rest := [.int (nI s8), .ref (z 0)]) ⟨hx, hb, hml, hown, hts⟩ (c_MO_many l dC dI z (up g 0 0) cI ss s8 hs9s8) (cwV 1 hts (gw_V m_702 m_704 s_22 m_8 m_705) rfl rfl rfl (by decide +kernel) ⟨Nat.le_of_ble_eq_true rfl, Nat.le_of_ble_eq_true rfl⟩) ⟨ro_blind, va_recv hK hPc (ci := 7) (q0 := 0) rfl rfl, fun U hU hW => ⟨rfl, by rw [hU]; exact hPc, va_K.moved hW.alike hK⟩⟩ rfl rfl hl.1 rfl (lv_room (Nat.le_of_ble_eq_true rfl)) d_MO_shift_27 ⟨Nat.le_of_ble_eq_true rfl, Nat.le_of_ble_eq_true rfl⟩) hS hP (fun r H locs er hP hS => ?_)
    subst er
    refine lv_iconst (v := nI 1) hx hb d_MO_shift_30 (by decide +kernel) ?_
    refine lv_isub hx hb d_MO_shift_31 ?_
    refine lv_topr (show _ = nI ((sumN (fun w => ss (5 * s8 + w)) 5) - 1) from nn_subN (by omega)) ?_
    have hPc := hP.sub (ws' := [(z 0, .inr (7, [.int (nI 0), .int (nI (g 1)), .int (nI (g 2)), .int (nI (g 3)), .int (nI (g 4)), .int (nI (g 5)), .int (nI (g 6)), .ref (z 1), .ref (z 2), .ref (z 3), .ref (z 4), .int (nI (g 7)), .ref (z 5), .ref (z 6), .ref (z 7), .ref (z 8), .ref (z 9), .ref (z 10), .int (nI (g 8)), .ref (z 11), .ref (z 12), .ref (z 13), .ref (z 14)])), (z 1, .inl (cI, 5, .inl (aN ww))), (z 8, .inl (cI, 9, .inl (aN sf))), (z 9, .inl (cI, 9, .inl (aN sl))), (z 10, .inl (cI, 45, .inl (aN ss)))]) [0, 1, 4, 5, 6] rfl
    refine ro_calli (va_runV (As := [.int (nI s8), .int (nI ((sumN (fun w => ss (5 * s8 + w)) 5) - 1))]) (rest := []) ⟨hx, hb, hml, hown, hts⟩ (c_MO_endOf l dC dI z (up g 0 0) cI ww sf sl ss (nu s8) s8 (sumN (fun w => ss (5 * s8 + w)) 5 - 1) hs9s8 hW9s8 (by omega) hbbs8 (by omega)) (cwV 2 hts (gw_V m_714 m_716 s_25 m_8 m_717) rfl rfl rfl (by decide +kernel) ⟨Nat.le_of_ble_eq_true rfl, Nat.le_of_ble_eq_true rfl⟩) ⟨ro_blind, va_recv hK hPc (ci := 7) (q0 := 0) rfl rfl, fun U hU hW => ⟨rfl, by rw [hU]; exact hPc, va_K.moved hW.alike hK⟩⟩ rfl rfl hl.1 rfl (lv_room (Nat.le_of_ble_eq_true rfl)) d_MO_shift_32 ⟨Nat.le_of_ble_eq_true rfl, Nat.le_of_ble_eq_true rfl⟩) hS hP (fun r H locs er hP hS => ?_)
    subst er
    refine lv_aload_n hx hb d_MO_shift_35 rfl (lv_at hl 0 rfl) ?_
    refine va_get (D := (dC, dI)) (ci := 7) (v := .ref (z 9)) (C := R_MO) (T := F_MO) (N := 23) hx hb hts in_MO hown hK hP 0 rfl rfl 16 (by decide) (hts _ m_588) (fun _ h9 => h9) rfl d_MO_shift_36 ?_
    refine lv_iload_n hx hb d_MO_shift_39 rfl (lv_at hl 1 rfl) ?_
    refine lv_topr (show _ = nI s8 from z_toN rfl) ?_
    refine ix_ialdN (i := s8) hx hb hK hP 5 0 rfl rfl (by omega) (by decide) d_MO_shift_40 ?_
    refine lv_isub hx hb d_MO_shift_41 ?_
    refine lv_topr (show _ = nI ((Em ww (nu s8) (sf s8) (sl s8) (sumN (fun w => ss (5 * s8 + w)) 5 - 1)) - (sl s8)) from nn_subN (by omega)) ?_
    refine lv_topr (show _ = nI (enr ww (nu s8) (sf s8) (sumN (fun w => ss (5 * s8 + w)) 5 - 1)) from congrArg nI (by omega)) ?_
    refine lv_istore_n (lv' := [(2, .int (nI (enr ww (nu s8) (sf s8) (sumN (fun w => ss (5 * s8 + w)) 5 - 1)))), (0, .ref (z 0)), (1, .int (zI (s8 : Int)))]) hx hb d_MO_shift_42 rfl hl (by decide) rfl (fun ls hl => ?_)
    refine lv_aload_n hx hb d_MO_shift_43 rfl (lv_at hl 1 rfl) ?_
    refine va_get (D := (dC, dI)) (ci := 7) (v := .ref (z 7)) (C := R_MO) (T := F_MO) (N := 23) hx hb hts in_MO hown hK hP 0 rfl rfl 14 (by decide) (hts _ m_586) (fun _ h9 => h9) rfl d_MO_shift_44 ?_
    refine lv_iload_n hx hb d_MO_shift_47 rfl (lv_at hl 2 rfl) ?_
    refine lv_topr (show _ = nI s8 from z_toN rfl) ?_
    refine ix_ialdN (i := s8) hx hb hK hP 3 0 rfl rfl (by omega) (by decide) d_MO_shift_48 ?_
    refine lv_istore_n (lv' := [(3, .int (nI (sr s8))), (2, .int (nI (enr ww (nu s8) (sf s8) (sumN (fun w => ss (5 * s8 + w)) 5 - 1)))), (0, .ref (z 0)), (1, .int (zI (s8 : Int)))]) hx hb d_MO_shift_49 rfl hl (by decide) rfl (fun ls hl => ?_)
    have lp : ∀ (n_lp : Nat) (q9 : Nat), (sw s8 + 2 ≤ q9 + n_lp) → (sr s8 ≤ q9) → (q9 ≤ sw s8 + 1) → (∀ L, sr s8 ≤ L → L < q9 → ¬ okL (bgr ww (nu s8) (sf s8)) (enr ww (nu s8) (sf s8)) df dt (sumN (fun w => ss (5 * s8 + w)) 5) (g 8) L) → ∀ (H : Heap) (locs : List Loc) (ls : Array Slot), va_P (dC, dI) vwCl [(z 0, .inr (7, [.int (nI 0), .int (nI (g 1)), .int (nI (g 2)), .int (nI (g 3)), .int (nI (g 4)), .int (nI (g 5)), .int (nI (g 6)), .ref (z 1), .ref (z 2), .ref (z 3), .ref (z 4), .int (nI (g 7)), .ref (z 5), .ref (z 6), .ref (z 7), .ref (z 8), .ref (z 9), .ref (z 10), .int (nI (g 8)), .ref (z 11), .ref (z 12), .ref (z 13), .ref (z 14)])), (z 1, .inl (cI, 5, .inl (aN ww))), (z 5, .inl (cI, 9, .inl (aN sw))), (z 7, .inl (cI, 9, .inl (aN sr))), (z 8, .inl (cI, 9, .inl (aN sf))), (z 9, .inl (cI, 9, .inl (aN sl))), (z 10, .inl (cI, 45, .inl (aN ss))), (z 11, .inl (cI, 10, .inl (aN df))), (z 12, .inl (cI, 10, .inl (aN dt)))] H → va_D A [(z 0, .inr (7, [.int (nI 0), .int (nI (g 1)), .int (nI (g 2)), .int (nI (g 3)), .int (nI (g 4)), .int (nI (g 5)), .int (nI (g 6)), .ref (z 1), .ref (z 2), .ref (z 3), .ref (z 4), .int (nI (g 7)), .ref (z 5), .ref (z 6), .ref (z 7), .ref (z 8), .ref (z 9), .ref (z 10), .int (nI (g 8)), .ref (z 11), .ref (z 12), .ref (z 13), .ref (z 14)])), (z 1, .inl (cI, 5, .inl (aN ww))), (z 5, .inl (cI, 9, .inl (aN sw))), (z 7, .inl (cI, 9, .inl (aN sr))), (z 8, .inl (cI, 9, .inl (aN sf))), (z 9, .inl (cI, 9, .inl (aN sl))), (z 10, .inl (cI, 45, .inl (aN ss))), (z 11, .inl (cI, 10, .inl (aN df))), (z 12, .inl (cI, 10, .inl (aN dt)))] → va_S A s.heap H locs → lv_has ls 4 [(0, .ref (z 0)), (1, .int (zI (s8 : Int))), (2, .int (nI (enr ww (nu s8) (sf s8) (sumN (fun w => ss (5 * s8 + w)) 5 - 1)))), (3, .int (nI q9))] → W p l e (headSpec w_MO_shift { frames := 4, cells := 0, slots := 0, locals := 95 }).room s m [.ref (z 0), .int (zI (s8 : Int))].toArray below meth c H locs 0 0 (MQ below (va_Qi (fun (r : Int32) (u : Nat × (Nat → Nat)) => (¬ (0 ≤ (s8 : Int) ∧ (s8 : Int) < g 7) → u.1 = 1 ∧ u.2 = sl) ∧ ((0 ≤ (s8 : Int) ∧ (s8 : Int) < g 7) → ∃ y, SS (bgr ww (nu (s8 : Int).toNat) (sf (s8 : Int).toNat)) (enr ww (nu (s8 : Int).toNat) (sf (s8 : Int).toNat)) df dt (sumN (fun w => ss (5 * (s8 : Int).toNat + w)) 5) (g 8) (sr (s8 : Int).toNat) (sw (s8 : Int).toNat - sr (s8 : Int).toNat - enr ww (nu (s8 : Int).toNat) (sf (s8 : Int).toNat) ((sumN (fun w => ss (5 * (s8 : Int).toNat + w)) 5) - 1)) y ∧ (y = -1 → u.1 = 2 ∧ u.2 = sl) ∧ (¬ y = -1 → u.1 = 0 ∧ u.2 = up sl (s8 : Int).toNat y.toNat ∧ r = zI y))) (rw_B (dC, dI) vwCl [(cI, .int)] A (fun u : Nat × (Nat → Nat) => [(z 0, .inr (7, [.int (nI u.1), .int (nI (g 1)), .int (nI (g 2)), .int (nI (g 3)), .int (nI (g 4)), .int (nI (g 5)), .int (nI (g 6)), .ref (z 1), .ref (z 2), .ref (z 3), .ref (z 4), .int (nI (g 7)), .ref (z 5), .ref (z 6), .ref (z 7), .ref (z 8), .ref (z 9), .ref (z 10), .int (nI (g 8)), .ref (z 11), .ref (z 12), .ref (z 13), .ref (z 14)])), (z 1, .inl (cI, 5, .inl (aN ww))), (z 5, .inl (cI, 9, .inl (aN sw))), (z 7, .inl (cI, 9, .inl (aN sr))), (z 8, .inl (cI, 9, .inl (aN sf))), (z 9, .inl (cI, 9, .inl (aN u.2))), (z 10, .inl (cI, 45, .inl (aN ss))), (z 11, .inl (cI, 10, .inl (aN df))), (z 12, .inl (cI, 10, .inl (aN dt)))])) A) [.ref (z 0), .int (zI (s8 : Int))].toArray s 0 0 A) (F0 m 50 ls []) := by
      intro n_lp
      induction n_lp with
      | zero =>
        intro q9 hm hq9 hqb hno
        exact absurd hm (by omega)
      | succ n_lp ih_lp =>
        intro q9 hm hq9 hqb hno H locs ls hP hD hS hl
        refine lv_iload_n hx hb d_MO_shift_50 rfl (lv_at hl 3 rfl) ?_
        refine lv_iload_n hx hb d_MO_shift_51 rfl (lv_at hl 2 rfl) ?_
        refine lv_iadd hx hb d_MO_shift_52 ?_
        refine lv_topr (show _ = nI (q9 + (enr ww (nu s8) (sf s8) (sumN (fun w => ss (5 * s8 + w)) 5 - 1))) from nn_add _ _) ?_
        refine lv_aload_n hx hb d_MO_shift_53 rfl (lv_at hl 0 rfl) ?_
        refine va_get (D := (dC, dI)) (ci := 7) (v := .ref (z 7)) (C := R_MO) (T := F_MO) (N := 23) hx hb hts in_MO hown hK hP 0 rfl rfl 14 (by decide) (hts _ m_586) (fun _ h9 => h9) rfl d_MO_shift_54 ?_
        refine lv_iload_n hx hb d_MO_shift_57 rfl (lv_at hl 1 rfl) ?_
        refine lv_topr (show _ = nI s8 from z_toN rfl) ?_
        refine ix_ialdN (i := s8) hx hb hK hP 3 0 rfl rfl (by omega) (by decide) d_MO_shift_58 ?_
        refine lv_iadd hx hb d_MO_shift_59 ?_
        refine lv_topr (show _ = nI ((q9 + (enr ww (nu s8) (sf s8) (sumN (fun w => ss (5 * s8 + w)) 5 - 1))) + (sr s8)) from nn_add _ _) ?_
        refine lv_aload_n hx hb d_MO_shift_60 rfl (lv_at hl 0 rfl) ?_
        refine va_get (D := (dC, dI)) (ci := 7) (v := .ref (z 5)) (C := R_MO) (T := F_MO) (N := 23) hx hb hts in_MO hown hK hP 0 rfl rfl 12 (by decide) (hts _ m_584) (fun _ h9 => h9) rfl d_MO_shift_61 ?_
        refine lv_iload_n hx hb d_MO_shift_64 rfl (lv_at hl 1 rfl) ?_
        refine lv_topr (show _ = nI s8 from z_toN rfl) ?_
        refine ix_ialdN (i := s8) hx hb hK hP 2 0 rfl rfl (by omega) (by decide) d_MO_shift_65 ?_
        refine ix_icmp_gt (tgt := 91) hx hb (nI_tI (n := (q9 + (enr ww (nu s8) (sf s8) (sumN (fun w => ss (5 * s8 + w)) 5 - 1))) + (sr s8)) (by omega)) (nI_tI (n := sw s8) (by omega)) d_MO_shift_66 (by decide) (fun c_66 => ?_) (fun c_66 => ?_)
        · refine lv_aload_n hx hb d_MO_shift_91 rfl (lv_at hl 0 rfl) ?_
          refine lv_iconst (v := nI 0) hx hb d_MO_shift_92 (by decide +kernel) ?_
          refine lv_iload_n hx hb d_MO_shift_93 rfl (lv_at hl 3 rfl) ?_
          refine lv_iload_n hx hb d_MO_shift_94 rfl (lv_at hl 2 rfl) ?_
          refine lv_iadd hx hb d_MO_shift_95 ?_
          refine lv_topr (show _ = nI (q9 + (enr ww (nu s8) (sf s8) (sumN (fun w => ss (5 * s8 + w)) 5 - 1))) from nn_add _ _) ?_
          refine lv_aload_n hx hb d_MO_shift_96 rfl (lv_at hl 0 rfl) ?_
          refine va_get (D := (dC, dI)) (ci := 7) (v := .ref (z 7)) (C := R_MO) (T := F_MO) (N := 23) hx hb hts in_MO hown hK hP 0 rfl rfl 14 (by decide) (hts _ m_586) (fun _ h9 => h9) rfl d_MO_shift_97 ?_
          refine lv_iload_n hx hb d_MO_shift_100 rfl (lv_at hl 1 rfl) ?_
          refine lv_topr (show _ = nI s8 from z_toN rfl) ?_
          refine ix_ialdN (i := s8) hx hb hK hP 3 0 rfl rfl (by omega) (by decide) d_MO_shift_101 ?_
          refine lv_iadd hx hb d_MO_shift_102 ?_
          refine lv_topr (show _ = nI ((q9 + (enr ww (nu s8) (sf s8) (sumN (fun w => ss (5 * s8 + w)) 5 - 1))) + (sr s8)) from nn_add _ _) ?_
          refine lv_aload_n hx hb d_MO_shift_103 rfl (lv_at hl 0 rfl) ?_
          refine va_get (D := (dC, dI)) (ci := 7) (v := .ref (z 5)) (C := R_MO) (T := F_MO) (N := 23) hx hb hts in_MO hown hK hP 0 rfl rfl 12 (by decide) (hts _ m_584) (fun _ h9 => h9) rfl d_MO_shift_104 ?_
          refine lv_iload_n hx hb d_MO_shift_107 rfl (lv_at hl 1 rfl) ?_
          refine lv_topr (show _ = nI s8 from z_toN rfl) ?_
          refine ix_ialdN (i := s8) hx hb hK hP 2 0 rfl rfl (by omega) (by decide) d_MO_shift_108 ?_
          refine ix_icmp_le (tgt := 116) hx hb (nI_tI (n := (q9 + (enr ww (nu s8) (sf s8) (sumN (fun w => ss (5 * s8 + w)) 5 - 1))) + (sr s8)) (by omega)) (nI_tI (n := sw s8) (by omega)) d_MO_shift_109 (by decide) (fun c_109 => absurd c_109 (by omega)) (fun c_109 => ?_)
          refine lv_iconst (v := nI 1) hx hb d_MO_shift_112 (by decide +kernel) ?_
          refine lv_goto (tgt := 117) hx hb d_MO_shift_113 (by decide) ?_
          have hPc := hP.sub (ws' := [(z 0, .inr (7, [.int (nI 0), .int (nI (g 1)), .int (nI (g 2)), .int (nI (g 3)), .int (nI (g 4)), .int (nI (g 5)), .int (nI (g 6)), .ref (z 1), .ref (z 2), .ref (z 3), .ref (z 4), .int (nI (g 7)), .ref (z 5), .ref (z 6), .ref (z 7), .ref (z 8), .ref (z 9), .ref (z 10), .int (nI (g 8)), .ref (z 11), .ref (z 12), .ref (z 13), .ref (z 14)]))]) [0] rfl
          have hDc := hD.sub (ws' := [(z 0, .inr (7, [.int (nI 0), .int (nI (g 1)), .int (nI (g 2)), .int (nI (g 3)), .int (nI (g 4)), .int (nI (g 5)), .int (nI (g 6)), .ref (z 1), .ref (z 2), .ref (z 3), .ref (z 4), .int (nI (g 7)), .ref (z 5), .ref (z 6), .ref (z 7), .ref (z 8), .ref (z 9), .ref (z 10), .int (nI (g 8)), .ref (z 11), .ref (z 12), .ref (z 13), .ref (z 14)]))]) [0] (by decide) rfl
          have hFc := va_free (wc := [(z 0, .inr (7, [.int (nI 0), .int (nI (g 1)), .int (nI (g 2)), .int (nI (g 3)), .int (nI (g 4)), .int (nI (g 5)), .int (nI (g 6)), .ref (z 1), .ref (z 2), .ref (z 3), .ref (z 4), .int (nI (g 7)), .ref (z 5), .ref (z 6), .ref (z 7), .ref (z 8), .ref (z 9), .ref (z 10), .int (nI (g 8)), .ref (z 11), .ref (z 12), .ref (z 13), .ref (z 14)]))]) hD hS hA [0] rfl
          refine va_calli (va_runV (As := [.int (nI 0), .int (nI 1)]) (rest := []) ⟨hx, hb, hml, hown, hts⟩ (c_MO_throwing l dC dI H.size z (up g 0 0) cI 0 1 (by decide) (by decide)) (cwV 2 hts (gw_V m_654 m_656 s_16 m_8 m_657) rfl rfl rfl (by decide +kernel) ⟨Nat.le_of_ble_eq_true rfl, Nat.le_of_ble_eq_true rfl⟩) ⟨rw_blind, va_recv hK hPc (ci := 7) (q0 := 0) rfl rfl, fun U hU hW => ⟨rfl, by rw [hU], by rw [hU]; exact hPc, va_K.moved hW.alike hK, hDc.weaken (fun _ _ _ _ => trivial)⟩⟩ rfl rfl hl.1 rfl (lv_room (Nat.le_of_ble_eq_true rfl)) d_MO_shift_117 ⟨Nat.le_of_ble_eq_true rfl, Nat.le_of_ble_eq_true rfl⟩) hS (fun q _ h => hFc q h) hFc (fun r u t H1 locs ht hvm hw hB hz1 hk1 hS => ?_)
          obtain ⟨th1, rfl⟩ : ∃ z, z = u := ⟨_, rfl⟩
          obtain ⟨hP1, hK1, hD1⟩ := hB
          rw [ht] at hP1
          try dsimp only at hw
          obtain ⟨hP, hD⟩ := va_join (wr := [(z 1, .inl (cI, 5, .inl (aN ww))), (z 5, .inl (cI, 9, .inl (aN sw))), (z 7, .inl (cI, 9, .inl (aN sr))), (z 8, .inl (cI, 9, .inl (aN sf))), (z 9, .inl (cI, 9, .inl (aN sl))), (z 10, .inl (cI, 45, .inl (aN ss))), (z 11, .inl (cI, 10, .inl (aN df))), (z 12, .inl (cI, 10, .inl (aN dt)))]) (w1 := [(z 0, .inr (7, [.int (nI th1), .int (nI (g 1)), .int (nI (g 2)), .int (nI (g 3)), .int (nI (g 4)), .int (nI (g 5)), .int (nI (g 6)), .ref (z 1), .ref (z 2), .ref (z 3), .ref (z 4), .int (nI (g 7)), .ref (z 5), .ref (z 6), .ref (z 7), .ref (z 8), .ref (z 9), .ref (z 10), .int (nI (g 8)), .ref (z 11), .ref (z 12), .ref (z 13), .ref (z 14)]))]) hP hD [0] [1, 2, 3, 4, 5, 6, 7, 8] rfl rfl (by decide) (by decide) hk1 hFc hP1 hD1
          generalize H1 = H at hP hS ⊢
          have hP : va_P (dC, dI) vwCl [(z 0, .inr (7, [.int (nI th1), .int (nI (g 1)), .int (nI (g 2)), .int (nI (g 3)), .int (nI (g 4)), .int (nI (g 5)), .int (nI (g 6)), .ref (z 1), .ref (z 2), .ref (z 3), .ref (z 4), .int (nI (g 7)), .ref (z 5), .ref (z 6), .ref (z 7), .ref (z 8), .ref (z 9), .ref (z 10), .int (nI (g 8)), .ref (z 11), .ref (z 12), .ref (z 13), .ref (z 14)])), (z 1, .inl (cI, 5, .inl (aN ww))), (z 5, .inl (cI, 9, .inl (aN sw))), (z 7, .inl (cI, 9, .inl (aN sr))), (z 8, .inl (cI, 9, .inl (aN sf))), (z 9, .inl (cI, 9, .inl (aN sl))), (z 10, .inl (cI, 45, .inl (aN ss))), (z 11, .inl (cI, 10, .inl (aN df))), (z 12, .inl (cI, 10, .inl (aN dt)))] H := hP.sub [8, 0, 1, 2, 3, 4, 5, 6, 7] rfl
          have hD : va_D A [(z 0, .inr (7, [.int (nI th1), .int (nI (g 1)), .int (nI (g 2)), .int (nI (g 3)), .int (nI (g 4)), .int (nI (g 5)), .int (nI (g 6)), .ref (z 1), .ref (z 2), .ref (z 3), .ref (z 4), .int (nI (g 7)), .ref (z 5), .ref (z 6), .ref (z 7), .ref (z 8), .ref (z 9), .ref (z 10), .int (nI (g 8)), .ref (z 11), .ref (z 12), .ref (z 13), .ref (z 14)])), (z 1, .inl (cI, 5, .inl (aN ww))), (z 5, .inl (cI, 9, .inl (aN sw))), (z 7, .inl (cI, 9, .inl (aN sr))), (z 8, .inl (cI, 9, .inl (aN sf))), (z 9, .inl (cI, 9, .inl (aN sl))), (z 10, .inl (cI, 45, .inl (aN ss))), (z 11, .inl (cI, 10, .inl (aN df))), (z 12, .inl (cI, 10, .inl (aN dt)))] := hD.sub [8, 0, 1, 2, 3, 4, 5, 6, 7] (by decide) rfl
          obtain ⟨rfl, hth⟩ := hw
          have hth : th1 = 2 := hth
          subst hth
          have hP : va_P (dC, dI) vwCl [(z 0, .inr (7, [.int (nI 2), .int (nI (g 1)), .int (nI (g 2)), .int (nI (g 3)), .int (nI (g 4)), .int (nI (g 5)), .int (nI (g 6)), .ref (z 1), .ref (z 2), .ref (z 3), .ref (z 4), .int (nI (g 7)), .ref (z 5), .ref (z 6), .ref (z 7), .ref (z 8), .ref (z 9), .ref (z 10), .int (nI (g 8)), .ref (z 11), .ref (z 12), .ref (z 13), .ref (z 14)])), (z 1, .inl (cI, 5, .inl (aN ww))), (z 5, .inl (cI, 9, .inl (aN sw))), (z 7, .inl (cI, 9, .inl (aN sr))), (z 8, .inl (cI, 9, .inl (aN sf))), (z 9, .inl (cI, 9, .inl (aN sl))), (z 10, .inl (cI, 45, .inl (aN ss))), (z 11, .inl (cI, 10, .inl (aN df))), (z 12, .inl (cI, 10, .inl (aN dt)))] H := hP
          have hD : va_D A [(z 0, .inr (7, [.int (nI 2), .int (nI (g 1)), .int (nI (g 2)), .int (nI (g 3)), .int (nI (g 4)), .int (nI (g 5)), .int (nI (g 6)), .ref (z 1), .ref (z 2), .ref (z 3), .ref (z 4), .int (nI (g 7)), .ref (z 5), .ref (z 6), .ref (z 7), .ref (z 8), .ref (z 9), .ref (z 10), .int (nI (g 8)), .ref (z 11), .ref (z 12), .ref (z 13), .ref (z 14)])), (z 1, .inl (cI, 5, .inl (aN ww))), (z 5, .inl (cI, 9, .inl (aN sw))), (z 7, .inl (cI, 9, .inl (aN sr))), (z 8, .inl (cI, 9, .inl (aN sf))), (z 9, .inl (cI, 9, .inl (aN sl))), (z 10, .inl (cI, 45, .inl (aN ss))), (z 11, .inl (cI, 10, .inl (aN df))), (z 12, .inl (cI, 10, .inl (aN dt)))] := hD
          refine lv_topr (show _ = nI 1 from rfl) ?_
          refine ix_if_eq (tgt := 125) hx hb (nI_tI (n := 1) (by omega)) d_MO_shift_120 (by decide) (fun c_120 => absurd c_120 (by omega)) (fun c_120 => ?_)
          refine lv_iconst (v := nI 0) hx hb d_MO_shift_123 (by decide +kernel) ?_
          have hSS : SS (bgr ww (nu s8) (sf s8)) (enr ww (nu s8) (sf s8)) df dt (sumN (fun w => ss (5 * s8 + w)) 5) (g 8) (sr s8) (sw s8 - sr s8 - enr ww (nu s8) (sf s8) (sumN (fun w => ss (5 * s8 + w)) 5 - 1)) (-1) := Or.inr ⟨rfl, fun L h1 h2 => hno L h1 (by omega)⟩
          exact W.iret (v := nI 0) hx hb hr (fun t ht hW => ⟨⟨nI 0, (2, sl), rfl, ⟨fun q => absurd q (by omega), fun _ => ⟨-1, hSS, fun _ => ⟨rfl, rfl⟩, fun q => absurd rfl q⟩⟩, by rw [ht]; exact hP, va_K.moved hW.alike hK, hD⟩, hS.F ht⟩) hS.2.2 d_MO_shift_124
        refine lv_aload_n hx hb d_MO_shift_69 rfl (lv_at hl 0 rfl) ?_
        refine lv_iload_n hx hb d_MO_shift_70 rfl (lv_at hl 1 rfl) ?_
        refine lv_topr (show _ = nI s8 from z_toN rfl) ?_
        refine lv_iload_n hx hb d_MO_shift_71 rfl (lv_at hl 3 rfl) ?_
        refine lv_aload_n hx hb d_MO_shift_72 rfl (lv_at hl 0 rfl) ?_
        refine va_get (D := (dC, dI)) (ci := 7) (v := .ref (z 9)) (C := R_MO) (T := F_MO) (N := 23) hx hb hts in_MO hown hK hP 0 rfl rfl 16 (by decide) (hts _ m_588) (fun _ h9 => h9) rfl d_MO_shift_73 ?_
        refine lv_iload_n hx hb d_MO_shift_76 rfl (lv_at hl 1 rfl) ?_
        refine lv_topr (show _ = nI s8 from z_toN rfl) ?_
        refine ix_ialdN (i := s8) hx hb hK hP 5 0 rfl rfl (by omega) (by decide) d_MO_shift_77 ?_
        refine lv_isub hx hb d_MO_shift_78 ?_
        refine lv_topr (show _ = zI (((q9 : Nat) : Int) - ((sl s8 : Nat) : Int)) from nn_sub _ _) ?_
        refine lv_topr (show _ = zI ((q9 : Int) - (sl s8 : Int)) from congrArg zI (by omega)) ?_
        have hPc := hP.sub (ws' := [(z 0, .inr (7, [.int (nI 0), .int (nI (g 1)), .int (nI (g 2)), .int (nI (g 3)), .int (nI (g 4)), .int (nI (g 5)), .int (nI (g 6)), .ref (z 1), .ref (z 2), .ref (z 3), .ref (z 4), .int (nI (g 7)), .ref (z 5), .ref (z 6), .ref (z 7), .ref (z 8), .ref (z 9), .ref (z 10), .int (nI (g 8)), .ref (z 11), .ref (z 12), .ref (z 13), .ref (z 14)])), (z 1, .inl (cI, 5, .inl (aN ww))), (z 8, .inl (cI, 9, .inl (aN sf))), (z 9, .inl (cI, 9, .inl (aN sl))), (z 10, .inl (cI, 45, .inl (aN ss))), (z 11, .inl (cI, 10, .inl (aN df))), (z 12, .inl (cI, 10, .inl (aN dt)))]) [0, 1, 4, 5, 6, 7, 8] rfl
        refine ro_calli (va_runV (As := [.int (nI s8), .int (zI ((q9 : Int) - (sl s8 : Int)))]) (rest := []) ⟨hx, hb, hml, hown, hts⟩ (c_MO_isSound l dC dI z (up g 0 0) cI ww sf sl ss df dt (nu s8) s8 ((q9 : Int) - (sl s8 : Int)) (by omega) h8 hdf hs9s8 hW9s8 hb9s8 hp9s8) (cwV 2 hts (gw_V m_762 m_764 s_30 m_8 m_765) rfl rfl rfl (by decide +kernel) ⟨Nat.le_of_ble_eq_true rfl, Nat.le_of_ble_eq_true rfl⟩) ⟨ro_blind, va_recv hK hPc (ci := 7) (q0 := 0) rfl rfl, fun U hU hW => ⟨rfl, by rw [hU]; exact hPc, va_K.moved hW.alike hK⟩⟩ rfl rfl hl.1 rfl (lv_room (Nat.le_of_ble_eq_true rfl)) d_MO_shift_79 ⟨Nat.le_of_ble_eq_true rfl, Nat.le_of_ble_eq_true rfl⟩) hS hP (fun r H locs er hP hS => ?_)
        obtain ⟨v9, rfl, hv9, hvi⟩ := er
        have hvi := hvi.trans ok_iff
        refine ix_if_ne (tgt := 91) hx hb (nI_tI (n := v9) (by omega)) d_MO_shift_82 (by decide) (fun c_82 => ?_) (fun c_82 => ?_)
        · refine lv_aload_n hx hb d_MO_shift_91 rfl (lv_at hl 0 rfl) ?_
          refine lv_iconst (v := nI 0) hx hb d_MO_shift_92 (by decide +kernel) ?_
          refine lv_iload_n hx hb d_MO_shift_93 rfl (lv_at hl 3 rfl) ?_
          refine lv_iload_n hx hb d_MO_shift_94 rfl (lv_at hl 2 rfl) ?_
          refine lv_iadd hx hb d_MO_shift_95 ?_
          refine lv_topr (show _ = nI (q9 + (enr ww (nu s8) (sf s8) (sumN (fun w => ss (5 * s8 + w)) 5 - 1))) from nn_add _ _) ?_
          refine lv_aload_n hx hb d_MO_shift_96 rfl (lv_at hl 0 rfl) ?_
          refine va_get (D := (dC, dI)) (ci := 7) (v := .ref (z 7)) (C := R_MO) (T := F_MO) (N := 23) hx hb hts in_MO hown hK hP 0 rfl rfl 14 (by decide) (hts _ m_586) (fun _ h9 => h9) rfl d_MO_shift_97 ?_
          refine lv_iload_n hx hb d_MO_shift_100 rfl (lv_at hl 1 rfl) ?_
          refine lv_topr (show _ = nI s8 from z_toN rfl) ?_
          refine ix_ialdN (i := s8) hx hb hK hP 3 0 rfl rfl (by omega) (by decide) d_MO_shift_101 ?_
          refine lv_iadd hx hb d_MO_shift_102 ?_
          refine lv_topr (show _ = nI ((q9 + (enr ww (nu s8) (sf s8) (sumN (fun w => ss (5 * s8 + w)) 5 - 1))) + (sr s8)) from nn_add _ _) ?_
          refine lv_aload_n hx hb d_MO_shift_103 rfl (lv_at hl 0 rfl) ?_
          refine va_get (D := (dC, dI)) (ci := 7) (v := .ref (z 5)) (C := R_MO) (T := F_MO) (N := 23) hx hb hts in_MO hown hK hP 0 rfl rfl 12 (by decide) (hts _ m_584) (fun _ h9 => h9) rfl d_MO_shift_104 ?_
          refine lv_iload_n hx hb d_MO_shift_107 rfl (lv_at hl 1 rfl) ?_
          refine lv_topr (show _ = nI s8 from z_toN rfl) ?_
          refine ix_ialdN (i := s8) hx hb hK hP 2 0 rfl rfl (by omega) (by decide) d_MO_shift_108 ?_
          refine ix_icmp_le (tgt := 116) hx hb (nI_tI (n := (q9 + (enr ww (nu s8) (sf s8) (sumN (fun w => ss (5 * s8 + w)) 5 - 1))) + (sr s8)) (by omega)) (nI_tI (n := sw s8) (by omega)) d_MO_shift_109 (by decide) (fun c_109 => ?_) (fun c_109 => absurd c_109 (by omega))
          refine lv_iconst (v := nI 0) hx hb d_MO_shift_116 (by decide +kernel) ?_
          have hPc := hP.sub (ws' := [(z 0, .inr (7, [.int (nI 0), .int (nI (g 1)), .int (nI (g 2)), .int (nI (g 3)), .int (nI (g 4)), .int (nI (g 5)), .int (nI (g 6)), .ref (z 1), .ref (z 2), .ref (z 3), .ref (z 4), .int (nI (g 7)), .ref (z 5), .ref (z 6), .ref (z 7), .ref (z 8), .ref (z 9), .ref (z 10), .int (nI (g 8)), .ref (z 11), .ref (z 12), .ref (z 13), .ref (z 14)]))]) [0] rfl
          have hDc := hD.sub (ws' := [(z 0, .inr (7, [.int (nI 0), .int (nI (g 1)), .int (nI (g 2)), .int (nI (g 3)), .int (nI (g 4)), .int (nI (g 5)), .int (nI (g 6)), .ref (z 1), .ref (z 2), .ref (z 3), .ref (z 4), .int (nI (g 7)), .ref (z 5), .ref (z 6), .ref (z 7), .ref (z 8), .ref (z 9), .ref (z 10), .int (nI (g 8)), .ref (z 11), .ref (z 12), .ref (z 13), .ref (z 14)]))]) [0] (by decide) rfl
          have hFc := va_free (wc := [(z 0, .inr (7, [.int (nI 0), .int (nI (g 1)), .int (nI (g 2)), .int (nI (g 3)), .int (nI (g 4)), .int (nI (g 5)), .int (nI (g 6)), .ref (z 1), .ref (z 2), .ref (z 3), .ref (z 4), .int (nI (g 7)), .ref (z 5), .ref (z 6), .ref (z 7), .ref (z 8), .ref (z 9), .ref (z 10), .int (nI (g 8)), .ref (z 11), .ref (z 12), .ref (z 13), .ref (z 14)]))]) hD hS hA [0] rfl
          refine va_calli (va_runV (As := [.int (nI 0), .int (nI 0)]) (rest := []) ⟨hx, hb, hml, hown, hts⟩ (c_MO_throwing l dC dI H.size z (up g 0 0) cI 0 0 (by decide) (by decide)) (cwV 2 hts (gw_V m_654 m_656 s_16 m_8 m_657) rfl rfl rfl (by decide +kernel) ⟨Nat.le_of_ble_eq_true rfl, Nat.le_of_ble_eq_true rfl⟩) ⟨rw_blind, va_recv hK hPc (ci := 7) (q0 := 0) rfl rfl, fun U hU hW => ⟨rfl, by rw [hU], by rw [hU]; exact hPc, va_K.moved hW.alike hK, hDc.weaken (fun _ _ _ _ => trivial)⟩⟩ rfl rfl hl.1 rfl (lv_room (Nat.le_of_ble_eq_true rfl)) d_MO_shift_117 ⟨Nat.le_of_ble_eq_true rfl, Nat.le_of_ble_eq_true rfl⟩) hS (fun q _ h => hFc q h) hFc (fun r u t H1 locs ht hvm hw hB hz1 hk1 hS => ?_)
          obtain ⟨th1, rfl⟩ : ∃ z, z = u := ⟨_, rfl⟩
          obtain ⟨hP1, hK1, hD1⟩ := hB
          rw [ht] at hP1
          try dsimp only at hw
          obtain ⟨hP, hD⟩ := va_join (wr := [(z 1, .inl (cI, 5, .inl (aN ww))), (z 5, .inl (cI, 9, .inl (aN sw))), (z 7, .inl (cI, 9, .inl (aN sr))), (z 8, .inl (cI, 9, .inl (aN sf))), (z 9, .inl (cI, 9, .inl (aN sl))), (z 10, .inl (cI, 45, .inl (aN ss))), (z 11, .inl (cI, 10, .inl (aN df))), (z 12, .inl (cI, 10, .inl (aN dt)))]) (w1 := [(z 0, .inr (7, [.int (nI th1), .int (nI (g 1)), .int (nI (g 2)), .int (nI (g 3)), .int (nI (g 4)), .int (nI (g 5)), .int (nI (g 6)), .ref (z 1), .ref (z 2), .ref (z 3), .ref (z 4), .int (nI (g 7)), .ref (z 5), .ref (z 6), .ref (z 7), .ref (z 8), .ref (z 9), .ref (z 10), .int (nI (g 8)), .ref (z 11), .ref (z 12), .ref (z 13), .ref (z 14)]))]) hP hD [0] [1, 2, 3, 4, 5, 6, 7, 8] rfl rfl (by decide) (by decide) hk1 hFc hP1 hD1
          generalize H1 = H at hP hS ⊢
          have hP : va_P (dC, dI) vwCl [(z 0, .inr (7, [.int (nI th1), .int (nI (g 1)), .int (nI (g 2)), .int (nI (g 3)), .int (nI (g 4)), .int (nI (g 5)), .int (nI (g 6)), .ref (z 1), .ref (z 2), .ref (z 3), .ref (z 4), .int (nI (g 7)), .ref (z 5), .ref (z 6), .ref (z 7), .ref (z 8), .ref (z 9), .ref (z 10), .int (nI (g 8)), .ref (z 11), .ref (z 12), .ref (z 13), .ref (z 14)])), (z 1, .inl (cI, 5, .inl (aN ww))), (z 5, .inl (cI, 9, .inl (aN sw))), (z 7, .inl (cI, 9, .inl (aN sr))), (z 8, .inl (cI, 9, .inl (aN sf))), (z 9, .inl (cI, 9, .inl (aN sl))), (z 10, .inl (cI, 45, .inl (aN ss))), (z 11, .inl (cI, 10, .inl (aN df))), (z 12, .inl (cI, 10, .inl (aN dt)))] H := hP.sub [8, 0, 1, 2, 3, 4, 5, 6, 7] rfl
          have hD : va_D A [(z 0, .inr (7, [.int (nI th1), .int (nI (g 1)), .int (nI (g 2)), .int (nI (g 3)), .int (nI (g 4)), .int (nI (g 5)), .int (nI (g 6)), .ref (z 1), .ref (z 2), .ref (z 3), .ref (z 4), .int (nI (g 7)), .ref (z 5), .ref (z 6), .ref (z 7), .ref (z 8), .ref (z 9), .ref (z 10), .int (nI (g 8)), .ref (z 11), .ref (z 12), .ref (z 13), .ref (z 14)])), (z 1, .inl (cI, 5, .inl (aN ww))), (z 5, .inl (cI, 9, .inl (aN sw))), (z 7, .inl (cI, 9, .inl (aN sr))), (z 8, .inl (cI, 9, .inl (aN sf))), (z 9, .inl (cI, 9, .inl (aN sl))), (z 10, .inl (cI, 45, .inl (aN ss))), (z 11, .inl (cI, 10, .inl (aN df))), (z 12, .inl (cI, 10, .inl (aN dt)))] := hD.sub [8, 0, 1, 2, 3, 4, 5, 6, 7] (by decide) rfl
          obtain ⟨rfl, hth⟩ := hw
          have hth : th1 = 0 := hth
          subst hth
          have hP : va_P (dC, dI) vwCl [(z 0, .inr (7, [.int (nI 0), .int (nI (g 1)), .int (nI (g 2)), .int (nI (g 3)), .int (nI (g 4)), .int (nI (g 5)), .int (nI (g 6)), .ref (z 1), .ref (z 2), .ref (z 3), .ref (z 4), .int (nI (g 7)), .ref (z 5), .ref (z 6), .ref (z 7), .ref (z 8), .ref (z 9), .ref (z 10), .int (nI (g 8)), .ref (z 11), .ref (z 12), .ref (z 13), .ref (z 14)])), (z 1, .inl (cI, 5, .inl (aN ww))), (z 5, .inl (cI, 9, .inl (aN sw))), (z 7, .inl (cI, 9, .inl (aN sr))), (z 8, .inl (cI, 9, .inl (aN sf))), (z 9, .inl (cI, 9, .inl (aN sl))), (z 10, .inl (cI, 45, .inl (aN ss))), (z 11, .inl (cI, 10, .inl (aN df))), (z 12, .inl (cI, 10, .inl (aN dt)))] H := hP
          have hD : va_D A [(z 0, .inr (7, [.int (nI 0), .int (nI (g 1)), .int (nI (g 2)), .int (nI (g 3)), .int (nI (g 4)), .int (nI (g 5)), .int (nI (g 6)), .ref (z 1), .ref (z 2), .ref (z 3), .ref (z 4), .int (nI (g 7)), .ref (z 5), .ref (z 6), .ref (z 7), .ref (z 8), .ref (z 9), .ref (z 10), .int (nI (g 8)), .ref (z 11), .ref (z 12), .ref (z 13), .ref (z 14)])), (z 1, .inl (cI, 5, .inl (aN ww))), (z 5, .inl (cI, 9, .inl (aN sw))), (z 7, .inl (cI, 9, .inl (aN sr))), (z 8, .inl (cI, 9, .inl (aN sf))), (z 9, .inl (cI, 9, .inl (aN sl))), (z 10, .inl (cI, 45, .inl (aN ss))), (z 11, .inl (cI, 10, .inl (aN df))), (z 12, .inl (cI, 10, .inl (aN dt)))] := hD
          refine lv_topr (show _ = nI 0 from rfl) ?_
          refine ix_if_eq (tgt := 125) hx hb (nI_tI (n := 0) (by omega)) d_MO_shift_120 (by decide) (fun c_120 => ?_) (fun c_120 => absurd c_120 (by omega))
          refine lv_aload_n hx hb d_MO_shift_125 rfl (lv_at hl 0 rfl) ?_
          refine va_get (D := (dC, dI)) (ci := 7) (v := .ref (z 9)) (C := R_MO) (T := F_MO) (N := 23) hx hb hts in_MO hown hK hP 0 rfl rfl 16 (by decide) (hts _ m_588) (fun _ h9 => h9) rfl d_MO_shift_126 ?_
          refine lv_iload_n hx hb d_MO_shift_129 rfl (lv_at hl 1 rfl) ?_
          refine lv_topr (show _ = nI s8 from z_toN rfl) ?_
          refine lv_iload_n hx hb d_MO_shift_130 rfl (lv_at hl 3 rfl) ?_
          refine ix_iast (i := s8) hx hb hK hP hD hS 5 0 rfl rfl (by omega) (by decide) d_MO_shift_131 (fun H locs hP hD hS => ?_)
          have hP : va_P (dC, dI) vwCl [(z 0, .inr (7, [.int (nI 0), .int (nI (g 1)), .int (nI (g 2)), .int (nI (g 3)), .int (nI (g 4)), .int (nI (g 5)), .int (nI (g 6)), .ref (z 1), .ref (z 2), .ref (z 3), .ref (z 4), .int (nI (g 7)), .ref (z 5), .ref (z 6), .ref (z 7), .ref (z 8), .ref (z 9), .ref (z 10), .int (nI (g 8)), .ref (z 11), .ref (z 12), .ref (z 13), .ref (z 14)])), (z 1, .inl (cI, 5, .inl (aN ww))), (z 5, .inl (cI, 9, .inl (aN sw))), (z 7, .inl (cI, 9, .inl (aN sr))), (z 8, .inl (cI, 9, .inl (aN sf))), (z 9, .inl (cI, 9, .inl (aN (up sl s8 q9)))), (z 10, .inl (cI, 45, .inl (aN ss))), (z 11, .inl (cI, 10, .inl (aN df))), (z 12, .inl (cI, 10, .inl (aN dt)))] H := hP
          have hD : va_D A [(z 0, .inr (7, [.int (nI 0), .int (nI (g 1)), .int (nI (g 2)), .int (nI (g 3)), .int (nI (g 4)), .int (nI (g 5)), .int (nI (g 6)), .ref (z 1), .ref (z 2), .ref (z 3), .ref (z 4), .int (nI (g 7)), .ref (z 5), .ref (z 6), .ref (z 7), .ref (z 8), .ref (z 9), .ref (z 10), .int (nI (g 8)), .ref (z 11), .ref (z 12), .ref (z 13), .ref (z 14)])), (z 1, .inl (cI, 5, .inl (aN ww))), (z 5, .inl (cI, 9, .inl (aN sw))), (z 7, .inl (cI, 9, .inl (aN sr))), (z 8, .inl (cI, 9, .inl (aN sf))), (z 9, .inl (cI, 9, .inl (aN (up sl s8 q9)))), (z 10, .inl (cI, 45, .inl (aN ss))), (z 11, .inl (cI, 10, .inl (aN df))), (z 12, .inl (cI, 10, .inl (aN dt)))] := hD
          refine lv_iload_n hx hb d_MO_shift_132 rfl (lv_at hl 3 rfl) ?_
          have hSS : SS (bgr ww (nu s8) (sf s8)) (enr ww (nu s8) (sf s8)) df dt (sumN (fun w => ss (5 * s8 + w)) 5) (g 8) (sr s8) (sw s8 - sr s8 - enr ww (nu s8) (sf s8) (sumN (fun w => ss (5 * s8 + w)) 5 - 1)) (q9 : Int) := Or.inl ⟨q9, rfl, hq9, by omega, hvi.mp (by omega), fun L h1 h2 => by rcases Nat.lt_or_ge L q9 with h | h; (exact absurd h2 (hno L h1 h)); (exact h)⟩
          refine lv_topr (zI_n q9) ?_
          exact W.iret (v := zI (q9 : Int)) hx hb hr (fun t ht hW => ⟨⟨zI (q9 : Int), (0, up sl s8 q9), rfl, ⟨fun q => absurd q (by omega), fun _ => ⟨(q9 : Int), hSS, fun q => absurd q (by omega), fun _ => ⟨rfl, rfl, rfl⟩⟩⟩, by rw [ht]; exact hP, va_K.moved hW.alike hK, hD⟩, hS.F ht⟩) hS.2.2 d_MO_shift_133
        refine lv_iinc (v := nI (q9 + 1)) (lv' := [(3, .int (nI (q9 + 1))), (0, .ref (z 0)), (1, .int (zI (s8 : Int))), (2, .int (nI (enr ww (nu s8) (sf s8) (sumN (fun w => ss (5 * s8 + w)) 5 - 1))))]) hx hb d_MO_shift_85 hl (k := 3) rfl (n_incN q9 1) (by decide) rfl (fun ls hl => ?_)
        refine lv_goto (tgt := 50) hx hb d_MO_shift_88 (by decide) ?_
        exact ih_lp (q9 + 1) (by omega) (by omega) (by omega) (fun L h1 h2 => by rcases Nat.lt_or_ge L q9 with h | h; (exact hno L h1 h); (rw [show L = q9 by omega]; exact fun q => by have := hvi.mpr q; omega)) _ _ _ hP hD hS (lv_sub hl [1, 2, 3, 0] rfl)
    exact lp (sw s8 + 2) (sr s8) (by omega) (Nat.le_refl _) (by omega) (fun L h1 h2 => by omega) _ _ _ hP hD hS (lv_sub hl [2, 3, 1, 0] rfl)
  refine lv_iconst (v := nI 1) hx hb d_MO_shift_9 (by decide +kernel) ?_
  refine lv_goto (tgt := 14) hx hb d_MO_shift_10 (by decide) ?_
  refine lv_iconst (v := nI 0) hx hb d_MO_shift_14 (by decide +kernel) ?_
  have hPc := hP.sub (ws' := [(z 0, .inr (7, [.int (nI (g 0)), .int (nI (g 1)), .int (nI (g 2)), .int (nI (g 3)), .int (nI (g 4)), .int (nI (g 5)), .int (nI (g 6)), .ref (z 1), .ref (z 2), .ref (z 3), .ref (z 4), .int (nI (g 7)), .ref (z 5), .ref (z 6), .ref (z 7), .ref (z 8), .ref (z 9), .ref (z 10), .int (nI (g 8)), .ref (z 11), .ref (z 12), .ref (z 13), .ref (z 14)]))]) [0] rfl
  have hDc := hD.sub (ws' := [(z 0, .inr (7, [.int (nI (g 0)), .int (nI (g 1)), .int (nI (g 2)), .int (nI (g 3)), .int (nI (g 4)), .int (nI (g 5)), .int (nI (g 6)), .ref (z 1), .ref (z 2), .ref (z 3), .ref (z 4), .int (nI (g 7)), .ref (z 5), .ref (z 6), .ref (z 7), .ref (z 8), .ref (z 9), .ref (z 10), .int (nI (g 8)), .ref (z 11), .ref (z 12), .ref (z 13), .ref (z 14)]))]) [0] (by decide) rfl
  have hFc := va_free (wc := [(z 0, .inr (7, [.int (nI (g 0)), .int (nI (g 1)), .int (nI (g 2)), .int (nI (g 3)), .int (nI (g 4)), .int (nI (g 5)), .int (nI (g 6)), .ref (z 1), .ref (z 2), .ref (z 3), .ref (z 4), .int (nI (g 7)), .ref (z 5), .ref (z 6), .ref (z 7), .ref (z 8), .ref (z 9), .ref (z 10), .int (nI (g 8)), .ref (z 11), .ref (z 12), .ref (z 13), .ref (z 14)]))]) hD hS hA [0] rfl
  refine va_calli (va_runV (As := [.int (nI 1), .int (nI 0)]) (rest := []) ⟨hx, hb, hml, hown, hts⟩ (c_MO_throwing l dC dI H.size z g cI 1 0 (by decide) (by decide)) (cwV 2 hts (gw_V m_654 m_656 s_16 m_8 m_657) rfl rfl rfl (by decide +kernel) ⟨Nat.le_of_ble_eq_true rfl, Nat.le_of_ble_eq_true rfl⟩) ⟨rw_blind, va_recv hK hPc (ci := 7) (q0 := 0) rfl rfl, fun U hU hW => ⟨rfl, by rw [hU], by rw [hU]; exact hPc, va_K.moved hW.alike hK, hDc.weaken (fun _ _ _ _ => trivial)⟩⟩ rfl rfl hl.1 rfl (lv_room (Nat.le_of_ble_eq_true rfl)) d_MO_shift_15 ⟨Nat.le_of_ble_eq_true rfl, Nat.le_of_ble_eq_true rfl⟩) hS (fun q _ h => hFc q h) hFc (fun r u t H1 locs ht hvm hw hB hz1 hk1 hS => ?_)
  obtain ⟨th1, rfl⟩ : ∃ z, z = u := ⟨_, rfl⟩
  obtain ⟨hP1, hK1, hD1⟩ := hB
  rw [ht] at hP1
  try dsimp only at hw
  obtain ⟨hP, hD⟩ := va_join (wr := [(z 1, .inl (cI, 5, .inl (aN ww))), (z 5, .inl (cI, 9, .inl (aN sw))), (z 7, .inl (cI, 9, .inl (aN sr))), (z 8, .inl (cI, 9, .inl (aN sf))), (z 9, .inl (cI, 9, .inl (aN sl))), (z 10, .inl (cI, 45, .inl (aN ss))), (z 11, .inl (cI, 10, .inl (aN df))), (z 12, .inl (cI, 10, .inl (aN dt)))]) (w1 := [(z 0, .inr (7, [.int (nI th1), .int (nI (g 1)), .int (nI (g 2)), .int (nI (g 3)), .int (nI (g 4)), .int (nI (g 5)), .int (nI (g 6)), .ref (z 1), .ref (z 2), .ref (z 3), .ref (z 4), .int (nI (g 7)), .ref (z 5), .ref (z 6), .ref (z 7), .ref (z 8), .ref (z 9), .ref (z 10), .int (nI (g 8)), .ref (z 11), .ref (z 12), .ref (z 13), .ref (z 14)]))]) hP hD [0] [1, 2, 3, 4, 5, 6, 7, 8] rfl rfl (by decide) (by decide) hk1 hFc hP1 hD1
  generalize H1 = H at hP hS ⊢
  have hP : va_P (dC, dI) vwCl [(z 0, .inr (7, [.int (nI th1), .int (nI (g 1)), .int (nI (g 2)), .int (nI (g 3)), .int (nI (g 4)), .int (nI (g 5)), .int (nI (g 6)), .ref (z 1), .ref (z 2), .ref (z 3), .ref (z 4), .int (nI (g 7)), .ref (z 5), .ref (z 6), .ref (z 7), .ref (z 8), .ref (z 9), .ref (z 10), .int (nI (g 8)), .ref (z 11), .ref (z 12), .ref (z 13), .ref (z 14)])), (z 1, .inl (cI, 5, .inl (aN ww))), (z 5, .inl (cI, 9, .inl (aN sw))), (z 7, .inl (cI, 9, .inl (aN sr))), (z 8, .inl (cI, 9, .inl (aN sf))), (z 9, .inl (cI, 9, .inl (aN sl))), (z 10, .inl (cI, 45, .inl (aN ss))), (z 11, .inl (cI, 10, .inl (aN df))), (z 12, .inl (cI, 10, .inl (aN dt)))] H := hP.sub [8, 0, 1, 2, 3, 4, 5, 6, 7] rfl
  have hD : va_D A [(z 0, .inr (7, [.int (nI th1), .int (nI (g 1)), .int (nI (g 2)), .int (nI (g 3)), .int (nI (g 4)), .int (nI (g 5)), .int (nI (g 6)), .ref (z 1), .ref (z 2), .ref (z 3), .ref (z 4), .int (nI (g 7)), .ref (z 5), .ref (z 6), .ref (z 7), .ref (z 8), .ref (z 9), .ref (z 10), .int (nI (g 8)), .ref (z 11), .ref (z 12), .ref (z 13), .ref (z 14)])), (z 1, .inl (cI, 5, .inl (aN ww))), (z 5, .inl (cI, 9, .inl (aN sw))), (z 7, .inl (cI, 9, .inl (aN sr))), (z 8, .inl (cI, 9, .inl (aN sf))), (z 9, .inl (cI, 9, .inl (aN sl))), (z 10, .inl (cI, 45, .inl (aN ss))), (z 11, .inl (cI, 10, .inl (aN df))), (z 12, .inl (cI, 10, .inl (aN dt)))] := hD.sub [8, 0, 1, 2, 3, 4, 5, 6, 7] (by decide) rfl
  obtain ⟨rfl, hth⟩ := hw
  have hth : th1 = 1 := hth
  subst hth
  have hP : va_P (dC, dI) vwCl [(z 0, .inr (7, [.int (nI 1), .int (nI (g 1)), .int (nI (g 2)), .int (nI (g 3)), .int (nI (g 4)), .int (nI (g 5)), .int (nI (g 6)), .ref (z 1), .ref (z 2), .ref (z 3), .ref (z 4), .int (nI (g 7)), .ref (z 5), .ref (z 6), .ref (z 7), .ref (z 8), .ref (z 9), .ref (z 10), .int (nI (g 8)), .ref (z 11), .ref (z 12), .ref (z 13), .ref (z 14)])), (z 1, .inl (cI, 5, .inl (aN ww))), (z 5, .inl (cI, 9, .inl (aN sw))), (z 7, .inl (cI, 9, .inl (aN sr))), (z 8, .inl (cI, 9, .inl (aN sf))), (z 9, .inl (cI, 9, .inl (aN sl))), (z 10, .inl (cI, 45, .inl (aN ss))), (z 11, .inl (cI, 10, .inl (aN df))), (z 12, .inl (cI, 10, .inl (aN dt)))] H := hP
  have hD : va_D A [(z 0, .inr (7, [.int (nI 1), .int (nI (g 1)), .int (nI (g 2)), .int (nI (g 3)), .int (nI (g 4)), .int (nI (g 5)), .int (nI (g 6)), .ref (z 1), .ref (z 2), .ref (z 3), .ref (z 4), .int (nI (g 7)), .ref (z 5), .ref (z 6), .ref (z 7), .ref (z 8), .ref (z 9), .ref (z 10), .int (nI (g 8)), .ref (z 11), .ref (z 12), .ref (z 13), .ref (z 14)])), (z 1, .inl (cI, 5, .inl (aN ww))), (z 5, .inl (cI, 9, .inl (aN sw))), (z 7, .inl (cI, 9, .inl (aN sr))), (z 8, .inl (cI, 9, .inl (aN sf))), (z 9, .inl (cI, 9, .inl (aN sl))), (z 10, .inl (cI, 45, .inl (aN ss))), (z 11, .inl (cI, 10, .inl (aN df))), (z 12, .inl (cI, 10, .inl (aN dt)))] := hD
  refine lv_topr (show _ = nI 1 from rfl) ?_
  refine ix_if_eq (tgt := 23) hx hb (nI_tI (n := 1) (by omega)) d_MO_shift_18 (by decide) (fun c_18 => absurd c_18 (by omega)) (fun c_18 => ?_)
  refine lv_iconst (v := nI 0) hx hb d_MO_shift_21 (by decide +kernel) ?_
  exact W.iret (v := nI 0) hx hb hr (fun t ht hW => ⟨⟨nI 0, (1, sl), rfl, ⟨fun _ => ⟨rfl, rfl⟩, fun q => absurd q (by omega)⟩, by rw [ht]; exact hP, va_K.moved hW.alike hK, hD⟩, hS.F ht⟩) hS.2.2 d_MO_shift_22
