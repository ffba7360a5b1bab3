section IX6
variable {p : Program} {l : Launch} {e : Env} {R : Room} {s : State} {m : MethodId} {args : Array Value} {below : List Frame} {meth : Method} {c : Code} {H : Heap} {locs : List Loc} {cells slots : Nat} {Q : State → Prop} {cc : ByteArray} {pc : Nat} {ls : Array Slot} {rest : List Value}
theorem lv_arg3 {x y u x' y' u' : Int32} (h1 : x = x') (h2 : y = y') (h3 : u = u') (k : W p l e R s m args below meth c H locs cells slots Q (F0 m pc ls (.int u' :: .int y' :: .int x' :: rest))) : W p l e R s m args below meth c H locs cells slots Q (F0 m pc ls (.int u :: .int y :: .int x :: rest)) := by
  subst h1; subst h2; subst h3
  exact k
end IX6
set_option maxHeartbeats 4000000 in
set_option maxRecDepth 100000 in
/-- coil(w, k, t, f, n) -/
theorem c_MO_coil (l : Launch) (dC : Nat → ClassId) (dI : Nat → Nat → Nat) (sz : Nat) (z g : Nat → Nat) (cI : ClassId) (a1 : Int) (a2 : Int) (a3 : Int) (a4 : Int) (a5 : Int) (ha1 : -2147483648 ≤ a1 ∧ a1 < 2147483648) (ha2 : -2147483648 ≤ a2 ∧ a2 < 2147483648) (ha3 : -2147483648 ≤ a3 ∧ a3 < 2147483648) (ha4 : -2147483648 ≤ a4 ∧ a4 < 2147483648) (ha5 : -2147483648 ≤ a5 ∧ a5 < 2147483648) : Met l y_MO_coil w_MO_coil { frames := 1, cells := 0, slots := 0, locals := 22 } (rw_Pc (dC, dI) vwCl [(cI, .int)] sz [.ref (z 0), .int (zI a1), .int (zI a2), .int (zI a3), .int (zI a4), .int (zI a5)] [(z 0, .inr (7, [.int (nI (g 0)), .int (nI (g 1)), .int (nI (g 2)), .int (nI (g 3)), .int (nI (g 4)), .int (nI (g 5)), .int (nI (g 6)), .ref (z 1), .ref (z 2), .ref (z 3), .ref (z 4), .int (nI (g 7)), .ref (z 5), .ref (z 6), .ref (z 7), .ref (z 8), .ref (z 9), .ref (z 10), .int (nI (g 8)), .ref (z 11), .ref (z 12), .ref (z 13), .ref (z 14)]))]) (va_Qv (fun (u : Nat × Nat × Nat × Nat × Nat × Nat) => (((1 ≤ a1 ∧ a1 ≤ 20000) ∧ (1 ≤ a2 ∧ a2 ≤ 50000) ∧ (0 ≤ a3 ∧ a3 ≤ 1000) ∧ (0 ≤ a4 ∧ a4 ≤ 100) ∧ (2 ≤ a5 ∧ a5 ≤ 40)) → u.1 = 0 ∧ u.2.1 = a1.toNat ∧ u.2.2.1 = a2.toNat ∧ u.2.2.2.1 = a3.toNat ∧ u.2.2.2.2.1 = a4.toNat ∧ u.2.2.2.2.2 = a5.toNat) ∧ (¬ ((1 ≤ a1 ∧ a1 ≤ 20000) ∧ (1 ≤ a2 ∧ a2 ≤ 50000) ∧ (0 ≤ a3 ∧ a3 ≤ 1000) ∧ (0 ≤ a4 ∧ a4 ≤ 100) ∧ (2 ≤ a5 ∧ a5 ≤ 40)) → u.1 = 1 ∧ u.2.1 = g 1 ∧ u.2.2.1 = g 2 ∧ u.2.2.2.1 = g 3 ∧ u.2.2.2.2.1 = g 4 ∧ u.2.2.2.2.2 = g 5)) (rw_B (dC, dI) vwCl [(cI, .int)] (va_A [(z 0, .inr (7, [.int (nI (g 0)), .int (nI (g 1)), .int (nI (g 2)), .int (nI (g 3)), .int (nI (g 4)), .int (nI (g 5)), .int (nI (g 6)), .ref (z 1), .ref (z 2), .ref (z 3), .ref (z 4), .int (nI (g 7)), .ref (z 5), .ref (z 6), .ref (z 7), .ref (z 8), .ref (z 9), .ref (z 10), .int (nI (g 8)), .ref (z 11), .ref (z 12), .ref (z 13), .ref (z 14)]))] sz) (fun u : Nat × Nat × Nat × Nat × Nat × Nat => [(z 0, .inr (7, [.int (nI u.1), .int (nI u.2.1), .int (nI u.2.2.1), .int (nI u.2.2.2.1), .int (nI u.2.2.2.2.1), .int (nI u.2.2.2.2.2), .int (nI (g 6)), .ref (z 1), .ref (z 2), .ref (z 3), .ref (z 4), .int (nI (g 7)), .ref (z 5), .ref (z 6), .ref (z 7), .ref (z 8), .ref (z 9), .ref (z 10), .int (nI (g 8)), .ref (z 11), .ref (z 12), .ref (z 13), .ref (z 14)]))])) (va_A [(z 0, .inr (7, [.int (nI (g 0)), .int (nI (g 1)), .int (nI (g 2)), .int (nI (g 3)), .int (nI (g 4)), .int (nI (g 5)), .int (nI (g 6)), .ref (z 1), .ref (z 2), .ref (z 3), .ref (z 4), .int (nI (g 7)), .ref (z 5), .ref (z 6), .ref (z 7), .ref (z 8), .ref (z 9), .ref (z 10), .int (nI (g 8)), .ref (z 11), .ref (z 12), .ref (z 13), .ref (z 14)]))] sz)) 0 0 (va_A [(z 0, .inr (7, [.int (nI (g 0)), .int (nI (g 1)), .int (nI (g 2)), .int (nI (g 3)), .int (nI (g 4)), .int (nI (g 5)), .int (nI (g 6)), .ref (z 1), .ref (z 2), .ref (z 3), .ref (z 4), .int (nI (g 7)), .ref (z 5), .ref (z 6), .ref (z 7), .ref (z 8), .ref (z 9), .ref (z 10), .int (nI (g 8)), .ref (z 11), .ref (z 12), .ref (z 13), .ref (z 14)]))] sz) := by
  refine Met.ofW (cc := b_MO_coil) (maxL := 7) (ret := none) (by decide) rfl ?_
  intro p e s m args below meth c s₁ B hml hv
  obtain ⟨rfl, hsz, hP, hK, hD0⟩ := hv
  have hx := B.exec
  have hb := B.bytes
  have hr := B.returns
  have hts := gw_h (atoms_spec (ws := w_MO_coil) B.pre)
  have hown : s.vm.findClass R_MO = some m.cls := findClass_of_methodNamed B.named
  have hlocks := B.notSynchronized
  subst hsz
  have hD := hD0.self (sz := s.heap.size)
  generalize hAe : va_A [(z 0, .inr (7, [.int (nI (g 0)), .int (nI (g 1)), .int (nI (g 2)), .int (nI (g 3)), .int (nI (g 4)), .int (nI (g 5)), .int (nI (g 6)), .ref (z 1), .ref (z 2), .ref (z 3), .ref (z 4), .int (nI (g 7)), .ref (z 5), .ref (z 6), .ref (z 7), .ref (z 8), .ref (z 9), .ref (z 10), .int (nI (g 8)), .ref (z 11), .ref (z 12), .ref (z 13), .ref (z 14)]))] s.heap.size = A at hD ⊢
  have hA : ∀ q : Nat, s.heap.size ≤ q → A q := fun q h => by rw [← hAe]; exact Or.inr h
  have hS : va_S A s.heap s.heap [] := va_S.rf
  have hP : va_P (dC, dI) vwCl [(z 0, .inr (7, [.int (nI (g 0)), .int (nI (g 1)), .int (nI (g 2)), .int (nI (g 3)), .int (nI (g 4)), .int (nI (g 5)), .int (nI (g 6)), .ref (z 1), .ref (z 2), .ref (z 3), .ref (z 4), .int (nI (g 7)), .ref (z 5), .ref (z 6), .ref (z 7), .ref (z 8), .ref (z 9), .ref (z 10), .int (nI (g 8)), .ref (z 11), .ref (z 12), .ref (z 13), .ref (z 14)]))] s.heap := hP
  have hl := lv_entry ([.ref (z 0), .int (zI a1), .int (zI a2), .int (zI a3), .int (zI a4), .int (zI a5)]) (n := 7) (Nat.le_of_ble_eq_true rfl)
  rw [lg_entry_eq]
  generalize (lg_sl ([.ref (z 0), .int (zI a1), .int (zI a2), .int (zI a3), .int (zI a4), .int (zI a5)]) ++ List.replicate (7 - (lg_sl ([.ref (z 0), .int (zI a1), .int (zI a2), .int (zI a3), .int (zI a4), .int (zI a5)])).length) Slot.unset).toArray = ls at hl ⊢
  have hl : lv_has ls 7 [(0, .ref (z 0)), (1, .int (zI a1)), (2, .int (zI a2)), (3, .int (zI a3)), (4, .int (zI a4)), (5, .int (zI a5))] := hl
  refine lv_iload_n hx hb d_MO_coil_0 rfl (lv_at hl 1 rfl) ?_
  refine lv_iconst (v := nI 1) hx hb d_MO_coil_1 (by decide +kernel) ?_
  refine lv_sipush (v := nI 20000) hx hb d_MO_coil_2 (by decide +kernel) ?_
  refine lv_arg3 (show _ = zI a1 from rfl) (show _ = zI 1 from zI_n _) (show _ = zI 20000 from zI_n _) ?_
  refine ro_calli (va_runS (As := [.int (zI a1), .int (zI (1 : Int)), .int (zI (20000 : Int))]) (rest := []) ⟨hx, hb, hml, hown, hts⟩ (c_MO_in l dC dI cI a1 (1 : Int) (20000 : Int) ha1 (by omega) (by omega)) (va_cwS 3 hts (gw_S m_650 m_651 m_8 m_652) rfl rfl rfl (by decide +kernel) ⟨Nat.le_of_ble_eq_true rfl, Nat.le_of_ble_eq_true rfl⟩) ⟨ro_blind, fun U hU hW => ⟨rfl, fun k q h => by simp at h, va_K.moved hW.alike hK⟩⟩ rfl rfl hl.1 rfl (lv_room (Nat.le_of_ble_eq_true rfl)) d_MO_coil_5 ⟨Nat.le_of_ble_eq_true rfl, Nat.le_of_ble_eq_true rfl⟩) hS hP (fun r H locs er hP hS => ?_)
  subst er
  have hq5 := @b01_1 ((1 : Int) ≤ a1 ∧ a1 ≤ (20000 : Int)) _
  have hr5 := @b01_le ((1 : Int) ≤ a1 ∧ a1 ≤ (20000 : Int)) _
  refine ix_if_eq (tgt := 58) hx hb (nI_tI (n := b01 ((1 : Int) ≤ a1 ∧ a1 ≤ (20000 : Int))) (by omega)) d_MO_coil_8 (by decide) (fun c_8 => ?_) (fun c_8 => ?_)
  · refine lv_iconst (v := nI 0) hx hb d_MO_coil_58 (by decide +kernel) ?_
    refine lv_istore (lv' := [(6, .int (nI 0)), (0, .ref (z 0)), (1, .int (zI a1)), (2, .int (zI a2)), (3, .int (zI a3)), (4, .int (zI a4)), (5, .int (zI a5))]) hx hb d_MO_coil_59 hl (by decide) rfl (fun ls hl => ?_)
    refine lv_aload_n hx hb d_MO_coil_61 rfl (lv_at hl 1 rfl) ?_
    refine lv_iload hx hb d_MO_coil_62 (lv_at hl 0 rfl) ?_
    refine ix_if_ne (tgt := 71) hx hb (nI_tI (n := 0) (by omega)) d_MO_coil_64 (by decide) (fun c_64 => absurd c_64 (by omega)) (fun c_64 => ?_)
    refine lv_iconst (v := nI 1) hx hb d_MO_coil_67 (by decide +kernel) ?_
    refine lv_goto (tgt := 72) hx hb d_MO_coil_68 (by decide) ?_
    refine lv_iconst (v := nI 0) hx hb d_MO_coil_72 (by decide +kernel) ?_
    have hPc := hP.sub (ws' := [(z 0, .inr (7, [.int (nI (g 0)), .int (nI (g 1)), .int (nI (g 2)), .int (nI (g 3)), .int (nI (g 4)), .int (nI (g 5)), .int (nI (g 6)), .ref (z 1), .ref (z 2), .ref (z 3), .ref (z 4), .int (nI (g 7)), .ref (z 5), .ref (z 6), .ref (z 7), .ref (z 8), .ref (z 9), .ref (z 10), .int (nI (g 8)), .ref (z 11), .ref (z 12), .ref (z 13), .ref (z 14)]))]) [0] rfl
    have hDc := hD.sub (ws' := [(z 0, .inr (7, [.int (nI (g 0)), .int (nI (g 1)), .int (nI (g 2)), .int (nI (g 3)), .int (nI (g 4)), .int (nI (g 5)), .int (nI (g 6)), .ref (z 1), .ref (z 2), .ref (z 3), .ref (z 4), .int (nI (g 7)), .ref (z 5), .ref (z 6), .ref (z 7), .ref (z 8), .ref (z 9), .ref (z 10), .int (nI (g 8)), .ref (z 11), .ref (z 12), .ref (z 13), .ref (z 14)]))]) [0] (by decide) rfl
    have hFc := va_free (wc := [(z 0, .inr (7, [.int (nI (g 0)), .int (nI (g 1)), .int (nI (g 2)), .int (nI (g 3)), .int (nI (g 4)), .int (nI (g 5)), .int (nI (g 6)), .ref (z 1), .ref (z 2), .ref (z 3), .ref (z 4), .int (nI (g 7)), .ref (z 5), .ref (z 6), .ref (z 7), .ref (z 8), .ref (z 9), .ref (z 10), .int (nI (g 8)), .ref (z 11), .ref (z 12), .ref (z 13), .ref (z 14)]))]) hD hS hA [0] rfl
    refine va_calli (va_runV (As := [.int (nI 1), .int (nI 0)]) (rest := []) ⟨hx, hb, hml, hown, hts⟩ (c_MO_throwing l dC dI H.size z g cI 1 0 (by decide) (by decide)) (cwV 2 hts (gw_V m_654 m_656 s_16 m_8 m_657) rfl rfl rfl (by decide +kernel) ⟨Nat.le_of_ble_eq_true rfl, Nat.le_of_ble_eq_true rfl⟩) ⟨rw_blind, va_recv hK hPc (ci := 7) (q0 := 0) rfl rfl, fun U hU hW => ⟨rfl, by rw [hU], by rw [hU]; exact hPc, va_K.moved hW.alike hK, hDc.weaken (fun _ _ _ _ => trivial)⟩⟩ rfl rfl hl.1 rfl (lv_room (Nat.le_of_ble_eq_true rfl)) d_MO_coil_73 ⟨Nat.le_of_ble_eq_true rfl, Nat.le_of_ble_eq_true rfl⟩) hS (fun q _ h => hFc q h) hFc (fun r u t H1 locs ht hvm hw hB hz1 hk1 hS => ?_)
    obtain ⟨th1, rfl⟩ : ∃ z, z = u := ⟨_, rfl⟩
    obtain ⟨hP1, hK1, hD1⟩ := hB
    rw [ht] at hP1
    try dsimp only at hw
    obtain ⟨hP, hD⟩ := va_join (wr := []) (w1 := [(z 0, .inr (7, [.int (nI th1), .int (nI (g 1)), .int (nI (g 2)), .int (nI (g 3)), .int (nI (g 4)), .int (nI (g 5)), .int (nI (g 6)), .ref (z 1), .ref (z 2), .ref (z 3), .ref (z 4), .int (nI (g 7)), .ref (z 5), .ref (z 6), .ref (z 7), .ref (z 8), .ref (z 9), .ref (z 10), .int (nI (g 8)), .ref (z 11), .ref (z 12), .ref (z 13), .ref (z 14)]))]) hP hD [0] [] rfl rfl (by decide) (by decide) hk1 hFc hP1 hD1
    generalize H1 = H at hP hS ⊢
    have hP : va_P (dC, dI) vwCl [(z 0, .inr (7, [.int (nI th1), .int (nI (g 1)), .int (nI (g 2)), .int (nI (g 3)), .int (nI (g 4)), .int (nI (g 5)), .int (nI (g 6)), .ref (z 1), .ref (z 2), .ref (z 3), .ref (z 4), .int (nI (g 7)), .ref (z 5), .ref (z 6), .ref (z 7), .ref (z 8), .ref (z 9), .ref (z 10), .int (nI (g 8)), .ref (z 11), .ref (z 12), .ref (z 13), .ref (z 14)]))] H := hP.sub [0] rfl
    have hD : va_D A [(z 0, .inr (7, [.int (nI th1), .int (nI (g 1)), .int (nI (g 2)), .int (nI (g 3)), .int (nI (g 4)), .int (nI (g 5)), .int (nI (g 6)), .ref (z 1), .ref (z 2), .ref (z 3), .ref (z 4), .int (nI (g 7)), .ref (z 5), .ref (z 6), .ref (z 7), .ref (z 8), .ref (z 9), .ref (z 10), .int (nI (g 8)), .ref (z 11), .ref (z 12), .ref (z 13), .ref (z 14)]))] := hD.sub [0] (by decide) rfl
    obtain ⟨rfl, hth⟩ := hw
    have hth : th1 = 1 := hth
    subst hth
    have hP : va_P (dC, dI) vwCl [(z 0, .inr (7, [.int (nI 1), .int (nI (g 1)), .int (nI (g 2)), .int (nI (g 3)), .int (nI (g 4)), .int (nI (g 5)), .int (nI (g 6)), .ref (z 1), .ref (z 2), .ref (z 3), .ref (z 4), .int (nI (g 7)), .ref (z 5), .ref (z 6), .ref (z 7), .ref (z 8), .ref (z 9), .ref (z 10), .int (nI (g 8)), .ref (z 11), .ref (z 12), .ref (z 13), .ref (z 14)]))] H := hP
    have hD : va_D A [(z 0, .inr (7, [.int (nI 1), .int (nI (g 1)), .int (nI (g 2)), .int (nI (g 3)), .int (nI (g 4)), .int (nI (g 5)), .int (nI (g 6)), .ref (z 1), .ref (z 2), .ref (z 3), .ref (z 4), .int (nI (g 7)), .ref (z 5), .ref (z 6), .ref (z 7), .ref (z 8), .ref (z 9), .ref (z 10), .int (nI (g 8)), .ref (z 11), .ref (z 12), .ref (z 13), .ref (z 14)]))] := hD
    refine lv_topr (show _ = nI 1 from rfl) ?_
    refine ix_if_eq (tgt := 80) hx hb (nI_tI (n := 1) (by omega)) d_MO_coil_76 (by decide) (fun c_76 => absurd c_76 (by omega)) (fun c_76 => ?_)
    exact W.vret hx hb hr (fun t ht hW => ⟨⟨(1, g 1, g 2, g 3, g 4, g 5), rfl, ⟨fun q => absurd q (by omega), fun _ => ⟨rfl, rfl, rfl, rfl, rfl, rfl⟩⟩, by rw [ht]; exact hP, va_K.moved hW.alike hK, hD⟩, hS.F ht⟩) hS.2.2 d_MO_coil_79
  refine lv_iload_n hx hb d_MO_coil_11 rfl (lv_at hl 2 rfl) ?_
  refine lv_iconst (v := nI 1) hx hb d_MO_coil_12 (by decide +kernel) ?_
  refine lv_ldc (v := nI 50000) hx hb hown (hts _ m_653) d_MO_coil_13 ?_
  refine lv_arg3 (show _ = zI a2 from rfl) (show _ = zI 1 from zI_n _) (show _ = zI 50000 from zI_n _) ?_
  refine ro_calli (va_runS (As := [.int (zI a2), .int (zI (1 : Int)), .int (zI (50000 : Int))]) (rest := []) ⟨hx, hb, hml, hown, hts⟩ (c_MO_in l dC dI cI a2 (1 : Int) (50000 : Int) ha2 (by omega) (by omega)) (va_cwS 3 hts (gw_S m_650 m_651 m_8 m_652) rfl rfl rfl (by decide +kernel) ⟨Nat.le_of_ble_eq_true rfl, Nat.le_of_ble_eq_true rfl⟩) ⟨ro_blind, fun U hU hW => ⟨rfl, fun k q h => by simp at h, va_K.moved hW.alike hK⟩⟩ rfl rfl hl.1 rfl (lv_room (Nat.le_of_ble_eq_true rfl)) d_MO_coil_15 ⟨Nat.le_of_ble_eq_true rfl, Nat.le_of_ble_eq_true rfl⟩) hS hP (fun r H locs er hP hS => ?_)
  subst er
  have hq15 := @b01_1 ((1 : Int) ≤ a2 ∧ a2 ≤ (50000 : Int)) _
  have hr15 := @b01_le ((1 : Int) ≤ a2 ∧ a2 ≤ (50000 : Int)) _
  refine ix_if_eq (tgt := 58) hx hb (nI_tI (n := b01 ((1 : Int) ≤ a2 ∧ a2 ≤ (50000 : Int))) (by omega)) d_MO_coil_18 (by decide) (fun c_18 => ?_) (fun c_18 => ?_)
  · refine lv_iconst (v := nI 0) hx hb d_MO_coil_58 (by decide +kernel) ?_
    refine lv_istore (lv' := [(6, .int (nI 0)), (0, .ref (z 0)), (1, .int (zI a1)), (2, .int (zI a2)), (3, .int (zI a3)), (4, .int (zI a4)), (5, .int (zI a5))]) hx hb d_MO_coil_59 hl (by decide) rfl (fun ls hl => ?_)
    refine lv_aload_n hx hb d_MO_coil_61 rfl (lv_at hl 1 rfl) ?_
    refine lv_iload hx hb d_MO_coil_62 (lv_at hl 0 rfl) ?_
    refine ix_if_ne (tgt := 71) hx hb (nI_tI (n := 0) (by omega)) d_MO_coil_64 (by decide) (fun c_64 => absurd c_64 (by omega)) (fun c_64 => ?_)
    refine lv_iconst (v := nI 1) hx hb d_MO_coil_67 (by decide +kernel) ?_
    refine lv_goto (tgt := 72) hx hb d_MO_coil_68 (by decide) ?_
    refine lv_iconst (v := nI 0) hx hb d_MO_coil_72 (by decide +kernel) ?_
    have hPc := hP.sub (ws' := [(z 0, .inr (7, [.int (nI (g 0)), .int (nI (g 1)), .int (nI (g 2)), .int (nI (g 3)), .int (nI (g 4)), .int (nI (g 5)), .int (nI (g 6)), .ref (z 1), .ref (z 2), .ref (z 3), .ref (z 4), .int (nI (g 7)), .ref (z 5), .ref (z 6), .ref (z 7), .ref (z 8), .ref (z 9), .ref (z 10), .int (nI (g 8)), .ref (z 11), .ref (z 12), .ref (z 13), .ref (z 14)]))]) [0] rfl
    have hDc := hD.sub (ws' := [(z 0, .inr (7, [.int (nI (g 0)), .int (nI (g 1)), .int (nI (g 2)), .int (nI (g 3)), .int (nI (g 4)), .int (nI (g 5)), .int (nI (g 6)), .ref (z 1), .ref (z 2), .ref (z 3), .ref (z 4), .int (nI (g 7)), .ref (z 5), .ref (z 6), .ref (z 7), .ref (z 8), .ref (z 9), .ref (z 10), .int (nI (g 8)), .ref (z 11), .ref (z 12), .ref (z 13), .ref (z 14)]))]) [0] (by decide) rfl
    have hFc := va_free (wc := [(z 0, .inr (7, [.int (nI (g 0)), .int (nI (g 1)), .int (nI (g 2)), .int (nI (g 3)), .int (nI (g 4)), .int (nI (g 5)), .int (nI (g 6)), .ref (z 1), .ref (z 2), .ref (z 3), .ref (z 4), .int (nI (g 7)), .ref (z 5), .ref (z 6), .ref (z 7), .ref (z 8), .ref (z 9), .ref (z 10), .int (nI (g 8)), .ref (z 11), .ref (z 12), .ref (z 13), .ref (z 14)]))]) hD hS hA [0] rfl
    refine va_calli (va_runV (As := [.int (nI 1), .int (nI 0)]) (rest := []) ⟨hx, hb, hml, hown, hts⟩ (c_MO_throwing l dC dI H.size z g cI 1 0 (by decide) (by decide)) (cwV 2 hts (gw_V m_654 m_656 s_16 m_8 m_657) rfl rfl rfl (by decide +kernel) ⟨Nat.le_of_ble_eq_true rfl, Nat.le_of_ble_eq_true rfl⟩) ⟨rw_blind, va_recv hK hPc (ci := 7) (q0 := 0) rfl rfl, fun U hU hW => ⟨rfl, by rw [hU], by rw [hU]; exact hPc, va_K.moved hW.alike hK, hDc.weaken (fun _ _ _ _ => trivial)⟩⟩ rfl rfl hl.1 rfl (lv_room (Nat.le_of_ble_eq_true rfl)) d_MO_coil_73 ⟨Nat.le_of_ble_eq_true rfl, Nat.le_of_ble_eq_true rfl⟩) hS (fun q _ h => hFc q h) hFc (fun r u t H1 locs ht hvm hw hB hz1 hk1 hS => ?_)
    obtain ⟨th1, rfl⟩ : ∃ z, z = u := ⟨_, rfl⟩
    obtain ⟨hP1, hK1, hD1⟩ := hB
    rw [ht] at hP1
    try dsimp only at hw
    obtain ⟨hP, hD⟩ := va_join (wr := []) (w1 := [(z 0, .inr (7, [.int (nI th1), .int (nI (g 1)), .int (nI (g 2)), .int (nI (g 3)), .int (nI (g 4)), .int (nI (g 5)), .int (nI (g 6)), .ref (z 1), .ref (z 2), .ref (z 3), .ref (z 4), .int (nI (g 7)), .ref (z 5), .ref (z 6), .ref (z 7), .ref (z 8), .ref (z 9), .ref (z 10), .int (nI (g 8)), .ref (z 11), .ref (z 12), .ref (z 13), .ref (z 14)]))]) hP hD [0] [] rfl rfl (by decide) (by decide) hk1 hFc hP1 hD1
    generalize H1 = H at hP hS ⊢
    have hP : va_P (dC, dI) vwCl [(z 0, .inr (7, [.int (nI th1), .int (nI (g 1)), .int (nI (g 2)), .int (nI (g 3)), .int (nI (g 4)), .int (nI (g 5)), .int (nI (g 6)), .ref (z 1), .ref (z 2), .ref (z 3), .ref (z 4), .int (nI (g 7)), .ref (z 5), .ref (z 6), .ref (z 7), .ref (z 8), .ref (z 9), .ref (z 10), .int (nI (g 8)), .ref (z 11), .ref (z 12), .ref (z 13), .ref (z 14)]))] H := hP.sub [0] rfl
    have hD : va_D A [(z 0, .inr (7, [.int (nI th1), .int (nI (g 1)), .int (nI (g 2)), .int (nI (g 3)), .int (nI (g 4)), .int (nI (g 5)), .int (nI (g 6)), .ref (z 1), .ref (z 2), .ref (z 3), .ref (z 4), .int (nI (g 7)), .ref (z 5), .ref (z 6), .ref (z 7), .ref (z 8), .ref (z 9), .ref (z 10), .int (nI (g 8)), .ref (z 11), .ref (z 12), .ref (z 13), .ref (z 14)]))] := hD.sub [0] (by decide) rfl
    obtain ⟨rfl, hth⟩ := hw
    have hth : th1 = 1 := hth
    subst hth
    have hP : va_P (dC, dI) vwCl [(z 0, .inr (7, [.int (nI 1), .int (nI (g 1)), .int (nI (g 2)), .int (nI (g 3)), .int (nI (g 4)), .int (nI (g 5)), .int (nI (g 6)), .ref (z 1), .ref (z 2), .ref (z 3), .ref (z 4), .int (nI (g 7)), .ref (z 5), .ref (z 6), .ref (z 7), .ref (z 8), .ref (z 9), .ref (z 10), .int (nI (g 8)), .ref (z 11), .ref (z 12), .ref (z 13), .ref (z 14)]))] H := hP
    have hD : va_D A [(z 0, .inr (7, [.int (nI 1), .int (nI (g 1)), .int (nI (g 2)), .int (nI (g 3)), .int (nI (g 4)), .int (nI (g 5)), .int (nI (g 6)), .ref (z 1), .ref (z 2), .ref (z 3), .ref (z 4), .int (nI (g 7)), .ref (z 5), .ref (z 6), .ref (z 7), .ref (z 8), .ref (z 9), .ref (z 10), .int (nI (g 8)), .ref (z 11), .ref (z 12), .ref (z 13), .ref (z 14)]))] := hD
    refine lv_topr (show _ = nI 1 from rfl) ?_
    refine ix_if_eq (tgt := 80) hx hb (nI_tI (n := 1) (by omega)) d_MO_coil_76 (by decide) (fun c_76 => absurd c_76 (by omega)) (fun c_76 => ?_)
    exact W.vret hx hb hr (fun t ht hW => ⟨⟨(1, g 1, g 2, g 3, g 4, g 5), rfl, ⟨fun q => absurd q (by omega), fun _ => ⟨rfl, rfl, rfl, rfl, rfl, rfl⟩⟩, by rw [ht]; exact hP, va_K.moved hW.alike hK, hD⟩, hS.F ht⟩) hS.2.2 d_MO_coil_79
  refine lv_iload_n hx hb d_MO_coil_21 rfl (lv_at hl 3 rfl) ?_
  refine lv_iconst (v := nI 0) hx hb d_MO_coil_22 (by decide +kernel) ?_
  refine lv_sipush (v := nI 1000) hx hb d_MO_coil_23 (by decide +kernel) ?_
  refine lv_arg3 (show _ = zI a3 from rfl) (show _ = zI 0 from zI_n _) (show _ = zI 1000 from zI_n _) ?_
  refine ro_calli (va_runS (As := [.int (zI a3), .int (zI (0 : Int)), .int (zI (1000 : Int))]) (rest := []) ⟨hx, hb, hml, hown, hts⟩ (c_MO_in l dC dI cI a3 (0 : Int) (1000 : Int) ha3 (by omega) (by omega)) (va_cwS 3 hts (gw_S m_650 m_651 m_8 m_652) rfl rfl rfl (by decide +kernel) ⟨Nat.le_of_ble_eq_true rfl, Nat.le_of_ble_eq_true rfl⟩) ⟨ro_blind, fun U hU hW => ⟨rfl, fun k q h => by simp at h, va_K.moved hW.alike hK⟩⟩ rfl rfl hl.1 rfl (lv_room (Nat.le_of_ble_eq_true rfl)) d_MO_coil_26 ⟨Nat.le_of_ble_eq_true rfl, Nat.le_of_ble_eq_true rfl⟩) hS hP (fun r H locs er hP hS => ?_)
  subst er
  have hq26 := @b01_1 ((0 : Int) ≤ a3 ∧ a3 ≤ (1000 : Int)) _
  have hr26 := @b01_le ((0 : Int) ≤ a3 ∧ a3 ≤ (1000 : Int)) _
  refine ix_if_eq (tgt := 58) hx hb (nI_tI (n := b01 ((0 : Int) ≤ a3 ∧ a3 ≤ (1000 : Int))) (by omega)) d_MO_coil_29 (by decide) (fun c_29 => ?_) (fun c_29 => ?_)
  · refine lv_iconst (v := nI 0) hx hb d_MO_coil_58 (by decide +kernel) ?_
    refine lv_istore (lv' := [(6, .int (nI 0)), (0, .ref (z 0)), (1, .int (zI a1)), (2, .int (zI a2)), (3, .int (zI a3)), (4, .int (zI a4)), (5, .int (zI a5))]) hx hb d_MO_coil_59 hl (by decide) rfl (fun ls hl => ?_)
    refine lv_aload_n hx hb d_MO_coil_61 rfl (lv_at hl 1 rfl) ?_
    refine lv_iload hx hb d_MO_coil_62 (lv_at hl 0 rfl) ?_
    refine ix_if_ne (tgt := 71) hx hb (nI_tI (n := 0) (by omega)) d_MO_coil_64 (by decide) (fun c_64 => absurd c_64 (by omega)) (fun c_64 => ?_)
    refine lv_iconst (v := nI 1) hx hb d_MO_coil_67 (by decide +kernel) ?_
    refine lv_goto (tgt := 72) hx hb d_MO_coil_68 (by decide) ?_
    refine lv_iconst (v := nI 0) hx hb d_MO_coil_72 (by decide +kernel) ?_
    have hPc := hP.sub (ws' := [(z 0, .inr (7, [.int (nI (g 0)), .int (nI (g 1)), .int (nI (g 2)), .int (nI (g 3)), .int (nI (g 4)), .int (nI (g 5)), .int (nI (g 6)), .ref (z 1), .ref (z 2), .ref (z 3), .ref (z 4), .int (nI (g 7)), .ref (z 5), .ref (z 6), .ref (z 7), .ref (z 8), .ref (z 9), .ref (z 10), .int (nI (g 8)), .ref (z 11), .ref (z 12), .ref (z 13), .ref (z 14)]))]) [0] rfl
    have hDc := hD.sub (ws' := [(z 0, .inr (7, [.int (nI (g 0)), .int (nI (g 1)), .int (nI (g 2)), .int (nI (g 3)), .int (nI (g 4)), .int (nI (g 5)), .int (nI (g 6)), .ref (z 1), .ref (z 2), .ref (z 3), .ref (z 4), .int (nI (g 7)), .ref (z 5), .ref (z 6), .ref (z 7), .ref (z 8), .ref (z 9), .ref (z 10), .int (nI (g 8)), .ref (z 11), .ref (z 12), .ref (z 13), .ref (z 14)]))]) [0] (by decide) rfl
    have hFc := va_free (wc := [(z 0, .inr (7, [.int (nI (g 0)), .int (nI (g 1)), .int (nI (g 2)), .int (nI (g 3)), .int (nI (g 4)), .int (nI (g 5)), .int (nI (g 6)), .ref (z 1), .ref (z 2), .ref (z 3), .ref (z 4), .int (nI (g 7)), .ref (z 5), .ref (z 6), .ref (z 7), .ref (z 8), .ref (z 9), .ref (z 10), .int (nI (g 8)), .ref (z 11), .ref (z 12), .ref (z 13), .ref (z 14)]))]) hD hS hA [0] rfl
    refine va_calli (va_runV (As := [.int (nI 1), .int (nI 0)]) (rest := []) ⟨hx, hb, hml, hown, hts⟩ (c_MO_throwing l dC dI H.size z g cI 1 0 (by decide) (by decide)) (cwV 2 hts (gw_V m_654 m_656 s_16 m_8 m_657) rfl rfl rfl (by decide +kernel) ⟨Nat.le_of_ble_eq_true rfl, Nat.le_of_ble_eq_true rfl⟩) ⟨rw_blind, va_recv hK hPc (ci := 7) (q0 := 0) rfl rfl, fun U hU hW => ⟨rfl, by rw [hU], by rw [hU]; exact hPc, va_K.moved hW.alike hK, hDc.weaken (fun _ _ _ _ => trivial)⟩⟩ rfl rfl hl.1 rfl (lv_room (Nat.le_of_ble_eq_true rfl)) d_MO_coil_73 ⟨Nat.le_of_ble_eq_true rfl, Nat.le_of_ble_eq_true rfl⟩) hS (fun q _ h => hFc q h) hFc (fun r u t H1 locs ht hvm hw hB hz1 hk1 hS => ?_)
    obtain ⟨th1, rfl⟩ : ∃ z, z = u := ⟨_, rfl⟩
    obtain ⟨hP1, hK1, hD1⟩ := hB
    rw [ht] at hP1
    try dsimp only at hw
    obtain ⟨hP, hD⟩ := va_join (wr := []) (w1 := [(z 0, .inr (7, [.int (nI th1), .int (nI (g 1)), .int (nI (g 2)), .int (nI (g 3)), .int (nI (g 4)), .int (nI (g 5)), .int (nI (g 6)), .ref (z 1), .ref (z 2), .ref (z 3), .ref (z 4), .int (nI (g 7)), .ref (z 5), .ref (z 6), .ref (z 7), .ref (z 8), .ref (z 9), .ref (z 10), .int (nI (g 8)), .ref (z 11), .ref (z 12), .ref (z 13), .ref (z 14)]))]) hP hD [0] [] rfl rfl (by decide) (by decide) hk1 hFc hP1 hD1
    generalize H1 = H at hP hS ⊢
    have hP : va_P (dC, dI) vwCl [(z 0, .inr (7, [.int (nI th1), .int (nI (g 1)), .int (nI (g 2)), .int (nI (g 3)), .int (nI (g 4)), .int (nI (g 5)), .int (nI (g 6)), .ref (z 1), .ref (z 2), .ref (z 3), .ref (z 4), .int (nI (g 7)), .ref (z 5), .ref (z 6), .ref (z 7), .ref (z 8), .ref (z 9), .ref (z 10), .int (nI (g 8)), .ref (z 11), .ref (z 12), .ref (z 13), .ref (z 14)]))] H := hP.sub [0] rfl
    have hD : va_D A [(z 0, .inr (7, [.int (nI th1), .int (nI (g 1)), .int (nI (g 2)), .int (nI (g 3)), .int (nI (g 4)), .int (nI (g 5)), .int (nI (g 6)), .ref (z 1), .ref (z 2), .ref (z 3), .ref (z 4), .int (nI (g 7)), .ref (z 5), .ref (z 6), .ref (z 7), .ref (z 8), .ref (z 9), .ref (z 10), .int (nI (g 8)), .ref (z 11), .ref (z 12), .ref (z 13), .ref (z 14)]))] := hD.sub [0] (by decide) rfl
    obtain ⟨rfl, hth⟩ := hw
    have hth : th1 = 1 := hth
    subst hth
    have hP : va_P (dC, dI) vwCl [(z 0, .inr (7, [.int (nI 1), .int (nI (g 1)), .int (nI (g 2)), .int (nI (g 3)), .int (nI (g 4)), .int (nI (g 5)), .int (nI (g 6)), .ref (z 1), .ref (z 2), .ref (z 3), .ref (z 4), .int (nI (g 7)), .ref (z 5), .ref (z 6), .ref (z 7), .ref (z 8), .ref (z 9), .ref (z 10), .int (nI (g 8)), .ref (z 11), .ref (z 12), .ref (z 13), .ref (z 14)]))] H := hP
    have hD : va_D A [(z 0, .inr (7, [.int (nI 1), .int (nI (g 1)), .int (nI (g 2)), .int (nI (g 3)), .int (nI (g 4)), .int (nI (g 5)), .int (nI (g 6)), .ref (z 1), .ref (z 2), .ref (z 3), .ref (z 4), .int (nI (g 7)), .ref (z 5), .ref (z 6), .ref (z 7), .ref (z 8), .ref (z 9), .ref (z 10), .int (nI (g 8)), .ref (z 11), .ref (z 12), .ref (z 13), .ref (z 14)]))] := hD
    refine lv_topr (show _ = nI 1 from rfl) ?_
    refine ix_if_eq (tgt := 80) hx hb (nI_tI (n := 1) (by omega)) d_MO_coil_76 (by decide) (fun c_76 => absurd c_76 (by omega)) (fun c_76 => ?_)
    exact W.vret hx hb hr (fun t ht hW => ⟨⟨(1, g 1, g 2, g 3, g 4, g 5), rfl, ⟨fun q => absurd q (by omega), fun _ => ⟨rfl, rfl, rfl, rfl, rfl, rfl⟩⟩, by rw [ht]; exact hP, va_K.moved hW.alike hK, hD⟩, hS.F ht⟩) hS.2.2 d_MO_coil_79
  refine lv_iload hx hb d_MO_coil_32 (lv_at hl 4 rfl) ?_
  refine lv_iconst (v := nI 0) hx hb d_MO_coil_34 (by decide +kernel) ?_
  refine lv_bipush (v := nI 100) hx hb d_MO_coil_35 (by decide +kernel) ?_
  refine lv_arg3 (show _ = zI a4 from rfl) (show _ = zI 0 from zI_n _) (show _ = zI 100 from zI_n _) ?_
  refine ro_calli (va_runS (As := [.int (zI a4), .int (zI (0 : Int)), .int (zI (100 : Int))]) (rest := []) ⟨hx, hb, hml, hown, hts⟩ (c_MO_in l dC dI cI a4 (0 : Int) (100 : Int) ha4 (by omega) (by omega)) (va_cwS 3 hts (gw_S m_650 m_651 m_8 m_652) rfl rfl rfl (by decide +kernel) ⟨Nat.le_of_ble_eq_true rfl, Nat.le_of_ble_eq_true rfl⟩) ⟨ro_blind, fun U hU hW => ⟨rfl, fun k q h => by simp at h, va_K.moved hW.alike hK⟩⟩ rfl rfl hl.1 rfl (lv_room (Nat.le_of_ble_eq_true rfl)) d_MO_coil_37 ⟨Nat.le_of_ble_eq_true rfl, Nat.le_of_ble_eq_true rfl⟩) hS hP (fun r H locs er hP hS => ?_)
  subst er
  have hq37 := @b01_1 ((0 : Int) ≤ a4 ∧ a4 ≤ (100 : Int)) _
  have hr37 := @b01_le ((0 : Int) ≤ a4 ∧ a4 ≤ (100 : Int)) _
  refine ix_if_eq (tgt := 58) hx hb (nI_tI (n := b01 ((0 : Int) ≤ a4 ∧ a4 ≤ (100 : Int))) (by omega)) d_MO_coil_40 (by decide) (fun c_40 => ?_) (fun c_40 => ?_)
  · refine lv_iconst (v := nI 0) hx hb d_MO_coil_58 (by decide +kernel) ?_
    refine lv_istore (lv' := [(6, .int (nI 0)), (0, .ref (z 0)), (1, .int (zI a1)), (2, .int (zI a2)), (3, .int (zI a3)), (4, .int (zI a4)), (5, .int (zI a5))]) hx hb d_MO_coil_59 hl (by decide) rfl (fun ls hl => ?_)
    refine lv_aload_n hx hb d_MO_coil_61 rfl (lv_at hl 1 rfl) ?_
    refine lv_iload hx hb d_MO_coil_62 (lv_at hl 0 rfl) ?_
    refine ix_if_ne (tgt := 71) hx hb (nI_tI (n := 0) (by omega)) d_MO_coil_64 (by decide) (fun c_64 => absurd c_64 (by omega)) (fun c_64 => ?_)
    refine lv_iconst (v := nI 1) hx hb d_MO_coil_67 (by decide +kernel) ?_
    refine lv_goto (tgt := 72) hx hb d_MO_coil_68 (by decide) ?_
    refine lv_iconst (v := nI 0) hx hb d_MO_coil_72 (by decide +kernel) ?_
    have hPc := hP.sub (ws' := [(z 0, .inr (7, [.int (nI (g 0)), .int (nI (g 1)), .int (nI (g 2)), .int (nI (g 3)), .int (nI (g 4)), .int (nI (g 5)), .int (nI (g 6)), .ref (z 1), .ref (z 2), .ref (z 3), .ref (z 4), .int (nI (g 7)), .ref (z 5), .ref (z 6), .ref (z 7), .ref (z 8), .ref (z 9), .ref (z 10), .int (nI (g 8)), .ref (z 11), .ref (z 12), .ref (z 13), .ref (z 14)]))]) [0] rfl
    have hDc := hD.sub (ws' := [(z 0, .inr (7, [.int (nI (g 0)), .int (nI (g 1)), .int (nI (g 2)), .int (nI (g 3)), .int (nI (g 4)), .int (nI (g 5)), .int (nI (g 6)), .ref (z 1), .ref (z 2), .ref (z 3), .ref (z 4), .int (nI (g 7)), .ref (z 5), .ref (z 6), .ref (z 7), .ref (z 8), .ref (z 9), .ref (z 10), .int (nI (g 8)), .ref (z 11), .ref (z 12), .ref (z 13), .ref (z 14)]))]) [0] (by decide) rfl
    have hFc := va_free (wc := [(z 0, .inr (7, [.int (nI (g 0)), .int (nI (g 1)), .int (nI (g 2)), .int (nI (g 3)), .int (nI (g 4)), .int (nI (g 5)), .int (nI (g 6)), .ref (z 1), .ref (z 2), .ref (z 3), .ref (z 4), .int (nI (g 7)), .ref (z 5), .ref (z 6), .ref (z 7), .ref (z 8), .ref (z 9), .ref (z 10), .int (nI (g 8)), .ref (z 11), .ref (z 12), .ref (z 13), .ref (z 14)]))]) hD hS hA [0] rfl
    refine va_calli (va_runV (As := [.int (nI 1), .int (nI 0)]) (rest := []) ⟨hx, hb, hml, hown, hts⟩ (c_MO_throwing l dC dI H.size z g cI 1 0 (by decide) (by decide)) (cwV 2 hts (gw_V m_654 m_656 s_16 m_8 m_657) rfl rfl rfl (by decide +kernel) ⟨Nat.le_of_ble_eq_true rfl, Nat.le_of_ble_eq_true rfl⟩) ⟨rw_blind, va_recv hK hPc (ci := 7) (q0 := 0) rfl rfl, fun U hU hW => ⟨rfl, by rw [hU], by rw [hU]; exact hPc, va_K.moved hW.alike hK, hDc.weaken (fun _ _ _ _ => trivial)⟩⟩ rfl rfl hl.1 rfl (lv_room (Nat.le_of_ble_eq_true rfl)) d_MO_coil_73 ⟨Nat.le_of_ble_eq_true rfl, Nat.le_of_ble_eq_true rfl⟩) hS (fun q _ h => hFc q h) hFc (fun r u t H1 locs ht hvm hw hB hz1 hk1 hS => ?_)
    obtain ⟨th1, rfl⟩ : ∃ z, z = u := ⟨_, rfl⟩
    obtain ⟨hP1, hK1, hD1⟩ := hB
    rw [ht] at hP1
    try dsimp only at hw
    obtain ⟨hP, hD⟩ := va_join (wr := []) (w1 := [(z 0, .inr (7, [.int (nI th1), .int (nI (g 1)), .int (nI (g 2)), .int (nI (g 3)), .int (nI (g 4)), .int (nI (g 5)), .int (nI (g 6)), .ref (z 1), .ref (z 2), .ref (z 3), .ref (z 4), .int (nI (g 7)), .ref (z 5), .ref (z 6), .ref (z 7), .ref (z 8), .ref (z 9), .ref (z 10), .int (nI (g 8)), .ref (z 11), .ref (z 12), .ref (z 13), .ref (z 14)]))]) hP hD [0] [] rfl rfl (by decide) (by decide) hk1 hFc hP1 hD1
    generalize H1 = H at hP hS ⊢
    have hP : va_P (dC, dI) vwCl [(z 0, .inr (7, [.int (nI th1), .int (nI (g 1)), .int (nI (g 2)), .int (nI (g 3)), .int (nI (g 4)), .int (nI (g 5)), .int (nI (g 6)), .ref (z 1), .ref (z 2), .ref (z 3), .ref (z 4), .int (nI (g 7)), .ref (z 5), .ref (z 6), .ref (z 7), .ref (z 8), .ref (z 9), .ref (z 10), .int (nI (g 8)), .ref (z 11), .ref (z 12), .ref (z 13), .ref (z 14)]))] H := hP.sub [0] rfl
    have hD : va_D A [(z 0, .inr (7, [.int (nI th1), .int (nI (g 1)), .int (nI (g 2)), .int (nI (g 3)), .int (nI (g 4)), .int (nI (g 5)), .int (nI (g 6)), .ref (z 1), .ref (z 2), .ref (z 3), .ref (z 4), .int (nI (g 7)), .ref (z 5), .ref (z 6), .ref (z 7), .ref (z 8), .ref (z 9), .ref (z 10), .int (nI (g 8)), .ref (z 11), .ref (z 12), .ref (z 13), .ref (z 14)]))] := hD.sub [0] (by decide) rfl
    obtain ⟨rfl, hth⟩ := hw
    have hth : th1 = 1 := hth
    subst hth
    have hP : va_P (dC, dI) vwCl [(z 0, .inr (7, [.int (nI 1), .int (nI (g 1)), .int (nI (g 2)), .int (nI (g 3)), .int (nI (g 4)), .int (nI (g 5)), .int (nI (g 6)), .ref (z 1), .ref (z 2), .ref (z 3), .ref (z 4), .int (nI (g 7)), .ref (z 5), .ref (z 6), .ref (z 7), .ref (z 8), .ref (z 9), .ref (z 10), .int (nI (g 8)), .ref (z 11), .ref (z 12), .ref (z 13), .ref (z 14)]))] H := hP
    have hD : va_D A [(z 0, .inr (7, [.int (nI 1), .int (nI (g 1)), .int (nI (g 2)), .int (nI (g 3)), .int (nI (g 4)), .int (nI (g 5)), .int (nI (g 6)), .ref (z 1), .ref (z 2), .ref (z 3), .ref (z 4), .int (nI (g 7)), .ref (z 5), .ref (z 6), .ref (z 7), .ref (z 8), .ref (z 9), .ref (z 10), .int (nI (g 8)), .ref (z 11), .ref (z 12), .ref (z 13), .ref (z 14)]))] := hD
    refine lv_topr (show _ = nI 1 from rfl) ?_
    refine ix_if_eq (tgt := 80) hx hb (nI_tI (n := 1) (by omega)) d_MO_coil_76 (by decide) (fun c_76 => absurd c_76 (by omega)) (fun c_76 => ?_)
    exact W.vret hx hb hr (fun t ht hW => ⟨⟨(1, g 1, g 2, g 3, g 4, g 5), rfl, ⟨fun q => absurd q (by omega), fun _ => ⟨rfl, rfl, rfl, rfl, rfl, rfl⟩⟩, by rw [ht]; exact hP, va_K.moved hW.alike hK, hD⟩, hS.F ht⟩) hS.2.2 d_MO_coil_79
  refine lv_iload hx hb d_MO_coil_43 (lv_at hl 5 rfl) ?_
  refine lv_iconst (v := nI 2) hx hb d_MO_coil_45 (by decide +kernel) ?_
  refine lv_bipush (v := nI 40) hx hb d_MO_coil_46 (by decide +kernel) ?_
  refine lv_arg3 (show _ = zI a5 from rfl) (show _ = zI 2 from zI_n _) (show _ = zI 40 from zI_n _) ?_
  refine ro_calli (va_runS (As := [.int (zI a5), .int (zI (2 : Int)), .int (zI (40 : Int))]) (rest := []) ⟨hx, hb, hml, hown, hts⟩ (c_MO_in l dC dI cI a5 (2 : Int) (40 : Int) ha5 (by omega) (by omega)) (va_cwS 3 hts (gw_S m_650 m_651 m_8 m_652) rfl rfl rfl (by decide +kernel) ⟨Nat.le_of_ble_eq_true rfl, Nat.le_of_ble_eq_true rfl⟩) ⟨ro_blind, fun U hU hW => ⟨rfl, fun k q h => by simp at h, va_K.moved hW.alike hK⟩⟩ rfl rfl hl.1 rfl (lv_room (Nat.le_of_ble_eq_true rfl)) d_MO_coil_48 ⟨Nat.le_of_ble_eq_true rfl, Nat.le_of_ble_eq_true rfl⟩) hS hP (fun r H locs er hP hS => ?_)
  subst er
  have hq48 := @b01_1 ((2 : Int) ≤ a5 ∧ a5 ≤ (40 : Int)) _
  have hr48 := @b01_le ((2 : Int) ≤ a5 ∧ a5 ≤ (40 : Int)) _
  refine ix_if_eq (tgt := 58) hx hb (nI_tI (n := b01 ((2 : Int) ≤ a5 ∧ a5 ≤ (40 : Int))) (by omega)) d_MO_coil_51 (by decide) (fun c_51 => ?_) (fun c_51 => ?_)
  · refine lv_iconst (v := nI 0) hx hb d_MO_coil_58 (by decide +kernel) ?_
    refine lv_istore (lv' := [(6, .int (nI 0)), (0, .ref (z 0)), (1, .int (zI a1)), (2, .int (zI a2)), (3, .int (zI a3)), (4, .int (zI a4)), (5, .int (zI a5))]) hx hb d_MO_coil_59 hl (by decide) rfl (fun ls hl => ?_)
    refine lv_aload_n hx hb d_MO_coil_61 rfl (lv_at hl 1 rfl) ?_
    refine lv_iload hx hb d_MO_coil_62 (lv_at hl 0 rfl) ?_
    refine ix_if_ne (tgt := 71) hx hb (nI_tI (n := 0) (by omega)) d_MO_coil_64 (by decide) (fun c_64 => absurd c_64 (by omega)) (fun c_64 => ?_)
    refine lv_iconst (v := nI 1) hx hb d_MO_coil_67 (by decide +kernel) ?_
    refine lv_goto (tgt := 72) hx hb d_MO_coil_68 (by decide) ?_
    refine lv_iconst (v := nI 0) hx hb d_MO_coil_72 (by decide +kernel) ?_
    have hPc := hP.sub (ws' := [(z 0, .inr (7, [.int (nI (g 0)), .int (nI (g 1)), .int (nI (g 2)), .int (nI (g 3)), .int (nI (g 4)), .int (nI (g 5)), .int (nI (g 6)), .ref (z 1), .ref (z 2), .ref (z 3), .ref (z 4), .int (nI (g 7)), .ref (z 5), .ref (z 6), .ref (z 7), .ref (z 8), .ref (z 9), .ref (z 10), .int (nI (g 8)), .ref (z 11), .ref (z 12), .ref (z 13), .ref (z 14)]))]) [0] rfl
    have hDc := hD.sub (ws' := [(z 0, .inr (7, [.int (nI (g 0)), .int (nI (g 1)), .int (nI (g 2)), .int (nI (g 3)), .int (nI (g 4)), .int (nI (g 5)), .int (nI (g 6)), .ref (z 1), .ref (z 2), .ref (z 3), .ref (z 4), .int (nI (g 7)), .ref (z 5), .ref (z 6), .ref (z 7), .ref (z 8), .ref (z 9), .ref (z 10), .int (nI (g 8)), .ref (z 11), .ref (z 12), .ref (z 13), .ref (z 14)]))]) [0] (by decide) rfl
    have hFc := va_free (wc := [(z 0, .inr (7, [.int (nI (g 0)), .int (nI (g 1)), .int (nI (g 2)), .int (nI (g 3)), .int (nI (g 4)), .int (nI (g 5)), .int (nI (g 6)), .ref (z 1), .ref (z 2), .ref (z 3), .ref (z 4), .int (nI (g 7)), .ref (z 5), .ref (z 6), .ref (z 7), .ref (z 8), .ref (z 9), .ref (z 10), .int (nI (g 8)), .ref (z 11), .ref (z 12), .ref (z 13), .ref (z 14)]))]) hD hS hA [0] rfl
    refine va_calli (va_runV (As := [.int (nI 1), .int (nI 0)]) (rest := []) ⟨hx, hb, hml, hown, hts⟩ (c_MO_throwing l dC dI H.size z g cI 1 0 (by decide) (by decide)) (cwV 2 hts (gw_V m_654 m_656 s_16 m_8 m_657) rfl rfl rfl (by decide +kernel) ⟨Nat.le_of_ble_eq_true rfl, Nat.le_of_ble_eq_true rfl⟩) ⟨rw_blind, va_recv hK hPc (ci := 7) (q0 := 0) rfl rfl, fun U hU hW => ⟨rfl, by rw [hU], by rw [hU]; exact hPc, va_K.moved hW.alike hK, hDc.weaken (fun _ _ _ _ => trivial)⟩⟩ rfl rfl hl.1 rfl (lv_room (Nat.le_of_ble_eq_true rfl)) d_MO_coil_73 ⟨Nat.le_of_ble_eq_true rfl, Nat.le_of_ble_eq_true rfl⟩) hS (fun q _ h => hFc q h) hFc (fun r u t H1 locs ht hvm hw hB hz1 hk1 hS => ?_)
    obtain ⟨th1, rfl⟩ : ∃ z, z = u := ⟨_, rfl⟩
    obtain ⟨hP1, hK1, hD1⟩ := hB
    rw [ht] at hP1
    try dsimp only at hw
    obtain ⟨hP, hD⟩ := va_join (wr := []) (w1 := [(z 0, .inr (7, [.int (nI th1), .int (nI (g 1)), .int (nI (g 2)), .int (nI (g 3)), .int (nI (g 4)), .int (nI (g 5)), .int (nI (g 6)), .ref (z 1), .ref (z 2), .ref (z 3), .ref (z 4), .int (nI (g 7)), .ref (z 5), .ref (z 6), .ref (z 7), .ref (z 8), .ref (z 9), .ref (z 10), .int (nI (g 8)), .ref (z 11), .ref (z 12), .ref (z 13), .ref (z 14)]))]) hP hD [0] [] rfl rfl (by decide) (by decide) hk1 hFc hP1 hD1
    generalize H1 = H at hP hS ⊢
    have hP : va_P (dC, dI) vwCl [(z 0, .inr (7, [.int (nI th1), .int (nI (g 1)), .int (nI (g 2)), .int (nI (g 3)), .int (nI (g 4)), .int (nI (g 5)), .int (nI (g 6)), .ref (z 1), .ref (z 2), .ref (z 3), .ref (z 4), .int (nI (g 7)), .ref (z 5), .ref (z 6), .ref (z 7), .ref (z 8), .ref (z 9), .ref (z 10), .int (nI (g 8)), .ref (z 11), .ref (z 12), .ref (z 13), .ref (z 14)]))] H := hP.sub [0] rfl
    have hD : va_D A [(z 0, .inr (7, [.int (nI th1), .int (nI (g 1)), .int (nI (g 2)), .int (nI (g 3)), .int (nI (g 4)), .int (nI (g 5)), .int (nI (g 6)), .ref (z 1), .ref (z 2), .ref (z 3), .ref (z 4), .int (nI (g 7)), .ref (z 5), .ref (z 6), .ref (z 7), .ref (z 8), .ref (z 9), .ref (z 10), .int (nI (g 8)), .ref (z 11), .ref (z 12), .ref (z 13), .ref (z 14)]))] := hD.sub [0] (by decide) rfl
    obtain ⟨rfl, hth⟩ := hw
    have hth : th1 = 1 := hth
    subst hth
    have hP : va_P (dC, dI) vwCl [(z 0, .inr (7, [.int (nI 1), .int (nI (g 1)), .int (nI (g 2)), .int (nI (g 3)), .int (nI (g 4)), .int (nI (g 5)), .int (nI (g 6)), .ref (z 1), .ref (z 2), .ref (z 3), .ref (z 4), .int (nI (g 7)), .ref (z 5), .ref (z 6), .ref (z 7), .ref (z 8), .ref (z 9), .ref (z 10), .int (nI (g 8)), .ref (z 11), .ref (z 12), .ref (z 13), .ref (z 14)]))] H := hP
    have hD : va_D A [(z 0, .inr (7, [.int (nI 1), .int (nI (g 1)), .int (nI (g 2)), .int (nI (g 3)), .int (nI (g 4)), .int (nI (g 5)), .int (nI (g 6)), .ref (z 1), .ref (z 2), .ref (z 3), .ref (z 4), .int (nI (g 7)), .ref (z 5), .ref (z 6), .ref (z 7), .ref (z 8), .ref (z 9), .ref (z 10), .int (nI (g 8)), .ref (z 11), .ref (z 12), .ref (z 13), .ref (z 14)]))] := hD
    refine lv_topr (show _ = nI 1 from rfl) ?_
    refine ix_if_eq (tgt := 80) hx hb (nI_tI (n := 1) (by omega)) d_MO_coil_76 (by decide) (fun c_76 => absurd c_76 (by omega)) (fun c_76 => ?_)
    exact W.vret hx hb hr (fun t ht hW => ⟨⟨(1, g 1, g 2, g 3, g 4, g 5), rfl, ⟨fun q => absurd q (by omega), fun _ => ⟨rfl, rfl, rfl, rfl, rfl, rfl⟩⟩, by rw [ht]; exact hP, va_K.moved hW.alike hK, hD⟩, hS.F ht⟩) hS.2.2 d_MO_coil_79
  refine lv_iconst (v := nI 1) hx hb d_MO_coil_54 (by decide +kernel) ?_
  refine lv_goto (tgt := 59) hx hb d_MO_coil_55 (by decide) ?_
  refine lv_istore (lv' := [(6, .int (nI 1)), (0, .ref (z 0)), (1, .int (zI a1)), (2, .int (zI a2)), (3, .int (zI a3)), (4, .int (zI a4)), (5, .int (zI a5))]) hx hb d_MO_coil_59 hl (by decide) rfl (fun ls hl => ?_)
  refine lv_aload_n hx hb d_MO_coil_61 rfl (lv_at hl 1 rfl) ?_
  refine lv_iload hx hb d_MO_coil_62 (lv_at hl 0 rfl) ?_
  refine ix_if_ne (tgt := 71) hx hb (nI_tI (n := 1) (by omega)) d_MO_coil_64 (by decide) (fun c_64 => ?_) (fun c_64 => absurd c_64 (by omega))
  refine lv_iconst (v := nI 0) hx hb d_MO_coil_71 (by decide +kernel) ?_
  refine lv_iconst (v := nI 0) hx hb d_MO_coil_72 (by decide +kernel) ?_
  have hPc := hP.sub (ws' := [(z 0, .inr (7, [.int (nI (g 0)), .int (nI (g 1)), .int (nI (g 2)), .int (nI (g 3)), .int (nI (g 4)), .int (nI (g 5)), .int (nI (g 6)), .ref (z 1), .ref (z 2), .ref (z 3), .ref (z 4), .int (nI (g 7)), .ref (z 5), .ref (z 6), .ref (z 7), .ref (z 8), .ref (z 9), .ref (z 10), .int (nI (g 8)), .ref (z 11), .ref (z 12), .ref (z 13), .ref (z 14)]))]) [0] rfl
  have hDc := hD.sub (ws' := [(z 0, .inr (7, [.int (nI (g 0)), .int (nI (g 1)), .int (nI (g 2)), .int (nI (g 3)), .int (nI (g 4)), .int (nI (g 5)), .int (nI (g 6)), .ref (z 1), .ref (z 2), .ref (z 3), .ref (z 4), .int (nI (g 7)), .ref (z 5), .ref (z 6), .ref (z 7), .ref (z 8), .ref (z 9), .ref (z 10), .int (nI (g 8)), .ref (z 11), .ref (z 12), .ref (z 13), .ref (z 14)]))]) [0] (by decide) rfl
  have hFc := va_free (wc := [(z 0, .inr (7, [.int (nI (g 0)), .int (nI (g 1)), .int (nI (g 2)), .int (nI (g 3)), .int (nI (g 4)), .int (nI (g 5)), .int (nI (g 6)), .ref (z 1), .ref (z 2), .ref (z 3), .ref (z 4), .int (nI (g 7)), .ref (z 5), .ref (z 6), .ref (z 7), .ref (z 8), .ref (z 9), .ref (z 10), .int (nI (g 8)), .ref (z 11), .ref (z 12), .ref (z 13), .ref (z 14)]))]) hD hS hA [0] rfl
  refine va_calli (va_runV (As := [.int (nI 0), .int (nI 0)]) (rest := []) ⟨hx, hb, hml, hown, hts⟩ (c_MO_throwing l dC dI H.size z g cI 0 0 (by decide) (by decide)) (cwV 2 hts (gw_V m_654 m_656 s_16 m_8 m_657) rfl rfl rfl (by decide +kernel) ⟨Nat.le_of_ble_eq_true rfl, Nat.le_of_ble_eq_true rfl⟩) ⟨rw_blind, va_recv hK hPc (ci := 7) (q0 := 0) rfl rfl, fun U hU hW => ⟨rfl, by rw [hU], by rw [hU]; exact hPc, va_K.moved hW.alike hK, hDc.weaken (fun _ _ _ _ => trivial)⟩⟩ rfl rfl hl.1 rfl (lv_room (Nat.le_of_ble_eq_true rfl)) d_MO_coil_73 ⟨Nat.le_of_ble_eq_true rfl, Nat.le_of_ble_eq_true rfl⟩) hS (fun q _ h => hFc q h) hFc (fun r u t H1 locs ht hvm hw hB hz1 hk1 hS => ?_)
  obtain ⟨th1, rfl⟩ : ∃ z, z = u := ⟨_, rfl⟩
  obtain ⟨hP1, hK1, hD1⟩ := hB
  rw [ht] at hP1
  try dsimp only at hw
  obtain ⟨hP, hD⟩ := va_join (wr := []) (w1 := [(z 0, .inr (7, [.int (nI th1), .int (nI (g 1)), .int (nI (g 2)), .int (nI (g 3)), .int (nI (g 4)), .int (nI (g 5)), .int (nI (g 6)), .ref (z 1), .ref (z 2), .ref (z 3), .ref (z 4), .int (nI (g 7)), .ref (z 5), .ref (z 6), .ref (z 7), .ref (z 8), .ref (z 9), .ref (z 10), .int (nI (g 8)), .ref (z 11), .ref (z 12), .ref (z 13), .ref (z 14)]))]) hP hD [0] [] rfl rfl (by decide) (by decide) hk1 hFc hP1 hD1
  generalize H1 = H at hP hS ⊢
  have hP : va_P (dC, dI) vwCl [(z 0, .inr (7, [.int (nI th1), .int (nI (g 1)), .int (nI (g 2)), .int (nI (g 3)), .int (nI (g 4)), .int (nI (g 5)), .int (nI (g 6)), .ref (z 1), .ref (z 2), .ref (z 3), .ref (z 4), .int (nI (g 7)), .ref (z 5), .ref (z 6), .ref (z 7), .ref (z 8), .ref (z 9), .ref (z 10), .int (nI (g 8)), .ref (z 11), .ref (z 12), .ref (z 13), .ref (z 14)]))] H := hP.sub [0] rfl
  have hD : va_D A [(z 0, .inr (7, [.int (nI th1), .int (nI (g 1)), .int (nI (g 2)), .int (nI (g 3)), .int (nI (g 4)), .int (nI (g 5)), .int (nI (g 6)), .ref (z 1), .ref (z 2), .ref (z 3), .ref (z 4), .int (nI (g 7)), .ref (z 5), .ref (z 6), .ref (z 7), .ref (z 8), .ref (z 9), .ref (z 10), .int (nI (g 8)), .ref (z 11), .ref (z 12), .ref (z 13), .ref (z 14)]))] := hD.sub [0] (by decide) rfl
  obtain ⟨rfl, hth⟩ := hw
  have hth : th1 = 0 := hth
  subst hth
  have hP : va_P (dC, dI) vwCl [(z 0, .inr (7, [.int (nI 0), .int (nI (g 1)), .int (nI (g 2)), .int (nI (g 3)), .int (nI (g 4)), .int (nI (g 5)), .int (nI (g 6)), .ref (z 1), .ref (z 2), .ref (z 3), .ref (z 4), .int (nI (g 7)), .ref (z 5), .ref (z 6), .ref (z 7), .ref (z 8), .ref (z 9), .ref (z 10), .int (nI (g 8)), .ref (z 11), .ref (z 12), .ref (z 13), .ref (z 14)]))] H := hP
  have hD : va_D A [(z 0, .inr (7, [.int (nI 0), .int (nI (g 1)), .int (nI (g 2)), .int (nI (g 3)), .int (nI (g 4)), .int (nI (g 5)), .int (nI (g 6)), .ref (z 1), .ref (z 2), .ref (z 3), .ref (z 4), .int (nI (g 7)), .ref (z 5), .ref (z 6), .ref (z 7), .ref (z 8), .ref (z 9), .ref (z 10), .int (nI (g 8)), .ref (z 11), .ref (z 12), .ref (z 13), .ref (z 14)]))] := hD
  refine lv_topr (show _ = nI 0 from rfl) ?_
  refine ix_if_eq (tgt := 80) hx hb (nI_tI (n := 0) (by omega)) d_MO_coil_76 (by decide) (fun c_76 => ?_) (fun c_76 => absurd c_76 (by omega))
  refine lv_aload_n hx hb d_MO_coil_80 rfl (lv_at hl 1 rfl) ?_
  refine lv_iload_n hx hb d_MO_coil_81 rfl (lv_at hl 2 rfl) ?_
  refine lv_topr (show _ = nI a1.toNat from z_toN (by omega)) ?_
  refine va_put (D := (dC, dI)) (ci := 7) (v := .int (nI a1.toNat)) (ty := .int) (C := R_MO) (T := F_MO) (N := 23) hx hb hts in_MO t_MO t_MO_ok n_MO hown hK hP hD hS 0 rfl rfl 1 (by decide) (hts _ m_573) (fun _ h9 => h9) rfl (by decide +kernel) rfl rfl (Nat.le_of_ble_eq_true rfl) d_MO_coil_82 (fun H locs hP hD hS => ?_)
  have hP : va_P (dC, dI) vwCl [(z 0, .inr (7, [.int (nI 0), .int (nI a1.toNat), .int (nI (g 2)), .int (nI (g 3)), .int (nI (g 4)), .int (nI (g 5)), .int (nI (g 6)), .ref (z 1), .ref (z 2), .ref (z 3), .ref (z 4), .int (nI (g 7)), .ref (z 5), .ref (z 6), .ref (z 7), .ref (z 8), .ref (z 9), .ref (z 10), .int (nI (g 8)), .ref (z 11), .ref (z 12), .ref (z 13), .ref (z 14)]))] H := hP
  have hD : va_D A [(z 0, .inr (7, [.int (nI 0), .int (nI a1.toNat), .int (nI (g 2)), .int (nI (g 3)), .int (nI (g 4)), .int (nI (g 5)), .int (nI (g 6)), .ref (z 1), .ref (z 2), .ref (z 3), .ref (z 4), .int (nI (g 7)), .ref (z 5), .ref (z 6), .ref (z 7), .ref (z 8), .ref (z 9), .ref (z 10), .int (nI (g 8)), .ref (z 11), .ref (z 12), .ref (z 13), .ref (z 14)]))] := hD
  refine lv_aload_n hx hb d_MO_coil_85 rfl (lv_at hl 1 rfl) ?_
  refine lv_iload_n hx hb d_MO_coil_86 rfl (lv_at hl 3 rfl) ?_
  refine lv_topr (show _ = nI a2.toNat from z_toN (by omega)) ?_
  refine va_put (D := (dC, dI)) (ci := 7) (v := .int (nI a2.toNat)) (ty := .int) (C := R_MO) (T := F_MO) (N := 23) hx hb hts in_MO t_MO t_MO_ok n_MO hown hK hP hD hS 0 rfl rfl 2 (by decide) (hts _ m_574) (fun _ h9 => h9) rfl (by decide +kernel) rfl rfl (Nat.le_of_ble_eq_true rfl) d_MO_coil_87 (fun H locs hP hD hS => ?_)
  have hP : va_P (dC, dI) vwCl [(z 0, .inr (7, [.int (nI 0), .int (nI a1.toNat), .int (nI a2.toNat), .int (nI (g 3)), .int (nI (g 4)), .int (nI (g 5)), .int (nI (g 6)), .ref (z 1), .ref (z 2), .ref (z 3), .ref (z 4), .int (nI (g 7)), .ref (z 5), .ref (z 6), .ref (z 7), .ref (z 8), .ref (z 9), .ref (z 10), .int (nI (g 8)), .ref (z 11), .ref (z 12), .ref (z 13), .ref (z 14)]))] H := hP
  have hD : va_D A [(z 0, .inr (7, [.int (nI 0), .int (nI a1.toNat), .int (nI a2.toNat), .int (nI (g 3)), .int (nI (g 4)), .int (nI (g 5)), .int (nI (g 6)), .ref (z 1), .ref (z 2), .ref (z 3), .ref (z 4), .int (nI (g 7)), .ref (z 5), .ref (z 6), .ref (z 7), .ref (z 8), .ref (z 9), .ref (z 10), .int (nI (g 8)), .ref (z 11), .ref (z 12), .ref (z 13), .ref (z 14)]))] := hD
  refine lv_aload_n hx hb d_MO_coil_90 rfl (lv_at hl 1 rfl) ?_
  refine lv_iload_n hx hb d_MO_coil_91 rfl (lv_at hl 4 rfl) ?_
  refine lv_topr (show _ = nI a3.toNat from z_toN (by omega)) ?_
  refine va_put (D := (dC, dI)) (ci := 7) (v := .int (nI a3.toNat)) (ty := .int) (C := R_MO) (T := F_MO) (N := 23) hx hb hts in_MO t_MO t_MO_ok n_MO hown hK hP hD hS 0 rfl rfl 3 (by decide) (hts _ m_575) (fun _ h9 => h9) rfl (by decide +kernel) rfl rfl (Nat.le_of_ble_eq_true rfl) d_MO_coil_92 (fun H locs hP hD hS => ?_)
  have hP : va_P (dC, dI) vwCl [(z 0, .inr (7, [.int (nI 0), .int (nI a1.toNat), .int (nI a2.toNat), .int (nI a3.toNat), .int (nI (g 4)), .int (nI (g 5)), .int (nI (g 6)), .ref (z 1), .ref (z 2), .ref (z 3), .ref (z 4), .int (nI (g 7)), .ref (z 5), .ref (z 6), .ref (z 7), .ref (z 8), .ref (z 9), .ref (z 10), .int (nI (g 8)), .ref (z 11), .ref (z 12), .ref (z 13), .ref (z 14)]))] H := hP
  have hD : va_D A [(z 0, .inr (7, [.int (nI 0), .int (nI a1.toNat), .int (nI a2.toNat), .int (nI a3.toNat), .int (nI (g 4)), .int (nI (g 5)), .int (nI (g 6)), .ref (z 1), .ref (z 2), .ref (z 3), .ref (z 4), .int (nI (g 7)), .ref (z 5), .ref (z 6), .ref (z 7), .ref (z 8), .ref (z 9), .ref (z 10), .int (nI (g 8)), .ref (z 11), .ref (z 12), .ref (z 13), .ref (z 14)]))] := hD
  refine lv_aload_n hx hb d_MO_coil_95 rfl (lv_at hl 1 rfl) ?_
  refine lv_iload hx hb d_MO_coil_96 (lv_at hl 5 rfl) ?_
  refine lv_topr (show _ = nI a4.toNat from z_toN (by omega)) ?_
  refine va_put (D := (dC, dI)) (ci := 7) (v := .int (nI a4.toNat)) (ty := .int) (C := R_MO) (T := F_MO) (N := 23) hx hb hts in_MO t_MO t_MO_ok n_MO hown hK hP hD hS 0 rfl rfl 4 (by decide) (hts _ m_576) (fun _ h9 => h9) rfl (by decide +kernel) rfl rfl (Nat.le_of_ble_eq_true rfl) d_MO_coil_98 (fun H locs hP hD hS => ?_)
  have hP : va_P (dC, dI) vwCl [(z 0, .inr (7, [.int (nI 0), .int (nI a1.toNat), .int (nI a2.toNat), .int (nI a3.toNat), .int (nI a4.toNat), .int (nI (g 5)), .int (nI (g 6)), .ref (z 1), .ref (z 2), .ref (z 3), .ref (z 4), .int (nI (g 7)), .ref (z 5), .ref (z 6), .ref (z 7), .ref (z 8), .ref (z 9), .ref (z 10), .int (nI (g 8)), .ref (z 11), .ref (z 12), .ref (z 13), .ref (z 14)]))] H := hP
  have hD : va_D A [(z 0, .inr (7, [.int (nI 0), .int (nI a1.toNat), .int (nI a2.toNat), .int (nI a3.toNat), .int (nI a4.toNat), .int (nI (g 5)), .int (nI (g 6)), .ref (z 1), .ref (z 2), .ref (z 3), .ref (z 4), .int (nI (g 7)), .ref (z 5), .ref (z 6), .ref (z 7), .ref (z 8), .ref (z 9), .ref (z 10), .int (nI (g 8)), .ref (z 11), .ref (z 12), .ref (z 13), .ref (z 14)]))] := hD
  refine lv_aload_n hx hb d_MO_coil_101 rfl (lv_at hl 1 rfl) ?_
  refine lv_iload hx hb d_MO_coil_102 (lv_at hl 6 rfl) ?_
  refine lv_topr (show _ = nI a5.toNat from z_toN (by omega)) ?_
  refine va_put (D := (dC, dI)) (ci := 7) (v := .int (nI a5.toNat)) (ty := .int) (C := R_MO) (T := F_MO) (N := 23) hx hb hts in_MO t_MO t_MO_ok n_MO hown hK hP hD hS 0 rfl rfl 5 (by decide) (hts _ m_577) (fun _ h9 => h9) rfl (by decide +kernel) rfl rfl (Nat.le_of_ble_eq_true rfl) d_MO_coil_104 (fun H locs hP hD hS => ?_)
  have hP : va_P (dC, dI) vwCl [(z 0, .inr (7, [.int (nI 0), .int (nI a1.toNat), .int (nI a2.toNat), .int (nI a3.toNat), .int (nI a4.toNat), .int (nI a5.toNat), .int (nI (g 6)), .ref (z 1), .ref (z 2), .ref (z 3), .ref (z 4), .int (nI (g 7)), .ref (z 5), .ref (z 6), .ref (z 7), .ref (z 8), .ref (z 9), .ref (z 10), .int (nI (g 8)), .ref (z 11), .ref (z 12), .ref (z 13), .ref (z 14)]))] H := hP
  have hD : va_D A [(z 0, .inr (7, [.int (nI 0), .int (nI a1.toNat), .int (nI a2.toNat), .int (nI a3.toNat), .int (nI a4.toNat), .int (nI a5.toNat), .int (nI (g 6)), .ref (z 1), .ref (z 2), .ref (z 3), .ref (z 4), .int (nI (g 7)), .ref (z 5), .ref (z 6), .ref (z 7), .ref (z 8), .ref (z 9), .ref (z 10), .int (nI (g 8)), .ref (z 11), .ref (z 12), .ref (z 13), .ref (z 14)]))] := hD
  exact W.vret hx hb hr (fun t ht hW => ⟨⟨(0, a1.toNat, a2.toNat, a3.toNat, a4.toNat, a5.toNat), rfl, ⟨fun _ => ⟨rfl, rfl, rfl, rfl, rfl, rfl⟩, fun q => absurd q (by omega)⟩, by rw [ht]; exact hP, va_K.moved hW.alike hK, hD⟩, hS.F ht⟩) hS.2.2 d_MO_coil_107
set_option maxHeartbeats 4000000 in
set_option maxRecDepth 100000 in
/-- want(w, n) -/
theorem c_MO_want (l : Launch) (dC : Nat → ClassId) (dI : Nat → Nat → Nat) (sz : Nat) (z g : Nat → Nat) (cI : ClassId) (ww wa : Nat → Nat) (h6 : g 6 ≤ 5) (a1 : Int) (a2 : Int) (ha1 : -2147483648 ≤ a1 ∧ a1 < 2147483648) (ha2 : -2147483648 ≤ a2 ∧ a2 < 2147483648) : Met l y_MO_want w_MO_want { frames := 1, cells := 0, slots := 0, locals := 22 } (rw_Pc (dC, dI) vwCl [(cI, .int)] sz [.ref (z 0), .int (zI a1), .int (zI a2)] [(z 0, .inr (7, [.int (nI (g 0)), .int (nI (g 1)), .int (nI (g 2)), .int (nI (g 3)), .int (nI (g 4)), .int (nI (g 5)), .int (nI (g 6)), .ref (z 1), .ref (z 2), .ref (z 3), .ref (z 4), .int (nI (g 7)), .ref (z 5), .ref (z 6), .ref (z 7), .ref (z 8), .ref (z 9), .ref (z 10), .int (nI (g 8)), .ref (z 11), .ref (z 12), .ref (z 13), .ref (z 14)])), (z 1, .inl (cI, 5, .inl (aN ww))), (z 2, .inl (cI, 5, .inl (aN wa)))]) (va_Qi (fun (r : Int32) (u : Nat × Nat × (Nat → Nat) × (Nat → Nat)) => (g 6 = 5 → u.1 = 1 ∧ u.2.1 = g 6 ∧ u.2.2.1 = ww ∧ u.2.2.2 = wa) ∧ (¬ g 6 = 5 ∧ ¬ ((1 ≤ a1 ∧ a1 ≤ 20000) ∧ (0 ≤ a2 ∧ a2 ≤ 6)) → u.1 = 2 ∧ u.2.1 = g 6 ∧ u.2.2.1 = ww ∧ u.2.2.2 = wa) ∧ (¬ g 6 = 5 ∧ ((1 ≤ a1 ∧ a1 ≤ 20000) ∧ (0 ≤ a2 ∧ a2 ≤ 6)) → u.1 = 0 ∧ u.2.1 = g 6 + 1 ∧ u.2.2.1 = up ww (g 6) a1.toNat ∧ u.2.2.2 = up wa (g 6) a2.toNat ∧ r = nI (g 6))) (rw_B (dC, dI) vwCl [(cI, .int)] (va_A [(z 0, .inr (7, [.int (nI (g 0)), .int (nI (g 1)), .int (nI (g 2)), .int (nI (g 3)), .int (nI (g 4)), .int (nI (g 5)), .int (nI (g 6)), .ref (z 1), .ref (z 2), .ref (z 3), .ref (z 4), .int (nI (g 7)), .ref (z 5), .ref (z 6), .ref (z 7), .ref (z 8), .ref (z 9), .ref (z 10), .int (nI (g 8)), .ref (z 11), .ref (z 12), .ref (z 13), .ref (z 14)])), (z 1, .inl (cI, 5, .inl (aN ww))), (z 2, .inl (cI, 5, .inl (aN wa)))] sz) (fun u : Nat × Nat × (Nat → Nat) × (Nat → Nat) => [(z 0, .inr (7, [.int (nI u.1), .int (nI (g 1)), .int (nI (g 2)), .int (nI (g 3)), .int (nI (g 4)), .int (nI (g 5)), .int (nI u.2.1), .ref (z 1), .ref (z 2), .ref (z 3), .ref (z 4), .int (nI (g 7)), .ref (z 5), .ref (z 6), .ref (z 7), .ref (z 8), .ref (z 9), .ref (z 10), .int (nI (g 8)), .ref (z 11), .ref (z 12), .ref (z 13), .ref (z 14)])), (z 1, .inl (cI, 5, .inl (aN u.2.2.1))), (z 2, .inl (cI, 5, .inl (aN u.2.2.2)))])) (va_A [(z 0, .inr (7, [.int (nI (g 0)), .int (nI (g 1)), .int (nI (g 2)), .int (nI (g 3)), .int (nI (g 4)), .int (nI (g 5)), .int (nI (g 6)), .ref (z 1), .ref (z 2), .ref (z 3), .ref (z 4), .int (nI (g 7)), .ref (z 5), .ref (z 6), .ref (z 7), .ref (z 8), .ref (z 9), .ref (z 10), .int (nI (g 8)), .ref (z 11), .ref (z 12), .ref (z 13), .ref (z 14)])), (z 1, .inl (cI, 5, .inl (aN ww))), (z 2, .inl (cI, 5, .inl (aN wa)))] sz)) 0 0 (va_A [(z 0, .inr (7, [.int (nI (g 0)), .int (nI (g 1)), .int (nI (g 2)), .int (nI (g 3)), .int (nI (g 4)), .int (nI (g 5)), .int (nI (g 6)), .ref (z 1), .ref (z 2), .ref (z 3), .ref (z 4), .int (nI (g 7)), .ref (z 5), .ref (z 6), .ref (z 7), .ref (z 8), .ref (z 9), .ref (z 10), .int (nI (g 8)), .ref (z 11), .ref (z 12), .ref (z 13), .ref (z 14)])), (z 1, .inl (cI, 5, .inl (aN ww))), (z 2, .inl (cI, 5, .inl (aN wa)))] sz) := by
  refine Met.ofW (cc := b_MO_want) (maxL := 3) (ret := (some .int)) (by decide) rfl ?_
  intro p e s m args below meth c s₁ B hml hv
  obtain ⟨rfl, hsz, hP, hK, hD0⟩ := hv
  have hx := B.exec
  have hb := B.bytes
  have hr := B.returns
  have hts := gw_h (atoms_spec (ws := w_MO_want) B.pre)
  have hown : s.vm.findClass R_MO = some m.cls := findClass_of_methodNamed B.named
  have hlocks := B.notSynchronized
  subst hsz
  have hD := hD0.self (sz := s.heap.size)
  generalize hAe : va_A [(z 0, .inr (7, [.int (nI (g 0)), .int (nI (g 1)), .int (nI (g 2)), .int (nI (g 3)), .int (nI (g 4)), .int (nI (g 5)), .int (nI (g 6)), .ref (z 1), .ref (z 2), .ref (z 3), .ref (z 4), .int (nI (g 7)), .ref (z 5), .ref (z 6), .ref (z 7), .ref (z 8), .ref (z 9), .ref (z 10), .int (nI (g 8)), .ref (z 11), .ref (z 12), .ref (z 13), .ref (z 14)])), (z 1, .inl (cI, 5, .inl (aN ww))), (z 2, .inl (cI, 5, .inl (aN wa)))] s.heap.size = A at hD ⊢
  have hA : ∀ q : Nat, s.heap.size ≤ q → A q := fun q h => by rw [← hAe]; exact Or.inr h
  have hS : va_S A s.heap s.heap [] := va_S.rf
  have hP : va_P (dC, dI) vwCl [(z 0, .inr (7, [.int (nI (g 0)), .int (nI (g 1)), .int (nI (g 2)), .int (nI (g 3)), .int (nI (g 4)), .int (nI (g 5)), .int (nI (g 6)), .ref (z 1), .ref (z 2), .ref (z 3), .ref (z 4), .int (nI (g 7)), .ref (z 5), .ref (z 6), .ref (z 7), .ref (z 8), .ref (z 9), .ref (z 10), .int (nI (g 8)), .ref (z 11), .ref (z 12), .ref (z 13), .ref (z 14)])), (z 1, .inl (cI, 5, .inl (aN ww))), (z 2, .inl (cI, 5, .inl (aN wa)))] s.heap := hP
  have hl := lv_entry ([.ref (z 0), .int (zI a1), .int (zI a2)]) (n := 3) (Nat.le_of_ble_eq_true rfl)
  rw [lg_entry_eq]
  generalize (lg_sl ([.ref (z 0), .int (zI a1), .int (zI a2)]) ++ List.replicate (3 - (lg_sl ([.ref (z 0), .int (zI a1), .int (zI a2)])).length) Slot.unset).toArray = ls at hl ⊢
  have hl : lv_has ls 3 [(0, .ref (z 0)), (1, .int (zI a1)), (2, .int (zI a2))] := hl
  refine lv_aload_n hx hb d_MO_want_0 rfl (lv_at hl 0 rfl) ?_
  refine lv_aload_n hx hb d_MO_want_1 rfl (lv_at hl 0 rfl) ?_
  refine va_get (D := (dC, dI)) (ci := 7) (v := .int (nI (g 6))) (C := R_MO) (T := F_MO) (N := 23) hx hb hts in_MO hown hK hP 0 rfl rfl 6 (by decide) (hts _ m_578) (fun _ h9 => h9) rfl d_MO_want_2 ?_
  refine lv_iconst (v := nI 5) hx hb d_MO_want_5 (by decide +kernel) ?_
  refine ix_icmp_ne (tgt := 13) hx hb (nI_tI (n := g 6) (by omega)) (nI_tI (n := 5) (by omega)) d_MO_want_6 (by decide) (fun c_6 => ?_) (fun c_6 => ?_)
  · refine lv_iconst (v := nI 0) hx hb d_MO_want_13 (by decide +kernel) ?_
    refine lv_iload_n hx hb d_MO_want_14 rfl (lv_at hl 1 rfl) ?_
    refine lv_iconst (v := nI 1) hx hb d_MO_want_15 (by decide +kernel) ?_
    refine lv_sipush (v := nI 20000) hx hb d_MO_want_16 (by decide +kernel) ?_
    refine lv_arg3 (show _ = zI a1 from rfl) (show _ = zI 1 from zI_n _) (show _ = zI 20000 from zI_n _) ?_
    refine ro_calli (va_runS (As := [.int (zI a1), .int (zI (1 : Int)), .int (zI (20000 : Int))]) (rest := [.int (nI 0), .ref (z 0)]) ⟨hx, hb, hml, hown, hts⟩ (c_MO_in l dC dI cI a1 (1 : Int) (20000 : Int) ha1 (by omega) (by omega)) (va_cwS 3 hts (gw_S m_650 m_651 m_8 m_652) rfl rfl rfl (by decide +kernel) ⟨Nat.le_of_ble_eq_true rfl, Nat.le_of_ble_eq_true rfl⟩) ⟨ro_blind, fun U hU hW => ⟨rfl, fun k q h => by simp at h, va_K.moved hW.alike hK⟩⟩ rfl rfl hl.1 rfl (lv_room (Nat.le_of_ble_eq_true rfl)) d_MO_want_19 ⟨Nat.le_of_ble_eq_true rfl, Nat.le_of_ble_eq_true rfl⟩) hS hP (fun r H locs er hP hS => ?_)
    subst er
    have hq19 := @b01_1 ((1 : Int) ≤ a1 ∧ a1 ≤ (20000 : Int)) _
    have hr19 := @b01_le ((1 : Int) ≤ a1 ∧ a1 ≤ (20000 : Int)) _
    refine ix_if_eq (tgt := 35) hx hb (nI_tI (n := b01 ((1 : Int) ≤ a1 ∧ a1 ≤ (20000 : Int))) (by omega)) d_MO_want_22 (by decide) (fun c_22 => ?_) (fun c_22 => ?_)
    · refine lv_iconst (v := nI 1) hx hb d_MO_want_35 (by decide +kernel) ?_
      refine lv_goto (tgt := 40) hx hb d_MO_want_36 (by decide) ?_
      have hPc := hP.sub (ws' := [(z 0, .inr (7, [.int (nI (g 0)), .int (nI (g 1)), .int (nI (g 2)), .int (nI (g 3)), .int (nI (g 4)), .int (nI (g 5)), .int (nI (g 6)), .ref (z 1), .ref (z 2), .ref (z 3), .ref (z 4), .int (nI (g 7)), .ref (z 5), .ref (z 6), .ref (z 7), .ref (z 8), .ref (z 9), .ref (z 10), .int (nI (g 8)), .ref (z 11), .ref (z 12), .ref (z 13), .ref (z 14)]))]) [0] rfl
      have hDc := hD.sub (ws' := [(z 0, .inr (7, [.int (nI (g 0)), .int (nI (g 1)), .int (nI (g 2)), .int (nI (g 3)), .int (nI (g 4)), .int (nI (g 5)), .int (nI (g 6)), .ref (z 1), .ref (z 2), .ref (z 3), .ref (z 4), .int (nI (g 7)), .ref (z 5), .ref (z 6), .ref (z 7), .ref (z 8), .ref (z 9), .ref (z 10), .int (nI (g 8)), .ref (z 11), .ref (z 12), .ref (z 13), .ref (z 14)]))]) [0] (by decide) rfl
      have hFc := va_free (wc := [(z 0, .inr (7, [.int (nI (g 0)), .int (nI (g 1)), .int (nI (g 2)), .int (nI (g 3)), .int (nI (g 4)), .int (nI (g 5)), .int (nI (g 6)), .ref (z 1), .ref (z 2), .ref (z 3), .ref (z 4), .int (nI (g 7)), .ref (z 5), .ref (z 6), .ref (z 7), .ref (z 8), .ref (z 9), .ref (z 10), .int (nI (g 8)), .ref (z 11), .ref (z 12), .ref (z 13), .ref (z 14)]))]) hD hS hA [0] rfl
      refine va_calli (va_runV (As := [.int (nI 0), .int (nI 1)]) (rest := []) ⟨hx, hb, hml, hown, hts⟩ (c_MO_throwing l dC dI H.size z g cI 0 1 (by decide) (by decide)) (cwV 2 hts (gw_V m_654 m_656 s_16 m_8 m_657) rfl rfl rfl (by decide +kernel) ⟨Nat.le_of_ble_eq_true rfl, Nat.le_of_ble_eq_true rfl⟩) ⟨rw_blind, va_recv hK hPc (ci := 7) (q0 := 0) rfl rfl, fun U hU hW => ⟨rfl, by rw [hU], by rw [hU]; exact hPc, va_K.moved hW.alike hK, hDc.weaken (fun _ _ _ _ => trivial)⟩⟩ rfl rfl hl.1 rfl (lv_room (Nat.le_of_ble_eq_true rfl)) d_MO_want_40 ⟨Nat.le_of_ble_eq_true rfl, Nat.le_of_ble_eq_true rfl⟩) hS (fun q _ h => hFc q h) hFc (fun r u t H1 locs ht hvm hw hB hz1 hk1 hS => ?_)
      obtain ⟨th1, rfl⟩ : ∃ z, z = u := ⟨_, rfl⟩
      obtain ⟨hP1, hK1, hD1⟩ := hB
      rw [ht] at hP1
      try dsimp only at hw
      obtain ⟨hP, hD⟩ := va_join (wr := [(z 1, .inl (cI, 5, .inl (aN ww))), (z 2, .inl (cI, 5, .inl (aN wa)))]) (w1 := [(z 0, .inr (7, [.int (nI th1), .int (nI (g 1)), .int (nI (g 2)), .int (nI (g 3)), .int (nI (g 4)), .int (nI (g 5)), .int (nI (g 6)), .ref (z 1), .ref (z 2), .ref (z 3), .ref (z 4), .int (nI (g 7)), .ref (z 5), .ref (z 6), .ref (z 7), .ref (z 8), .ref (z 9), .ref (z 10), .int (nI (g 8)), .ref (z 11), .ref (z 12), .ref (z 13), .ref (z 14)]))]) hP hD [0] [1, 2] rfl rfl (by decide) (by decide) hk1 hFc hP1 hD1
      generalize H1 = H at hP hS ⊢
      have hP : va_P (dC, dI) vwCl [(z 0, .inr (7, [.int (nI th1), .int (nI (g 1)), .int (nI (g 2)), .int (nI (g 3)), .int (nI (g 4)), .int (nI (g 5)), .int (nI (g 6)), .ref (z 1), .ref (z 2), .ref (z 3), .ref (z 4), .int (nI (g 7)), .ref (z 5), .ref (z 6), .ref (z 7), .ref (z 8), .ref (z 9), .ref (z 10), .int (nI (g 8)), .ref (z 11), .ref (z 12), .ref (z 13), .ref (z 14)])), (z 1, .inl (cI, 5, .inl (aN ww))), (z 2, .inl (cI, 5, .inl (aN wa)))] H := hP.sub [2, 0, 1] rfl
      have hD : va_D A [(z 0, .inr (7, [.int (nI th1), .int (nI (g 1)), .int (nI (g 2)), .int (nI (g 3)), .int (nI (g 4)), .int (nI (g 5)), .int (nI (g 6)), .ref (z 1), .ref (z 2), .ref (z 3), .ref (z 4), .int (nI (g 7)), .ref (z 5), .ref (z 6), .ref (z 7), .ref (z 8), .ref (z 9), .ref (z 10), .int (nI (g 8)), .ref (z 11), .ref (z 12), .ref (z 13), .ref (z 14)])), (z 1, .inl (cI, 5, .inl (aN ww))), (z 2, .inl (cI, 5, .inl (aN wa)))] := hD.sub [2, 0, 1] (by decide) rfl
      obtain ⟨rfl, hth⟩ := hw
      have hth : th1 = 2 := hth
      subst hth
      have hP : va_P (dC, dI) vwCl [(z 0, .inr (7, [.int (nI 2), .int (nI (g 1)), .int (nI (g 2)), .int (nI (g 3)), .int (nI (g 4)), .int (nI (g 5)), .int (nI (g 6)), .ref (z 1), .ref (z 2), .ref (z 3), .ref (z 4), .int (nI (g 7)), .ref (z 5), .ref (z 6), .ref (z 7), .ref (z 8), .ref (z 9), .ref (z 10), .int (nI (g 8)), .ref (z 11), .ref (z 12), .ref (z 13), .ref (z 14)])), (z 1, .inl (cI, 5, .inl (aN ww))), (z 2, .inl (cI, 5, .inl (aN wa)))] H := hP
      have hD : va_D A [(z 0, .inr (7, [.int (nI 2), .int (nI (g 1)), .int (nI (g 2)), .int (nI (g 3)), .int (nI (g 4)), .int (nI (g 5)), .int (nI (g 6)), .ref (z 1), .ref (z 2), .ref (z 3), .ref (z 4), .int (nI (g 7)), .ref (z 5), .ref (z 6), .ref (z 7), .ref (z 8), .ref (z 9), .ref (z 10), .int (nI (g 8)), .ref (z 11), .ref (z 12), .ref (z 13), .ref (z 14)])), (z 1, .inl (cI, 5, .inl (aN ww))), (z 2, .inl (cI, 5, .inl (aN wa)))] := hD
      refine lv_topr (show _ = nI 1 from rfl) ?_
      refine ix_if_eq (tgt := 48) hx hb (nI_tI (n := 1) (by omega)) d_MO_want_43 (by decide) (fun c_43 => absurd c_43 (by omega)) (fun c_43 => ?_)
      refine lv_iconst (v := nI 0) hx hb d_MO_want_46 (by decide +kernel) ?_
      exact W.iret (v := nI 0) hx hb hr (fun t ht hW => ⟨⟨nI 0, (2, g 6, ww, wa), rfl, ⟨fun q => absurd q (by omega), fun _ => ⟨rfl, rfl, rfl, rfl⟩, fun q => absurd q (by omega)⟩, by rw [ht]; exact hP, va_K.moved hW.alike hK, hD⟩, hS.F ht⟩) hS.2.2 d_MO_want_47
    refine lv_iload_n hx hb d_MO_want_25 rfl (lv_at hl 2 rfl) ?_
    refine lv_iconst (v := nI 0) hx hb d_MO_want_26 (by decide +kernel) ?_
    refine lv_bipush (v := nI 6) hx hb d_MO_want_27 (by decide +kernel) ?_
    refine lv_arg3 (show _ = zI a2 from rfl) (show _ = zI 0 from zI_n _) (show _ = zI 6 from zI_n _) ?_
    refine ro_calli (va_runS (As := [.int (zI a2), .int (zI (0 : Int)), .int (zI (6 : Int))]) (rest := [.int (nI 0), .ref (z 0)]) ⟨hx, hb, hml, hown, hts⟩ (c_MO_in l dC dI cI a2 (0 : Int) (6 : Int) ha2 (by omega) (by omega)) (va_cwS 3 hts (gw_S m_650 m_651 m_8 m_652) rfl rfl rfl (by decide +kernel) ⟨Nat.le_of_ble_eq_true rfl, Nat.le_of_ble_eq_true rfl⟩) ⟨ro_blind, fun U hU hW => ⟨rfl, fun k q h => by simp at h, va_K.moved hW.alike hK⟩⟩ rfl rfl hl.1 rfl (lv_room (Nat.le_of_ble_eq_true rfl)) d_MO_want_29 ⟨Nat.le_of_ble_eq_true rfl, Nat.le_of_ble_eq_true rfl⟩) hS hP (fun r H locs er hP hS => ?_)
    subst er
    have hq29 := @b01_1 ((0 : Int) ≤ a2 ∧ a2 ≤ (6 : Int)) _
    have hr29 := @b01_le ((0 : Int) ≤ a2 ∧ a2 ≤ (6 : Int)) _
    refine ix_if_ne (tgt := 39) hx hb (nI_tI (n := b01 ((0 : Int) ≤ a2 ∧ a2 ≤ (6 : Int))) (by omega)) d_MO_want_32 (by decide) (fun c_32 => ?_) (fun c_32 => ?_)
    · refine lv_iconst (v := nI 0) hx hb d_MO_want_39 (by decide +kernel) ?_
      have hPc := hP.sub (ws' := [(z 0, .inr (7, [.int (nI (g 0)), .int (nI (g 1)), .int (nI (g 2)), .int (nI (g 3)), .int (nI (g 4)), .int (nI (g 5)), .int (nI (g 6)), .ref (z 1), .ref (z 2), .ref (z 3), .ref (z 4), .int (nI (g 7)), .ref (z 5), .ref (z 6), .ref (z 7), .ref (z 8), .ref (z 9), .ref (z 10), .int (nI (g 8)), .ref (z 11), .ref (z 12), .ref (z 13), .ref (z 14)]))]) [0] rfl
      have hDc := hD.sub (ws' := [(z 0, .inr (7, [.int (nI (g 0)), .int (nI (g 1)), .int (nI (g 2)), .int (nI (g 3)), .int (nI (g 4)), .int (nI (g 5)), .int (nI (g 6)), .ref (z 1), .ref (z 2), .ref (z 3), .ref (z 4), .int (nI (g 7)), .ref (z 5), .ref (z 6), .ref (z 7), .ref (z 8), .ref (z 9), .ref (z 10), .int (nI (g 8)), .ref (z 11), .ref (z 12), .ref (z 13), .ref (z 14)]))]) [0] (by decide) rfl
      have hFc := va_free (wc := [(z 0, .inr (7, [.int (nI (g 0)), .int (nI (g 1)), .int (nI (g 2)), .int (nI (g 3)), .int (nI (g 4)), .int (nI (g 5)), .int (nI (g 6)), .ref (z 1), .ref (z 2), .ref (z 3), .ref (z 4), .int (nI (g 7)), .ref (z 5), .ref (z 6), .ref (z 7), .ref (z 8), .ref (z 9), .ref (z 10), .int (nI (g 8)), .ref (z 11), .ref (z 12), .ref (z 13), .ref (z 14)]))]) hD hS hA [0] rfl
      refine va_calli (va_runV (As := [.int (nI 0), .int (nI 0)]) (rest := []) ⟨hx, hb, hml, hown, hts⟩ (c_MO_throwing l dC dI H.size z g cI 0 0 (by decide) (by decide)) (cwV 2 hts (gw_V m_654 m_656 s_16 m_8 m_657) rfl rfl rfl (by decide +kernel) ⟨Nat.le_of_ble_eq_true rfl, Nat.le_of_ble_eq_true rfl⟩) ⟨rw_blind, va_recv hK hPc (ci := 7) (q0 := 0) rfl rfl, fun U hU hW => ⟨rfl, by rw [hU], by rw [hU]; exact hPc, va_K.moved hW.alike hK, hDc.weaken (fun _ _ _ _ => trivial)⟩⟩ rfl rfl hl.1 rfl (lv_room (Nat.le_of_ble_eq_true rfl)) d_MO_want_40 ⟨Nat.le_of_ble_eq_true rfl, Nat.le_of_ble_eq_true rfl⟩) hS (fun q _ h => hFc q h) hFc (fun r u t H1 locs ht hvm hw hB hz1 hk1 hS => ?_)
      obtain ⟨th1, rfl⟩ : ∃ z, z = u := ⟨_, rfl⟩
      obtain ⟨hP1, hK1, hD1⟩ := hB
      rw [ht] at hP1
      try dsimp only at hw
      obtain ⟨hP, hD⟩ := va_join (wr := [(z 1, .inl (cI, 5, .inl (aN ww))), (z 2, .inl (cI, 5, .inl (aN wa)))]) (w1 := [(z 0, .inr (7, [.int (nI th1), .int (nI (g 1)), .int (nI (g 2)), .int (nI (g 3)), .int (nI (g 4)), .int (nI (g 5)), .int (nI (g 6)), .ref (z 1), .ref (z 2), .ref (z 3), .ref (z 4), .int (nI (g 7)), .ref (z 5), .ref (z 6), .ref (z 7), .ref (z 8), .ref (z 9), .ref (z 10), .int (nI (g 8)), .ref (z 11), .ref (z 12), .ref (z 13), .ref (z 14)]))]) hP hD [0] [1, 2] rfl rfl (by decide) (by decide) hk1 hFc hP1 hD1
      generalize H1 = H at hP hS ⊢
      have hP : va_P (dC, dI) vwCl [(z 0, .inr (7, [.int (nI th1), .int (nI (g 1)), .int (nI (g 2)), .int (nI (g 3)), .int (nI (g 4)), .int (nI (g 5)), .int (nI (g 6)), .ref (z 1), .ref (z 2), .ref (z 3), .ref (z 4), .int (nI (g 7)), .ref (z 5), .ref (z 6), .ref (z 7), .ref (z 8), .ref (z 9), .ref (z 10), .int (nI (g 8)), .ref (z 11), .ref (z 12), .ref (z 13), .ref (z 14)])), (z 1, .inl (cI, 5, .inl (aN ww))), (z 2, .inl (cI, 5, .inl (aN wa)))] H := hP.sub [2, 0, 1] rfl
      have hD : va_D A [(z 0, .inr (7, [.int (nI th1), .int (nI (g 1)), .int (nI (g 2)), .int (nI (g 3)), .int (nI (g 4)), .int (nI (g 5)), .int (nI (g 6)), .ref (z 1), .ref (z 2), .ref (z 3), .ref (z 4), .int (nI (g 7)), .ref (z 5), .ref (z 6), .ref (z 7), .ref (z 8), .ref (z 9), .ref (z 10), .int (nI (g 8)), .ref (z 11), .ref (z 12), .ref (z 13), .ref (z 14)])), (z 1, .inl (cI, 5, .inl (aN ww))), (z 2, .inl (cI, 5, .inl (aN wa)))] := hD.sub [2, 0, 1] (by decide) rfl
      obtain ⟨rfl, hth⟩ := hw
      have hth : th1 = 0 := hth
      subst hth
      have hP : va_P (dC, dI) vwCl [(z 0, .inr (7, [.int (nI 0), .int (nI (g 1)), .int (nI (g 2)), .int (nI (g 3)), .int (nI (g 4)), .int (nI (g 5)), .int (nI (g 6)), .ref (z 1), .ref (z 2), .ref (z 3), .ref (z 4), .int (nI (g 7)), .ref (z 5), .ref (z 6), .ref (z 7), .ref (z 8), .ref (z 9), .ref (z 10), .int (nI (g 8)), .ref (z 11), .ref (z 12), .ref (z 13), .ref (z 14)])), (z 1, .inl (cI, 5, .inl (aN ww))), (z 2, .inl (cI, 5, .inl (aN wa)))] H := hP
      have hD : va_D A [(z 0, .inr (7, [.int (nI 0), .int (nI (g 1)), .int (nI (g 2)), .int (nI (g 3)), .int (nI (g 4)), .int (nI (g 5)), .int (nI (g 6)), .ref (z 1), .ref (z 2), .ref (z 3), .ref (z 4), .int (nI (g 7)), .ref (z 5), .ref (z 6), .ref (z 7), .ref (z 8), .ref (z 9), .ref (z 10), .int (nI (g 8)), .ref (z 11), .ref (z 12), .ref (z 13), .ref (z 14)])), (z 1, .inl (cI, 5, .inl (aN ww))), (z 2, .inl (cI, 5, .inl (aN wa)))] := hD
      refine lv_topr (show _ = nI 0 from rfl) ?_
      refine ix_if_eq (tgt := 48) hx hb (nI_tI (n := 0) (by omega)) d_MO_want_43 (by decide) (fun c_43 => ?_) (fun c_43 => absurd c_43 (by omega))
      refine lv_aload_n hx hb d_MO_want_48 rfl (lv_at hl 0 rfl) ?_
      refine va_get (D := (dC, dI)) (ci := 7) (v := .ref (z 1)) (C := R_MO) (T := F_MO) (N := 23) hx hb hts in_MO hown hK hP 0 rfl rfl 7 (by decide) (hts _ m_579) (fun _ h9 => h9) rfl d_MO_want_49 ?_
      refine lv_aload_n hx hb d_MO_want_52 rfl (lv_at hl 0 rfl) ?_
      refine va_get (D := (dC, dI)) (ci := 7) (v := .int (nI (g 6))) (C := R_MO) (T := F_MO) (N := 23) hx hb hts in_MO hown hK hP 0 rfl rfl 6 (by decide) (hts _ m_578) (fun _ h9 => h9) rfl d_MO_want_53 ?_
      refine lv_iload_n hx hb d_MO_want_56 rfl (lv_at hl 1 rfl) ?_
      refine lv_topr (show _ = nI a1.toNat from z_toN (by omega)) ?_
      refine ix_iast (i := g 6) hx hb hK hP hD hS 1 0 rfl rfl (by omega) (by decide) d_MO_want_57 (fun H locs hP hD hS => ?_)
      have hP : va_P (dC, dI) vwCl [(z 0, .inr (7, [.int (nI 0), .int (nI (g 1)), .int (nI (g 2)), .int (nI (g 3)), .int (nI (g 4)), .int (nI (g 5)), .int (nI (g 6)), .ref (z 1), .ref (z 2), .ref (z 3), .ref (z 4), .int (nI (g 7)), .ref (z 5), .ref (z 6), .ref (z 7), .ref (z 8), .ref (z 9), .ref (z 10), .int (nI (g 8)), .ref (z 11), .ref (z 12), .ref (z 13), .ref (z 14)])), (z 1, .inl (cI, 5, .inl (aN (up ww (g 6) a1.toNat)))), (z 2, .inl (cI, 5, .inl (aN wa)))] H := hP
      have hD : va_D A [(z 0, .inr (7, [.int (nI 0), .int (nI (g 1)), .int (nI (g 2)), .int (nI (g 3)), .int (nI (g 4)), .int (nI (g 5)), .int (nI (g 6)), .ref (z 1), .ref (z 2), .ref (z 3), .ref (z 4), .int (nI (g 7)), .ref (z 5), .ref (z 6), .ref (z 7), .ref (z 8), .ref (z 9), .ref (z 10), .int (nI (g 8)), .ref (z 11), .ref (z 12), .ref (z 13), .ref (z 14)])), (z 1, .inl (cI, 5, .inl (aN (up ww (g 6) a1.toNat)))), (z 2, .inl (cI, 5, .inl (aN wa)))] := hD
      refine lv_aload_n hx hb d_MO_want_58 rfl (lv_at hl 0 rfl) ?_
      refine va_get (D := (dC, dI)) (ci := 7) (v := .ref (z 2)) (C := R_MO) (T := F_MO) (N := 23) hx hb hts in_MO hown hK hP 0 rfl rfl 8 (by decide) (hts _ m_580) (fun _ h9 => h9) rfl d_MO_want_59 ?_
      refine lv_aload_n hx hb d_MO_want_62 rfl (lv_at hl 0 rfl) ?_
      refine va_get (D := (dC, dI)) (ci := 7) (v := .int (nI (g 6))) (C := R_MO) (T := F_MO) (N := 23) hx hb hts in_MO hown hK hP 0 rfl rfl 6 (by decide) (hts _ m_578) (fun _ h9 => h9) rfl d_MO_want_63 ?_
      refine lv_iload_n hx hb d_MO_want_66 rfl (lv_at hl 2 rfl) ?_
      refine lv_topr (show _ = nI a2.toNat from z_toN (by omega)) ?_
      refine ix_iast (i := g 6) hx hb hK hP hD hS 2 0 rfl rfl (by omega) (by decide) d_MO_want_67 (fun H locs hP hD hS => ?_)
      have hP : va_P (dC, dI) vwCl [(z 0, .inr (7, [.int (nI 0), .int (nI (g 1)), .int (nI (g 2)), .int (nI (g 3)), .int (nI (g 4)), .int (nI (g 5)), .int (nI (g 6)), .ref (z 1), .ref (z 2), .ref (z 3), .ref (z 4), .int (nI (g 7)), .ref (z 5), .ref (z 6), .ref (z 7), .ref (z 8), .ref (z 9), .ref (z 10), .int (nI (g 8)), .ref (z 11), .ref (z 12), .ref (z 13), .ref (z 14)])), (z 1, .inl (cI, 5, .inl (aN (up ww (g 6) a1.toNat)))), (z 2, .inl (cI, 5, .inl (aN (up wa (g 6) a2.toNat))))] H := hP
      have hD : va_D A [(z 0, .inr (7, [.int (nI 0), .int (nI (g 1)), .int (nI (g 2)), .int (nI (g 3)), .int (nI (g 4)), .int (nI (g 5)), .int (nI (g 6)), .ref (z 1), .ref (z 2), .ref (z 3), .ref (z 4), .int (nI (g 7)), .ref (z 5), .ref (z 6), .ref (z 7), .ref (z 8), .ref (z 9), .ref (z 10), .int (nI (g 8)), .ref (z 11), .ref (z 12), .ref (z 13), .ref (z 14)])), (z 1, .inl (cI, 5, .inl (aN (up ww (g 6) a1.toNat)))), (z 2, .inl (cI, 5, .inl (aN (up wa (g 6) a2.toNat))))] := hD
      refine lv_aload_n hx hb d_MO_want_68 rfl (lv_at hl 0 rfl) ?_
      refine lv_dup hx hb d_MO_want_69 rfl ?_
      refine va_get (D := (dC, dI)) (ci := 7) (v := .int (nI (g 6))) (C := R_MO) (T := F_MO) (N := 23) hx hb hts in_MO hown hK hP 0 rfl rfl 6 (by decide) (hts _ m_578) (fun _ h9 => h9) rfl d_MO_want_70 ?_
      refine lv_iconst (v := nI 1) hx hb d_MO_want_73 (by decide +kernel) ?_
      refine lv_iadd hx hb d_MO_want_74 ?_
      refine lv_topr (show _ = nI ((g 6) + 1) from nn_add _ _) ?_
      refine va_put (D := (dC, dI)) (ci := 7) (v := .int (nI ((g 6) + 1))) (ty := .int) (C := R_MO) (T := F_MO) (N := 23) hx hb hts in_MO t_MO t_MO_ok n_MO hown hK hP hD hS 0 rfl rfl 6 (by decide) (hts _ m_578) (fun _ h9 => h9) rfl (by decide +kernel) rfl rfl (Nat.le_of_ble_eq_true rfl) d_MO_want_75 (fun H locs hP hD hS => ?_)
      have hP : va_P (dC, dI) vwCl [(z 0, .inr (7, [.int (nI 0), .int (nI (g 1)), .int (nI (g 2)), .int (nI (g 3)), .int (nI (g 4)), .int (nI (g 5)), .int (nI ((g 6) + 1)), .ref (z 1), .ref (z 2), .ref (z 3), .ref (z 4), .int (nI (g 7)), .ref (z 5), .ref (z 6), .ref (z 7), .ref (z 8), .ref (z 9), .ref (z 10), .int (nI (g 8)), .ref (z 11), .ref (z 12), .ref (z 13), .ref (z 14)])), (z 1, .inl (cI, 5, .inl (aN (up ww (g 6) a1.toNat)))), (z 2, .inl (cI, 5, .inl (aN (up wa (g 6) a2.toNat))))] H := hP
      have hD : va_D A [(z 0, .inr (7, [.int (nI 0), .int (nI (g 1)), .int (nI (g 2)), .int (nI (g 3)), .int (nI (g 4)), .int (nI (g 5)), .int (nI ((g 6) + 1)), .ref (z 1), .ref (z 2), .ref (z 3), .ref (z 4), .int (nI (g 7)), .ref (z 5), .ref (z 6), .ref (z 7), .ref (z 8), .ref (z 9), .ref (z 10), .int (nI (g 8)), .ref (z 11), .ref (z 12), .ref (z 13), .ref (z 14)])), (z 1, .inl (cI, 5, .inl (aN (up ww (g 6) a1.toNat)))), (z 2, .inl (cI, 5, .inl (aN (up wa (g 6) a2.toNat))))] := hD
      refine lv_aload_n hx hb d_MO_want_78 rfl (lv_at hl 0 rfl) ?_
      refine va_get (D := (dC, dI)) (ci := 7) (v := .int (nI ((g 6) + 1))) (C := R_MO) (T := F_MO) (N := 23) hx hb hts in_MO hown hK hP 0 rfl rfl 6 (by decide) (hts _ m_578) (fun _ h9 => h9) rfl d_MO_want_79 ?_
      refine lv_iconst (v := nI 1) hx hb d_MO_want_82 (by decide +kernel) ?_
      refine lv_isub hx hb d_MO_want_83 ?_
      refine lv_topr (show _ = nI (((g 6) + 1) - 1) from nn_subN (by omega)) ?_
      exact W.iret (v := nI (((g 6) + 1) - 1)) hx hb hr (fun t ht hW => ⟨⟨nI (((g 6) + 1) - 1), (0, (g 6) + 1, up ww (g 6) a1.toNat, up wa (g 6) a2.toNat), rfl, ⟨fun q => absurd q (by omega), fun q => absurd q (by omega), fun _ => ⟨rfl, rfl, rfl, rfl, by rw [Nat.add_sub_cancel]⟩⟩, by rw [ht]; exact hP, va_K.moved hW.alike hK, hD⟩, hS.F ht⟩) hS.2.2 d_MO_want_84
    refine lv_iconst (v := nI 1) hx hb d_MO_want_35 (by decide +kernel) ?_
    refine lv_goto (tgt := 40) hx hb d_MO_want_36 (by decide) ?_
    have hPc := hP.sub (ws' := [(z 0, .inr (7, [.int (nI (g 0)), .int (nI (g 1)), .int (nI (g 2)), .int (nI (g 3)), .int (nI (g 4)), .int (nI (g 5)), .int (nI (g 6)), .ref (z 1), .ref (z 2), .ref (z 3), .ref (z 4), .int (nI (g 7)), .ref (z 5), .ref (z 6), .ref (z 7), .ref (z 8), .ref (z 9), .ref (z 10), .int (nI (g 8)), .ref (z 11), .ref (z 12), .ref (z 13), .ref (z 14)]))]) [0] rfl
    have hDc := hD.sub (ws' := [(z 0, .inr (7, [.int (nI (g 0)), .int (nI (g 1)), .int (nI (g 2)), .int (nI (g 3)), .int (nI (g 4)), .int (nI (g 5)), .int (nI (g 6)), .ref (z 1), .ref (z 2), .ref (z 3), .ref (z 4), .int (nI (g 7)), .ref (z 5), .ref (z 6), .ref (z 7), .ref (z 8), .ref (z 9), .ref (z 10), .int (nI (g 8)), .ref (z 11), .ref (z 12), .ref (z 13), .ref (z 14)]))]) [0] (by decide) rfl
    have hFc := va_free (wc := [(z 0, .inr (7, [.int (nI (g 0)), .int (nI (g 1)), .int (nI (g 2)), .int (nI (g 3)), .int (nI (g 4)), .int (nI (g 5)), .int (nI (g 6)), .ref (z 1), .ref (z 2), .ref (z 3), .ref (z 4), .int (nI (g 7)), .ref (z 5), .ref (z 6), .ref (z 7), .ref (z 8), .ref (z 9), .ref (z 10), .int (nI (g 8)), .ref (z 11), .ref (z 12), .ref (z 13), .ref (z 14)]))]) hD hS hA [0] rfl
    refine va_calli (va_runV (As := [.int (nI 0), .int (nI 1)]) (rest := []) ⟨hx, hb, hml, hown, hts⟩ (c_MO_throwing l dC dI H.size z g cI 0 1 (by decide) (by decide)) (cwV 2 hts (gw_V m_654 m_656 s_16 m_8 m_657) rfl rfl rfl (by decide +kernel) ⟨Nat.le_of_ble_eq_true rfl, Nat.le_of_ble_eq_true rfl⟩) ⟨rw_blind, va_recv hK hPc (ci := 7) (q0 := 0) rfl rfl, fun U hU hW => ⟨rfl, by rw [hU], by rw [hU]; exact hPc, va_K.moved hW.alike hK, hDc.weaken (fun _ _ _ _ => trivial)⟩⟩ rfl rfl hl.1 rfl (lv_room (Nat.le_of_ble_eq_true rfl)) d_MO_want_40 ⟨Nat.le_of_ble_eq_true rfl, Nat.le_of_ble_eq_true rfl⟩) hS (fun q _ h => hFc q h) hFc (fun r u t H1 locs ht hvm hw hB hz1 hk1 hS => ?_)
    obtain ⟨th1, rfl⟩ : ∃ z, z = u := ⟨_, rfl⟩
    obtain ⟨hP1, hK1, hD1⟩ := hB
    rw [ht] at hP1
    try dsimp only at hw
    obtain ⟨hP, hD⟩ := va_join (wr := [(z 1, .inl (cI, 5, .inl (aN ww))), (z 2, .inl (cI, 5, .inl (aN wa)))]) (w1 := [(z 0, .inr (7, [.int (nI th1), .int (nI (g 1)), .int (nI (g 2)), .int (nI (g 3)), .int (nI (g 4)), .int (nI (g 5)), .int (nI (g 6)), .ref (z 1), .ref (z 2), .ref (z 3), .ref (z 4), .int (nI (g 7)), .ref (z 5), .ref (z 6), .ref (z 7), .ref (z 8), .ref (z 9), .ref (z 10), .int (nI (g 8)), .ref (z 11), .ref (z 12), .ref (z 13), .ref (z 14)]))]) hP hD [0] [1, 2] rfl rfl (by decide) (by decide) hk1 hFc hP1 hD1
    generalize H1 = H at hP hS ⊢
    have hP : va_P (dC, dI) vwCl [(z 0, .inr (7, [.int (nI th1), .int (nI (g 1)), .int (nI (g 2)), .int (nI (g 3)), .int (nI (g 4)), .int (nI (g 5)), .int (nI (g 6)), .ref (z 1), .ref (z 2), .ref (z 3), .ref (z 4), .int (nI (g 7)), .ref (z 5), .ref (z 6), .ref (z 7), .ref (z 8), .ref (z 9), .ref (z 10), .int (nI (g 8)), .ref (z 11), .ref (z 12), .ref (z 13), .ref (z 14)])), (z 1, .inl (cI, 5, .inl (aN ww))), (z 2, .inl (cI, 5, .inl (aN wa)))] H := hP.sub [2, 0, 1] rfl
    have hD : va_D A [(z 0, .inr (7, [.int (nI th1), .int (nI (g 1)), .int (nI (g 2)), .int (nI (g 3)), .int (nI (g 4)), .int (nI (g 5)), .int (nI (g 6)), .ref (z 1), .ref (z 2), .ref (z 3), .ref (z 4), .int (nI (g 7)), .ref (z 5), .ref (z 6), .ref (z 7), .ref (z 8), .ref (z 9), .ref (z 10), .int (nI (g 8)), .ref (z 11), .ref (z 12), .ref (z 13), .ref (z 14)])), (z 1, .inl (cI, 5, .inl (aN ww))), (z 2, .inl (cI, 5, .inl (aN wa)))] := hD.sub [2, 0, 1] (by decide) rfl
    obtain ⟨rfl, hth⟩ := hw
    have hth : th1 = 2 := hth
    subst hth
    have hP : va_P (dC, dI) vwCl [(z 0, .inr (7, [.int (nI 2), .int (nI (g 1)), .int (nI (g 2)), .int (nI (g 3)), .int (nI (g 4)), .int (nI (g 5)), .int (nI (g 6)), .ref (z 1), .ref (z 2), .ref (z 3), .ref (z 4), .int (nI (g 7)), .ref (z 5), .ref (z 6), .ref (z 7), .ref (z 8), .ref (z 9), .ref (z 10), .int (nI (g 8)), .ref (z 11), .ref (z 12), .ref (z 13), .ref (z 14)])), (z 1, .inl (cI, 5, .inl (aN ww))), (z 2, .inl (cI, 5, .inl (aN wa)))] H := hP
    have hD : va_D A [(z 0, .inr (7, [.int (nI 2), .int (nI (g 1)), .int (nI (g 2)), .int (nI (g 3)), .int (nI (g 4)), .int (nI (g 5)), .int (nI (g 6)), .ref (z 1), .ref (z 2), .ref (z 3), .ref (z 4), .int (nI (g 7)), .ref (z 5), .ref (z 6), .ref (z 7), .ref (z 8), .ref (z 9), .ref (z 10), .int (nI (g 8)), .ref (z 11), .ref (z 12), .ref (z 13), .ref (z 14)])), (z 1, .inl (cI, 5, .inl (aN ww))), (z 2, .inl (cI, 5, .inl (aN wa)))] := hD
    refine lv_topr (show _ = nI 1 from rfl) ?_
    refine ix_if_eq (tgt := 48) hx hb (nI_tI (n := 1) (by omega)) d_MO_want_43 (by decide) (fun c_43 => absurd c_43 (by omega)) (fun c_43 => ?_)
    refine lv_iconst (v := nI 0) hx hb d_MO_want_46 (by decide +kernel) ?_
    exact W.iret (v := nI 0) hx hb hr (fun t ht hW => ⟨⟨nI 0, (2, g 6, ww, wa), rfl, ⟨fun q => absurd q (by omega), fun _ => ⟨rfl, rfl, rfl, rfl⟩, fun q => absurd q (by omega)⟩, by rw [ht]; exact hP, va_K.moved hW.alike hK, hD⟩, hS.F ht⟩) hS.2.2 d_MO_want_47
  refine lv_iconst (v := nI 1) hx hb d_MO_want_9 (by decide +kernel) ?_
  refine lv_goto (tgt := 14) hx hb d_MO_want_10 (by decide) ?_
  refine lv_iload_n hx hb d_MO_want_14 rfl (lv_at hl 1 rfl) ?_
  refine lv_iconst (v := nI 1) hx hb d_MO_want_15 (by decide +kernel) ?_
  refine lv_sipush (v := nI 20000) hx hb d_MO_want_16 (by decide +kernel) ?_
  refine lv_arg3 (show _ = zI a1 from rfl) (show _ = zI 1 from zI_n _) (show _ = zI 20000 from zI_n _) ?_
  refine ro_calli (va_runS (As := [.int (zI a1), .int (zI (1 : Int)), .int (zI (20000 : Int))]) (rest := [.int (nI 1), .ref (z 0)]) ⟨hx, hb, hml, hown, hts⟩ (c_MO_in l dC dI cI a1 (1 : Int) (20000 : Int) ha1 (by omega) (by omega)) (va_cwS 3 hts (gw_S m_650 m_651 m_8 m_652) rfl rfl rfl (by decide +kernel) ⟨Nat.le_of_ble_eq_true rfl, Nat.le_of_ble_eq_true rfl⟩) ⟨ro_blind, fun U hU hW => ⟨rfl, fun k q h => by simp at h, va_K.moved hW.alike hK⟩⟩ rfl rfl hl.1 rfl (lv_room (Nat.le_of_ble_eq_true rfl)) d_MO_want_19 ⟨Nat.le_of_ble_eq_true rfl, Nat.le_of_ble_eq_true rfl⟩) hS hP (fun r H locs er hP hS => ?_)
  subst er
  have hq19 := @b01_1 ((1 : Int) ≤ a1 ∧ a1 ≤ (20000 : Int)) _
  have hr19 := @b01_le ((1 : Int) ≤ a1 ∧ a1 ≤ (20000 : Int)) _
  refine ix_if_eq (tgt := 35) hx hb (nI_tI (n := b01 ((1 : Int) ≤ a1 ∧ a1 ≤ (20000 : Int))) (by omega)) d_MO_want_22 (by decide) (fun c_22 => ?_) (fun c_22 => ?_)
  · refine lv_iconst (v := nI 1) hx hb d_MO_want_35 (by decide +kernel) ?_
    refine lv_goto (tgt := 40) hx hb d_MO_want_36 (by decide) ?_
    have hPc := hP.sub (ws' := [(z 0, .inr (7, [.int (nI (g 0)), .int (nI (g 1)), .int (nI (g 2)), .int (nI (g 3)), .int (nI (g 4)), .int (nI (g 5)), .int (nI (g 6)), .ref (z 1), .ref (z 2), .ref (z 3), .ref (z 4), .int (nI (g 7)), .ref (z 5), .ref (z 6), .ref (z 7), .ref (z 8), .ref (z 9), .ref (z 10), .int (nI (g 8)), .ref (z 11), .ref (z 12), .ref (z 13), .ref (z 14)]))]) [0] rfl
    have hDc := hD.sub (ws' := [(z 0, .inr (7, [.int (nI (g 0)), .int (nI (g 1)), .int (nI (g 2)), .int (nI (g 3)), .int (nI (g 4)), .int (nI (g 5)), .int (nI (g 6)), .ref (z 1), .ref (z 2), .ref (z 3), .ref (z 4), .int (nI (g 7)), .ref (z 5), .ref (z 6), .ref (z 7), .ref (z 8), .ref (z 9), .ref (z 10), .int (nI (g 8)), .ref (z 11), .ref (z 12), .ref (z 13), .ref (z 14)]))]) [0] (by decide) rfl
    have hFc := va_free (wc := [(z 0, .inr (7, [.int (nI (g 0)), .int (nI (g 1)), .int (nI (g 2)), .int (nI (g 3)), .int (nI (g 4)), .int (nI (g 5)), .int (nI (g 6)), .ref (z 1), .ref (z 2), .ref (z 3), .ref (z 4), .int (nI (g 7)), .ref (z 5), .ref (z 6), .ref (z 7), .ref (z 8), .ref (z 9), .ref (z 10), .int (nI (g 8)), .ref (z 11), .ref (z 12), .ref (z 13), .ref (z 14)]))]) hD hS hA [0] rfl
    refine va_calli (va_runV (As := [.int (nI 1), .int (nI 1)]) (rest := []) ⟨hx, hb, hml, hown, hts⟩ (c_MO_throwing l dC dI H.size z g cI 1 1 (by decide) (by decide)) (cwV 2 hts (gw_V m_654 m_656 s_16 m_8 m_657) rfl rfl rfl (by decide +kernel) ⟨Nat.le_of_ble_eq_true rfl, Nat.le_of_ble_eq_true rfl⟩) ⟨rw_blind, va_recv hK hPc (ci := 7) (q0 := 0) rfl rfl, fun U hU hW => ⟨rfl, by rw [hU], by rw [hU]; exact hPc, va_K.moved hW.alike hK, hDc.weaken (fun _ _ _ _ => trivial)⟩⟩ rfl rfl hl.1 rfl (lv_room (Nat.le_of_ble_eq_true rfl)) d_MO_want_40 ⟨Nat.le_of_ble_eq_true rfl, Nat.le_of_ble_eq_true rfl⟩) hS (fun q _ h => hFc q h) hFc (fun r u t H1 locs ht hvm hw hB hz1 hk1 hS => ?_)
    obtain ⟨th1, rfl⟩ : ∃ z, z = u := ⟨_, rfl⟩
    obtain ⟨hP1, hK1, hD1⟩ := hB
    rw [ht] at hP1
    try dsimp only at hw
    obtain ⟨hP, hD⟩ := va_join (wr := [(z 1, .inl (cI, 5, .inl (aN ww))), (z 2, .inl (cI, 5, .inl (aN wa)))]) (w1 := [(z 0, .inr (7, [.int (nI th1), .int (nI (g 1)), .int (nI (g 2)), .int (nI (g 3)), .int (nI (g 4)), .int (nI (g 5)), .int (nI (g 6)), .ref (z 1), .ref (z 2), .ref (z 3), .ref (z 4), .int (nI (g 7)), .ref (z 5), .ref (z 6), .ref (z 7), .ref (z 8), .ref (z 9), .ref (z 10), .int (nI (g 8)), .ref (z 11), .ref (z 12), .ref (z 13), .ref (z 14)]))]) hP hD [0] [1, 2] rfl rfl (by decide) (by decide) hk1 hFc hP1 hD1
    generalize H1 = H at hP hS ⊢
    have hP : va_P (dC, dI) vwCl [(z 0, .inr (7, [.int (nI th1), .int (nI (g 1)), .int (nI (g 2)), .int (nI (g 3)), .int (nI (g 4)), .int (nI (g 5)), .int (nI (g 6)), .ref (z 1), .ref (z 2), .ref (z 3), .ref (z 4), .int (nI (g 7)), .ref (z 5), .ref (z 6), .ref (z 7), .ref (z 8), .ref (z 9), .ref (z 10), .int (nI (g 8)), .ref (z 11), .ref (z 12), .ref (z 13), .ref (z 14)])), (z 1, .inl (cI, 5, .inl (aN ww))), (z 2, .inl (cI, 5, .inl (aN wa)))] H := hP.sub [2, 0, 1] rfl
    have hD : va_D A [(z 0, .inr (7, [.int (nI th1), .int (nI (g 1)), .int (nI (g 2)), .int (nI (g 3)), .int (nI (g 4)), .int (nI (g 5)), .int (nI (g 6)), .ref (z 1), .ref (z 2), .ref (z 3), .ref (z 4), .int (nI (g 7)), .ref (z 5), .ref (z 6), .ref (z 7), .ref (z 8), .ref (z 9), .ref (z 10), .int (nI (g 8)), .ref (z 11), .ref (z 12), .ref (z 13), .ref (z 14)])), (z 1, .inl (cI, 5, .inl (aN ww))), (z 2, .inl (cI, 5, .inl (aN wa)))] := hD.sub [2, 0, 1] (by decide) rfl
    obtain ⟨rfl, hth⟩ := hw
    have hth : th1 = 1 := hth
    subst hth
    have hP : va_P (dC, dI) vwCl [(z 0, .inr (7, [.int (nI 1), .int (nI (g 1)), .int (nI (g 2)), .int (nI (g 3)), .int (nI (g 4)), .int (nI (g 5)), .int (nI (g 6)), .ref (z 1), .ref (z 2), .ref (z 3), .ref (z 4), .int (nI (g 7)), .ref (z 5), .ref (z 6), .ref (z 7), .ref (z 8), .ref (z 9), .ref (z 10), .int (nI (g 8)), .ref (z 11), .ref (z 12), .ref (z 13), .ref (z 14)])), (z 1, .inl (cI, 5, .inl (aN ww))), (z 2, .inl (cI, 5, .inl (aN wa)))] H := hP
    have hD : va_D A [(z 0, .inr (7, [.int (nI 1), .int (nI (g 1)), .int (nI (g 2)), .int (nI (g 3)), .int (nI (g 4)), .int (nI (g 5)), .int (nI (g 6)), .ref (z 1), .ref (z 2), .ref (z 3), .ref (z 4), .int (nI (g 7)), .ref (z 5), .ref (z 6), .ref (z 7), .ref (z 8), .ref (z 9), .ref (z 10), .int (nI (g 8)), .ref (z 11), .ref (z 12), .ref (z 13), .ref (z 14)])), (z 1, .inl (cI, 5, .inl (aN ww))), (z 2, .inl (cI, 5, .inl (aN wa)))] := hD
    refine lv_topr (show _ = nI 1 from rfl) ?_
    refine ix_if_eq (tgt := 48) hx hb (nI_tI (n := 1) (by omega)) d_MO_want_43 (by decide) (fun c_43 => absurd c_43 (by omega)) (fun c_43 => ?_)
    refine lv_iconst (v := nI 0) hx hb d_MO_want_46 (by decide +kernel) ?_
    exact W.iret (v := nI 0) hx hb hr (fun t ht hW => ⟨⟨nI 0, (1, g 6, ww, wa), rfl, ⟨fun _ => ⟨rfl, rfl, rfl, rfl⟩, fun q => absurd q (by omega), fun q => absurd q (by omega)⟩, by rw [ht]; exact hP, va_K.moved hW.alike hK, hD⟩, hS.F ht⟩) hS.2.2 d_MO_want_47
  refine lv_iload_n hx hb d_MO_want_25 rfl (lv_at hl 2 rfl) ?_
  refine lv_iconst (v := nI 0) hx hb d_MO_want_26 (by decide +kernel) ?_
  refine lv_bipush (v := nI 6) hx hb d_MO_want_27 (by decide +kernel) ?_
  refine lv_arg3 (show _ = zI a2 from rfl) (show _ = zI 0 from zI_n _) (show _ = zI 6 from zI_n _) ?_
  refine ro_calli (va_runS (As := [.int (zI a2), .int (zI (0 : Int)), .int (zI (6 : Int))]) (rest := [.int (nI 1), .ref (z 0)]) ⟨hx, hb, hml, hown, hts⟩ (c_MO_in l dC dI cI a2 (0 : Int) (6 : Int) ha2 (by omega) (by omega)) (va_cwS 3 hts (gw_S m_650 m_651 m_8 m_652) rfl rfl rfl (by decide +kernel) ⟨Nat.le_of_ble_eq_true rfl, Nat.le_of_ble_eq_true rfl⟩) ⟨ro_blind, fun U hU hW => ⟨rfl, fun k q h => by simp at h, va_K.moved hW.alike hK⟩⟩ rfl rfl hl.1 rfl (lv_room (Nat.le_of_ble_eq_true rfl)) d_MO_want_29 ⟨Nat.le_of_ble_eq_true rfl, Nat.le_of_ble_eq_true rfl⟩) hS hP (fun r H locs er hP hS => ?_)
  subst er
  have hq29 := @b01_1 ((0 : Int) ≤ a2 ∧ a2 ≤ (6 : Int)) _
  have hr29 := @b01_le ((0 : Int) ≤ a2 ∧ a2 ≤ (6 : Int)) _
  refine ix_if_ne (tgt := 39) hx hb (nI_tI (n := b01 ((0 : Int) ≤ a2 ∧ a2 ≤ (6 : Int))) (by omega)) d_MO_want_32 (by decide) (fun c_32 => ?_) (fun c_32 => ?_)
  · refine lv_iconst (v := nI 0) hx hb d_MO_want_39 (by decide +kernel) ?_
    have hPc := hP.sub (ws' := [(z 0, .inr (7, [.int (nI (g 0)), .int (nI (g 1)), .int (nI (g 2)), .int (nI (g 3)), .int (nI (g 4)), .int (nI (g 5)), .int (nI (g 6)), .ref (z 1), .ref (z 2), .ref (z 3), .ref (z 4), .int (nI (g 7)), .ref (z 5), .ref (z 6), .ref (z 7), .ref (z 8), .ref (z 9), .ref (z 10), .int (nI (g 8)), .ref (z 11), .ref (z 12), .ref (z 13), .ref (z 14)]))]) [0] rfl
    have hDc := hD.sub (ws' := [(z 0, .inr (7, [.int (nI (g 0)), .int (nI (g 1)), .int (nI (g 2)), .int (nI (g 3)), .int (nI (g 4)), .int (nI (g 5)), .int (nI (g 6)), .ref (z 1), .ref (z 2), .ref (z 3), .ref (z 4), .int (nI (g 7)), .ref (z 5), .ref (z 6), .ref (z 7), .ref (z 8), .ref (z 9), .ref (z 10), .int (nI (g 8)), .ref (z 11), .ref (z 12), .ref (z 13), .ref (z 14)]))]) [0] (by decide) rfl
    have hFc := va_free (wc := [(z 0, .inr (7, [.int (nI (g 0)), .int (nI (g 1)), .int (nI (g 2)), .int (nI (g 3)), .int (nI (g 4)), .int (nI (g 5)), .int (nI (g 6)), .ref (z 1), .ref (z 2), .ref (z 3), .ref (z 4), .int (nI (g 7)), .ref (z 5), .ref (z 6), .ref (z 7), .ref (z 8), .ref (z 9), .ref (z 10), .int (nI (g 8)), .ref (z 11), .ref (z 12), .ref (z 13), .ref (z 14)]))]) hD hS hA [0] rfl
    refine va_calli (va_runV (As := [.int (nI 1), .int (nI 0)]) (rest := []) ⟨hx, hb, hml, hown, hts⟩ (c_MO_throwing l dC dI H.size z g cI 1 0 (by decide) (by decide)) (cwV 2 hts (gw_V m_654 m_656 s_16 m_8 m_657) rfl rfl rfl (by decide +kernel) ⟨Nat.le_of_ble_eq_true rfl, Nat.le_of_ble_eq_true rfl⟩) ⟨rw_blind, va_recv hK hPc (ci := 7) (q0 := 0) rfl rfl, fun U hU hW => ⟨rfl, by rw [hU], by rw [hU]; exact hPc, va_K.moved hW.alike hK, hDc.weaken (fun _ _ _ _ => trivial)⟩⟩ rfl rfl hl.1 rfl (lv_room (Nat.le_of_ble_eq_true rfl)) d_MO_want_40 ⟨Nat.le_of_ble_eq_true rfl, Nat.le_of_ble_eq_true rfl⟩) hS (fun q _ h => hFc q h) hFc (fun r u t H1 locs ht hvm hw hB hz1 hk1 hS => ?_)
    obtain ⟨th1, rfl⟩ : ∃ z, z = u := ⟨_, rfl⟩
    obtain ⟨hP1, hK1, hD1⟩ := hB
    rw [ht] at hP1
    try dsimp only at hw
    obtain ⟨hP, hD⟩ := va_join (wr := [(z 1, .inl (cI, 5, .inl (aN ww))), (z 2, .inl (cI, 5, .inl (aN wa)))]) (w1 := [(z 0, .inr (7, [.int (nI th1), .int (nI (g 1)), .int (nI (g 2)), .int (nI (g 3)), .int (nI (g 4)), .int (nI (g 5)), .int (nI (g 6)), .ref (z 1), .ref (z 2), .ref (z 3), .ref (z 4), .int (nI (g 7)), .ref (z 5), .ref (z 6), .ref (z 7), .ref (z 8), .ref (z 9), .ref (z 10), .int (nI (g 8)), .ref (z 11), .ref (z 12), .ref (z 13), .ref (z 14)]))]) hP hD [0] [1, 2] rfl rfl (by decide) (by decide) hk1 hFc hP1 hD1
    generalize H1 = H at hP hS ⊢
    have hP : va_P (dC, dI) vwCl [(z 0, .inr (7, [.int (nI th1), .int (nI (g 1)), .int (nI (g 2)), .int (nI (g 3)), .int (nI (g 4)), .int (nI (g 5)), .int (nI (g 6)), .ref (z 1), .ref (z 2), .ref (z 3), .ref (z 4), .int (nI (g 7)), .ref (z 5), .ref (z 6), .ref (z 7), .ref (z 8), .ref (z 9), .ref (z 10), .int (nI (g 8)), .ref (z 11), .ref (z 12), .ref (z 13), .ref (z 14)])), (z 1, .inl (cI, 5, .inl (aN ww))), (z 2, .inl (cI, 5, .inl (aN wa)))] H := hP.sub [2, 0, 1] rfl
    have hD : va_D A [(z 0, .inr (7, [.int (nI th1), .int (nI (g 1)), .int (nI (g 2)), .int (nI (g 3)), .int (nI (g 4)), .int (nI (g 5)), .int (nI (g 6)), .ref (z 1), .ref (z 2), .ref (z 3), .ref (z 4), .int (nI (g 7)), .ref (z 5), .ref (z 6), .ref (z 7), .ref (z 8), .ref (z 9), .ref (z 10), .int (nI (g 8)), .ref (z 11), .ref (z 12), .ref (z 13), .ref (z 14)])), (z 1, .inl (cI, 5, .inl (aN ww))), (z 2, .inl (cI, 5, .inl (aN wa)))] := hD.sub [2, 0, 1] (by decide) rfl
    obtain ⟨rfl, hth⟩ := hw
    have hth : th1 = 1 := hth
    subst hth
    have hP : va_P (dC, dI) vwCl [(z 0, .inr (7, [.int (nI 1), .int (nI (g 1)), .int (nI (g 2)), .int (nI (g 3)), .int (nI (g 4)), .int (nI (g 5)), .int (nI (g 6)), .ref (z 1), .ref (z 2), .ref (z 3), .ref (z 4), .int (nI (g 7)), .ref (z 5), .ref (z 6), .ref (z 7), .ref (z 8), .ref (z 9), .ref (z 10), .int (nI (g 8)), .ref (z 11), .ref (z 12), .ref (z 13), .ref (z 14)])), (z 1, .inl (cI, 5, .inl (aN ww))), (z 2, .inl (cI, 5, .inl (aN wa)))] H := hP
    have hD : va_D A [(z 0, .inr (7, [.int (nI 1), .int (nI (g 1)), .int (nI (g 2)), .int (nI (g 3)), .int (nI (g 4)), .int (nI (g 5)), .int (nI (g 6)), .ref (z 1), .ref (z 2), .ref (z 3), .ref (z 4), .int (nI (g 7)), .ref (z 5), .ref (z 6), .ref (z 7), .ref (z 8), .ref (z 9), .ref (z 10), .int (nI (g 8)), .ref (z 11), .ref (z 12), .ref (z 13), .ref (z 14)])), (z 1, .inl (cI, 5, .inl (aN ww))), (z 2, .inl (cI, 5, .inl (aN wa)))] := hD
    refine lv_topr (show _ = nI 1 from rfl) ?_
    refine ix_if_eq (tgt := 48) hx hb (nI_tI (n := 1) (by omega)) d_MO_want_43 (by decide) (fun c_43 => absurd c_43 (by omega)) (fun c_43 => ?_)
    refine lv_iconst (v := nI 0) hx hb d_MO_want_46 (by decide +kernel) ?_
    exact W.iret (v := nI 0) hx hb hr (fun t ht hW => ⟨⟨nI 0, (1, g 6, ww, wa), rfl, ⟨fun _ => ⟨rfl, rfl, rfl, rfl⟩, fun q => absurd q (by omega), fun q => absurd q (by omega)⟩, by rw [ht]; exact hP, va_K.moved hW.alike hK, hD⟩, hS.F ht⟩) hS.2.2 d_MO_want_47
  refine lv_iconst (v := nI 1) hx hb d_MO_want_35 (by decide +kernel) ?_
  refine lv_goto (tgt := 40) hx hb d_MO_want_36 (by decide) ?_
  have hPc := hP.sub (ws' := [(z 0, .inr (7, [.int (nI (g 0)), .int (nI (g 1)), .int (nI (g 2)), .int (nI (g 3)), .int (nI (g 4)), .int (nI (g 5)), .int (nI (g 6)), .ref (z 1), .ref (z 2), .ref (z 3), .ref (z 4), .int (nI (g 7)), .ref (z 5), .ref (z 6), .ref (z 7), .ref (z 8), .ref (z 9), .ref (z 10), .int (nI (g 8)), .ref (z 11), .ref (z 12), .ref (z 13), .ref (z 14)]))]) [0] rfl
  have hDc := hD.sub (ws' := [(z 0, .inr (7, [.int (nI (g 0)), .int (nI (g 1)), .int (nI (g 2)), .int (nI (g 3)), .int (nI (g 4)), .int (nI (g 5)), .int (nI (g 6)), .ref (z 1), .ref (z 2), .ref (z 3), .ref (z 4), .int (nI (g 7)), .ref (z 5), .ref (z 6), .ref (z 7), .ref (z 8), .ref (z 9), .ref (z 10), .int (nI (g 8)), .ref (z 11), .ref (z 12), .ref (z 13), .ref (z 14)]))]) [0] (by decide) rfl
  have hFc := va_free (wc := [(z 0, .inr (7, [.int (nI (g 0)), .int (nI (g 1)), .int (nI (g 2)), .int (nI (g 3)), .int (nI (g 4)), .int (nI (g 5)), .int (nI (g 6)), .ref (z 1), .ref (z 2), .ref (z 3), .ref (z 4), .int (nI (g 7)), .ref (z 5), .ref (z 6), .ref (z 7), .ref (z 8), .ref (z 9), .ref (z 10), .int (nI (g 8)), .ref (z 11), .ref (z 12), .ref (z 13), .ref (z 14)]))]) hD hS hA [0] rfl
  refine va_calli (va_runV (As := [.int (nI 1), .int (nI 1)]) (rest := []) ⟨hx, hb, hml, hown, hts⟩ (c_MO_throwing l dC dI H.size z g cI 1 1 (by decide) (by decide)) (cwV 2 hts (gw_V m_654 m_656 s_16 m_8 m_657) rfl rfl rfl (by decide +kernel) ⟨Nat.le_of_ble_eq_true rfl, Nat.le_of_ble_eq_true rfl⟩) ⟨rw_blind, va_recv hK hPc (ci := 7) (q0 := 0) rfl rfl, fun U hU hW => ⟨rfl, by rw [hU], by rw [hU]; exact hPc, va_K.moved hW.alike hK, hDc.weaken (fun _ _ _ _ => trivial)⟩⟩ rfl rfl hl.1 rfl (lv_room (Nat.le_of_ble_eq_true rfl)) d_MO_want_40 ⟨Nat.le_of_ble_eq_true rfl, Nat.le_of_ble_eq_true rfl⟩) hS (fun q _ h => hFc q h) hFc (fun r u t H1 locs ht hvm hw hB hz1 hk1 hS => ?_)
  obtain ⟨th1, rfl⟩ : ∃ z, z = u := ⟨_, rfl⟩
  obtain ⟨hP1, hK1, hD1⟩ := hB
  rw [ht] at hP1
  try dsimp only at hw
  obtain ⟨hP, hD⟩ := va_join (wr := [(z 1, .inl (cI, 5, .inl (aN ww))), (z 2, .inl (cI, 5, .inl (aN wa)))]) (w1 := [(z 0, .inr (7, [.int (nI th1), .int (nI (g 1)), .int (nI (g 2)), .int (nI (g 3)), .int (nI (g 4)), .int (nI (g 5)), .int (nI (g 6)), .ref (z 1), .ref (z 2), .ref (z 3), .ref (z 4), .int (nI (g 7)), .ref (z 5), .ref (z 6), .ref (z 7), .ref (z 8), .ref (z 9), .ref (z 10), .int (nI (g 8)), .ref (z 11), .ref (z 12), .ref (z 13), .ref (z 14)]))]) hP hD [0] [1, 2] rfl rfl (by decide) (by decide) hk1 hFc hP1 hD1
  generalize H1 = H at hP hS ⊢
  have hP : va_P (dC, dI) vwCl [(z 0, .inr (7, [.int (nI th1), .int (nI (g 1)), .int (nI (g 2)), .int (nI (g 3)), .int (nI (g 4)), .int (nI (g 5)), .int (nI (g 6)), .ref (z 1), .ref (z 2), .ref (z 3), .ref (z 4), .int (nI (g 7)), .ref (z 5), .ref (z 6), .ref (z 7), .ref (z 8), .ref (z 9), .ref (z 10), .int (nI (g 8)), .ref (z 11), .ref (z 12), .ref (z 13), .ref (z 14)])), (z 1, .inl (cI, 5, .inl (aN ww))), (z 2, .inl (cI, 5, .inl (aN wa)))] H := hP.sub [2, 0, 1] rfl
  have hD : va_D A [(z 0, .inr (7, [.int (nI th1), .int (nI (g 1)), .int (nI (g 2)), .int (nI (g 3)), .int (nI (g 4)), .int (nI (g 5)), .int (nI (g 6)), .ref (z 1), .ref (z 2), .ref (z 3), .ref (z 4), .int (nI (g 7)), .ref (z 5), .ref (z 6), .ref (z 7), .ref (z 8), .ref (z 9), .ref (z 10), .int (nI (g 8)), .ref (z 11), .ref (z 12), .ref (z 13), .ref (z 14)])), (z 1, .inl (cI, 5, .inl (aN ww))), (z 2, .inl (cI, 5, .inl (aN wa)))] := hD.sub [2, 0, 1] (by decide) rfl
  obtain ⟨rfl, hth⟩ := hw
  have hth : th1 = 1 := hth
  subst hth
  have hP : va_P (dC, dI) vwCl [(z 0, .inr (7, [.int (nI 1), .int (nI (g 1)), .int (nI (g 2)), .int (nI (g 3)), .int (nI (g 4)), .int (nI (g 5)), .int (nI (g 6)), .ref (z 1), .ref (z 2), .ref (z 3), .ref (z 4), .int (nI (g 7)), .ref (z 5), .ref (z 6), .ref (z 7), .ref (z 8), .ref (z 9), .ref (z 10), .int (nI (g 8)), .ref (z 11), .ref (z 12), .ref (z 13), .ref (z 14)])), (z 1, .inl (cI, 5, .inl (aN ww))), (z 2, .inl (cI, 5, .inl (aN wa)))] H := hP
  have hD : va_D A [(z 0, .inr (7, [.int (nI 1), .int (nI (g 1)), .int (nI (g 2)), .int (nI (g 3)), .int (nI (g 4)), .int (nI (g 5)), .int (nI (g 6)), .ref (z 1), .ref (z 2), .ref (z 3), .ref (z 4), .int (nI (g 7)), .ref (z 5), .ref (z 6), .ref (z 7), .ref (z 8), .ref (z 9), .ref (z 10), .int (nI (g 8)), .ref (z 11), .ref (z 12), .ref (z 13), .ref (z 14)])), (z 1, .inl (cI, 5, .inl (aN ww))), (z 2, .inl (cI, 5, .inl (aN wa)))] := hD
  refine lv_topr (show _ = nI 1 from rfl) ?_
  refine ix_if_eq (tgt := 48) hx hb (nI_tI (n := 1) (by omega)) d_MO_want_43 (by decide) (fun c_43 => absurd c_43 (by omega)) (fun c_43 => ?_)
  refine lv_iconst (v := nI 0) hx hb d_MO_want_46 (by decide +kernel) ?_
  exact W.iret (v := nI 0) hx hb hr (fun t ht hW => ⟨⟨nI 0, (1, g 6, ww, wa), rfl, ⟨fun _ => ⟨rfl, rfl, rfl, rfl⟩, fun q => absurd q (by omega), fun q => absurd q (by omega)⟩, by rw [ht]; exact hP, va_K.moved hW.alike hK, hD⟩, hS.F ht⟩) hS.2.2 d_MO_want_47
set_option maxHeartbeats 4000000 in
set_option maxRecDepth 100000 in
/-- strips(w, n) -/
theorem c_MO_strips (l : Launch) (dC : Nat → ClassId) (dI : Nat → Nat → Nat) (sz : Nat) (z g : Nat → Nat) (cI : ClassId) (wa : Nat → Nat) (h6 : g 6 ≤ 5) (a1 : Int) (a2 : Int) (ha1 : -2147483648 ≤ a1 ∧ a1 < 2147483648) (ha2 : -2147483648 ≤ a2 ∧ a2 < 2147483648) : Met l y_MO_strips w_MO_strips { frames := 1, cells := 0, slots := 0, locals := 22 } (rw_Pc (dC, dI) vwCl [(cI, .int)] sz [.ref (z 0), .int (zI a1), .int (zI a2)] [(z 0, .inr (7, [.int (nI (g 0)), .int (nI (g 1)), .int (nI (g 2)), .int (nI (g 3)), .int (nI (g 4)), .int (nI (g 5)), .int (nI (g 6)), .ref (z 1), .ref (z 2), .ref (z 3), .ref (z 4), .int (nI (g 7)), .ref (z 5), .ref (z 6), .ref (z 7), .ref (z 8), .ref (z 9), .ref (z 10), .int (nI (g 8)), .ref (z 11), .ref (z 12), .ref (z 13), .ref (z 14)])), (z 2, .inl (cI, 5, .inl (aN wa)))]) (va_Qv (fun (u : Nat × (Nat → Nat)) => (¬ (0 ≤ a1 ∧ a1 < g 6) → u.1 = 1 ∧ u.2 = wa) ∧ ((0 ≤ a1 ∧ a1 < g 6) ∧ ¬ (0 ≤ a2 ∧ a2 ≤ 6) → u.1 = 2 ∧ u.2 = wa) ∧ ((0 ≤ a1 ∧ a1 < g 6) ∧ (0 ≤ a2 ∧ a2 ≤ 6) → u.1 = 0 ∧ u.2 = up wa a1.toNat a2.toNat)) (rw_B (dC, dI) vwCl [(cI, .int)] (va_A [(z 0, .inr (7, [.int (nI (g 0)), .int (nI (g 1)), .int (nI (g 2)), .int (nI (g 3)), .int (nI (g 4)), .int (nI (g 5)), .int (nI (g 6)), .ref (z 1), .ref (z 2), .ref (z 3), .ref (z 4), .int (nI (g 7)), .ref (z 5), .ref (z 6), .ref (z 7), .ref (z 8), .ref (z 9), .ref (z 10), .int (nI (g 8)), .ref (z 11), .ref (z 12), .ref (z 13), .ref (z 14)])), (z 2, .inl (cI, 5, .inl (aN wa)))] sz) (fun u : Nat × (Nat → Nat) => [(z 0, .inr (7, [.int (nI u.1), .int (nI (g 1)), .int (nI (g 2)), .int (nI (g 3)), .int (nI (g 4)), .int (nI (g 5)), .int (nI (g 6)), .ref (z 1), .ref (z 2), .ref (z 3), .ref (z 4), .int (nI (g 7)), .ref (z 5), .ref (z 6), .ref (z 7), .ref (z 8), .ref (z 9), .ref (z 10), .int (nI (g 8)), .ref (z 11), .ref (z 12), .ref (z 13), .ref (z 14)])), (z 2, .inl (cI, 5, .inl (aN u.2)))])) (va_A [(z 0, .inr (7, [.int (nI (g 0)), .int (nI (g 1)), .int (nI (g 2)), .int (nI (g 3)), .int (nI (g 4)), .int (nI (g 5)), .int (nI (g 6)), .ref (z 1), .ref (z 2), .ref (z 3), .ref (z 4), .int (nI (g 7)), .ref (z 5), .ref (z 6), .ref (z 7), .ref (z 8), .ref (z 9), .ref (z 10), .int (nI (g 8)), .ref (z 11), .ref (z 12), .ref (z 13), .ref (z 14)])), (z 2, .inl (cI, 5, .inl (aN wa)))] sz)) 0 0 (va_A [(z 0, .inr (7, [.int (nI (g 0)), .int (nI (g 1)), .int (nI (g 2)), .int (nI (g 3)), .int (nI (g 4)), .int (nI (g 5)), .int (nI (g 6)), .ref (z 1), .ref (z 2), .ref (z 3), .ref (z 4), .int (nI (g 7)), .ref (z 5), .ref (z 6), .ref (z 7), .ref (z 8), .ref (z 9), .ref (z 10), .int (nI (g 8)), .ref (z 11), .ref (z 12), .ref (z 13), .ref (z 14)])), (z 2, .inl (cI, 5, .inl (aN wa)))] sz) := by
  refine Met.ofW (cc := b_MO_strips) (maxL := 3) (ret := none) (by decide) rfl ?_
  intro p e s m args below meth c s₁ B hml hv
  obtain ⟨rfl, hsz, hP, hK, hD0⟩ := hv
  have hx := B.exec
  have hb := B.bytes
  have hr := B.returns
  have hts := gw_h (atoms_spec (ws := w_MO_strips) B.pre)
  have hown : s.vm.findClass R_MO = some m.cls := findClass_of_methodNamed B.named
  have hlocks := B.notSynchronized
  subst hsz
  have hD := hD0.self (sz := s.heap.size)
  generalize hAe : va_A [(z 0, .inr (7, [.int (nI (g 0)), .int (nI (g 1)), .int (nI (g 2)), .int (nI (g 3)), .int (nI (g 4)), .int (nI (g 5)), .int (nI (g 6)), .ref (z 1), .ref (z 2), .ref (z 3), .ref (z 4), .int (nI (g 7)), .ref (z 5), .ref (z 6), .ref (z 7), .ref (z 8), .ref (z 9), .ref (z 10), .int (nI (g 8)), .ref (z 11), .ref (z 12), .ref (z 13), .ref (z 14)])), (z 2, .inl (cI, 5, .inl (aN wa)))] s.heap.size = A at hD ⊢
  have hA : ∀ q : Nat, s.heap.size ≤ q → A q := fun q h => by rw [← hAe]; exact Or.inr h
  have hS : va_S A s.heap s.heap [] := va_S.rf
  have hP : va_P (dC, dI) vwCl [(z 0, .inr (7, [.int (nI (g 0)), .int (nI (g 1)), .int (nI (g 2)), .int (nI (g 3)), .int (nI (g 4)), .int (nI (g 5)), .int (nI (g 6)), .ref (z 1), .ref (z 2), .ref (z 3), .ref (z 4), .int (nI (g 7)), .ref (z 5), .ref (z 6), .ref (z 7), .ref (z 8), .ref (z 9), .ref (z 10), .int (nI (g 8)), .ref (z 11), .ref (z 12), .ref (z 13), .ref (z 14)])), (z 2, .inl (cI, 5, .inl (aN wa)))] s.heap := hP
  have hl := lv_entry ([.ref (z 0), .int (zI a1), .int (zI a2)]) (n := 3) (Nat.le_of_ble_eq_true rfl)
  rw [lg_entry_eq]
  generalize (lg_sl ([.ref (z 0), .int (zI a1), .int (zI a2)]) ++ List.replicate (3 - (lg_sl ([.ref (z 0), .int (zI a1), .int (zI a2)])).length) Slot.unset).toArray = ls at hl ⊢
  have hl : lv_has ls 3 [(0, .ref (z 0)), (1, .int (zI a1)), (2, .int (zI a2))] := hl
  refine lv_aload_n hx hb d_MO_strips_0 rfl (lv_at hl 0 rfl) ?_
  refine lv_iload_n hx hb d_MO_strips_1 rfl (lv_at hl 1 rfl) ?_
  refine lv_iconst (v := nI 0) hx hb d_MO_strips_2 (by decide +kernel) ?_
  refine lv_aload_n hx hb d_MO_strips_3 rfl (lv_at hl 0 rfl) ?_
  refine va_get (D := (dC, dI)) (ci := 7) (v := .int (nI (g 6))) (C := R_MO) (T := F_MO) (N := 23) hx hb hts in_MO hown hK hP 0 rfl rfl 6 (by decide) (hts _ m_578) (fun _ h9 => h9) rfl d_MO_strips_4 ?_
  refine lv_iconst (v := nI 1) hx hb d_MO_strips_7 (by decide +kernel) ?_
  refine lv_isub hx hb d_MO_strips_8 ?_
  refine lv_topr (show _ = zI (((g 6 : Nat) : Int) - ((1 : Nat) : Int)) from nn_sub _ _) ?_
  refine lv_topr (show _ = zI ((g 6 : Int) - 1) from congrArg zI (by omega)) ?_
  refine lv_arg3 (show _ = zI a1 from rfl) (show _ = zI 0 from zI_n _) (show _ = zI ((g 6 : Int) - 1) from rfl) ?_
  refine ro_calli (va_runS (As := [.int (zI a1), .int (zI (0 : Int)), .int (zI ((g 6 : Int) - 1))]) (rest := [.ref (z 0)]) ⟨hx, hb, hml, hown, hts⟩ (c_MO_in l dC dI cI a1 (0 : Int) ((g 6 : Int) - 1) ha1 (by omega) (by omega)) (va_cwS 3 hts (gw_S m_650 m_651 m_8 m_652) rfl rfl rfl (by decide +kernel) ⟨Nat.le_of_ble_eq_true rfl, Nat.le_of_ble_eq_true rfl⟩) ⟨ro_blind, fun U hU hW => ⟨rfl, fun k q h => by simp at h, va_K.moved hW.alike hK⟩⟩ rfl rfl hl.1 rfl (lv_room (Nat.le_of_ble_eq_true rfl)) d_MO_strips_9 ⟨Nat.le_of_ble_eq_true rfl, Nat.le_of_ble_eq_true rfl⟩) hS hP (fun r H locs er hP hS => ?_)
  subst er
  have hq9 := @b01_1 ((0 : Int) ≤ a1 ∧ a1 ≤ (g 6 : Int) - 1) _
  have hr9 := @b01_le ((0 : Int) ≤ a1 ∧ a1 ≤ (g 6 : Int) - 1) _
  refine ix_if_ne (tgt := 19) hx hb (nI_tI (n := b01 ((0 : Int) ≤ a1 ∧ a1 ≤ (g 6 : Int) - 1)) (by omega)) d_MO_strips_12 (by decide) (fun c_12 => ?_) (fun c_12 => ?_)
  · refine lv_iconst (v := nI 0) hx hb d_MO_strips_19 (by decide +kernel) ?_
    refine lv_iload_n hx hb d_MO_strips_20 rfl (lv_at hl 2 rfl) ?_
    refine lv_iconst (v := nI 0) hx hb d_MO_strips_21 (by decide +kernel) ?_
    refine lv_bipush (v := nI 6) hx hb d_MO_strips_22 (by decide +kernel) ?_
    refine lv_arg3 (show _ = zI a2 from rfl) (show _ = zI 0 from zI_n _) (show _ = zI 6 from zI_n _) ?_
    refine ro_calli (va_runS (As := [.int (zI a2), .int (zI (0 : Int)), .int (zI (6 : Int))]) (rest := [.int (nI 0), .ref (z 0)]) ⟨hx, hb, hml, hown, hts⟩ (c_MO_in l dC dI cI a2 (0 : Int) (6 : Int) ha2 (by omega) (by omega)) (va_cwS 3 hts (gw_S m_650 m_651 m_8 m_652) rfl rfl rfl (by decide +kernel) ⟨Nat.le_of_ble_eq_true rfl, Nat.le_of_ble_eq_true rfl⟩) ⟨ro_blind, fun U hU hW => ⟨rfl, fun k q h => by simp at h, va_K.moved hW.alike hK⟩⟩ rfl rfl hl.1 rfl (lv_room (Nat.le_of_ble_eq_true rfl)) d_MO_strips_24 ⟨Nat.le_of_ble_eq_true rfl, Nat.le_of_ble_eq_true rfl⟩) hS hP (fun r H locs er hP hS => ?_)
    subst er
    have hq24 := @b01_1 ((0 : Int) ≤ a2 ∧ a2 ≤ (6 : Int)) _
    have hr24 := @b01_le ((0 : Int) ≤ a2 ∧ a2 ≤ (6 : Int)) _
    refine ix_if_ne (tgt := 34) hx hb (nI_tI (n := b01 ((0 : Int) ≤ a2 ∧ a2 ≤ (6 : Int))) (by omega)) d_MO_strips_27 (by decide) (fun c_27 => ?_) (fun c_27 => ?_)
    · refine lv_iconst (v := nI 0) hx hb d_MO_strips_34 (by decide +kernel) ?_
      have hPc := hP.sub (ws' := [(z 0, .inr (7, [.int (nI (g 0)), .int (nI (g 1)), .int (nI (g 2)), .int (nI (g 3)), .int (nI (g 4)), .int (nI (g 5)), .int (nI (g 6)), .ref (z 1), .ref (z 2), .ref (z 3), .ref (z 4), .int (nI (g 7)), .ref (z 5), .ref (z 6), .ref (z 7), .ref (z 8), .ref (z 9), .ref (z 10), .int (nI (g 8)), .ref (z 11), .ref (z 12), .ref (z 13), .ref (z 14)]))]) [0] rfl
      have hDc := hD.sub (ws' := [(z 0, .inr (7, [.int (nI (g 0)), .int (nI (g 1)), .int (nI (g 2)), .int (nI (g 3)), .int (nI (g 4)), .int (nI (g 5)), .int (nI (g 6)), .ref (z 1), .ref (z 2), .ref (z 3), .ref (z 4), .int (nI (g 7)), .ref (z 5), .ref (z 6), .ref (z 7), .ref (z 8), .ref (z 9), .ref (z 10), .int (nI (g 8)), .ref (z 11), .ref (z 12), .ref (z 13), .ref (z 14)]))]) [0] (by decide) rfl
      have hFc := va_free (wc := [(z 0, .inr (7, [.int (nI (g 0)), .int (nI (g 1)), .int (nI (g 2)), .int (nI (g 3)), .int (nI (g 4)), .int (nI (g 5)), .int (nI (g 6)), .ref (z 1), .ref (z 2), .ref (z 3), .ref (z 4), .int (nI (g 7)), .ref (z 5), .ref (z 6), .ref (z 7), .ref (z 8), .ref (z 9), .ref (z 10), .int (nI (g 8)), .ref (z 11), .ref (z 12), .ref (z 13), .ref (z 14)]))]) hD hS hA [0] rfl
      refine va_calli (va_runV (As := [.int (nI 0), .int (nI 0)]) (rest := []) ⟨hx, hb, hml, hown, hts⟩ (c_MO_throwing l dC dI H.size z g cI 0 0 (by decide) (by decide)) (cwV 2 hts (gw_V m_654 m_656 s_16 m_8 m_657) rfl rfl rfl (by decide +kernel) ⟨Nat.le_of_ble_eq_true rfl, Nat.le_of_ble_eq_true rfl⟩) ⟨rw_blind, va_recv hK hPc (ci := 7) (q0 := 0) rfl rfl, fun U hU hW => ⟨rfl, by rw [hU], by rw [hU]; exact hPc, va_K.moved hW.alike hK, hDc.weaken (fun _ _ _ _ => trivial)⟩⟩ rfl rfl hl.1 rfl (lv_room (Nat.le_of_ble_eq_true rfl)) d_MO_strips_35 ⟨Nat.le_of_ble_eq_true rfl, Nat.le_of_ble_eq_true rfl⟩) hS (fun q _ h => hFc q h) hFc (fun r u t H1 locs ht hvm hw hB hz1 hk1 hS => ?_)
      obtain ⟨th1, rfl⟩ : ∃ z, z = u := ⟨_, rfl⟩
      obtain ⟨hP1, hK1, hD1⟩ := hB
      rw [ht] at hP1
      try dsimp only at hw
      obtain ⟨hP, hD⟩ := va_join (wr := [(z 2, .inl (cI, 5, .inl (aN wa)))]) (w1 := [(z 0, .inr (7, [.int (nI th1), .int (nI (g 1)), .int (nI (g 2)), .int (nI (g 3)), .int (nI (g 4)), .int (nI (g 5)), .int (nI (g 6)), .ref (z 1), .ref (z 2), .ref (z 3), .ref (z 4), .int (nI (g 7)), .ref (z 5), .ref (z 6), .ref (z 7), .ref (z 8), .ref (z 9), .ref (z 10), .int (nI (g 8)), .ref (z 11), .ref (z 12), .ref (z 13), .ref (z 14)]))]) hP hD [0] [1] rfl rfl (by decide) (by decide) hk1 hFc hP1 hD1
      generalize H1 = H at hP hS ⊢
      have hP : va_P (dC, dI) vwCl [(z 0, .inr (7, [.int (nI th1), .int (nI (g 1)), .int (nI (g 2)), .int (nI (g 3)), .int (nI (g 4)), .int (nI (g 5)), .int (nI (g 6)), .ref (z 1), .ref (z 2), .ref (z 3), .ref (z 4), .int (nI (g 7)), .ref (z 5), .ref (z 6), .ref (z 7), .ref (z 8), .ref (z 9), .ref (z 10), .int (nI (g 8)), .ref (z 11), .ref (z 12), .ref (z 13), .ref (z 14)])), (z 2, .inl (cI, 5, .inl (aN wa)))] H := hP.sub [1, 0] rfl
      have hD : va_D A [(z 0, .inr (7, [.int (nI th1), .int (nI (g 1)), .int (nI (g 2)), .int (nI (g 3)), .int (nI (g 4)), .int (nI (g 5)), .int (nI (g 6)), .ref (z 1), .ref (z 2), .ref (z 3), .ref (z 4), .int (nI (g 7)), .ref (z 5), .ref (z 6), .ref (z 7), .ref (z 8), .ref (z 9), .ref (z 10), .int (nI (g 8)), .ref (z 11), .ref (z 12), .ref (z 13), .ref (z 14)])), (z 2, .inl (cI, 5, .inl (aN wa)))] := hD.sub [1, 0] (by decide) rfl
      obtain ⟨rfl, hth⟩ := hw
      have hth : th1 = 0 := hth
      subst hth
      have hP : va_P (dC, dI) vwCl [(z 0, .inr (7, [.int (nI 0), .int (nI (g 1)), .int (nI (g 2)), .int (nI (g 3)), .int (nI (g 4)), .int (nI (g 5)), .int (nI (g 6)), .ref (z 1), .ref (z 2), .ref (z 3), .ref (z 4), .int (nI (g 7)), .ref (z 5), .ref (z 6), .ref (z 7), .ref (z 8), .ref (z 9), .ref (z 10), .int (nI (g 8)), .ref (z 11), .ref (z 12), .ref (z 13), .ref (z 14)])), (z 2, .inl (cI, 5, .inl (aN wa)))] H := hP
      have hD : va_D A [(z 0, .inr (7, [.int (nI 0), .int (nI (g 1)), .int (nI (g 2)), .int (nI (g 3)), .int (nI (g 4)), .int (nI (g 5)), .int (nI (g 6)), .ref (z 1), .ref (z 2), .ref (z 3), .ref (z 4), .int (nI (g 7)), .ref (z 5), .ref (z 6), .ref (z 7), .ref (z 8), .ref (z 9), .ref (z 10), .int (nI (g 8)), .ref (z 11), .ref (z 12), .ref (z 13), .ref (z 14)])), (z 2, .inl (cI, 5, .inl (aN wa)))] := hD
      refine lv_topr (show _ = nI 0 from rfl) ?_
      refine ix_if_eq (tgt := 42) hx hb (nI_tI (n := 0) (by omega)) d_MO_strips_38 (by decide) (fun c_38 => ?_) (fun c_38 => absurd c_38 (by omega))
      refine lv_aload_n hx hb d_MO_strips_42 rfl (lv_at hl 0 rfl) ?_
      refine va_get (D := (dC, dI)) (ci := 7) (v := .ref (z 2)) (C := R_MO) (T := F_MO) (N := 23) hx hb hts in_MO hown hK hP 0 rfl rfl 8 (by decide) (hts _ m_580) (fun _ h9 => h9) rfl d_MO_strips_43 ?_
      refine lv_iload_n hx hb d_MO_strips_46 rfl (lv_at hl 1 rfl) ?_
      refine lv_topr (show _ = nI a1.toNat from z_toN (by omega)) ?_
      refine lv_iload_n hx hb d_MO_strips_47 rfl (lv_at hl 2 rfl) ?_
      refine lv_topr (show _ = nI a2.toNat from z_toN (by omega)) ?_
      refine ix_iast (i := a1.toNat) hx hb hK hP hD hS 1 0 rfl rfl (by omega) (by decide) d_MO_strips_48 (fun H locs hP hD hS => ?_)
      have hP : va_P (dC, dI) vwCl [(z 0, .inr (7, [.int (nI 0), .int (nI (g 1)), .int (nI (g 2)), .int (nI (g 3)), .int (nI (g 4)), .int (nI (g 5)), .int (nI (g 6)), .ref (z 1), .ref (z 2), .ref (z 3), .ref (z 4), .int (nI (g 7)), .ref (z 5), .ref (z 6), .ref (z 7), .ref (z 8), .ref (z 9), .ref (z 10), .int (nI (g 8)), .ref (z 11), .ref (z 12), .ref (z 13), .ref (z 14)])), (z 2, .inl (cI, 5, .inl (aN (up wa a1.toNat a2.toNat))))] H := hP
      have hD : va_D A [(z 0, .inr (7, [.int (nI 0), .int (nI (g 1)), .int (nI (g 2)), .int (nI (g 3)), .int (nI (g 4)), .int (nI (g 5)), .int (nI (g 6)), .ref (z 1), .ref (z 2), .ref (z 3), .ref (z 4), .int (nI (g 7)), .ref (z 5), .ref (z 6), .ref (z 7), .ref (z 8), .ref (z 9), .ref (z 10), .int (nI (g 8)), .ref (z 11), .ref (z 12), .ref (z 13), .ref (z 14)])), (z 2, .inl (cI, 5, .inl (aN (up wa a1.toNat a2.toNat))))] := hD
      exact W.vret hx hb hr (fun t ht hW => ⟨⟨(0, up wa a1.toNat a2.toNat), rfl, ⟨fun q => absurd q (by omega), fun q => absurd q (by omega), fun _ => ⟨rfl, rfl⟩⟩, by rw [ht]; exact hP, va_K.moved hW.alike hK, hD⟩, hS.F ht⟩) hS.2.2 d_MO_strips_49
    refine lv_iconst (v := nI 1) hx hb d_MO_strips_30 (by decide +kernel) ?_
    refine lv_goto (tgt := 35) hx hb d_MO_strips_31 (by decide) ?_
    have hPc := hP.sub (ws' := [(z 0, .inr (7, [.int (nI (g 0)), .int (nI (g 1)), .int (nI (g 2)), .int (nI (g 3)), .int (nI (g 4)), .int (nI (g 5)), .int (nI (g 6)), .ref (z 1), .ref (z 2), .ref (z 3), .ref (z 4), .int (nI (g 7)), .ref (z 5), .ref (z 6), .ref (z 7), .ref (z 8), .ref (z 9), .ref (z 10), .int (nI (g 8)), .ref (z 11), .ref (z 12), .ref (z 13), .ref (z 14)]))]) [0] rfl
    have hDc := hD.sub (ws' := [(z 0, .inr (7, [.int (nI (g 0)), .int (nI (g 1)), .int (nI (g 2)), .int (nI (g 3)), .int (nI (g 4)), .int (nI (g 5)), .int (nI (g 6)), .ref (z 1), .ref (z 2), .ref (z 3), .ref (z 4), .int (nI (g 7)), .ref (z 5), .ref (z 6), .ref (z 7), .ref (z 8), .ref (z 9), .ref (z 10), .int (nI (g 8)), .ref (z 11), .ref (z 12), .ref (z 13), .ref (z 14)]))]) [0] (by decide) rfl
    have hFc := va_free (wc := [(z 0, .inr (7, [.int (nI (g 0)), .int (nI (g 1)), .int (nI (g 2)), .int (nI (g 3)), .int (nI (g 4)), .int (nI (g 5)), .int (nI (g 6)), .ref (z 1), .ref (z 2), .ref (z 3), .ref (z 4), .int (nI (g 7)), .ref (z 5), .ref (z 6), .ref (z 7), .ref (z 8), .ref (z 9), .ref (z 10), .int (nI (g 8)), .ref (z 11), .ref (z 12), .ref (z 13), .ref (z 14)]))]) hD hS hA [0] rfl
    refine va_calli (va_runV (As := [.int (nI 0), .int (nI 1)]) (rest := []) ⟨hx, hb, hml, hown, hts⟩ (c_MO_throwing l dC dI H.size z g cI 0 1 (by decide) (by decide)) (cwV 2 hts (gw_V m_654 m_656 s_16 m_8 m_657) rfl rfl rfl (by decide +kernel) ⟨Nat.le_of_ble_eq_true rfl, Nat.le_of_ble_eq_true rfl⟩) ⟨rw_blind, va_recv hK hPc (ci := 7) (q0 := 0) rfl rfl, fun U hU hW => ⟨rfl, by rw [hU], by rw [hU]; exact hPc, va_K.moved hW.alike hK, hDc.weaken (fun _ _ _ _ => trivial)⟩⟩ rfl rfl hl.1 rfl (lv_room (Nat.le_of_ble_eq_true rfl)) d_MO_strips_35 ⟨Nat.le_of_ble_eq_true rfl, Nat.le_of_ble_eq_true rfl⟩) hS (fun q _ h => hFc q h) hFc (fun r u t H1 locs ht hvm hw hB hz1 hk1 hS => ?_)
    obtain ⟨th1, rfl⟩ : ∃ z, z = u := ⟨_, rfl⟩
    obtain ⟨hP1, hK1, hD1⟩ := hB
    rw [ht] at hP1
    try dsimp only at hw
    obtain ⟨hP, hD⟩ := va_join (wr := [(z 2, .inl (cI, 5, .inl (aN wa)))]) (w1 := [(z 0, .inr (7, [.int (nI th1), .int (nI (g 1)), .int (nI (g 2)), .int (nI (g 3)), .int (nI (g 4)), .int (nI (g 5)), .int (nI (g 6)), .ref (z 1), .ref (z 2), .ref (z 3), .ref (z 4), .int (nI (g 7)), .ref (z 5), .ref (z 6), .ref (z 7), .ref (z 8), .ref (z 9), .ref (z 10), .int (nI (g 8)), .ref (z 11), .ref (z 12), .ref (z 13), .ref (z 14)]))]) hP hD [0] [1] rfl rfl (by decide) (by decide) hk1 hFc hP1 hD1
    generalize H1 = H at hP hS ⊢
    have hP : va_P (dC, dI) vwCl [(z 0, .inr (7, [.int (nI th1), .int (nI (g 1)), .int (nI (g 2)), .int (nI (g 3)), .int (nI (g 4)), .int (nI (g 5)), .int (nI (g 6)), .ref (z 1), .ref (z 2), .ref (z 3), .ref (z 4), .int (nI (g 7)), .ref (z 5), .ref (z 6), .ref (z 7), .ref (z 8), .ref (z 9), .ref (z 10), .int (nI (g 8)), .ref (z 11), .ref (z 12), .ref (z 13), .ref (z 14)])), (z 2, .inl (cI, 5, .inl (aN wa)))] H := hP.sub [1, 0] rfl
    have hD : va_D A [(z 0, .inr (7, [.int (nI th1), .int (nI (g 1)), .int (nI (g 2)), .int (nI (g 3)), .int (nI (g 4)), .int (nI (g 5)), .int (nI (g 6)), .ref (z 1), .ref (z 2), .ref (z 3), .ref (z 4), .int (nI (g 7)), .ref (z 5), .ref (z 6), .ref (z 7), .ref (z 8), .ref (z 9), .ref (z 10), .int (nI (g 8)), .ref (z 11), .ref (z 12), .ref (z 13), .ref (z 14)])), (z 2, .inl (cI, 5, .inl (aN wa)))] := hD.sub [1, 0] (by decide) rfl
    obtain ⟨rfl, hth⟩ := hw
    have hth : th1 = 2 := hth
    subst hth
    have hP : va_P (dC, dI) vwCl [(z 0, .inr (7, [.int (nI 2), .int (nI (g 1)), .int (nI (g 2)), .int (nI (g 3)), .int (nI (g 4)), .int (nI (g 5)), .int (nI (g 6)), .ref (z 1), .ref (z 2), .ref (z 3), .ref (z 4), .int (nI (g 7)), .ref (z 5), .ref (z 6), .ref (z 7), .ref (z 8), .ref (z 9), .ref (z 10), .int (nI (g 8)), .ref (z 11), .ref (z 12), .ref (z 13), .ref (z 14)])), (z 2, .inl (cI, 5, .inl (aN wa)))] H := hP
    have hD : va_D A [(z 0, .inr (7, [.int (nI 2), .int (nI (g 1)), .int (nI (g 2)), .int (nI (g 3)), .int (nI (g 4)), .int (nI (g 5)), .int (nI (g 6)), .ref (z 1), .ref (z 2), .ref (z 3), .ref (z 4), .int (nI (g 7)), .ref (z 5), .ref (z 6), .ref (z 7), .ref (z 8), .ref (z 9), .ref (z 10), .int (nI (g 8)), .ref (z 11), .ref (z 12), .ref (z 13), .ref (z 14)])), (z 2, .inl (cI, 5, .inl (aN wa)))] := hD
    refine lv_topr (show _ = nI 1 from rfl) ?_
    refine ix_if_eq (tgt := 42) hx hb (nI_tI (n := 1) (by omega)) d_MO_strips_38 (by decide) (fun c_38 => absurd c_38 (by omega)) (fun c_38 => ?_)
    exact W.vret hx hb hr (fun t ht hW => ⟨⟨(2, wa), rfl, ⟨fun q => absurd q (by omega), fun _ => ⟨rfl, rfl⟩, fun q => absurd q (by omega)⟩, by rw [ht]; exact hP, va_K.moved hW.alike hK, hD⟩, hS.F ht⟩) hS.2.2 d_MO_strips_41
  refine lv_iconst (v := nI 1) hx hb d_MO_strips_15 (by decide +kernel) ?_
  refine lv_goto (tgt := 20) hx hb d_MO_strips_16 (by decide) ?_
  refine lv_iload_n hx hb d_MO_strips_20 rfl (lv_at hl 2 rfl) ?_
  refine lv_iconst (v := nI 0) hx hb d_MO_strips_21 (by decide +kernel) ?_
  refine lv_bipush (v := nI 6) hx hb d_MO_strips_22 (by decide +kernel) ?_
  refine lv_arg3 (show _ = zI a2 from rfl) (show _ = zI 0 from zI_n _) (show _ = zI 6 from zI_n _) ?_
  refine ro_calli (va_runS (As := [.int (zI a2), .int (zI (0 : Int)), .int (zI (6 : Int))]) (rest := [.int (nI 1), .ref (z 0)]) ⟨hx, hb, hml, hown, hts⟩ (c_MO_in l dC dI cI a2 (0 : Int) (6 : Int) ha2 (by omega) (by omega)) (va_cwS 3 hts (gw_S m_650 m_651 m_8 m_652) rfl rfl rfl (by decide +kernel) ⟨Nat.le_of_ble_eq_true rfl, Nat.le_of_ble_eq_true rfl⟩) ⟨ro_blind, fun U hU hW => ⟨rfl, fun k q h => by simp at h, va_K.moved hW.alike hK⟩⟩ rfl rfl hl.1 rfl (lv_room (Nat.le_of_ble_eq_true rfl)) d_MO_strips_24 ⟨Nat.le_of_ble_eq_true rfl, Nat.le_of_ble_eq_true rfl⟩) hS hP (fun r H locs er hP hS => ?_)
  subst er
  have hq24 := @b01_1 ((0 : Int) ≤ a2 ∧ a2 ≤ (6 : Int)) _
  have hr24 := @b01_le ((0 : Int) ≤ a2 ∧ a2 ≤ (6 : Int)) _
  refine ix_if_ne (tgt := 34) hx hb (nI_tI (n := b01 ((0 : Int) ≤ a2 ∧ a2 ≤ (6 : Int))) (by omega)) d_MO_strips_27 (by decide) (fun c_27 => ?_) (fun c_27 => ?_)
  · refine lv_iconst (v := nI 0) hx hb d_MO_strips_34 (by decide +kernel) ?_
    have hPc := hP.sub (ws' := [(z 0, .inr (7, [.int (nI (g 0)), .int (nI (g 1)), .int (nI (g 2)), .int (nI (g 3)), .int (nI (g 4)), .int (nI (g 5)), .int (nI (g 6)), .ref (z 1), .ref (z 2), .ref (z 3), .ref (z 4), .int (nI (g 7)), .ref (z 5), .ref (z 6), .ref (z 7), .ref (z 8), .ref (z 9), .ref (z 10), .int (nI (g 8)), .ref (z 11), .ref (z 12), .ref (z 13), .ref (z 14)]))]) [0] rfl
    have hDc := hD.sub (ws' := [(z 0, .inr (7, [.int (nI (g 0)), .int (nI (g 1)), .int (nI (g 2)), .int (nI (g 3)), .int (nI (g 4)), .int (nI (g 5)), .int (nI (g 6)), .ref (z 1), .ref (z 2), .ref (z 3), .ref (z 4), .int (nI (g 7)), .ref (z 5), .ref (z 6), .ref (z 7), .ref (z 8), .ref (z 9), .ref (z 10), .int (nI (g 8)), .ref (z 11), .ref (z 12), .ref (z 13), .ref (z 14)]))]) [0] (by decide) rfl
    have hFc := va_free (wc := [(z 0, .inr (7, [.int (nI (g 0)), .int (nI (g 1)), .int (nI (g 2)), .int (nI (g 3)), .int (nI (g 4)), .int (nI (g 5)), .int (nI (g 6)), .ref (z 1), .ref (z 2), .ref (z 3), .ref (z 4), .int (nI (g 7)), .ref (z 5), .ref (z 6), .ref (z 7), .ref (z 8), .ref (z 9), .ref (z 10), .int (nI (g 8)), .ref (z 11), .ref (z 12), .ref (z 13), .ref (z 14)]))]) hD hS hA [0] rfl
    refine va_calli (va_runV (As := [.int (nI 1), .int (nI 0)]) (rest := []) ⟨hx, hb, hml, hown, hts⟩ (c_MO_throwing l dC dI H.size z g cI 1 0 (by decide) (by decide)) (cwV 2 hts (gw_V m_654 m_656 s_16 m_8 m_657) rfl rfl rfl (by decide +kernel) ⟨Nat.le_of_ble_eq_true rfl, Nat.le_of_ble_eq_true rfl⟩) ⟨rw_blind, va_recv hK hPc (ci := 7) (q0 := 0) rfl rfl, fun U hU hW => ⟨rfl, by rw [hU], by rw [hU]; exact hPc, va_K.moved hW.alike hK, hDc.weaken (fun _ _ _ _ => trivial)⟩⟩ rfl rfl hl.1 rfl (lv_room (Nat.le_of_ble_eq_true rfl)) d_MO_strips_35 ⟨Nat.le_of_ble_eq_true rfl, Nat.le_of_ble_eq_true rfl⟩) hS (fun q _ h => hFc q h) hFc (fun r u t H1 locs ht hvm hw hB hz1 hk1 hS => ?_)
    obtain ⟨th1, rfl⟩ : ∃ z, z = u := ⟨_, rfl⟩
    obtain ⟨hP1, hK1, hD1⟩ := hB
    rw [ht] at hP1
    try dsimp only at hw
    obtain ⟨hP, hD⟩ := va_join (wr := [(z 2, .inl (cI, 5, .inl (aN wa)))]) (w1 := [(z 0, .inr (7, [.int (nI th1), .int (nI (g 1)), .int (nI (g 2)), .int (nI (g 3)), .int (nI (g 4)), .int (nI (g 5)), .int (nI (g 6)), .ref (z 1), .ref (z 2), .ref (z 3), .ref (z 4), .int (nI (g 7)), .ref (z 5), .ref (z 6), .ref (z 7), .ref (z 8), .ref (z 9), .ref (z 10), .int (nI (g 8)), .ref (z 11), .ref (z 12), .ref (z 13), .ref (z 14)]))]) hP hD [0] [1] rfl rfl (by decide) (by decide) hk1 hFc hP1 hD1
    generalize H1 = H at hP hS ⊢
    have hP : va_P (dC, dI) vwCl [(z 0, .inr (7, [.int (nI th1), .int (nI (g 1)), .int (nI (g 2)), .int (nI (g 3)), .int (nI (g 4)), .int (nI (g 5)), .int (nI (g 6)), .ref (z 1), .ref (z 2), .ref (z 3), .ref (z 4), .int (nI (g 7)), .ref (z 5), .ref (z 6), .ref (z 7), .ref (z 8), .ref (z 9), .ref (z 10), .int (nI (g 8)), .ref (z 11), .ref (z 12), .ref (z 13), .ref (z 14)])), (z 2, .inl (cI, 5, .inl (aN wa)))] H := hP.sub [1, 0] rfl
    have hD : va_D A [(z 0, .inr (7, [.int (nI th1), .int (nI (g 1)), .int (nI (g 2)), .int (nI (g 3)), .int (nI (g 4)), .int (nI (g 5)), .int (nI (g 6)), .ref (z 1), .ref (z 2), .ref (z 3), .ref (z 4), .int (nI (g 7)), .ref (z 5), .ref (z 6), .ref (z 7), .ref (z 8), .ref (z 9), .ref (z 10), .int (nI (g 8)), .ref (z 11), .ref (z 12), .ref (z 13), .ref (z 14)])), (z 2, .inl (cI, 5, .inl (aN wa)))] := hD.sub [1, 0] (by decide) rfl
    obtain ⟨rfl, hth⟩ := hw
    have hth : th1 = 1 := hth
    subst hth
    have hP : va_P (dC, dI) vwCl [(z 0, .inr (7, [.int (nI 1), .int (nI (g 1)), .int (nI (g 2)), .int (nI (g 3)), .int (nI (g 4)), .int (nI (g 5)), .int (nI (g 6)), .ref (z 1), .ref (z 2), .ref (z 3), .ref (z 4), .int (nI (g 7)), .ref (z 5), .ref (z 6), .ref (z 7), .ref (z 8), .ref (z 9), .ref (z 10), .int (nI (g 8)), .ref (z 11), .ref (z 12), .ref (z 13), .ref (z 14)])), (z 2, .inl (cI, 5, .inl (aN wa)))] H := hP
    have hD : va_D A [(z 0, .inr (7, [.int (nI 1), .int (nI (g 1)), .int (nI (g 2)), .int (nI (g 3)), .int (nI (g 4)), .int (nI (g 5)), .int (nI (g 6)), .ref (z 1), .ref (z 2), .ref (z 3), .ref (z 4), .int (nI (g 7)), .ref (z 5), .ref (z 6), .ref (z 7), .ref (z 8), .ref (z 9), .ref (z 10), .int (nI (g 8)), .ref (z 11), .ref (z 12), .ref (z 13), .ref (z 14)])), (z 2, .inl (cI, 5, .inl (aN wa)))] := hD
    refine lv_topr (show _ = nI 1 from rfl) ?_
    refine ix_if_eq (tgt := 42) hx hb (nI_tI (n := 1) (by omega)) d_MO_strips_38 (by decide) (fun c_38 => absurd c_38 (by omega)) (fun c_38 => ?_)
    exact W.vret hx hb hr (fun t ht hW => ⟨⟨(1, wa), rfl, ⟨fun _ => ⟨rfl, rfl⟩, fun q => absurd q (by omega), fun q => absurd q (by omega)⟩, by rw [ht]; exact hP, va_K.moved hW.alike hK, hD⟩, hS.F ht⟩) hS.2.2 d_MO_strips_41
  refine lv_iconst (v := nI 1) hx hb d_MO_strips_30 (by decide +kernel) ?_
  refine lv_goto (tgt := 35) hx hb d_MO_strips_31 (by decide) ?_
  have hPc := hP.sub (ws' := [(z 0, .inr (7, [.int (nI (g 0)), .int (nI (g 1)), .int (nI (g 2)), .int (nI (g 3)), .int (nI (g 4)), .int (nI (g 5)), .int (nI (g 6)), .ref (z 1), .ref (z 2), .ref (z 3), .ref (z 4), .int (nI (g 7)), .ref (z 5), .ref (z 6), .ref (z 7), .ref (z 8), .ref (z 9), .ref (z 10), .int (nI (g 8)), .ref (z 11), .ref (z 12), .ref (z 13), .ref (z 14)]))]) [0] rfl
  have hDc := hD.sub (ws' := [(z 0, .inr (7, [.int (nI (g 0)), .int (nI (g 1)), .int (nI (g 2)), .int (nI (g 3)), .int (nI (g 4)), .int (nI (g 5)), .int (nI (g 6)), .ref (z 1), .ref (z 2), .ref (z 3), .ref (z 4), .int (nI (g 7)), .ref (z 5), .ref (z 6), .ref (z 7), .ref (z 8), .ref (z 9), .ref (z 10), .int (nI (g 8)), .ref (z 11), .ref (z 12), .ref (z 13), .ref (z 14)]))]) [0] (by decide) rfl
  have hFc := va_free (wc := [(z 0, .inr (7, [.int (nI (g 0)), .int (nI (g 1)), .int (nI (g 2)), .int (nI (g 3)), .int (nI (g 4)), .int (nI (g 5)), .int (nI (g 6)), .ref (z 1), .ref (z 2), .ref (z 3), .ref (z 4), .int (nI (g 7)), .ref (z 5), .ref (z 6), .ref (z 7), .ref (z 8), .ref (z 9), .ref (z 10), .int (nI (g 8)), .ref (z 11), .ref (z 12), .ref (z 13), .ref (z 14)]))]) hD hS hA [0] rfl
  refine va_calli (va_runV (As := [.int (nI 1), .int (nI 1)]) (rest := []) ⟨hx, hb, hml, hown, hts⟩ (c_MO_throwing l dC dI H.size z g cI 1 1 (by decide) (by decide)) (cwV 2 hts (gw_V m_654 m_656 s_16 m_8 m_657) rfl rfl rfl (by decide +kernel) ⟨Nat.le_of_ble_eq_true rfl, Nat.le_of_ble_eq_true rfl⟩) ⟨rw_blind, va_recv hK hPc (ci := 7) (q0 := 0) rfl rfl, fun U hU hW => ⟨rfl, by rw [hU], by rw [hU]; exact hPc, va_K.moved hW.alike hK, hDc.weaken (fun _ _ _ _ => trivial)⟩⟩ rfl rfl hl.1 rfl (lv_room (Nat.le_of_ble_eq_true rfl)) d_MO_strips_35 ⟨Nat.le_of_ble_eq_true rfl, Nat.le_of_ble_eq_true rfl⟩) hS (fun q _ h => hFc q h) hFc (fun r u t H1 locs ht hvm hw hB hz1 hk1 hS => ?_)
  obtain ⟨th1, rfl⟩ : ∃ z, z = u := ⟨_, rfl⟩
  obtain ⟨hP1, hK1, hD1⟩ := hB
  rw [ht] at hP1
  try dsimp only at hw
  obtain ⟨hP, hD⟩ := va_join (wr := [(z 2, .inl (cI, 5, .inl (aN wa)))]) (w1 := [(z 0, .inr (7, [.int (nI th1), .int (nI (g 1)), .int (nI (g 2)), .int (nI (g 3)), .int (nI (g 4)), .int (nI (g 5)), .int (nI (g 6)), .ref (z 1), .ref (z 2), .ref (z 3), .ref (z 4), .int (nI (g 7)), .ref (z 5), .ref (z 6), .ref (z 7), .ref (z 8), .ref (z 9), .ref (z 10), .int (nI (g 8)), .ref (z 11), .ref (z 12), .ref (z 13), .ref (z 14)]))]) hP hD [0] [1] rfl rfl (by decide) (by decide) hk1 hFc hP1 hD1
  generalize H1 = H at hP hS ⊢
  have hP : va_P (dC, dI) vwCl [(z 0, .inr (7, [.int (nI th1), .int (nI (g 1)), .int (nI (g 2)), .int (nI (g 3)), .int (nI (g 4)), .int (nI (g 5)), .int (nI (g 6)), .ref (z 1), .ref (z 2), .ref (z 3), .ref (z 4), .int (nI (g 7)), .ref (z 5), .ref (z 6), .ref (z 7), .ref (z 8), .ref (z 9), .ref (z 10), .int (nI (g 8)), .ref (z 11), .ref (z 12), .ref (z 13), .ref (z 14)])), (z 2, .inl (cI, 5, .inl (aN wa)))] H := hP.sub [1, 0] rfl
  have hD : va_D A [(z 0, .inr (7, [.int (nI th1), .int (nI (g 1)), .int (nI (g 2)), .int (nI (g 3)), .int (nI (g 4)), .int (nI (g 5)), .int (nI (g 6)), .ref (z 1), .ref (z 2), .ref (z 3), .ref (z 4), .int (nI (g 7)), .ref (z 5), .ref (z 6), .ref (z 7), .ref (z 8), .ref (z 9), .ref (z 10), .int (nI (g 8)), .ref (z 11), .ref (z 12), .ref (z 13), .ref (z 14)])), (z 2, .inl (cI, 5, .inl (aN wa)))] := hD.sub [1, 0] (by decide) rfl
  obtain ⟨rfl, hth⟩ := hw
  have hth : th1 = 1 := hth
  subst hth
  have hP : va_P (dC, dI) vwCl [(z 0, .inr (7, [.int (nI 1), .int (nI (g 1)), .int (nI (g 2)), .int (nI (g 3)), .int (nI (g 4)), .int (nI (g 5)), .int (nI (g 6)), .ref (z 1), .ref (z 2), .ref (z 3), .ref (z 4), .int (nI (g 7)), .ref (z 5), .ref (z 6), .ref (z 7), .ref (z 8), .ref (z 9), .ref (z 10), .int (nI (g 8)), .ref (z 11), .ref (z 12), .ref (z 13), .ref (z 14)])), (z 2, .inl (cI, 5, .inl (aN wa)))] H := hP
  have hD : va_D A [(z 0, .inr (7, [.int (nI 1), .int (nI (g 1)), .int (nI (g 2)), .int (nI (g 3)), .int (nI (g 4)), .int (nI (g 5)), .int (nI (g 6)), .ref (z 1), .ref (z 2), .ref (z 3), .ref (z 4), .int (nI (g 7)), .ref (z 5), .ref (z 6), .ref (z 7), .ref (z 8), .ref (z 9), .ref (z 10), .int (nI (g 8)), .ref (z 11), .ref (z 12), .ref (z 13), .ref (z 14)])), (z 2, .inl (cI, 5, .inl (aN wa)))] := hD
  refine lv_topr (show _ = nI 1 from rfl) ?_
  refine ix_if_eq (tgt := 42) hx hb (nI_tI (n := 1) (by omega)) d_MO_strips_38 (by decide) (fun c_38 => absurd c_38 (by omega)) (fun c_38 => ?_)
  exact W.vret hx hb hr (fun t ht hW => ⟨⟨(1, wa), rfl, ⟨fun _ => ⟨rfl, rfl⟩, fun q => absurd q (by omega), fun q => absurd q (by omega)⟩, by rw [ht]; exact hP, va_K.moved hW.alike hK, hD⟩, hS.F ht⟩) hS.2.2 d_MO_strips_41
set_option maxHeartbeats 4000000 in
set_option maxRecDepth 100000 in
/-- defect(from, to) -/
theorem c_MO_defect (l : Launch) (dC : Nat → ClassId) (dI : Nat → Nat → Nat) (sz : Nat) (z g : Nat → Nat) (cI : ClassId) (df dt : Nat → Nat) (h8 : g 8 ≤ 10) (a1 : Int) (a2 : Int) (ha1 : -2147483648 ≤ a1 ∧ a1 < 2147483648) (ha2 : -2147483648 ≤ a2 ∧ a2 < 2147483648) : Met l y_MO_defect w_MO_defect { frames := 1, cells := 0, slots := 0, locals := 22 } (rw_Pc (dC, dI) vwCl [(cI, .int)] sz [.ref (z 0), .int (zI a1), .int (zI a2)] [(z 0, .inr (7, [.int (nI (g 0)), .int (nI (g 1)), .int (nI (g 2)), .int (nI (g 3)), .int (nI (g 4)), .int (nI (g 5)), .int (nI (g 6)), .ref (z 1), .ref (z 2), .ref (z 3), .ref (z 4), .int (nI (g 7)), .ref (z 5), .ref (z 6), .ref (z 7), .ref (z 8), .ref (z 9), .ref (z 10), .int (nI (g 8)), .ref (z 11), .ref (z 12), .ref (z 13), .ref (z 14)])), (z 11, .inl (cI, 10, .inl (aN df))), (z 12, .inl (cI, 10, .inl (aN dt)))]) (va_Qi (fun (r : Int32) (u : Nat × Nat × (Nat → Nat) × (Nat → Nat)) => (g 8 = 10 → u.1 = 1 ∧ u.2.1 = g 8 ∧ u.2.2.1 = df ∧ u.2.2.2 = dt) ∧ (¬ g 8 = 10 ∧ ¬ ((0 ≤ a1 ∧ a1 ≤ 20000) ∧ (0 ≤ a2 ∧ a2 ≤ 20000) ∧ a1 < a2) → u.1 = 2 ∧ u.2.1 = g 8 ∧ u.2.2.1 = df ∧ u.2.2.2 = dt) ∧ (¬ g 8 = 10 ∧ ((0 ≤ a1 ∧ a1 ≤ 20000) ∧ (0 ≤ a2 ∧ a2 ≤ 20000) ∧ a1 < a2) → u.1 = 0 ∧ u.2.1 = g 8 + 1 ∧ u.2.2.1 = up df (g 8) a1.toNat ∧ u.2.2.2 = up dt (g 8) a2.toNat ∧ r = nI (g 8 + 1))) (rw_B (dC, dI) vwCl [(cI, .int)] (va_A [(z 0, .inr (7, [.int (nI (g 0)), .int (nI (g 1)), .int (nI (g 2)), .int (nI (g 3)), .int (nI (g 4)), .int (nI (g 5)), .int (nI (g 6)), .ref (z 1), .ref (z 2), .ref (z 3), .ref (z 4), .int (nI (g 7)), .ref (z 5), .ref (z 6), .ref (z 7), .ref (z 8), .ref (z 9), .ref (z 10), .int (nI (g 8)), .ref (z 11), .ref (z 12), .ref (z 13), .ref (z 14)])), (z 11, .inl (cI, 10, .inl (aN df))), (z 12, .inl (cI, 10, .inl (aN dt)))] sz) (fun u : Nat × Nat × (Nat → Nat) × (Nat → Nat) => [(z 0, .inr (7, [.int (nI u.1), .int (nI (g 1)), .int (nI (g 2)), .int (nI (g 3)), .int (nI (g 4)), .int (nI (g 5)), .int (nI (g 6)), .ref (z 1), .ref (z 2), .ref (z 3), .ref (z 4), .int (nI (g 7)), .ref (z 5), .ref (z 6), .ref (z 7), .ref (z 8), .ref (z 9), .ref (z 10), .int (nI u.2.1), .ref (z 11), .ref (z 12), .ref (z 13), .ref (z 14)])), (z 11, .inl (cI, 10, .inl (aN u.2.2.1))), (z 12, .inl (cI, 10, .inl (aN u.2.2.2)))])) (va_A [(z 0, .inr (7, [.int (nI (g 0)), .int (nI (g 1)), .int (nI (g 2)), .int (nI (g 3)), .int (nI (g 4)), .int (nI (g 5)), .int (nI (g 6)), .ref (z 1), .ref (z 2), .ref (z 3), .ref (z 4), .int (nI (g 7)), .ref (z 5), .ref (z 6), .ref (z 7), .ref (z 8), .ref (z 9), .ref (z 10), .int (nI (g 8)), .ref (z 11), .ref (z 12), .ref (z 13), .ref (z 14)])), (z 11, .inl (cI, 10, .inl (aN df))), (z 12, .inl (cI, 10, .inl (aN dt)))] sz)) 0 0 (va_A [(z 0, .inr (7, [.int (nI (g 0)), .int (nI (g 1)), .int (nI (g 2)), .int (nI (g 3)), .int (nI (g 4)), .int (nI (g 5)), .int (nI (g 6)), .ref (z 1), .ref (z 2), .ref (z 3), .ref (z 4), .int (nI (g 7)), .ref (z 5), .ref (z 6), .ref (z 7), .ref (z 8), .ref (z 9), .ref (z 10), .int (nI (g 8)), .ref (z 11), .ref (z 12), .ref (z 13), .ref (z 14)])), (z 11, .inl (cI, 10, .inl (aN df))), (z 12, .inl (cI, 10, .inl (aN dt)))] sz) := by
  refine Met.ofW (cc := b_MO_defect) (maxL := 3) (ret := (some .int)) (by decide) rfl ?_
  intro p e s m args below meth c s₁ B hml hv
  obtain ⟨rfl, hsz, hP, hK, hD0⟩ := hv
  have hx := B.exec
  have hb := B.bytes
  have hr := B.returns
  have hts := gw_h (atoms_spec (ws := w_MO_defect) B.pre)
  have hown : s.vm.findClass R_MO = some m.cls := findClass_of_methodNamed B.named
  have hlocks := B.notSynchronized
  subst hsz
  have hD := hD0.self (sz := s.heap.size)
  generalize hAe : va_A [(z 0, .inr (7, [.int (nI (g 0)), .int (nI (g 1)), .int (nI (g 2)), .int (nI (g 3)), .int (nI (g 4)), .int (nI (g 5)), .int (nI (g 6)), .ref (z 1), .ref (z 2), .ref (z 3), .ref (z 4), .int (nI (g 7)), .ref (z 5), .ref (z 6), .ref (z 7), .ref (z 8), .ref (z 9), .ref (z 10), .int (nI (g 8)), .ref (z 11), .ref (z 12), .ref (z 13), .ref (z 14)])), (z 11, .inl (cI, 10, .inl (aN df))), (z 12, .inl (cI, 10, .inl (aN dt)))] s.heap.size = A at hD ⊢
  have hA : ∀ q : Nat, s.heap.size ≤ q → A q := fun q h => by rw [← hAe]; exact Or.inr h
  have hS : va_S A s.heap s.heap [] := va_S.rf
  have hP : va_P (dC, dI) vwCl [(z 0, .inr (7, [.int (nI (g 0)), .int (nI (g 1)), .int (nI (g 2)), .int (nI (g 3)), .int (nI (g 4)), .int (nI (g 5)), .int (nI (g 6)), .ref (z 1), .ref (z 2), .ref (z 3), .ref (z 4), .int (nI (g 7)), .ref (z 5), .ref (z 6), .ref (z 7), .ref (z 8), .ref (z 9), .ref (z 10), .int (nI (g 8)), .ref (z 11), .ref (z 12), .ref (z 13), .ref (z 14)])), (z 11, .inl (cI, 10, .inl (aN df))), (z 12, .inl (cI, 10, .inl (aN dt)))] s.heap := hP
  have hl := lv_entry ([.ref (z 0), .int (zI a1), .int (zI a2)]) (n := 3) (Nat.le_of_ble_eq_true rfl)
  rw [lg_entry_eq]
  generalize (lg_sl ([.ref (z 0), .int (zI a1), .int (zI a2)]) ++ List.replicate (3 - (lg_sl ([.ref (z 0), .int (zI a1), .int (zI a2)])).length) Slot.unset).toArray = ls at hl ⊢
  have hl : lv_has ls 3 [(0, .ref (z 0)), (1, .int (zI a1)), (2, .int (zI a2))] := hl
  refine lv_aload_n hx hb d_MO_defect_0 rfl (lv_at hl 0 rfl) ?_
  refine lv_aload_n hx hb d_MO_defect_1 rfl (lv_at hl 0 rfl) ?_
  refine va_get (D := (dC, dI)) (ci := 7) (v := .int (nI (g 8))) (C := R_MO) (T := F_MO) (N := 23) hx hb hts in_MO hown hK hP 0 rfl rfl 18 (by decide) (hts _ m_590) (fun _ h9 => h9) rfl d_MO_defect_2 ?_
  refine lv_bipush (v := nI 10) hx hb d_MO_defect_5 (by decide +kernel) ?_
  refine ix_icmp_ne (tgt := 14) hx hb (nI_tI (n := g 8) (by omega)) (nI_tI (n := 10) (by omega)) d_MO_defect_7 (by decide) (fun c_7 => ?_) (fun c_7 => ?_)
  · refine lv_iconst (v := nI 0) hx hb d_MO_defect_14 (by decide +kernel) ?_
    refine lv_iload_n hx hb d_MO_defect_15 rfl (lv_at hl 1 rfl) ?_
    refine lv_iconst (v := nI 0) hx hb d_MO_defect_16 (by decide +kernel) ?_
    refine lv_sipush (v := nI 20000) hx hb d_MO_defect_17 (by decide +kernel) ?_
    refine lv_arg3 (show _ = zI a1 from rfl) (show _ = zI 0 from zI_n _) (show _ = zI 20000 from zI_n _) ?_
    refine ro_calli (va_runS (As := [.int (zI a1), .int (zI (0 : Int)), .int (zI (20000 : Int))]) (rest := [.int (nI 0), .ref (z 0)]) ⟨hx, hb, hml, hown, hts⟩ (c_MO_in l dC dI cI a1 (0 : Int) (20000 : Int) ha1 (by omega) (by omega)) (va_cwS 3 hts (gw_S m_650 m_651 m_8 m_652) rfl rfl rfl (by decide +kernel) ⟨Nat.le_of_ble_eq_true rfl, Nat.le_of_ble_eq_true rfl⟩) ⟨ro_blind, fun U hU hW => ⟨rfl, fun k q h => by simp at h, va_K.moved hW.alike hK⟩⟩ rfl rfl hl.1 rfl (lv_room (Nat.le_of_ble_eq_true rfl)) d_MO_defect_20 ⟨Nat.le_of_ble_eq_true rfl, Nat.le_of_ble_eq_true rfl⟩) hS hP (fun r H locs er hP hS => ?_)
    subst er
    have hq20 := @b01_1 ((0 : Int) ≤ a1 ∧ a1 ≤ (20000 : Int)) _
    have hr20 := @b01_le ((0 : Int) ≤ a1 ∧ a1 ≤ (20000 : Int)) _
    refine ix_if_eq (tgt := 42) hx hb (nI_tI (n := b01 ((0 : Int) ≤ a1 ∧ a1 ≤ (20000 : Int))) (by omega)) d_MO_defect_23 (by decide) (fun c_23 => ?_) (fun c_23 => ?_)
    · refine lv_iconst (v := nI 1) hx hb d_MO_defect_42 (by decide +kernel) ?_
      refine lv_goto (tgt := 47) hx hb d_MO_defect_43 (by decide) ?_
      have hPc := hP.sub (ws' := [(z 0, .inr (7, [.int (nI (g 0)), .int (nI (g 1)), .int (nI (g 2)), .int (nI (g 3)), .int (nI (g 4)), .int (nI (g 5)), .int (nI (g 6)), .ref (z 1), .ref (z 2), .ref (z 3), .ref (z 4), .int (nI (g 7)), .ref (z 5), .ref (z 6), .ref (z 7), .ref (z 8), .ref (z 9), .ref (z 10), .int (nI (g 8)), .ref (z 11), .ref (z 12), .ref (z 13), .ref (z 14)]))]) [0] rfl
      have hDc := hD.sub (ws' := [(z 0, .inr (7, [.int (nI (g 0)), .int (nI (g 1)), .int (nI (g 2)), .int (nI (g 3)), .int (nI (g 4)), .int (nI (g 5)), .int (nI (g 6)), .ref (z 1), .ref (z 2), .ref (z 3), .ref (z 4), .int (nI (g 7)), .ref (z 5), .ref (z 6), .ref (z 7), .ref (z 8), .ref (z 9), .ref (z 10), .int (nI (g 8)), .ref (z 11), .ref (z 12), .ref (z 13), .ref (z 14)]))]) [0] (by decide) rfl
      have hFc := va_free (wc := [(z 0, .inr (7, [.int (nI (g 0)), .int (nI (g 1)), .int (nI (g 2)), .int (nI (g 3)), .int (nI (g 4)), .int (nI (g 5)), .int (nI (g 6)), .ref (z 1), .ref (z 2), .ref (z 3), .ref (z 4), .int (nI (g 7)), .ref (z 5), .ref (z 6), .ref (z 7), .ref (z 8), .ref (z 9), .ref (z 10), .int (nI (g 8)), .ref (z 11), .ref (z 12), .ref (z 13), .ref (z 14)]))]) hD hS hA [0] rfl
      refine va_calli (va_runV (As := [.int (nI 0), .int (nI 1)]) (rest := []) ⟨hx, hb, hml, hown, hts⟩ (c_MO_throwing l dC dI H.size z g cI 0 1 (by decide) (by decide)) (cwV 2 hts (gw_V m_654 m_656 s_16 m_8 m_657) rfl rfl rfl (by decide +kernel) ⟨Nat.le_of_ble_eq_true rfl, Nat.le_of_ble_eq_true rfl⟩) ⟨rw_blind, va_recv hK hPc (ci := 7) (q0 := 0) rfl rfl, fun U hU hW => ⟨rfl, by rw [hU], by rw [hU]; exact hPc, va_K.moved hW.alike hK, hDc.weaken (fun _ _ _ _ => trivial)⟩⟩ rfl rfl hl.1 rfl (lv_room (Nat.le_of_ble_eq_true rfl)) d_MO_defect_47 ⟨Nat.le_of_ble_eq_true rfl, Nat.le_of_ble_eq_true rfl⟩) hS (fun q _ h => hFc q h) hFc (fun r u t H1 locs ht hvm hw hB hz1 hk1 hS => ?_)
      obtain ⟨th1, rfl⟩ : ∃ z, z = u := ⟨_, rfl⟩
      obtain ⟨hP1, hK1, hD1⟩ := hB
      rw [ht] at hP1
      try dsimp only at hw
      obtain ⟨hP, hD⟩ := va_join (wr := [(z 11, .inl (cI, 10, .inl (aN df))), (z 12, .inl (cI, 10, .inl (aN dt)))]) (w1 := [(z 0, .inr (7, [.int (nI th1), .int (nI (g 1)), .int (nI (g 2)), .int (nI (g 3)), .int (nI (g 4)), .int (nI (g 5)), .int (nI (g 6)), .ref (z 1), .ref (z 2), .ref (z 3), .ref (z 4), .int (nI (g 7)), .ref (z 5), .ref (z 6), .ref (z 7), .ref (z 8), .ref (z 9), .ref (z 10), .int (nI (g 8)), .ref (z 11), .ref (z 12), .ref (z 13), .ref (z 14)]))]) hP hD [0] [1, 2] rfl rfl (by decide) (by decide) hk1 hFc hP1 hD1
      generalize H1 = H at hP hS ⊢
      have hP : va_P (dC, dI) vwCl [(z 0, .inr (7, [.int (nI th1), .int (nI (g 1)), .int (nI (g 2)), .int (nI (g 3)), .int (nI (g 4)), .int (nI (g 5)), .int (nI (g 6)), .ref (z 1), .ref (z 2), .ref (z 3), .ref (z 4), .int (nI (g 7)), .ref (z 5), .ref (z 6), .ref (z 7), .ref (z 8), .ref (z 9), .ref (z 10), .int (nI (g 8)), .ref (z 11), .ref (z 12), .ref (z 13), .ref (z 14)])), (z 11, .inl (cI, 10, .inl (aN df))), (z 12, .inl (cI, 10, .inl (aN dt)))] H := hP.sub [2, 0, 1] rfl
      have hD : va_D A [(z 0, .inr (7, [.int (nI th1), .int (nI (g 1)), .int (nI (g 2)), .int (nI (g 3)), .int (nI (g 4)), .int (nI (g 5)), .int (nI (g 6)), .ref (z 1), .ref (z 2), .ref (z 3), .ref (z 4), .int (nI (g 7)), .ref (z 5), .ref (z 6), .ref (z 7), .ref (z 8), .ref (z 9), .ref (z 10), .int (nI (g 8)), .ref (z 11), .ref (z 12), .ref (z 13), .ref (z 14)])), (z 11, .inl (cI, 10, .inl (aN df))), (z 12, .inl (cI, 10, .inl (aN dt)))] := hD.sub [2, 0, 1] (by decide) rfl
      obtain ⟨rfl, hth⟩ := hw
      have hth : th1 = 2 := hth
      subst hth
      have hP : va_P (dC, dI) vwCl [(z 0, .inr (7, [.int (nI 2), .int (nI (g 1)), .int (nI (g 2)), .int (nI (g 3)), .int (nI (g 4)), .int (nI (g 5)), .int (nI (g 6)), .ref (z 1), .ref (z 2), .ref (z 3), .ref (z 4), .int (nI (g 7)), .ref (z 5), .ref (z 6), .ref (z 7), .ref (z 8), .ref (z 9), .ref (z 10), .int (nI (g 8)), .ref (z 11), .ref (z 12), .ref (z 13), .ref (z 14)])), (z 11, .inl (cI, 10, .inl (aN df))), (z 12, .inl (cI, 10, .inl (aN dt)))] H := hP
      have hD : va_D A [(z 0, .inr (7, [.int (nI 2), .int (nI (g 1)), .int (nI (g 2)), .int (nI (g 3)), .int (nI (g 4)), .int (nI (g 5)), .int (nI (g 6)), .ref (z 1), .ref (z 2), .ref (z 3), .ref (z 4), .int (nI (g 7)), .ref (z 5), .ref (z 6), .ref (z 7), .ref (z 8), .ref (z 9), .ref (z 10), .int (nI (g 8)), .ref (z 11), .ref (z 12), .ref (z 13), .ref (z 14)])), (z 11, .inl (cI, 10, .inl (aN df))), (z 12, .inl (cI, 10, .inl (aN dt)))] := hD
      refine lv_topr (show _ = nI 1 from rfl) ?_
      refine ix_if_eq (tgt := 55) hx hb (nI_tI (n := 1) (by omega)) d_MO_defect_50 (by decide) (fun c_50 => absurd c_50 (by omega)) (fun c_50 => ?_)
      refine lv_iconst (v := nI 0) hx hb d_MO_defect_53 (by decide +kernel) ?_
      exact W.iret (v := nI 0) hx hb hr (fun t ht hW => ⟨⟨nI 0, (2, g 8, df, dt), rfl, ⟨fun q => absurd q (by omega), fun _ => ⟨rfl, rfl, rfl, rfl⟩, fun q => absurd q (by omega)⟩, by rw [ht]; exact hP, va_K.moved hW.alike hK, hD⟩, hS.F ht⟩) hS.2.2 d_MO_defect_54
    refine lv_iload_n hx hb d_MO_defect_26 rfl (lv_at hl 2 rfl) ?_
    refine lv_iconst (v := nI 0) hx hb d_MO_defect_27 (by decide +kernel) ?_
    refine lv_sipush (v := nI 20000) hx hb d_MO_defect_28 (by decide +kernel) ?_
    refine lv_arg3 (show _ = zI a2 from rfl) (show _ = zI 0 from zI_n _) (show _ = zI 20000 from zI_n _) ?_
    refine ro_calli (va_runS (As := [.int (zI a2), .int (zI (0 : Int)), .int (zI (20000 : Int))]) (rest := [.int (nI 0), .ref (z 0)]) ⟨hx, hb, hml, hown, hts⟩ (c_MO_in l dC dI cI a2 (0 : Int) (20000 : Int) ha2 (by omega) (by omega)) (va_cwS 3 hts (gw_S m_650 m_651 m_8 m_652) rfl rfl rfl (by decide +kernel) ⟨Nat.le_of_ble_eq_true rfl, Nat.le_of_ble_eq_true rfl⟩) ⟨ro_blind, fun U hU hW => ⟨rfl, fun k q h => by simp at h, va_K.moved hW.alike hK⟩⟩ rfl rfl hl.1 rfl (lv_room (Nat.le_of_ble_eq_true rfl)) d_MO_defect_31 ⟨Nat.le_of_ble_eq_true rfl, Nat.le_of_ble_eq_true rfl⟩) hS hP (fun r H locs er hP hS => ?_)
    subst er
    have hq31 := @b01_1 ((0 : Int) ≤ a2 ∧ a2 ≤ (20000 : Int)) _
    have hr31 := @b01_le ((0 : Int) ≤ a2 ∧ a2 ≤ (20000 : Int)) _
    refine ix_if_eq (tgt := 42) hx hb (nI_tI (n := b01 ((0 : Int) ≤ a2 ∧ a2 ≤ (20000 : Int))) (by omega)) d_MO_defect_34 (by decide) (fun c_34 => ?_) (fun c_34 => ?_)
    · refine lv_iconst (v := nI 1) hx hb d_MO_defect_42 (by decide +kernel) ?_
      refine lv_goto (tgt := 47) hx hb d_MO_defect_43 (by decide) ?_
      have hPc := hP.sub (ws' := [(z 0, .inr (7, [.int (nI (g 0)), .int (nI (g 1)), .int (nI (g 2)), .int (nI (g 3)), .int (nI (g 4)), .int (nI (g 5)), .int (nI (g 6)), .ref (z 1), .ref (z 2), .ref (z 3), .ref (z 4), .int (nI (g 7)), .ref (z 5), .ref (z 6), .ref (z 7), .ref (z 8), .ref (z 9), .ref (z 10), .int (nI (g 8)), .ref (z 11), .ref (z 12), .ref (z 13), .ref (z 14)]))]) [0] rfl
      have hDc := hD.sub (ws' := [(z 0, .inr (7, [.int (nI (g 0)), .int (nI (g 1)), .int (nI (g 2)), .int (nI (g 3)), .int (nI (g 4)), .int (nI (g 5)), .int (nI (g 6)), .ref (z 1), .ref (z 2), .ref (z 3), .ref (z 4), .int (nI (g 7)), .ref (z 5), .ref (z 6), .ref (z 7), .ref (z 8), .ref (z 9), .ref (z 10), .int (nI (g 8)), .ref (z 11), .ref (z 12), .ref (z 13), .ref (z 14)]))]) [0] (by decide) rfl
      have hFc := va_free (wc := [(z 0, .inr (7, [.int (nI (g 0)), .int (nI (g 1)), .int (nI (g 2)), .int (nI (g 3)), .int (nI (g 4)), .int (nI (g 5)), .int (nI (g 6)), .ref (z 1), .ref (z 2), .ref (z 3), .ref (z 4), .int (nI (g 7)), .ref (z 5), .ref (z 6), .ref (z 7), .ref (z 8), .ref (z 9), .ref (z 10), .int (nI (g 8)), .ref (z 11), .ref (z 12), .ref (z 13), .ref (z 14)]))]) hD hS hA [0] rfl
      refine va_calli (va_runV (As := [.int (nI 0), .int (nI 1)]) (rest := []) ⟨hx, hb, hml, hown, hts⟩ (c_MO_throwing l dC dI H.size z g cI 0 1 (by decide) (by decide)) (cwV 2 hts (gw_V m_654 m_656 s_16 m_8 m_657) rfl rfl rfl (by decide +kernel) ⟨Nat.le_of_ble_eq_true rfl, Nat.le_of_ble_eq_true rfl⟩) ⟨rw_blind, va_recv hK hPc (ci := 7) (q0 := 0) rfl rfl, fun U hU hW => ⟨rfl, by rw [hU], by rw [hU]; exact hPc, va_K.moved hW.alike hK, hDc.weaken (fun _ _ _ _ => trivial)⟩⟩ rfl rfl hl.1 rfl (lv_room (Nat.le_of_ble_eq_true rfl)) d_MO_defect_47 ⟨Nat.le_of_ble_eq_true rfl, Nat.le_of_ble_eq_true rfl⟩) hS (fun q _ h => hFc q h) hFc (fun r u t H1 locs ht hvm hw hB hz1 hk1 hS => ?_)
      obtain ⟨th1, rfl⟩ : ∃ z, z = u := ⟨_, rfl⟩
      obtain ⟨hP1, hK1, hD1⟩ := hB
      rw [ht] at hP1
      try dsimp only at hw
      obtain ⟨hP, hD⟩ := va_join (wr := [(z 11, .inl (cI, 10, .inl (aN df))), (z 12, .inl (cI, 10, .inl (aN dt)))]) (w1 := [(z 0, .inr (7, [.int (nI th1), .int (nI (g 1)), .int (nI (g 2)), .int (nI (g 3)), .int (nI (g 4)), .int (nI (g 5)), .int (nI (g 6)), .ref (z 1), .ref (z 2), .ref (z 3), .ref (z 4), .int (nI (g 7)), .ref (z 5), .ref (z 6), .ref (z 7), .ref (z 8), .ref (z 9), .ref (z 10), .int (nI (g 8)), .ref (z 11), .ref (z 12), .ref (z 13), .ref (z 14)]))]) hP hD [0] [1, 2] rfl rfl (by decide) (by decide) hk1 hFc hP1 hD1
      generalize H1 = H at hP hS ⊢
      have hP : va_P (dC, dI) vwCl [(z 0, .inr (7, [.int (nI th1), .int (nI (g 1)), .int (nI (g 2)), .int (nI (g 3)), .int (nI (g 4)), .int (nI (g 5)), .int (nI (g 6)), .ref (z 1), .ref (z 2), .ref (z 3), .ref (z 4), .int (nI (g 7)), .ref (z 5), .ref (z 6), .ref (z 7), .ref (z 8), .ref (z 9), .ref (z 10), .int (nI (g 8)), .ref (z 11), .ref (z 12), .ref (z 13), .ref (z 14)])), (z 11, .inl (cI, 10, .inl (aN df))), (z 12, .inl (cI, 10, .inl (aN dt)))] H := hP.sub [2, 0, 1] rfl
      have hD : va_D A [(z 0, .inr (7, [.int (nI th1), .int (nI (g 1)), .int (nI (g 2)), .int (nI (g 3)), .int (nI (g 4)), .int (nI (g 5)), .int (nI (g 6)), .ref (z 1), .ref (z 2), .ref (z 3), .ref (z 4), .int (nI (g 7)), .ref (z 5), .ref (z 6), .ref (z 7), .ref (z 8), .ref (z 9), .ref (z 10), .int (nI (g 8)), .ref (z 11), .ref (z 12), .ref (z 13), .ref (z 14)])), (z 11, .inl (cI, 10, .inl (aN df))), (z 12, .inl (cI, 10, .inl (aN dt)))] := hD.sub [2, 0, 1] (by decide) rfl
      obtain ⟨rfl, hth⟩ := hw
      have hth : th1 = 2 := hth
      subst hth
      have hP : va_P (dC, dI) vwCl [(z 0, .inr (7, [.int (nI 2), .int (nI (g 1)), .int (nI (g 2)), .int (nI (g 3)), .int (nI (g 4)), .int (nI (g 5)), .int (nI (g 6)), .ref (z 1), .ref (z 2), .ref (z 3), .ref (z 4), .int (nI (g 7)), .ref (z 5), .ref (z 6), .ref (z 7), .ref (z 8), .ref (z 9), .ref (z 10), .int (nI (g 8)), .ref (z 11), .ref (z 12), .ref (z 13), .ref (z 14)])), (z 11, .inl (cI, 10, .inl (aN df))), (z 12, .inl (cI, 10, .inl (aN dt)))] H := hP
      have hD : va_D A [(z 0, .inr (7, [.int (nI 2), .int (nI (g 1)), .int (nI (g 2)), .int (nI (g 3)), .int (nI (g 4)), .int (nI (g 5)), .int (nI (g 6)), .ref (z 1), .ref (z 2), .ref (z 3), .ref (z 4), .int (nI (g 7)), .ref (z 5), .ref (z 6), .ref (z 7), .ref (z 8), .ref (z 9), .ref (z 10), .int (nI (g 8)), .ref (z 11), .ref (z 12), .ref (z 13), .ref (z 14)])), (z 11, .inl (cI, 10, .inl (aN df))), (z 12, .inl (cI, 10, .inl (aN dt)))] := hD
      refine lv_topr (show _ = nI 1 from rfl) ?_
      refine ix_if_eq (tgt := 55) hx hb (nI_tI (n := 1) (by omega)) d_MO_defect_50 (by decide) (fun c_50 => absurd c_50 (by omega)) (fun c_50 => ?_)
      refine lv_iconst (v := nI 0) hx hb d_MO_defect_53 (by decide +kernel) ?_
      exact W.iret (v := nI 0) hx hb hr (fun t ht hW => ⟨⟨nI 0, (2, g 8, df, dt), rfl, ⟨fun q => absurd q (by omega), fun _ => ⟨rfl, rfl, rfl, rfl⟩, fun q => absurd q (by omega)⟩, by rw [ht]; exact hP, va_K.moved hW.alike hK, hD⟩, hS.F ht⟩) hS.2.2 d_MO_defect_54
    refine lv_iload_n hx hb d_MO_defect_37 rfl (lv_at hl 2 rfl) ?_
    refine lv_iload_n hx hb d_MO_defect_38 rfl (lv_at hl 1 rfl) ?_
    refine ix_icmp_gt (tgt := 46) hx hb (zI_toInt (z := a2) (by omega) (by omega)) (zI_toInt (z := a1) (by omega) (by omega)) d_MO_defect_39 (by decide) (fun c_39 => ?_) (fun c_39 => ?_)
    · refine lv_iconst (v := nI 0) hx hb d_MO_defect_46 (by decide +kernel) ?_
      have hPc := hP.sub (ws' := [(z 0, .inr (7, [.int (nI (g 0)), .int (nI (g 1)), .int (nI (g 2)), .int (nI (g 3)), .int (nI (g 4)), .int (nI (g 5)), .int (nI (g 6)), .ref (z 1), .ref (z 2), .ref (z 3), .ref (z 4), .int (nI (g 7)), .ref (z 5), .ref (z 6), .ref (z 7), .ref (z 8), .ref (z 9), .ref (z 10), .int (nI (g 8)), .ref (z 11), .ref (z 12), .ref (z 13), .ref (z 14)]))]) [0] rfl
      have hDc := hD.sub (ws' := [(z 0, .inr (7, [.int (nI (g 0)), .int (nI (g 1)), .int (nI (g 2)), .int (nI (g 3)), .int (nI (g 4)), .int (nI (g 5)), .int (nI (g 6)), .ref (z 1), .ref (z 2), .ref (z 3), .ref (z 4), .int (nI (g 7)), .ref (z 5), .ref (z 6), .ref (z 7), .ref (z 8), .ref (z 9), .ref (z 10), .int (nI (g 8)), .ref (z 11), .ref (z 12), .ref (z 13), .ref (z 14)]))]) [0] (by decide) rfl
      have hFc := va_free (wc := [(z 0, .inr (7, [.int (nI (g 0)), .int (nI (g 1)), .int (nI (g 2)), .int (nI (g 3)), .int (nI (g 4)), .int (nI (g 5)), .int (nI (g 6)), .ref (z 1), .ref (z 2), .ref (z 3), .ref (z 4), .int (nI (g 7)), .ref (z 5), .ref (z 6), .ref (z 7), .ref (z 8), .ref (z 9), .ref (z 10), .int (nI (g 8)), .ref (z 11), .ref (z 12), .ref (z 13), .ref (z 14)]))]) hD hS hA [0] rfl
      refine va_calli (va_runV (As := [.int (nI 0), .int (nI 0)]) (rest := []) ⟨hx, hb, hml, hown, hts⟩ (c_MO_throwing l dC dI H.size z g cI 0 0 (by decide) (by decide)) (cwV 2 hts (gw_V m_654 m_656 s_16 m_8 m_657) rfl rfl rfl (by decide +kernel) ⟨Nat.le_of_ble_eq_true rfl, Nat.le_of_ble_eq_true rfl⟩) ⟨rw_blind, va_recv hK hPc (ci := 7) (q0 := 0) rfl rfl, fun U hU hW => ⟨rfl, by rw [hU], by rw [hU]; exact hPc, va_K.moved hW.alike hK, hDc.weaken (fun _ _ _ _ => trivial)⟩⟩ rfl rfl hl.1 rfl (lv_room (Nat.le_of_ble_eq_true rfl)) d_MO_defect_47 ⟨Nat.le_of_ble_eq_true rfl, Nat.le_of_ble_eq_true rfl⟩) hS (fun q _ h => hFc q h) hFc (fun r u t H1 locs ht hvm hw hB hz1 hk1 hS => ?_)
      obtain ⟨th1, rfl⟩ : ∃ z, z = u := ⟨_, rfl⟩
      obtain ⟨hP1, hK1, hD1⟩ := hB
      rw [ht] at hP1
      try dsimp only at hw
      obtain ⟨hP, hD⟩ := va_join (wr := [(z 11, .inl (cI, 10, .inl (aN df))), (z 12, .inl (cI, 10, .inl (aN dt)))]) (w1 := [(z 0, .inr (7, [.int (nI th1), .int (nI (g 1)), .int (nI (g 2)), .int (nI (g 3)), .int (nI (g 4)), .int (nI (g 5)), .int (nI (g 6)), .ref (z 1), .ref (z 2), .ref (z 3), .ref (z 4), .int (nI (g 7)), .ref (z 5), .ref (z 6), .ref (z 7), .ref (z 8), .ref (z 9), .ref (z 10), .int (nI (g 8)), .ref (z 11), .ref (z 12), .ref (z 13), .ref (z 14)]))]) hP hD [0] [1, 2] rfl rfl (by decide) (by decide) hk1 hFc hP1 hD1
      generalize H1 = H at hP hS ⊢
      have hP : va_P (dC, dI) vwCl [(z 0, .inr (7, [.int (nI th1), .int (nI (g 1)), .int (nI (g 2)), .int (nI (g 3)), .int (nI (g 4)), .int (nI (g 5)), .int (nI (g 6)), .ref (z 1), .ref (z 2), .ref (z 3), .ref (z 4), .int (nI (g 7)), .ref (z 5), .ref (z 6), .ref (z 7), .ref (z 8), .ref (z 9), .ref (z 10), .int (nI (g 8)), .ref (z 11), .ref (z 12), .ref (z 13), .ref (z 14)])), (z 11, .inl (cI, 10, .inl (aN df))), (z 12, .inl (cI, 10, .inl (aN dt)))] H := hP.sub [2, 0, 1] rfl
      have hD : va_D A [(z 0, .inr (7, [.int (nI th1), .int (nI (g 1)), .int (nI (g 2)), .int (nI (g 3)), .int (nI (g 4)), .int (nI (g 5)), .int (nI (g 6)), .ref (z 1), .ref (z 2), .ref (z 3), .ref (z 4), .int (nI (g 7)), .ref (z 5), .ref (z 6), .ref (z 7), .ref (z 8), .ref (z 9), .ref (z 10), .int (nI (g 8)), .ref (z 11), .ref (z 12), .ref (z 13), .ref (z 14)])), (z 11, .inl (cI, 10, .inl (aN df))), (z 12, .inl (cI, 10, .inl (aN dt)))] := hD.sub [2, 0, 1] (by decide) rfl
      obtain ⟨rfl, hth⟩ := hw
      have hth : th1 = 0 := hth
      subst hth
      have hP : va_P (dC, dI) vwCl [(z 0, .inr (7, [.int (nI 0), .int (nI (g 1)), .int (nI (g 2)), .int (nI (g 3)), .int (nI (g 4)), .int (nI (g 5)), .int (nI (g 6)), .ref (z 1), .ref (z 2), .ref (z 3), .ref (z 4), .int (nI (g 7)), .ref (z 5), .ref (z 6), .ref (z 7), .ref (z 8), .ref (z 9), .ref (z 10), .int (nI (g 8)), .ref (z 11), .ref (z 12), .ref (z 13), .ref (z 14)])), (z 11, .inl (cI, 10, .inl (aN df))), (z 12, .inl (cI, 10, .inl (aN dt)))] H := hP
      have hD : va_D A [(z 0, .inr (7, [.int (nI 0), .int (nI (g 1)), .int (nI (g 2)), .int (nI (g 3)), .int (nI (g 4)), .int (nI (g 5)), .int (nI (g 6)), .ref (z 1), .ref (z 2), .ref (z 3), .ref (z 4), .int (nI (g 7)), .ref (z 5), .ref (z 6), .ref (z 7), .ref (z 8), .ref (z 9), .ref (z 10), .int (nI (g 8)), .ref (z 11), .ref (z 12), .ref (z 13), .ref (z 14)])), (z 11, .inl (cI, 10, .inl (aN df))), (z 12, .inl (cI, 10, .inl (aN dt)))] := hD
      refine lv_topr (show _ = nI 0 from rfl) ?_
      refine ix_if_eq (tgt := 55) hx hb (nI_tI (n := 0) (by omega)) d_MO_defect_50 (by decide) (fun c_50 => ?_) (fun c_50 => absurd c_50 (by omega))
      refine lv_aload_n hx hb d_MO_defect_55 rfl (lv_at hl 0 rfl) ?_
      refine va_get (D := (dC, dI)) (ci := 7) (v := .ref (z 11)) (C := R_MO) (T := F_MO) (N := 23) hx hb hts in_MO hown hK hP 0 rfl rfl 19 (by decide) (hts _ m_591) (fun _ h9 => h9) rfl d_MO_defect_56 ?_
      refine lv_aload_n hx hb d_MO_defect_59 rfl (lv_at hl 0 rfl) ?_
      refine va_get (D := (dC, dI)) (ci := 7) (v := .int (nI (g 8))) (C := R_MO) (T := F_MO) (N := 23) hx hb hts in_MO hown hK hP 0 rfl rfl 18 (by decide) (hts _ m_590) (fun _ h9 => h9) rfl d_MO_defect_60 ?_
      refine lv_iload_n hx hb d_MO_defect_63 rfl (lv_at hl 1 rfl) ?_
      refine lv_topr (show _ = nI a1.toNat from z_toN (by omega)) ?_
      refine ix_iast (i := g 8) hx hb hK hP hD hS 1 0 rfl rfl (by omega) (by decide) d_MO_defect_64 (fun H locs hP hD hS => ?_)
      have hP : va_P (dC, dI) vwCl [(z 0, .inr (7, [.int (nI 0), .int (nI (g 1)), .int (nI (g 2)), .int (nI (g 3)), .int (nI (g 4)), .int (nI (g 5)), .int (nI (g 6)), .ref (z 1), .ref (z 2), .ref (z 3), .ref (z 4), .int (nI (g 7)), .ref (z 5), .ref (z 6), .ref (z 7), .ref (z 8), .ref (z 9), .ref (z 10), .int (nI (g 8)), .ref (z 11), .ref (z 12), .ref (z 13), .ref (z 14)])), (z 11, .inl (cI, 10, .inl (aN (up df (g 8) a1.toNat)))), (z 12, .inl (cI, 10, .inl (aN dt)))] H := hP
      have hD : va_D A [(z 0, .inr (7, [.int (nI 0), .int (nI (g 1)), .int (nI (g 2)), .int (nI (g 3)), .int (nI (g 4)), .int (nI (g 5)), .int (nI (g 6)), .ref (z 1), .ref (z 2), .ref (z 3), .ref (z 4), .int (nI (g 7)), .ref (z 5), .ref (z 6), .ref (z 7), .ref (z 8), .ref (z 9), .ref (z 10), .int (nI (g 8)), .ref (z 11), .ref (z 12), .ref (z 13), .ref (z 14)])), (z 11, .inl (cI, 10, .inl (aN (up df (g 8) a1.toNat)))), (z 12, .inl (cI, 10, .inl (aN dt)))] := hD
      refine lv_aload_n hx hb d_MO_defect_65 rfl (lv_at hl 0 rfl) ?_
      refine va_get (D := (dC, dI)) (ci := 7) (v := .ref (z 12)) (C := R_MO) (T := F_MO) (N := 23) hx hb hts in_MO hown hK hP 0 rfl rfl 20 (by decide) (hts _ m_592) (fun _ h9 => h9) rfl d_MO_defect_66 ?_
      refine lv_aload_n hx hb d_MO_defect_69 rfl (lv_at hl 0 rfl) ?_
      refine va_get (D := (dC, dI)) (ci := 7) (v := .int (nI (g 8))) (C := R_MO) (T := F_MO) (N := 23) hx hb hts in_MO hown hK hP 0 rfl rfl 18 (by decide) (hts _ m_590) (fun _ h9 => h9) rfl d_MO_defect_70 ?_
      refine lv_iload_n hx hb d_MO_defect_73 rfl (lv_at hl 2 rfl) ?_
      refine lv_topr (show _ = nI a2.toNat from z_toN (by omega)) ?_
      refine ix_iast (i := g 8) hx hb hK hP hD hS 2 0 rfl rfl (by omega) (by decide) d_MO_defect_74 (fun H locs hP hD hS => ?_)
      have hP : va_P (dC, dI) vwCl [(z 0, .inr (7, [.int (nI 0), .int (nI (g 1)), .int (nI (g 2)), .int (nI (g 3)), .int (nI (g 4)), .int (nI (g 5)), .int (nI (g 6)), .ref (z 1), .ref (z 2), .ref (z 3), .ref (z 4), .int (nI (g 7)), .ref (z 5), .ref (z 6), .ref (z 7), .ref (z 8), .ref (z 9), .ref (z 10), .int (nI (g 8)), .ref (z 11), .ref (z 12), .ref (z 13), .ref (z 14)])), (z 11, .inl (cI, 10, .inl (aN (up df (g 8) a1.toNat)))), (z 12, .inl (cI, 10, .inl (aN (up dt (g 8) a2.toNat))))] H := hP
      have hD : va_D A [(z 0, .inr (7, [.int (nI 0), .int (nI (g 1)), .int (nI (g 2)), .int (nI (g 3)), .int (nI (g 4)), .int (nI (g 5)), .int (nI (g 6)), .ref (z 1), .ref (z 2), .ref (z 3), .ref (z 4), .int (nI (g 7)), .ref (z 5), .ref (z 6), .ref (z 7), .ref (z 8), .ref (z 9), .ref (z 10), .int (nI (g 8)), .ref (z 11), .ref (z 12), .ref (z 13), .ref (z 14)])), (z 11, .inl (cI, 10, .inl (aN (up df (g 8) a1.toNat)))), (z 12, .inl (cI, 10, .inl (aN (up dt (g 8) a2.toNat))))] := hD
      refine lv_aload_n hx hb d_MO_defect_75 rfl (lv_at hl 0 rfl) ?_
      refine lv_dup hx hb d_MO_defect_76 rfl ?_
      refine va_get (D := (dC, dI)) (ci := 7) (v := .int (nI (g 8))) (C := R_MO) (T := F_MO) (N := 23) hx hb hts in_MO hown hK hP 0 rfl rfl 18 (by decide) (hts _ m_590) (fun _ h9 => h9) rfl d_MO_defect_77 ?_
      refine lv_iconst (v := nI 1) hx hb d_MO_defect_80 (by decide +kernel) ?_
      refine lv_iadd hx hb d_MO_defect_81 ?_
      refine lv_topr (show _ = nI ((g 8) + 1) from nn_add _ _) ?_
      refine va_put (D := (dC, dI)) (ci := 7) (v := .int (nI ((g 8) + 1))) (ty := .int) (C := R_MO) (T := F_MO) (N := 23) hx hb hts in_MO t_MO t_MO_ok n_MO hown hK hP hD hS 0 rfl rfl 18 (by decide) (hts _ m_590) (fun _ h9 => h9) rfl (by decide +kernel) rfl rfl (Nat.le_of_ble_eq_true rfl) d_MO_defect_82 (fun H locs hP hD hS => ?_)
      have hP : va_P (dC, dI) vwCl [(z 0, .inr (7, [.int (nI 0), .int (nI (g 1)), .int (nI (g 2)), .int (nI (g 3)), .int (nI (g 4)), .int (nI (g 5)), .int (nI (g 6)), .ref (z 1), .ref (z 2), .ref (z 3), .ref (z 4), .int (nI (g 7)), .ref (z 5), .ref (z 6), .ref (z 7), .ref (z 8), .ref (z 9), .ref (z 10), .int (nI ((g 8) + 1)), .ref (z 11), .ref (z 12), .ref (z 13), .ref (z 14)])), (z 11, .inl (cI, 10, .inl (aN (up df (g 8) a1.toNat)))), (z 12, .inl (cI, 10, .inl (aN (up dt (g 8) a2.toNat))))] H := hP
      have hD : va_D A [(z 0, .inr (7, [.int (nI 0), .int (nI (g 1)), .int (nI (g 2)), .int (nI (g 3)), .int (nI (g 4)), .int (nI (g 5)), .int (nI (g 6)), .ref (z 1), .ref (z 2), .ref (z 3), .ref (z 4), .int (nI (g 7)), .ref (z 5), .ref (z 6), .ref (z 7), .ref (z 8), .ref (z 9), .ref (z 10), .int (nI ((g 8) + 1)), .ref (z 11), .ref (z 12), .ref (z 13), .ref (z 14)])), (z 11, .inl (cI, 10, .inl (aN (up df (g 8) a1.toNat)))), (z 12, .inl (cI, 10, .inl (aN (up dt (g 8) a2.toNat))))] := hD
      refine lv_aload_n hx hb d_MO_defect_85 rfl (lv_at hl 0 rfl) ?_
      refine va_get (D := (dC, dI)) (ci := 7) (v := .int (nI ((g 8) + 1))) (C := R_MO) (T := F_MO) (N := 23) hx hb hts in_MO hown hK hP 0 rfl rfl 18 (by decide) (hts _ m_590) (fun _ h9 => h9) rfl d_MO_defect_86 ?_
      exact W.iret (v := nI ((g 8) + 1)) hx hb hr (fun t ht hW => ⟨⟨nI ((g 8) + 1), (0, (g 8) + 1, up df (g 8) a1.toNat, up dt (g 8) a2.toNat), rfl, ⟨fun q => absurd q (by omega), fun q => absurd q (by omega), fun _ => ⟨rfl, rfl, rfl, rfl, rfl⟩⟩, by rw [ht]; exact hP, va_K.moved hW.alike hK, hD⟩, hS.F ht⟩) hS.2.2 d_MO_defect_89
    refine lv_iconst (v := nI 1) hx hb d_MO_defect_42 (by decide +kernel) ?_
    refine lv_goto (tgt := 47) hx hb d_MO_defect_43 (by decide) ?_
    have hPc := hP.sub (ws' := [(z 0, .inr (7, [.int (nI (g 0)), .int (nI (g 1)), .int (nI (g 2)), .int (nI (g 3)), .int (nI (g 4)), .int (nI (g 5)), .int (nI (g 6)), .ref (z 1), .ref (z 2), .ref (z 3), .ref (z 4), .int (nI (g 7)), .ref (z 5), .ref (z 6), .ref (z 7), .ref (z 8), .ref (z 9), .ref (z 10), .int (nI (g 8)), .ref (z 11), .ref (z 12), .ref (z 13), .ref (z 14)]))]) [0] rfl
    have hDc := hD.sub (ws' := [(z 0, .inr (7, [.int (nI (g 0)), .int (nI (g 1)), .int (nI (g 2)), .int (nI (g 3)), .int (nI (g 4)), .int (nI (g 5)), .int (nI (g 6)), .ref (z 1), .ref (z 2), .ref (z 3), .ref (z 4), .int (nI (g 7)), .ref (z 5), .ref (z 6), .ref (z 7), .ref (z 8), .ref (z 9), .ref (z 10), .int (nI (g 8)), .ref (z 11), .ref (z 12), .ref (z 13), .ref (z 14)]))]) [0] (by decide) rfl
    have hFc := va_free (wc := [(z 0, .inr (7, [.int (nI (g 0)), .int (nI (g 1)), .int (nI (g 2)), .int (nI (g 3)), .int (nI (g 4)), .int (nI (g 5)), .int (nI (g 6)), .ref (z 1), .ref (z 2), .ref (z 3), .ref (z 4), .int (nI (g 7)), .ref (z 5), .ref (z 6), .ref (z 7), .ref (z 8), .ref (z 9), .ref (z 10), .int (nI (g 8)), .ref (z 11), .ref (z 12), .ref (z 13), .ref (z 14)]))]) hD hS hA [0] rfl
    refine va_calli (va_runV (As := [.int (nI 0), .int (nI 1)]) (rest := []) ⟨hx, hb, hml, hown, hts⟩ (c_MO_throwing l dC dI H.size z g cI 0 1 (by decide) (by decide)) (cwV 2 hts (gw_V m_654 m_656 s_16 m_8 m_657) rfl rfl rfl (by decide +kernel) ⟨Nat.le_of_ble_eq_true rfl, Nat.le_of_ble_eq_true rfl⟩) ⟨rw_blind, va_recv hK hPc (ci := 7) (q0 := 0) rfl rfl, fun U hU hW => ⟨rfl, by rw [hU], by rw [hU]; exact hPc, va_K.moved hW.alike hK, hDc.weaken (fun _ _ _ _ => trivial)⟩⟩ rfl rfl hl.1 rfl (lv_room (Nat.le_of_ble_eq_true rfl)) d_MO_defect_47 ⟨Nat.le_of_ble_eq_true rfl, Nat.le_of_ble_eq_true rfl⟩) hS (fun q _ h => hFc q h) hFc (fun r u t H1 locs ht hvm hw hB hz1 hk1 hS => ?_)
    obtain ⟨th1, rfl⟩ : ∃ z, z = u := ⟨_, rfl⟩
    obtain ⟨hP1, hK1, hD1⟩ := hB
    rw [ht] at hP1
    try dsimp only at hw
    obtain ⟨hP, hD⟩ := va_join (wr := [(z 11, .inl (cI, 10, .inl (aN df))), (z 12, .inl (cI, 10, .inl (aN dt)))]) (w1 := [(z 0, .inr (7, [.int (nI th1), .int (nI (g 1)), .int (nI (g 2)), .int (nI (g 3)), .int (nI (g 4)), .int (nI (g 5)), .int (nI (g 6)), .ref (z 1), .ref (z 2), .ref (z 3), .ref (z 4), .int (nI (g 7)), .ref (z 5), .ref (z 6), .ref (z 7), .ref (z 8), .ref (z 9), .ref (z 10), .int (nI (g 8)), .ref (z 11), .ref (z 12), .ref (z 13), .ref (z 14)]))]) hP hD [0] [1, 2] rfl rfl (by decide) (by decide) hk1 hFc hP1 hD1
    generalize H1 = H at hP hS ⊢
    have hP : va_P (dC, dI) vwCl [(z 0, .inr (7, [.int (nI th1), .int (nI (g 1)), .int (nI (g 2)), .int (nI (g 3)), .int (nI (g 4)), .int (nI (g 5)), .int (nI (g 6)), .ref (z 1), .ref (z 2), .ref (z 3), .ref (z 4), .int (nI (g 7)), .ref (z 5), .ref (z 6), .ref (z 7), .ref (z 8), .ref (z 9), .ref (z 10), .int (nI (g 8)), .ref (z 11), .ref (z 12), .ref (z 13), .ref (z 14)])), (z 11, .inl (cI, 10, .inl (aN df))), (z 12, .inl (cI, 10, .inl (aN dt)))] H := hP.sub [2, 0, 1] rfl
    have hD : va_D A [(z 0, .inr (7, [.int (nI th1), .int (nI (g 1)), .int (nI (g 2)), .int (nI (g 3)), .int (nI (g 4)), .int (nI (g 5)), .int (nI (g 6)), .ref (z 1), .ref (z 2), .ref (z 3), .ref (z 4), .int (nI (g 7)), .ref (z 5), .ref (z 6), .ref (z 7), .ref (z 8), .ref (z 9), .ref (z 10), .int (nI (g 8)), .ref (z 11), .ref (z 12), .ref (z 13), .ref (z 14)])), (z 11, .inl (cI, 10, .inl (aN df))), (z 12, .inl (cI, 10, .inl (aN dt)))] := hD.sub [2, 0, 1] (by decide) rfl
    obtain ⟨rfl, hth⟩ := hw
    have hth : th1 = 2 := hth
    subst hth
    have hP : va_P (dC, dI) vwCl [(z 0, .inr (7, [.int (nI 2), .int (nI (g 1)), .int (nI (g 2)), .int (nI (g 3)), .int (nI (g 4)), .int (nI (g 5)), .int (nI (g 6)), .ref (z 1), .ref (z 2), .ref (z 3), .ref (z 4), .int (nI (g 7)), .ref (z 5), .ref (z 6), .ref (z 7), .ref (z 8), .ref (z 9), .ref (z 10), .int (nI (g 8)), .ref (z 11), .ref (z 12), .ref (z 13), .ref (z 14)])), (z 11, .inl (cI, 10, .inl (aN df))), (z 12, .inl (cI, 10, .inl (aN dt)))] H := hP
    have hD : va_D A [(z 0, .inr (7, [.int (nI 2), .int (nI (g 1)), .int (nI (g 2)), .int (nI (g 3)), .int (nI (g 4)), .int (nI (g 5)), .int (nI (g 6)), .ref (z 1), .ref (z 2), .ref (z 3), .ref (z 4), .int (nI (g 7)), .ref (z 5), .ref (z 6), .ref (z 7), .ref (z 8), .ref (z 9), .ref (z 10), .int (nI (g 8)), .ref (z 11), .ref (z 12), .ref (z 13), .ref (z 14)])), (z 11, .inl (cI, 10, .inl (aN df))), (z 12, .inl (cI, 10, .inl (aN dt)))] := hD
    refine lv_topr (show _ = nI 1 from rfl) ?_
    refine ix_if_eq (tgt := 55) hx hb (nI_tI (n := 1) (by omega)) d_MO_defect_50 (by decide) (fun c_50 => absurd c_50 (by omega)) (fun c_50 => ?_)
    refine lv_iconst (v := nI 0) hx hb d_MO_defect_53 (by decide +kernel) ?_
    exact W.iret (v := nI 0) hx hb hr (fun t ht hW => ⟨⟨nI 0, (2, g 8, df, dt), rfl, ⟨fun q => absurd q (by omega), fun _ => ⟨rfl, rfl, rfl, rfl⟩, fun q => absurd q (by omega)⟩, by rw [ht]; exact hP, va_K.moved hW.alike hK, hD⟩, hS.F ht⟩) hS.2.2 d_MO_defect_54
  refine lv_iconst (v := nI 1) hx hb d_MO_defect_10 (by decide +kernel) ?_
  refine lv_goto (tgt := 15) hx hb d_MO_defect_11 (by decide) ?_
  refine lv_iload_n hx hb d_MO_defect_15 rfl (lv_at hl 1 rfl) ?_
  refine lv_iconst (v := nI 0) hx hb d_MO_defect_16 (by decide +kernel) ?_
  refine lv_sipush (v := nI 20000) hx hb d_MO_defect_17 (by decide +kernel) ?_
  refine lv_arg3 (show _ = zI a1 from rfl) (show _ = zI 0 from zI_n _) (show _ = zI 20000 from zI_n _) ?_
  refine ro_calli (va_runS (As := [.int (zI a1), .int (zI (0 : Int)), .int (zI (20000 : Int))]) (rest := [.int (nI 1), .ref (z 0)]) ⟨hx, hb, hml, hown, hts⟩ (c_MO_in l dC dI cI a1 (0 : Int) (20000 : Int) ha1 (by omega) (by omega)) (va_cwS 3 hts (gw_S m_650 m_651 m_8 m_652) rfl rfl rfl (by decide +kernel) ⟨Nat.le_of_ble_eq_true rfl, Nat.le_of_ble_eq_true rfl⟩) ⟨ro_blind, fun U hU hW => ⟨rfl, fun k q h => by simp at h, va_K.moved hW.alike hK⟩⟩ rfl rfl hl.1 rfl (lv_room (Nat.le_of_ble_eq_true rfl)) d_MO_defect_20 ⟨Nat.le_of_ble_eq_true rfl, Nat.le_of_ble_eq_true rfl⟩) hS hP (fun r H locs er hP hS => ?_)
  subst er
  have hq20 := @b01_1 ((0 : Int) ≤ a1 ∧ a1 ≤ (20000 : Int)) _
  have hr20 := @b01_le ((0 : Int) ≤ a1 ∧ a1 ≤ (20000 : Int)) _
  refine ix_if_eq (tgt := 42) hx hb (nI_tI (n := b01 ((0 : Int) ≤ a1 ∧ a1 ≤ (20000 : Int))) (by omega)) d_MO_defect_23 (by decide) (fun c_23 => ?_) (fun c_23 => ?_)
  · refine lv_iconst (v := nI 1) hx hb d_MO_defect_42 (by decide +kernel) ?_
    refine lv_goto (tgt := 47) hx hb d_MO_defect_43 (by decide) ?_
    have hPc := hP.sub (ws' := [(z 0, .inr (7, [.int (nI (g 0)), .int (nI (g 1)), .int (nI (g 2)), .int (nI (g 3)), .int (nI (g 4)), .int (nI (g 5)), .int (nI (g 6)), .ref (z 1), .ref (z 2), .ref (z 3), .ref (z 4), .int (nI (g 7)), .ref (z 5), .ref (z 6), .ref (z 7), .ref (z 8), .ref (z 9), .ref (z 10), .int (nI (g 8)), .ref (z 11), .ref (z 12), .ref (z 13), .ref (z 14)]))]) [0] rfl
    have hDc := hD.sub (ws' := [(z 0, .inr (7, [.int (nI (g 0)), .int (nI (g 1)), .int (nI (g 2)), .int (nI (g 3)), .int (nI (g 4)), .int (nI (g 5)), .int (nI (g 6)), .ref (z 1), .ref (z 2), .ref (z 3), .ref (z 4), .int (nI (g 7)), .ref (z 5), .ref (z 6), .ref (z 7), .ref (z 8), .ref (z 9), .ref (z 10), .int (nI (g 8)), .ref (z 11), .ref (z 12), .ref (z 13), .ref (z 14)]))]) [0] (by decide) rfl
    have hFc := va_free (wc := [(z 0, .inr (7, [.int (nI (g 0)), .int (nI (g 1)), .int (nI (g 2)), .int (nI (g 3)), .int (nI (g 4)), .int (nI (g 5)), .int (nI (g 6)), .ref (z 1), .ref (z 2), .ref (z 3), .ref (z 4), .int (nI (g 7)), .ref (z 5), .ref (z 6), .ref (z 7), .ref (z 8), .ref (z 9), .ref (z 10), .int (nI (g 8)), .ref (z 11), .ref (z 12), .ref (z 13), .ref (z 14)]))]) hD hS hA [0] rfl
    refine va_calli (va_runV (As := [.int (nI 1), .int (nI 1)]) (rest := []) ⟨hx, hb, hml, hown, hts⟩ (c_MO_throwing l dC dI H.size z g cI 1 1 (by decide) (by decide)) (cwV 2 hts (gw_V m_654 m_656 s_16 m_8 m_657) rfl rfl rfl (by decide +kernel) ⟨Nat.le_of_ble_eq_true rfl, Nat.le_of_ble_eq_true rfl⟩) ⟨rw_blind, va_recv hK hPc (ci := 7) (q0 := 0) rfl rfl, fun U hU hW => ⟨rfl, by rw [hU], by rw [hU]; exact hPc, va_K.moved hW.alike hK, hDc.weaken (fun _ _ _ _ => trivial)⟩⟩ rfl rfl hl.1 rfl (lv_room (Nat.le_of_ble_eq_true rfl)) d_MO_defect_47 ⟨Nat.le_of_ble_eq_true rfl, Nat.le_of_ble_eq_true rfl⟩) hS (fun q _ h => hFc q h) hFc (fun r u t H1 locs ht hvm hw hB hz1 hk1 hS => ?_)
    obtain ⟨th1, rfl⟩ : ∃ z, z = u := ⟨_, rfl⟩
    obtain ⟨hP1, hK1, hD1⟩ := hB
    rw [ht] at hP1
    try dsimp only at hw
    obtain ⟨hP, hD⟩ := va_join (wr := [(z 11, .inl (cI, 10, .inl (aN df))), (z 12, .inl (cI, 10, .inl (aN dt)))]) (w1 := [(z 0, .inr (7, [.int (nI th1), .int (nI (g 1)), .int (nI (g 2)), .int (nI (g 3)), .int (nI (g 4)), .int (nI (g 5)), .int (nI (g 6)), .ref (z 1), .ref (z 2), .ref (z 3), .ref (z 4), .int (nI (g 7)), .ref (z 5), .ref (z 6), .ref (z 7), .ref (z 8), .ref (z 9), .ref (z 10), .int (nI (g 8)), .ref (z 11), .ref (z 12), .ref (z 13), .ref (z 14)]))]) hP hD [0] [1, 2] rfl rfl (by decide) (by decide) hk1 hFc hP1 hD1
    generalize H1 = H at hP hS ⊢
    have hP : va_P (dC, dI) vwCl [(z 0, .inr (7, [.int (nI th1), .int (nI (g 1)), .int (nI (g 2)), .int (nI (g 3)), .int (nI (g 4)), .int (nI (g 5)), .int (nI (g 6)), .ref (z 1), .ref (z 2), .ref (z 3), .ref (z 4), .int (nI (g 7)), .ref (z 5), .ref (z 6), .ref (z 7), .ref (z 8), .ref (z 9), .ref (z 10), .int (nI (g 8)), .ref (z 11), .ref (z 12), .ref (z 13), .ref (z 14)])), (z 11, .inl (cI, 10, .inl (aN df))), (z 12, .inl (cI, 10, .inl (aN dt)))] H := hP.sub [2, 0, 1] rfl
    have hD : va_D A [(z 0, .inr (7, [.int (nI th1), .int (nI (g 1)), .int (nI (g 2)), .int (nI (g 3)), .int (nI (g 4)), .int (nI (g 5)), .int (nI (g 6)), .ref (z 1), .ref (z 2), .ref (z 3), .ref (z 4), .int (nI (g 7)), .ref (z 5), .ref (z 6), .ref (z 7), .ref (z 8), .ref (z 9), .ref (z 10), .int (nI (g 8)), .ref (z 11), .ref (z 12), .ref (z 13), .ref (z 14)])), (z 11, .inl (cI, 10, .inl (aN df))), (z 12, .inl (cI, 10, .inl (aN dt)))] := hD.sub [2, 0, 1] (by decide) rfl
    obtain ⟨rfl, hth⟩ := hw
    have hth : th1 = 1 := hth
    subst hth
    have hP : va_P (dC, dI) vwCl [(z 0, .inr (7, [.int (nI 1), .int (nI (g 1)), .int (nI (g 2)), .int (nI (g 3)), .int (nI (g 4)), .int (nI (g 5)), .int (nI (g 6)), .ref (z 1), .ref (z 2), .ref (z 3), .ref (z 4), .int (nI (g 7)), .ref (z 5), .ref (z 6), .ref (z 7), .ref (z 8), .ref (z 9), .ref (z 10), .int (nI (g 8)), .ref (z 11), .ref (z 12), .ref (z 13), .ref (z 14)])), (z 11, .inl (cI, 10, .inl (aN df))), (z 12, .inl (cI, 10, .inl (aN dt)))] H := hP
    have hD : va_D A [(z 0, .inr (7, [.int (nI 1), .int (nI (g 1)), .int (nI (g 2)), .int (nI (g 3)), .int (nI (g 4)), .int (nI (g 5)), .int (nI (g 6)), .ref (z 1), .ref (z 2), .ref (z 3), .ref (z 4), .int (nI (g 7)), .ref (z 5), .ref (z 6), .ref (z 7), .ref (z 8), .ref (z 9), .ref (z 10), .int (nI (g 8)), .ref (z 11), .ref (z 12), .ref (z 13), .ref (z 14)])), (z 11, .inl (cI, 10, .inl (aN df))), (z 12, .inl (cI, 10, .inl (aN dt)))] := hD
    refine lv_topr (show _ = nI 1 from rfl) ?_
    refine ix_if_eq (tgt := 55) hx hb (nI_tI (n := 1) (by omega)) d_MO_defect_50 (by decide) (fun c_50 => absurd c_50 (by omega)) (fun c_50 => ?_)
    refine lv_iconst (v := nI 0) hx hb d_MO_defect_53 (by decide +kernel) ?_
    exact W.iret (v := nI 0) hx hb hr (fun t ht hW => ⟨⟨nI 0, (1, g 8, df, dt), rfl, ⟨fun _ => ⟨rfl, rfl, rfl, rfl⟩, fun q => absurd q (by omega), fun q => absurd q (by omega)⟩, by rw [ht]; exact hP, va_K.moved hW.alike hK, hD⟩, hS.F ht⟩) hS.2.2 d_MO_defect_54
  refine lv_iload_n hx hb d_MO_defect_26 rfl (lv_at hl 2 rfl) ?_
  refine lv_iconst (v := nI 0) hx hb d_MO_defect_27 (by decide +kernel) ?_
  refine lv_sipush (v := nI 20000) hx hb d_MO_defect_28 (by decide +kernel) ?_
  refine lv_arg3 (show _ = zI a2 from rfl) (show _ = zI 0 from zI_n _) (show _ = zI 20000 from zI_n _) ?_
  refine ro_calli (va_runS (As := [.int (zI a2), .int (zI (0 : Int)), .int (zI (20000 : Int))]) (rest := [.int (nI 1), .ref (z 0)]) ⟨hx, hb, hml, hown, hts⟩ (c_MO_in l dC dI cI a2 (0 : Int) (20000 : Int) ha2 (by omega) (by omega)) (va_cwS 3 hts (gw_S m_650 m_651 m_8 m_652) rfl rfl rfl (by decide +kernel) ⟨Nat.le_of_ble_eq_true rfl, Nat.le_of_ble_eq_true rfl⟩) ⟨ro_blind, fun U hU hW => ⟨rfl, fun k q h => by simp at h, va_K.moved hW.alike hK⟩⟩ rfl rfl hl.1 rfl (lv_room (Nat.le_of_ble_eq_true rfl)) d_MO_defect_31 ⟨Nat.le_of_ble_eq_true rfl, Nat.le_of_ble_eq_true rfl⟩) hS hP (fun r H locs er hP hS => ?_)
  subst er
  have hq31 := @b01_1 ((0 : Int) ≤ a2 ∧ a2 ≤ (20000 : Int)) _
  have hr31 := @b01_le ((0 : Int) ≤ a2 ∧ a2 ≤ (20000 : Int)) _
  refine ix_if_eq (tgt := 42) hx hb (nI_tI (n := b01 ((0 : Int) ≤ a2 ∧ a2 ≤ (20000 : Int))) (by omega)) d_MO_defect_34 (by decide) (fun c_34 => ?_) (fun c_34 => ?_)
  · refine lv_iconst (v := nI 1) hx hb d_MO_defect_42 (by decide +kernel) ?_
    refine lv_goto (tgt := 47) hx hb d_MO_defect_43 (by decide) ?_
    have hPc := hP.sub (ws' := [(z 0, .inr (7, [.int (nI (g 0)), .int (nI (g 1)), .int (nI (g 2)), .int (nI (g 3)), .int (nI (g 4)), .int (nI (g 5)), .int (nI (g 6)), .ref (z 1), .ref (z 2), .ref (z 3), .ref (z 4), .int (nI (g 7)), .ref (z 5), .ref (z 6), .ref (z 7), .ref (z 8), .ref (z 9), .ref (z 10), .int (nI (g 8)), .ref (z 11), .ref (z 12), .ref (z 13), .ref (z 14)]))]) [0] rfl
    have hDc := hD.sub (ws' := [(z 0, .inr (7, [.int (nI (g 0)), .int (nI (g 1)), .int (nI (g 2)), .int (nI (g 3)), .int (nI (g 4)), .int (nI (g 5)), .int (nI (g 6)), .ref (z 1), .ref (z 2), .ref (z 3), .ref (z 4), .int (nI (g 7)), .ref (z 5), .ref (z 6), .ref (z 7), .ref (z 8), .ref (z 9), .ref (z 10), .int (nI (g 8)), .ref (z 11), .ref (z 12), .ref (z 13), .ref (z 14)]))]) [0] (by decide) rfl
    have hFc := va_free (wc := [(z 0, .inr (7, [.int (nI (g 0)), .int (nI (g 1)), .int (nI (g 2)), .int (nI (g 3)), .int (nI (g 4)), .int (nI (g 5)), .int (nI (g 6)), .ref (z 1), .ref (z 2), .ref (z 3), .ref (z 4), .int (nI (g 7)), .ref (z 5), .ref (z 6), .ref (z 7), .ref (z 8), .ref (z 9), .ref (z 10), .int (nI (g 8)), .ref (z 11), .ref (z 12), .ref (z 13), .ref (z 14)]))]) hD hS hA [0] rfl
    refine va_calli (va_runV (As := [.int (nI 1), .int (nI 1)]) (rest := []) ⟨hx, hb, hml, hown, hts⟩ (c_MO_throwing l dC dI H.size z g cI 1 1 (by decide) (by decide)) (cwV 2 hts (gw_V m_654 m_656 s_16 m_8 m_657) rfl rfl rfl (by decide +kernel) ⟨Nat.le_of_ble_eq_true rfl, Nat.le_of_ble_eq_true rfl⟩) ⟨rw_blind, va_recv hK hPc (ci := 7) (q0 := 0) rfl rfl, fun U hU hW => ⟨rfl, by rw [hU], by rw [hU]; exact hPc, va_K.moved hW.alike hK, hDc.weaken (fun _ _ _ _ => trivial)⟩⟩ rfl rfl hl.1 rfl (lv_room (Nat.le_of_ble_eq_true rfl)) d_MO_defect_47 ⟨Nat.le_of_ble_eq_true rfl, Nat.le_of_ble_eq_true rfl⟩) hS (fun q _ h => hFc q h) hFc (fun r u t H1 locs ht hvm hw hB hz1 hk1 hS => ?_)
    obtain ⟨th1, rfl⟩ : ∃ z, z = u := ⟨_, rfl⟩
    obtain ⟨hP1, hK1, hD1⟩ := hB
    rw [ht] at hP1
    try dsimp only at hw
    obtain ⟨hP, hD⟩ := va_join (wr := [(z 11, .inl (cI, 10, .inl (aN df))), (z 12, .inl (cI, 10, .inl (aN dt)))]) (w1 := [(z 0, .inr (7, [.int (nI th1), .int (nI (g 1)), .int (nI (g 2)), .int (nI (g 3)), .int (nI (g 4)), .int (nI (g 5)), .int (nI (g 6)), .ref (z 1), .ref (z 2), .ref (z 3), .ref (z 4), .int (nI (g 7)), .ref (z 5), .ref (z 6), .ref (z 7), .ref (z 8), .ref (z 9), .ref (z 10), .int (nI (g 8)), .ref (z 11), .ref (z 12), .ref (z 13), .ref (z 14)]))]) hP hD [0] [1, 2] rfl rfl (by decide) (by decide) hk1 hFc hP1 hD1
    generalize H1 = H at hP hS ⊢
    have hP : va_P (dC, dI) vwCl [(z 0, .inr (7, [.int (nI th1), .int (nI (g 1)), .int (nI (g 2)), .int (nI (g 3)), .int (nI (g 4)), .int (nI (g 5)), .int (nI (g 6)), .ref (z 1), .ref (z 2), .ref (z 3), .ref (z 4), .int (nI (g 7)), .ref (z 5), .ref (z 6), .ref (z 7), .ref (z 8), .ref (z 9), .ref (z 10), .int (nI (g 8)), .ref (z 11), .ref (z 12), .ref (z 13), .ref (z 14)])), (z 11, .inl (cI, 10, .inl (aN df))), (z 12, .inl (cI, 10, .inl (aN dt)))] H := hP.sub [2, 0, 1] rfl
    have hD : va_D A [(z 0, .inr (7, [.int (nI th1), .int (nI (g 1)), .int (nI (g 2)), .int (nI (g 3)), .int (nI (g 4)), .int (nI (g 5)), .int (nI (g 6)), .ref (z 1), .ref (z 2), .ref (z 3), .ref (z 4), .int (nI (g 7)), .ref (z 5), .ref (z 6), .ref (z 7), .ref (z 8), .ref (z 9), .ref (z 10), .int (nI (g 8)), .ref (z 11), .ref (z 12), .ref (z 13), .ref (z 14)])), (z 11, .inl (cI, 10, .inl (aN df))), (z 12, .inl (cI, 10, .inl (aN dt)))] := hD.sub [2, 0, 1] (by decide) rfl
    obtain ⟨rfl, hth⟩ := hw
    have hth : th1 = 1 := hth
    subst hth
    have hP : va_P (dC, dI) vwCl [(z 0, .inr (7, [.int (nI 1), .int (nI (g 1)), .int (nI (g 2)), .int (nI (g 3)), .int (nI (g 4)), .int (nI (g 5)), .int (nI (g 6)), .ref (z 1), .ref (z 2), .ref (z 3), .ref (z 4), .int (nI (g 7)), .ref (z 5), .ref (z 6), .ref (z 7), .ref (z 8), .ref (z 9), .ref (z 10), .int (nI (g 8)), .ref (z 11), .ref (z 12), .ref (z 13), .ref (z 14)])), (z 11, .inl (cI, 10, .inl (aN df))), (z 12, .inl (cI, 10, .inl (aN dt)))] H := hP
    have hD : va_D A [(z 0, .inr (7, [.int (nI 1), .int (nI (g 1)), .int (nI (g 2)), .int (nI (g 3)), .int (nI (g 4)), .int (nI (g 5)), .int (nI (g 6)), .ref (z 1), .ref (z 2), .ref (z 3), .ref (z 4), .int (nI (g 7)), .ref (z 5), .ref (z 6), .ref (z 7), .ref (z 8), .ref (z 9), .ref (z 10), .int (nI (g 8)), .ref (z 11), .ref (z 12), .ref (z 13), .ref (z 14)])), (z 11, .inl (cI, 10, .inl (aN df))), (z 12, .inl (cI, 10, .inl (aN dt)))] := hD
    refine lv_topr (show _ = nI 1 from rfl) ?_
    refine ix_if_eq (tgt := 55) hx hb (nI_tI (n := 1) (by omega)) d_MO_defect_50 (by decide) (fun c_50 => absurd c_50 (by omega)) (fun c_50 => ?_)
    refine lv_iconst (v := nI 0) hx hb d_MO_defect_53 (by decide +kernel) ?_
    exact W.iret (v := nI 0) hx hb hr (fun t ht hW => ⟨⟨nI 0, (1, g 8, df, dt), rfl, ⟨fun _ => ⟨rfl, rfl, rfl, rfl⟩, fun q => absurd q (by omega), fun q => absurd q (by omega)⟩, by rw [ht]; exact hP, va_K.moved hW.alike hK, hD⟩, hS.F ht⟩) hS.2.2 d_MO_defect_54
  refine lv_iload_n hx hb d_MO_defect_37 rfl (lv_at hl 2 rfl) ?_
  refine lv_iload_n hx hb d_MO_defect_38 rfl (lv_at hl 1 rfl) ?_
  refine ix_icmp_gt (tgt := 46) hx hb (zI_toInt (z := a2) (by omega) (by omega)) (zI_toInt (z := a1) (by omega) (by omega)) d_MO_defect_39 (by decide) (fun c_39 => ?_) (fun c_39 => ?_)
  · refine lv_iconst (v := nI 0) hx hb d_MO_defect_46 (by decide +kernel) ?_
    have hPc := hP.sub (ws' := [(z 0, .inr (7, [.int (nI (g 0)), .int (nI (g 1)), .int (nI (g 2)), .int (nI (g 3)), .int (nI (g 4)), .int (nI (g 5)), .int (nI (g 6)), .ref (z 1), .ref (z 2), .ref (z 3), .ref (z 4), .int (nI (g 7)), .ref (z 5), .ref (z 6), .ref (z 7), .ref (z 8), .ref (z 9), .ref (z 10), .int (nI (g 8)), .ref (z 11), .ref (z 12), .ref (z 13), .ref (z 14)]))]) [0] rfl
    have hDc := hD.sub (ws' := [(z 0, .inr (7, [.int (nI (g 0)), .int (nI (g 1)), .int (nI (g 2)), .int (nI (g 3)), .int (nI (g 4)), .int (nI (g 5)), .int (nI (g 6)), .ref (z 1), .ref (z 2), .ref (z 3), .ref (z 4), .int (nI (g 7)), .ref (z 5), .ref (z 6), .ref (z 7), .ref (z 8), .ref (z 9), .ref (z 10), .int (nI (g 8)), .ref (z 11), .ref (z 12), .ref (z 13), .ref (z 14)]))]) [0] (by decide) rfl
    have hFc := va_free (wc := [(z 0, .inr (7, [.int (nI (g 0)), .int (nI (g 1)), .int (nI (g 2)), .int (nI (g 3)), .int (nI (g 4)), .int (nI (g 5)), .int (nI (g 6)), .ref (z 1), .ref (z 2), .ref (z 3), .ref (z 4), .int (nI (g 7)), .ref (z 5), .ref (z 6), .ref (z 7), .ref (z 8), .ref (z 9), .ref (z 10), .int (nI (g 8)), .ref (z 11), .ref (z 12), .ref (z 13), .ref (z 14)]))]) hD hS hA [0] rfl
    refine va_calli (va_runV (As := [.int (nI 1), .int (nI 0)]) (rest := []) ⟨hx, hb, hml, hown, hts⟩ (c_MO_throwing l dC dI H.size z g cI 1 0 (by decide) (by decide)) (cwV 2 hts (gw_V m_654 m_656 s_16 m_8 m_657) rfl rfl rfl (by decide +kernel) ⟨Nat.le_of_ble_eq_true rfl, Nat.le_of_ble_eq_true rfl⟩) ⟨rw_blind, va_recv hK hPc (ci := 7) (q0 := 0) rfl rfl, fun U hU hW => ⟨rfl, by rw [hU], by rw [hU]; exact hPc, va_K.moved hW.alike hK, hDc.weaken (fun _ _ _ _ => trivial)⟩⟩ rfl rfl hl.1 rfl (lv_room (Nat.le_of_ble_eq_true rfl)) d_MO_defect_47 ⟨Nat.le_of_ble_eq_true rfl, Nat.le_of_ble_eq_true rfl⟩) hS (fun q _ h => hFc q h) hFc (fun r u t H1 locs ht hvm hw hB hz1 hk1 hS => ?_)
    obtain ⟨th1, rfl⟩ : ∃ z, z = u := ⟨_, rfl⟩
    obtain ⟨hP1, hK1, hD1⟩ := hB
    rw [ht] at hP1
    try dsimp only at hw
    obtain ⟨hP, hD⟩ := va_join (wr := [(z 11, .inl (cI, 10, .inl (aN df))), (z 12, .inl (cI, 10, .inl (aN dt)))]) (w1 := [(z 0, .inr (7, [.int (nI th1), .int (nI (g 1)), .int (nI (g 2)), .int (nI (g 3)), .int (nI (g 4)), .int (nI (g 5)), .int (nI (g 6)), .ref (z 1), .ref (z 2), .ref (z 3), .ref (z 4), .int (nI (g 7)), .ref (z 5), .ref (z 6), .ref (z 7), .ref (z 8), .ref (z 9), .ref (z 10), .int (nI (g 8)), .ref (z 11), .ref (z 12), .ref (z 13), .ref (z 14)]))]) hP hD [0] [1, 2] rfl rfl (by decide) (by decide) hk1 hFc hP1 hD1
    generalize H1 = H at hP hS ⊢
    have hP : va_P (dC, dI) vwCl [(z 0, .inr (7, [.int (nI th1), .int (nI (g 1)), .int (nI (g 2)), .int (nI (g 3)), .int (nI (g 4)), .int (nI (g 5)), .int (nI (g 6)), .ref (z 1), .ref (z 2), .ref (z 3), .ref (z 4), .int (nI (g 7)), .ref (z 5), .ref (z 6), .ref (z 7), .ref (z 8), .ref (z 9), .ref (z 10), .int (nI (g 8)), .ref (z 11), .ref (z 12), .ref (z 13), .ref (z 14)])), (z 11, .inl (cI, 10, .inl (aN df))), (z 12, .inl (cI, 10, .inl (aN dt)))] H := hP.sub [2, 0, 1] rfl
    have hD : va_D A [(z 0, .inr (7, [.int (nI th1), .int (nI (g 1)), .int (nI (g 2)), .int (nI (g 3)), .int (nI (g 4)), .int (nI (g 5)), .int (nI (g 6)), .ref (z 1), .ref (z 2), .ref (z 3), .ref (z 4), .int (nI (g 7)), .ref (z 5), .ref (z 6), .ref (z 7), .ref (z 8), .ref (z 9), .ref (z 10), .int (nI (g 8)), .ref (z 11), .ref (z 12), .ref (z 13), .ref (z 14)])), (z 11, .inl (cI, 10, .inl (aN df))), (z 12, .inl (cI, 10, .inl (aN dt)))] := hD.sub [2, 0, 1] (by decide) rfl
    obtain ⟨rfl, hth⟩ := hw
    have hth : th1 = 1 := hth
    subst hth
    have hP : va_P (dC, dI) vwCl [(z 0, .inr (7, [.int (nI 1), .int (nI (g 1)), .int (nI (g 2)), .int (nI (g 3)), .int (nI (g 4)), .int (nI (g 5)), .int (nI (g 6)), .ref (z 1), .ref (z 2), .ref (z 3), .ref (z 4), .int (nI (g 7)), .ref (z 5), .ref (z 6), .ref (z 7), .ref (z 8), .ref (z 9), .ref (z 10), .int (nI (g 8)), .ref (z 11), .ref (z 12), .ref (z 13), .ref (z 14)])), (z 11, .inl (cI, 10, .inl (aN df))), (z 12, .inl (cI, 10, .inl (aN dt)))] H := hP
    have hD : va_D A [(z 0, .inr (7, [.int (nI 1), .int (nI (g 1)), .int (nI (g 2)), .int (nI (g 3)), .int (nI (g 4)), .int (nI (g 5)), .int (nI (g 6)), .ref (z 1), .ref (z 2), .ref (z 3), .ref (z 4), .int (nI (g 7)), .ref (z 5), .ref (z 6), .ref (z 7), .ref (z 8), .ref (z 9), .ref (z 10), .int (nI (g 8)), .ref (z 11), .ref (z 12), .ref (z 13), .ref (z 14)])), (z 11, .inl (cI, 10, .inl (aN df))), (z 12, .inl (cI, 10, .inl (aN dt)))] := hD
    refine lv_topr (show _ = nI 1 from rfl) ?_
    refine ix_if_eq (tgt := 55) hx hb (nI_tI (n := 1) (by omega)) d_MO_defect_50 (by decide) (fun c_50 => absurd c_50 (by omega)) (fun c_50 => ?_)
    refine lv_iconst (v := nI 0) hx hb d_MO_defect_53 (by decide +kernel) ?_
    exact W.iret (v := nI 0) hx hb hr (fun t ht hW => ⟨⟨nI 0, (1, g 8, df, dt), rfl, ⟨fun _ => ⟨rfl, rfl, rfl, rfl⟩, fun q => absurd q (by omega), fun q => absurd q (by omega)⟩, by rw [ht]; exact hP, va_K.moved hW.alike hK, hD⟩, hS.F ht⟩) hS.2.2 d_MO_defect_54
  refine lv_iconst (v := nI 1) hx hb d_MO_defect_42 (by decide +kernel) ?_
  refine lv_goto (tgt := 47) hx hb d_MO_defect_43 (by decide) ?_
  have hPc := hP.sub (ws' := [(z 0, .inr (7, [.int (nI (g 0)), .int (nI (g 1)), .int (nI (g 2)), .int (nI (g 3)), .int (nI (g 4)), .int (nI (g 5)), .int (nI (g 6)), .ref (z 1), .ref (z 2), .ref (z 3), .ref (z 4), .int (nI (g 7)), .ref (z 5), .ref (z 6), .ref (z 7), .ref (z 8), .ref (z 9), .ref (z 10), .int (nI (g 8)), .ref (z 11), .ref (z 12), .ref (z 13), .ref (z 14)]))]) [0] rfl
  have hDc := hD.sub (ws' := [(z 0, .inr (7, [.int (nI (g 0)), .int (nI (g 1)), .int (nI (g 2)), .int (nI (g 3)), .int (nI (g 4)), .int (nI (g 5)), .int (nI (g 6)), .ref (z 1), .ref (z 2), .ref (z 3), .ref (z 4), .int (nI (g 7)), .ref (z 5), .ref (z 6), .ref (z 7), .ref (z 8), .ref (z 9), .ref (z 10), .int (nI (g 8)), .ref (z 11), .ref (z 12), .ref (z 13), .ref (z 14)]))]) [0] (by decide) rfl
  have hFc := va_free (wc := [(z 0, .inr (7, [.int (nI (g 0)), .int (nI (g 1)), .int (nI (g 2)), .int (nI (g 3)), .int (nI (g 4)), .int (nI (g 5)), .int (nI (g 6)), .ref (z 1), .ref (z 2), .ref (z 3), .ref (z 4), .int (nI (g 7)), .ref (z 5), .ref (z 6), .ref (z 7), .ref (z 8), .ref (z 9), .ref (z 10), .int (nI (g 8)), .ref (z 11), .ref (z 12), .ref (z 13), .ref (z 14)]))]) hD hS hA [0] rfl
  refine va_calli (va_runV (As := [.int (nI 1), .int (nI 1)]) (rest := []) ⟨hx, hb, hml, hown, hts⟩ (c_MO_throwing l dC dI H.size z g cI 1 1 (by decide) (by decide)) (cwV 2 hts (gw_V m_654 m_656 s_16 m_8 m_657) rfl rfl rfl (by decide +kernel) ⟨Nat.le_of_ble_eq_true rfl, Nat.le_of_ble_eq_true rfl⟩) ⟨rw_blind, va_recv hK hPc (ci := 7) (q0 := 0) rfl rfl, fun U hU hW => ⟨rfl, by rw [hU], by rw [hU]; exact hPc, va_K.moved hW.alike hK, hDc.weaken (fun _ _ _ _ => trivial)⟩⟩ rfl rfl hl.1 rfl (lv_room (Nat.le_of_ble_eq_true rfl)) d_MO_defect_47 ⟨Nat.le_of_ble_eq_true rfl, Nat.le_of_ble_eq_true rfl⟩) hS (fun q _ h => hFc q h) hFc (fun r u t H1 locs ht hvm hw hB hz1 hk1 hS => ?_)
  obtain ⟨th1, rfl⟩ : ∃ z, z = u := ⟨_, rfl⟩
  obtain ⟨hP1, hK1, hD1⟩ := hB
  rw [ht] at hP1
  try dsimp only at hw
  obtain ⟨hP, hD⟩ := va_join (wr := [(z 11, .inl (cI, 10, .inl (aN df))), (z 12, .inl (cI, 10, .inl (aN dt)))]) (w1 := [(z 0, .inr (7, [.int (nI th1), .int (nI (g 1)), .int (nI (g 2)), .int (nI (g 3)), .int (nI (g 4)), .int (nI (g 5)), .int (nI (g 6)), .ref (z 1), .ref (z 2), .ref (z 3), .ref (z 4), .int (nI (g 7)), .ref (z 5), .ref (z 6), .ref (z 7), .ref (z 8), .ref (z 9), .ref (z 10), .int (nI (g 8)), .ref (z 11), .ref (z 12), .ref (z 13), .ref (z 14)]))]) hP hD [0] [1, 2] rfl rfl (by decide) (by decide) hk1 hFc hP1 hD1
  generalize H1 = H at hP hS ⊢
  have hP : va_P (dC, dI) vwCl [(z 0, .inr (7, [.int (nI th1), .int (nI (g 1)), .int (nI (g 2)), .int (nI (g 3)), .int (nI (g 4)), .int (nI (g 5)), .int (nI (g 6)), .ref (z 1), .ref (z 2), .ref (z 3), .ref (z 4), .int (nI (g 7)), .ref (z 5), .ref (z 6), .ref (z 7), .ref (z 8), .ref (z 9), .ref (z 10), .int (nI (g 8)), .ref (z 11), .ref (z 12), .ref (z 13), .ref (z 14)])), (z 11, .inl (cI, 10, .inl (aN df))), (z 12, .inl (cI, 10, .inl (aN dt)))] H := hP.sub [2, 0, 1] rfl
  have hD : va_D A [(z 0, .inr (7, [.int (nI th1), .int (nI (g 1)), .int (nI (g 2)), .int (nI (g 3)), .int (nI (g 4)), .int (nI (g 5)), .int (nI (g 6)), .ref (z 1), .ref (z 2), .ref (z 3), .ref (z 4), .int (nI (g 7)), .ref (z 5), .ref (z 6), .ref (z 7), .ref (z 8), .ref (z 9), .ref (z 10), .int (nI (g 8)), .ref (z 11), .ref (z 12), .ref (z 13), .ref (z 14)])), (z 11, .inl (cI, 10, .inl (aN df))), (z 12, .inl (cI, 10, .inl (aN dt)))] := hD.sub [2, 0, 1] (by decide) rfl
  obtain ⟨rfl, hth⟩ := hw
  have hth : th1 = 1 := hth
  subst hth
  have hP : va_P (dC, dI) vwCl [(z 0, .inr (7, [.int (nI 1), .int (nI (g 1)), .int (nI (g 2)), .int (nI (g 3)), .int (nI (g 4)), .int (nI (g 5)), .int (nI (g 6)), .ref (z 1), .ref (z 2), .ref (z 3), .ref (z 4), .int (nI (g 7)), .ref (z 5), .ref (z 6), .ref (z 7), .ref (z 8), .ref (z 9), .ref (z 10), .int (nI (g 8)), .ref (z 11), .ref (z 12), .ref (z 13), .ref (z 14)])), (z 11, .inl (cI, 10, .inl (aN df))), (z 12, .inl (cI, 10, .inl (aN dt)))] H := hP
  have hD : va_D A [(z 0, .inr (7, [.int (nI 1), .int (nI (g 1)), .int (nI (g 2)), .int (nI (g 3)), .int (nI (g 4)), .int (nI (g 5)), .int (nI (g 6)), .ref (z 1), .ref (z 2), .ref (z 3), .ref (z 4), .int (nI (g 7)), .ref (z 5), .ref (z 6), .ref (z 7), .ref (z 8), .ref (z 9), .ref (z 10), .int (nI (g 8)), .ref (z 11), .ref (z 12), .ref (z 13), .ref (z 14)])), (z 11, .inl (cI, 10, .inl (aN df))), (z 12, .inl (cI, 10, .inl (aN dt)))] := hD
  refine lv_topr (show _ = nI 1 from rfl) ?_
  refine ix_if_eq (tgt := 55) hx hb (nI_tI (n := 1) (by omega)) d_MO_defect_50 (by decide) (fun c_50 => absurd c_50 (by omega)) (fun c_50 => ?_)
  refine lv_iconst (v := nI 0) hx hb d_MO_defect_53 (by decide +kernel) ?_
  exact W.iret (v := nI 0) hx hb hr (fun t ht hW => ⟨⟨nI 0, (1, g 8, df, dt), rfl, ⟨fun _ => ⟨rfl, rfl, rfl, rfl⟩, fun q => absurd q (by omega), fun q => absurd q (by omega)⟩, by rw [ht]; exact hP, va_K.moved hW.alike hK, hD⟩, hS.F ht⟩) hS.2.2 d_MO_defect_54
set_option maxHeartbeats 4000000 in
set_option maxRecDepth 100000 in
/-- sound() -/
theorem c_MO_sound (l : Launch) (dC : Nat → ClassId) (dI : Nat → Nat → Nat) (sz : Nat) (z g : Nat → Nat) (cI : ClassId) : Met l y_MO_sound w_MO_sound { frames := 0, cells := 0, slots := 0, locals := 0 } (rw_Pc (dC, dI) vwCl [(cI, .int)] sz [.ref (z 0)] [(z 0, .inr (7, [.int (nI (g 0)), .int (nI (g 1)), .int (nI (g 2)), .int (nI (g 3)), .int (nI (g 4)), .int (nI (g 5)), .int (nI (g 6)), .ref (z 1), .ref (z 2), .ref (z 3), .ref (z 4), .int (nI (g 7)), .ref (z 5), .ref (z 6), .ref (z 7), .ref (z 8), .ref (z 9), .ref (z 10), .int (nI (g 8)), .ref (z 11), .ref (z 12), .ref (z 13), .ref (z 14)]))]) (va_Qv (fun (u : Nat × Nat) => u.1 = 0 ∧ u.2 = 0) (rw_B (dC, dI) vwCl [(cI, .int)] (va_A [(z 0, .inr (7, [.int (nI (g 0)), .int (nI (g 1)), .int (nI (g 2)), .int (nI (g 3)), .int (nI (g 4)), .int (nI (g 5)), .int (nI (g 6)), .ref (z 1), .ref (z 2), .ref (z 3), .ref (z 4), .int (nI (g 7)), .ref (z 5), .ref (z 6), .ref (z 7), .ref (z 8), .ref (z 9), .ref (z 10), .int (nI (g 8)), .ref (z 11), .ref (z 12), .ref (z 13), .ref (z 14)]))] sz) (fun u : Nat × Nat => [(z 0, .inr (7, [.int (nI u.1), .int (nI (g 1)), .int (nI (g 2)), .int (nI (g 3)), .int (nI (g 4)), .int (nI (g 5)), .int (nI (g 6)), .ref (z 1), .ref (z 2), .ref (z 3), .ref (z 4), .int (nI (g 7)), .ref (z 5), .ref (z 6), .ref (z 7), .ref (z 8), .ref (z 9), .ref (z 10), .int (nI u.2), .ref (z 11), .ref (z 12), .ref (z 13), .ref (z 14)]))])) (va_A [(z 0, .inr (7, [.int (nI (g 0)), .int (nI (g 1)), .int (nI (g 2)), .int (nI (g 3)), .int (nI (g 4)), .int (nI (g 5)), .int (nI (g 6)), .ref (z 1), .ref (z 2), .ref (z 3), .ref (z 4), .int (nI (g 7)), .ref (z 5), .ref (z 6), .ref (z 7), .ref (z 8), .ref (z 9), .ref (z 10), .int (nI (g 8)), .ref (z 11), .ref (z 12), .ref (z 13), .ref (z 14)]))] sz)) 0 0 (va_A [(z 0, .inr (7, [.int (nI (g 0)), .int (nI (g 1)), .int (nI (g 2)), .int (nI (g 3)), .int (nI (g 4)), .int (nI (g 5)), .int (nI (g 6)), .ref (z 1), .ref (z 2), .ref (z 3), .ref (z 4), .int (nI (g 7)), .ref (z 5), .ref (z 6), .ref (z 7), .ref (z 8), .ref (z 9), .ref (z 10), .int (nI (g 8)), .ref (z 11), .ref (z 12), .ref (z 13), .ref (z 14)]))] sz) := by
  refine Met.ofW (cc := b_MO_sound) (maxL := 1) (ret := none) (by decide) rfl ?_
  intro p e s m args below meth c s₁ B hml hv
  obtain ⟨rfl, hsz, hP, hK, hD0⟩ := hv
  have hx := B.exec
  have hb := B.bytes
  have hr := B.returns
  have hts := gw_h (atoms_spec (ws := w_MO_sound) B.pre)
  have hown : s.vm.findClass R_MO = some m.cls := findClass_of_methodNamed B.named
  have hlocks := B.notSynchronized
  subst hsz
  have hD := hD0.self (sz := s.heap.size)
  generalize hAe : va_A [(z 0, .inr (7, [.int (nI (g 0)), .int (nI (g 1)), .int (nI (g 2)), .int (nI (g 3)), .int (nI (g 4)), .int (nI (g 5)), .int (nI (g 6)), .ref (z 1), .ref (z 2), .ref (z 3), .ref (z 4), .int (nI (g 7)), .ref (z 5), .ref (z 6), .ref (z 7), .ref (z 8), .ref (z 9), .ref (z 10), .int (nI (g 8)), .ref (z 11), .ref (z 12), .ref (z 13), .ref (z 14)]))] s.heap.size = A at hD ⊢
  have hA : ∀ q : Nat, s.heap.size ≤ q → A q := fun q h => by rw [← hAe]; exact Or.inr h
  have hS : va_S A s.heap s.heap [] := va_S.rf
  have hP : va_P (dC, dI) vwCl [(z 0, .inr (7, [.int (nI (g 0)), .int (nI (g 1)), .int (nI (g 2)), .int (nI (g 3)), .int (nI (g 4)), .int (nI (g 5)), .int (nI (g 6)), .ref (z 1), .ref (z 2), .ref (z 3), .ref (z 4), .int (nI (g 7)), .ref (z 5), .ref (z 6), .ref (z 7), .ref (z 8), .ref (z 9), .ref (z 10), .int (nI (g 8)), .ref (z 11), .ref (z 12), .ref (z 13), .ref (z 14)]))] s.heap := hP
  have hl := lv_entry ([.ref (z 0)]) (n := 1) (Nat.le_of_ble_eq_true rfl)
  rw [lg_entry_eq]
  generalize (lg_sl ([.ref (z 0)]) ++ List.replicate (1 - (lg_sl ([.ref (z 0)])).length) Slot.unset).toArray = ls at hl ⊢
  have hl : lv_has ls 1 [(0, .ref (z 0))] := hl
  refine lv_aload_n hx hb d_MO_sound_0 rfl (lv_at hl 0 rfl) ?_
  refine lv_iconst (v := nI 0) hx hb d_MO_sound_1 (by decide +kernel) ?_
  refine va_put (D := (dC, dI)) (ci := 7) (v := .int (nI 0)) (ty := .int) (C := R_MO) (T := F_MO) (N := 23) hx hb hts in_MO t_MO t_MO_ok n_MO hown hK hP hD hS 0 rfl rfl 0 (by decide) (hts _ m_572) (fun _ h9 => h9) rfl (by decide +kernel) rfl rfl (Nat.le_of_ble_eq_true rfl) d_MO_sound_2 (fun H locs hP hD hS => ?_)
  have hP : va_P (dC, dI) vwCl [(z 0, .inr (7, [.int (nI 0), .int (nI (g 1)), .int (nI (g 2)), .int (nI (g 3)), .int (nI (g 4)), .int (nI (g 5)), .int (nI (g 6)), .ref (z 1), .ref (z 2), .ref (z 3), .ref (z 4), .int (nI (g 7)), .ref (z 5), .ref (z 6), .ref (z 7), .ref (z 8), .ref (z 9), .ref (z 10), .int (nI (g 8)), .ref (z 11), .ref (z 12), .ref (z 13), .ref (z 14)]))] H := hP
  have hD : va_D A [(z 0, .inr (7, [.int (nI 0), .int (nI (g 1)), .int (nI (g 2)), .int (nI (g 3)), .int (nI (g 4)), .int (nI (g 5)), .int (nI (g 6)), .ref (z 1), .ref (z 2), .ref (z 3), .ref (z 4), .int (nI (g 7)), .ref (z 5), .ref (z 6), .ref (z 7), .ref (z 8), .ref (z 9), .ref (z 10), .int (nI (g 8)), .ref (z 11), .ref (z 12), .ref (z 13), .ref (z 14)]))] := hD
  refine lv_aload_n hx hb d_MO_sound_5 rfl (lv_at hl 0 rfl) ?_
  refine lv_iconst (v := nI 0) hx hb d_MO_sound_6 (by decide +kernel) ?_
  refine va_put (D := (dC, dI)) (ci := 7) (v := .int (nI 0)) (ty := .int) (C := R_MO) (T := F_MO) (N := 23) hx hb hts in_MO t_MO t_MO_ok n_MO hown hK hP hD hS 0 rfl rfl 18 (by decide) (hts _ m_590) (fun _ h9 => h9) rfl (by decide +kernel) rfl rfl (Nat.le_of_ble_eq_true rfl) d_MO_sound_7 (fun H locs hP hD hS => ?_)
  have hP : va_P (dC, dI) vwCl [(z 0, .inr (7, [.int (nI 0), .int (nI (g 1)), .int (nI (g 2)), .int (nI (g 3)), .int (nI (g 4)), .int (nI (g 5)), .int (nI (g 6)), .ref (z 1), .ref (z 2), .ref (z 3), .ref (z 4), .int (nI (g 7)), .ref (z 5), .ref (z 6), .ref (z 7), .ref (z 8), .ref (z 9), .ref (z 10), .int (nI 0), .ref (z 11), .ref (z 12), .ref (z 13), .ref (z 14)]))] H := hP
  have hD : va_D A [(z 0, .inr (7, [.int (nI 0), .int (nI (g 1)), .int (nI (g 2)), .int (nI (g 3)), .int (nI (g 4)), .int (nI (g 5)), .int (nI (g 6)), .ref (z 1), .ref (z 2), .ref (z 3), .ref (z 4), .int (nI (g 7)), .ref (z 5), .ref (z 6), .ref (z 7), .ref (z 8), .ref (z 9), .ref (z 10), .int (nI 0), .ref (z 11), .ref (z 12), .ref (z 13), .ref (z 14)]))] := hD
  exact W.vret hx hb hr (fun t ht hW => ⟨⟨(0, 0), rfl, ⟨rfl, rfl⟩, by rw [ht]; exact hP, va_K.moved hW.alike hK, hD⟩, hS.F ht⟩) hS.2.2 d_MO_sound_10
