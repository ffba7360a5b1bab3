set_option maxHeartbeats 4000000 in
set_option maxRecDepth 100000 in
/-- measureSets(count): the table of all sets -/
theorem c_SQ_measureSets (l : Launch) (dC : Nat → ClassId) (dI : Nat → Nat → Nat) (sz : Nat) (q qn qs qf : Nat) (cI : ClassId) (sp fw : Nat → Nat) (tt kn n : Nat) (hn : n ≤ 9) (hc : ∀ a, a < n → ∀ b, b < n → sp (a * 9 + b) ≤ 60) : Met l y_SQ_measureSets w_SQ_measureSets { frames := 3, cells := 0, slots := 0, locals := 72 } (rw_Pc (dC, dI) vwCl [(cI, .int)] sz [.ref q, .int (nI n)] [(q, .inr (3, [.ref qn, .int (nI tt), .int (nI kn), .ref qs, .ref qf])), (qs, .inl (cI, 81, .inl (aN sp))), (qf, .inl (cI, 4608, .inl (aN fw)))]) (va_Qv (fun (u : (Nat → Nat)) => MI sp u n (2 ^ n) 0) (rw_B (dC, dI) vwCl [(cI, .int)] (va_A [(q, .inr (3, [.ref qn, .int (nI tt), .int (nI kn), .ref qs, .ref qf])), (qs, .inl (cI, 81, .inl (aN sp))), (qf, .inl (cI, 4608, .inl (aN fw)))] sz) (fun u : (Nat → Nat) => [(q, .inr (3, [.ref qn, .int (nI tt), .int (nI kn), .ref qs, .ref qf])), (qs, .inl (cI, 81, .inl (aN sp))), (qf, .inl (cI, 4608, .inl (aN u)))])) (va_A [(q, .inr (3, [.ref qn, .int (nI tt), .int (nI kn), .ref qs, .ref qf])), (qs, .inl (cI, 81, .inl (aN sp))), (qf, .inl (cI, 4608, .inl (aN fw)))] sz)) 0 0 (va_A [(q, .inr (3, [.ref qn, .int (nI tt), .int (nI kn), .ref qs, .ref qf])), (qs, .inl (cI, 81, .inl (aN sp))), (qf, .inl (cI, 4608, .inl (aN fw)))] sz) := by
  refine Met.ofW (cc := b_SQ_measureSets) (maxL := 5) (ret := none) (by decide) rfl ?_
  intro p e s m args below meth c s₁ B hml hv
  obtain ⟨rfl, hsz, hP, hK, hD0⟩ := hv
  have hx := B.exec
  have hb := B.bytes
  have hr := B.returns
  have hts := gw_h (atoms_spec (ws := w_SQ_measureSets) B.pre)
  have hown : s.vm.findClass R_SQ = some m.cls := findClass_of_methodNamed B.named
  have hlocks := B.notSynchronized
  subst hsz
  have hD := hD0.self (sz := s.heap.size)
  generalize hAe : va_A [(q, .inr (3, [.ref qn, .int (nI tt), .int (nI kn), .ref qs, .ref qf])), (qs, .inl (cI, 81, .inl (aN sp))), (qf, .inl (cI, 4608, .inl (aN fw)))] s.heap.size = A at hD ⊢
  have hA : ∀ q : Nat, s.heap.size ≤ q → A q := fun q h => by rw [← hAe]; exact Or.inr h
  have hS : va_S A s.heap s.heap [] := va_S.rf
  have hP : va_P (dC, dI) vwCl [(q, .inr (3, [.ref qn, .int (nI tt), .int (nI kn), .ref qs, .ref qf])), (qs, .inl (cI, 81, .inl (aN sp))), (qf, .inl (cI, 4608, .inl (aN fw)))] s.heap := hP
  have hl := lv_entry ([.ref q, .int (nI n)]) (n := 5) (Nat.le_of_ble_eq_true rfl)
  rw [lg_entry_eq]
  generalize (lg_sl ([.ref q, .int (nI n)]) ++ List.replicate (5 - (lg_sl ([.ref q, .int (nI n)])).length) Slot.unset).toArray = ls at hl ⊢
  have hl : lv_has ls 5 [(0, .ref q), (1, .int (nI n))] := hl
  have h512 : 2 ^ n ≤ 512 := (Nat.pow_le_pow_right (by decide) hn : 2 ^ n ≤ 2 ^ 9)
  have h1p : 1 ≤ 2 ^ n := Nat.pos_of_ne_zero (by simp)
  refine lv_iconst (v := nI 0) hx hb d_SQ_measureSets_0 (by decide +kernel) ?_
  refine lv_istore_n (lv' := [(2, .int (nI 0)), (0, .ref q), (1, .int (nI n))]) hx hb d_SQ_measureSets_1 rfl hl (by decide) rfl (fun ls hl => ?_)
  have out : ∀ (n_out : Nat) (S : Nat) (fw : Nat → Nat), (2 ^ n + 1 ≤ S + n_out) → (S ≤ 2 ^ n) → (MI sp fw n S 0) → ∀ (H : Heap) (locs : List Loc) (ls : Array Slot), va_P (dC, dI) vwCl [(q, .inr (3, [.ref qn, .int (nI tt), .int (nI kn), .ref qs, .ref qf])), (qs, .inl (cI, 81, .inl (aN sp))), (qf, .inl (cI, 4608, .inl (aN fw)))] H → va_D A [(q, .inr (3, [.ref qn, .int (nI tt), .int (nI kn), .ref qs, .ref qf])), (qs, .inl (cI, 81, .inl (aN sp))), (qf, .inl (cI, 4608, .inl (aN fw)))] → va_S A s.heap H locs → lv_has ls 5 [(0, .ref q), (1, .int (nI n)), (2, .int (nI S))] → W p l e (headSpec w_SQ_measureSets { frames := 3, cells := 0, slots := 0, locals := 72 }).room s m [.ref q, .int (nI n)].toArray below meth c H locs 0 0 (MQ below (va_Qv (fun (u : (Nat → Nat)) => MI sp u n (2 ^ n) 0) (rw_B (dC, dI) vwCl [(cI, .int)] A (fun u : (Nat → Nat) => [(q, .inr (3, [.ref qn, .int (nI tt), .int (nI kn), .ref qs, .ref qf])), (qs, .inl (cI, 81, .inl (aN sp))), (qf, .inl (cI, 4608, .inl (aN u)))])) A) [.ref q, .int (nI n)].toArray s 0 0 A) (F0 m 2 ls []) := by
    intro n_out
    induction n_out with
    | zero =>
      intro S fw hm hSn hI
      exact absurd hm (by omega)
    | succ n_out ih_out =>
      intro S fw hm hSn hI H locs ls hP hD hS hl
      refine lv_iload_n hx hb d_SQ_measureSets_2 rfl (lv_at hl 2 rfl) ?_
      refine lv_iconst (v := nI 1) hx hb d_SQ_measureSets_3 (by decide +kernel) ?_
      refine lv_iload_n hx hb d_SQ_measureSets_4 rfl (lv_at hl 1 rfl) ?_
      refine lv_ishl hx hb d_SQ_measureSets_5 ?_
      refine lv_topr (show _ = nI (2 ^ n) from bt_pow n (by omega)) ?_
      refine ix_icmp_ge (tgt := 74) hx hb (nI_tI (n := S) (by omega)) (nI_tI (n := 2 ^ n) (by omega)) d_SQ_measureSets_6 (by decide) (fun c_6 => ?_) (fun c_6 => ?_)
      · exact W.vret hx hb hr (fun t ht hW => ⟨⟨fw, rfl, by rw [show 2 ^ n = S by omega]; exact hI, by rw [ht]; exact hP, va_K.moved hW.alike hK, hD⟩, hS.F ht⟩) hS.2.2 d_SQ_measureSets_74
      refine lv_iconst (v := nI 0) hx hb d_SQ_measureSets_9 (by decide +kernel) ?_
      refine lv_istore_n (lv' := [(3, .int (nI 0)), (0, .ref q), (1, .int (nI n)), (2, .int (nI S))]) hx hb d_SQ_measureSets_10 rfl hl (by decide) rfl (fun ls hl => ?_)
      have inn : ∀ (n_inn : Nat) (l9 : Nat) (fw : Nat → Nat), (n + 1 ≤ l9 + n_inn) → (l9 ≤ n) → (MI sp fw n S l9) → ∀ (H : Heap) (locs : List Loc) (ls : Array Slot), va_P (dC, dI) vwCl [(q, .inr (3, [.ref qn, .int (nI tt), .int (nI kn), .ref qs, .ref qf])), (qs, .inl (cI, 81, .inl (aN sp))), (qf, .inl (cI, 4608, .inl (aN fw)))] H → va_D A [(q, .inr (3, [.ref qn, .int (nI tt), .int (nI kn), .ref qs, .ref qf])), (qs, .inl (cI, 81, .inl (aN sp))), (qf, .inl (cI, 4608, .inl (aN fw)))] → va_S A s.heap H locs → lv_has ls 5 [(0, .ref q), (1, .int (nI n)), (2, .int (nI S)), (3, .int (nI l9))] → W p l e (headSpec w_SQ_measureSets { frames := 3, cells := 0, slots := 0, locals := 72 }).room s m [.ref q, .int (nI n)].toArray below meth c H locs 0 0 (MQ below (va_Qv (fun (u : (Nat → Nat)) => MI sp u n (2 ^ n) 0) (rw_B (dC, dI) vwCl [(cI, .int)] A (fun u : (Nat → Nat) => [(q, .inr (3, [.ref qn, .int (nI tt), .int (nI kn), .ref qs, .ref qf])), (qs, .inl (cI, 81, .inl (aN sp))), (qf, .inl (cI, 4608, .inl (aN u)))])) A) [.ref q, .int (nI n)].toArray s 0 0 A) (F0 m 11 ls []) := by
        intro n_inn
        induction n_inn with
        | zero =>
          intro l9 fw hm2 hl9 hI
          exact absurd hm2 (by omega)
        | succ n_inn ih_inn =>
          intro l9 fw hm2 hl9 hI H locs ls hP hD hS hl
          refine lv_iload_n hx hb d_SQ_measureSets_11 rfl (lv_at hl 3 rfl) ?_
          refine lv_iload_n hx hb d_SQ_measureSets_12 rfl (lv_at hl 1 rfl) ?_
          refine ix_icmp_ge (tgt := 68) hx hb (nI_tI (n := l9) (by omega)) (nI_tI (n := n) (by omega)) d_SQ_measureSets_13 (by decide) (fun c_13 => ?_) (fun c_13 => ?_)
          · refine lv_iinc (v := nI (S + 1)) (lv' := [(2, .int (nI (S + 1))), (0, .ref q), (1, .int (nI n)), (3, .int (nI l9))]) hx hb d_SQ_measureSets_68 hl (k := 2) rfl (n_incN S 1) (by decide) rfl (fun ls hl => ?_)
            refine lv_goto (tgt := 2) hx hb d_SQ_measureSets_71 (by decide) ?_
            exact ih_out (S + 1) fw (by omega) (by omega) (hI.nextS (by omega)) _ _ _ hP hD hS (lv_sub hl [1, 2, 0] rfl)
          refine lv_iload_n hx hb d_SQ_measureSets_16 rfl (lv_at hl 2 rfl) ?_
          refine lv_iload_n hx hb d_SQ_measureSets_17 rfl (lv_at hl 3 rfl) ?_
          refine lv_ishr hx hb d_SQ_measureSets_18 ?_
          refine lv_iconst (v := nI 1) hx hb d_SQ_measureSets_19 (by decide +kernel) ?_
          refine lv_iand hx hb d_SQ_measureSets_20 ?_
          have hb01 := bit_01 S l9
          refine lv_topr (show _ = nI (bit S l9) from bt_bit S (by omega) l9 (by omega)) ?_
          refine ix_if_ne (tgt := 62) hx hb (nI_tI (n := bit S l9) (by omega)) d_SQ_measureSets_21 (by decide) (fun c_21 => ?_) (fun c_21 => ?_)
          · refine lv_iinc (v := nI (l9 + 1)) (lv' := [(3, .int (nI (l9 + 1))), (0, .ref q), (1, .int (nI n)), (2, .int (nI S))]) hx hb d_SQ_measureSets_62 hl (k := 3) rfl (n_incN l9 1) (by decide) rfl (fun ls hl => ?_)
            refine lv_goto (tgt := 11) hx hb d_SQ_measureSets_65 (by decide) ?_
            exact ih_inn (l9 + 1) fw (by omega) (by omega) (hI.skip (by omega)) _ _ _ hP hD hS (lv_sub hl [1, 2, 3, 0] rfl)
          refine lv_aload_n hx hb d_SQ_measureSets_24 rfl (lv_at hl 0 rfl) ?_
          refine lv_iload_n hx hb d_SQ_measureSets_25 rfl (lv_at hl 2 rfl) ?_
          refine lv_iload_n hx hb d_SQ_measureSets_26 rfl (lv_at hl 3 rfl) ?_
          refine lv_topr (show _ = zI (l9 : Int) from zI_n l9) ?_
          refine lv_iload_n hx hb d_SQ_measureSets_27 rfl (lv_at hl 1 rfl) ?_
          have hPc := hP.sub (ws' := [(q, .inr (3, [.ref qn, .int (nI tt), .int (nI kn), .ref qs, .ref qf])), (qs, .inl (cI, 81, .inl (aN sp))), (qf, .inl (cI, 4608, .inl (aN fw)))]) [0, 1, 2] rfl
          refine ro_calli (va_runV (As := [.int (nI S), .int (zI (l9 : Int)), .int (nI n)]) (rest := []) ⟨hx, hb, hml, hown, hts⟩ (c_SQ_lowestNext l dC dI q qn qs qf cI sp fw tt kn S (l9 : Int) n (by omega) hn (by omega) (fun x hx hb => Nat.lt_of_le_of_lt (thr_le hI hn (by omega) (fun y hy => hc l9 (by omega) y hy) hx hb) (by omega))) (cwV 3 hts (gw_V m_290 m_292 s_5 m_6 m_293) rfl rfl rfl (by decide +kernel) ⟨Nat.le_of_ble_eq_true rfl, Nat.le_of_ble_eq_true rfl⟩) ⟨ro_blind, va_recv hK hPc (ci := 3) (q0 := 0) rfl rfl, fun U hU hW => ⟨rfl, by rw [hU]; exact hPc, va_K.moved hW.alike hK⟩⟩ rfl rfl hl.1 rfl (lv_room (Nat.le_of_ble_eq_true rfl)) d_SQ_measureSets_28 ⟨Nat.le_of_ble_eq_true rfl, Nat.le_of_ble_eq_true rfl⟩) hS hP (fun r H locs er hP hS => ?_)
          obtain ⟨z, rfl, hLN⟩ := er
          have hzr : -1 ≤ z ∧ z < n := by rcases hLN with ⟨h, _⟩ | ⟨x, h, h2, _⟩ <;> omega
          refine lv_istore (lv' := [(4, .int (zI z)), (0, .ref q), (1, .int (nI n)), (2, .int (nI S)), (3, .int (nI l9))]) hx hb d_SQ_measureSets_31 hl (by decide) rfl (fun ls hl => ?_)
          refine lv_aload_n hx hb d_SQ_measureSets_33 rfl (lv_at hl 1 rfl) ?_
          refine va_get (D := (dC, dI)) (ci := 3) (v := .ref qf) (C := R_SQ) (T := F_SQ) (N := 5) hx hb hts in_SQ hown hK hP 0 rfl rfl 4 (by decide) (hts _ m_164) (fun _ h9 => h9) rfl d_SQ_measureSets_34 ?_
          refine lv_iload_n hx hb d_SQ_measureSets_37 rfl (lv_at hl 3 rfl) ?_
          refine lv_bipush (v := nI 9) hx hb d_SQ_measureSets_38 (by decide +kernel) ?_
          refine lv_imul hx hb d_SQ_measureSets_40 ?_
          refine lv_topr (show _ = nI (S * 9) from nn_mul _ _) ?_
          refine lv_iload_n hx hb d_SQ_measureSets_41 rfl (lv_at hl 4 rfl) ?_
          refine lv_iadd hx hb d_SQ_measureSets_42 ?_
          refine lv_topr (show _ = nI ((S * 9) + l9) from nn_add _ _) ?_
          refine lv_iload hx hb d_SQ_measureSets_43 (lv_at hl 0 rfl) ?_
          refine lv_iconst (v := zI (-1)) hx hb d_SQ_measureSets_45 (by decide +kernel) ?_
          refine ix_icmp_ne (tgt := 53) hx hb (zI_toInt (z := z) (by omega) (by omega)) (zI_toInt (z := -1) (by omega) (by omega)) d_SQ_measureSets_46 (by decide) (fun c_46 => ?_) (fun c_46 => ?_)
          · refine lv_aload_n hx hb d_SQ_measureSets_53 rfl (lv_at hl 1 rfl) ?_
            refine lv_iload_n hx hb d_SQ_measureSets_54 rfl (lv_at hl 3 rfl) ?_
            refine lv_iload_n hx hb d_SQ_measureSets_55 rfl (lv_at hl 4 rfl) ?_
            refine lv_topr (show _ = zI (l9 : Int) from zI_n l9) ?_
            refine lv_iload hx hb d_SQ_measureSets_56 (lv_at hl 0 rfl) ?_
            refine lv_topr (show _ = nI z.toNat from z_toN (by omega)) ?_
            have hPc := hP.sub (ws' := [(q, .inr (3, [.ref qn, .int (nI tt), .int (nI kn), .ref qs, .ref qf])), (qs, .inl (cI, 81, .inl (aN sp))), (qf, .inl (cI, 4608, .inl (aN fw)))]) [0, 1, 2] rfl
            refine ro_calli (va_runV (As := [.int (nI S), .int (zI (l9 : Int)), .int (nI z.toNat)]) (rest := [.int (nI ((S * 9) + l9)), .ref qf]) ⟨hx, hb, hml, hown, hts⟩ (c_SQ_through l dC dI q qn qs qf cI sp fw tt kn S (l9 : Int) z.toNat (by omega) (by omega) (by omega)) (cwV 3 hts (gw_V m_294 m_296 s_6 m_6 m_297) rfl rfl rfl (by decide +kernel) ⟨Nat.le_of_ble_eq_true rfl, Nat.le_of_ble_eq_true rfl⟩) ⟨ro_blind, va_recv hK hPc (ci := 3) (q0 := 0) rfl rfl, fun U hU hW => ⟨rfl, by rw [hU]; exact hPc, va_K.moved hW.alike hK⟩⟩ rfl rfl hl.1 rfl (lv_room (Nat.le_of_ble_eq_true rfl)) d_SQ_measureSets_58 ⟨Nat.le_of_ble_eq_true rfl, Nat.le_of_ble_eq_true rfl⟩) hS hP (fun r H locs er hP hS => ?_)
            subst er
            refine ix_iast (i := (S * 9) + l9) hx hb hK hP hD hS 2 0 rfl rfl (by omega) (by decide) d_SQ_measureSets_61 (fun H locs hP hD hS => ?_)
            have hP : va_P (dC, dI) vwCl [(q, .inr (3, [.ref qn, .int (nI tt), .int (nI kn), .ref qs, .ref qf])), (qs, .inl (cI, 81, .inl (aN sp))), (qf, .inl (cI, 4608, .inl (aN (up fw ((S * 9) + l9) (thr sp fw S (l9 : Int) z.toNat)))))] H := hP
            have hD : va_D A [(q, .inr (3, [.ref qn, .int (nI tt), .int (nI kn), .ref qs, .ref qf])), (qs, .inl (cI, 81, .inl (aN sp))), (qf, .inl (cI, 4608, .inl (aN (up fw ((S * 9) + l9) (thr sp fw S (l9 : Int) z.toNat)))))] := hD
            refine lv_iinc (v := nI (l9 + 1)) (lv' := [(3, .int (nI (l9 + 1))), (4, .int (zI z)), (0, .ref q), (1, .int (nI n)), (2, .int (nI S))]) hx hb d_SQ_measureSets_62 hl (k := 4) rfl (n_incN l9 1) (by decide) rfl (fun ls hl => ?_)
            refine lv_goto (tgt := 11) hx hb d_SQ_measureSets_65 (by decide) ?_
            exact ih_inn (l9 + 1) (up fw ((S * 9) + l9) (thr sp fw S (l9 : Int) z.toNat)) (by omega) (by omega) (by have := hI.put hn (by omega) (by omega) (fun y hy => hc l9 (by omega) y hy) hLN; rw [tv_1 (by omega)] at this; exact this) _ _ _ hP hD hS (lv_sub hl [2, 3, 4, 0] rfl)
          refine lv_iconst (v := nI 0) hx hb d_SQ_measureSets_49 (by decide +kernel) ?_
          refine lv_goto (tgt := 61) hx hb d_SQ_measureSets_50 (by decide) ?_
          refine ix_iast (i := (S * 9) + l9) hx hb hK hP hD hS 2 0 rfl rfl (by omega) (by decide) d_SQ_measureSets_61 (fun H locs hP hD hS => ?_)
          have hP : va_P (dC, dI) vwCl [(q, .inr (3, [.ref qn, .int (nI tt), .int (nI kn), .ref qs, .ref qf])), (qs, .inl (cI, 81, .inl (aN sp))), (qf, .inl (cI, 4608, .inl (aN (up fw ((S * 9) + l9) 0))))] H := hP
          have hD : va_D A [(q, .inr (3, [.ref qn, .int (nI tt), .int (nI kn), .ref qs, .ref qf])), (qs, .inl (cI, 81, .inl (aN sp))), (qf, .inl (cI, 4608, .inl (aN (up fw ((S * 9) + l9) 0))))] := hD
          refine lv_iinc (v := nI (l9 + 1)) (lv' := [(3, .int (nI (l9 + 1))), (4, .int (zI z)), (0, .ref q), (1, .int (nI n)), (2, .int (nI S))]) hx hb d_SQ_measureSets_62 hl (k := 4) rfl (n_incN l9 1) (by decide) rfl (fun ls hl => ?_)
          refine lv_goto (tgt := 11) hx hb d_SQ_measureSets_65 (by decide) ?_
          exact ih_inn (l9 + 1) (up fw ((S * 9) + l9) 0) (by omega) (by omega) (by have := hI.put hn (by omega) (by omega) (fun y hy => hc l9 (by omega) y hy) hLN; rw [tv_0 (by omega)] at this; exact this) _ _ _ hP hD hS (lv_sub hl [2, 3, 4, 0] rfl)
      exact inn (n + 1) 0 fw (by omega) (by omega) hI _ _ _ hP hD hS (lv_sub hl [1, 2, 3, 0] rfl)
  exact out (2 ^ n + 1) 0 fw (by omega) (by omega) (MI.init sp fw n) _ _ _ hP hD hS (lv_sub hl [1, 2, 0] rfl)
set_option maxHeartbeats 4000000 in
set_option maxRecDepth 100000 in
/-- choose(count): the order, by the table -/
theorem c_SQ_choose (l : Launch) (dC : Nat → ClassId) (dI : Nat → Nat → Nat) (sz : Nat) (q qn qs qf : Nat) (cI : ClassId) (nm sp fw : Nat → Nat) (tt kn n : Nat) (hn : n ≤ 9) (hth : ∀ S (la : Int), S < 2 ^ n → (la = -1 ∨ (0 ≤ la ∧ la < n)) → ∀ x, x < n → bit S x = 1 → thr sp fw S la x < 2147483648) : Met l y_SQ_choose w_SQ_choose { frames := 3, cells := 0, slots := 0, locals := 72 } (rw_Pc (dC, dI) vwCl [(cI, .int)] sz [.ref q, .int (nI n)] [(q, .inr (3, [.ref qn, .int (nI tt), .int (nI kn), .ref qs, .ref qf])), (qn, .inl (cI, 9, .inl (aN nm))), (qs, .inl (cI, 81, .inl (aN sp))), (qf, .inl (cI, 4608, .inl (aN fw)))]) (va_Qv (fun (u : Nat × (Nat → Nat)) => GR sp fw n u.2 n ∧ (∀ j, j < n → u.2 j < n) ∧ u.1 = tot sp u.2 n) (rw_B (dC, dI) vwCl [(cI, .int)] (va_A [(q, .inr (3, [.ref qn, .int (nI tt), .int (nI kn), .ref qs, .ref qf])), (qn, .inl (cI, 9, .inl (aN nm))), (qs, .inl (cI, 81, .inl (aN sp))), (qf, .inl (cI, 4608, .inl (aN fw)))] sz) (fun u : Nat × (Nat → Nat) => [(q, .inr (3, [.ref qn, .int (nI u.1), .int (nI kn), .ref qs, .ref qf])), (qn, .inl (cI, 9, .inl (aN u.2))), (qs, .inl (cI, 81, .inl (aN sp))), (qf, .inl (cI, 4608, .inl (aN fw)))])) (va_A [(q, .inr (3, [.ref qn, .int (nI tt), .int (nI kn), .ref qs, .ref qf])), (qn, .inl (cI, 9, .inl (aN nm))), (qs, .inl (cI, 81, .inl (aN sp))), (qf, .inl (cI, 4608, .inl (aN fw)))] sz)) 0 0 (va_A [(q, .inr (3, [.ref qn, .int (nI tt), .int (nI kn), .ref qs, .ref qf])), (qn, .inl (cI, 9, .inl (aN nm))), (qs, .inl (cI, 81, .inl (aN sp))), (qf, .inl (cI, 4608, .inl (aN fw)))] sz) := by
  refine Met.ofW (cc := b_SQ_choose) (maxL := 6) (ret := none) (by decide) rfl ?_
  intro p e s m args below meth c s₁ B hml hv
  obtain ⟨rfl, hsz, hP, hK, hD0⟩ := hv
  have hx := B.exec
  have hb := B.bytes
  have hr := B.returns
  have hts := gw_h (atoms_spec (ws := w_SQ_choose) B.pre)
  have hown : s.vm.findClass R_SQ = some m.cls := findClass_of_methodNamed B.named
  have hlocks := B.notSynchronized
  subst hsz
  have hD := hD0.self (sz := s.heap.size)
  generalize hAe : va_A [(q, .inr (3, [.ref qn, .int (nI tt), .int (nI kn), .ref qs, .ref qf])), (qn, .inl (cI, 9, .inl (aN nm))), (qs, .inl (cI, 81, .inl (aN sp))), (qf, .inl (cI, 4608, .inl (aN fw)))] s.heap.size = A at hD ⊢
  have hA : ∀ q : Nat, s.heap.size ≤ q → A q := fun q h => by rw [← hAe]; exact Or.inr h
  have hS : va_S A s.heap s.heap [] := va_S.rf
  have hP : va_P (dC, dI) vwCl [(q, .inr (3, [.ref qn, .int (nI tt), .int (nI kn), .ref qs, .ref qf])), (qn, .inl (cI, 9, .inl (aN nm))), (qs, .inl (cI, 81, .inl (aN sp))), (qf, .inl (cI, 4608, .inl (aN fw)))] s.heap := hP
  have hl := lv_entry ([.ref q, .int (nI n)]) (n := 6) (Nat.le_of_ble_eq_true rfl)
  rw [lg_entry_eq]
  generalize (lg_sl ([.ref q, .int (nI n)]) ++ List.replicate (6 - (lg_sl ([.ref q, .int (nI n)])).length) Slot.unset).toArray = ls at hl ⊢
  have hl : lv_has ls 6 [(0, .ref q), (1, .int (nI n))] := hl
  have h512 : 2 ^ n ≤ 512 := (Nat.pow_le_pow_right (by decide) hn : 2 ^ n ≤ 2 ^ 9)
  have h1p : 1 ≤ 2 ^ n := Nat.pos_of_ne_zero (by simp)
  refine lv_aload_n hx hb d_SQ_choose_0 rfl (lv_at hl 0 rfl) ?_
  refine lv_iconst (v := nI 0) hx hb d_SQ_choose_1 (by decide +kernel) ?_
  refine va_put (D := (dC, dI)) (ci := 3) (v := .int (nI 0)) (ty := .int) (C := R_SQ) (T := F_SQ) (N := 5) hx hb hts in_SQ t_SQ t_SQ_ok n_SQ hown hK hP hD hS 0 rfl rfl 1 (by decide) (hts _ m_159) (fun _ h9 => h9) rfl (by decide +kernel) rfl rfl (Nat.le_of_ble_eq_true rfl) d_SQ_choose_2 (fun H locs hP hD hS => ?_)
  have hP : va_P (dC, dI) vwCl [(q, .inr (3, [.ref qn, .int (nI 0), .int (nI kn), .ref qs, .ref qf])), (qn, .inl (cI, 9, .inl (aN nm))), (qs, .inl (cI, 81, .inl (aN sp))), (qf, .inl (cI, 4608, .inl (aN fw)))] H := hP
  have hD : va_D A [(q, .inr (3, [.ref qn, .int (nI 0), .int (nI kn), .ref qs, .ref qf])), (qn, .inl (cI, 9, .inl (aN nm))), (qs, .inl (cI, 81, .inl (aN sp))), (qf, .inl (cI, 4608, .inl (aN fw)))] := hD
  refine lv_iconst (v := nI 1) hx hb d_SQ_choose_5 (by decide +kernel) ?_
  refine lv_iload_n hx hb d_SQ_choose_6 rfl (lv_at hl 1 rfl) ?_
  refine lv_ishl hx hb d_SQ_choose_7 ?_
  refine lv_topr (show _ = nI (2 ^ n) from bt_pow n (by omega)) ?_
  refine lv_iconst (v := nI 1) hx hb d_SQ_choose_8 (by decide +kernel) ?_
  refine lv_isub hx hb d_SQ_choose_9 ?_
  refine lv_topr (show _ = nI ((2 ^ n) - 1) from nn_subN (by omega)) ?_
  refine lv_istore_n (lv' := [(2, .int (nI ((2 ^ n) - 1))), (0, .ref q), (1, .int (nI n))]) hx hb d_SQ_choose_10 rfl hl (by decide) rfl (fun ls hl => ?_)
  refine lv_iconst (v := zI (-1)) hx hb d_SQ_choose_11 (by decide +kernel) ?_
  refine lv_istore_n (lv' := [(3, .int (zI (-1))), (2, .int (nI ((2 ^ n) - 1))), (0, .ref q), (1, .int (nI n))]) hx hb d_SQ_choose_12 rfl hl (by decide) rfl (fun ls hl => ?_)
  refine lv_iconst (v := nI 0) hx hb d_SQ_choose_13 (by decide +kernel) ?_
  refine lv_istore (lv' := [(4, .int (nI 0)), (3, .int (zI (-1))), (2, .int (nI ((2 ^ n) - 1))), (0, .ref q), (1, .int (nI n))]) hx hb d_SQ_choose_14 hl (by decide) rfl (fun ls hl => ?_)
  have out : ∀ (n_out : Nat) (k : Nat) (S : Nat) (la : Int) (tt : Nat) (nm : Nat → Nat), (n + 1 ≤ k + n_out) → (k ≤ n) → (S < 2 ^ n) → (la = -1 ∨ (0 ≤ la ∧ la < n)) → (GR sp fw n nm k) → (∀ j, j < k → nm j < n) → (tt = tot sp nm k) → (S = stS n nm k) → (la = laS nm k) → ∀ (H : Heap) (locs : List Loc) (ls : Array Slot), va_P (dC, dI) vwCl [(q, .inr (3, [.ref qn, .int (nI tt), .int (nI kn), .ref qs, .ref qf])), (qn, .inl (cI, 9, .inl (aN nm))), (qs, .inl (cI, 81, .inl (aN sp))), (qf, .inl (cI, 4608, .inl (aN fw)))] H → va_D A [(q, .inr (3, [.ref qn, .int (nI tt), .int (nI kn), .ref qs, .ref qf])), (qn, .inl (cI, 9, .inl (aN nm))), (qs, .inl (cI, 81, .inl (aN sp))), (qf, .inl (cI, 4608, .inl (aN fw)))] → va_S A s.heap H locs → lv_has ls 6 [(0, .ref q), (1, .int (nI n)), (2, .int (nI S)), (3, .int (zI la)), (4, .int (nI k))] → W p l e (headSpec w_SQ_choose { frames := 3, cells := 0, slots := 0, locals := 72 }).room s m [.ref q, .int (nI n)].toArray below meth c H locs 0 0 (MQ below (va_Qv (fun (u : Nat × (Nat → Nat)) => GR sp fw n u.2 n ∧ (∀ j, j < n → u.2 j < n) ∧ u.1 = tot sp u.2 n) (rw_B (dC, dI) vwCl [(cI, .int)] A (fun u : Nat × (Nat → Nat) => [(q, .inr (3, [.ref qn, .int (nI u.1), .int (nI kn), .ref qs, .ref qf])), (qn, .inl (cI, 9, .inl (aN u.2))), (qs, .inl (cI, 81, .inl (aN sp))), (qf, .inl (cI, 4608, .inl (aN fw)))])) A) [.ref q, .int (nI n)].toArray s 0 0 A) (F0 m 16 ls []) := by
    intro n_out
    induction n_out with
    | zero =>
      intro k S la tt nm hm hk hSn hla hG hnum htt hS9 hla9
      exact absurd hm (by omega)
    | succ n_out ih_out =>
      intro k S la tt nm hm hk hSn hla hG hnum htt hS9 hla9 H locs ls hP hD hS hl
      refine lv_iload hx hb d_SQ_choose_16 (lv_at hl 4 rfl) ?_
      refine lv_iload_n hx hb d_SQ_choose_18 rfl (lv_at hl 1 rfl) ?_
      refine ix_icmp_ge (tgt := 81) hx hb (nI_tI (n := k) (by omega)) (nI_tI (n := n) (by omega)) d_SQ_choose_19 (by decide) (fun c_19 => ?_) (fun c_19 => ?_)
      · have e9 : k = n := by omega
        rw [e9] at hG hnum htt
        exact W.vret hx hb hr (fun t ht hW => ⟨⟨(tt, nm), rfl, ⟨hG, hnum, htt⟩, by rw [ht]; exact hP, va_K.moved hW.alike hK, hD⟩, hS.F ht⟩) hS.2.2 d_SQ_choose_81
      refine lv_aload_n hx hb d_SQ_choose_22 rfl (lv_at hl 0 rfl) ?_
      refine lv_iload_n hx hb d_SQ_choose_23 rfl (lv_at hl 2 rfl) ?_
      refine lv_iload_n hx hb d_SQ_choose_24 rfl (lv_at hl 3 rfl) ?_
      refine lv_iload_n hx hb d_SQ_choose_25 rfl (lv_at hl 1 rfl) ?_
      have hPc := hP.sub (ws' := [(q, .inr (3, [.ref qn, .int (nI tt), .int (nI kn), .ref qs, .ref qf])), (qs, .inl (cI, 81, .inl (aN sp))), (qf, .inl (cI, 4608, .inl (aN fw)))]) [0, 2, 3] rfl
      refine ro_calli (va_runV (As := [.int (nI S), .int (zI la), .int (nI n)]) (rest := []) ⟨hx, hb, hml, hown, hts⟩ (c_SQ_lowestNext l dC dI q qn qs qf cI sp fw tt kn S la n (by omega) hn (by omega) (fun x hx hb => hth S la (by omega) hla x hx hb)) (cwV 3 hts (gw_V m_290 m_292 s_5 m_6 m_293) rfl rfl rfl (by decide +kernel) ⟨Nat.le_of_ble_eq_true rfl, Nat.le_of_ble_eq_true rfl⟩) ⟨ro_blind, va_recv hK hPc (ci := 3) (q0 := 0) rfl rfl, fun U hU hW => ⟨rfl, by rw [hU]; exact hPc, va_K.moved hW.alike hK⟩⟩ rfl rfl hl.1 rfl (lv_room (Nat.le_of_ble_eq_true rfl)) d_SQ_choose_26 ⟨Nat.le_of_ble_eq_true rfl, Nat.le_of_ble_eq_true rfl⟩) hS hP (fun r H locs er hP hS => ?_)
      obtain ⟨z, rfl, hLN⟩ := er
      have hzr : -1 ≤ z ∧ z < n := by rcases hLN with ⟨h, _⟩ | ⟨x, h, h2, _⟩ <;> omega
      have hz0 : ¬ z = -1 := by
        intro hz
        rcases hLN with ⟨_, h⟩ | ⟨x, h, _⟩
        · have h1 := bits_left hn hG hnum
          rw [← hS9, sumN_zeros h] at h1
          omega
        · omega
      refine lv_istore (lv' := [(5, .int (zI z)), (0, .ref q), (1, .int (nI n)), (2, .int (nI S)), (3, .int (zI la)), (4, .int (nI k))]) hx hb d_SQ_choose_29 hl (by decide) rfl (fun ls hl => ?_)
      refine lv_iload hx hb d_SQ_choose_31 (lv_at hl 0 rfl) ?_
      refine lv_iconst (v := zI (-1)) hx hb d_SQ_choose_33 (by decide +kernel) ?_
      refine ix_icmp_ne (tgt := 38) hx hb (zI_toInt (z := z) (by omega) (by omega)) (zI_toInt (z := -1) (by omega) (by omega)) d_SQ_choose_34 (by decide) (fun c_34 => ?_) (fun c_34 => absurd c_34 (by omega))
      refine lv_aload_n hx hb d_SQ_choose_38 rfl (lv_at hl 1 rfl) ?_
      refine lv_dup hx hb d_SQ_choose_39 rfl ?_
      refine va_get (D := (dC, dI)) (ci := 3) (v := .int (nI tt)) (C := R_SQ) (T := F_SQ) (N := 5) hx hb hts in_SQ hown hK hP 0 rfl rfl 1 (by decide) (hts _ m_159) (fun _ h9 => h9) rfl d_SQ_choose_40 ?_
      refine lv_aload_n hx hb d_SQ_choose_43 rfl (lv_at hl 1 rfl) ?_
      refine lv_iload_n hx hb d_SQ_choose_44 rfl (lv_at hl 4 rfl) ?_
      refine lv_iload hx hb d_SQ_choose_45 (lv_at hl 0 rfl) ?_
      refine lv_topr (show _ = nI z.toNat from z_toN (by omega)) ?_
      have hPc := hP.sub (ws' := [(q, .inr (3, [.ref qn, .int (nI tt), .int (nI kn), .ref qs, .ref qf])), (qs, .inl (cI, 81, .inl (aN sp)))]) [0, 2] rfl
      refine ro_calli (va_runV (As := [.int (zI la), .int (nI z.toNat)]) (rest := [.int (nI tt), .ref q]) ⟨hx, hb, hml, hown, hts⟩ (c_SQ_step l dC dI q qn qs qf cI sp tt kn la z.toNat (by omega) (by omega)) (cwV 2 hts (gw_V m_298 m_300 s_7 m_6 m_301) rfl rfl rfl (by decide +kernel) ⟨Nat.le_of_ble_eq_true rfl, Nat.le_of_ble_eq_true rfl⟩) ⟨ro_blind, va_recv hK hPc (ci := 3) (q0 := 0) rfl rfl, fun U hU hW => ⟨rfl, by rw [hU]; exact hPc, va_K.moved hW.alike hK⟩⟩ rfl rfl hl.1 rfl (lv_room (Nat.le_of_ble_eq_true rfl)) d_SQ_choose_47 ⟨Nat.le_of_ble_eq_true rfl, Nat.le_of_ble_eq_true rfl⟩) hS hP (fun r H locs er hP hS => ?_)
      subst er
      refine lv_iadd hx hb d_SQ_choose_50 ?_
      refine lv_topr (show _ = nI (tt + (stp sp la z.toNat)) from nn_add _ _) ?_
      refine va_put (D := (dC, dI)) (ci := 3) (v := .int (nI (tt + (stp sp la z.toNat)))) (ty := .int) (C := R_SQ) (T := F_SQ) (N := 5) hx hb hts in_SQ t_SQ t_SQ_ok n_SQ hown hK hP hD hS 0 rfl rfl 1 (by decide) (hts _ m_159) (fun _ h9 => h9) rfl (by decide +kernel) rfl rfl (Nat.le_of_ble_eq_true rfl) d_SQ_choose_51 (fun H locs hP hD hS => ?_)
      have hP : va_P (dC, dI) vwCl [(q, .inr (3, [.ref qn, .int (nI (tt + (stp sp la z.toNat))), .int (nI kn), .ref qs, .ref qf])), (qn, .inl (cI, 9, .inl (aN nm))), (qs, .inl (cI, 81, .inl (aN sp))), (qf, .inl (cI, 4608, .inl (aN fw)))] H := hP
      have hD : va_D A [(q, .inr (3, [.ref qn, .int (nI (tt + (stp sp la z.toNat))), .int (nI kn), .ref qs, .ref qf])), (qn, .inl (cI, 9, .inl (aN nm))), (qs, .inl (cI, 81, .inl (aN sp))), (qf, .inl (cI, 4608, .inl (aN fw)))] := hD
      refine lv_aload_n hx hb d_SQ_choose_54 rfl (lv_at hl 1 rfl) ?_
      refine va_get (D := (dC, dI)) (ci := 3) (v := .ref qn) (C := R_SQ) (T := F_SQ) (N := 5) hx hb hts in_SQ hown hK hP 0 rfl rfl 0 (by decide) (hts _ m_157) (fun _ h9 => h9) rfl d_SQ_choose_55 ?_
      refine lv_iload hx hb d_SQ_choose_58 (lv_at hl 5 rfl) ?_
      refine lv_iload hx hb d_SQ_choose_60 (lv_at hl 0 rfl) ?_
      refine lv_topr (show _ = nI z.toNat from z_toN (by omega)) ?_
      refine ix_iast (i := k) hx hb hK hP hD hS 1 0 rfl rfl (by omega) (by decide) d_SQ_choose_62 (fun H locs hP hD hS => ?_)
      have hP : va_P (dC, dI) vwCl [(q, .inr (3, [.ref qn, .int (nI (tt + (stp sp la z.toNat))), .int (nI kn), .ref qs, .ref qf])), (qn, .inl (cI, 9, .inl (aN (up nm k z.toNat)))), (qs, .inl (cI, 81, .inl (aN sp))), (qf, .inl (cI, 4608, .inl (aN fw)))] H := hP
      have hD : va_D A [(q, .inr (3, [.ref qn, .int (nI (tt + (stp sp la z.toNat))), .int (nI kn), .ref qs, .ref qf])), (qn, .inl (cI, 9, .inl (aN (up nm k z.toNat)))), (qs, .inl (cI, 81, .inl (aN sp))), (qf, .inl (cI, 4608, .inl (aN fw)))] := hD
      refine lv_iload_n hx hb d_SQ_choose_63 rfl (lv_at hl 3 rfl) ?_
      refine lv_iconst (v := nI 1) hx hb d_SQ_choose_64 (by decide +kernel) ?_
      refine lv_iload hx hb d_SQ_choose_65 (lv_at hl 0 rfl) ?_
      refine lv_topr (show _ = nI z.toNat from z_toN (by omega)) ?_
      refine lv_ishl hx hb d_SQ_choose_67 ?_
      refine lv_iconst (v := zI (-1)) hx hb d_SQ_choose_68 (by decide +kernel) ?_
      refine lv_ixor hx hb d_SQ_choose_69 ?_
      refine lv_iand hx hb d_SQ_choose_70 ?_
      refine lv_topr (show _ = nI (clr S z.toNat) from bt_clr S (by omega) z.toNat (by omega)) ?_
      refine lv_istore_n (lv' := [(2, .int (nI (clr S z.toNat))), (5, .int (zI z)), (0, .ref q), (1, .int (nI n)), (3, .int (zI la)), (4, .int (nI k))]) hx hb d_SQ_choose_71 rfl hl (by decide) rfl (fun ls hl => ?_)
      refine lv_iload hx hb d_SQ_choose_72 (lv_at hl 1 rfl) ?_
      refine lv_istore_n (lv' := [(3, .int (zI z)), (2, .int (nI (clr S z.toNat))), (5, .int (zI z)), (0, .ref q), (1, .int (nI n)), (4, .int (nI k))]) hx hb d_SQ_choose_74 rfl hl (by decide) rfl (fun ls hl => ?_)
      refine lv_iinc (v := nI (k + 1)) (lv' := [(4, .int (nI (k + 1))), (3, .int (zI z)), (2, .int (nI (clr S z.toNat))), (5, .int (zI z)), (0, .ref q), (1, .int (nI n))]) hx hb d_SQ_choose_75 hl (k := 5) rfl (n_incN k 1) (by decide) rfl (fun ls hl => ?_)
      refine lv_goto (tgt := 16) hx hb d_SQ_choose_78 (by decide) ?_
      exact ih_out (k + 1) (clr S z.toNat) z (tt + (stp sp la z.toNat)) (up nm k z.toNat) (by omega) (by omega) (by have := clr_le S z.toNat; omega) (by omega) (hG.push (by rw [← hS9, ← hla9, show ((z.toNat : Nat) : Int) = z by omega]; exact hLN)) (num_push hnum (by omega)) (by rw [tot_push, ← htt, ← hla9]) (by show _ = clr (stS n (up nm k z.toNat) k) (up nm k z.toNat k); rw [up_s, ← stS_congr (fun j hj => (up_n nm z.toNat (show j ≠ k by omega)).symm), ← hS9]) (by show z = ((up nm k z.toNat k : Nat) : Int); rw [up_s]; omega) _ _ _ hP hD hS (lv_sub hl [4, 5, 2, 1, 0] rfl)
  exact out (n + 1) 0 (2 ^ n - 1) (-1) 0 nm (by omega) (by omega) (by omega) (Or.inl rfl) (fun _ h => absurd h (Nat.not_lt_zero _)) (fun _ h => absurd h (Nat.not_lt_zero _)) rfl rfl rfl _ _ _ hP hD hS (lv_sub hl [3, 4, 2, 1, 0] rfl)
