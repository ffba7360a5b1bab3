theorem KN.last {bg en : Nat → Nat} {sc kc : Nat} {kp : Nat → Nat} (h : KN bg en sc kc kp) (h0 : 0 < kc) : 0 < sc ∧ kp (kc - 1) = en (sc - 1) := by
  obtain ⟨hk, hp⟩ := h
  have hs : 0 < sc := by
    rcases Nat.eq_zero_or_pos sc with e | e
    · rw [e] at hk
      have : kq bg en 0 = 0 := rfl
      omega
    · exact e
  have h1 := (hp (sc - 1) (by omega)).2.2
  rw [show sc - 1 + 1 = sc by omega, ← hk] at h1
  exact ⟨hs, h1⟩
theorem LYI.last {bc wd : Nat → Nat} {cf sc : Nat} {nu bg en : Nat → Nat} (h : LYI bc wd cf sc nu bg en) (h0 : 0 < sc) : en (sc - 1) ≤ sumN (fun j => wd (nu j) + cf) sc := by
  obtain ⟨-, h2, h3⟩ := h (sc - 1) (by omega)
  have e : sumN (fun j => wd (nu j) + cf) (sc - 1 + 1) = sumN (fun j => wd (nu j) + cf) (sc - 1) + (wd (nu (sc - 1)) + cf) := rfl
  rw [show sc - 1 + 1 = sc by omega] at e
  omega
theorem d_WI_init_0 : decode b_WI_init 0 = .ok (.aload_n 0, 1) := by decide +kernel
theorem d_WI_init_1 : decode b_WI_init 1 = .ok (.invokespecial 3, 3) := by decide +kernel
theorem d_WI_init_4 : decode b_WI_init 4 = .ok (.aload_n 0, 1) := by decide +kernel
theorem d_WI_init_5 : decode b_WI_init 5 = .ok (.iconst 5, 1) := by decide +kernel
theorem d_WI_init_6 : decode b_WI_init 6 = .ok (.newarray .int, 2) := by decide +kernel
theorem d_WI_init_8 : decode b_WI_init 8 = .ok (.putfield 9, 3) := by decide +kernel
theorem d_WI_init_11 : decode b_WI_init 11 = .ok (.aload_n 0, 1) := by decide +kernel
theorem d_WI_init_12 : decode b_WI_init 12 = .ok (.iconst 5, 1) := by decide +kernel
theorem d_WI_init_13 : decode b_WI_init 13 = .ok (.newarray .int, 2) := by decide +kernel
theorem d_WI_init_15 : decode b_WI_init 15 = .ok (.putfield 15, 3) := by decide +kernel
theorem d_WI_init_18 : decode b_WI_init 18 = .ok (.aload_n 0, 1) := by decide +kernel
theorem d_WI_init_19 : decode b_WI_init 19 = .ok (.iconst 0, 1) := by decide +kernel
theorem d_WI_init_20 : decode b_WI_init 20 = .ok (.putfield 18, 3) := by decide +kernel
theorem d_WI_init_23 : decode b_WI_init 23 = .ok (.return_, 1) := by decide +kernel
theorem d_WI_deliver_0 : decode b_WI_deliver 0 = .ok (.iconst 0, 1) := by decide +kernel
theorem d_WI_deliver_1 : decode b_WI_deliver 1 = .ok (.istore_n 2, 1) := by decide +kernel
theorem d_WI_deliver_2 : decode b_WI_deliver 2 = .ok (.iload_n 2, 1) := by decide +kernel
theorem d_WI_deliver_3 : decode b_WI_deliver 3 = .ok (.aload_n 0, 1) := by decide +kernel
theorem d_WI_deliver_4 : decode b_WI_deliver 4 = .ok (.getfield 18, 3) := by decide +kernel
theorem d_WI_deliver_7 : decode b_WI_deliver 7 = .ok (.if_icmp .ge (21), 3) := by decide +kernel
theorem d_WI_deliver_10 : decode b_WI_deliver 10 = .ok (.aload_n 0, 1) := by decide +kernel
theorem d_WI_deliver_11 : decode b_WI_deliver 11 = .ok (.getfield 15, 3) := by decide +kernel
theorem d_WI_deliver_14 : decode b_WI_deliver 14 = .ok (.iload_n 2, 1) := by decide +kernel
theorem d_WI_deliver_15 : decode b_WI_deliver 15 = .ok (.dup2, 1) := by decide +kernel
theorem d_WI_deliver_16 : decode b_WI_deliver 16 = .ok (.iaload, 1) := by decide +kernel
theorem d_WI_deliver_17 : decode b_WI_deliver 17 = .ok (.aload_n 1, 1) := by decide +kernel
theorem d_WI_deliver_18 : decode b_WI_deliver 18 = .ok (.iload_n 2, 1) := by decide +kernel
theorem d_WI_deliver_19 : decode b_WI_deliver 19 = .ok (.iaload, 1) := by decide +kernel
theorem d_WI_deliver_20 : decode b_WI_deliver 20 = .ok (.isub, 1) := by decide +kernel
theorem d_WI_deliver_21 : decode b_WI_deliver 21 = .ok (.iastore, 1) := by decide +kernel
theorem d_WI_deliver_22 : decode b_WI_deliver 22 = .ok (.iinc 2 1, 3) := by decide +kernel
theorem d_WI_deliver_25 : decode b_WI_deliver 25 = .ok (.goto (-23), 3) := by decide +kernel
theorem d_WI_deliver_28 : decode b_WI_deliver 28 = .ok (.return_, 1) := by decide +kernel
set_option maxHeartbeats 4000000 in
set_option maxRecDepth 100000 in
/-- make(coil, wishes, search): the strips of the best pattern, from the trim on -/
theorem c_SU_make (l : Launch) (dC : Nat → ClassId) (dI : Nat → Nat → Nat) (sz : Nat) (o on ob oe ok : Nat) (cI : ClassId) (k0 v0 vw vs a0 ab ap aq ac : Nat) (nu bg en kp wd bc : Nat → Nat) (sc lf kc wi kg tr sp : Nat) (cw ck cr cf cn cnt bn bf kn most bs : Nat) (room : Int) (hc5 : cnt ≤ 5) (hwd : ∀ i, i < cnt → 1 ≤ wd i ∧ wd i ≤ 20000) (hcf : cf ≤ 100) (hbc : ∀ i, i < cnt → bc i ≤ 6) : Met l y_SU_make w_SU_make { frames := 2, cells := 0, slots := 0, locals := 45 } (rw_Pc (dC, dI) vwCl [(cI, .int)] sz [.ref o, .ref k0, .ref v0, .ref a0] [(o, .inr (4, [.ref on, .ref ob, .ref oe, .int (nI sc), .int (nI lf), .ref ok, .int (nI kc), .int (nI wi), .int (nI kg), .int (nI tr), .int (nI sp)])), (on, .inl (cI, 30, .inl (aN nu))), (ob, .inl (cI, 30, .inl (aN bg))), (oe, .inl (cI, 30, .inl (aN en))), (ok, .inl (cI, 60, .inl (aN kp))), (k0, .inr (0, [.int (nI cw), .int (nI ck), .int (nI cr), .int (nI cf), .int (nI cn)])), (v0, .inr (5, [.ref vw, .ref vs, .int (nI cnt)])), (vw, .inl (cI, 5, .inl (aN wd))), (a0, .inr (2, [.ref ab, .int (nI bn), .int (nI bf), .int (nI kn), .ref ap, .ref aq, .ref ac, .int (zI room), .int (nI most), .int (nI bs)])), (ab, .inl (cI, 5, .inl (aN bc)))]) (va_Qv (fun (u : Nat × Nat × (Nat → Nat) × (Nat → Nat) × (Nat → Nat) × (Nat → Nat)) => u.1 = sumN bc cnt ∧ LYI bc wd cf u.1 u.2.2.1 u.2.2.2.1 u.2.2.2.2.1 ∧ KN u.2.2.2.1 u.2.2.2.2.1 u.1 u.2.1 u.2.2.2.2.2) (rw_B (dC, dI) vwCl [(cI, .int)] (va_A [(o, .inr (4, [.ref on, .ref ob, .ref oe, .int (nI sc), .int (nI lf), .ref ok, .int (nI kc), .int (nI wi), .int (nI kg), .int (nI tr), .int (nI sp)])), (on, .inl (cI, 30, .inl (aN nu))), (ob, .inl (cI, 30, .inl (aN bg))), (oe, .inl (cI, 30, .inl (aN en))), (ok, .inl (cI, 60, .inl (aN kp))), (k0, .inr (0, [.int (nI cw), .int (nI ck), .int (nI cr), .int (nI cf), .int (nI cn)])), (v0, .inr (5, [.ref vw, .ref vs, .int (nI cnt)])), (vw, .inl (cI, 5, .inl (aN wd))), (a0, .inr (2, [.ref ab, .int (nI bn), .int (nI bf), .int (nI kn), .ref ap, .ref aq, .ref ac, .int (zI room), .int (nI most), .int (nI bs)])), (ab, .inl (cI, 5, .inl (aN bc)))] sz) (fun u : Nat × Nat × (Nat → Nat) × (Nat → Nat) × (Nat → Nat) × (Nat → Nat) => [(o, .inr (4, [.ref on, .ref ob, .ref oe, .int (nI u.1), .int (nI cr), .ref ok, .int (nI u.2.1), .int (nI cw), .int (nI ck), .int (nI cr), .int (nI bf)])), (on, .inl (cI, 30, .inl (aN u.2.2.1))), (ob, .inl (cI, 30, .inl (aN u.2.2.2.1))), (oe, .inl (cI, 30, .inl (aN u.2.2.2.2.1))), (ok, .inl (cI, 60, .inl (aN u.2.2.2.2.2))), (k0, .inr (0, [.int (nI cw), .int (nI ck), .int (nI cr), .int (nI cf), .int (nI cn)])), (v0, .inr (5, [.ref vw, .ref vs, .int (nI cnt)])), (vw, .inl (cI, 5, .inl (aN wd))), (a0, .inr (2, [.ref ab, .int (nI bn), .int (nI bf), .int (nI kn), .ref ap, .ref aq, .ref ac, .int (zI room), .int (nI most), .int (nI bs)])), (ab, .inl (cI, 5, .inl (aN bc)))])) (va_A [(o, .inr (4, [.ref on, .ref ob, .ref oe, .int (nI sc), .int (nI lf), .ref ok, .int (nI kc), .int (nI wi), .int (nI kg), .int (nI tr), .int (nI sp)])), (on, .inl (cI, 30, .inl (aN nu))), (ob, .inl (cI, 30, .inl (aN bg))), (oe, .inl (cI, 30, .inl (aN en))), (ok, .inl (cI, 60, .inl (aN kp))), (k0, .inr (0, [.int (nI cw), .int (nI ck), .int (nI cr), .int (nI cf), .int (nI cn)])), (v0, .inr (5, [.ref vw, .ref vs, .int (nI cnt)])), (vw, .inl (cI, 5, .inl (aN wd))), (a0, .inr (2, [.ref ab, .int (nI bn), .int (nI bf), .int (nI kn), .ref ap, .ref aq, .ref ac, .int (zI room), .int (nI most), .int (nI bs)])), (ab, .inl (cI, 5, .inl (aN bc)))] sz)) 0 0 (va_A [(o, .inr (4, [.ref on, .ref ob, .ref oe, .int (nI sc), .int (nI lf), .ref ok, .int (nI kc), .int (nI wi), .int (nI kg), .int (nI tr), .int (nI sp)])), (on, .inl (cI, 30, .inl (aN nu))), (ob, .inl (cI, 30, .inl (aN bg))), (oe, .inl (cI, 30, .inl (aN en))), (ok, .inl (cI, 60, .inl (aN kp))), (k0, .inr (0, [.int (nI cw), .int (nI ck), .int (nI cr), .int (nI cf), .int (nI cn)])), (v0, .inr (5, [.ref vw, .ref vs, .int (nI cnt)])), (vw, .inl (cI, 5, .inl (aN wd))), (a0, .inr (2, [.ref ab, .int (nI bn), .int (nI bf), .int (nI kn), .ref ap, .ref aq, .ref ac, .int (zI room), .int (nI most), .int (nI bs)])), (ab, .inl (cI, 5, .inl (aN bc)))] sz) := by
  refine Met.ofW (cc := b_SU_make) (maxL := 7) (ret := none) (by decide) rfl ?_
  intro p e s m args below meth c s₁ B hml hv
  obtain ⟨rfl, hsz, hP, hK, hD0⟩ := hv
  have hx := B.exec
  have hb := B.bytes
  have hr := B.returns
  have hts := gw_h (atoms_spec (ws := w_SU_make) B.pre)
  have hown : s.vm.findClass R_SU = some m.cls := findClass_of_methodNamed B.named
  have hlocks := B.notSynchronized
  subst hsz
  have hD := hD0.self (sz := s.heap.size)
  generalize hAe : va_A [(o, .inr (4, [.ref on, .ref ob, .ref oe, .int (nI sc), .int (nI lf), .ref ok, .int (nI kc), .int (nI wi), .int (nI kg), .int (nI tr), .int (nI sp)])), (on, .inl (cI, 30, .inl (aN nu))), (ob, .inl (cI, 30, .inl (aN bg))), (oe, .inl (cI, 30, .inl (aN en))), (ok, .inl (cI, 60, .inl (aN kp))), (k0, .inr (0, [.int (nI cw), .int (nI ck), .int (nI cr), .int (nI cf), .int (nI cn)])), (v0, .inr (5, [.ref vw, .ref vs, .int (nI cnt)])), (vw, .inl (cI, 5, .inl (aN wd))), (a0, .inr (2, [.ref ab, .int (nI bn), .int (nI bf), .int (nI kn), .ref ap, .ref aq, .ref ac, .int (zI room), .int (nI most), .int (nI bs)])), (ab, .inl (cI, 5, .inl (aN bc)))] s.heap.size = A at hD ⊢
  have hA : ∀ q : Nat, s.heap.size ≤ q → A q := fun q h => by rw [← hAe]; exact Or.inr h
  have hS : va_S A s.heap s.heap [] := va_S.rf
  have hP : va_P (dC, dI) vwCl [(o, .inr (4, [.ref on, .ref ob, .ref oe, .int (nI sc), .int (nI lf), .ref ok, .int (nI kc), .int (nI wi), .int (nI kg), .int (nI tr), .int (nI sp)])), (on, .inl (cI, 30, .inl (aN nu))), (ob, .inl (cI, 30, .inl (aN bg))), (oe, .inl (cI, 30, .inl (aN en))), (ok, .inl (cI, 60, .inl (aN kp))), (k0, .inr (0, [.int (nI cw), .int (nI ck), .int (nI cr), .int (nI cf), .int (nI cn)])), (v0, .inr (5, [.ref vw, .ref vs, .int (nI cnt)])), (vw, .inl (cI, 5, .inl (aN wd))), (a0, .inr (2, [.ref ab, .int (nI bn), .int (nI bf), .int (nI kn), .ref ap, .ref aq, .ref ac, .int (zI room), .int (nI most), .int (nI bs)])), (ab, .inl (cI, 5, .inl (aN bc)))] s.heap := hP
  have hl := lv_entry ([.ref o, .ref k0, .ref v0, .ref a0]) (n := 7) (Nat.le_of_ble_eq_true rfl)
  rw [lg_entry_eq]
  generalize (lg_sl ([.ref o, .ref k0, .ref v0, .ref a0]) ++ List.replicate (7 - (lg_sl ([.ref o, .ref k0, .ref v0, .ref a0])).length) Slot.unset).toArray = ls at hl ⊢
  have hl : lv_has ls 7 [(0, .ref o), (1, .ref k0), (2, .ref v0), (3, .ref a0)] := hl
  have htot : ∀ i, i ≤ cnt → sumN bc i ≤ 6 * i := by
    intro i
    induction i with
    | zero => intro _; exact Nat.le_refl _
    | succ i ih => intro hi; have h1 := ih (by omega); have h2 := hbc i (by omega); rw [sumN]; omega
  refine lv_aload_n hx hb d_SU_make_0 rfl (lv_at hl 0 rfl) ?_
  refine lv_aload_n hx hb d_SU_make_1 rfl (lv_at hl 1 rfl) ?_
  refine va_get (D := (dC, dI)) (ci := 0) (v := .int (nI cw)) (C := R_CO) (T := F_CO) (N := 5) hx hb hts in_CO hown hK hP 5 rfl rfl 0 (by decide) (hts _ m_33) (fun _ h9 => h9) rfl d_SU_make_2 ?_
  refine va_put (D := (dC, dI)) (ci := 4) (v := .int (nI cw)) (ty := .int) (C := R_SU) (T := F_SU) (N := 11) hx hb hts in_SU t_SU t_SU_ok n_SU hown hK hP hD hS 0 rfl rfl 7 (by decide) (hts _ m_195) (fun _ h9 => h9) rfl (by decide +kernel) rfl rfl (Nat.le_of_ble_eq_true rfl) d_SU_make_5 (fun H locs hP hD hS => ?_)
  have hP : va_P (dC, dI) vwCl [(o, .inr (4, [.ref on, .ref ob, .ref oe, .int (nI sc), .int (nI lf), .ref ok, .int (nI kc), .int (nI cw), .int (nI kg), .int (nI tr), .int (nI sp)])), (on, .inl (cI, 30, .inl (aN nu))), (ob, .inl (cI, 30, .inl (aN bg))), (oe, .inl (cI, 30, .inl (aN en))), (ok, .inl (cI, 60, .inl (aN kp))), (k0, .inr (0, [.int (nI cw), .int (nI ck), .int (nI cr), .int (nI cf), .int (nI cn)])), (v0, .inr (5, [.ref vw, .ref vs, .int (nI cnt)])), (vw, .inl (cI, 5, .inl (aN wd))), (a0, .inr (2, [.ref ab, .int (nI bn), .int (nI bf), .int (nI kn), .ref ap, .ref aq, .ref ac, .int (zI room), .int (nI most), .int (nI bs)])), (ab, .inl (cI, 5, .inl (aN bc)))] H := hP
  have hD : va_D A [(o, .inr (4, [.ref on, .ref ob, .ref oe, .int (nI sc), .int (nI lf), .ref ok, .int (nI kc), .int (nI cw), .int (nI kg), .int (nI tr), .int (nI sp)])), (on, .inl (cI, 30, .inl (aN nu))), (ob, .inl (cI, 30, .inl (aN bg))), (oe, .inl (cI, 30, .inl (aN en))), (ok, .inl (cI, 60, .inl (aN kp))), (k0, .inr (0, [.int (nI cw), .int (nI ck), .int (nI cr), .int (nI cf), .int (nI cn)])), (v0, .inr (5, [.ref vw, .ref vs, .int (nI cnt)])), (vw, .inl (cI, 5, .inl (aN wd))), (a0, .inr (2, [.ref ab, .int (nI bn), .int (nI bf), .int (nI kn), .ref ap, .ref aq, .ref ac, .int (zI room), .int (nI most), .int (nI bs)])), (ab, .inl (cI, 5, .inl (aN bc)))] := hD
  refine lv_aload_n hx hb d_SU_make_8 rfl (lv_at hl 0 rfl) ?_
  refine lv_aload_n hx hb d_SU_make_9 rfl (lv_at hl 1 rfl) ?_
  refine va_get (D := (dC, dI)) (ci := 0) (v := .int (nI ck)) (C := R_CO) (T := F_CO) (N := 5) hx hb hts in_CO hown hK hP 5 rfl rfl 1 (by decide) (hts _ m_37) (fun _ h9 => h9) rfl d_SU_make_10 ?_
  refine va_put (D := (dC, dI)) (ci := 4) (v := .int (nI ck)) (ty := .int) (C := R_SU) (T := F_SU) (N := 11) hx hb hts in_SU t_SU t_SU_ok n_SU hown hK hP hD hS 0 rfl rfl 8 (by decide) (hts _ m_196) (fun _ h9 => h9) rfl (by decide +kernel) rfl rfl (Nat.le_of_ble_eq_true rfl) d_SU_make_13 (fun H locs hP hD hS => ?_)
  have hP : va_P (dC, dI) vwCl [(o, .inr (4, [.ref on, .ref ob, .ref oe, .int (nI sc), .int (nI lf), .ref ok, .int (nI kc), .int (nI cw), .int (nI ck), .int (nI tr), .int (nI sp)])), (on, .inl (cI, 30, .inl (aN nu))), (ob, .inl (cI, 30, .inl (aN bg))), (oe, .inl (cI, 30, .inl (aN en))), (ok, .inl (cI, 60, .inl (aN kp))), (k0, .inr (0, [.int (nI cw), .int (nI ck), .int (nI cr), .int (nI cf), .int (nI cn)])), (v0, .inr (5, [.ref vw, .ref vs, .int (nI cnt)])), (vw, .inl (cI, 5, .inl (aN wd))), (a0, .inr (2, [.ref ab, .int (nI bn), .int (nI bf), .int (nI kn), .ref ap, .ref aq, .ref ac, .int (zI room), .int (nI most), .int (nI bs)])), (ab, .inl (cI, 5, .inl (aN bc)))] H := hP
  have hD : va_D A [(o, .inr (4, [.ref on, .ref ob, .ref oe, .int (nI sc), .int (nI lf), .ref ok, .int (nI kc), .int (nI cw), .int (nI ck), .int (nI tr), .int (nI sp)])), (on, .inl (cI, 30, .inl (aN nu))), (ob, .inl (cI, 30, .inl (aN bg))), (oe, .inl (cI, 30, .inl (aN en))), (ok, .inl (cI, 60, .inl (aN kp))), (k0, .inr (0, [.int (nI cw), .int (nI ck), .int (nI cr), .int (nI cf), .int (nI cn)])), (v0, .inr (5, [.ref vw, .ref vs, .int (nI cnt)])), (vw, .inl (cI, 5, .inl (aN wd))), (a0, .inr (2, [.ref ab, .int (nI bn), .int (nI bf), .int (nI kn), .ref ap, .ref aq, .ref ac, .int (zI room), .int (nI most), .int (nI bs)])), (ab, .inl (cI, 5, .inl (aN bc)))] := hD
  refine lv_aload_n hx hb d_SU_make_16 rfl (lv_at hl 0 rfl) ?_
  refine lv_aload_n hx hb d_SU_make_17 rfl (lv_at hl 1 rfl) ?_
  refine va_get (D := (dC, dI)) (ci := 0) (v := .int (nI cr)) (C := R_CO) (T := F_CO) (N := 5) hx hb hts in_CO hown hK hP 5 rfl rfl 2 (by decide) (hts _ m_40) (fun _ h9 => h9) rfl d_SU_make_18 ?_
  refine va_put (D := (dC, dI)) (ci := 4) (v := .int (nI cr)) (ty := .int) (C := R_SU) (T := F_SU) (N := 11) hx hb hts in_SU t_SU t_SU_ok n_SU hown hK hP hD hS 0 rfl rfl 9 (by decide) (hts _ m_197) (fun _ h9 => h9) rfl (by decide +kernel) rfl rfl (Nat.le_of_ble_eq_true rfl) d_SU_make_21 (fun H locs hP hD hS => ?_)
  have hP : va_P (dC, dI) vwCl [(o, .inr (4, [.ref on, .ref ob, .ref oe, .int (nI sc), .int (nI lf), .ref ok, .int (nI kc), .int (nI cw), .int (nI ck), .int (nI cr), .int (nI sp)])), (on, .inl (cI, 30, .inl (aN nu))), (ob, .inl (cI, 30, .inl (aN bg))), (oe, .inl (cI, 30, .inl (aN en))), (ok, .inl (cI, 60, .inl (aN kp))), (k0, .inr (0, [.int (nI cw), .int (nI ck), .int (nI cr), .int (nI cf), .int (nI cn)])), (v0, .inr (5, [.ref vw, .ref vs, .int (nI cnt)])), (vw, .inl (cI, 5, .inl (aN wd))), (a0, .inr (2, [.ref ab, .int (nI bn), .int (nI bf), .int (nI kn), .ref ap, .ref aq, .ref ac, .int (zI room), .int (nI most), .int (nI bs)])), (ab, .inl (cI, 5, .inl (aN bc)))] H := hP
  have hD : va_D A [(o, .inr (4, [.ref on, .ref ob, .ref oe, .int (nI sc), .int (nI lf), .ref ok, .int (nI kc), .int (nI cw), .int (nI ck), .int (nI cr), .int (nI sp)])), (on, .inl (cI, 30, .inl (aN nu))), (ob, .inl (cI, 30, .inl (aN bg))), (oe, .inl (cI, 30, .inl (aN en))), (ok, .inl (cI, 60, .inl (aN kp))), (k0, .inr (0, [.int (nI cw), .int (nI ck), .int (nI cr), .int (nI cf), .int (nI cn)])), (v0, .inr (5, [.ref vw, .ref vs, .int (nI cnt)])), (vw, .inl (cI, 5, .inl (aN wd))), (a0, .inr (2, [.ref ab, .int (nI bn), .int (nI bf), .int (nI kn), .ref ap, .ref aq, .ref ac, .int (zI room), .int (nI most), .int (nI bs)])), (ab, .inl (cI, 5, .inl (aN bc)))] := hD
  refine lv_aload_n hx hb d_SU_make_24 rfl (lv_at hl 0 rfl) ?_
  refine lv_aload_n hx hb d_SU_make_25 rfl (lv_at hl 1 rfl) ?_
  refine va_get (D := (dC, dI)) (ci := 0) (v := .int (nI cr)) (C := R_CO) (T := F_CO) (N := 5) hx hb hts in_CO hown hK hP 5 rfl rfl 2 (by decide) (hts _ m_40) (fun _ h9 => h9) rfl d_SU_make_26 ?_
  refine va_put (D := (dC, dI)) (ci := 4) (v := .int (nI cr)) (ty := .int) (C := R_SU) (T := F_SU) (N := 11) hx hb hts in_SU t_SU t_SU_ok n_SU hown hK hP hD hS 0 rfl rfl 4 (by decide) (hts _ m_191) (fun _ h9 => h9) rfl (by decide +kernel) rfl rfl (Nat.le_of_ble_eq_true rfl) d_SU_make_29 (fun H locs hP hD hS => ?_)
  have hP : va_P (dC, dI) vwCl [(o, .inr (4, [.ref on, .ref ob, .ref oe, .int (nI sc), .int (nI cr), .ref ok, .int (nI kc), .int (nI cw), .int (nI ck), .int (nI cr), .int (nI sp)])), (on, .inl (cI, 30, .inl (aN nu))), (ob, .inl (cI, 30, .inl (aN bg))), (oe, .inl (cI, 30, .inl (aN en))), (ok, .inl (cI, 60, .inl (aN kp))), (k0, .inr (0, [.int (nI cw), .int (nI ck), .int (nI cr), .int (nI cf), .int (nI cn)])), (v0, .inr (5, [.ref vw, .ref vs, .int (nI cnt)])), (vw, .inl (cI, 5, .inl (aN wd))), (a0, .inr (2, [.ref ab, .int (nI bn), .int (nI bf), .int (nI kn), .ref ap, .ref aq, .ref ac, .int (zI room), .int (nI most), .int (nI bs)])), (ab, .inl (cI, 5, .inl (aN bc)))] H := hP
  have hD : va_D A [(o, .inr (4, [.ref on, .ref ob, .ref oe, .int (nI sc), .int (nI cr), .ref ok, .int (nI kc), .int (nI cw), .int (nI ck), .int (nI cr), .int (nI sp)])), (on, .inl (cI, 30, .inl (aN nu))), (ob, .inl (cI, 30, .inl (aN bg))), (oe, .inl (cI, 30, .inl (aN en))), (ok, .inl (cI, 60, .inl (aN kp))), (k0, .inr (0, [.int (nI cw), .int (nI ck), .int (nI cr), .int (nI cf), .int (nI cn)])), (v0, .inr (5, [.ref vw, .ref vs, .int (nI cnt)])), (vw, .inl (cI, 5, .inl (aN wd))), (a0, .inr (2, [.ref ab, .int (nI bn), .int (nI bf), .int (nI kn), .ref ap, .ref aq, .ref ac, .int (zI room), .int (nI most), .int (nI bs)])), (ab, .inl (cI, 5, .inl (aN bc)))] := hD
  refine lv_aload_n hx hb d_SU_make_32 rfl (lv_at hl 0 rfl) ?_
  refine lv_aload_n hx hb d_SU_make_33 rfl (lv_at hl 3 rfl) ?_
  refine va_get (D := (dC, dI)) (ci := 2) (v := .int (nI bf)) (C := R_PS) (T := F_PS) (N := 10) hx hb hts in_PS hown hK hP 8 rfl rfl 2 (by decide) (hts _ m_98) (fun _ h9 => h9) rfl d_SU_make_34 ?_
  refine va_put (D := (dC, dI)) (ci := 4) (v := .int (nI bf)) (ty := .int) (C := R_SU) (T := F_SU) (N := 11) hx hb hts in_SU t_SU t_SU_ok n_SU hown hK hP hD hS 0 rfl rfl 10 (by decide) (hts _ m_198) (fun _ h9 => h9) rfl (by decide +kernel) rfl rfl (Nat.le_of_ble_eq_true rfl) d_SU_make_37 (fun H locs hP hD hS => ?_)
  have hP : va_P (dC, dI) vwCl [(o, .inr (4, [.ref on, .ref ob, .ref oe, .int (nI sc), .int (nI cr), .ref ok, .int (nI kc), .int (nI cw), .int (nI ck), .int (nI cr), .int (nI bf)])), (on, .inl (cI, 30, .inl (aN nu))), (ob, .inl (cI, 30, .inl (aN bg))), (oe, .inl (cI, 30, .inl (aN en))), (ok, .inl (cI, 60, .inl (aN kp))), (k0, .inr (0, [.int (nI cw), .int (nI ck), .int (nI cr), .int (nI cf), .int (nI cn)])), (v0, .inr (5, [.ref vw, .ref vs, .int (nI cnt)])), (vw, .inl (cI, 5, .inl (aN wd))), (a0, .inr (2, [.ref ab, .int (nI bn), .int (nI bf), .int (nI kn), .ref ap, .ref aq, .ref ac, .int (zI room), .int (nI most), .int (nI bs)])), (ab, .inl (cI, 5, .inl (aN bc)))] H := hP
  have hD : va_D A [(o, .inr (4, [.ref on, .ref ob, .ref oe, .int (nI sc), .int (nI cr), .ref ok, .int (nI kc), .int (nI cw), .int (nI ck), .int (nI cr), .int (nI bf)])), (on, .inl (cI, 30, .inl (aN nu))), (ob, .inl (cI, 30, .inl (aN bg))), (oe, .inl (cI, 30, .inl (aN en))), (ok, .inl (cI, 60, .inl (aN kp))), (k0, .inr (0, [.int (nI cw), .int (nI ck), .int (nI cr), .int (nI cf), .int (nI cn)])), (v0, .inr (5, [.ref vw, .ref vs, .int (nI cnt)])), (vw, .inl (cI, 5, .inl (aN wd))), (a0, .inr (2, [.ref ab, .int (nI bn), .int (nI bf), .int (nI kn), .ref ap, .ref aq, .ref ac, .int (zI room), .int (nI most), .int (nI bs)])), (ab, .inl (cI, 5, .inl (aN bc)))] := hD
  refine lv_aload_n hx hb d_SU_make_40 rfl (lv_at hl 0 rfl) ?_
  refine lv_iconst (v := nI 0) hx hb d_SU_make_41 (by decide +kernel) ?_
  refine va_put (D := (dC, dI)) (ci := 4) (v := .int (nI 0)) (ty := .int) (C := R_SU) (T := F_SU) (N := 11) hx hb hts in_SU t_SU t_SU_ok n_SU hown hK hP hD hS 0 rfl rfl 3 (by decide) (hts _ m_189) (fun _ h9 => h9) rfl (by decide +kernel) rfl rfl (Nat.le_of_ble_eq_true rfl) d_SU_make_42 (fun H locs hP hD hS => ?_)
  have hP : va_P (dC, dI) vwCl [(o, .inr (4, [.ref on, .ref ob, .ref oe, .int (nI 0), .int (nI cr), .ref ok, .int (nI kc), .int (nI cw), .int (nI ck), .int (nI cr), .int (nI bf)])), (on, .inl (cI, 30, .inl (aN nu))), (ob, .inl (cI, 30, .inl (aN bg))), (oe, .inl (cI, 30, .inl (aN en))), (ok, .inl (cI, 60, .inl (aN kp))), (k0, .inr (0, [.int (nI cw), .int (nI ck), .int (nI cr), .int (nI cf), .int (nI cn)])), (v0, .inr (5, [.ref vw, .ref vs, .int (nI cnt)])), (vw, .inl (cI, 5, .inl (aN wd))), (a0, .inr (2, [.ref ab, .int (nI bn), .int (nI bf), .int (nI kn), .ref ap, .ref aq, .ref ac, .int (zI room), .int (nI most), .int (nI bs)])), (ab, .inl (cI, 5, .inl (aN bc)))] H := hP
  have hD : va_D A [(o, .inr (4, [.ref on, .ref ob, .ref oe, .int (nI 0), .int (nI cr), .ref ok, .int (nI kc), .int (nI cw), .int (nI ck), .int (nI cr), .int (nI bf)])), (on, .inl (cI, 30, .inl (aN nu))), (ob, .inl (cI, 30, .inl (aN bg))), (oe, .inl (cI, 30, .inl (aN en))), (ok, .inl (cI, 60, .inl (aN kp))), (k0, .inr (0, [.int (nI cw), .int (nI ck), .int (nI cr), .int (nI cf), .int (nI cn)])), (v0, .inr (5, [.ref vw, .ref vs, .int (nI cnt)])), (vw, .inl (cI, 5, .inl (aN wd))), (a0, .inr (2, [.ref ab, .int (nI bn), .int (nI bf), .int (nI kn), .ref ap, .ref aq, .ref ac, .int (zI room), .int (nI most), .int (nI bs)])), (ab, .inl (cI, 5, .inl (aN bc)))] := hD
  refine lv_aload_n hx hb d_SU_make_45 rfl (lv_at hl 0 rfl) ?_
  refine lv_iconst (v := nI 0) hx hb d_SU_make_46 (by decide +kernel) ?_
  refine va_put (D := (dC, dI)) (ci := 4) (v := .int (nI 0)) (ty := .int) (C := R_SU) (T := F_SU) (N := 11) hx hb hts in_SU t_SU t_SU_ok n_SU hown hK hP hD hS 0 rfl rfl 6 (by decide) (hts _ m_194) (fun _ h9 => h9) rfl (by decide +kernel) rfl rfl (Nat.le_of_ble_eq_true rfl) d_SU_make_47 (fun H locs hP hD hS => ?_)
  have hP : va_P (dC, dI) vwCl [(o, .inr (4, [.ref on, .ref ob, .ref oe, .int (nI 0), .int (nI cr), .ref ok, .int (nI 0), .int (nI cw), .int (nI ck), .int (nI cr), .int (nI bf)])), (on, .inl (cI, 30, .inl (aN nu))), (ob, .inl (cI, 30, .inl (aN bg))), (oe, .inl (cI, 30, .inl (aN en))), (ok, .inl (cI, 60, .inl (aN kp))), (k0, .inr (0, [.int (nI cw), .int (nI ck), .int (nI cr), .int (nI cf), .int (nI cn)])), (v0, .inr (5, [.ref vw, .ref vs, .int (nI cnt)])), (vw, .inl (cI, 5, .inl (aN wd))), (a0, .inr (2, [.ref ab, .int (nI bn), .int (nI bf), .int (nI kn), .ref ap, .ref aq, .ref ac, .int (zI room), .int (nI most), .int (nI bs)])), (ab, .inl (cI, 5, .inl (aN bc)))] H := hP
  have hD : va_D A [(o, .inr (4, [.ref on, .ref ob, .ref oe, .int (nI 0), .int (nI cr), .ref ok, .int (nI 0), .int (nI cw), .int (nI ck), .int (nI cr), .int (nI bf)])), (on, .inl (cI, 30, .inl (aN nu))), (ob, .inl (cI, 30, .inl (aN bg))), (oe, .inl (cI, 30, .inl (aN en))), (ok, .inl (cI, 60, .inl (aN kp))), (k0, .inr (0, [.int (nI cw), .int (nI ck), .int (nI cr), .int (nI cf), .int (nI cn)])), (v0, .inr (5, [.ref vw, .ref vs, .int (nI cnt)])), (vw, .inl (cI, 5, .inl (aN wd))), (a0, .inr (2, [.ref ab, .int (nI bn), .int (nI bf), .int (nI kn), .ref ap, .ref aq, .ref ac, .int (zI room), .int (nI most), .int (nI bs)])), (ab, .inl (cI, 5, .inl (aN bc)))] := hD
  refine lv_iconst (v := nI 0) hx hb d_SU_make_50 (by decide +kernel) ?_
  refine lv_istore (lv' := [(4, .int (nI 0)), (0, .ref o), (1, .ref k0), (2, .ref v0), (3, .ref a0)]) hx hb d_SU_make_51 hl (by decide) rfl (fun ls hl => ?_)
  refine lv_iconst (v := nI 0) hx hb d_SU_make_53 (by decide +kernel) ?_
  refine lv_istore (lv' := [(5, .int (nI 0)), (4, .int (nI 0)), (0, .ref o), (1, .ref k0), (2, .ref v0), (3, .ref a0)]) hx hb d_SU_make_54 hl (by decide) rfl (fun ls hl => ?_)
  have out : ∀ (n_out : Nat) (i9 : Nat) (sc : Nat) (kc : Nat) (x9 : Nat) (nu : Nat → Nat) (bg : Nat → Nat) (en : Nat → Nat) (kp : Nat → Nat), (cnt + 1 ≤ i9 + n_out) → (i9 ≤ cnt) → (sc = sumN bc i9) → (x9 = sumN (fun j => wd (nu j) + cf) sc) → (x9 ≤ sc * 20100) → (LYI bc wd cf sc nu bg en) → (KN bg en sc kc kp) → ∀ (H : Heap) (locs : List Loc) (ls : Array Slot), va_P (dC, dI) vwCl [(o, .inr (4, [.ref on, .ref ob, .ref oe, .int (nI sc), .int (nI cr), .ref ok, .int (nI kc), .int (nI cw), .int (nI ck), .int (nI cr), .int (nI bf)])), (on, .inl (cI, 30, .inl (aN nu))), (ob, .inl (cI, 30, .inl (aN bg))), (oe, .inl (cI, 30, .inl (aN en))), (ok, .inl (cI, 60, .inl (aN kp))), (k0, .inr (0, [.int (nI cw), .int (nI ck), .int (nI cr), .int (nI cf), .int (nI cn)])), (v0, .inr (5, [.ref vw, .ref vs, .int (nI cnt)])), (vw, .inl (cI, 5, .inl (aN wd))), (a0, .inr (2, [.ref ab, .int (nI bn), .int (nI bf), .int (nI kn), .ref ap, .ref aq, .ref ac, .int (zI room), .int (nI most), .int (nI bs)])), (ab, .inl (cI, 5, .inl (aN bc)))] H → va_D A [(o, .inr (4, [.ref on, .ref ob, .ref oe, .int (nI sc), .int (nI cr), .ref ok, .int (nI kc), .int (nI cw), .int (nI ck), .int (nI cr), .int (nI bf)])), (on, .inl (cI, 30, .inl (aN nu))), (ob, .inl (cI, 30, .inl (aN bg))), (oe, .inl (cI, 30, .inl (aN en))), (ok, .inl (cI, 60, .inl (aN kp))), (k0, .inr (0, [.int (nI cw), .int (nI ck), .int (nI cr), .int (nI cf), .int (nI cn)])), (v0, .inr (5, [.ref vw, .ref vs, .int (nI cnt)])), (vw, .inl (cI, 5, .inl (aN wd))), (a0, .inr (2, [.ref ab, .int (nI bn), .int (nI bf), .int (nI kn), .ref ap, .ref aq, .ref ac, .int (zI room), .int (nI most), .int (nI bs)])), (ab, .inl (cI, 5, .inl (aN bc)))] → va_S A s.heap H locs → lv_has ls 7 [(0, .ref o), (1, .ref k0), (2, .ref v0), (3, .ref a0), (4, .int (nI x9)), (5, .int (nI i9))] → W p l e (headSpec w_SU_make { frames := 2, cells := 0, slots := 0, locals := 45 }).room s m [.ref o, .ref k0, .ref v0, .ref a0].toArray below meth c H locs 0 0 (MQ below (va_Qv (fun (u : Nat × Nat × (Nat → Nat) × (Nat → Nat) × (Nat → Nat) × (Nat → Nat)) => u.1 = sumN bc cnt ∧ LYI bc wd cf u.1 u.2.2.1 u.2.2.2.1 u.2.2.2.2.1 ∧ KN u.2.2.2.1 u.2.2.2.2.1 u.1 u.2.1 u.2.2.2.2.2) (rw_B (dC, dI) vwCl [(cI, .int)] A (fun u : Nat × Nat × (Nat → Nat) × (Nat → Nat) × (Nat → Nat) × (Nat → Nat) => [(o, .inr (4, [.ref on, .ref ob, .ref oe, .int (nI u.1), .int (nI cr), .ref ok, .int (nI u.2.1), .int (nI cw), .int (nI ck), .int (nI cr), .int (nI bf)])), (on, .inl (cI, 30, .inl (aN u.2.2.1))), (ob, .inl (cI, 30, .inl (aN u.2.2.2.1))), (oe, .inl (cI, 30, .inl (aN u.2.2.2.2.1))), (ok, .inl (cI, 60, .inl (aN u.2.2.2.2.2))), (k0, .inr (0, [.int (nI cw), .int (nI ck), .int (nI cr), .int (nI cf), .int (nI cn)])), (v0, .inr (5, [.ref vw, .ref vs, .int (nI cnt)])), (vw, .inl (cI, 5, .inl (aN wd))), (a0, .inr (2, [.ref ab, .int (nI bn), .int (nI bf), .int (nI kn), .ref ap, .ref aq, .ref ac, .int (zI room), .int (nI most), .int (nI bs)])), (ab, .inl (cI, 5, .inl (aN bc)))])) A) [.ref o, .ref k0, .ref v0, .ref a0].toArray s 0 0 A) (F0 m 56 ls []) := by
    intro n_out
    induction n_out with
    | zero =>
      intro i9 sc kc x9 nu bg en kp hm hi9 hsc hxx hx2 hLY hKN
      exact absurd hm (by omega)
    | succ n_out ih_out =>
      intro i9 sc kc x9 nu bg en kp hm hi9 hsc hxx hx2 hLY hKN H locs ls hP hD hS hl
      refine lv_iload hx hb d_SU_make_56 (lv_at hl 5 rfl) ?_
      refine lv_aload_n hx hb d_SU_make_58 rfl (lv_at hl 2 rfl) ?_
      refine va_get (D := (dC, dI)) (ci := 5) (v := .int (nI cnt)) (C := R_WI) (T := F_WI) (N := 3) hx hb hts in_WI hown hK hP 6 rfl rfl 2 (by decide) (hts _ m_75) (fun _ h9 => h9) rfl d_SU_make_59 ?_
      refine ix_icmp_ge (tgt := 127) hx hb (nI_tI (n := i9) (by omega)) (nI_tI (n := cnt) (by omega)) d_SU_make_62 (by decide) (fun c_62 => ?_) (fun c_62 => ?_)
      · exact W.vret hx hb hr (fun t ht hW => ⟨⟨(sc, kc, nu, bg, en, kp), rfl, ⟨(show i9 = cnt by omega) ▸ hsc, hLY, hKN⟩, by rw [ht]; exact hP, va_K.moved hW.alike hK, hD⟩, hS.F ht⟩) hS.2.2 d_SU_make_127
      refine lv_iconst (v := nI 0) hx hb d_SU_make_65 (by decide +kernel) ?_
      refine lv_istore (lv' := [(6, .int (nI 0)), (0, .ref o), (1, .ref k0), (2, .ref v0), (3, .ref a0), (4, .int (nI x9)), (5, .int (nI i9))]) hx hb d_SU_make_66 hl (by decide) rfl (fun ls hl => ?_)
      have hic : i9 < cnt := by omega
      have hwi := hwd i9 hic
      have hbi := hbc i9 hic
      have hti := htot i9 (by omega)
      have inn : ∀ (n_inn : Nat) (n9 : Nat) (sc : Nat) (kc : Nat) (x9 : Nat) (nu : Nat → Nat) (bg : Nat → Nat) (en : Nat → Nat) (kp : Nat → Nat), (bc i9 + 1 ≤ n9 + n_inn) → (n9 ≤ bc i9) → (sc = sumN bc i9 + n9) → (x9 = sumN (fun j => wd (nu j) + cf) sc) → (x9 ≤ sc * 20100) → (LYI bc wd cf sc nu bg en) → (KN bg en sc kc kp) → ∀ (H : Heap) (locs : List Loc) (ls : Array Slot), va_P (dC, dI) vwCl [(o, .inr (4, [.ref on, .ref ob, .ref oe, .int (nI sc), .int (nI cr), .ref ok, .int (nI kc), .int (nI cw), .int (nI ck), .int (nI cr), .int (nI bf)])), (on, .inl (cI, 30, .inl (aN nu))), (ob, .inl (cI, 30, .inl (aN bg))), (oe, .inl (cI, 30, .inl (aN en))), (ok, .inl (cI, 60, .inl (aN kp))), (k0, .inr (0, [.int (nI cw), .int (nI ck), .int (nI cr), .int (nI cf), .int (nI cn)])), (v0, .inr (5, [.ref vw, .ref vs, .int (nI cnt)])), (vw, .inl (cI, 5, .inl (aN wd))), (a0, .inr (2, [.ref ab, .int (nI bn), .int (nI bf), .int (nI kn), .ref ap, .ref aq, .ref ac, .int (zI room), .int (nI most), .int (nI bs)])), (ab, .inl (cI, 5, .inl (aN bc)))] H → va_D A [(o, .inr (4, [.ref on, .ref ob, .ref oe, .int (nI sc), .int (nI cr), .ref ok, .int (nI kc), .int (nI cw), .int (nI ck), .int (nI cr), .int (nI bf)])), (on, .inl (cI, 30, .inl (aN nu))), (ob, .inl (cI, 30, .inl (aN bg))), (oe, .inl (cI, 30, .inl (aN en))), (ok, .inl (cI, 60, .inl (aN kp))), (k0, .inr (0, [.int (nI cw), .int (nI ck), .int (nI cr), .int (nI cf), .int (nI cn)])), (v0, .inr (5, [.ref vw, .ref vs, .int (nI cnt)])), (vw, .inl (cI, 5, .inl (aN wd))), (a0, .inr (2, [.ref ab, .int (nI bn), .int (nI bf), .int (nI kn), .ref ap, .ref aq, .ref ac, .int (zI room), .int (nI most), .int (nI bs)])), (ab, .inl (cI, 5, .inl (aN bc)))] → va_S A s.heap H locs → lv_has ls 7 [(0, .ref o), (1, .ref k0), (2, .ref v0), (3, .ref a0), (4, .int (nI x9)), (5, .int (nI i9)), (6, .int (nI n9))] → W p l e (headSpec w_SU_make { frames := 2, cells := 0, slots := 0, locals := 45 }).room s m [.ref o, .ref k0, .ref v0, .ref a0].toArray below meth c H locs 0 0 (MQ below (va_Qv (fun (u : Nat × Nat × (Nat → Nat) × (Nat → Nat) × (Nat → Nat) × (Nat → Nat)) => u.1 = sumN bc cnt ∧ LYI bc wd cf u.1 u.2.2.1 u.2.2.2.1 u.2.2.2.2.1 ∧ KN u.2.2.2.1 u.2.2.2.2.1 u.1 u.2.1 u.2.2.2.2.2) (rw_B (dC, dI) vwCl [(cI, .int)] A (fun u : Nat × Nat × (Nat → Nat) × (Nat → Nat) × (Nat → Nat) × (Nat → Nat) => [(o, .inr (4, [.ref on, .ref ob, .ref oe, .int (nI u.1), .int (nI cr), .ref ok, .int (nI u.2.1), .int (nI cw), .int (nI ck), .int (nI cr), .int (nI bf)])), (on, .inl (cI, 30, .inl (aN u.2.2.1))), (ob, .inl (cI, 30, .inl (aN u.2.2.2.1))), (oe, .inl (cI, 30, .inl (aN u.2.2.2.2.1))), (ok, .inl (cI, 60, .inl (aN u.2.2.2.2.2))), (k0, .inr (0, [.int (nI cw), .int (nI ck), .int (nI cr), .int (nI cf), .int (nI cn)])), (v0, .inr (5, [.ref vw, .ref vs, .int (nI cnt)])), (vw, .inl (cI, 5, .inl (aN wd))), (a0, .inr (2, [.ref ab, .int (nI bn), .int (nI bf), .int (nI kn), .ref ap, .ref aq, .ref ac, .int (zI room), .int (nI most), .int (nI bs)])), (ab, .inl (cI, 5, .inl (aN bc)))])) A) [.ref o, .ref k0, .ref v0, .ref a0].toArray s 0 0 A) (F0 m 68 ls []) := by
        intro n_inn
        induction n_inn with
        | zero =>
          intro n9 sc kc x9 nu bg en kp hm2 hn9 hsc hxx hx2 hLY hKN
          exact absurd hm2 (by omega)
        | succ n_inn ih_inn =>
          intro n9 sc kc x9 nu bg en kp hm2 hn9 hsc hxx hx2 hLY hKN H locs ls hP hD hS hl
          refine lv_iload hx hb d_SU_make_68 (lv_at hl 6 rfl) ?_
          refine lv_aload_n hx hb d_SU_make_70 rfl (lv_at hl 3 rfl) ?_
          refine va_get (D := (dC, dI)) (ci := 2) (v := .ref ab) (C := R_PS) (T := F_PS) (N := 10) hx hb hts in_PS hown hK hP 8 rfl rfl 0 (by decide) (hts _ m_93) (fun _ h9 => h9) rfl d_SU_make_71 ?_
          refine lv_iload hx hb d_SU_make_74 (lv_at hl 5 rfl) ?_
          refine ix_ialdN (i := i9) hx hb hK hP 9 0 rfl rfl (by omega) (by decide) d_SU_make_76 ?_
          refine ix_icmp_ge (tgt := 121) hx hb (nI_tI (n := n9) (by omega)) (nI_tI (n := bc i9) (by omega)) d_SU_make_77 (by decide) (fun c_77 => ?_) (fun c_77 => ?_)
          · refine lv_iinc (v := nI (i9 + 1)) (lv' := [(5, .int (nI (i9 + 1))), (0, .ref o), (1, .ref k0), (2, .ref v0), (3, .ref a0), (4, .int (nI x9)), (6, .int (nI n9))]) hx hb d_SU_make_121 hl (k := 5) rfl (n_incN i9 1) (by decide) rfl (fun ls hl => ?_)
            refine lv_goto (tgt := 56) hx hb d_SU_make_124 (by decide) ?_
            exact ih_out (i9 + 1) sc kc x9 nu bg en kp (by omega) (by omega) (by rw [hsc, show n9 = bc i9 by omega]; rfl) hxx hx2 hLY hKN _ _ _ hP hD hS (lv_sub hl [1, 2, 3, 4, 5, 0] rfl)
          have hkc : kc ≤ 2 * sc := by rw [hKN.1]; exact (kq_ge bg en sc).2
          have hpu := hLY.push (w := i9) (x := x9) (by omega) (by show sc < sumN bc i9 + bc i9; omega) hxx
          refine lv_aload_n hx hb d_SU_make_80 rfl (lv_at hl 0 rfl) ?_
          refine lv_iload hx hb d_SU_make_81 (lv_at hl 5 rfl) ?_
          refine lv_iload hx hb d_SU_make_83 (lv_at hl 4 rfl) ?_
          refine lv_iload hx hb d_SU_make_85 (lv_at hl 4 rfl) ?_
          refine lv_aload_n hx hb d_SU_make_87 rfl (lv_at hl 2 rfl) ?_
          refine va_get (D := (dC, dI)) (ci := 5) (v := .ref vw) (C := R_WI) (T := F_WI) (N := 3) hx hb hts in_WI hown hK hP 6 rfl rfl 0 (by decide) (hts _ m_68) (fun _ h9 => h9) rfl d_SU_make_88 ?_
          refine lv_iload hx hb d_SU_make_91 (lv_at hl 5 rfl) ?_
          refine ix_ialdN (i := i9) hx hb hK hP 7 0 rfl rfl (by omega) (by decide) d_SU_make_93 ?_
          refine lv_iadd hx hb d_SU_make_94 ?_
          refine lv_topr (show _ = nI (x9 + (wd i9)) from nn_add _ _) ?_
          have hPc := hP.sub (ws' := [(o, .inr (4, [.ref on, .ref ob, .ref oe, .int (nI sc), .int (nI cr), .ref ok, .int (nI kc), .int (nI cw), .int (nI ck), .int (nI cr), .int (nI bf)])), (on, .inl (cI, 30, .inl (aN nu))), (ob, .inl (cI, 30, .inl (aN bg))), (oe, .inl (cI, 30, .inl (aN en))), (ok, .inl (cI, 60, .inl (aN kp)))]) [0, 1, 2, 3, 4] rfl
          have hDc := hD.sub (ws' := [(o, .inr (4, [.ref on, .ref ob, .ref oe, .int (nI sc), .int (nI cr), .ref ok, .int (nI kc), .int (nI cw), .int (nI ck), .int (nI cr), .int (nI bf)])), (on, .inl (cI, 30, .inl (aN nu))), (ob, .inl (cI, 30, .inl (aN bg))), (oe, .inl (cI, 30, .inl (aN en))), (ok, .inl (cI, 60, .inl (aN kp)))]) [0, 1, 2, 3, 4] (by decide) rfl
          have hFc := va_free (wc := [(o, .inr (4, [.ref on, .ref ob, .ref oe, .int (nI sc), .int (nI cr), .ref ok, .int (nI kc), .int (nI cw), .int (nI ck), .int (nI cr), .int (nI bf)])), (on, .inl (cI, 30, .inl (aN nu))), (ob, .inl (cI, 30, .inl (aN bg))), (oe, .inl (cI, 30, .inl (aN en))), (ok, .inl (cI, 60, .inl (aN kp)))]) hD hS hA [0, 1, 2, 3, 4] rfl
          refine va_callv (va_runV (As := [.int (nI i9), .int (nI x9), .int (nI (x9 + (wd i9)))]) (rest := []) ⟨hx, hb, hml, hown, hts⟩ (c_SU_lay l dC dI H.size o on ob oe ok cI nu bg en kp sc cr kc cw ck cr bf i9 x9 (x9 + wd i9) (by omega) (by omega) (by omega) (fun h0 => by have := hKN.last h0; have := hLY.last this.1; omega) (by omega)) (cwV 3 hts (gw_V m_480 m_482 s_11 m_7 m_483) rfl rfl rfl (by decide +kernel) ⟨Nat.le_of_ble_eq_true rfl, Nat.le_of_ble_eq_true rfl⟩) ⟨rw_blind, va_recv hK hPc (ci := 4) (q0 := 0) rfl rfl, fun U hU hW => ⟨rfl, by rw [hU], by rw [hU]; exact hPc, va_K.moved hW.alike hK, hDc.weaken (fun _ _ _ _ => trivial)⟩⟩ rfl rfl hl.1 rfl (lv_room (Nat.le_of_ble_eq_true rfl)) d_SU_make_95 ⟨Nat.le_of_ble_eq_true rfl, Nat.le_of_ble_eq_true rfl⟩) hS (fun q _ h => hFc q h) hFc (fun u t H1 locs ht hvm hw hB hz1 hk1 hS => ?_)
          obtain ⟨kc1, kp1⟩ := u
          obtain ⟨hP1, hK1, hD1⟩ := hB
          rw [ht] at hP1
          try dsimp only at hw
          obtain ⟨hP, hD⟩ := va_join (wr := [(k0, .inr (0, [.int (nI cw), .int (nI ck), .int (nI cr), .int (nI cf), .int (nI cn)])), (v0, .inr (5, [.ref vw, .ref vs, .int (nI cnt)])), (vw, .inl (cI, 5, .inl (aN wd))), (a0, .inr (2, [.ref ab, .int (nI bn), .int (nI bf), .int (nI kn), .ref ap, .ref aq, .ref ac, .int (zI room), .int (nI most), .int (nI bs)])), (ab, .inl (cI, 5, .inl (aN bc)))]) (w1 := [(o, .inr (4, [.ref on, .ref ob, .ref oe, .int (nI (sc + 1)), .int (nI cr), .ref ok, .int (nI kc1), .int (nI cw), .int (nI ck), .int (nI cr), .int (nI bf)])), (on, .inl (cI, 30, .inl (aN (up nu sc i9)))), (ob, .inl (cI, 30, .inl (aN (up bg sc x9)))), (oe, .inl (cI, 30, .inl (aN (up en sc (x9 + wd i9))))), (ok, .inl (cI, 60, .inl (aN kp1)))]) hP hD [0, 1, 2, 3, 4] [5, 6, 7, 8, 9] rfl rfl (by decide) (by decide) hk1 hFc hP1 hD1
          generalize H1 = H at hP hS ⊢
          have hP : va_P (dC, dI) vwCl [(o, .inr (4, [.ref on, .ref ob, .ref oe, .int (nI (sc + 1)), .int (nI cr), .ref ok, .int (nI kc1), .int (nI cw), .int (nI ck), .int (nI cr), .int (nI bf)])), (on, .inl (cI, 30, .inl (aN (up nu sc i9)))), (ob, .inl (cI, 30, .inl (aN (up bg sc x9)))), (oe, .inl (cI, 30, .inl (aN (up en sc (x9 + wd i9))))), (ok, .inl (cI, 60, .inl (aN kp1))), (k0, .inr (0, [.int (nI cw), .int (nI ck), .int (nI cr), .int (nI cf), .int (nI cn)])), (v0, .inr (5, [.ref vw, .ref vs, .int (nI cnt)])), (vw, .inl (cI, 5, .inl (aN wd))), (a0, .inr (2, [.ref ab, .int (nI bn), .int (nI bf), .int (nI kn), .ref ap, .ref aq, .ref ac, .int (zI room), .int (nI most), .int (nI bs)])), (ab, .inl (cI, 5, .inl (aN bc)))] H := hP.sub [5, 6, 7, 8, 9, 0, 1, 2, 3, 4] rfl
          have hD : va_D A [(o, .inr (4, [.ref on, .ref ob, .ref oe, .int (nI (sc + 1)), .int (nI cr), .ref ok, .int (nI kc1), .int (nI cw), .int (nI ck), .int (nI cr), .int (nI bf)])), (on, .inl (cI, 30, .inl (aN (up nu sc i9)))), (ob, .inl (cI, 30, .inl (aN (up bg sc x9)))), (oe, .inl (cI, 30, .inl (aN (up en sc (x9 + wd i9))))), (ok, .inl (cI, 60, .inl (aN kp1))), (k0, .inr (0, [.int (nI cw), .int (nI ck), .int (nI cr), .int (nI cf), .int (nI cn)])), (v0, .inr (5, [.ref vw, .ref vs, .int (nI cnt)])), (vw, .inl (cI, 5, .inl (aN wd))), (a0, .inr (2, [.ref ab, .int (nI bn), .int (nI bf), .int (nI kn), .ref ap, .ref aq, .ref ac, .int (zI room), .int (nI most), .int (nI bs)])), (ab, .inl (cI, 5, .inl (aN bc)))] := hD.sub [5, 6, 7, 8, 9, 0, 1, 2, 3, 4] (by decide) rfl
          refine lv_iload hx hb d_SU_make_98 (lv_at hl 4 rfl) ?_
          refine lv_aload_n hx hb d_SU_make_100 rfl (lv_at hl 2 rfl) ?_
          refine va_get (D := (dC, dI)) (ci := 5) (v := .ref vw) (C := R_WI) (T := F_WI) (N := 3) hx hb hts in_WI hown hK hP 6 rfl rfl 0 (by decide) (hts _ m_68) (fun _ h9 => h9) rfl d_SU_make_101 ?_
          refine lv_iload hx hb d_SU_make_104 (lv_at hl 5 rfl) ?_
          refine ix_ialdN (i := i9) hx hb hK hP 7 0 rfl rfl (by omega) (by decide) d_SU_make_106 ?_
          refine lv_aload_n hx hb d_SU_make_107 rfl (lv_at hl 1 rfl) ?_
          refine va_get (D := (dC, dI)) (ci := 0) (v := .int (nI cf)) (C := R_CO) (T := F_CO) (N := 5) hx hb hts in_CO hown hK hP 5 rfl rfl 3 (by decide) (hts _ m_46) (fun _ h9 => h9) rfl d_SU_make_108 ?_
          refine lv_iadd hx hb d_SU_make_111 ?_
          refine lv_topr (show _ = nI ((wd i9) + cf) from nn_add _ _) ?_
          refine lv_iadd hx hb d_SU_make_112 ?_
          refine lv_topr (show _ = nI (x9 + ((wd i9) + cf)) from nn_add _ _) ?_
          refine lv_istore (lv' := [(4, .int (nI (x9 + ((wd i9) + cf)))), (0, .ref o), (1, .ref k0), (2, .ref v0), (3, .ref a0), (5, .int (nI i9)), (6, .int (nI n9))]) hx hb d_SU_make_113 hl (by decide) rfl (fun ls hl => ?_)
          refine lv_iinc (v := nI (n9 + 1)) (lv' := [(6, .int (nI (n9 + 1))), (4, .int (nI (x9 + ((wd i9) + cf)))), (0, .ref o), (1, .ref k0), (2, .ref v0), (3, .ref a0), (5, .int (nI i9))]) hx hb d_SU_make_115 hl (k := 6) rfl (n_incN n9 1) (by decide) rfl (fun ls hl => ?_)
          refine lv_goto (tgt := 68) hx hb d_SU_make_118 (by decide) ?_
          exact ih_inn (n9 + 1) (sc + 1) kc1 (x9 + ((wd i9) + cf)) (up nu sc i9) (up bg sc x9) (up en sc (x9 + wd i9)) kp1 (by omega) (by omega) (by omega) hpu.2 (by rw [Nat.succ_mul]; omega) hpu.1 (by have := hKN.push (b2 := x9) (e2 := x9 + wd i9) (by omega); rw [← hw] at this; exact this) _ _ _ hP hD hS (lv_sub hl [2, 3, 4, 5, 1, 6, 0] rfl)
      exact inn (bc i9 + 1) 0 sc kc x9 nu bg en kp (by omega) (by omega) (by omega) hxx hx2 hLY hKN _ _ _ hP hD hS (lv_sub hl [1, 2, 3, 4, 5, 6, 0] rfl)
  exact out (cnt + 1) 0 0 0 0 nu bg en kp (by omega) (by omega) rfl rfl (by omega) (fun _ h => absurd h (Nat.not_lt_zero _)) ⟨rfl, fun _ h => absurd h (Nat.not_lt_zero _)⟩ _ _ _ hP hD hS (lv_sub hl [2, 3, 4, 5, 1, 0] rfl)
set_option maxHeartbeats 4000000 in
set_option maxRecDepth 100000 in
/-- deliver(counts): so many fewer are wanted -/
theorem c_WI_deliver (l : Launch) (dC : Nat → ClassId) (dI : Nat → Nat → Nat) (sz : Nat) (v0 vw vs : Nat) (ab : Nat) (cI : ClassId) (st bc : Nat → Nat) (cnt : Nat) (hc5 : cnt ≤ 5) (hbc : ∀ i, i < cnt → bc i ≤ st i) : Met l y_WI_deliver w_WI_deliver { frames := 0, cells := 0, slots := 0, locals := 0 } (rw_Pc (dC, dI) vwCl [(cI, .int)] sz [.ref v0, .ref ab] [(v0, .inr (5, [.ref vw, .ref vs, .int (nI cnt)])), (vs, .inl (cI, 5, .inl (aN st))), (ab, .inl (cI, 5, .inl (aN bc)))]) (va_Qv (fun (u : (Nat → Nat)) => (∀ j, j < cnt → u j = st j - bc j) ∧ ∀ j, cnt ≤ j → u j = st j) (rw_B (dC, dI) vwCl [(cI, .int)] (va_A [(v0, .inr (5, [.ref vw, .ref vs, .int (nI cnt)])), (vs, .inl (cI, 5, .inl (aN st))), (ab, .inl (cI, 5, .inl (aN bc)))] sz) (fun u : (Nat → Nat) => [(v0, .inr (5, [.ref vw, .ref vs, .int (nI cnt)])), (vs, .inl (cI, 5, .inl (aN u))), (ab, .inl (cI, 5, .inl (aN bc)))])) (va_A [(v0, .inr (5, [.ref vw, .ref vs, .int (nI cnt)])), (vs, .inl (cI, 5, .inl (aN st))), (ab, .inl (cI, 5, .inl (aN bc)))] sz)) 0 0 (va_A [(v0, .inr (5, [.ref vw, .ref vs, .int (nI cnt)])), (vs, .inl (cI, 5, .inl (aN st))), (ab, .inl (cI, 5, .inl (aN bc)))] sz) := by
  refine Met.ofW (cc := b_WI_deliver) (maxL := 3) (ret := none) (by decide) rfl ?_
  intro p e s m args below meth c s₁ B hml hv
  obtain ⟨rfl, hsz, hP, hK, hD0⟩ := hv
  have hx := B.exec
  have hb := B.bytes
  have hr := B.returns
  have hts := gw_h (atoms_spec (ws := w_WI_deliver) B.pre)
  have hown : s.vm.findClass R_WI = some m.cls := findClass_of_methodNamed B.named
  have hlocks := B.notSynchronized
  subst hsz
  have hD := hD0.self (sz := s.heap.size)
  generalize hAe : va_A [(v0, .inr (5, [.ref vw, .ref vs, .int (nI cnt)])), (vs, .inl (cI, 5, .inl (aN st))), (ab, .inl (cI, 5, .inl (aN bc)))] s.heap.size = A at hD ⊢
  have hA : ∀ q : Nat, s.heap.size ≤ q → A q := fun q h => by rw [← hAe]; exact Or.inr h
  have hS : va_S A s.heap s.heap [] := va_S.rf
  have hP : va_P (dC, dI) vwCl [(v0, .inr (5, [.ref vw, .ref vs, .int (nI cnt)])), (vs, .inl (cI, 5, .inl (aN st))), (ab, .inl (cI, 5, .inl (aN bc)))] s.heap := hP
  have hl := lv_entry ([.ref v0, .ref ab]) (n := 3) (Nat.le_of_ble_eq_true rfl)
  rw [lg_entry_eq]
  generalize (lg_sl ([.ref v0, .ref ab]) ++ List.replicate (3 - (lg_sl ([.ref v0, .ref ab])).length) Slot.unset).toArray = ls at hl ⊢
  have hl : lv_has ls 3 [(0, .ref v0), (1, .ref ab)] := hl
  refine lv_iconst (v := nI 0) hx hb d_WI_deliver_0 (by decide +kernel) ?_
  refine lv_istore_n (lv' := [(2, .int (nI 0)), (0, .ref v0), (1, .ref ab)]) hx hb d_WI_deliver_1 rfl hl (by decide) rfl (fun ls hl => ?_)
  have out : ∀ (n_out : Nat) (i9 : Nat) (sT : Nat → Nat), (cnt + 1 ≤ i9 + n_out) → (i9 ≤ cnt) → (∀ j, j < i9 → sT j = st j - bc j) → (∀ j, i9 ≤ j → sT j = st j) → ∀ (H : Heap) (locs : List Loc) (ls : Array Slot), va_P (dC, dI) vwCl [(v0, .inr (5, [.ref vw, .ref vs, .int (nI cnt)])), (vs, .inl (cI, 5, .inl (aN sT))), (ab, .inl (cI, 5, .inl (aN bc)))] H → va_D A [(v0, .inr (5, [.ref vw, .ref vs, .int (nI cnt)])), (vs, .inl (cI, 5, .inl (aN sT))), (ab, .inl (cI, 5, .inl (aN bc)))] → va_S A s.heap H locs → lv_has ls 3 [(0, .ref v0), (1, .ref ab), (2, .int (nI i9))] → W p l e (headSpec w_WI_deliver { frames := 0, cells := 0, slots := 0, locals := 0 }).room s m [.ref v0, .ref ab].toArray below meth c H locs 0 0 (MQ below (va_Qv (fun (u : (Nat → Nat)) => (∀ j, j < cnt → u j = st j - bc j) ∧ ∀ j, cnt ≤ j → u j = st j) (rw_B (dC, dI) vwCl [(cI, .int)] A (fun u : (Nat → Nat) => [(v0, .inr (5, [.ref vw, .ref vs, .int (nI cnt)])), (vs, .inl (cI, 5, .inl (aN u))), (ab, .inl (cI, 5, .inl (aN bc)))])) A) [.ref v0, .ref ab].toArray s 0 0 A) (F0 m 2 ls []) := by
    intro n_out
    induction n_out with
    | zero =>
      intro i9 sT hm hi9 hI1 hI2
      exact absurd hm (by omega)
    | succ n_out ih_out =>
      intro i9 sT hm hi9 hI1 hI2 H locs ls hP hD hS hl
      refine lv_iload_n hx hb d_WI_deliver_2 rfl (lv_at hl 2 rfl) ?_
      refine lv_aload_n hx hb d_WI_deliver_3 rfl (lv_at hl 0 rfl) ?_
      refine va_get (D := (dC, dI)) (ci := 5) (v := .int (nI cnt)) (C := R_WI) (T := F_WI) (N := 3) hx hb hts in_WI hown hK hP 0 rfl rfl 2 (by decide) (hts _ m_74) (fun _ h9 => h9) rfl d_WI_deliver_4 ?_
      refine ix_icmp_ge (tgt := 28) hx hb (nI_tI (n := i9) (by omega)) (nI_tI (n := cnt) (by omega)) d_WI_deliver_7 (by decide) (fun c_7 => ?_) (fun c_7 => ?_)
      · exact W.vret hx hb hr (fun t ht hW => ⟨⟨sT, rfl, ⟨fun j hj => hI1 j (by omega), fun j hj => hI2 j (by omega)⟩, by rw [ht]; exact hP, va_K.moved hW.alike hK, hD⟩, hS.F ht⟩) hS.2.2 d_WI_deliver_28
      refine lv_aload_n hx hb d_WI_deliver_10 rfl (lv_at hl 0 rfl) ?_
      refine va_get (D := (dC, dI)) (ci := 5) (v := .ref vs) (C := R_WI) (T := F_WI) (N := 3) hx hb hts in_WI hown hK hP 0 rfl rfl 1 (by decide) (hts _ m_71) (fun _ h9 => h9) rfl d_WI_deliver_11 ?_
      refine lv_iload_n hx hb d_WI_deliver_14 rfl (lv_at hl 2 rfl) ?_
      refine lv_dup2_11 hx hb d_WI_deliver_15 rfl rfl ?_
      refine ix_ialdN (i := i9) hx hb hK hP 1 0 rfl rfl (by omega) (by decide) d_WI_deliver_16 ?_
      refine lv_aload_n hx hb d_WI_deliver_17 rfl (lv_at hl 1 rfl) ?_
      refine lv_iload_n hx hb d_WI_deliver_18 rfl (lv_at hl 2 rfl) ?_
      refine ix_ialdN (i := i9) hx hb hK hP 2 0 rfl rfl (by omega) (by decide) d_WI_deliver_19 ?_
      refine lv_isub hx hb d_WI_deliver_20 ?_
      refine lv_topr (show _ = nI ((sT i9) - (bc i9)) from nn_subN (by rw [hI2 i9 (by omega)]; exact hbc i9 (by omega))) ?_
      refine ix_iast (i := i9) hx hb hK hP hD hS 1 0 rfl rfl (by omega) (by decide) d_WI_deliver_21 (fun H locs hP hD hS => ?_)
      have hP : va_P (dC, dI) vwCl [(v0, .inr (5, [.ref vw, .ref vs, .int (nI cnt)])), (vs, .inl (cI, 5, .inl (aN (up sT i9 ((sT i9) - (bc i9)))))), (ab, .inl (cI, 5, .inl (aN bc)))] H := hP
      have hD : va_D A [(v0, .inr (5, [.ref vw, .ref vs, .int (nI cnt)])), (vs, .inl (cI, 5, .inl (aN (up sT i9 ((sT i9) - (bc i9)))))), (ab, .inl (cI, 5, .inl (aN bc)))] := hD
      refine lv_iinc (v := nI (i9 + 1)) (lv' := [(2, .int (nI (i9 + 1))), (0, .ref v0), (1, .ref ab)]) hx hb d_WI_deliver_22 hl (k := 2) rfl (n_incN i9 1) (by decide) rfl (fun ls hl => ?_)
      refine lv_goto (tgt := 2) hx hb d_WI_deliver_25 (by decide) ?_
      exact ih_out (i9 + 1) (up sT i9 (sT i9 - bc i9)) (by omega) (by omega) (lt_s (fun j hj => by rw [up_n _ _ (by omega)]; exact hI1 j hj) (by rw [up_s, hI2 i9 (Nat.le_refl _)])) (fun j hj => by rw [up_n _ _ (by omega)]; exact hI2 j (by omega)) _ _ _ hP hD hS (lv_sub hl [1, 2, 0] rfl)
  exact out (cnt + 1) 0 st (by omega) (by omega) (fun _ h => absurd h (Nat.not_lt_zero _)) (fun _ _ => rfl) _ _ _ hP hD hS (lv_sub hl [1, 2, 0] rfl)
