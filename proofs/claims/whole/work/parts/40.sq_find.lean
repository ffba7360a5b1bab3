/-- the order is known: by tables over the moves -/
def GoodO (F : Nat → Nat → Nat) (n tt : Nat) (nm : Nat → Nat) : Prop := ∃ sp fw : Nat → Nat, (∀ a, a < n → ∀ b, b < n → sp (a * 9 + b) = F a b) ∧ MI sp fw n (2 ^ n) 0 ∧ GR sp fw n nm n ∧ (∀ j, j < n → nm j < n) ∧ tt = tot sp nm n
theorem thr_bd {sp fw : Nat → Nat} {F : Nat → Nat → Nat} {n : Nat} (hn : n ≤ 9) (h1 : ∀ a, a < n → ∀ b, b < n → sp (a * 9 + b) = F a b) (hF : ∀ a, a < n → ∀ b, b < n → F a b ≤ 60) (h2 : MI sp fw n (2 ^ n) 0) (S : Nat) (la : Int) (hS : S < 2 ^ n) (hla : la = -1 ∨ (0 ≤ la ∧ la < n)) (x : Nat) (hx : x < n) (hb : bit S x = 1) : thr sp fw S la x < 2147483648 := by
  have h512 : 2 ^ n ≤ 512 := (Nat.pow_le_pow_right (by decide) hn : 2 ^ n ≤ 2 ^ 9)
  have c1 := clr_lt S (by omega) x (by omega) hb
  have c2 := bit_clr S (by omega) x (by omega) x (by omega) hb
  rw [if_pos rfl] at c2
  have c3 := (h2 (clr S x) x hx c2 (Or.inl (by omega))).2
  unfold thr stp
  split
  · omega
  · have := h1 la.toNat (by omega) x hx
    have := hF la.toNat (by omega) x hx
    omega
set_option maxHeartbeats 4000000 in
set_option maxRecDepth 100000 in
/-- find(setUps, count): the order is known -/
theorem c_SQ_find (l : Launch) (dC : Nat → ClassId) (dI : Nat → Nat → Nat) (sz : Nat) (q qn qs qf : Nat) (cI : ClassId) (cS : ClassId) (qa : Nat) (nm sp fw : Nat → Nat) (su : Nat → Option Nat) (ad : Nat → Nat → Nat) (sa : Nat → Nat → Nat → Nat) (sv : Nat → Nat → Nat) (tt kn n : Nat) (hn : n ≤ 9) (hsu : ∀ i, i < 9 → su i = some (ad i 0)) (hko : ∀ i, i < n → KOK sa sv i) (hk : kn = 0 ∨ (kn = 1 ∧ GoodO (MVc sa sv) n tt nm)) : Met l y_SQ_find w_SQ_find { frames := 4, cells := 0, slots := 0, locals := 97 } (rw_Pc (dC, dI) vwCl [(cI, .int), (cS, .object "SlitWidths$SetUp")] sz [.ref q, .ref qa, .int (nI n)] ([(q, .inr (3, [.ref qn, .int (nI tt), .int (nI kn), .ref qs, .ref qf])), (qn, .inl (cI, 9, .inl (aN nm))), (qs, .inl (cI, 81, .inl (aN sp))), (qf, .inl (cI, 4608, .inl (aN fw))), (qa, .inl (cS, 9, .inr (.inr (.inr (.inr su)))))] ++ suT cI ad sa sv 9)) (va_Qv (fun (u : Nat × Nat × (Nat → Nat) × (Nat → Nat) × (Nat → Nat)) => u.2.1 = 1 ∧ GoodO (MVc sa sv) n u.1 u.2.2.1) (rw_B (dC, dI) vwCl [(cI, .int), (cS, .object "SlitWidths$SetUp")] (va_A ([(q, .inr (3, [.ref qn, .int (nI tt), .int (nI kn), .ref qs, .ref qf])), (qn, .inl (cI, 9, .inl (aN nm))), (qs, .inl (cI, 81, .inl (aN sp))), (qf, .inl (cI, 4608, .inl (aN fw))), (qa, .inl (cS, 9, .inr (.inr (.inr (.inr su)))))] ++ suT cI ad sa sv 9) sz) (fun u : Nat × Nat × (Nat → Nat) × (Nat → Nat) × (Nat → Nat) => ([(q, .inr (3, [.ref qn, .int (nI u.1), .int (nI u.2.1), .ref qs, .ref qf])), (qn, .inl (cI, 9, .inl (aN u.2.2.1))), (qs, .inl (cI, 81, .inl (aN u.2.2.2.1))), (qf, .inl (cI, 4608, .inl (aN u.2.2.2.2))), (qa, .inl (cS, 9, .inr (.inr (.inr (.inr su)))))] ++ suT cI ad sa sv 9))) (va_A ([(q, .inr (3, [.ref qn, .int (nI tt), .int (nI kn), .ref qs, .ref qf])), (qn, .inl (cI, 9, .inl (aN nm))), (qs, .inl (cI, 81, .inl (aN sp))), (qf, .inl (cI, 4608, .inl (aN fw))), (qa, .inl (cS, 9, .inr (.inr (.inr (.inr su)))))] ++ suT cI ad sa sv 9) sz)) 0 0 (va_A ([(q, .inr (3, [.ref qn, .int (nI tt), .int (nI kn), .ref qs, .ref qf])), (qn, .inl (cI, 9, .inl (aN nm))), (qs, .inl (cI, 81, .inl (aN sp))), (qf, .inl (cI, 4608, .inl (aN fw))), (qa, .inl (cS, 9, .inr (.inr (.inr (.inr su)))))] ++ suT cI ad sa sv 9) sz) := by
  refine Met.ofW (cc := b_SQ_find) (maxL := 3) (ret := none) (by decide) rfl ?_
  intro p e s m args below meth c s₁ B hml hv
  obtain ⟨rfl, hsz, hP, hK, hD0⟩ := hv
  have hx := B.exec
  have hb := B.bytes
  have hr := B.returns
  have hts := gw_h (atoms_spec (ws := w_SQ_find) B.pre)
  have hown : s.vm.findClass R_SQ = some m.cls := findClass_of_methodNamed B.named
  have hlocks := B.notSynchronized
  subst hsz
  have hD := hD0.self (sz := s.heap.size)
  generalize hAe : va_A ([(q, .inr (3, [.ref qn, .int (nI tt), .int (nI kn), .ref qs, .ref qf])), (qn, .inl (cI, 9, .inl (aN nm))), (qs, .inl (cI, 81, .inl (aN sp))), (qf, .inl (cI, 4608, .inl (aN fw))), (qa, .inl (cS, 9, .inr (.inr (.inr (.inr su)))))] ++ suT cI ad sa sv 9) s.heap.size = A at hD ⊢
  have hA : ∀ q : Nat, s.heap.size ≤ q → A q := fun q h => by rw [← hAe]; exact Or.inr h
  have hS : va_S A s.heap s.heap [] := va_S.rf
  have hP : va_P (dC, dI) vwCl ([(q, .inr (3, [.ref qn, .int (nI tt), .int (nI kn), .ref qs, .ref qf])), (qn, .inl (cI, 9, .inl (aN nm))), (qs, .inl (cI, 81, .inl (aN sp))), (qf, .inl (cI, 4608, .inl (aN fw))), (qa, .inl (cS, 9, .inr (.inr (.inr (.inr su)))))] ++ suT cI ad sa sv 9) s.heap := hP
  have hl := lv_entry ([.ref q, .ref qa, .int (nI n)]) (n := 3) (Nat.le_of_ble_eq_true rfl)
  rw [lg_entry_eq]
  generalize (lg_sl ([.ref q, .ref qa, .int (nI n)]) ++ List.replicate (3 - (lg_sl ([.ref q, .ref qa, .int (nI n)])).length) Slot.unset).toArray = ls at hl ⊢
  have hl : lv_has ls 3 [(0, .ref q), (1, .ref qa), (2, .int (nI n))] := hl
  have hF : ∀ a, a < n → ∀ b, b < n → MVc sa sv a b ≤ 60 := fun a _ b hb => Nat.le_trans (cntNot_le _ _ _ _) (hko b hb).1
  refine lv_aload_n hx hb d_SQ_find_0 rfl (lv_at hl 0 rfl) ?_
  refine va_get (D := (dC, dI)) (ci := 3) (v := .int (nI kn)) (C := R_SQ) (T := F_SQ) (N := 5) hx hb hts in_SQ hown hK hP 0 rfl rfl 2 (by decide) (hts _ m_161) (fun _ h9 => h9) rfl d_SQ_find_1 ?_
  refine ix_if_eq (tgt := 8) hx hb (nI_tI (n := kn) (by omega)) d_SQ_find_4 (by decide) (fun c_4 => ?_) (fun c_4 => ?_)
  · refine lv_aload_n hx hb d_SQ_find_8 rfl (lv_at hl 0 rfl) ?_
    refine lv_aload_n hx hb d_SQ_find_9 rfl (lv_at hl 1 rfl) ?_
    refine lv_iload_n hx hb d_SQ_find_10 rfl (lv_at hl 2 rfl) ?_
    have hPc := hP.part (cx := [(q, .inr (3, [.ref qn, .int (nI tt), .int (nI kn), .ref qs, .ref qf])), (qs, .inl (cI, 81, .inl (aN sp))), (qa, .inl (cS, 9, .inr (.inr (.inr (.inr su)))))]) [0, 2, 4] rfl
    have hDc := hD.part (cx := [(q, .inr (3, [.ref qn, .int (nI tt), .int (nI kn), .ref qs, .ref qf])), (qs, .inl (cI, 81, .inl (aN sp))), (qa, .inl (cS, 9, .inr (.inr (.inr (.inr su)))))]) [0, 2, 4] (by decide) rfl
    have hFc := va_freeP (cx := [(q, .inr (3, [.ref qn, .int (nI tt), .int (nI kn), .ref qs, .ref qf])), (qs, .inl (cI, 81, .inl (aN sp))), (qa, .inl (cS, 9, .inr (.inr (.inr (.inr su)))))]) hD hS hA [0, 2, 4] rfl
    refine va_callv (va_runV (As := [.ref qa, .int (nI n)]) (rest := []) ⟨hx, hb, hml, hown, hts⟩ (c_SQ_measureSteps l dC dI s.heap.size q qn qs qf cI cS qa sp su ad sa sv tt kn n hn hsu hko) (cwV 2 hts (gw_V m_278 m_280 s_3 m_6 m_281) rfl rfl rfl (by decide +kernel) ⟨Nat.le_of_ble_eq_true rfl, Nat.le_of_ble_eq_true rfl⟩) ⟨rw_blind, va_recv hK hPc (ci := 3) (q0 := 0) rfl rfl, fun U hU hW => ⟨rfl, by rw [hU], by rw [hU]; exact hPc, va_K.moved hW.alike hK, hDc.weaken (fun _ _ _ _ => trivial)⟩⟩ rfl rfl hl.1 rfl (lv_room (Nat.le_of_ble_eq_true rfl)) d_SQ_find_11 ⟨Nat.le_of_ble_eq_true rfl, Nat.le_of_ble_eq_true rfl⟩) hS (fun q _ h => hFc q h) hFc (fun u t H1 locs ht hvm hw hB hz1 hk1 hS => ?_)
    obtain ⟨sp1, rfl⟩ : ∃ z, z = u := ⟨_, rfl⟩
    obtain ⟨hP1, hK1, hD1⟩ := hB
    rw [ht] at hP1
    try dsimp only at hw
    obtain ⟨hP, hD⟩ := va_joinP (wr := [(qn, .inl (cI, 9, .inl (aN nm))), (qf, .inl (cI, 4608, .inl (aN fw)))]) (rx := [(q, .inr (3, [.ref qn, .int (nI tt), .int (nI kn), .ref qs, .ref qf])), (qs, .inl (cI, 81, .inl (aN sp1))), (qa, .inl (cS, 9, .inr (.inr (.inr (.inr su)))))]) hP hD [0, 2, 4] [1, 3] rfl rfl (by decide) (by decide) hk1 hFc hP1 hD1
    generalize H1 = H at hP hS ⊢
    have hP : va_P (dC, dI) vwCl ([(q, .inr (3, [.ref qn, .int (nI tt), .int (nI kn), .ref qs, .ref qf])), (qn, .inl (cI, 9, .inl (aN nm))), (qs, .inl (cI, 81, .inl (aN sp1))), (qf, .inl (cI, 4608, .inl (aN fw))), (qa, .inl (cS, 9, .inr (.inr (.inr (.inr su)))))] ++ suT cI ad sa sv 9) H := hP.part [2, 0, 3, 1, 4] rfl
    have hD : va_D A ([(q, .inr (3, [.ref qn, .int (nI tt), .int (nI kn), .ref qs, .ref qf])), (qn, .inl (cI, 9, .inl (aN nm))), (qs, .inl (cI, 81, .inl (aN sp1))), (qf, .inl (cI, 4608, .inl (aN fw))), (qa, .inl (cS, 9, .inr (.inr (.inr (.inr su)))))] ++ suT cI ad sa sv 9) := hD.part [2, 0, 3, 1, 4] (by decide) rfl
    have hsp := hw
    have hcc : ∀ a, a < n → ∀ b, b < n → sp1 (a * 9 + b) ≤ 60 := fun a ha b hb => by rw [hsp a ha b hb]; exact hF a ha b hb
    refine lv_aload_n hx hb d_SQ_find_14 rfl (lv_at hl 0 rfl) ?_
    refine lv_iload_n hx hb d_SQ_find_15 rfl (lv_at hl 2 rfl) ?_
    have hPc := hP.sub (ws' := [(q, .inr (3, [.ref qn, .int (nI tt), .int (nI kn), .ref qs, .ref qf])), (qs, .inl (cI, 81, .inl (aN sp1))), (qf, .inl (cI, 4608, .inl (aN fw)))]) [0, 2, 3] rfl
    have hDc := hD.sub (ws' := [(q, .inr (3, [.ref qn, .int (nI tt), .int (nI kn), .ref qs, .ref qf])), (qs, .inl (cI, 81, .inl (aN sp1))), (qf, .inl (cI, 4608, .inl (aN fw)))]) [0, 2, 3] (by decide) rfl
    have hFc := va_free (wc := [(q, .inr (3, [.ref qn, .int (nI tt), .int (nI kn), .ref qs, .ref qf])), (qs, .inl (cI, 81, .inl (aN sp1))), (qf, .inl (cI, 4608, .inl (aN fw)))]) hD hS hA [0, 2, 3] rfl
    refine va_callv (va_runV (As := [.int (nI n)]) (rest := []) ⟨hx, hb, hml, hown, hts⟩ (c_SQ_measureSets l dC dI H.size q qn qs qf cI sp1 fw tt kn n hn hcc) (cwV 1 hts (gw_V m_286 m_288 s_4 m_6 m_289) rfl rfl rfl (by decide +kernel) ⟨Nat.le_of_ble_eq_true rfl, Nat.le_of_ble_eq_true rfl⟩) ⟨rw_blind, va_recv hK hPc (ci := 3) (q0 := 0) rfl rfl, fun U hU hW => ⟨rfl, by rw [hU], by rw [hU]; exact hPc, va_K.moved hW.alike (hK.sub (tys' := [(cI, .int)]) [0] rfl), hDc.weaken (fun _ _ _ _ => trivial)⟩⟩ rfl rfl hl.1 rfl (lv_room (Nat.le_of_ble_eq_true rfl)) d_SQ_find_16 ⟨Nat.le_of_ble_eq_true rfl, Nat.le_of_ble_eq_true rfl⟩) hS (fun q _ h => hFc q h) hFc (fun u t H1 locs ht hvm hw hB hz1 hk1 hS => ?_)
    obtain ⟨fw1, rfl⟩ : ∃ z, z = u := ⟨_, rfl⟩
    obtain ⟨hP1, hK1, hD1⟩ := hB
    rw [ht] at hP1
    try dsimp only at hw
    obtain ⟨hP, hD⟩ := va_joinQ (wr := [(qn, .inl (cI, 9, .inl (aN nm))), (qa, .inl (cS, 9, .inr (.inr (.inr (.inr su)))))]) (w1 := [(q, .inr (3, [.ref qn, .int (nI tt), .int (nI kn), .ref qs, .ref qf])), (qs, .inl (cI, 81, .inl (aN sp1))), (qf, .inl (cI, 4608, .inl (aN fw1)))]) hP hD [0, 2, 3] [1, 4] rfl rfl (by decide) (by decide) hk1 hFc hP1 hD1
    generalize H1 = H at hP hS ⊢
    have hP : va_P (dC, dI) vwCl ([(q, .inr (3, [.ref qn, .int (nI tt), .int (nI kn), .ref qs, .ref qf])), (qn, .inl (cI, 9, .inl (aN nm))), (qs, .inl (cI, 81, .inl (aN sp1))), (qf, .inl (cI, 4608, .inl (aN fw1))), (qa, .inl (cS, 9, .inr (.inr (.inr (.inr su)))))] ++ suT cI ad sa sv 9) H := hP.part [2, 0, 3, 4, 1] rfl
    have hD : va_D A ([(q, .inr (3, [.ref qn, .int (nI tt), .int (nI kn), .ref qs, .ref qf])), (qn, .inl (cI, 9, .inl (aN nm))), (qs, .inl (cI, 81, .inl (aN sp1))), (qf, .inl (cI, 4608, .inl (aN fw1))), (qa, .inl (cS, 9, .inr (.inr (.inr (.inr su)))))] ++ suT cI ad sa sv 9) := hD.part [2, 0, 3, 4, 1] (by decide) rfl
    have hMI := hw
    refine lv_aload_n hx hb d_SQ_find_19 rfl (lv_at hl 0 rfl) ?_
    refine lv_iload_n hx hb d_SQ_find_20 rfl (lv_at hl 2 rfl) ?_
    have hPc := hP.sub (ws' := [(q, .inr (3, [.ref qn, .int (nI tt), .int (nI kn), .ref qs, .ref qf])), (qn, .inl (cI, 9, .inl (aN nm))), (qs, .inl (cI, 81, .inl (aN sp1))), (qf, .inl (cI, 4608, .inl (aN fw1)))]) [0, 1, 2, 3] rfl
    have hDc := hD.sub (ws' := [(q, .inr (3, [.ref qn, .int (nI tt), .int (nI kn), .ref qs, .ref qf])), (qn, .inl (cI, 9, .inl (aN nm))), (qs, .inl (cI, 81, .inl (aN sp1))), (qf, .inl (cI, 4608, .inl (aN fw1)))]) [0, 1, 2, 3] (by decide) rfl
    have hFc := va_free (wc := [(q, .inr (3, [.ref qn, .int (nI tt), .int (nI kn), .ref qs, .ref qf])), (qn, .inl (cI, 9, .inl (aN nm))), (qs, .inl (cI, 81, .inl (aN sp1))), (qf, .inl (cI, 4608, .inl (aN fw1)))]) hD hS hA [0, 1, 2, 3] rfl
    refine va_callv (va_runV (As := [.int (nI n)]) (rest := []) ⟨hx, hb, hml, hown, hts⟩ (c_SQ_choose l dC dI H.size q qn qs qf cI nm sp1 fw1 tt kn n hn (thr_bd hn hsp hF hMI)) (cwV 1 hts (gw_V m_302 m_304 s_8 m_6 m_305) rfl rfl rfl (by decide +kernel) ⟨Nat.le_of_ble_eq_true rfl, Nat.le_of_ble_eq_true rfl⟩) ⟨rw_blind, va_recv hK hPc (ci := 3) (q0 := 0) rfl rfl, fun U hU hW => ⟨rfl, by rw [hU], by rw [hU]; exact hPc, va_K.moved hW.alike (hK.sub (tys' := [(cI, .int)]) [0] rfl), hDc.weaken (fun _ _ _ _ => trivial)⟩⟩ rfl rfl hl.1 rfl (lv_room (Nat.le_of_ble_eq_true rfl)) d_SQ_find_21 ⟨Nat.le_of_ble_eq_true rfl, Nat.le_of_ble_eq_true rfl⟩) hS (fun q _ h => hFc q h) hFc (fun u t H1 locs ht hvm hw hB hz1 hk1 hS => ?_)
    obtain ⟨tt1, nm1⟩ := u
    obtain ⟨hP1, hK1, hD1⟩ := hB
    rw [ht] at hP1
    try dsimp only at hw
    obtain ⟨hP, hD⟩ := va_joinQ (wr := [(qa, .inl (cS, 9, .inr (.inr (.inr (.inr su)))))]) (w1 := [(q, .inr (3, [.ref qn, .int (nI tt1), .int (nI kn), .ref qs, .ref qf])), (qn, .inl (cI, 9, .inl (aN nm1))), (qs, .inl (cI, 81, .inl (aN sp1))), (qf, .inl (cI, 4608, .inl (aN fw1)))]) hP hD [0, 1, 2, 3] [4] rfl rfl (by decide) (by decide) hk1 hFc hP1 hD1
    generalize H1 = H at hP hS ⊢
    have hP : va_P (dC, dI) vwCl ([(q, .inr (3, [.ref qn, .int (nI tt1), .int (nI kn), .ref qs, .ref qf])), (qn, .inl (cI, 9, .inl (aN nm1))), (qs, .inl (cI, 81, .inl (aN sp1))), (qf, .inl (cI, 4608, .inl (aN fw1))), (qa, .inl (cS, 9, .inr (.inr (.inr (.inr su)))))] ++ suT cI ad sa sv 9) H := hP.part [1, 2, 3, 4, 0] rfl
    have hD : va_D A ([(q, .inr (3, [.ref qn, .int (nI tt1), .int (nI kn), .ref qs, .ref qf])), (qn, .inl (cI, 9, .inl (aN nm1))), (qs, .inl (cI, 81, .inl (aN sp1))), (qf, .inl (cI, 4608, .inl (aN fw1))), (qa, .inl (cS, 9, .inr (.inr (.inr (.inr su)))))] ++ suT cI ad sa sv 9) := hD.part [1, 2, 3, 4, 0] (by decide) rfl
    have hch := hw
    refine lv_aload_n hx hb d_SQ_find_24 rfl (lv_at hl 0 rfl) ?_
    refine lv_iconst (v := nI 1) hx hb d_SQ_find_25 (by decide +kernel) ?_
    refine va_put (D := (dC, dI)) (ci := 3) (v := .int (nI 1)) (ty := .boolean) (C := R_SQ) (T := F_SQ) (N := 5) hx hb hts in_SQ t_SQ t_SQ_ok n_SQ hown hK hP hD hS 0 rfl rfl 2 (by decide) (hts _ m_161) (fun _ h9 => h9) rfl (by decide +kernel) (by decide +kernel) (by decide +kernel) (Nat.le_of_ble_eq_true rfl) d_SQ_find_26 (fun H locs hP hD hS => ?_)
    have hP : va_P (dC, dI) vwCl ([(q, .inr (3, [.ref qn, .int (nI tt1), .int (nI 1), .ref qs, .ref qf])), (qn, .inl (cI, 9, .inl (aN nm1))), (qs, .inl (cI, 81, .inl (aN sp1))), (qf, .inl (cI, 4608, .inl (aN fw1))), (qa, .inl (cS, 9, .inr (.inr (.inr (.inr su)))))] ++ suT cI ad sa sv 9) H := hP
    have hD : va_D A ([(q, .inr (3, [.ref qn, .int (nI tt1), .int (nI 1), .ref qs, .ref qf])), (qn, .inl (cI, 9, .inl (aN nm1))), (qs, .inl (cI, 81, .inl (aN sp1))), (qf, .inl (cI, 4608, .inl (aN fw1))), (qa, .inl (cS, 9, .inr (.inr (.inr (.inr su)))))] ++ suT cI ad sa sv 9) := hD
    exact W.vret hx hb hr (fun t ht hW => ⟨⟨(tt1, 1, nm1, sp1, fw1), rfl, ⟨rfl, sp1, fw1, hsp, hMI, hch⟩, by rw [ht]; exact hP, va_K.moved hW.alike hK, hD⟩, hS.F ht⟩) hS.2.2 d_SQ_find_29
  exact W.vret hx hb hr (fun t ht hW => ⟨⟨(tt, kn, nm, sp, fw), rfl, hk.resolve_left (by omega), by rw [ht]; exact hP, va_K.moved hW.alike hK, hD⟩, hS.F ht⟩) hS.2.2 d_SQ_find_7
