set_option maxHeartbeats 8000000 in
set_option maxRecDepth 100000 in
/-- the law's loop -/
theorem law_loop {p : Program} {l : Launch} {e : Env} {s : State} {m : MethodId} {below : List Frame} {meth : Method} {c : Code} {dC : Nat → ClassId} {dI : Nat → Nat → Nat} {b L : Nat} {xs : Nat → Int32} {e1 e2 : Nat} {cI cS cJ : ClassId} {su : Nat → Option Nat} {ad : Nat → Nat → Nat} {x0 k0 v0 a0 j0 q qa ab ap aq ac vw vs jf jt qn qs qf ob : Nat} {z : Nat → Nat} (F : LF p l s m meth c dC dI b L xs e1 e2 cI cS cJ su ad) : ∀ (n j : Nat), 513 ≤ j + n → 6 * j ≤ L → LGo p l e s m below meth c dC dI b cI cS cJ su ad x0 k0 v0 a0 j0 q qa ab ap aq ac vw vs jf jt qn qs qf ob z (j) := by
  have F0 := F
  obtain ⟨hx, hb, hr, hml, hown, hts, hX, hbl, hlocks, hst, hEY, hK, hL, hsu⟩ := F
  have hbA : ¬ lwA s b := Nat.not_le.mpr hbl
  intro n
  induction n with
  | zero => exact fun j h1 h2 => absurd h1 (by omega)
  | succ n ih =>
    intro j hn hj
    unfold LGo
    intro g ww wa st bc pi pf ct df dt nm sp fw nw be sw sk sr sf sl ss re mo bn bf kn most bs tt qk room sa sv og H locs ls hI hP hD hS hl
    refine lv_iload hx hb d_LA_law_23 (lv_at hl 0 rfl) ?_
    refine lv_aload_n hx hb d_LA_law_25 rfl (lv_at hl 1 rfl) ?_
    refine va_slen hx hb hX hbl hbA hS d_LA_law_26 ?_
    refine lv_topr (show _ = nI L from rfl) ?_
    refine lv_bipush (v := nI 6) hx hb d_LA_law_27 (by decide +kernel) ?_
    refine lv_isub hx hb d_LA_law_29 ?_
    refine lv_topr (show _ = zI (((L : Nat) : Int) - ((6 : Nat) : Int)) from nn_sub _ _) ?_
    refine ix_icmp_gt (tgt := 839) hx hb (nI_tI (n := 6 * j) (by omega)) (zI_toInt (z := ((L : Nat) : Int) - ((6 : Nat) : Int)) (by omega) (by omega)) d_LA_law_30 (by decide) (fun c_30 => ?_) (fun c_30 => ?_)
    · refine lv_iconst (v := nI 1) hx hb d_LA_law_839 (by decide +kernel) ?_
      refine va_forget hS.2.2 ?_
      refine W.widen (k := 601024) (n := 7293034) (by omega) (by omega) ?_
      refine lv_topr (show _ = (1 : Int32) from (by decide +kernel)) ?_
      exact lw_ret hx hb hr hlocks d_LA_law_840
    refine lv_aload_n hx hb d_LA_law_33 rfl (lv_at hl 1 rfl) ?_
    refine lv_iload hx hb d_LA_law_34 (lv_at hl 0 rfl) ?_
    refine la_sld (k := 6 * j) hx hb hX hbl hbA hS (by omega) hL rfl d_LA_law_36 ?_
    refine lv_bipush (v := nI 15) hx hb d_LA_law_37 (by decide +kernel) ?_
    refine lv_iand hx hb d_LA_law_39 ?_
    obtain ⟨k9, hk9, ek9⟩ := x_and (xs (6 * j))
    refine lv_topr (show _ = nI k9 from ek9) ?_
    have ihj := ih (j + 1) (by omega) (by omega)
    rcases (show k9 = 0 ∨ k9 = 1 ∨ k9 = 2 ∨ k9 = 3 ∨ k9 = 4 ∨ k9 = 5 ∨ k9 = 6 ∨ k9 = 7 ∨ k9 = 8 ∨ k9 = 9 ∨ k9 = 10 ∨ k9 = 11 ∨ k9 = 12 ∨ k9 = 13 ∨ k9 = 14 ∨ k9 = 15 by omega) with rfl | rfl | rfl | rfl | rfl | rfl | rfl | rfl | rfl | rfl | rfl | rfl | rfl | rfl | rfl | rfl
    · refine lv_tableIn (tgt := 112) (off := 72) hx hb d_LA_law_40 (by decide +kernel) (by decide +kernel) (by decide +kernel) (by decide) ?_
      exact law_coil F0 j (by omega) ihj g ww wa st bc pi pf ct df dt nm sp fw nw be sw sk sr sf sl ss re mo bn bf kn most bs tt qk room sa sv og H _ _ hI hP hD hS (lv_sub hl [0, 1, 2, 3, 4] rfl)
    · refine lv_tableIn (tgt := 196) (off := 156) hx hb d_LA_law_40 (by decide +kernel) (by decide +kernel) (by decide +kernel) (by decide) ?_
      exact law_want F0 j (by omega) ihj g ww wa st bc pi pf ct df dt nm sp fw nw be sw sk sr sf sl ss re mo bn bf kn most bs tt qk room sa sv og H _ _ hI hP hD hS (lv_sub hl [0, 1, 2, 3, 4] rfl)
    · refine lv_tableIn (tgt := 264) (off := 224) hx hb d_LA_law_40 (by decide +kernel) (by decide +kernel) (by decide +kernel) (by decide) ?_
      exact law_strips F0 j (by omega) ihj g ww wa st bc pi pf ct df dt nm sp fw nw be sw sk sr sf sl ss re mo bn bf kn most bs tt qk room sa sv og H _ _ hI hP hD hS (lv_sub hl [0, 1, 2, 3, 4] rfl)
    · refine lv_tableIn (tgt := 312) (off := 272) hx hb d_LA_law_40 (by decide +kernel) (by decide +kernel) (by decide +kernel) (by decide) ?_
      exact law_fill F0 j (by omega) ihj g ww wa st bc pi pf ct df dt nm sp fw nw be sw sk sr sf sl ss re mo bn bf kn most bs tt qk room sa sv og H _ _ hI hP hD hS (lv_sub hl [0, 1, 2, 3, 4] rfl)
    · refine lv_tableIn (tgt := 325) (off := 285) hx hb d_LA_law_40 (by decide +kernel) (by decide +kernel) (by decide +kernel) (by decide) ?_
      exact law_best F0 j (by omega) ihj g ww wa st bc pi pf ct df dt nm sp fw nw be sw sk sr sf sl ss re mo bn bf kn most bs tt qk room sa sv og H _ _ hI hP hD hS (lv_sub hl [0, 1, 2, 3, 4] rfl)
    · refine lv_tableIn (tgt := 381) (off := 341) hx hb d_LA_law_40 (by decide +kernel) (by decide +kernel) (by decide +kernel) (by decide) ?_
      exact law_cut F0 j (by omega) ihj g ww wa st bc pi pf ct df dt nm sp fw nw be sw sk sr sf sl ss re mo bn bf kn most bs tt qk room sa sv og H _ _ hI hP hD hS (lv_sub hl [0, 1, 2, 3, 4] rfl)
    · refine lv_tableIn (tgt := 425) (off := 385) hx hb d_LA_law_40 (by decide +kernel) (by decide +kernel) (by decide +kernel) (by decide) ?_
      exact law_strip F0 j (by omega) ihj g ww wa st bc pi pf ct df dt nm sp fw nw be sw sk sr sf sl ss re mo bn bf kn most bs tt qk room sa sv og H _ _ hI hP hD hS (lv_sub hl [0, 1, 2, 3, 4] rfl)
    · refine lv_tableIn (tgt := 505) (off := 465) hx hb d_LA_law_40 (by decide +kernel) (by decide +kernel) (by decide +kernel) (by decide) ?_
      exact law_scrap F0 j (by omega) ihj g ww wa st bc pi pf ct df dt nm sp fw nw be sw sk sr sf sl ss re mo bn bf kn most bs tt qk room sa sv og H _ _ hI hP hD hS (lv_sub hl [0, 1, 2, 3, 4] rfl)
    · refine lv_tableIn (tgt := 561) (off := 521) hx hb d_LA_law_40 (by decide +kernel) (by decide +kernel) (by decide +kernel) (by decide) ?_
      exact law_moves F0 j (by omega) ihj g ww wa st bc pi pf ct df dt nm sp fw nw be sw sk sr sf sl ss re mo bn bf kn most bs tt qk room sa sv og H _ _ hI hP hD hS (lv_sub hl [0, 1, 2, 3, 4] rfl)
    · refine lv_tableIn (tgt := 629) (off := 589) hx hb d_LA_law_40 (by decide +kernel) (by decide +kernel) (by decide +kernel) (by decide) ?_
      exact law_order F0 j (by omega) ihj g ww wa st bc pi pf ct df dt nm sp fw nw be sw sk sr sf sl ss re mo bn bf kn most bs tt qk room sa sv og H _ _ hI hP hD hS (lv_sub hl [0, 1, 2, 3, 4] rfl)
    · refine lv_tableIn (tgt := 642) (off := 602) hx hb d_LA_law_40 (by decide +kernel) (by decide +kernel) (by decide +kernel) (by decide) ?_
      exact law_ordered F0 j (by omega) ihj g ww wa st bc pi pf ct df dt nm sp fw nw be sw sk sr sf sl ss re mo bn bf kn most bs tt qk room sa sv og H _ _ hI hP hD hS (lv_sub hl [0, 1, 2, 3, 4] rfl)
    · refine lv_tableIn (tgt := 698) (off := 658) hx hb d_LA_law_40 (by decide +kernel) (by decide +kernel) (by decide +kernel) (by decide) ?_
      exact law_defect F0 j (by omega) ihj g ww wa st bc pi pf ct df dt nm sp fw nw be sw sk sr sf sl ss re mo bn bf kn most bs tt qk room sa sv og H _ _ hI hP hD hS (lv_sub hl [0, 1, 2, 3, 4] rfl)
    · refine lv_tableIn (tgt := 766) (off := 726) hx hb d_LA_law_40 (by decide +kernel) (by decide +kernel) (by decide +kernel) (by decide) ?_
      exact law_sound F0 j (by omega) ihj g ww wa st bc pi pf ct df dt nm sp fw nw be sw sk sr sf sl ss re mo bn bf kn most bs tt qk room sa sv og H _ _ hI hP hD hS (lv_sub hl [0, 1, 2, 3, 4] rfl)
    · refine lv_tableIn (tgt := 777) (off := 737) hx hb d_LA_law_40 (by decide +kernel) (by decide +kernel) (by decide +kernel) (by decide) ?_
      exact law_shift F0 j (by omega) ihj g ww wa st bc pi pf ct df dt nm sp fw nw be sw sk sr sf sl ss re mo bn bf kn most bs tt qk room sa sv og H _ _ hI hP hD hS (lv_sub hl [0, 1, 2, 3, 4] rfl)
    · refine lv_tableOut (tgt := 833) hx hb d_LA_law_40 (by decide +kernel) (by decide) ?_
      refine W.widen (k := 79 + (j + 1)) (n := 11083 + 6 * (j + 1)) (by omega) (by omega) ?_
      refine lv_iinc (v := nI (6 * j + 6)) (lv' := [(4, .int (nI (6 * j + 6))), (0, .ref b), (1, .ref x0), (2, .ref (z 0)), (3, .ref ob)]) hx hb d_LA_law_833 hl (k := 0) rfl (n_incN (6 * j) 6) (by decide) rfl (fun ls hl => ?_)
      refine lv_goto (tgt := 23) hx hb d_LA_law_836 (by decide) ?_
      rw [show 6 * j + 6 = 6 * (j + 1) by omega] at hl
      unfold LGo at ihj
      exact ihj g ww wa st bc pi pf ct df dt nm sp fw nw be sw sk sr sf sl ss re mo bn bf kn most bs tt qk room sa sv og H _ _ hI hP hD hS (lv_sub hl [0, 1, 2, 3, 4] rfl)
    · refine lv_tableOut (tgt := 833) hx hb d_LA_law_40 (by decide +kernel) (by decide) ?_
      refine W.widen (k := 79 + (j + 1)) (n := 11083 + 6 * (j + 1)) (by omega) (by omega) ?_
      refine lv_iinc (v := nI (6 * j + 6)) (lv' := [(4, .int (nI (6 * j + 6))), (0, .ref b), (1, .ref x0), (2, .ref (z 0)), (3, .ref ob)]) hx hb d_LA_law_833 hl (k := 0) rfl (n_incN (6 * j) 6) (by decide) rfl (fun ls hl => ?_)
      refine lv_goto (tgt := 23) hx hb d_LA_law_836 (by decide) ?_
      rw [show 6 * j + 6 = 6 * (j + 1) by omega] at hl
      unfold LGo at ihj
      exact ihj g ww wa st bc pi pf ct df dt nm sp fw nw be sw sk sr sf sl ss re mo bn bf kn most bs tt qk room sa sv og H _ _ hI hP hD hS (lv_sub hl [0, 1, 2, 3, 4] rfl)
