theorem tb_in (i : Nat) {w : Cond} (h : tables_1[i]? = some w) : w ∈ lw_tbl := List.mem_append_right _ (List.mem_of_getElem? h)
theorem not_cast {C D : String} {A : Array Value} {s : State} (h : (Cond.not (.castable C D)).before A s = true) : ∀ c t, s.vm.findClass C = some c → s.vm.findClass D = some t → s.vm.assignable c t = false := fun c t h1 h2 => by
  simpa [Cond.before, Cond.holds, Cond.value, h1, h2] using h
section ST
variable {b : Nat} {s : State}
theorem xw_start (hts : ∀ w ∈ lw_tbl, w.before #[Value.ref b] s = true) : XW s := by
  refine ⟨fun q hq => ?_, fun x hx => ?_⟩
  · simp only [xwC, List.mem_cons, List.not_mem_nil, or_false] at hq
    rcases hq with rfl | rfl | rfl | rfl
    · exact castable_moved (Vm.Alike.refl _) (hts _ (tb_in 324 (by decide +kernel)))
    · exact castable_moved (Vm.Alike.refl _) (hts _ (tb_in 401 (by decide +kernel)))
    · exact castable_moved (Vm.Alike.refl _) (hts _ (tb_in 430 (by decide +kernel)))
    · exact castable_moved (Vm.Alike.refl _) (hts _ (tb_in 462 (by decide +kernel)))
  · simp only [xwD, List.mem_cons, List.not_mem_nil, or_false] at hx
    rcases hx with rfl | rfl | rfl | rfl | rfl | rfl
    · exact declares_moved (Vm.Alike.refl _) (hts _ (tb_in 325 (by decide +kernel)))
    · exact declares_moved (Vm.Alike.refl _) (hts _ (tb_in 326 (by decide +kernel)))
    · exact declares_moved (Vm.Alike.refl _) (hts _ (tb_in 327 (by decide +kernel)))
    · exact declares_moved (Vm.Alike.refl _) (hts _ (tb_in 328 (by decide +kernel)))
    · exact declares_moved (Vm.Alike.refl _) (hts _ (tb_in 329 (by decide +kernel)))
    · exact declares_moved (Vm.Alike.refl _) (hts _ (tb_in 330 (by decide +kernel)))
theorem xs_start (hts : ∀ w ∈ lw_tbl, w.before #[Value.ref b] s = true) (hs : ∀ w ∈ flatC (Jvm.Cond.and given_1 narrow_1), w.before #[Value.ref b] s = true) : XS s := by
  intro x hx
  simp only [xsL, List.mem_cons, List.not_mem_nil, or_false] at hx
  rcases hx with rfl | rfl | rfl | rfl | rfl | rfl | rfl | rfl | rfl | rfl | rfl | rfl
  · obtain ⟨q, -, -, -, hq, -⟩ := Cond.exactly_spec (hs (.exactly (.string "SlitWidths" 62) "java/lang/String") (by decide +kernel))
    exact ⟨q, vk_R.of (hts _ (tb_in 364 (by decide +kernel))) hq⟩
  · obtain ⟨q, -, -, -, hq, -⟩ := Cond.exactly_spec (hs (.exactly (.string "SlitWidths" 91) "java/lang/String") (by decide +kernel))
    exact ⟨q, vk_R.of (hts _ (tb_in 408 (by decide +kernel))) hq⟩
  · obtain ⟨q, -, -, -, hq, -⟩ := Cond.exactly_spec (hs (.exactly (.string "SlitWidths" 94) "java/lang/String") (by decide +kernel))
    exact ⟨q, vk_R.of (hts _ (tb_in 415 (by decide +kernel))) hq⟩
  · obtain ⟨q, -, -, -, hq, -⟩ := Cond.exactly_spec (hs (.exactly (.string "SlitWidths" 107) "java/lang/String") (by decide +kernel))
    exact ⟨q, vk_R.of (hts _ (tb_in 443 (by decide +kernel))) hq⟩
  · obtain ⟨q, -, -, -, hq, -⟩ := Cond.exactly_spec (hs (.exactly (.string "SlitWidths" 119) "java/lang/String") (by decide +kernel))
    exact ⟨q, vk_R.of (hts _ (tb_in 459 (by decide +kernel))) hq⟩
  · obtain ⟨q, -, -, -, hq, -⟩ := Cond.exactly_spec (hs (.exactly (.string "SlitWidths" 126) "java/lang/String") (by decide +kernel))
    exact ⟨q, vk_R.of (hts _ (tb_in 469 (by decide +kernel))) hq⟩
  · obtain ⟨q, -, -, -, hq, -⟩ := Cond.exactly_spec (hs (.exactly (.string "SlitWidths" 199) "java/lang/String") (by decide +kernel))
    exact ⟨q, vk_R.of (hts _ (tb_in 503 (by decide +kernel))) hq⟩
  · obtain ⟨q, -, -, -, hq, -⟩ := Cond.exactly_spec (hs (.exactly (.string "SlitWidths" 143) "java/lang/String") (by decide +kernel))
    exact ⟨q, vk_R.of (hts _ (tb_in 504 (by decide +kernel))) hq⟩
  · obtain ⟨q, -, -, -, hq, -⟩ := Cond.exactly_spec (hs (.exactly (.string "SlitWidths" 179) "java/lang/String") (by decide +kernel))
    exact ⟨q, vk_R.of (hts _ (tb_in 540 (by decide +kernel))) hq⟩
  · obtain ⟨q, -, -, -, hq, -⟩ := Cond.exactly_spec (hs (.exactly (.string "SlitWidths" 183) "java/lang/String") (by decide +kernel))
    exact ⟨q, vk_R.of (hts _ (tb_in 548 (by decide +kernel))) hq⟩
  · obtain ⟨q, -, -, -, hq, -⟩ := Cond.exactly_spec (hs (.exactly (.string "SlitWidths" 185) "java/lang/String") (by decide +kernel))
    exact ⟨q, vk_R.of (hts _ (tb_in 549 (by decide +kernel))) hq⟩
  · obtain ⟨q, -, -, -, hq, -⟩ := Cond.exactly_spec (hs (.exactly (.string "SlitWidths" 197) "java/lang/String") (by decide +kernel))
    exact ⟨q, vk_R.of (hts _ (tb_in 565 (by decide +kernel))) hq⟩
theorem xn_start (hs : ∀ w ∈ flatC (Jvm.Cond.and given_1 narrow_1), w.before #[Value.ref b] s = true) : XN s := by
  intro q hq
  simp only [xnL, List.mem_cons, List.not_mem_nil, or_false] at hq
  rcases hq with rfl | rfl | rfl | rfl
  · exact not_cast (hs (.not (.castable "java/lang/IllegalArgumentException" "java/lang/IllegalStateException")) (by decide +kernel))
  · exact not_cast (hs (.not (.castable "java/lang/IllegalArgumentException" "java/lang/IndexOutOfBoundsException")) (by decide +kernel))
  · exact not_cast (hs (.not (.castable "java/lang/UnsupportedOperationException" "java/lang/IllegalStateException")) (by decide +kernel))
  · exact not_cast (hs (.not (.castable "java/lang/UnsupportedOperationException" "java/lang/IndexOutOfBoundsException")) (by decide +kernel))
theorem ey_start (hts : ∀ w ∈ lw_tbl, w.before #[Value.ref b] s = true) (hs : ∀ w ∈ flatC (Jvm.Cond.and given_1 narrow_1), w.before #[Value.ref b] s = true) : ∃ e1 e2, EY e1 e2 s s.heap := by
  obtain ⟨e1, h1⟩ := sta.of (C := "java/lang/Throwable") (n := "UNASSIGNED_STACK") (d := "[Ljava/lang/StackTraceElement;") (hts _ (tb_in 349 (by decide +kernel))) (hs (.isRef (.static "java/lang/Throwable" "UNASSIGNED_STACK" "[Ljava/lang/StackTraceElement;")) (by decide +kernel))
  obtain ⟨e2, h2⟩ := sta.of (C := "java/lang/Throwable") (n := "SUPPRESSED_SENTINEL") (d := "Ljava/util/List;") (hts _ (tb_in 351 (by decide +kernel))) (hs (.isRef (.static "java/lang/Throwable" "SUPPRESSED_SENTINEL" "Ljava/util/List;")) (by decide +kernel))
  exact ⟨e1, e2, ⟨xw_start hts, h1, h2⟩, xs_start hts hs, xn_start hs⟩
theorem nw_start (hts : ∀ w ∈ lw_tbl, w.before #[Value.ref b] s = true) : NW s :=
  ⟨va_Nw.of (w := .methodLinkNest "SlitWidths" 11 y_CO_init "SlitWidths") rfl (hts _ (tb_in 28 (by decide +kernel))), va_Nw.of (w := .methodLinkNest "SlitWidths" 18 y_WI_init "SlitWidths") rfl (hts _ (tb_in 63 (by decide +kernel))), va_Nw.of (w := .methodLinkNest "SlitWidths" 25 y_PS_init "SlitWidths") rfl (hts _ (tb_in 88 (by decide +kernel))), va_Nw.of (w := .methodLinkNest "SlitWidths" 32 y_DE_init "SlitWidths") rfl (hts _ (tb_in 131 (by decide +kernel))), va_Nw.of (w := .methodLinkNest "SlitWidths" 39 y_SQ_init "SlitWidths") rfl (hts _ (tb_in 153 (by decide +kernel))), va_Nw.of (w := .methodLinkNest "SlitWidths" 50 y_SU_init "SlitWidths") rfl (hts _ (tb_in 179 (by decide +kernel))), va_AO.of (hts _ (tb_in 177 (by decide +kernel)))⟩
end ST
theorem whole_start {p : Program} {e : Env} {s : State} {m : MethodId} {below : List Frame} {meth : Method} {c : Code} (l : Launch) (hst : l.stackTraces = false) {b L : Nat} {xs : Nat → Int32} (hL : L ≤ 3072) (C0 : lw_At p s m meth c b L xs) : W p l e room_1 s m #[Value.ref b] below meth c s.heap [] 0 0 (lw_Z below #[Value.ref b] s) (entryFrame m ([Value.ref b] : List Value).toArray 7) := by
  obtain ⟨hx, hb, hr, hml, hown, hts, hX, hbl, hlocks, hgv⟩ := C0
  have hs := flat_of_before _ hgv
  obtain ⟨e1, e2, hEY⟩ := ey_start hts hs
  exact law_start l hL hst hx hb hr hml hown (fun w hw => hts w (gw_in w hw)) hX hbl hlocks hEY (nw_start hts)
