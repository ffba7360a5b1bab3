/-! the law's helpers -/
theorem B0.P {D : va_G} {cl : List vw_C} {ws : va_W} {st t : State} {H H1 : Heap} (h0 : st.heap = H) (h1 : t.heap = H1) (hB : B0 st t) (hP : va_P D cl ws H) : va_P D cl ws H1 := by
  subst h0; subst h1
  exact hP.kept (fun k q hq => hB.2 q.1 (hP k q hq).lt)
theorem B0.S {A : Nat → Prop} {H0 H H1 : Heap} {locs L : List Loc} {st t : State} (hS : va_S A H0 H locs) (h0 : st.heap = H) (h1 : t.heap = H1) (hB : B0 st t) (hL : ∀ z ∈ L, ro_no z.base) : va_S A H0 H1 (locs ++ L) := by
  subst h0; subst h1
  refine ⟨Nat.le_trans hS.1 hB.1, fun q hq hn => ?_, fun z hz => (List.mem_append.mp hz).elim (hS.2.2 z) (fun h => (hL z h).elim)⟩
  rw [hB.2 q (Nat.lt_of_lt_of_le hq hS.1)]
  exact hS.2.1 q hq hn
theorem va_F.S {A A1 : Nat → Prop} {H0 H H1 : Heap} {locs L : List Loc} {st t : State} (hS : va_S A H0 H locs) (h0 : st.heap = H) (h1 : t.heap = H1) (hF : va_F A1 st t) (hA : ∀ q, A1 q → A q) (hL : ∀ z ∈ L, A1 z.base) : va_S A H0 H1 (locs ++ L) := by
  subst h0; subst h1
  refine ⟨Nat.le_trans hS.1 hF.1, fun q hq hn => ?_, fun z hz => (List.mem_append.mp hz).elim (hS.2.2 z) (fun h => hA _ (hL z h))⟩
  rw [hF.2 q (Nat.lt_of_lt_of_le hq hS.1) (fun h => hn (hA q h))]
  exact hS.2.1 q hq hn
theorem updL_0 (f : Nat → Int64) (x : Int64) : vp_updL f 0 x 0 = x := by simp [vp_updL]
theorem d_LA_coil_0 : decode b_LA_coil 0 = .ok (.aload_n 0, 1) := by decide +kernel
theorem d_LA_coil_1 : decode b_LA_coil 1 = .ok (.iload_n 1, 1) := by decide +kernel
theorem d_LA_coil_2 : decode b_LA_coil 2 = .ok (.iload_n 2, 1) := by decide +kernel
theorem d_LA_coil_3 : decode b_LA_coil 3 = .ok (.iload_n 3, 1) := by decide +kernel
theorem d_LA_coil_4 : decode b_LA_coil 4 = .ok (.iload 4, 2) := by decide +kernel
theorem d_LA_coil_6 : decode b_LA_coil 6 = .ok (.iload 5, 2) := by decide +kernel
theorem d_LA_coil_8 : decode b_LA_coil 8 = .ok (.invokevirtual 7, 3) := by decide +kernel
theorem d_LA_coil_11 : decode b_LA_coil 11 = .ok (.goto (7), 3) := by decide +kernel
theorem d_LA_coil_14 : decode b_LA_coil 14 = .ok (.astore 6, 2) := by decide +kernel
theorem d_LA_coil_16 : decode b_LA_coil 16 = .ok (.iconst 1, 1) := by decide +kernel
theorem d_LA_coil_17 : decode b_LA_coil 17 = .ok (.ireturn, 1) := by decide +kernel
theorem d_LA_coil_18 : decode b_LA_coil 18 = .ok (.iconst 0, 1) := by decide +kernel
theorem d_LA_coil_19 : decode b_LA_coil 19 = .ok (.ireturn, 1) := by decide +kernel
theorem d_LA_want_0 : decode b_LA_want 0 = .ok (.aload_n 3, 1) := by decide +kernel
theorem d_LA_want_1 : decode b_LA_want 1 = .ok (.iconst 0, 1) := by decide +kernel
theorem d_LA_want_2 : decode b_LA_want 2 = .ok (.aload_n 0, 1) := by decide +kernel
theorem d_LA_want_3 : decode b_LA_want 3 = .ok (.iload_n 1, 1) := by decide +kernel
theorem d_LA_want_4 : decode b_LA_want 4 = .ok (.iload_n 2, 1) := by decide +kernel
theorem d_LA_want_5 : decode b_LA_want 5 = .ok (.invokevirtual 15, 3) := by decide +kernel
theorem d_LA_want_8 : decode b_LA_want 8 = .ok (.i2l, 1) := by decide +kernel
theorem d_LA_want_9 : decode b_LA_want 9 = .ok (.lastore, 1) := by decide +kernel
theorem d_LA_want_10 : decode b_LA_want 10 = .ok (.goto (11), 3) := by decide +kernel
theorem d_LA_want_13 : decode b_LA_want 13 = .ok (.astore 4, 2) := by decide +kernel
theorem d_LA_want_15 : decode b_LA_want 15 = .ok (.iconst 1, 1) := by decide +kernel
theorem d_LA_want_16 : decode b_LA_want 16 = .ok (.ireturn, 1) := by decide +kernel
theorem d_LA_want_17 : decode b_LA_want 17 = .ok (.astore 4, 2) := by decide +kernel
theorem d_LA_want_19 : decode b_LA_want 19 = .ok (.iconst 2, 1) := by decide +kernel
theorem d_LA_want_20 : decode b_LA_want 20 = .ok (.ireturn, 1) := by decide +kernel
theorem d_LA_want_21 : decode b_LA_want 21 = .ok (.iconst 0, 1) := by decide +kernel
theorem d_LA_want_22 : decode b_LA_want 22 = .ok (.ireturn, 1) := by decide +kernel
theorem d_LA_strips_0 : decode b_LA_strips 0 = .ok (.aload_n 0, 1) := by decide +kernel
theorem d_LA_strips_1 : decode b_LA_strips 1 = .ok (.iload_n 1, 1) := by decide +kernel
theorem d_LA_strips_2 : decode b_LA_strips 2 = .ok (.iload_n 2, 1) := by decide +kernel
theorem d_LA_strips_3 : decode b_LA_strips 3 = .ok (.invokevirtual 21, 3) := by decide +kernel
theorem d_LA_strips_6 : decode b_LA_strips 6 = .ok (.goto (9), 3) := by decide +kernel
theorem d_LA_strips_9 : decode b_LA_strips 9 = .ok (.astore_n 3, 1) := by decide +kernel
theorem d_LA_strips_10 : decode b_LA_strips 10 = .ok (.iconst 1, 1) := by decide +kernel
theorem d_LA_strips_11 : decode b_LA_strips 11 = .ok (.ireturn, 1) := by decide +kernel
theorem d_LA_strips_12 : decode b_LA_strips 12 = .ok (.astore_n 3, 1) := by decide +kernel
theorem d_LA_strips_13 : decode b_LA_strips 13 = .ok (.iconst 2, 1) := by decide +kernel
theorem d_LA_strips_14 : decode b_LA_strips 14 = .ok (.ireturn, 1) := by decide +kernel
theorem d_LA_strips_15 : decode b_LA_strips 15 = .ok (.iconst 0, 1) := by decide +kernel
theorem d_LA_strips_16 : decode b_LA_strips 16 = .ok (.ireturn, 1) := by decide +kernel
theorem d_LA_best_0 : decode b_LA_best 0 = .ok (.aload_n 2, 1) := by decide +kernel
theorem d_LA_best_1 : decode b_LA_best 1 = .ok (.iconst 0, 1) := by decide +kernel
theorem d_LA_best_2 : decode b_LA_best 2 = .ok (.aload_n 0, 1) := by decide +kernel
theorem d_LA_best_3 : decode b_LA_best 3 = .ok (.iload_n 1, 1) := by decide +kernel
theorem d_LA_best_4 : decode b_LA_best 4 = .ok (.invokevirtual 27, 3) := by decide +kernel
theorem d_LA_best_7 : decode b_LA_best 7 = .ok (.i2l, 1) := by decide +kernel
theorem d_LA_best_8 : decode b_LA_best 8 = .ok (.lastore, 1) := by decide +kernel
theorem d_LA_best_9 : decode b_LA_best 9 = .ok (.goto (6), 3) := by decide +kernel
theorem d_LA_best_12 : decode b_LA_best 12 = .ok (.astore_n 3, 1) := by decide +kernel
theorem d_LA_best_13 : decode b_LA_best 13 = .ok (.iconst 1, 1) := by decide +kernel
theorem d_LA_best_14 : decode b_LA_best 14 = .ok (.ireturn, 1) := by decide +kernel
theorem d_LA_best_15 : decode b_LA_best 15 = .ok (.iconst 0, 1) := by decide +kernel
theorem d_LA_best_16 : decode b_LA_best 16 = .ok (.ireturn, 1) := by decide +kernel
theorem d_LA_cut_0 : decode b_LA_cut 0 = .ok (.aload_n 1, 1) := by decide +kernel
theorem d_LA_cut_1 : decode b_LA_cut 1 = .ok (.iconst 0, 1) := by decide +kernel
theorem d_LA_cut_2 : decode b_LA_cut 2 = .ok (.aload_n 0, 1) := by decide +kernel
theorem d_LA_cut_3 : decode b_LA_cut 3 = .ok (.invokevirtual 31, 3) := by decide +kernel
theorem d_LA_cut_6 : decode b_LA_cut 6 = .ok (.i2l, 1) := by decide +kernel
theorem d_LA_cut_7 : decode b_LA_cut 7 = .ok (.lastore, 1) := by decide +kernel
theorem d_LA_cut_8 : decode b_LA_cut 8 = .ok (.goto (9), 3) := by decide +kernel
theorem d_LA_cut_11 : decode b_LA_cut 11 = .ok (.astore_n 2, 1) := by decide +kernel
theorem d_LA_cut_12 : decode b_LA_cut 12 = .ok (.iconst 1, 1) := by decide +kernel
theorem d_LA_cut_13 : decode b_LA_cut 13 = .ok (.ireturn, 1) := by decide +kernel
theorem d_LA_cut_14 : decode b_LA_cut 14 = .ok (.astore_n 2, 1) := by decide +kernel
theorem d_LA_cut_15 : decode b_LA_cut 15 = .ok (.iconst 2, 1) := by decide +kernel
theorem d_LA_cut_16 : decode b_LA_cut 16 = .ok (.ireturn, 1) := by decide +kernel
theorem d_LA_cut_17 : decode b_LA_cut 17 = .ok (.iconst 0, 1) := by decide +kernel
theorem d_LA_cut_18 : decode b_LA_cut 18 = .ok (.ireturn, 1) := by decide +kernel
theorem d_LA_strip_0 : decode b_LA_strip 0 = .ok (.aload 4, 2) := by decide +kernel
theorem d_LA_strip_2 : decode b_LA_strip 2 = .ok (.iconst 0, 1) := by decide +kernel
theorem d_LA_strip_3 : decode b_LA_strip 3 = .ok (.aload_n 0, 1) := by decide +kernel
theorem d_LA_strip_4 : decode b_LA_strip 4 = .ok (.iload_n 1, 1) := by decide +kernel
theorem d_LA_strip_5 : decode b_LA_strip 5 = .ok (.iload_n 2, 1) := by decide +kernel
theorem d_LA_strip_6 : decode b_LA_strip 6 = .ok (.iload_n 3, 1) := by decide +kernel
theorem d_LA_strip_7 : decode b_LA_strip 7 = .ok (.invokevirtual 37, 3) := by decide +kernel
theorem d_LA_strip_10 : decode b_LA_strip 10 = .ok (.i2l, 1) := by decide +kernel
theorem d_LA_strip_11 : decode b_LA_strip 11 = .ok (.lastore, 1) := by decide +kernel
theorem d_LA_strip_12 : decode b_LA_strip 12 = .ok (.goto (7), 3) := by decide +kernel
theorem d_LA_strip_15 : decode b_LA_strip 15 = .ok (.astore 5, 2) := by decide +kernel
theorem d_LA_strip_17 : decode b_LA_strip 17 = .ok (.iconst 1, 1) := by decide +kernel
theorem d_LA_strip_18 : decode b_LA_strip 18 = .ok (.ireturn, 1) := by decide +kernel
theorem d_LA_strip_19 : decode b_LA_strip 19 = .ok (.iconst 0, 1) := by decide +kernel
theorem d_LA_strip_20 : decode b_LA_strip 20 = .ok (.ireturn, 1) := by decide +kernel
theorem d_LA_scrap_0 : decode b_LA_scrap 0 = .ok (.aload_n 2, 1) := by decide +kernel
theorem d_LA_scrap_1 : decode b_LA_scrap 1 = .ok (.iconst 0, 1) := by decide +kernel
theorem d_LA_scrap_2 : decode b_LA_scrap 2 = .ok (.aload_n 0, 1) := by decide +kernel
theorem d_LA_scrap_3 : decode b_LA_scrap 3 = .ok (.iload_n 1, 1) := by decide +kernel
theorem d_LA_scrap_4 : decode b_LA_scrap 4 = .ok (.invokevirtual 41, 3) := by decide +kernel
theorem d_LA_scrap_7 : decode b_LA_scrap 7 = .ok (.i2l, 1) := by decide +kernel
theorem d_LA_scrap_8 : decode b_LA_scrap 8 = .ok (.lastore, 1) := by decide +kernel
theorem d_LA_scrap_9 : decode b_LA_scrap 9 = .ok (.goto (6), 3) := by decide +kernel
theorem d_LA_scrap_12 : decode b_LA_scrap 12 = .ok (.astore_n 3, 1) := by decide +kernel
theorem d_LA_scrap_13 : decode b_LA_scrap 13 = .ok (.iconst 1, 1) := by decide +kernel
theorem d_LA_scrap_14 : decode b_LA_scrap 14 = .ok (.ireturn, 1) := by decide +kernel
theorem d_LA_scrap_15 : decode b_LA_scrap 15 = .ok (.iconst 0, 1) := by decide +kernel
theorem d_LA_scrap_16 : decode b_LA_scrap 16 = .ok (.ireturn, 1) := by decide +kernel
theorem d_LA_moves_0 : decode b_LA_moves 0 = .ok (.aload_n 3, 1) := by decide +kernel
theorem d_LA_moves_1 : decode b_LA_moves 1 = .ok (.iconst 0, 1) := by decide +kernel
theorem d_LA_moves_2 : decode b_LA_moves 2 = .ok (.aload_n 0, 1) := by decide +kernel
theorem d_LA_moves_3 : decode b_LA_moves 3 = .ok (.iload_n 1, 1) := by decide +kernel
theorem d_LA_moves_4 : decode b_LA_moves 4 = .ok (.iload_n 2, 1) := by decide +kernel
theorem d_LA_moves_5 : decode b_LA_moves 5 = .ok (.invokevirtual 44, 3) := by decide +kernel
theorem d_LA_moves_8 : decode b_LA_moves 8 = .ok (.i2l, 1) := by decide +kernel
theorem d_LA_moves_9 : decode b_LA_moves 9 = .ok (.lastore, 1) := by decide +kernel
theorem d_LA_moves_10 : decode b_LA_moves 10 = .ok (.goto (7), 3) := by decide +kernel
theorem d_LA_moves_13 : decode b_LA_moves 13 = .ok (.astore 4, 2) := by decide +kernel
theorem d_LA_moves_15 : decode b_LA_moves 15 = .ok (.iconst 1, 1) := by decide +kernel
theorem d_LA_moves_16 : decode b_LA_moves 16 = .ok (.ireturn, 1) := by decide +kernel
theorem d_LA_moves_17 : decode b_LA_moves 17 = .ok (.iconst 0, 1) := by decide +kernel
theorem d_LA_moves_18 : decode b_LA_moves 18 = .ok (.ireturn, 1) := by decide +kernel
theorem d_LA_ordered_0 : decode b_LA_ordered 0 = .ok (.aload_n 2, 1) := by decide +kernel
theorem d_LA_ordered_1 : decode b_LA_ordered 1 = .ok (.iconst 0, 1) := by decide +kernel
theorem d_LA_ordered_2 : decode b_LA_ordered 2 = .ok (.aload_n 0, 1) := by decide +kernel
theorem d_LA_ordered_3 : decode b_LA_ordered 3 = .ok (.iload_n 1, 1) := by decide +kernel
theorem d_LA_ordered_4 : decode b_LA_ordered 4 = .ok (.invokevirtual 47, 3) := by decide +kernel
theorem d_LA_ordered_7 : decode b_LA_ordered 7 = .ok (.i2l, 1) := by decide +kernel
theorem d_LA_ordered_8 : decode b_LA_ordered 8 = .ok (.lastore, 1) := by decide +kernel
theorem d_LA_ordered_9 : decode b_LA_ordered 9 = .ok (.goto (6), 3) := by decide +kernel
theorem d_LA_ordered_12 : decode b_LA_ordered 12 = .ok (.astore_n 3, 1) := by decide +kernel
theorem d_LA_ordered_13 : decode b_LA_ordered 13 = .ok (.iconst 1, 1) := by decide +kernel
theorem d_LA_ordered_14 : decode b_LA_ordered 14 = .ok (.ireturn, 1) := by decide +kernel
theorem d_LA_ordered_15 : decode b_LA_ordered 15 = .ok (.iconst 0, 1) := by decide +kernel
theorem d_LA_ordered_16 : decode b_LA_ordered 16 = .ok (.ireturn, 1) := by decide +kernel
theorem d_LA_defect_0 : decode b_LA_defect 0 = .ok (.aload_n 3, 1) := by decide +kernel
theorem d_LA_defect_1 : decode b_LA_defect 1 = .ok (.iconst 0, 1) := by decide +kernel
theorem d_LA_defect_2 : decode b_LA_defect 2 = .ok (.aload_n 0, 1) := by decide +kernel
theorem d_LA_defect_3 : decode b_LA_defect 3 = .ok (.iload_n 1, 1) := by decide +kernel
theorem d_LA_defect_4 : decode b_LA_defect 4 = .ok (.iload_n 2, 1) := by decide +kernel
theorem d_LA_defect_5 : decode b_LA_defect 5 = .ok (.invokevirtual 50, 3) := by decide +kernel
theorem d_LA_defect_8 : decode b_LA_defect 8 = .ok (.i2l, 1) := by decide +kernel
theorem d_LA_defect_9 : decode b_LA_defect 9 = .ok (.lastore, 1) := by decide +kernel
theorem d_LA_defect_10 : decode b_LA_defect 10 = .ok (.goto (11), 3) := by decide +kernel
theorem d_LA_defect_13 : decode b_LA_defect 13 = .ok (.astore 4, 2) := by decide +kernel
theorem d_LA_defect_15 : decode b_LA_defect 15 = .ok (.iconst 1, 1) := by decide +kernel
theorem d_LA_defect_16 : decode b_LA_defect 16 = .ok (.ireturn, 1) := by decide +kernel
theorem d_LA_defect_17 : decode b_LA_defect 17 = .ok (.astore 4, 2) := by decide +kernel
theorem d_LA_defect_19 : decode b_LA_defect 19 = .ok (.iconst 2, 1) := by decide +kernel
theorem d_LA_defect_20 : decode b_LA_defect 20 = .ok (.ireturn, 1) := by decide +kernel
theorem d_LA_defect_21 : decode b_LA_defect 21 = .ok (.iconst 0, 1) := by decide +kernel
theorem d_LA_defect_22 : decode b_LA_defect 22 = .ok (.ireturn, 1) := by decide +kernel
theorem d_LA_shift_0 : decode b_LA_shift 0 = .ok (.aload_n 2, 1) := by decide +kernel
theorem d_LA_shift_1 : decode b_LA_shift 1 = .ok (.iconst 0, 1) := by decide +kernel
theorem d_LA_shift_2 : decode b_LA_shift 2 = .ok (.aload_n 0, 1) := by decide +kernel
theorem d_LA_shift_3 : decode b_LA_shift 3 = .ok (.iload_n 1, 1) := by decide +kernel
theorem d_LA_shift_4 : decode b_LA_shift 4 = .ok (.invokevirtual 53, 3) := by decide +kernel
theorem d_LA_shift_7 : decode b_LA_shift 7 = .ok (.i2l, 1) := by decide +kernel
theorem d_LA_shift_8 : decode b_LA_shift 8 = .ok (.lastore, 1) := by decide +kernel
theorem d_LA_shift_9 : decode b_LA_shift 9 = .ok (.goto (9), 3) := by decide +kernel
theorem d_LA_shift_12 : decode b_LA_shift 12 = .ok (.astore_n 3, 1) := by decide +kernel
theorem d_LA_shift_13 : decode b_LA_shift 13 = .ok (.iconst 1, 1) := by decide +kernel
theorem d_LA_shift_14 : decode b_LA_shift 14 = .ok (.ireturn, 1) := by decide +kernel
theorem d_LA_shift_15 : decode b_LA_shift 15 = .ok (.astore_n 3, 1) := by decide +kernel
theorem d_LA_shift_16 : decode b_LA_shift 16 = .ok (.iconst 2, 1) := by decide +kernel
theorem d_LA_shift_17 : decode b_LA_shift 17 = .ok (.ireturn, 1) := by decide +kernel
theorem d_LA_shift_18 : decode b_LA_shift 18 = .ok (.iconst 0, 1) := by decide +kernel
theorem d_LA_shift_19 : decode b_LA_shift 19 = .ok (.ireturn, 1) := by decide +kernel
