/-! SlitWidths -/
abbrev ro_Qv : Array Value → State → Outcome → State → Prop := va_Qv (fun _ : Unit => True) (fun _ _ => True) ro_no
section SWR
variable {p : Program} {l : Launch} {e : Env} {R : Room} {s : State} {m : MethodId} {args : Array Value} {below : List Frame} {meth : Method} {c : Code} {H : Heap} {locs : List Loc} {cells slots : Nat} {Q : State → Prop} {pc : Nat} {ls : Array Slot} {rest st0 : List Value} {D : va_G} {cl : List vw_C} {ws : va_W} {A0 : Nat → Prop} {H0 : Heap} {a : Array Value}
theorem ro_callv (hr : va_Run p l e R s m args below meth c H locs cells slots 0 0 (F0 m pc ls st0) rest (ro_Qv a) ro_no) (hS : va_S A0 H0 H locs) (hP : va_P D cl ws H)
    (kk : ∀ (H1 : Heap) (locs1 : List Loc), va_P D cl ws H1 → va_S A0 H0 H1 locs1 → W p l e R s m args below meth c H1 locs1 cells slots Q (F0 m (pc + 3) ls rest)) : W p l e R s m args below meth c H locs cells slots Q (F0 m pc ls st0) :=
  va_callv hr hS (fun _ _ h => h.elim) (fun _ h => h.elim) (fun _ t H1 locs1 _ _ _ _ _ hk hS1 => kk H1 locs1 (hP.same hk) hS1)
end SWR
theorem EY.ofS {e1 e2 : Nat} {s : State} {H : Heap} {locs : List Loc} {A : Nat → Prop} (h : EY e1 e2 s s.heap) (hS : va_S A s.heap H locs) (n1 : ¬ A e1) (n2 : ¬ A e2) : EY e1 e2 s H := h.kept (hS.2.1 e1 h.1.2.1.lt n1) (hS.2.1 e2 h.1.2.2.lt n2)
theorem EY.ro {e1 e2 : Nat} {s : State} {H : Heap} {locs : List Loc} (h : EY e1 e2 s s.heap) (hS : va_S ro_no s.heap H locs) : EY e1 e2 s H := h.ofS hS id id
theorem B0.ro {s st t t2 : State} {H H1 : Heap} {locs : List Loc} (hS : va_S ro_no s.heap H locs) (h0 : st.heap = H) (h1 : t.heap = H1) (hB : B0 st t) (h2 : t2.heap = H1) : B0 s t2 := by
  subst h0; subst h1
  refine ⟨by rw [h2]; exact Nat.le_trans hS.1 hB.1, fun q hq => ?_⟩
  rw [h2, hB.2 q (Nat.lt_of_lt_of_le hq hS.1)]
  exact hS.2.1 q hq id
theorem at_64 : (Bundle.ownAtoms "SlitWidths" 64 "java/lang/IllegalArgumentException" ["java/lang/RuntimeException", "java/lang/Exception"]).all okAtom = true := by decide +kernel
theorem at_93 : (Bundle.ownAtoms "SlitWidths" 93 "java/lang/IllegalStateException" ["java/lang/RuntimeException", "java/lang/Exception"]).all okAtom = true := by decide +kernel
theorem at_128 : (Bundle.ownAtoms "SlitWidths" 128 "java/lang/UnsupportedOperationException" ["java/lang/RuntimeException", "java/lang/Exception"]).all okAtom = true := by decide +kernel
theorem at_145 : (Bundle.ownAtoms "SlitWidths" 145 "java/lang/IndexOutOfBoundsException" ["java/lang/RuntimeException", "java/lang/Exception"]).all okAtom = true := by decide +kernel
theorem d_SW_init_0 : decode b_SW_init 0 = .ok (.aload_n 0, 1) := by decide +kernel
theorem d_SW_init_1 : decode b_SW_init 1 = .ok (.invokespecial 3, 3) := by decide +kernel
theorem d_SW_init_4 : decode b_SW_init 4 = .ok (.aload_n 0, 1) := by decide +kernel
theorem d_SW_init_5 : decode b_SW_init 5 = .ok (.new 9, 3) := by decide +kernel
theorem d_SW_init_8 : decode b_SW_init 8 = .ok (.dup, 1) := by decide +kernel
theorem d_SW_init_9 : decode b_SW_init 9 = .ok (.invokespecial 11, 3) := by decide +kernel
theorem d_SW_init_12 : decode b_SW_init 12 = .ok (.putfield 12, 3) := by decide +kernel
theorem d_SW_init_15 : decode b_SW_init 15 = .ok (.aload_n 0, 1) := by decide +kernel
theorem d_SW_init_16 : decode b_SW_init 16 = .ok (.new 16, 3) := by decide +kernel
theorem d_SW_init_19 : decode b_SW_init 19 = .ok (.dup, 1) := by decide +kernel
theorem d_SW_init_20 : decode b_SW_init 20 = .ok (.invokespecial 18, 3) := by decide +kernel
theorem d_SW_init_23 : decode b_SW_init 23 = .ok (.putfield 19, 3) := by decide +kernel
theorem d_SW_init_26 : decode b_SW_init 26 = .ok (.aload_n 0, 1) := by decide +kernel
theorem d_SW_init_27 : decode b_SW_init 27 = .ok (.new 23, 3) := by decide +kernel
theorem d_SW_init_30 : decode b_SW_init 30 = .ok (.dup, 1) := by decide +kernel
theorem d_SW_init_31 : decode b_SW_init 31 = .ok (.invokespecial 25, 3) := by decide +kernel
theorem d_SW_init_34 : decode b_SW_init 34 = .ok (.putfield 26, 3) := by decide +kernel
theorem d_SW_init_37 : decode b_SW_init 37 = .ok (.aload_n 0, 1) := by decide +kernel
theorem d_SW_init_38 : decode b_SW_init 38 = .ok (.new 30, 3) := by decide +kernel
theorem d_SW_init_41 : decode b_SW_init 41 = .ok (.dup, 1) := by decide +kernel
theorem d_SW_init_42 : decode b_SW_init 42 = .ok (.invokespecial 32, 3) := by decide +kernel
theorem d_SW_init_45 : decode b_SW_init 45 = .ok (.putfield 33, 3) := by decide +kernel
theorem d_SW_init_48 : decode b_SW_init 48 = .ok (.aload_n 0, 1) := by decide +kernel
theorem d_SW_init_49 : decode b_SW_init 49 = .ok (.new 37, 3) := by decide +kernel
theorem d_SW_init_52 : decode b_SW_init 52 = .ok (.dup, 1) := by decide +kernel
theorem d_SW_init_53 : decode b_SW_init 53 = .ok (.invokespecial 39, 3) := by decide +kernel
theorem d_SW_init_56 : decode b_SW_init 56 = .ok (.putfield 40, 3) := by decide +kernel
theorem d_SW_init_59 : decode b_SW_init 59 = .ok (.aload_n 0, 1) := by decide +kernel
theorem d_SW_init_60 : decode b_SW_init 60 = .ok (.bipush 9, 2) := by decide +kernel
theorem d_SW_init_62 : decode b_SW_init 62 = .ok (.anewarray 44, 3) := by decide +kernel
theorem d_SW_init_65 : decode b_SW_init 65 = .ok (.putfield 46, 3) := by decide +kernel
theorem d_SW_init_68 : decode b_SW_init 68 = .ok (.iconst 0, 1) := by decide +kernel
theorem d_SW_init_69 : decode b_SW_init 69 = .ok (.istore_n 1, 1) := by decide +kernel
theorem d_SW_init_70 : decode b_SW_init 70 = .ok (.iload_n 1, 1) := by decide +kernel
theorem d_SW_init_71 : decode b_SW_init 71 = .ok (.bipush 9, 2) := by decide +kernel
theorem d_SW_init_73 : decode b_SW_init 73 = .ok (.if_icmp .ge (22), 3) := by decide +kernel
theorem d_SW_init_76 : decode b_SW_init 76 = .ok (.aload_n 0, 1) := by decide +kernel
theorem d_SW_init_77 : decode b_SW_init 77 = .ok (.getfield 46, 3) := by decide +kernel
theorem d_SW_init_80 : decode b_SW_init 80 = .ok (.iload_n 1, 1) := by decide +kernel
theorem d_SW_init_81 : decode b_SW_init 81 = .ok (.new 44, 3) := by decide +kernel
theorem d_SW_init_84 : decode b_SW_init 84 = .ok (.dup, 1) := by decide +kernel
theorem d_SW_init_85 : decode b_SW_init 85 = .ok (.invokespecial 50, 3) := by decide +kernel
theorem d_SW_init_88 : decode b_SW_init 88 = .ok (.aastore, 1) := by decide +kernel
theorem d_SW_init_89 : decode b_SW_init 89 = .ok (.iinc 1 1, 3) := by decide +kernel
theorem d_SW_init_92 : decode b_SW_init 92 = .ok (.goto (-22), 3) := by decide +kernel
theorem d_SW_init_95 : decode b_SW_init 95 = .ok (.aload_n 0, 1) := by decide +kernel
theorem d_SW_init_96 : decode b_SW_init 96 = .ok (.iconst 0, 1) := by decide +kernel
theorem d_SW_init_97 : decode b_SW_init 97 = .ok (.putfield 51, 3) := by decide +kernel
theorem d_SW_init_100 : decode b_SW_init 100 = .ok (.return_, 1) := by decide +kernel
theorem d_SW_coil_0 : decode b_SW_coil 0 = .ok (.iload_n 1, 1) := by decide +kernel
theorem d_SW_coil_1 : decode b_SW_coil 1 = .ok (.iconst 1, 1) := by decide +kernel
theorem d_SW_coil_2 : decode b_SW_coil 2 = .ok (.sipush 20000, 3) := by decide +kernel
theorem d_SW_coil_5 : decode b_SW_coil 5 = .ok (.invokestatic 55, 3) := by decide +kernel
theorem d_SW_coil_8 : decode b_SW_coil 8 = .ok (.ifCond .eq (46), 3) := by decide +kernel
theorem d_SW_coil_11 : decode b_SW_coil 11 = .ok (.iload_n 2, 1) := by decide +kernel
theorem d_SW_coil_12 : decode b_SW_coil 12 = .ok (.iconst 1, 1) := by decide +kernel
theorem d_SW_coil_13 : decode b_SW_coil 13 = .ok (.ldc 59, 2) := by decide +kernel
theorem d_SW_coil_15 : decode b_SW_coil 15 = .ok (.invokestatic 55, 3) := by decide +kernel
theorem d_SW_coil_18 : decode b_SW_coil 18 = .ok (.ifCond .eq (36), 3) := by decide +kernel
theorem d_SW_coil_21 : decode b_SW_coil 21 = .ok (.iload_n 3, 1) := by decide +kernel
theorem d_SW_coil_22 : decode b_SW_coil 22 = .ok (.iconst 0, 1) := by decide +kernel
theorem d_SW_coil_23 : decode b_SW_coil 23 = .ok (.sipush 1000, 3) := by decide +kernel
theorem d_SW_coil_26 : decode b_SW_coil 26 = .ok (.invokestatic 55, 3) := by decide +kernel
theorem d_SW_coil_29 : decode b_SW_coil 29 = .ok (.ifCond .eq (25), 3) := by decide +kernel
theorem d_SW_coil_32 : decode b_SW_coil 32 = .ok (.iload 4, 2) := by decide +kernel
theorem d_SW_coil_34 : decode b_SW_coil 34 = .ok (.iconst 0, 1) := by decide +kernel
theorem d_SW_coil_35 : decode b_SW_coil 35 = .ok (.bipush 100, 2) := by decide +kernel
theorem d_SW_coil_37 : decode b_SW_coil 37 = .ok (.invokestatic 55, 3) := by decide +kernel
theorem d_SW_coil_40 : decode b_SW_coil 40 = .ok (.ifCond .eq (14), 3) := by decide +kernel
theorem d_SW_coil_43 : decode b_SW_coil 43 = .ok (.iload 5, 2) := by decide +kernel
theorem d_SW_coil_45 : decode b_SW_coil 45 = .ok (.iconst 2, 1) := by decide +kernel
theorem d_SW_coil_46 : decode b_SW_coil 46 = .ok (.bipush 40, 2) := by decide +kernel
theorem d_SW_coil_48 : decode b_SW_coil 48 = .ok (.invokestatic 55, 3) := by decide +kernel
theorem d_SW_coil_51 : decode b_SW_coil 51 = .ok (.ifCond .ne (13), 3) := by decide +kernel
theorem d_SW_coil_54 : decode b_SW_coil 54 = .ok (.new 60, 3) := by decide +kernel
theorem d_SW_coil_57 : decode b_SW_coil 57 = .ok (.dup, 1) := by decide +kernel
theorem d_SW_coil_58 : decode b_SW_coil 58 = .ok (.ldc 62, 2) := by decide +kernel
theorem d_SW_coil_60 : decode b_SW_coil 60 = .ok (.invokespecial 64, 3) := by decide +kernel
theorem d_SW_coil_63 : decode b_SW_coil 63 = .ok (.athrow, 1) := by decide +kernel
theorem d_SW_coil_64 : decode b_SW_coil 64 = .ok (.aload_n 0, 1) := by decide +kernel
theorem d_SW_coil_65 : decode b_SW_coil 65 = .ok (.getfield 12, 3) := by decide +kernel
theorem d_SW_coil_68 : decode b_SW_coil 68 = .ok (.iload_n 1, 1) := by decide +kernel
theorem d_SW_coil_69 : decode b_SW_coil 69 = .ok (.putfield 67, 3) := by decide +kernel
theorem d_SW_coil_72 : decode b_SW_coil 72 = .ok (.aload_n 0, 1) := by decide +kernel
theorem d_SW_coil_73 : decode b_SW_coil 73 = .ok (.getfield 12, 3) := by decide +kernel
theorem d_SW_coil_76 : decode b_SW_coil 76 = .ok (.iload_n 2, 1) := by decide +kernel
theorem d_SW_coil_77 : decode b_SW_coil 77 = .ok (.putfield 70, 3) := by decide +kernel
theorem d_SW_coil_80 : decode b_SW_coil 80 = .ok (.aload_n 0, 1) := by decide +kernel
theorem d_SW_coil_81 : decode b_SW_coil 81 = .ok (.getfield 12, 3) := by decide +kernel
theorem d_SW_coil_84 : decode b_SW_coil 84 = .ok (.iload_n 3, 1) := by decide +kernel
theorem d_SW_coil_85 : decode b_SW_coil 85 = .ok (.putfield 73, 3) := by decide +kernel
theorem d_SW_coil_88 : decode b_SW_coil 88 = .ok (.aload_n 0, 1) := by decide +kernel
theorem d_SW_coil_89 : decode b_SW_coil 89 = .ok (.getfield 12, 3) := by decide +kernel
theorem d_SW_coil_92 : decode b_SW_coil 92 = .ok (.iload 4, 2) := by decide +kernel
theorem d_SW_coil_94 : decode b_SW_coil 94 = .ok (.putfield 76, 3) := by decide +kernel
theorem d_SW_coil_97 : decode b_SW_coil 97 = .ok (.aload_n 0, 1) := by decide +kernel
theorem d_SW_coil_98 : decode b_SW_coil 98 = .ok (.getfield 12, 3) := by decide +kernel
theorem d_SW_coil_101 : decode b_SW_coil 101 = .ok (.iload 5, 2) := by decide +kernel
theorem d_SW_coil_103 : decode b_SW_coil 103 = .ok (.putfield 79, 3) := by decide +kernel
theorem d_SW_coil_106 : decode b_SW_coil 106 = .ok (.aload_n 0, 1) := by decide +kernel
theorem d_SW_coil_107 : decode b_SW_coil 107 = .ok (.getfield 26, 3) := by decide +kernel
theorem d_SW_coil_110 : decode b_SW_coil 110 = .ok (.iconst 0, 1) := by decide +kernel
theorem d_SW_coil_111 : decode b_SW_coil 111 = .ok (.putfield 82, 3) := by decide +kernel
theorem d_SW_coil_114 : decode b_SW_coil 114 = .ok (.return_, 1) := by decide +kernel
theorem d_SW_want_0 : decode b_SW_want 0 = .ok (.aload_n 0, 1) := by decide +kernel
theorem d_SW_want_1 : decode b_SW_want 1 = .ok (.getfield 19, 3) := by decide +kernel
theorem d_SW_want_4 : decode b_SW_want 4 = .ok (.getfield 86, 3) := by decide +kernel
theorem d_SW_want_7 : decode b_SW_want 7 = .ok (.iconst 5, 1) := by decide +kernel
theorem d_SW_want_8 : decode b_SW_want 8 = .ok (.if_icmp .lt (13), 3) := by decide +kernel
theorem d_SW_want_11 : decode b_SW_want 11 = .ok (.new 89, 3) := by decide +kernel
theorem d_SW_want_14 : decode b_SW_want 14 = .ok (.dup, 1) := by decide +kernel
theorem d_SW_want_15 : decode b_SW_want 15 = .ok (.ldc 91, 2) := by decide +kernel
theorem d_SW_want_17 : decode b_SW_want 17 = .ok (.invokespecial 93, 3) := by decide +kernel
theorem d_SW_want_20 : decode b_SW_want 20 = .ok (.athrow, 1) := by decide +kernel
theorem d_SW_want_21 : decode b_SW_want 21 = .ok (.iload_n 1, 1) := by decide +kernel
theorem d_SW_want_22 : decode b_SW_want 22 = .ok (.iconst 1, 1) := by decide +kernel
theorem d_SW_want_23 : decode b_SW_want 23 = .ok (.sipush 20000, 3) := by decide +kernel
theorem d_SW_want_26 : decode b_SW_want 26 = .ok (.invokestatic 55, 3) := by decide +kernel
theorem d_SW_want_29 : decode b_SW_want 29 = .ok (.ifCond .eq (13), 3) := by decide +kernel
theorem d_SW_want_32 : decode b_SW_want 32 = .ok (.iload_n 2, 1) := by decide +kernel
theorem d_SW_want_33 : decode b_SW_want 33 = .ok (.iconst 0, 1) := by decide +kernel
theorem d_SW_want_34 : decode b_SW_want 34 = .ok (.bipush 6, 2) := by decide +kernel
theorem d_SW_want_36 : decode b_SW_want 36 = .ok (.invokestatic 55, 3) := by decide +kernel
theorem d_SW_want_39 : decode b_SW_want 39 = .ok (.ifCond .ne (13), 3) := by decide +kernel
theorem d_SW_want_42 : decode b_SW_want 42 = .ok (.new 60, 3) := by decide +kernel
theorem d_SW_want_45 : decode b_SW_want 45 = .ok (.dup, 1) := by decide +kernel
theorem d_SW_want_46 : decode b_SW_want 46 = .ok (.ldc 94, 2) := by decide +kernel
theorem d_SW_want_48 : decode b_SW_want 48 = .ok (.invokespecial 64, 3) := by decide +kernel
theorem d_SW_want_51 : decode b_SW_want 51 = .ok (.athrow, 1) := by decide +kernel
theorem d_SW_want_52 : decode b_SW_want 52 = .ok (.aload_n 0, 1) := by decide +kernel
theorem d_SW_want_53 : decode b_SW_want 53 = .ok (.getfield 19, 3) := by decide +kernel
theorem d_SW_want_56 : decode b_SW_want 56 = .ok (.getfield 86, 3) := by decide +kernel
theorem d_SW_want_59 : decode b_SW_want 59 = .ok (.istore_n 3, 1) := by decide +kernel
theorem d_SW_want_60 : decode b_SW_want 60 = .ok (.aload_n 0, 1) := by decide +kernel
theorem d_SW_want_61 : decode b_SW_want 61 = .ok (.getfield 19, 3) := by decide +kernel
theorem d_SW_want_64 : decode b_SW_want 64 = .ok (.getfield 96, 3) := by decide +kernel
theorem d_SW_want_67 : decode b_SW_want 67 = .ok (.iload_n 3, 1) := by decide +kernel
theorem d_SW_want_68 : decode b_SW_want 68 = .ok (.iload_n 1, 1) := by decide +kernel
theorem d_SW_want_69 : decode b_SW_want 69 = .ok (.iastore, 1) := by decide +kernel
theorem d_SW_want_70 : decode b_SW_want 70 = .ok (.aload_n 0, 1) := by decide +kernel
theorem d_SW_want_71 : decode b_SW_want 71 = .ok (.getfield 19, 3) := by decide +kernel
theorem d_SW_want_74 : decode b_SW_want 74 = .ok (.getfield 100, 3) := by decide +kernel
theorem d_SW_want_77 : decode b_SW_want 77 = .ok (.iload_n 3, 1) := by decide +kernel
theorem d_SW_want_78 : decode b_SW_want 78 = .ok (.iload_n 2, 1) := by decide +kernel
theorem d_SW_want_79 : decode b_SW_want 79 = .ok (.iastore, 1) := by decide +kernel
theorem d_SW_want_80 : decode b_SW_want 80 = .ok (.aload_n 0, 1) := by decide +kernel
theorem d_SW_want_81 : decode b_SW_want 81 = .ok (.getfield 19, 3) := by decide +kernel
theorem d_SW_want_84 : decode b_SW_want 84 = .ok (.iload_n 3, 1) := by decide +kernel
theorem d_SW_want_85 : decode b_SW_want 85 = .ok (.iconst 1, 1) := by decide +kernel
theorem d_SW_want_86 : decode b_SW_want 86 = .ok (.iadd, 1) := by decide +kernel
theorem d_SW_want_87 : decode b_SW_want 87 = .ok (.putfield 86, 3) := by decide +kernel
theorem d_SW_want_90 : decode b_SW_want 90 = .ok (.aload_n 0, 1) := by decide +kernel
theorem d_SW_want_91 : decode b_SW_want 91 = .ok (.getfield 26, 3) := by decide +kernel
theorem d_SW_want_94 : decode b_SW_want 94 = .ok (.iconst 0, 1) := by decide +kernel
theorem d_SW_want_95 : decode b_SW_want 95 = .ok (.putfield 82, 3) := by decide +kernel
theorem d_SW_want_98 : decode b_SW_want 98 = .ok (.iload_n 3, 1) := by decide +kernel
theorem d_SW_want_99 : decode b_SW_want 99 = .ok (.ireturn, 1) := by decide +kernel
theorem d_SW_strips_0 : decode b_SW_strips 0 = .ok (.aload_n 0, 1) := by decide +kernel
theorem d_SW_strips_1 : decode b_SW_strips 1 = .ok (.iload_n 1, 1) := by decide +kernel
theorem d_SW_strips_2 : decode b_SW_strips 2 = .ok (.invokevirtual 103, 3) := by decide +kernel
theorem d_SW_strips_5 : decode b_SW_strips 5 = .ok (.iload_n 2, 1) := by decide +kernel
theorem d_SW_strips_6 : decode b_SW_strips 6 = .ok (.iconst 0, 1) := by decide +kernel
theorem d_SW_strips_7 : decode b_SW_strips 7 = .ok (.bipush 6, 2) := by decide +kernel
theorem d_SW_strips_9 : decode b_SW_strips 9 = .ok (.invokestatic 55, 3) := by decide +kernel
theorem d_SW_strips_12 : decode b_SW_strips 12 = .ok (.ifCond .ne (13), 3) := by decide +kernel
theorem d_SW_strips_15 : decode b_SW_strips 15 = .ok (.new 60, 3) := by decide +kernel
theorem d_SW_strips_18 : decode b_SW_strips 18 = .ok (.dup, 1) := by decide +kernel
theorem d_SW_strips_19 : decode b_SW_strips 19 = .ok (.ldc 107, 2) := by decide +kernel
theorem d_SW_strips_21 : decode b_SW_strips 21 = .ok (.invokespecial 64, 3) := by decide +kernel
theorem d_SW_strips_24 : decode b_SW_strips 24 = .ok (.athrow, 1) := by decide +kernel
theorem d_SW_strips_25 : decode b_SW_strips 25 = .ok (.aload_n 0, 1) := by decide +kernel
theorem d_SW_strips_26 : decode b_SW_strips 26 = .ok (.getfield 19, 3) := by decide +kernel
theorem d_SW_strips_29 : decode b_SW_strips 29 = .ok (.getfield 100, 3) := by decide +kernel
theorem d_SW_strips_32 : decode b_SW_strips 32 = .ok (.iload_n 1, 1) := by decide +kernel
theorem d_SW_strips_33 : decode b_SW_strips 33 = .ok (.iload_n 2, 1) := by decide +kernel
theorem d_SW_strips_34 : decode b_SW_strips 34 = .ok (.iastore, 1) := by decide +kernel
theorem d_SW_strips_35 : decode b_SW_strips 35 = .ok (.aload_n 0, 1) := by decide +kernel
theorem d_SW_strips_36 : decode b_SW_strips 36 = .ok (.getfield 26, 3) := by decide +kernel
theorem d_SW_strips_39 : decode b_SW_strips 39 = .ok (.iconst 0, 1) := by decide +kernel
theorem d_SW_strips_40 : decode b_SW_strips 40 = .ok (.putfield 82, 3) := by decide +kernel
theorem d_SW_strips_43 : decode b_SW_strips 43 = .ok (.return_, 1) := by decide +kernel
theorem d_SW_fill_0 : decode b_SW_fill 0 = .ok (.aload_n 0, 1) := by decide +kernel
theorem d_SW_fill_1 : decode b_SW_fill 1 = .ok (.getfield 26, 3) := by decide +kernel
theorem d_SW_fill_4 : decode b_SW_fill 4 = .ok (.aload_n 0, 1) := by decide +kernel
theorem d_SW_fill_5 : decode b_SW_fill 5 = .ok (.getfield 12, 3) := by decide +kernel
theorem d_SW_fill_8 : decode b_SW_fill 8 = .ok (.aload_n 0, 1) := by decide +kernel
theorem d_SW_fill_9 : decode b_SW_fill 9 = .ok (.getfield 19, 3) := by decide +kernel
theorem d_SW_fill_12 : decode b_SW_fill 12 = .ok (.invokevirtual 109, 3) := by decide +kernel
theorem d_SW_fill_15 : decode b_SW_fill 15 = .ok (.aload_n 0, 1) := by decide +kernel
theorem d_SW_fill_16 : decode b_SW_fill 16 = .ok (.getfield 26, 3) := by decide +kernel
theorem d_SW_fill_19 : decode b_SW_fill 19 = .ok (.getfield 113, 3) := by decide +kernel
theorem d_SW_fill_22 : decode b_SW_fill 22 = .ok (.ireturn, 1) := by decide +kernel
theorem d_SW_best_0 : decode b_SW_best 0 = .ok (.aload_n 0, 1) := by decide +kernel
theorem d_SW_best_1 : decode b_SW_best 1 = .ok (.iload_n 1, 1) := by decide +kernel
theorem d_SW_best_2 : decode b_SW_best 2 = .ok (.invokevirtual 103, 3) := by decide +kernel
theorem d_SW_best_5 : decode b_SW_best 5 = .ok (.aload_n 0, 1) := by decide +kernel
theorem d_SW_best_6 : decode b_SW_best 6 = .ok (.getfield 26, 3) := by decide +kernel
theorem d_SW_best_9 : decode b_SW_best 9 = .ok (.aload_n 0, 1) := by decide +kernel
theorem d_SW_best_10 : decode b_SW_best 10 = .ok (.getfield 12, 3) := by decide +kernel
theorem d_SW_best_13 : decode b_SW_best 13 = .ok (.aload_n 0, 1) := by decide +kernel
theorem d_SW_best_14 : decode b_SW_best 14 = .ok (.getfield 19, 3) := by decide +kernel
theorem d_SW_best_17 : decode b_SW_best 17 = .ok (.invokevirtual 109, 3) := by decide +kernel
theorem d_SW_best_20 : decode b_SW_best 20 = .ok (.aload_n 0, 1) := by decide +kernel
theorem d_SW_best_21 : decode b_SW_best 21 = .ok (.getfield 26, 3) := by decide +kernel
theorem d_SW_best_24 : decode b_SW_best 24 = .ok (.getfield 116, 3) := by decide +kernel
theorem d_SW_best_27 : decode b_SW_best 27 = .ok (.iload_n 1, 1) := by decide +kernel
theorem d_SW_best_28 : decode b_SW_best 28 = .ok (.iaload, 1) := by decide +kernel
theorem d_SW_best_29 : decode b_SW_best 29 = .ok (.ireturn, 1) := by decide +kernel
theorem d_SW_cut_0 : decode b_SW_cut 0 = .ok (.aload_n 0, 1) := by decide +kernel
theorem d_SW_cut_1 : decode b_SW_cut 1 = .ok (.getfield 51, 3) := by decide +kernel
theorem d_SW_cut_4 : decode b_SW_cut 4 = .ok (.bipush 9, 2) := by decide +kernel
theorem d_SW_cut_6 : decode b_SW_cut 6 = .ok (.if_icmp .lt (13), 3) := by decide +kernel
theorem d_SW_cut_9 : decode b_SW_cut 9 = .ok (.new 89, 3) := by decide +kernel
theorem d_SW_cut_12 : decode b_SW_cut 12 = .ok (.dup, 1) := by decide +kernel
theorem d_SW_cut_13 : decode b_SW_cut 13 = .ok (.ldc 119, 2) := by decide +kernel
theorem d_SW_cut_15 : decode b_SW_cut 15 = .ok (.invokespecial 93, 3) := by decide +kernel
theorem d_SW_cut_18 : decode b_SW_cut 18 = .ok (.athrow, 1) := by decide +kernel
theorem d_SW_cut_19 : decode b_SW_cut 19 = .ok (.aload_n 0, 1) := by decide +kernel
theorem d_SW_cut_20 : decode b_SW_cut 20 = .ok (.getfield 26, 3) := by decide +kernel
theorem d_SW_cut_23 : decode b_SW_cut 23 = .ok (.aload_n 0, 1) := by decide +kernel
theorem d_SW_cut_24 : decode b_SW_cut 24 = .ok (.getfield 12, 3) := by decide +kernel
theorem d_SW_cut_27 : decode b_SW_cut 27 = .ok (.aload_n 0, 1) := by decide +kernel
theorem d_SW_cut_28 : decode b_SW_cut 28 = .ok (.getfield 19, 3) := by decide +kernel
theorem d_SW_cut_31 : decode b_SW_cut 31 = .ok (.invokevirtual 109, 3) := by decide +kernel
theorem d_SW_cut_34 : decode b_SW_cut 34 = .ok (.aload_n 0, 1) := by decide +kernel
theorem d_SW_cut_35 : decode b_SW_cut 35 = .ok (.getfield 26, 3) := by decide +kernel
theorem d_SW_cut_38 : decode b_SW_cut 38 = .ok (.getfield 121, 3) := by decide +kernel
theorem d_SW_cut_41 : decode b_SW_cut 41 = .ok (.ifCond .ne (13), 3) := by decide +kernel
theorem d_SW_cut_44 : decode b_SW_cut 44 = .ok (.new 124, 3) := by decide +kernel
theorem d_SW_cut_47 : decode b_SW_cut 47 = .ok (.dup, 1) := by decide +kernel
theorem d_SW_cut_48 : decode b_SW_cut 48 = .ok (.ldc 126, 2) := by decide +kernel
theorem d_SW_cut_50 : decode b_SW_cut 50 = .ok (.invokespecial 128, 3) := by decide +kernel
theorem d_SW_cut_53 : decode b_SW_cut 53 = .ok (.athrow, 1) := by decide +kernel
theorem d_SW_cut_54 : decode b_SW_cut 54 = .ok (.aload_n 0, 1) := by decide +kernel
theorem d_SW_cut_55 : decode b_SW_cut 55 = .ok (.getfield 51, 3) := by decide +kernel
theorem d_SW_cut_58 : decode b_SW_cut 58 = .ok (.istore_n 1, 1) := by decide +kernel
theorem d_SW_cut_59 : decode b_SW_cut 59 = .ok (.aload_n 0, 1) := by decide +kernel
theorem d_SW_cut_60 : decode b_SW_cut 60 = .ok (.getfield 46, 3) := by decide +kernel
theorem d_SW_cut_63 : decode b_SW_cut 63 = .ok (.iload_n 1, 1) := by decide +kernel
theorem d_SW_cut_64 : decode b_SW_cut 64 = .ok (.aaload, 1) := by decide +kernel
theorem d_SW_cut_65 : decode b_SW_cut 65 = .ok (.aload_n 0, 1) := by decide +kernel
theorem d_SW_cut_66 : decode b_SW_cut 66 = .ok (.getfield 12, 3) := by decide +kernel
theorem d_SW_cut_69 : decode b_SW_cut 69 = .ok (.aload_n 0, 1) := by decide +kernel
theorem d_SW_cut_70 : decode b_SW_cut 70 = .ok (.getfield 19, 3) := by decide +kernel
theorem d_SW_cut_73 : decode b_SW_cut 73 = .ok (.aload_n 0, 1) := by decide +kernel
theorem d_SW_cut_74 : decode b_SW_cut 74 = .ok (.getfield 26, 3) := by decide +kernel
theorem d_SW_cut_77 : decode b_SW_cut 77 = .ok (.invokevirtual 129, 3) := by decide +kernel
theorem d_SW_cut_80 : decode b_SW_cut 80 = .ok (.aload_n 0, 1) := by decide +kernel
theorem d_SW_cut_81 : decode b_SW_cut 81 = .ok (.getfield 19, 3) := by decide +kernel
theorem d_SW_cut_84 : decode b_SW_cut 84 = .ok (.aload_n 0, 1) := by decide +kernel
theorem d_SW_cut_85 : decode b_SW_cut 85 = .ok (.getfield 26, 3) := by decide +kernel
theorem d_SW_cut_88 : decode b_SW_cut 88 = .ok (.getfield 116, 3) := by decide +kernel
theorem d_SW_cut_91 : decode b_SW_cut 91 = .ok (.invokevirtual 133, 3) := by decide +kernel
theorem d_SW_cut_94 : decode b_SW_cut 94 = .ok (.aload_n 0, 1) := by decide +kernel
theorem d_SW_cut_95 : decode b_SW_cut 95 = .ok (.iload_n 1, 1) := by decide +kernel
theorem d_SW_cut_96 : decode b_SW_cut 96 = .ok (.iconst 1, 1) := by decide +kernel
theorem d_SW_cut_97 : decode b_SW_cut 97 = .ok (.iadd, 1) := by decide +kernel
theorem d_SW_cut_98 : decode b_SW_cut 98 = .ok (.putfield 51, 3) := by decide +kernel
theorem d_SW_cut_101 : decode b_SW_cut 101 = .ok (.aload_n 0, 1) := by decide +kernel
theorem d_SW_cut_102 : decode b_SW_cut 102 = .ok (.getfield 26, 3) := by decide +kernel
theorem d_SW_cut_105 : decode b_SW_cut 105 = .ok (.iconst 0, 1) := by decide +kernel
theorem d_SW_cut_106 : decode b_SW_cut 106 = .ok (.putfield 82, 3) := by decide +kernel
theorem d_SW_cut_109 : decode b_SW_cut 109 = .ok (.aload_n 0, 1) := by decide +kernel
theorem d_SW_cut_110 : decode b_SW_cut 110 = .ok (.getfield 40, 3) := by decide +kernel
theorem d_SW_cut_113 : decode b_SW_cut 113 = .ok (.iconst 0, 1) := by decide +kernel
theorem d_SW_cut_114 : decode b_SW_cut 114 = .ok (.putfield 137, 3) := by decide +kernel
theorem d_SW_cut_117 : decode b_SW_cut 117 = .ok (.iload_n 1, 1) := by decide +kernel
theorem d_SW_cut_118 : decode b_SW_cut 118 = .ok (.ireturn, 1) := by decide +kernel
theorem d_SW_strip_0 : decode b_SW_strip 0 = .ok (.aload_n 0, 1) := by decide +kernel
theorem d_SW_strip_1 : decode b_SW_strip 1 = .ok (.iload_n 1, 1) := by decide +kernel
theorem d_SW_strip_2 : decode b_SW_strip 2 = .ok (.invokevirtual 138, 3) := by decide +kernel
theorem d_SW_strip_5 : decode b_SW_strip 5 = .ok (.iload_n 2, 1) := by decide +kernel
theorem d_SW_strip_6 : decode b_SW_strip 6 = .ok (.ifCond .lt (12), 3) := by decide +kernel
theorem d_SW_strip_9 : decode b_SW_strip 9 = .ok (.iload_n 3, 1) := by decide +kernel
theorem d_SW_strip_10 : decode b_SW_strip 10 = .ok (.iconst 0, 1) := by decide +kernel
theorem d_SW_strip_11 : decode b_SW_strip 11 = .ok (.iconst 3, 1) := by decide +kernel
theorem d_SW_strip_12 : decode b_SW_strip 12 = .ok (.invokestatic 55, 3) := by decide +kernel
theorem d_SW_strip_15 : decode b_SW_strip 15 = .ok (.ifCond .ne (13), 3) := by decide +kernel
theorem d_SW_strip_18 : decode b_SW_strip 18 = .ok (.new 141, 3) := by decide +kernel
theorem d_SW_strip_21 : decode b_SW_strip 21 = .ok (.dup, 1) := by decide +kernel
theorem d_SW_strip_22 : decode b_SW_strip 22 = .ok (.ldc 143, 2) := by decide +kernel
theorem d_SW_strip_24 : decode b_SW_strip 24 = .ok (.invokespecial 145, 3) := by decide +kernel
theorem d_SW_strip_27 : decode b_SW_strip 27 = .ok (.athrow, 1) := by decide +kernel
theorem d_SW_strip_28 : decode b_SW_strip 28 = .ok (.aload_n 0, 1) := by decide +kernel
theorem d_SW_strip_29 : decode b_SW_strip 29 = .ok (.getfield 46, 3) := by decide +kernel
theorem d_SW_strip_32 : decode b_SW_strip 32 = .ok (.iload_n 1, 1) := by decide +kernel
theorem d_SW_strip_33 : decode b_SW_strip 33 = .ok (.aaload, 1) := by decide +kernel
theorem d_SW_strip_34 : decode b_SW_strip 34 = .ok (.astore 4, 2) := by decide +kernel
theorem d_SW_strip_36 : decode b_SW_strip 36 = .ok (.iload_n 2, 1) := by decide +kernel
theorem d_SW_strip_37 : decode b_SW_strip 37 = .ok (.aload 4, 2) := by decide +kernel
theorem d_SW_strip_39 : decode b_SW_strip 39 = .ok (.getfield 146, 3) := by decide +kernel
theorem d_SW_strip_42 : decode b_SW_strip 42 = .ok (.if_icmp .lt (5), 3) := by decide +kernel
theorem d_SW_strip_45 : decode b_SW_strip 45 = .ok (.iconst (-1), 1) := by decide +kernel
theorem d_SW_strip_46 : decode b_SW_strip 46 = .ok (.ireturn, 1) := by decide +kernel
theorem d_SW_strip_47 : decode b_SW_strip 47 = .ok (.iload_n 3, 1) := by decide +kernel
theorem d_SW_strip_48 : decode b_SW_strip 48 = .ok (.tableswitch 64 0 2 #[28, 36, 50], 28) := by decide +kernel
theorem d_SW_strip_76 : decode b_SW_strip 76 = .ok (.aload 4, 2) := by decide +kernel
theorem d_SW_strip_78 : decode b_SW_strip 78 = .ok (.getfield 149, 3) := by decide +kernel
theorem d_SW_strip_81 : decode b_SW_strip 81 = .ok (.iload_n 2, 1) := by decide +kernel
theorem d_SW_strip_82 : decode b_SW_strip 82 = .ok (.iaload, 1) := by decide +kernel
theorem d_SW_strip_83 : decode b_SW_strip 83 = .ok (.ireturn, 1) := by decide +kernel
theorem d_SW_strip_84 : decode b_SW_strip 84 = .ok (.aload 4, 2) := by decide +kernel
theorem d_SW_strip_86 : decode b_SW_strip 86 = .ok (.getfield 152, 3) := by decide +kernel
theorem d_SW_strip_89 : decode b_SW_strip 89 = .ok (.aload 4, 2) := by decide +kernel
theorem d_SW_strip_91 : decode b_SW_strip 91 = .ok (.getfield 155, 3) := by decide +kernel
theorem d_SW_strip_94 : decode b_SW_strip 94 = .ok (.iload_n 2, 1) := by decide +kernel
theorem d_SW_strip_95 : decode b_SW_strip 95 = .ok (.iaload, 1) := by decide +kernel
theorem d_SW_strip_96 : decode b_SW_strip 96 = .ok (.iadd, 1) := by decide +kernel
theorem d_SW_strip_97 : decode b_SW_strip 97 = .ok (.ireturn, 1) := by decide +kernel
theorem d_SW_strip_98 : decode b_SW_strip 98 = .ok (.aload 4, 2) := by decide +kernel
theorem d_SW_strip_100 : decode b_SW_strip 100 = .ok (.getfield 152, 3) := by decide +kernel
theorem d_SW_strip_103 : decode b_SW_strip 103 = .ok (.aload 4, 2) := by decide +kernel
theorem d_SW_strip_105 : decode b_SW_strip 105 = .ok (.getfield 158, 3) := by decide +kernel
theorem d_SW_strip_108 : decode b_SW_strip 108 = .ok (.iload_n 2, 1) := by decide +kernel
theorem d_SW_strip_109 : decode b_SW_strip 109 = .ok (.iaload, 1) := by decide +kernel
theorem d_SW_strip_110 : decode b_SW_strip 110 = .ok (.iadd, 1) := by decide +kernel
theorem d_SW_strip_111 : decode b_SW_strip 111 = .ok (.ireturn, 1) := by decide +kernel
theorem d_SW_strip_112 : decode b_SW_strip 112 = .ok (.aload 4, 2) := by decide +kernel
theorem d_SW_strip_114 : decode b_SW_strip 114 = .ok (.iload_n 2, 1) := by decide +kernel
theorem d_SW_strip_115 : decode b_SW_strip 115 = .ok (.invokevirtual 161, 3) := by decide +kernel
theorem d_SW_strip_118 : decode b_SW_strip 118 = .ok (.ireturn, 1) := by decide +kernel
theorem d_SW_scrap_0 : decode b_SW_scrap 0 = .ok (.aload_n 0, 1) := by decide +kernel
theorem d_SW_scrap_1 : decode b_SW_scrap 1 = .ok (.iload_n 1, 1) := by decide +kernel
theorem d_SW_scrap_2 : decode b_SW_scrap 2 = .ok (.invokevirtual 138, 3) := by decide +kernel
theorem d_SW_scrap_5 : decode b_SW_scrap 5 = .ok (.aload_n 0, 1) := by decide +kernel
theorem d_SW_scrap_6 : decode b_SW_scrap 6 = .ok (.getfield 46, 3) := by decide +kernel
theorem d_SW_scrap_9 : decode b_SW_scrap 9 = .ok (.iload_n 1, 1) := by decide +kernel
theorem d_SW_scrap_10 : decode b_SW_scrap 10 = .ok (.aaload, 1) := by decide +kernel
theorem d_SW_scrap_11 : decode b_SW_scrap 11 = .ok (.invokevirtual 165, 3) := by decide +kernel
theorem d_SW_scrap_14 : decode b_SW_scrap 14 = .ok (.ireturn, 1) := by decide +kernel
theorem d_SW_moves_0 : decode b_SW_moves 0 = .ok (.aload_n 0, 1) := by decide +kernel
theorem d_SW_moves_1 : decode b_SW_moves 1 = .ok (.iload_n 1, 1) := by decide +kernel
theorem d_SW_moves_2 : decode b_SW_moves 2 = .ok (.invokevirtual 138, 3) := by decide +kernel
theorem d_SW_moves_5 : decode b_SW_moves 5 = .ok (.aload_n 0, 1) := by decide +kernel
theorem d_SW_moves_6 : decode b_SW_moves 6 = .ok (.iload_n 2, 1) := by decide +kernel
theorem d_SW_moves_7 : decode b_SW_moves 7 = .ok (.invokevirtual 138, 3) := by decide +kernel
theorem d_SW_moves_10 : decode b_SW_moves 10 = .ok (.aload_n 0, 1) := by decide +kernel
theorem d_SW_moves_11 : decode b_SW_moves 11 = .ok (.getfield 46, 3) := by decide +kernel
theorem d_SW_moves_14 : decode b_SW_moves 14 = .ok (.iload_n 2, 1) := by decide +kernel
theorem d_SW_moves_15 : decode b_SW_moves 15 = .ok (.aaload, 1) := by decide +kernel
theorem d_SW_moves_16 : decode b_SW_moves 16 = .ok (.aload_n 0, 1) := by decide +kernel
theorem d_SW_moves_17 : decode b_SW_moves 17 = .ok (.getfield 46, 3) := by decide +kernel
theorem d_SW_moves_20 : decode b_SW_moves 20 = .ok (.iload_n 1, 1) := by decide +kernel
theorem d_SW_moves_21 : decode b_SW_moves 21 = .ok (.aaload, 1) := by decide +kernel
theorem d_SW_moves_22 : decode b_SW_moves 22 = .ok (.invokevirtual 169, 3) := by decide +kernel
theorem d_SW_moves_25 : decode b_SW_moves 25 = .ok (.ireturn, 1) := by decide +kernel
theorem d_SW_order_0 : decode b_SW_order 0 = .ok (.aload_n 0, 1) := by decide +kernel
theorem d_SW_order_1 : decode b_SW_order 1 = .ok (.getfield 40, 3) := by decide +kernel
theorem d_SW_order_4 : decode b_SW_order 4 = .ok (.aload_n 0, 1) := by decide +kernel
theorem d_SW_order_5 : decode b_SW_order 5 = .ok (.getfield 46, 3) := by decide +kernel
theorem d_SW_order_8 : decode b_SW_order 8 = .ok (.aload_n 0, 1) := by decide +kernel
theorem d_SW_order_9 : decode b_SW_order 9 = .ok (.getfield 51, 3) := by decide +kernel
theorem d_SW_order_12 : decode b_SW_order 12 = .ok (.invokevirtual 173, 3) := by decide +kernel
theorem d_SW_order_15 : decode b_SW_order 15 = .ok (.aload_n 0, 1) := by decide +kernel
theorem d_SW_order_16 : decode b_SW_order 16 = .ok (.getfield 40, 3) := by decide +kernel
theorem d_SW_order_19 : decode b_SW_order 19 = .ok (.getfield 176, 3) := by decide +kernel
theorem d_SW_order_22 : decode b_SW_order 22 = .ok (.ireturn, 1) := by decide +kernel
theorem d_SW_ordered_0 : decode b_SW_ordered 0 = .ok (.iload_n 1, 1) := by decide +kernel
theorem d_SW_ordered_1 : decode b_SW_ordered 1 = .ok (.ifCond .ge (13), 3) := by decide +kernel
theorem d_SW_ordered_4 : decode b_SW_ordered 4 = .ok (.new 141, 3) := by decide +kernel
theorem d_SW_ordered_7 : decode b_SW_ordered 7 = .ok (.dup, 1) := by decide +kernel
theorem d_SW_ordered_8 : decode b_SW_ordered 8 = .ok (.ldc 179, 2) := by decide +kernel
theorem d_SW_ordered_10 : decode b_SW_ordered 10 = .ok (.invokespecial 145, 3) := by decide +kernel
theorem d_SW_ordered_13 : decode b_SW_ordered 13 = .ok (.athrow, 1) := by decide +kernel
theorem d_SW_ordered_14 : decode b_SW_ordered 14 = .ok (.iload_n 1, 1) := by decide +kernel
theorem d_SW_ordered_15 : decode b_SW_ordered 15 = .ok (.aload_n 0, 1) := by decide +kernel
theorem d_SW_ordered_16 : decode b_SW_ordered 16 = .ok (.getfield 51, 3) := by decide +kernel
theorem d_SW_ordered_19 : decode b_SW_ordered 19 = .ok (.if_icmp .lt (5), 3) := by decide +kernel
theorem d_SW_ordered_22 : decode b_SW_ordered 22 = .ok (.iconst (-1), 1) := by decide +kernel
theorem d_SW_ordered_23 : decode b_SW_ordered 23 = .ok (.ireturn, 1) := by decide +kernel
theorem d_SW_ordered_24 : decode b_SW_ordered 24 = .ok (.aload_n 0, 1) := by decide +kernel
theorem d_SW_ordered_25 : decode b_SW_ordered 25 = .ok (.getfield 40, 3) := by decide +kernel
theorem d_SW_ordered_28 : decode b_SW_ordered 28 = .ok (.aload_n 0, 1) := by decide +kernel
theorem d_SW_ordered_29 : decode b_SW_ordered 29 = .ok (.getfield 46, 3) := by decide +kernel
theorem d_SW_ordered_32 : decode b_SW_ordered 32 = .ok (.aload_n 0, 1) := by decide +kernel
theorem d_SW_ordered_33 : decode b_SW_ordered 33 = .ok (.getfield 51, 3) := by decide +kernel
theorem d_SW_ordered_36 : decode b_SW_ordered 36 = .ok (.invokevirtual 173, 3) := by decide +kernel
theorem d_SW_ordered_39 : decode b_SW_ordered 39 = .ok (.aload_n 0, 1) := by decide +kernel
theorem d_SW_ordered_40 : decode b_SW_ordered 40 = .ok (.getfield 40, 3) := by decide +kernel
theorem d_SW_ordered_43 : decode b_SW_ordered 43 = .ok (.getfield 181, 3) := by decide +kernel
theorem d_SW_ordered_46 : decode b_SW_ordered 46 = .ok (.iload_n 1, 1) := by decide +kernel
theorem d_SW_ordered_47 : decode b_SW_ordered 47 = .ok (.iaload, 1) := by decide +kernel
theorem d_SW_ordered_48 : decode b_SW_ordered 48 = .ok (.ireturn, 1) := by decide +kernel
theorem d_SW_defect_0 : decode b_SW_defect 0 = .ok (.aload_n 0, 1) := by decide +kernel
theorem d_SW_defect_1 : decode b_SW_defect 1 = .ok (.getfield 33, 3) := by decide +kernel
theorem d_SW_defect_4 : decode b_SW_defect 4 = .ok (.getfield 182, 3) := by decide +kernel
theorem d_SW_defect_7 : decode b_SW_defect 7 = .ok (.bipush 10, 2) := by decide +kernel
theorem d_SW_defect_9 : decode b_SW_defect 9 = .ok (.if_icmp .lt (13), 3) := by decide +kernel
theorem d_SW_defect_12 : decode b_SW_defect 12 = .ok (.new 89, 3) := by decide +kernel
theorem d_SW_defect_15 : decode b_SW_defect 15 = .ok (.dup, 1) := by decide +kernel
theorem d_SW_defect_16 : decode b_SW_defect 16 = .ok (.ldc 183, 2) := by decide +kernel
theorem d_SW_defect_18 : decode b_SW_defect 18 = .ok (.invokespecial 93, 3) := by decide +kernel
theorem d_SW_defect_21 : decode b_SW_defect 21 = .ok (.athrow, 1) := by decide +kernel
theorem d_SW_defect_22 : decode b_SW_defect 22 = .ok (.iload_n 1, 1) := by decide +kernel
theorem d_SW_defect_23 : decode b_SW_defect 23 = .ok (.iconst 0, 1) := by decide +kernel
theorem d_SW_defect_24 : decode b_SW_defect 24 = .ok (.sipush 20000, 3) := by decide +kernel
theorem d_SW_defect_27 : decode b_SW_defect 27 = .ok (.invokestatic 55, 3) := by decide +kernel
theorem d_SW_defect_30 : decode b_SW_defect 30 = .ok (.ifCond .eq (19), 3) := by decide +kernel
theorem d_SW_defect_33 : decode b_SW_defect 33 = .ok (.iload_n 2, 1) := by decide +kernel
theorem d_SW_defect_34 : decode b_SW_defect 34 = .ok (.iconst 0, 1) := by decide +kernel
theorem d_SW_defect_35 : decode b_SW_defect 35 = .ok (.sipush 20000, 3) := by decide +kernel
theorem d_SW_defect_38 : decode b_SW_defect 38 = .ok (.invokestatic 55, 3) := by decide +kernel
theorem d_SW_defect_41 : decode b_SW_defect 41 = .ok (.ifCond .eq (8), 3) := by decide +kernel
theorem d_SW_defect_44 : decode b_SW_defect 44 = .ok (.iload_n 2, 1) := by decide +kernel
theorem d_SW_defect_45 : decode b_SW_defect 45 = .ok (.iload_n 1, 1) := by decide +kernel
theorem d_SW_defect_46 : decode b_SW_defect 46 = .ok (.if_icmp .gt (13), 3) := by decide +kernel
theorem d_SW_defect_49 : decode b_SW_defect 49 = .ok (.new 60, 3) := by decide +kernel
theorem d_SW_defect_52 : decode b_SW_defect 52 = .ok (.dup, 1) := by decide +kernel
theorem d_SW_defect_53 : decode b_SW_defect 53 = .ok (.ldc 185, 2) := by decide +kernel
theorem d_SW_defect_55 : decode b_SW_defect 55 = .ok (.invokespecial 64, 3) := by decide +kernel
theorem d_SW_defect_58 : decode b_SW_defect 58 = .ok (.athrow, 1) := by decide +kernel
theorem d_SW_defect_59 : decode b_SW_defect 59 = .ok (.aload_n 0, 1) := by decide +kernel
theorem d_SW_defect_60 : decode b_SW_defect 60 = .ok (.getfield 33, 3) := by decide +kernel
theorem d_SW_defect_63 : decode b_SW_defect 63 = .ok (.getfield 187, 3) := by decide +kernel
theorem d_SW_defect_66 : decode b_SW_defect 66 = .ok (.aload_n 0, 1) := by decide +kernel
theorem d_SW_defect_67 : decode b_SW_defect 67 = .ok (.getfield 33, 3) := by decide +kernel
theorem d_SW_defect_70 : decode b_SW_defect 70 = .ok (.getfield 182, 3) := by decide +kernel
theorem d_SW_defect_73 : decode b_SW_defect 73 = .ok (.iload_n 1, 1) := by decide +kernel
theorem d_SW_defect_74 : decode b_SW_defect 74 = .ok (.iastore, 1) := by decide +kernel
theorem d_SW_defect_75 : decode b_SW_defect 75 = .ok (.aload_n 0, 1) := by decide +kernel
theorem d_SW_defect_76 : decode b_SW_defect 76 = .ok (.getfield 33, 3) := by decide +kernel
theorem d_SW_defect_79 : decode b_SW_defect 79 = .ok (.getfield 190, 3) := by decide +kernel
theorem d_SW_defect_82 : decode b_SW_defect 82 = .ok (.aload_n 0, 1) := by decide +kernel
theorem d_SW_defect_83 : decode b_SW_defect 83 = .ok (.getfield 33, 3) := by decide +kernel
theorem d_SW_defect_86 : decode b_SW_defect 86 = .ok (.getfield 182, 3) := by decide +kernel
theorem d_SW_defect_89 : decode b_SW_defect 89 = .ok (.iload_n 2, 1) := by decide +kernel
theorem d_SW_defect_90 : decode b_SW_defect 90 = .ok (.iastore, 1) := by decide +kernel
theorem d_SW_defect_91 : decode b_SW_defect 91 = .ok (.aload_n 0, 1) := by decide +kernel
theorem d_SW_defect_92 : decode b_SW_defect 92 = .ok (.getfield 33, 3) := by decide +kernel
theorem d_SW_defect_95 : decode b_SW_defect 95 = .ok (.dup, 1) := by decide +kernel
theorem d_SW_defect_96 : decode b_SW_defect 96 = .ok (.getfield 182, 3) := by decide +kernel
theorem d_SW_defect_99 : decode b_SW_defect 99 = .ok (.iconst 1, 1) := by decide +kernel
theorem d_SW_defect_100 : decode b_SW_defect 100 = .ok (.iadd, 1) := by decide +kernel
theorem d_SW_defect_101 : decode b_SW_defect 101 = .ok (.putfield 182, 3) := by decide +kernel
theorem d_SW_defect_104 : decode b_SW_defect 104 = .ok (.aload_n 0, 1) := by decide +kernel
theorem d_SW_defect_105 : decode b_SW_defect 105 = .ok (.getfield 33, 3) := by decide +kernel
theorem d_SW_defect_108 : decode b_SW_defect 108 = .ok (.getfield 182, 3) := by decide +kernel
theorem d_SW_defect_111 : decode b_SW_defect 111 = .ok (.ireturn, 1) := by decide +kernel
theorem d_SW_sound_0 : decode b_SW_sound 0 = .ok (.aload_n 0, 1) := by decide +kernel
theorem d_SW_sound_1 : decode b_SW_sound 1 = .ok (.getfield 33, 3) := by decide +kernel
theorem d_SW_sound_4 : decode b_SW_sound 4 = .ok (.iconst 0, 1) := by decide +kernel
theorem d_SW_sound_5 : decode b_SW_sound 5 = .ok (.putfield 182, 3) := by decide +kernel
theorem d_SW_sound_8 : decode b_SW_sound 8 = .ok (.return_, 1) := by decide +kernel
theorem d_SW_shift_0 : decode b_SW_shift 0 = .ok (.aload_n 0, 1) := by decide +kernel
theorem d_SW_shift_1 : decode b_SW_shift 1 = .ok (.iload_n 1, 1) := by decide +kernel
theorem d_SW_shift_2 : decode b_SW_shift 2 = .ok (.invokevirtual 138, 3) := by decide +kernel
theorem d_SW_shift_5 : decode b_SW_shift 5 = .ok (.aload_n 0, 1) := by decide +kernel
theorem d_SW_shift_6 : decode b_SW_shift 6 = .ok (.getfield 46, 3) := by decide +kernel
theorem d_SW_shift_9 : decode b_SW_shift 9 = .ok (.iload_n 1, 1) := by decide +kernel
theorem d_SW_shift_10 : decode b_SW_shift 10 = .ok (.aaload, 1) := by decide +kernel
theorem d_SW_shift_11 : decode b_SW_shift 11 = .ok (.aload_n 0, 1) := by decide +kernel
theorem d_SW_shift_12 : decode b_SW_shift 12 = .ok (.getfield 33, 3) := by decide +kernel
theorem d_SW_shift_15 : decode b_SW_shift 15 = .ok (.invokevirtual 193, 3) := by decide +kernel
theorem d_SW_shift_18 : decode b_SW_shift 18 = .ok (.istore_n 2, 1) := by decide +kernel
theorem d_SW_shift_19 : decode b_SW_shift 19 = .ok (.iload_n 2, 1) := by decide +kernel
theorem d_SW_shift_20 : decode b_SW_shift 20 = .ok (.iconst (-1), 1) := by decide +kernel
theorem d_SW_shift_21 : decode b_SW_shift 21 = .ok (.if_icmp .ne (13), 3) := by decide +kernel
theorem d_SW_shift_24 : decode b_SW_shift 24 = .ok (.new 124, 3) := by decide +kernel
theorem d_SW_shift_27 : decode b_SW_shift 27 = .ok (.dup, 1) := by decide +kernel
theorem d_SW_shift_28 : decode b_SW_shift 28 = .ok (.ldc 197, 2) := by decide +kernel
theorem d_SW_shift_30 : decode b_SW_shift 30 = .ok (.invokespecial 128, 3) := by decide +kernel
theorem d_SW_shift_33 : decode b_SW_shift 33 = .ok (.athrow, 1) := by decide +kernel
theorem d_SW_shift_34 : decode b_SW_shift 34 = .ok (.aload_n 0, 1) := by decide +kernel
theorem d_SW_shift_35 : decode b_SW_shift 35 = .ok (.getfield 46, 3) := by decide +kernel
theorem d_SW_shift_38 : decode b_SW_shift 38 = .ok (.iload_n 1, 1) := by decide +kernel
theorem d_SW_shift_39 : decode b_SW_shift 39 = .ok (.aaload, 1) := by decide +kernel
theorem d_SW_shift_40 : decode b_SW_shift 40 = .ok (.iload_n 2, 1) := by decide +kernel
theorem d_SW_shift_41 : decode b_SW_shift 41 = .ok (.putfield 152, 3) := by decide +kernel
theorem d_SW_shift_44 : decode b_SW_shift 44 = .ok (.aload_n 0, 1) := by decide +kernel
theorem d_SW_shift_45 : decode b_SW_shift 45 = .ok (.getfield 40, 3) := by decide +kernel
theorem d_SW_shift_48 : decode b_SW_shift 48 = .ok (.iconst 0, 1) := by decide +kernel
theorem d_SW_shift_49 : decode b_SW_shift 49 = .ok (.putfield 137, 3) := by decide +kernel
theorem d_SW_shift_52 : decode b_SW_shift 52 = .ok (.iload_n 2, 1) := by decide +kernel
theorem d_SW_shift_53 : decode b_SW_shift 53 = .ok (.ireturn, 1) := by decide +kernel
theorem d_SW_within_0 : decode b_SW_within 0 = .ok (.iload_n 0, 1) := by decide +kernel
theorem d_SW_within_1 : decode b_SW_within 1 = .ok (.iload_n 1, 1) := by decide +kernel
theorem d_SW_within_2 : decode b_SW_within 2 = .ok (.if_icmp .lt (12), 3) := by decide +kernel
theorem d_SW_within_5 : decode b_SW_within 5 = .ok (.iload_n 0, 1) := by decide +kernel
theorem d_SW_within_6 : decode b_SW_within 6 = .ok (.iload_n 2, 1) := by decide +kernel
theorem d_SW_within_7 : decode b_SW_within 7 = .ok (.if_icmp .gt (7), 3) := by decide +kernel
theorem d_SW_within_10 : decode b_SW_within 10 = .ok (.iconst 1, 1) := by decide +kernel
theorem d_SW_within_11 : decode b_SW_within 11 = .ok (.goto (4), 3) := by decide +kernel
theorem d_SW_within_14 : decode b_SW_within 14 = .ok (.iconst 0, 1) := by decide +kernel
theorem d_SW_within_15 : decode b_SW_within 15 = .ok (.ireturn, 1) := by decide +kernel
theorem d_SW_checkWanted_0 : decode b_SW_checkWanted 0 = .ok (.iload_n 1, 1) := by decide +kernel
theorem d_SW_checkWanted_1 : decode b_SW_checkWanted 1 = .ok (.ifCond .lt (14), 3) := by decide +kernel
theorem d_SW_checkWanted_4 : decode b_SW_checkWanted 4 = .ok (.iload_n 1, 1) := by decide +kernel
theorem d_SW_checkWanted_5 : decode b_SW_checkWanted 5 = .ok (.aload_n 0, 1) := by decide +kernel
theorem d_SW_checkWanted_6 : decode b_SW_checkWanted 6 = .ok (.getfield 19, 3) := by decide +kernel
theorem d_SW_checkWanted_9 : decode b_SW_checkWanted 9 = .ok (.getfield 86, 3) := by decide +kernel
theorem d_SW_checkWanted_12 : decode b_SW_checkWanted 12 = .ok (.if_icmp .lt (13), 3) := by decide +kernel
theorem d_SW_checkWanted_15 : decode b_SW_checkWanted 15 = .ok (.new 141, 3) := by decide +kernel
theorem d_SW_checkWanted_18 : decode b_SW_checkWanted 18 = .ok (.dup, 1) := by decide +kernel
theorem d_SW_checkWanted_19 : decode b_SW_checkWanted 19 = .ok (.ldc 94, 2) := by decide +kernel
theorem d_SW_checkWanted_21 : decode b_SW_checkWanted 21 = .ok (.invokespecial 145, 3) := by decide +kernel
theorem d_SW_checkWanted_24 : decode b_SW_checkWanted 24 = .ok (.athrow, 1) := by decide +kernel
theorem d_SW_checkWanted_25 : decode b_SW_checkWanted 25 = .ok (.return_, 1) := by decide +kernel
theorem d_SW_checkSetUp_0 : decode b_SW_checkSetUp 0 = .ok (.iload_n 1, 1) := by decide +kernel
theorem d_SW_checkSetUp_1 : decode b_SW_checkSetUp 1 = .ok (.ifCond .lt (11), 3) := by decide +kernel
theorem d_SW_checkSetUp_4 : decode b_SW_checkSetUp 4 = .ok (.iload_n 1, 1) := by decide +kernel
theorem d_SW_checkSetUp_5 : decode b_SW_checkSetUp 5 = .ok (.aload_n 0, 1) := by decide +kernel
theorem d_SW_checkSetUp_6 : decode b_SW_checkSetUp 6 = .ok (.getfield 51, 3) := by decide +kernel
theorem d_SW_checkSetUp_9 : decode b_SW_checkSetUp 9 = .ok (.if_icmp .lt (13), 3) := by decide +kernel
theorem d_SW_checkSetUp_12 : decode b_SW_checkSetUp 12 = .ok (.new 141, 3) := by decide +kernel
theorem d_SW_checkSetUp_15 : decode b_SW_checkSetUp 15 = .ok (.dup, 1) := by decide +kernel
theorem d_SW_checkSetUp_16 : decode b_SW_checkSetUp 16 = .ok (.ldc 199, 2) := by decide +kernel
theorem d_SW_checkSetUp_18 : decode b_SW_checkSetUp 18 = .ok (.invokespecial 145, 3) := by decide +kernel
theorem d_SW_checkSetUp_21 : decode b_SW_checkSetUp 21 = .ok (.athrow, 1) := by decide +kernel
theorem d_SW_checkSetUp_22 : decode b_SW_checkSetUp 22 = .ok (.return_, 1) := by decide +kernel
