/-- the weight of strip k -/
def wt (kg wd lf : Nat) (bg en : Nat → Nat) (k : Nat) : Nat := kg * (lf + en k) / wd - kg * (lf + bg k) / wd
/-- past the places below x, none is x, if the next one is above it -/
theorem rise_lt {f : Nat → Nat} {n : Nat} (h : ∀ i, i + 1 < n → f i < f (i + 1)) : ∀ {i j : Nat}, i < j → j < n → f i < f j := by
  intro i j hij
  induction j with
  | zero => omega
  | succ j ih =>
    intro hj
    by_cases e : i = j
    · subst e
      exact h i hj
    · have := ih (by omega) (by omega)
      have := h j hj
      omega
theorem pn_out {kp' : Nat → Nat} {kc' lf' a x : Nat} (h4 : ∀ i, i + 1 < kc' → kp' i < kp' (i + 1)) (hlo : ∀ j, j < a → lf' + kp' j < x) (hx : kc' ≤ a ∨ x < lf' + kp' a) : ¬ ∃ j, j < kc' ∧ (fun y => lf' + kp' y) j = x := by
  rintro ⟨j, hj, e⟩
  have e : lf' + kp' j = x := e
  by_cases h : j < a
  · have := hlo j h
    omega
  · rcases hx with hx | hx
    · omega
    · by_cases e2 : j = a
      · subst e2
        omega
      · have := rise_lt h4 (show a < j by omega) hj
        omega
theorem d_SU_init_0 : decode b_SU_init 0 = .ok (.aload_n 0, 1) := by decide +kernel
theorem d_SU_init_1 : decode b_SU_init 1 = .ok (.invokespecial 3, 3) := by decide +kernel
theorem d_SU_init_4 : decode b_SU_init 4 = .ok (.aload_n 0, 1) := by decide +kernel
theorem d_SU_init_5 : decode b_SU_init 5 = .ok (.bipush 30, 2) := by decide +kernel
theorem d_SU_init_7 : decode b_SU_init 7 = .ok (.newarray .int, 2) := by decide +kernel
theorem d_SU_init_9 : decode b_SU_init 9 = .ok (.putfield 9, 3) := by decide +kernel
theorem d_SU_init_12 : decode b_SU_init 12 = .ok (.aload_n 0, 1) := by decide +kernel
theorem d_SU_init_13 : decode b_SU_init 13 = .ok (.bipush 30, 2) := by decide +kernel
theorem d_SU_init_15 : decode b_SU_init 15 = .ok (.newarray .int, 2) := by decide +kernel
theorem d_SU_init_17 : decode b_SU_init 17 = .ok (.putfield 15, 3) := by decide +kernel
theorem d_SU_init_20 : decode b_SU_init 20 = .ok (.aload_n 0, 1) := by decide +kernel
theorem d_SU_init_21 : decode b_SU_init 21 = .ok (.bipush 30, 2) := by decide +kernel
theorem d_SU_init_23 : decode b_SU_init 23 = .ok (.newarray .int, 2) := by decide +kernel
theorem d_SU_init_25 : decode b_SU_init 25 = .ok (.putfield 18, 3) := by decide +kernel
theorem d_SU_init_28 : decode b_SU_init 28 = .ok (.aload_n 0, 1) := by decide +kernel
theorem d_SU_init_29 : decode b_SU_init 29 = .ok (.iconst 0, 1) := by decide +kernel
theorem d_SU_init_30 : decode b_SU_init 30 = .ok (.putfield 21, 3) := by decide +kernel
theorem d_SU_init_33 : decode b_SU_init 33 = .ok (.aload_n 0, 1) := by decide +kernel
theorem d_SU_init_34 : decode b_SU_init 34 = .ok (.iconst 0, 1) := by decide +kernel
theorem d_SU_init_35 : decode b_SU_init 35 = .ok (.putfield 25, 3) := by decide +kernel
theorem d_SU_init_38 : decode b_SU_init 38 = .ok (.aload_n 0, 1) := by decide +kernel
theorem d_SU_init_39 : decode b_SU_init 39 = .ok (.bipush 60, 2) := by decide +kernel
theorem d_SU_init_41 : decode b_SU_init 41 = .ok (.newarray .int, 2) := by decide +kernel
theorem d_SU_init_43 : decode b_SU_init 43 = .ok (.putfield 28, 3) := by decide +kernel
theorem d_SU_init_46 : decode b_SU_init 46 = .ok (.aload_n 0, 1) := by decide +kernel
theorem d_SU_init_47 : decode b_SU_init 47 = .ok (.iconst 0, 1) := by decide +kernel
theorem d_SU_init_48 : decode b_SU_init 48 = .ok (.putfield 31, 3) := by decide +kernel
theorem d_SU_init_51 : decode b_SU_init 51 = .ok (.aload_n 0, 1) := by decide +kernel
theorem d_SU_init_52 : decode b_SU_init 52 = .ok (.iconst 0, 1) := by decide +kernel
theorem d_SU_init_53 : decode b_SU_init 53 = .ok (.putfield 34, 3) := by decide +kernel
theorem d_SU_init_56 : decode b_SU_init 56 = .ok (.aload_n 0, 1) := by decide +kernel
theorem d_SU_init_57 : decode b_SU_init 57 = .ok (.iconst 0, 1) := by decide +kernel
theorem d_SU_init_58 : decode b_SU_init 58 = .ok (.putfield 37, 3) := by decide +kernel
theorem d_SU_init_61 : decode b_SU_init 61 = .ok (.aload_n 0, 1) := by decide +kernel
theorem d_SU_init_62 : decode b_SU_init 62 = .ok (.iconst 0, 1) := by decide +kernel
theorem d_SU_init_63 : decode b_SU_init 63 = .ok (.putfield 40, 3) := by decide +kernel
theorem d_SU_init_66 : decode b_SU_init 66 = .ok (.aload_n 0, 1) := by decide +kernel
theorem d_SU_init_67 : decode b_SU_init 67 = .ok (.iconst 0, 1) := by decide +kernel
theorem d_SU_init_68 : decode b_SU_init 68 = .ok (.putfield 43, 3) := by decide +kernel
theorem d_SU_init_71 : decode b_SU_init 71 = .ok (.return_, 1) := by decide +kernel
theorem d_SU_make_0 : decode b_SU_make 0 = .ok (.aload_n 0, 1) := by decide +kernel
theorem d_SU_make_1 : decode b_SU_make 1 = .ok (.aload_n 1, 1) := by decide +kernel
theorem d_SU_make_2 : decode b_SU_make 2 = .ok (.getfield 46, 3) := by decide +kernel
theorem d_SU_make_5 : decode b_SU_make 5 = .ok (.putfield 34, 3) := by decide +kernel
theorem d_SU_make_8 : decode b_SU_make 8 = .ok (.aload_n 0, 1) := by decide +kernel
theorem d_SU_make_9 : decode b_SU_make 9 = .ok (.aload_n 1, 1) := by decide +kernel
theorem d_SU_make_10 : decode b_SU_make 10 = .ok (.getfield 49, 3) := by decide +kernel
theorem d_SU_make_13 : decode b_SU_make 13 = .ok (.putfield 37, 3) := by decide +kernel
theorem d_SU_make_16 : decode b_SU_make 16 = .ok (.aload_n 0, 1) := by decide +kernel
theorem d_SU_make_17 : decode b_SU_make 17 = .ok (.aload_n 1, 1) := by decide +kernel
theorem d_SU_make_18 : decode b_SU_make 18 = .ok (.getfield 50, 3) := by decide +kernel
theorem d_SU_make_21 : decode b_SU_make 21 = .ok (.putfield 40, 3) := by decide +kernel
theorem d_SU_make_24 : decode b_SU_make 24 = .ok (.aload_n 0, 1) := by decide +kernel
theorem d_SU_make_25 : decode b_SU_make 25 = .ok (.aload_n 1, 1) := by decide +kernel
theorem d_SU_make_26 : decode b_SU_make 26 = .ok (.getfield 50, 3) := by decide +kernel
theorem d_SU_make_29 : decode b_SU_make 29 = .ok (.putfield 25, 3) := by decide +kernel
theorem d_SU_make_32 : decode b_SU_make 32 = .ok (.aload_n 0, 1) := by decide +kernel
theorem d_SU_make_33 : decode b_SU_make 33 = .ok (.aload_n 3, 1) := by decide +kernel
theorem d_SU_make_34 : decode b_SU_make 34 = .ok (.getfield 51, 3) := by decide +kernel
theorem d_SU_make_37 : decode b_SU_make 37 = .ok (.putfield 43, 3) := by decide +kernel
theorem d_SU_make_40 : decode b_SU_make 40 = .ok (.aload_n 0, 1) := by decide +kernel
theorem d_SU_make_41 : decode b_SU_make 41 = .ok (.iconst 0, 1) := by decide +kernel
theorem d_SU_make_42 : decode b_SU_make 42 = .ok (.putfield 21, 3) := by decide +kernel
theorem d_SU_make_45 : decode b_SU_make 45 = .ok (.aload_n 0, 1) := by decide +kernel
theorem d_SU_make_46 : decode b_SU_make 46 = .ok (.iconst 0, 1) := by decide +kernel
theorem d_SU_make_47 : decode b_SU_make 47 = .ok (.putfield 31, 3) := by decide +kernel
theorem d_SU_make_50 : decode b_SU_make 50 = .ok (.iconst 0, 1) := by decide +kernel
theorem d_SU_make_51 : decode b_SU_make 51 = .ok (.istore 4, 2) := by decide +kernel
theorem d_SU_make_53 : decode b_SU_make 53 = .ok (.iconst 0, 1) := by decide +kernel
theorem d_SU_make_54 : decode b_SU_make 54 = .ok (.istore 5, 2) := by decide +kernel
theorem d_SU_make_56 : decode b_SU_make 56 = .ok (.iload 5, 2) := by decide +kernel
theorem d_SU_make_58 : decode b_SU_make 58 = .ok (.aload_n 2, 1) := by decide +kernel
theorem d_SU_make_59 : decode b_SU_make 59 = .ok (.getfield 56, 3) := by decide +kernel
theorem d_SU_make_62 : decode b_SU_make 62 = .ok (.if_icmp .ge (65), 3) := by decide +kernel
theorem d_SU_make_65 : decode b_SU_make 65 = .ok (.iconst 0, 1) := by decide +kernel
theorem d_SU_make_66 : decode b_SU_make 66 = .ok (.istore 6, 2) := by decide +kernel
theorem d_SU_make_68 : decode b_SU_make 68 = .ok (.iload 6, 2) := by decide +kernel
theorem d_SU_make_70 : decode b_SU_make 70 = .ok (.aload_n 3, 1) := by decide +kernel
theorem d_SU_make_71 : decode b_SU_make 71 = .ok (.getfield 61, 3) := by decide +kernel
theorem d_SU_make_74 : decode b_SU_make 74 = .ok (.iload 5, 2) := by decide +kernel
theorem d_SU_make_76 : decode b_SU_make 76 = .ok (.iaload, 1) := by decide +kernel
theorem d_SU_make_77 : decode b_SU_make 77 = .ok (.if_icmp .ge (44), 3) := by decide +kernel
theorem d_SU_make_80 : decode b_SU_make 80 = .ok (.aload_n 0, 1) := by decide +kernel
theorem d_SU_make_81 : decode b_SU_make 81 = .ok (.iload 5, 2) := by decide +kernel
theorem d_SU_make_83 : decode b_SU_make 83 = .ok (.iload 4, 2) := by decide +kernel
theorem d_SU_make_85 : decode b_SU_make 85 = .ok (.iload 4, 2) := by decide +kernel
theorem d_SU_make_87 : decode b_SU_make 87 = .ok (.aload_n 2, 1) := by decide +kernel
theorem d_SU_make_88 : decode b_SU_make 88 = .ok (.getfield 64, 3) := by decide +kernel
theorem d_SU_make_91 : decode b_SU_make 91 = .ok (.iload 5, 2) := by decide +kernel
theorem d_SU_make_93 : decode b_SU_make 93 = .ok (.iaload, 1) := by decide +kernel
theorem d_SU_make_94 : decode b_SU_make 94 = .ok (.iadd, 1) := by decide +kernel
theorem d_SU_make_95 : decode b_SU_make 95 = .ok (.invokevirtual 67, 3) := by decide +kernel
theorem d_SU_make_98 : decode b_SU_make 98 = .ok (.iload 4, 2) := by decide +kernel
theorem d_SU_make_100 : decode b_SU_make 100 = .ok (.aload_n 2, 1) := by decide +kernel
theorem d_SU_make_101 : decode b_SU_make 101 = .ok (.getfield 64, 3) := by decide +kernel
theorem d_SU_make_104 : decode b_SU_make 104 = .ok (.iload 5, 2) := by decide +kernel
theorem d_SU_make_106 : decode b_SU_make 106 = .ok (.iaload, 1) := by decide +kernel
theorem d_SU_make_107 : decode b_SU_make 107 = .ok (.aload_n 1, 1) := by decide +kernel
theorem d_SU_make_108 : decode b_SU_make 108 = .ok (.getfield 71, 3) := by decide +kernel
theorem d_SU_make_111 : decode b_SU_make 111 = .ok (.iadd, 1) := by decide +kernel
theorem d_SU_make_112 : decode b_SU_make 112 = .ok (.iadd, 1) := by decide +kernel
theorem d_SU_make_113 : decode b_SU_make 113 = .ok (.istore 4, 2) := by decide +kernel
theorem d_SU_make_115 : decode b_SU_make 115 = .ok (.iinc 6 1, 3) := by decide +kernel
theorem d_SU_make_118 : decode b_SU_make 118 = .ok (.goto (-50), 3) := by decide +kernel
theorem d_SU_make_121 : decode b_SU_make 121 = .ok (.iinc 5 1, 3) := by decide +kernel
theorem d_SU_make_124 : decode b_SU_make 124 = .ok (.goto (-68), 3) := by decide +kernel
theorem d_SU_make_127 : decode b_SU_make 127 = .ok (.return_, 1) := by decide +kernel
theorem d_SU_lay_0 : decode b_SU_lay 0 = .ok (.aload_n 0, 1) := by decide +kernel
theorem d_SU_lay_1 : decode b_SU_lay 1 = .ok (.getfield 21, 3) := by decide +kernel
theorem d_SU_lay_4 : decode b_SU_lay 4 = .ok (.bipush 30, 2) := by decide +kernel
theorem d_SU_lay_6 : decode b_SU_lay 6 = .ok (.if_icmp .lt (4), 3) := by decide +kernel
theorem d_SU_lay_9 : decode b_SU_lay 9 = .ok (.return_, 1) := by decide +kernel
theorem d_SU_lay_10 : decode b_SU_lay 10 = .ok (.aload_n 0, 1) := by decide +kernel
theorem d_SU_lay_11 : decode b_SU_lay 11 = .ok (.getfield 9, 3) := by decide +kernel
theorem d_SU_lay_14 : decode b_SU_lay 14 = .ok (.aload_n 0, 1) := by decide +kernel
theorem d_SU_lay_15 : decode b_SU_lay 15 = .ok (.getfield 21, 3) := by decide +kernel
theorem d_SU_lay_18 : decode b_SU_lay 18 = .ok (.iload_n 1, 1) := by decide +kernel
theorem d_SU_lay_19 : decode b_SU_lay 19 = .ok (.iastore, 1) := by decide +kernel
theorem d_SU_lay_20 : decode b_SU_lay 20 = .ok (.aload_n 0, 1) := by decide +kernel
theorem d_SU_lay_21 : decode b_SU_lay 21 = .ok (.getfield 15, 3) := by decide +kernel
theorem d_SU_lay_24 : decode b_SU_lay 24 = .ok (.aload_n 0, 1) := by decide +kernel
theorem d_SU_lay_25 : decode b_SU_lay 25 = .ok (.getfield 21, 3) := by decide +kernel
theorem d_SU_lay_28 : decode b_SU_lay 28 = .ok (.iload_n 2, 1) := by decide +kernel
theorem d_SU_lay_29 : decode b_SU_lay 29 = .ok (.iastore, 1) := by decide +kernel
theorem d_SU_lay_30 : decode b_SU_lay 30 = .ok (.aload_n 0, 1) := by decide +kernel
theorem d_SU_lay_31 : decode b_SU_lay 31 = .ok (.getfield 18, 3) := by decide +kernel
theorem d_SU_lay_34 : decode b_SU_lay 34 = .ok (.aload_n 0, 1) := by decide +kernel
theorem d_SU_lay_35 : decode b_SU_lay 35 = .ok (.getfield 21, 3) := by decide +kernel
theorem d_SU_lay_38 : decode b_SU_lay 38 = .ok (.iload_n 3, 1) := by decide +kernel
theorem d_SU_lay_39 : decode b_SU_lay 39 = .ok (.iastore, 1) := by decide +kernel
theorem d_SU_lay_40 : decode b_SU_lay 40 = .ok (.aload_n 0, 1) := by decide +kernel
theorem d_SU_lay_41 : decode b_SU_lay 41 = .ok (.dup, 1) := by decide +kernel
theorem d_SU_lay_42 : decode b_SU_lay 42 = .ok (.getfield 21, 3) := by decide +kernel
theorem d_SU_lay_45 : decode b_SU_lay 45 = .ok (.iconst 1, 1) := by decide +kernel
theorem d_SU_lay_46 : decode b_SU_lay 46 = .ok (.iadd, 1) := by decide +kernel
theorem d_SU_lay_47 : decode b_SU_lay 47 = .ok (.putfield 21, 3) := by decide +kernel
theorem d_SU_lay_50 : decode b_SU_lay 50 = .ok (.aload_n 0, 1) := by decide +kernel
theorem d_SU_lay_51 : decode b_SU_lay 51 = .ok (.iload_n 2, 1) := by decide +kernel
theorem d_SU_lay_52 : decode b_SU_lay 52 = .ok (.invokevirtual 74, 3) := by decide +kernel
theorem d_SU_lay_55 : decode b_SU_lay 55 = .ok (.aload_n 0, 1) := by decide +kernel
theorem d_SU_lay_56 : decode b_SU_lay 56 = .ok (.iload_n 3, 1) := by decide +kernel
theorem d_SU_lay_57 : decode b_SU_lay 57 = .ok (.invokevirtual 74, 3) := by decide +kernel
theorem d_SU_lay_60 : decode b_SU_lay 60 = .ok (.return_, 1) := by decide +kernel
theorem d_SU_setKnife_0 : decode b_SU_setKnife 0 = .ok (.aload_n 0, 1) := by decide +kernel
theorem d_SU_setKnife_1 : decode b_SU_setKnife 1 = .ok (.getfield 31, 3) := by decide +kernel
theorem d_SU_setKnife_4 : decode b_SU_setKnife 4 = .ok (.ifCond .le (22), 3) := by decide +kernel
theorem d_SU_setKnife_7 : decode b_SU_setKnife 7 = .ok (.aload_n 0, 1) := by decide +kernel
theorem d_SU_setKnife_8 : decode b_SU_setKnife 8 = .ok (.getfield 28, 3) := by decide +kernel
theorem d_SU_setKnife_11 : decode b_SU_setKnife 11 = .ok (.aload_n 0, 1) := by decide +kernel
theorem d_SU_setKnife_12 : decode b_SU_setKnife 12 = .ok (.getfield 31, 3) := by decide +kernel
theorem d_SU_setKnife_15 : decode b_SU_setKnife 15 = .ok (.iconst 1, 1) := by decide +kernel
theorem d_SU_setKnife_16 : decode b_SU_setKnife 16 = .ok (.isub, 1) := by decide +kernel
theorem d_SU_setKnife_17 : decode b_SU_setKnife 17 = .ok (.iaload, 1) := by decide +kernel
theorem d_SU_setKnife_18 : decode b_SU_setKnife 18 = .ok (.iload_n 1, 1) := by decide +kernel
theorem d_SU_setKnife_19 : decode b_SU_setKnife 19 = .ok (.if_icmp .ne (7), 3) := by decide +kernel
theorem d_SU_setKnife_22 : decode b_SU_setKnife 22 = .ok (.iconst 1, 1) := by decide +kernel
theorem d_SU_setKnife_23 : decode b_SU_setKnife 23 = .ok (.goto (4), 3) := by decide +kernel
theorem d_SU_setKnife_26 : decode b_SU_setKnife 26 = .ok (.iconst 0, 1) := by decide +kernel
theorem d_SU_setKnife_27 : decode b_SU_setKnife 27 = .ok (.istore_n 2, 1) := by decide +kernel
theorem d_SU_setKnife_28 : decode b_SU_setKnife 28 = .ok (.iload_n 2, 1) := by decide +kernel
theorem d_SU_setKnife_29 : decode b_SU_setKnife 29 = .ok (.ifCond .ne (35), 3) := by decide +kernel
theorem d_SU_setKnife_32 : decode b_SU_setKnife 32 = .ok (.aload_n 0, 1) := by decide +kernel
theorem d_SU_setKnife_33 : decode b_SU_setKnife 33 = .ok (.getfield 31, 3) := by decide +kernel
theorem d_SU_setKnife_36 : decode b_SU_setKnife 36 = .ok (.aload_n 0, 1) := by decide +kernel
theorem d_SU_setKnife_37 : decode b_SU_setKnife 37 = .ok (.getfield 28, 3) := by decide +kernel
theorem d_SU_setKnife_40 : decode b_SU_setKnife 40 = .ok (.arraylength, 1) := by decide +kernel
theorem d_SU_setKnife_41 : decode b_SU_setKnife 41 = .ok (.if_icmp .ge (23), 3) := by decide +kernel
theorem d_SU_setKnife_44 : decode b_SU_setKnife 44 = .ok (.aload_n 0, 1) := by decide +kernel
theorem d_SU_setKnife_45 : decode b_SU_setKnife 45 = .ok (.getfield 28, 3) := by decide +kernel
theorem d_SU_setKnife_48 : decode b_SU_setKnife 48 = .ok (.aload_n 0, 1) := by decide +kernel
theorem d_SU_setKnife_49 : decode b_SU_setKnife 49 = .ok (.getfield 31, 3) := by decide +kernel
theorem d_SU_setKnife_52 : decode b_SU_setKnife 52 = .ok (.iload_n 1, 1) := by decide +kernel
theorem d_SU_setKnife_53 : decode b_SU_setKnife 53 = .ok (.iastore, 1) := by decide +kernel
theorem d_SU_setKnife_54 : decode b_SU_setKnife 54 = .ok (.aload_n 0, 1) := by decide +kernel
theorem d_SU_setKnife_55 : decode b_SU_setKnife 55 = .ok (.dup, 1) := by decide +kernel
theorem d_SU_setKnife_56 : decode b_SU_setKnife 56 = .ok (.getfield 31, 3) := by decide +kernel
theorem d_SU_setKnife_59 : decode b_SU_setKnife 59 = .ok (.iconst 1, 1) := by decide +kernel
theorem d_SU_setKnife_60 : decode b_SU_setKnife 60 = .ok (.iadd, 1) := by decide +kernel
theorem d_SU_setKnife_61 : decode b_SU_setKnife 61 = .ok (.putfield 31, 3) := by decide +kernel
theorem d_SU_setKnife_64 : decode b_SU_setKnife 64 = .ok (.return_, 1) := by decide +kernel
theorem d_SU_placesNotIn_0 : decode b_SU_placesNotIn 0 = .ok (.iconst 0, 1) := by decide +kernel
theorem d_SU_placesNotIn_1 : decode b_SU_placesNotIn 1 = .ok (.istore_n 2, 1) := by decide +kernel
theorem d_SU_placesNotIn_2 : decode b_SU_placesNotIn 2 = .ok (.iconst 0, 1) := by decide +kernel
theorem d_SU_placesNotIn_3 : decode b_SU_placesNotIn 3 = .ok (.istore_n 3, 1) := by decide +kernel
theorem d_SU_placesNotIn_4 : decode b_SU_placesNotIn 4 = .ok (.iconst 0, 1) := by decide +kernel
theorem d_SU_placesNotIn_5 : decode b_SU_placesNotIn 5 = .ok (.istore 4, 2) := by decide +kernel
theorem d_SU_placesNotIn_7 : decode b_SU_placesNotIn 7 = .ok (.iload 4, 2) := by decide +kernel
theorem d_SU_placesNotIn_9 : decode b_SU_placesNotIn 9 = .ok (.aload_n 0, 1) := by decide +kernel
theorem d_SU_placesNotIn_10 : decode b_SU_placesNotIn 10 = .ok (.getfield 31, 3) := by decide +kernel
theorem d_SU_placesNotIn_13 : decode b_SU_placesNotIn 13 = .ok (.if_icmp .ge (80), 3) := by decide +kernel
theorem d_SU_placesNotIn_16 : decode b_SU_placesNotIn 16 = .ok (.aload_n 0, 1) := by decide +kernel
theorem d_SU_placesNotIn_17 : decode b_SU_placesNotIn 17 = .ok (.getfield 25, 3) := by decide +kernel
theorem d_SU_placesNotIn_20 : decode b_SU_placesNotIn 20 = .ok (.aload_n 0, 1) := by decide +kernel
theorem d_SU_placesNotIn_21 : decode b_SU_placesNotIn 21 = .ok (.getfield 28, 3) := by decide +kernel
theorem d_SU_placesNotIn_24 : decode b_SU_placesNotIn 24 = .ok (.iload 4, 2) := by decide +kernel
theorem d_SU_placesNotIn_26 : decode b_SU_placesNotIn 26 = .ok (.iaload, 1) := by decide +kernel
theorem d_SU_placesNotIn_27 : decode b_SU_placesNotIn 27 = .ok (.iadd, 1) := by decide +kernel
theorem d_SU_placesNotIn_28 : decode b_SU_placesNotIn 28 = .ok (.istore 5, 2) := by decide +kernel
theorem d_SU_placesNotIn_30 : decode b_SU_placesNotIn 30 = .ok (.iload_n 3, 1) := by decide +kernel
theorem d_SU_placesNotIn_31 : decode b_SU_placesNotIn 31 = .ok (.aload_n 1, 1) := by decide +kernel
theorem d_SU_placesNotIn_32 : decode b_SU_placesNotIn 32 = .ok (.getfield 31, 3) := by decide +kernel
theorem d_SU_placesNotIn_35 : decode b_SU_placesNotIn 35 = .ok (.if_icmp .ge (25), 3) := by decide +kernel
theorem d_SU_placesNotIn_38 : decode b_SU_placesNotIn 38 = .ok (.aload_n 1, 1) := by decide +kernel
theorem d_SU_placesNotIn_39 : decode b_SU_placesNotIn 39 = .ok (.getfield 25, 3) := by decide +kernel
theorem d_SU_placesNotIn_42 : decode b_SU_placesNotIn 42 = .ok (.aload_n 1, 1) := by decide +kernel
theorem d_SU_placesNotIn_43 : decode b_SU_placesNotIn 43 = .ok (.getfield 28, 3) := by decide +kernel
theorem d_SU_placesNotIn_46 : decode b_SU_placesNotIn 46 = .ok (.iload_n 3, 1) := by decide +kernel
theorem d_SU_placesNotIn_47 : decode b_SU_placesNotIn 47 = .ok (.iaload, 1) := by decide +kernel
theorem d_SU_placesNotIn_48 : decode b_SU_placesNotIn 48 = .ok (.iadd, 1) := by decide +kernel
theorem d_SU_placesNotIn_49 : decode b_SU_placesNotIn 49 = .ok (.iload 5, 2) := by decide +kernel
theorem d_SU_placesNotIn_51 : decode b_SU_placesNotIn 51 = .ok (.if_icmp .ge (9), 3) := by decide +kernel
theorem d_SU_placesNotIn_54 : decode b_SU_placesNotIn 54 = .ok (.iinc 3 1, 3) := by decide +kernel
theorem d_SU_placesNotIn_57 : decode b_SU_placesNotIn 57 = .ok (.goto (-27), 3) := by decide +kernel
theorem d_SU_placesNotIn_60 : decode b_SU_placesNotIn 60 = .ok (.iload_n 3, 1) := by decide +kernel
theorem d_SU_placesNotIn_61 : decode b_SU_placesNotIn 61 = .ok (.aload_n 1, 1) := by decide +kernel
theorem d_SU_placesNotIn_62 : decode b_SU_placesNotIn 62 = .ok (.getfield 31, 3) := by decide +kernel
theorem d_SU_placesNotIn_65 : decode b_SU_placesNotIn 65 = .ok (.if_icmp .ge (19), 3) := by decide +kernel
theorem d_SU_placesNotIn_68 : decode b_SU_placesNotIn 68 = .ok (.aload_n 1, 1) := by decide +kernel
theorem d_SU_placesNotIn_69 : decode b_SU_placesNotIn 69 = .ok (.getfield 25, 3) := by decide +kernel
theorem d_SU_placesNotIn_72 : decode b_SU_placesNotIn 72 = .ok (.aload_n 1, 1) := by decide +kernel
theorem d_SU_placesNotIn_73 : decode b_SU_placesNotIn 73 = .ok (.getfield 28, 3) := by decide +kernel
theorem d_SU_placesNotIn_76 : decode b_SU_placesNotIn 76 = .ok (.iload_n 3, 1) := by decide +kernel
theorem d_SU_placesNotIn_77 : decode b_SU_placesNotIn 77 = .ok (.iaload, 1) := by decide +kernel
theorem d_SU_placesNotIn_78 : decode b_SU_placesNotIn 78 = .ok (.iadd, 1) := by decide +kernel
theorem d_SU_placesNotIn_79 : decode b_SU_placesNotIn 79 = .ok (.iload 5, 2) := by decide +kernel
theorem d_SU_placesNotIn_81 : decode b_SU_placesNotIn 81 = .ok (.if_icmp .eq (6), 3) := by decide +kernel
theorem d_SU_placesNotIn_84 : decode b_SU_placesNotIn 84 = .ok (.iinc 2 1, 3) := by decide +kernel
theorem d_SU_placesNotIn_87 : decode b_SU_placesNotIn 87 = .ok (.iinc 4 1, 3) := by decide +kernel
theorem d_SU_placesNotIn_90 : decode b_SU_placesNotIn 90 = .ok (.goto (-83), 3) := by decide +kernel
theorem d_SU_placesNotIn_93 : decode b_SU_placesNotIn 93 = .ok (.iload_n 2, 1) := by decide +kernel
theorem d_SU_placesNotIn_94 : decode b_SU_placesNotIn 94 = .ok (.ireturn, 1) := by decide +kernel
theorem d_SU_stripWeight_0 : decode b_SU_stripWeight 0 = .ok (.aload_n 0, 1) := by decide +kernel
theorem d_SU_stripWeight_1 : decode b_SU_stripWeight 1 = .ok (.aload_n 0, 1) := by decide +kernel
theorem d_SU_stripWeight_2 : decode b_SU_stripWeight 2 = .ok (.getfield 25, 3) := by decide +kernel
theorem d_SU_stripWeight_5 : decode b_SU_stripWeight 5 = .ok (.aload_n 0, 1) := by decide +kernel
theorem d_SU_stripWeight_6 : decode b_SU_stripWeight 6 = .ok (.getfield 18, 3) := by decide +kernel
theorem d_SU_stripWeight_9 : decode b_SU_stripWeight 9 = .ok (.iload_n 1, 1) := by decide +kernel
theorem d_SU_stripWeight_10 : decode b_SU_stripWeight 10 = .ok (.iaload, 1) := by decide +kernel
theorem d_SU_stripWeight_11 : decode b_SU_stripWeight 11 = .ok (.iadd, 1) := by decide +kernel
theorem d_SU_stripWeight_12 : decode b_SU_stripWeight 12 = .ok (.invokevirtual 78, 3) := by decide +kernel
theorem d_SU_stripWeight_15 : decode b_SU_stripWeight 15 = .ok (.aload_n 0, 1) := by decide +kernel
theorem d_SU_stripWeight_16 : decode b_SU_stripWeight 16 = .ok (.aload_n 0, 1) := by decide +kernel
theorem d_SU_stripWeight_17 : decode b_SU_stripWeight 17 = .ok (.getfield 25, 3) := by decide +kernel
theorem d_SU_stripWeight_20 : decode b_SU_stripWeight 20 = .ok (.aload_n 0, 1) := by decide +kernel
theorem d_SU_stripWeight_21 : decode b_SU_stripWeight 21 = .ok (.getfield 15, 3) := by decide +kernel
theorem d_SU_stripWeight_24 : decode b_SU_stripWeight 24 = .ok (.iload_n 1, 1) := by decide +kernel
theorem d_SU_stripWeight_25 : decode b_SU_stripWeight 25 = .ok (.iaload, 1) := by decide +kernel
theorem d_SU_stripWeight_26 : decode b_SU_stripWeight 26 = .ok (.iadd, 1) := by decide +kernel
theorem d_SU_stripWeight_27 : decode b_SU_stripWeight 27 = .ok (.invokevirtual 78, 3) := by decide +kernel
theorem d_SU_stripWeight_30 : decode b_SU_stripWeight 30 = .ok (.isub, 1) := by decide +kernel
theorem d_SU_stripWeight_31 : decode b_SU_stripWeight 31 = .ok (.ireturn, 1) := by decide +kernel
theorem d_SU_scrapWeight_0 : decode b_SU_scrapWeight 0 = .ok (.aload_n 0, 1) := by decide +kernel
theorem d_SU_scrapWeight_1 : decode b_SU_scrapWeight 1 = .ok (.getfield 37, 3) := by decide +kernel
theorem d_SU_scrapWeight_4 : decode b_SU_scrapWeight 4 = .ok (.istore_n 1, 1) := by decide +kernel
theorem d_SU_scrapWeight_5 : decode b_SU_scrapWeight 5 = .ok (.iconst 0, 1) := by decide +kernel
theorem d_SU_scrapWeight_6 : decode b_SU_scrapWeight 6 = .ok (.istore_n 2, 1) := by decide +kernel
theorem d_SU_scrapWeight_7 : decode b_SU_scrapWeight 7 = .ok (.iload_n 2, 1) := by decide +kernel
theorem d_SU_scrapWeight_8 : decode b_SU_scrapWeight 8 = .ok (.aload_n 0, 1) := by decide +kernel
theorem d_SU_scrapWeight_9 : decode b_SU_scrapWeight 9 = .ok (.getfield 21, 3) := by decide +kernel
theorem d_SU_scrapWeight_12 : decode b_SU_scrapWeight 12 = .ok (.if_icmp .ge (17), 3) := by decide +kernel
theorem d_SU_scrapWeight_15 : decode b_SU_scrapWeight 15 = .ok (.iload_n 1, 1) := by decide +kernel
theorem d_SU_scrapWeight_16 : decode b_SU_scrapWeight 16 = .ok (.aload_n 0, 1) := by decide +kernel
theorem d_SU_scrapWeight_17 : decode b_SU_scrapWeight 17 = .ok (.iload_n 2, 1) := by decide +kernel
theorem d_SU_scrapWeight_18 : decode b_SU_scrapWeight 18 = .ok (.invokevirtual 82, 3) := by decide +kernel
theorem d_SU_scrapWeight_21 : decode b_SU_scrapWeight 21 = .ok (.isub, 1) := by decide +kernel
theorem d_SU_scrapWeight_22 : decode b_SU_scrapWeight 22 = .ok (.istore_n 1, 1) := by decide +kernel
theorem d_SU_scrapWeight_23 : decode b_SU_scrapWeight 23 = .ok (.iinc 2 1, 3) := by decide +kernel
theorem d_SU_scrapWeight_26 : decode b_SU_scrapWeight 26 = .ok (.goto (-19), 3) := by decide +kernel
theorem d_SU_scrapWeight_29 : decode b_SU_scrapWeight 29 = .ok (.iload_n 1, 1) := by decide +kernel
theorem d_SU_scrapWeight_30 : decode b_SU_scrapWeight 30 = .ok (.ireturn, 1) := by decide +kernel
theorem d_SU_kilosBefore_0 : decode b_SU_kilosBefore 0 = .ok (.aload_n 0, 1) := by decide +kernel
theorem d_SU_kilosBefore_1 : decode b_SU_kilosBefore 1 = .ok (.getfield 34, 3) := by decide +kernel
theorem d_SU_kilosBefore_4 : decode b_SU_kilosBefore 4 = .ok (.iconst 1, 1) := by decide +kernel
theorem d_SU_kilosBefore_5 : decode b_SU_kilosBefore 5 = .ok (.if_icmp .ge (7), 3) := by decide +kernel
theorem d_SU_kilosBefore_8 : decode b_SU_kilosBefore 8 = .ok (.iconst 0, 1) := by decide +kernel
theorem d_SU_kilosBefore_9 : decode b_SU_kilosBefore 9 = .ok (.goto (14), 3) := by decide +kernel
theorem d_SU_kilosBefore_12 : decode b_SU_kilosBefore 12 = .ok (.aload_n 0, 1) := by decide +kernel
theorem d_SU_kilosBefore_13 : decode b_SU_kilosBefore 13 = .ok (.getfield 37, 3) := by decide +kernel
theorem d_SU_kilosBefore_16 : decode b_SU_kilosBefore 16 = .ok (.iload_n 1, 1) := by decide +kernel
theorem d_SU_kilosBefore_17 : decode b_SU_kilosBefore 17 = .ok (.imul, 1) := by decide +kernel
theorem d_SU_kilosBefore_18 : decode b_SU_kilosBefore 18 = .ok (.aload_n 0, 1) := by decide +kernel
theorem d_SU_kilosBefore_19 : decode b_SU_kilosBefore 19 = .ok (.getfield 34, 3) := by decide +kernel
theorem d_SU_kilosBefore_22 : decode b_SU_kilosBefore 22 = .ok (.idiv, 1) := by decide +kernel
theorem d_SU_kilosBefore_23 : decode b_SU_kilosBefore 23 = .ok (.ireturn, 1) := by decide +kernel
theorem d_SU_leastSoundLeft_0 : decode b_SU_leastSoundLeft 0 = .ok (.aload_n 0, 1) := by decide +kernel
theorem d_SU_leastSoundLeft_1 : decode b_SU_leastSoundLeft 1 = .ok (.getfield 34, 3) := by decide +kernel
theorem d_SU_leastSoundLeft_4 : decode b_SU_leastSoundLeft 4 = .ok (.aload_n 0, 1) := by decide +kernel
theorem d_SU_leastSoundLeft_5 : decode b_SU_leastSoundLeft 5 = .ok (.getfield 40, 3) := by decide +kernel
theorem d_SU_leastSoundLeft_8 : decode b_SU_leastSoundLeft 8 = .ok (.isub, 1) := by decide +kernel
theorem d_SU_leastSoundLeft_9 : decode b_SU_leastSoundLeft 9 = .ok (.aload_n 0, 1) := by decide +kernel
theorem d_SU_leastSoundLeft_10 : decode b_SU_leastSoundLeft 10 = .ok (.getfield 43, 3) := by decide +kernel
theorem d_SU_leastSoundLeft_13 : decode b_SU_leastSoundLeft 13 = .ok (.isub, 1) := by decide +kernel
theorem d_SU_leastSoundLeft_14 : decode b_SU_leastSoundLeft 14 = .ok (.istore_n 2, 1) := by decide +kernel
theorem d_SU_leastSoundLeft_15 : decode b_SU_leastSoundLeft 15 = .ok (.aload_n 0, 1) := by decide +kernel
theorem d_SU_leastSoundLeft_16 : decode b_SU_leastSoundLeft 16 = .ok (.getfield 21, 3) := by decide +kernel
theorem d_SU_leastSoundLeft_19 : decode b_SU_leastSoundLeft 19 = .ok (.aload_n 1, 1) := by decide +kernel
theorem d_SU_leastSoundLeft_20 : decode b_SU_leastSoundLeft 20 = .ok (.getfield 85, 3) := by decide +kernel
theorem d_SU_leastSoundLeft_23 : decode b_SU_leastSoundLeft 23 = .ok (.imul, 1) := by decide +kernel
theorem d_SU_leastSoundLeft_24 : decode b_SU_leastSoundLeft 24 = .ok (.istore_n 3, 1) := by decide +kernel
theorem d_SU_leastSoundLeft_25 : decode b_SU_leastSoundLeft 25 = .ok (.aload_n 0, 1) := by decide +kernel
theorem d_SU_leastSoundLeft_26 : decode b_SU_leastSoundLeft 26 = .ok (.getfield 40, 3) := by decide +kernel
theorem d_SU_leastSoundLeft_29 : decode b_SU_leastSoundLeft 29 = .ok (.istore 4, 2) := by decide +kernel
theorem d_SU_leastSoundLeft_31 : decode b_SU_leastSoundLeft 31 = .ok (.iconst 0, 1) := by decide +kernel
theorem d_SU_leastSoundLeft_32 : decode b_SU_leastSoundLeft 32 = .ok (.istore 5, 2) := by decide +kernel
theorem d_SU_leastSoundLeft_34 : decode b_SU_leastSoundLeft 34 = .ok (.iload 5, 2) := by decide +kernel
theorem d_SU_leastSoundLeft_36 : decode b_SU_leastSoundLeft 36 = .ok (.iload_n 3, 1) := by decide +kernel
theorem d_SU_leastSoundLeft_37 : decode b_SU_leastSoundLeft 37 = .ok (.if_icmp .gt (38), 3) := by decide +kernel
theorem d_SU_leastSoundLeft_40 : decode b_SU_leastSoundLeft 40 = .ok (.iload 4, 2) := by decide +kernel
theorem d_SU_leastSoundLeft_42 : decode b_SU_leastSoundLeft 42 = .ok (.iload_n 2, 1) := by decide +kernel
theorem d_SU_leastSoundLeft_43 : decode b_SU_leastSoundLeft 43 = .ok (.if_icmp .gt (32), 3) := by decide +kernel
theorem d_SU_leastSoundLeft_46 : decode b_SU_leastSoundLeft 46 = .ok (.aload_n 0, 1) := by decide +kernel
theorem d_SU_leastSoundLeft_47 : decode b_SU_leastSoundLeft 47 = .ok (.aload_n 1, 1) := by decide +kernel
theorem d_SU_leastSoundLeft_48 : decode b_SU_leastSoundLeft 48 = .ok (.iload 4, 2) := by decide +kernel
theorem d_SU_leastSoundLeft_50 : decode b_SU_leastSoundLeft 50 = .ok (.invokevirtual 88, 3) := by decide +kernel
theorem d_SU_leastSoundLeft_53 : decode b_SU_leastSoundLeft 53 = .ok (.istore 6, 2) := by decide +kernel
theorem d_SU_leastSoundLeft_55 : decode b_SU_leastSoundLeft 55 = .ok (.iload 6, 2) := by decide +kernel
theorem d_SU_leastSoundLeft_57 : decode b_SU_leastSoundLeft 57 = .ok (.iload 4, 2) := by decide +kernel
theorem d_SU_leastSoundLeft_59 : decode b_SU_leastSoundLeft 59 = .ok (.if_icmp .ne (6), 3) := by decide +kernel
theorem d_SU_leastSoundLeft_62 : decode b_SU_leastSoundLeft 62 = .ok (.iload 4, 2) := by decide +kernel
theorem d_SU_leastSoundLeft_64 : decode b_SU_leastSoundLeft 64 = .ok (.ireturn, 1) := by decide +kernel
theorem d_SU_leastSoundLeft_65 : decode b_SU_leastSoundLeft 65 = .ok (.iload 6, 2) := by decide +kernel
theorem d_SU_leastSoundLeft_67 : decode b_SU_leastSoundLeft 67 = .ok (.istore 4, 2) := by decide +kernel
theorem d_SU_leastSoundLeft_69 : decode b_SU_leastSoundLeft 69 = .ok (.iinc 5 1, 3) := by decide +kernel
theorem d_SU_leastSoundLeft_72 : decode b_SU_leastSoundLeft 72 = .ok (.goto (-38), 3) := by decide +kernel
theorem d_SU_leastSoundLeft_75 : decode b_SU_leastSoundLeft 75 = .ok (.iconst (-1), 1) := by decide +kernel
theorem d_SU_leastSoundLeft_76 : decode b_SU_leastSoundLeft 76 = .ok (.ireturn, 1) := by decide +kernel
theorem d_SU_leftPast_0 : decode b_SU_leftPast 0 = .ok (.iload_n 2, 1) := by decide +kernel
theorem d_SU_leftPast_1 : decode b_SU_leftPast 1 = .ok (.istore_n 3, 1) := by decide +kernel
theorem d_SU_leftPast_2 : decode b_SU_leftPast 2 = .ok (.iconst 0, 1) := by decide +kernel
theorem d_SU_leftPast_3 : decode b_SU_leftPast 3 = .ok (.istore 4, 2) := by decide +kernel
theorem d_SU_leftPast_5 : decode b_SU_leftPast 5 = .ok (.iload 4, 2) := by decide +kernel
theorem d_SU_leftPast_7 : decode b_SU_leftPast 7 = .ok (.aload_n 0, 1) := by decide +kernel
theorem d_SU_leftPast_8 : decode b_SU_leftPast 8 = .ok (.getfield 21, 3) := by decide +kernel
theorem d_SU_leftPast_11 : decode b_SU_leftPast 11 = .ok (.if_icmp .ge (81), 3) := by decide +kernel
theorem d_SU_leftPast_14 : decode b_SU_leftPast 14 = .ok (.iconst 0, 1) := by decide +kernel
theorem d_SU_leftPast_15 : decode b_SU_leftPast 15 = .ok (.istore 5, 2) := by decide +kernel
theorem d_SU_leftPast_17 : decode b_SU_leftPast 17 = .ok (.iload 5, 2) := by decide +kernel
theorem d_SU_leftPast_19 : decode b_SU_leftPast 19 = .ok (.aload_n 1, 1) := by decide +kernel
theorem d_SU_leftPast_20 : decode b_SU_leftPast 20 = .ok (.getfield 85, 3) := by decide +kernel
theorem d_SU_leftPast_23 : decode b_SU_leftPast 23 = .ok (.if_icmp .ge (63), 3) := by decide +kernel
theorem d_SU_leftPast_26 : decode b_SU_leftPast 26 = .ok (.iload_n 3, 1) := by decide +kernel
theorem d_SU_leftPast_27 : decode b_SU_leftPast 27 = .ok (.aload_n 0, 1) := by decide +kernel
theorem d_SU_leftPast_28 : decode b_SU_leftPast 28 = .ok (.getfield 15, 3) := by decide +kernel
theorem d_SU_leftPast_31 : decode b_SU_leftPast 31 = .ok (.iload 4, 2) := by decide +kernel
theorem d_SU_leftPast_33 : decode b_SU_leftPast 33 = .ok (.iaload, 1) := by decide +kernel
theorem d_SU_leftPast_34 : decode b_SU_leftPast 34 = .ok (.iadd, 1) := by decide +kernel
theorem d_SU_leftPast_35 : decode b_SU_leftPast 35 = .ok (.aload_n 1, 1) := by decide +kernel
theorem d_SU_leftPast_36 : decode b_SU_leftPast 36 = .ok (.getfield 92, 3) := by decide +kernel
theorem d_SU_leftPast_39 : decode b_SU_leftPast 39 = .ok (.iload 5, 2) := by decide +kernel
theorem d_SU_leftPast_41 : decode b_SU_leftPast 41 = .ok (.iaload, 1) := by decide +kernel
theorem d_SU_leftPast_42 : decode b_SU_leftPast 42 = .ok (.if_icmp .ge (38), 3) := by decide +kernel
theorem d_SU_leftPast_45 : decode b_SU_leftPast 45 = .ok (.aload_n 1, 1) := by decide +kernel
theorem d_SU_leftPast_46 : decode b_SU_leftPast 46 = .ok (.getfield 95, 3) := by decide +kernel
theorem d_SU_leftPast_49 : decode b_SU_leftPast 49 = .ok (.iload 5, 2) := by decide +kernel
theorem d_SU_leftPast_51 : decode b_SU_leftPast 51 = .ok (.iaload, 1) := by decide +kernel
theorem d_SU_leftPast_52 : decode b_SU_leftPast 52 = .ok (.iload_n 3, 1) := by decide +kernel
theorem d_SU_leftPast_53 : decode b_SU_leftPast 53 = .ok (.aload_n 0, 1) := by decide +kernel
theorem d_SU_leftPast_54 : decode b_SU_leftPast 54 = .ok (.getfield 18, 3) := by decide +kernel
theorem d_SU_leftPast_57 : decode b_SU_leftPast 57 = .ok (.iload 4, 2) := by decide +kernel
theorem d_SU_leftPast_59 : decode b_SU_leftPast 59 = .ok (.iaload, 1) := by decide +kernel
theorem d_SU_leftPast_60 : decode b_SU_leftPast 60 = .ok (.iadd, 1) := by decide +kernel
theorem d_SU_leftPast_61 : decode b_SU_leftPast 61 = .ok (.if_icmp .ge (19), 3) := by decide +kernel
theorem d_SU_leftPast_64 : decode b_SU_leftPast 64 = .ok (.aload_n 1, 1) := by decide +kernel
theorem d_SU_leftPast_65 : decode b_SU_leftPast 65 = .ok (.getfield 92, 3) := by decide +kernel
theorem d_SU_leftPast_68 : decode b_SU_leftPast 68 = .ok (.iload 5, 2) := by decide +kernel
theorem d_SU_leftPast_70 : decode b_SU_leftPast 70 = .ok (.iaload, 1) := by decide +kernel
theorem d_SU_leftPast_71 : decode b_SU_leftPast 71 = .ok (.aload_n 0, 1) := by decide +kernel
theorem d_SU_leftPast_72 : decode b_SU_leftPast 72 = .ok (.getfield 15, 3) := by decide +kernel
theorem d_SU_leftPast_75 : decode b_SU_leftPast 75 = .ok (.iload 4, 2) := by decide +kernel
theorem d_SU_leftPast_77 : decode b_SU_leftPast 77 = .ok (.iaload, 1) := by decide +kernel
theorem d_SU_leftPast_78 : decode b_SU_leftPast 78 = .ok (.isub, 1) := by decide +kernel
theorem d_SU_leftPast_79 : decode b_SU_leftPast 79 = .ok (.istore_n 3, 1) := by decide +kernel
theorem d_SU_leftPast_80 : decode b_SU_leftPast 80 = .ok (.iinc 5 1, 3) := by decide +kernel
theorem d_SU_leftPast_83 : decode b_SU_leftPast 83 = .ok (.goto (-66), 3) := by decide +kernel
theorem d_SU_leftPast_86 : decode b_SU_leftPast 86 = .ok (.iinc 4 1, 3) := by decide +kernel
theorem d_SU_leftPast_89 : decode b_SU_leftPast 89 = .ok (.goto (-84), 3) := by decide +kernel
theorem d_SU_leftPast_92 : decode b_SU_leftPast 92 = .ok (.iload_n 3, 1) := by decide +kernel
theorem d_SU_leftPast_93 : decode b_SU_leftPast 93 = .ok (.ireturn, 1) := by decide +kernel
