/-- 1 where it holds, else 0 -/
def b01 (P : Prop) [Decidable P] : Nat := if P then 1 else 0
theorem b01_t {P : Prop} [Decidable P] (h : P) : b01 P = 1 := if_pos h
theorem b01_f {P : Prop} [Decidable P] (h : ¬ P) : b01 P = 0 := if_neg h
theorem b01_le {P : Prop} [Decidable P] : b01 P ≤ 1 := by unfold b01; split <;> omega
theorem b01_1 {P : Prop} [Decidable P] : b01 P = 1 ↔ P := by unfold b01; split <;> simp [*]
theorem b01_0 {P : Prop} [Decidable P] : b01 P = 0 ↔ ¬ P := by unfold b01; split <;> simp [*]
/-- what 'throwing' keeps -/
def thw (a b : Nat) : Nat := if a = 1 then 1 else if b = 1 then 2 else 0
/-- the k-th strip's wanted width is nu k, by the counts f -/
def HW (f nu : Nat → Nat) : Prop := ∀ i, i < sumN f 5 → sumN f (nu i) ≤ i ∧ i < sumN f (nu i + 1) ∧ nu i < 5
theorem wo_uniq {f : Nat → Nat} {k a b : Nat} (h1 : sumN f a ≤ k) (h2 : k < sumN f (a + 1)) (h3 : sumN f b ≤ k) (h4 : k < sumN f (b + 1)) : a = b := by
  rcases Nat.lt_trichotomy a b with h | h | h
  · have := sumN_mono (f := f) (show a + 1 ≤ b by omega)
    omega
  · exact h
  · have := sumN_mono (f := f) (show b + 1 ≤ a by omega)
    omega
/-- where the k-th strip begins, from the left on -/
def bgm (ww nu : Nat → Nat) (kf : Nat) (k : Nat) : Nat := sumN (fun j => ww (nu j) + kf) k
theorem d_MO_init_0 : decode b_MO_init 0 = .ok (.aload_n 0, 1) := by decide +kernel
theorem d_MO_init_1 : decode b_MO_init 1 = .ok (.invokespecial 1, 3) := by decide +kernel
theorem d_MO_init_4 : decode b_MO_init 4 = .ok (.aload_n 0, 1) := by decide +kernel
theorem d_MO_init_5 : decode b_MO_init 5 = .ok (.sipush 10000, 3) := by decide +kernel
theorem d_MO_init_8 : decode b_MO_init 8 = .ok (.putfield 7, 3) := by decide +kernel
theorem d_MO_init_11 : decode b_MO_init 11 = .ok (.aload_n 0, 1) := by decide +kernel
theorem d_MO_init_12 : decode b_MO_init 12 = .ok (.sipush 10000, 3) := by decide +kernel
theorem d_MO_init_15 : decode b_MO_init 15 = .ok (.putfield 13, 3) := by decide +kernel
theorem d_MO_init_18 : decode b_MO_init 18 = .ok (.aload_n 0, 1) := by decide +kernel
theorem d_MO_init_19 : decode b_MO_init 19 = .ok (.bipush 50, 2) := by decide +kernel
theorem d_MO_init_21 : decode b_MO_init 21 = .ok (.putfield 16, 3) := by decide +kernel
theorem d_MO_init_24 : decode b_MO_init 24 = .ok (.aload_n 0, 1) := by decide +kernel
theorem d_MO_init_25 : decode b_MO_init 25 = .ok (.bipush 20, 2) := by decide +kernel
theorem d_MO_init_27 : decode b_MO_init 27 = .ok (.putfield 19, 3) := by decide +kernel
theorem d_MO_init_30 : decode b_MO_init 30 = .ok (.aload_n 0, 1) := by decide +kernel
theorem d_MO_init_31 : decode b_MO_init 31 = .ok (.iconst 5, 1) := by decide +kernel
theorem d_MO_init_32 : decode b_MO_init 32 = .ok (.newarray .int, 2) := by decide +kernel
theorem d_MO_init_34 : decode b_MO_init 34 = .ok (.putfield 22, 3) := by decide +kernel
theorem d_MO_init_37 : decode b_MO_init 37 = .ok (.aload_n 0, 1) := by decide +kernel
theorem d_MO_init_38 : decode b_MO_init 38 = .ok (.iconst 5, 1) := by decide +kernel
theorem d_MO_init_39 : decode b_MO_init 39 = .ok (.newarray .int, 2) := by decide +kernel
theorem d_MO_init_41 : decode b_MO_init 41 = .ok (.putfield 26, 3) := by decide +kernel
theorem d_MO_init_44 : decode b_MO_init 44 = .ok (.aload_n 0, 1) := by decide +kernel
theorem d_MO_init_45 : decode b_MO_init 45 = .ok (.iconst 5, 1) := by decide +kernel
theorem d_MO_init_46 : decode b_MO_init 46 = .ok (.newarray .int, 2) := by decide +kernel
theorem d_MO_init_48 : decode b_MO_init 48 = .ok (.putfield 29, 3) := by decide +kernel
theorem d_MO_init_51 : decode b_MO_init 51 = .ok (.aload_n 0, 1) := by decide +kernel
theorem d_MO_init_52 : decode b_MO_init 52 = .ok (.iconst 5, 1) := by decide +kernel
theorem d_MO_init_53 : decode b_MO_init 53 = .ok (.newarray .int, 2) := by decide +kernel
theorem d_MO_init_55 : decode b_MO_init 55 = .ok (.putfield 32, 3) := by decide +kernel
theorem d_MO_init_58 : decode b_MO_init 58 = .ok (.aload_n 0, 1) := by decide +kernel
theorem d_MO_init_59 : decode b_MO_init 59 = .ok (.bipush 9, 2) := by decide +kernel
theorem d_MO_init_61 : decode b_MO_init 61 = .ok (.newarray .int, 2) := by decide +kernel
theorem d_MO_init_63 : decode b_MO_init 63 = .ok (.putfield 35, 3) := by decide +kernel
theorem d_MO_init_66 : decode b_MO_init 66 = .ok (.aload_n 0, 1) := by decide +kernel
theorem d_MO_init_67 : decode b_MO_init 67 = .ok (.bipush 9, 2) := by decide +kernel
theorem d_MO_init_69 : decode b_MO_init 69 = .ok (.newarray .int, 2) := by decide +kernel
theorem d_MO_init_71 : decode b_MO_init 71 = .ok (.putfield 38, 3) := by decide +kernel
theorem d_MO_init_74 : decode b_MO_init 74 = .ok (.aload_n 0, 1) := by decide +kernel
theorem d_MO_init_75 : decode b_MO_init 75 = .ok (.bipush 9, 2) := by decide +kernel
theorem d_MO_init_77 : decode b_MO_init 77 = .ok (.newarray .int, 2) := by decide +kernel
theorem d_MO_init_79 : decode b_MO_init 79 = .ok (.putfield 41, 3) := by decide +kernel
theorem d_MO_init_82 : decode b_MO_init 82 = .ok (.aload_n 0, 1) := by decide +kernel
theorem d_MO_init_83 : decode b_MO_init 83 = .ok (.bipush 9, 2) := by decide +kernel
theorem d_MO_init_85 : decode b_MO_init 85 = .ok (.newarray .int, 2) := by decide +kernel
theorem d_MO_init_87 : decode b_MO_init 87 = .ok (.putfield 44, 3) := by decide +kernel
theorem d_MO_init_90 : decode b_MO_init 90 = .ok (.aload_n 0, 1) := by decide +kernel
theorem d_MO_init_91 : decode b_MO_init 91 = .ok (.bipush 9, 2) := by decide +kernel
theorem d_MO_init_93 : decode b_MO_init 93 = .ok (.newarray .int, 2) := by decide +kernel
theorem d_MO_init_95 : decode b_MO_init 95 = .ok (.putfield 47, 3) := by decide +kernel
theorem d_MO_init_98 : decode b_MO_init 98 = .ok (.aload_n 0, 1) := by decide +kernel
theorem d_MO_init_99 : decode b_MO_init 99 = .ok (.bipush 45, 2) := by decide +kernel
theorem d_MO_init_101 : decode b_MO_init 101 = .ok (.newarray .int, 2) := by decide +kernel
theorem d_MO_init_103 : decode b_MO_init 103 = .ok (.putfield 50, 3) := by decide +kernel
theorem d_MO_init_106 : decode b_MO_init 106 = .ok (.aload_n 0, 1) := by decide +kernel
theorem d_MO_init_107 : decode b_MO_init 107 = .ok (.bipush 10, 2) := by decide +kernel
theorem d_MO_init_109 : decode b_MO_init 109 = .ok (.newarray .int, 2) := by decide +kernel
theorem d_MO_init_111 : decode b_MO_init 111 = .ok (.putfield 53, 3) := by decide +kernel
theorem d_MO_init_114 : decode b_MO_init 114 = .ok (.aload_n 0, 1) := by decide +kernel
theorem d_MO_init_115 : decode b_MO_init 115 = .ok (.bipush 10, 2) := by decide +kernel
theorem d_MO_init_117 : decode b_MO_init 117 = .ok (.newarray .int, 2) := by decide +kernel
theorem d_MO_init_119 : decode b_MO_init 119 = .ok (.putfield 56, 3) := by decide +kernel
theorem d_MO_init_122 : decode b_MO_init 122 = .ok (.aload_n 0, 1) := by decide +kernel
theorem d_MO_init_123 : decode b_MO_init 123 = .ok (.sipush 4608, 3) := by decide +kernel
theorem d_MO_init_126 : decode b_MO_init 126 = .ok (.newarray .int, 2) := by decide +kernel
theorem d_MO_init_128 : decode b_MO_init 128 = .ok (.putfield 59, 3) := by decide +kernel
theorem d_MO_init_131 : decode b_MO_init 131 = .ok (.aload_n 0, 1) := by decide +kernel
theorem d_MO_init_132 : decode b_MO_init 132 = .ok (.bipush 81, 2) := by decide +kernel
theorem d_MO_init_134 : decode b_MO_init 134 = .ok (.newarray .int, 2) := by decide +kernel
theorem d_MO_init_136 : decode b_MO_init 136 = .ok (.putfield 62, 3) := by decide +kernel
theorem d_MO_init_139 : decode b_MO_init 139 = .ok (.return_, 1) := by decide +kernel
theorem d_MO_thrown_0 : decode b_MO_thrown 0 = .ok (.aload_n 0, 1) := by decide +kernel
theorem d_MO_thrown_1 : decode b_MO_thrown 1 = .ok (.getfield 65, 3) := by decide +kernel
theorem d_MO_thrown_4 : decode b_MO_thrown 4 = .ok (.ireturn, 1) := by decide +kernel
theorem d_MO_throwing_0 : decode b_MO_throwing 0 = .ok (.aload_n 0, 1) := by decide +kernel
theorem d_MO_throwing_1 : decode b_MO_throwing 1 = .ok (.iload_n 1, 1) := by decide +kernel
theorem d_MO_throwing_2 : decode b_MO_throwing 2 = .ok (.ifCond .eq (7), 3) := by decide +kernel
theorem d_MO_throwing_5 : decode b_MO_throwing 5 = .ok (.iconst 1, 1) := by decide +kernel
theorem d_MO_throwing_6 : decode b_MO_throwing 6 = .ok (.goto (12), 3) := by decide +kernel
theorem d_MO_throwing_9 : decode b_MO_throwing 9 = .ok (.iload_n 2, 1) := by decide +kernel
theorem d_MO_throwing_10 : decode b_MO_throwing 10 = .ok (.ifCond .eq (7), 3) := by decide +kernel
theorem d_MO_throwing_13 : decode b_MO_throwing 13 = .ok (.iconst 2, 1) := by decide +kernel
theorem d_MO_throwing_14 : decode b_MO_throwing 14 = .ok (.goto (4), 3) := by decide +kernel
theorem d_MO_throwing_17 : decode b_MO_throwing 17 = .ok (.iconst 0, 1) := by decide +kernel
theorem d_MO_throwing_18 : decode b_MO_throwing 18 = .ok (.putfield 65, 3) := by decide +kernel
theorem d_MO_throwing_21 : decode b_MO_throwing 21 = .ok (.aload_n 0, 1) := by decide +kernel
theorem d_MO_throwing_22 : decode b_MO_throwing 22 = .ok (.getfield 65, 3) := by decide +kernel
theorem d_MO_throwing_25 : decode b_MO_throwing 25 = .ok (.ifCond .le (7), 3) := by decide +kernel
theorem d_MO_throwing_28 : decode b_MO_throwing 28 = .ok (.iconst 1, 1) := by decide +kernel
theorem d_MO_throwing_29 : decode b_MO_throwing 29 = .ok (.goto (4), 3) := by decide +kernel
theorem d_MO_throwing_32 : decode b_MO_throwing 32 = .ok (.iconst 0, 1) := by decide +kernel
theorem d_MO_throwing_33 : decode b_MO_throwing 33 = .ok (.ireturn, 1) := by decide +kernel
theorem d_MO_in_0 : decode b_MO_in 0 = .ok (.iload_n 0, 1) := by decide +kernel
theorem d_MO_in_1 : decode b_MO_in 1 = .ok (.iload_n 1, 1) := by decide +kernel
theorem d_MO_in_2 : decode b_MO_in 2 = .ok (.if_icmp .lt (12), 3) := by decide +kernel
theorem d_MO_in_5 : decode b_MO_in 5 = .ok (.iload_n 0, 1) := by decide +kernel
theorem d_MO_in_6 : decode b_MO_in 6 = .ok (.iload_n 2, 1) := by decide +kernel
theorem d_MO_in_7 : decode b_MO_in 7 = .ok (.if_icmp .gt (7), 3) := by decide +kernel
theorem d_MO_in_10 : decode b_MO_in 10 = .ok (.iconst 1, 1) := by decide +kernel
theorem d_MO_in_11 : decode b_MO_in 11 = .ok (.goto (4), 3) := by decide +kernel
theorem d_MO_in_14 : decode b_MO_in 14 = .ok (.iconst 0, 1) := by decide +kernel
theorem d_MO_in_15 : decode b_MO_in 15 = .ok (.ireturn, 1) := by decide +kernel
theorem d_MO_coil_0 : decode b_MO_coil 0 = .ok (.iload_n 1, 1) := by decide +kernel
theorem d_MO_coil_1 : decode b_MO_coil 1 = .ok (.iconst 1, 1) := by decide +kernel
theorem d_MO_coil_2 : decode b_MO_coil 2 = .ok (.sipush 20000, 3) := by decide +kernel
theorem d_MO_coil_5 : decode b_MO_coil 5 = .ok (.invokestatic 68, 3) := by decide +kernel
theorem d_MO_coil_8 : decode b_MO_coil 8 = .ok (.ifCond .eq (50), 3) := by decide +kernel
theorem d_MO_coil_11 : decode b_MO_coil 11 = .ok (.iload_n 2, 1) := by decide +kernel
theorem d_MO_coil_12 : decode b_MO_coil 12 = .ok (.iconst 1, 1) := by decide +kernel
theorem d_MO_coil_13 : decode b_MO_coil 13 = .ok (.ldc 72, 2) := by decide +kernel
theorem d_MO_coil_15 : decode b_MO_coil 15 = .ok (.invokestatic 68, 3) := by decide +kernel
theorem d_MO_coil_18 : decode b_MO_coil 18 = .ok (.ifCond .eq (40), 3) := by decide +kernel
theorem d_MO_coil_21 : decode b_MO_coil 21 = .ok (.iload_n 3, 1) := by decide +kernel
theorem d_MO_coil_22 : decode b_MO_coil 22 = .ok (.iconst 0, 1) := by decide +kernel
theorem d_MO_coil_23 : decode b_MO_coil 23 = .ok (.sipush 1000, 3) := by decide +kernel
theorem d_MO_coil_26 : decode b_MO_coil 26 = .ok (.invokestatic 68, 3) := by decide +kernel
theorem d_MO_coil_29 : decode b_MO_coil 29 = .ok (.ifCond .eq (29), 3) := by decide +kernel
theorem d_MO_coil_32 : decode b_MO_coil 32 = .ok (.iload 4, 2) := by decide +kernel
theorem d_MO_coil_34 : decode b_MO_coil 34 = .ok (.iconst 0, 1) := by decide +kernel
theorem d_MO_coil_35 : decode b_MO_coil 35 = .ok (.bipush 100, 2) := by decide +kernel
theorem d_MO_coil_37 : decode b_MO_coil 37 = .ok (.invokestatic 68, 3) := by decide +kernel
theorem d_MO_coil_40 : decode b_MO_coil 40 = .ok (.ifCond .eq (18), 3) := by decide +kernel
theorem d_MO_coil_43 : decode b_MO_coil 43 = .ok (.iload 5, 2) := by decide +kernel
theorem d_MO_coil_45 : decode b_MO_coil 45 = .ok (.iconst 2, 1) := by decide +kernel
theorem d_MO_coil_46 : decode b_MO_coil 46 = .ok (.bipush 40, 2) := by decide +kernel
theorem d_MO_coil_48 : decode b_MO_coil 48 = .ok (.invokestatic 68, 3) := by decide +kernel
theorem d_MO_coil_51 : decode b_MO_coil 51 = .ok (.ifCond .eq (7), 3) := by decide +kernel
theorem d_MO_coil_54 : decode b_MO_coil 54 = .ok (.iconst 1, 1) := by decide +kernel
theorem d_MO_coil_55 : decode b_MO_coil 55 = .ok (.goto (4), 3) := by decide +kernel
theorem d_MO_coil_58 : decode b_MO_coil 58 = .ok (.iconst 0, 1) := by decide +kernel
theorem d_MO_coil_59 : decode b_MO_coil 59 = .ok (.istore 6, 2) := by decide +kernel
theorem d_MO_coil_61 : decode b_MO_coil 61 = .ok (.aload_n 0, 1) := by decide +kernel
theorem d_MO_coil_62 : decode b_MO_coil 62 = .ok (.iload 6, 2) := by decide +kernel
theorem d_MO_coil_64 : decode b_MO_coil 64 = .ok (.ifCond .ne (7), 3) := by decide +kernel
theorem d_MO_coil_67 : decode b_MO_coil 67 = .ok (.iconst 1, 1) := by decide +kernel
theorem d_MO_coil_68 : decode b_MO_coil 68 = .ok (.goto (4), 3) := by decide +kernel
theorem d_MO_coil_71 : decode b_MO_coil 71 = .ok (.iconst 0, 1) := by decide +kernel
theorem d_MO_coil_72 : decode b_MO_coil 72 = .ok (.iconst 0, 1) := by decide +kernel
theorem d_MO_coil_73 : decode b_MO_coil 73 = .ok (.invokevirtual 73, 3) := by decide +kernel
theorem d_MO_coil_76 : decode b_MO_coil 76 = .ok (.ifCond .eq (4), 3) := by decide +kernel
theorem d_MO_coil_79 : decode b_MO_coil 79 = .ok (.return_, 1) := by decide +kernel
theorem d_MO_coil_80 : decode b_MO_coil 80 = .ok (.aload_n 0, 1) := by decide +kernel
theorem d_MO_coil_81 : decode b_MO_coil 81 = .ok (.iload_n 1, 1) := by decide +kernel
theorem d_MO_coil_82 : decode b_MO_coil 82 = .ok (.putfield 7, 3) := by decide +kernel
theorem d_MO_coil_85 : decode b_MO_coil 85 = .ok (.aload_n 0, 1) := by decide +kernel
theorem d_MO_coil_86 : decode b_MO_coil 86 = .ok (.iload_n 2, 1) := by decide +kernel
theorem d_MO_coil_87 : decode b_MO_coil 87 = .ok (.putfield 13, 3) := by decide +kernel
theorem d_MO_coil_90 : decode b_MO_coil 90 = .ok (.aload_n 0, 1) := by decide +kernel
theorem d_MO_coil_91 : decode b_MO_coil 91 = .ok (.iload_n 3, 1) := by decide +kernel
theorem d_MO_coil_92 : decode b_MO_coil 92 = .ok (.putfield 16, 3) := by decide +kernel
theorem d_MO_coil_95 : decode b_MO_coil 95 = .ok (.aload_n 0, 1) := by decide +kernel
theorem d_MO_coil_96 : decode b_MO_coil 96 = .ok (.iload 4, 2) := by decide +kernel
theorem d_MO_coil_98 : decode b_MO_coil 98 = .ok (.putfield 77, 3) := by decide +kernel
theorem d_MO_coil_101 : decode b_MO_coil 101 = .ok (.aload_n 0, 1) := by decide +kernel
theorem d_MO_coil_102 : decode b_MO_coil 102 = .ok (.iload 5, 2) := by decide +kernel
theorem d_MO_coil_104 : decode b_MO_coil 104 = .ok (.putfield 19, 3) := by decide +kernel
theorem d_MO_coil_107 : decode b_MO_coil 107 = .ok (.return_, 1) := by decide +kernel
theorem d_MO_want_0 : decode b_MO_want 0 = .ok (.aload_n 0, 1) := by decide +kernel
theorem d_MO_want_1 : decode b_MO_want 1 = .ok (.aload_n 0, 1) := by decide +kernel
theorem d_MO_want_2 : decode b_MO_want 2 = .ok (.getfield 80, 3) := by decide +kernel
theorem d_MO_want_5 : decode b_MO_want 5 = .ok (.iconst 5, 1) := by decide +kernel
theorem d_MO_want_6 : decode b_MO_want 6 = .ok (.if_icmp .ne (7), 3) := by decide +kernel
theorem d_MO_want_9 : decode b_MO_want 9 = .ok (.iconst 1, 1) := by decide +kernel
theorem d_MO_want_10 : decode b_MO_want 10 = .ok (.goto (4), 3) := by decide +kernel
theorem d_MO_want_13 : decode b_MO_want 13 = .ok (.iconst 0, 1) := by decide +kernel
theorem d_MO_want_14 : decode b_MO_want 14 = .ok (.iload_n 1, 1) := by decide +kernel
theorem d_MO_want_15 : decode b_MO_want 15 = .ok (.iconst 1, 1) := by decide +kernel
theorem d_MO_want_16 : decode b_MO_want 16 = .ok (.sipush 20000, 3) := by decide +kernel
theorem d_MO_want_19 : decode b_MO_want 19 = .ok (.invokestatic 68, 3) := by decide +kernel
theorem d_MO_want_22 : decode b_MO_want 22 = .ok (.ifCond .eq (13), 3) := by decide +kernel
theorem d_MO_want_25 : decode b_MO_want 25 = .ok (.iload_n 2, 1) := by decide +kernel
theorem d_MO_want_26 : decode b_MO_want 26 = .ok (.iconst 0, 1) := by decide +kernel
theorem d_MO_want_27 : decode b_MO_want 27 = .ok (.bipush 6, 2) := by decide +kernel
theorem d_MO_want_29 : decode b_MO_want 29 = .ok (.invokestatic 68, 3) := by decide +kernel
theorem d_MO_want_32 : decode b_MO_want 32 = .ok (.ifCond .ne (7), 3) := by decide +kernel
theorem d_MO_want_35 : decode b_MO_want 35 = .ok (.iconst 1, 1) := by decide +kernel
theorem d_MO_want_36 : decode b_MO_want 36 = .ok (.goto (4), 3) := by decide +kernel
theorem d_MO_want_39 : decode b_MO_want 39 = .ok (.iconst 0, 1) := by decide +kernel
theorem d_MO_want_40 : decode b_MO_want 40 = .ok (.invokevirtual 73, 3) := by decide +kernel
theorem d_MO_want_43 : decode b_MO_want 43 = .ok (.ifCond .eq (5), 3) := by decide +kernel
theorem d_MO_want_46 : decode b_MO_want 46 = .ok (.iconst 0, 1) := by decide +kernel
theorem d_MO_want_47 : decode b_MO_want 47 = .ok (.ireturn, 1) := by decide +kernel
theorem d_MO_want_48 : decode b_MO_want 48 = .ok (.aload_n 0, 1) := by decide +kernel
theorem d_MO_want_49 : decode b_MO_want 49 = .ok (.getfield 22, 3) := by decide +kernel
theorem d_MO_want_52 : decode b_MO_want 52 = .ok (.aload_n 0, 1) := by decide +kernel
theorem d_MO_want_53 : decode b_MO_want 53 = .ok (.getfield 80, 3) := by decide +kernel
theorem d_MO_want_56 : decode b_MO_want 56 = .ok (.iload_n 1, 1) := by decide +kernel
theorem d_MO_want_57 : decode b_MO_want 57 = .ok (.iastore, 1) := by decide +kernel
theorem d_MO_want_58 : decode b_MO_want 58 = .ok (.aload_n 0, 1) := by decide +kernel
theorem d_MO_want_59 : decode b_MO_want 59 = .ok (.getfield 26, 3) := by decide +kernel
theorem d_MO_want_62 : decode b_MO_want 62 = .ok (.aload_n 0, 1) := by decide +kernel
theorem d_MO_want_63 : decode b_MO_want 63 = .ok (.getfield 80, 3) := by decide +kernel
theorem d_MO_want_66 : decode b_MO_want 66 = .ok (.iload_n 2, 1) := by decide +kernel
theorem d_MO_want_67 : decode b_MO_want 67 = .ok (.iastore, 1) := by decide +kernel
theorem d_MO_want_68 : decode b_MO_want 68 = .ok (.aload_n 0, 1) := by decide +kernel
theorem d_MO_want_69 : decode b_MO_want 69 = .ok (.dup, 1) := by decide +kernel
theorem d_MO_want_70 : decode b_MO_want 70 = .ok (.getfield 80, 3) := by decide +kernel
theorem d_MO_want_73 : decode b_MO_want 73 = .ok (.iconst 1, 1) := by decide +kernel
theorem d_MO_want_74 : decode b_MO_want 74 = .ok (.iadd, 1) := by decide +kernel
theorem d_MO_want_75 : decode b_MO_want 75 = .ok (.putfield 80, 3) := by decide +kernel
theorem d_MO_want_78 : decode b_MO_want 78 = .ok (.aload_n 0, 1) := by decide +kernel
theorem d_MO_want_79 : decode b_MO_want 79 = .ok (.getfield 80, 3) := by decide +kernel
theorem d_MO_want_82 : decode b_MO_want 82 = .ok (.iconst 1, 1) := by decide +kernel
theorem d_MO_want_83 : decode b_MO_want 83 = .ok (.isub, 1) := by decide +kernel
theorem d_MO_want_84 : decode b_MO_want 84 = .ok (.ireturn, 1) := by decide +kernel
theorem d_MO_strips_0 : decode b_MO_strips 0 = .ok (.aload_n 0, 1) := by decide +kernel
theorem d_MO_strips_1 : decode b_MO_strips 1 = .ok (.iload_n 1, 1) := by decide +kernel
theorem d_MO_strips_2 : decode b_MO_strips 2 = .ok (.iconst 0, 1) := by decide +kernel
theorem d_MO_strips_3 : decode b_MO_strips 3 = .ok (.aload_n 0, 1) := by decide +kernel
theorem d_MO_strips_4 : decode b_MO_strips 4 = .ok (.getfield 80, 3) := by decide +kernel
theorem d_MO_strips_7 : decode b_MO_strips 7 = .ok (.iconst 1, 1) := by decide +kernel
theorem d_MO_strips_8 : decode b_MO_strips 8 = .ok (.isub, 1) := by decide +kernel
theorem d_MO_strips_9 : decode b_MO_strips 9 = .ok (.invokestatic 68, 3) := by decide +kernel
theorem d_MO_strips_12 : decode b_MO_strips 12 = .ok (.ifCond .ne (7), 3) := by decide +kernel
theorem d_MO_strips_15 : decode b_MO_strips 15 = .ok (.iconst 1, 1) := by decide +kernel
theorem d_MO_strips_16 : decode b_MO_strips 16 = .ok (.goto (4), 3) := by decide +kernel
theorem d_MO_strips_19 : decode b_MO_strips 19 = .ok (.iconst 0, 1) := by decide +kernel
theorem d_MO_strips_20 : decode b_MO_strips 20 = .ok (.iload_n 2, 1) := by decide +kernel
theorem d_MO_strips_21 : decode b_MO_strips 21 = .ok (.iconst 0, 1) := by decide +kernel
theorem d_MO_strips_22 : decode b_MO_strips 22 = .ok (.bipush 6, 2) := by decide +kernel
theorem d_MO_strips_24 : decode b_MO_strips 24 = .ok (.invokestatic 68, 3) := by decide +kernel
theorem d_MO_strips_27 : decode b_MO_strips 27 = .ok (.ifCond .ne (7), 3) := by decide +kernel
theorem d_MO_strips_30 : decode b_MO_strips 30 = .ok (.iconst 1, 1) := by decide +kernel
theorem d_MO_strips_31 : decode b_MO_strips 31 = .ok (.goto (4), 3) := by decide +kernel
theorem d_MO_strips_34 : decode b_MO_strips 34 = .ok (.iconst 0, 1) := by decide +kernel
theorem d_MO_strips_35 : decode b_MO_strips 35 = .ok (.invokevirtual 73, 3) := by decide +kernel
theorem d_MO_strips_38 : decode b_MO_strips 38 = .ok (.ifCond .eq (4), 3) := by decide +kernel
theorem d_MO_strips_41 : decode b_MO_strips 41 = .ok (.return_, 1) := by decide +kernel
theorem d_MO_strips_42 : decode b_MO_strips 42 = .ok (.aload_n 0, 1) := by decide +kernel
theorem d_MO_strips_43 : decode b_MO_strips 43 = .ok (.getfield 26, 3) := by decide +kernel
theorem d_MO_strips_46 : decode b_MO_strips 46 = .ok (.iload_n 1, 1) := by decide +kernel
theorem d_MO_strips_47 : decode b_MO_strips 47 = .ok (.iload_n 2, 1) := by decide +kernel
theorem d_MO_strips_48 : decode b_MO_strips 48 = .ok (.iastore, 1) := by decide +kernel
theorem d_MO_strips_49 : decode b_MO_strips 49 = .ok (.return_, 1) := by decide +kernel
theorem d_MO_stripsNow_0 : decode b_MO_stripsNow 0 = .ok (.iconst 0, 1) := by decide +kernel
theorem d_MO_stripsNow_1 : decode b_MO_stripsNow 1 = .ok (.istore_n 1, 1) := by decide +kernel
theorem d_MO_stripsNow_2 : decode b_MO_stripsNow 2 = .ok (.iconst 0, 1) := by decide +kernel
theorem d_MO_stripsNow_3 : decode b_MO_stripsNow 3 = .ok (.istore_n 2, 1) := by decide +kernel
theorem d_MO_stripsNow_4 : decode b_MO_stripsNow 4 = .ok (.iload_n 2, 1) := by decide +kernel
theorem d_MO_stripsNow_5 : decode b_MO_stripsNow 5 = .ok (.aload_n 0, 1) := by decide +kernel
theorem d_MO_stripsNow_6 : decode b_MO_stripsNow 6 = .ok (.getfield 80, 3) := by decide +kernel
theorem d_MO_stripsNow_9 : decode b_MO_stripsNow 9 = .ok (.if_icmp .ge (18), 3) := by decide +kernel
theorem d_MO_stripsNow_12 : decode b_MO_stripsNow 12 = .ok (.iload_n 1, 1) := by decide +kernel
theorem d_MO_stripsNow_13 : decode b_MO_stripsNow 13 = .ok (.aload_n 0, 1) := by decide +kernel
theorem d_MO_stripsNow_14 : decode b_MO_stripsNow 14 = .ok (.getfield 29, 3) := by decide +kernel
theorem d_MO_stripsNow_17 : decode b_MO_stripsNow 17 = .ok (.iload_n 2, 1) := by decide +kernel
theorem d_MO_stripsNow_18 : decode b_MO_stripsNow 18 = .ok (.iaload, 1) := by decide +kernel
theorem d_MO_stripsNow_19 : decode b_MO_stripsNow 19 = .ok (.iadd, 1) := by decide +kernel
theorem d_MO_stripsNow_20 : decode b_MO_stripsNow 20 = .ok (.istore_n 1, 1) := by decide +kernel
theorem d_MO_stripsNow_21 : decode b_MO_stripsNow 21 = .ok (.iinc 2 1, 3) := by decide +kernel
theorem d_MO_stripsNow_24 : decode b_MO_stripsNow 24 = .ok (.goto (-20), 3) := by decide +kernel
theorem d_MO_stripsNow_27 : decode b_MO_stripsNow 27 = .ok (.iload_n 1, 1) := by decide +kernel
theorem d_MO_stripsNow_28 : decode b_MO_stripsNow 28 = .ok (.ireturn, 1) := by decide +kernel
theorem d_MO_fillNow_0 : decode b_MO_fillNow 0 = .ok (.aload_n 0, 1) := by decide +kernel
theorem d_MO_fillNow_1 : decode b_MO_fillNow 1 = .ok (.getfield 77, 3) := by decide +kernel
theorem d_MO_fillNow_4 : decode b_MO_fillNow 4 = .ok (.aload_n 0, 1) := by decide +kernel
theorem d_MO_fillNow_5 : decode b_MO_fillNow 5 = .ok (.invokevirtual 83, 3) := by decide +kernel
theorem d_MO_fillNow_8 : decode b_MO_fillNow 8 = .ok (.iconst 1, 1) := by decide +kernel
theorem d_MO_fillNow_9 : decode b_MO_fillNow 9 = .ok (.isub, 1) := by decide +kernel
theorem d_MO_fillNow_10 : decode b_MO_fillNow 10 = .ok (.imul, 1) := by decide +kernel
theorem d_MO_fillNow_11 : decode b_MO_fillNow 11 = .ok (.istore_n 1, 1) := by decide +kernel
theorem d_MO_fillNow_12 : decode b_MO_fillNow 12 = .ok (.iconst 0, 1) := by decide +kernel
theorem d_MO_fillNow_13 : decode b_MO_fillNow 13 = .ok (.istore_n 2, 1) := by decide +kernel
theorem d_MO_fillNow_14 : decode b_MO_fillNow 14 = .ok (.iload_n 2, 1) := by decide +kernel
theorem d_MO_fillNow_15 : decode b_MO_fillNow 15 = .ok (.aload_n 0, 1) := by decide +kernel
theorem d_MO_fillNow_16 : decode b_MO_fillNow 16 = .ok (.getfield 80, 3) := by decide +kernel
theorem d_MO_fillNow_19 : decode b_MO_fillNow 19 = .ok (.if_icmp .ge (25), 3) := by decide +kernel
theorem d_MO_fillNow_22 : decode b_MO_fillNow 22 = .ok (.iload_n 1, 1) := by decide +kernel
theorem d_MO_fillNow_23 : decode b_MO_fillNow 23 = .ok (.aload_n 0, 1) := by decide +kernel
theorem d_MO_fillNow_24 : decode b_MO_fillNow 24 = .ok (.getfield 29, 3) := by decide +kernel
theorem d_MO_fillNow_27 : decode b_MO_fillNow 27 = .ok (.iload_n 2, 1) := by decide +kernel
theorem d_MO_fillNow_28 : decode b_MO_fillNow 28 = .ok (.iaload, 1) := by decide +kernel
theorem d_MO_fillNow_29 : decode b_MO_fillNow 29 = .ok (.aload_n 0, 1) := by decide +kernel
theorem d_MO_fillNow_30 : decode b_MO_fillNow 30 = .ok (.getfield 22, 3) := by decide +kernel
theorem d_MO_fillNow_33 : decode b_MO_fillNow 33 = .ok (.iload_n 2, 1) := by decide +kernel
theorem d_MO_fillNow_34 : decode b_MO_fillNow 34 = .ok (.iaload, 1) := by decide +kernel
theorem d_MO_fillNow_35 : decode b_MO_fillNow 35 = .ok (.imul, 1) := by decide +kernel
theorem d_MO_fillNow_36 : decode b_MO_fillNow 36 = .ok (.iadd, 1) := by decide +kernel
theorem d_MO_fillNow_37 : decode b_MO_fillNow 37 = .ok (.istore_n 1, 1) := by decide +kernel
theorem d_MO_fillNow_38 : decode b_MO_fillNow 38 = .ok (.iinc 2 1, 3) := by decide +kernel
theorem d_MO_fillNow_41 : decode b_MO_fillNow 41 = .ok (.goto (-27), 3) := by decide +kernel
theorem d_MO_fillNow_44 : decode b_MO_fillNow 44 = .ok (.iload_n 1, 1) := by decide +kernel
theorem d_MO_fillNow_45 : decode b_MO_fillNow 45 = .ok (.ireturn, 1) := by decide +kernel
theorem d_MO_goesDown_0 : decode b_MO_goesDown 0 = .ok (.aload_n 0, 1) := by decide +kernel
theorem d_MO_goesDown_1 : decode b_MO_goesDown 1 = .ok (.getfield 80, 3) := by decide +kernel
theorem d_MO_goesDown_4 : decode b_MO_goesDown 4 = .ok (.iconst 1, 1) := by decide +kernel
theorem d_MO_goesDown_5 : decode b_MO_goesDown 5 = .ok (.isub, 1) := by decide +kernel
theorem d_MO_goesDown_6 : decode b_MO_goesDown 6 = .ok (.istore_n 1, 1) := by decide +kernel
theorem d_MO_goesDown_7 : decode b_MO_goesDown 7 = .ok (.iload_n 1, 1) := by decide +kernel
theorem d_MO_goesDown_8 : decode b_MO_goesDown 8 = .ok (.ifCond .lt (30), 3) := by decide +kernel
theorem d_MO_goesDown_11 : decode b_MO_goesDown 11 = .ok (.aload_n 0, 1) := by decide +kernel
theorem d_MO_goesDown_12 : decode b_MO_goesDown 12 = .ok (.getfield 29, 3) := by decide +kernel
theorem d_MO_goesDown_15 : decode b_MO_goesDown 15 = .ok (.iload_n 1, 1) := by decide +kernel
theorem d_MO_goesDown_16 : decode b_MO_goesDown 16 = .ok (.iaload, 1) := by decide +kernel
theorem d_MO_goesDown_17 : decode b_MO_goesDown 17 = .ok (.ifCond .ne (21), 3) := by decide +kernel
theorem d_MO_goesDown_20 : decode b_MO_goesDown 20 = .ok (.aload_n 0, 1) := by decide +kernel
theorem d_MO_goesDown_21 : decode b_MO_goesDown 21 = .ok (.getfield 29, 3) := by decide +kernel
theorem d_MO_goesDown_24 : decode b_MO_goesDown 24 = .ok (.iload_n 1, 1) := by decide +kernel
theorem d_MO_goesDown_25 : decode b_MO_goesDown 25 = .ok (.aload_n 0, 1) := by decide +kernel
theorem d_MO_goesDown_26 : decode b_MO_goesDown 26 = .ok (.getfield 26, 3) := by decide +kernel
theorem d_MO_goesDown_29 : decode b_MO_goesDown 29 = .ok (.iload_n 1, 1) := by decide +kernel
theorem d_MO_goesDown_30 : decode b_MO_goesDown 30 = .ok (.iaload, 1) := by decide +kernel
theorem d_MO_goesDown_31 : decode b_MO_goesDown 31 = .ok (.iastore, 1) := by decide +kernel
theorem d_MO_goesDown_32 : decode b_MO_goesDown 32 = .ok (.iinc 1 (-1), 3) := by decide +kernel
theorem d_MO_goesDown_35 : decode b_MO_goesDown 35 = .ok (.goto (-28), 3) := by decide +kernel
theorem d_MO_goesDown_38 : decode b_MO_goesDown 38 = .ok (.iload_n 1, 1) := by decide +kernel
theorem d_MO_goesDown_39 : decode b_MO_goesDown 39 = .ok (.ifCond .lt (13), 3) := by decide +kernel
theorem d_MO_goesDown_42 : decode b_MO_goesDown 42 = .ok (.aload_n 0, 1) := by decide +kernel
theorem d_MO_goesDown_43 : decode b_MO_goesDown 43 = .ok (.getfield 29, 3) := by decide +kernel
theorem d_MO_goesDown_46 : decode b_MO_goesDown 46 = .ok (.iload_n 1, 1) := by decide +kernel
theorem d_MO_goesDown_47 : decode b_MO_goesDown 47 = .ok (.dup2, 1) := by decide +kernel
theorem d_MO_goesDown_48 : decode b_MO_goesDown 48 = .ok (.iaload, 1) := by decide +kernel
theorem d_MO_goesDown_49 : decode b_MO_goesDown 49 = .ok (.iconst 1, 1) := by decide +kernel
theorem d_MO_goesDown_50 : decode b_MO_goesDown 50 = .ok (.isub, 1) := by decide +kernel
theorem d_MO_goesDown_51 : decode b_MO_goesDown 51 = .ok (.iastore, 1) := by decide +kernel
theorem d_MO_goesDown_52 : decode b_MO_goesDown 52 = .ok (.iload_n 1, 1) := by decide +kernel
theorem d_MO_goesDown_53 : decode b_MO_goesDown 53 = .ok (.ifCond .lt (7), 3) := by decide +kernel
theorem d_MO_goesDown_56 : decode b_MO_goesDown 56 = .ok (.iconst 1, 1) := by decide +kernel
theorem d_MO_goesDown_57 : decode b_MO_goesDown 57 = .ok (.goto (4), 3) := by decide +kernel
theorem d_MO_goesDown_60 : decode b_MO_goesDown 60 = .ok (.iconst 0, 1) := by decide +kernel
theorem d_MO_goesDown_61 : decode b_MO_goesDown 61 = .ok (.ireturn, 1) := by decide +kernel
theorem d_MO_findBest_0 : decode b_MO_findBest 0 = .ok (.iconst 0, 1) := by decide +kernel
theorem d_MO_findBest_1 : decode b_MO_findBest 1 = .ok (.istore_n 1, 1) := by decide +kernel
theorem d_MO_findBest_2 : decode b_MO_findBest 2 = .ok (.iconst 0, 1) := by decide +kernel
theorem d_MO_findBest_3 : decode b_MO_findBest 3 = .ok (.istore_n 2, 1) := by decide +kernel
theorem d_MO_findBest_4 : decode b_MO_findBest 4 = .ok (.iconst 0, 1) := by decide +kernel
theorem d_MO_findBest_5 : decode b_MO_findBest 5 = .ok (.istore_n 3, 1) := by decide +kernel
theorem d_MO_findBest_6 : decode b_MO_findBest 6 = .ok (.iload_n 3, 1) := by decide +kernel
theorem d_MO_findBest_7 : decode b_MO_findBest 7 = .ok (.iconst 5, 1) := by decide +kernel
theorem d_MO_findBest_8 : decode b_MO_findBest 8 = .ok (.if_icmp .ge (40), 3) := by decide +kernel
theorem d_MO_findBest_11 : decode b_MO_findBest 11 = .ok (.aload_n 0, 1) := by decide +kernel
theorem d_MO_findBest_12 : decode b_MO_findBest 12 = .ok (.getfield 29, 3) := by decide +kernel
theorem d_MO_findBest_15 : decode b_MO_findBest 15 = .ok (.iload_n 3, 1) := by decide +kernel
theorem d_MO_findBest_16 : decode b_MO_findBest 16 = .ok (.iload_n 3, 1) := by decide +kernel
theorem d_MO_findBest_17 : decode b_MO_findBest 17 = .ok (.aload_n 0, 1) := by decide +kernel
theorem d_MO_findBest_18 : decode b_MO_findBest 18 = .ok (.getfield 80, 3) := by decide +kernel
theorem d_MO_findBest_21 : decode b_MO_findBest 21 = .ok (.if_icmp .ge (12), 3) := by decide +kernel
theorem d_MO_findBest_24 : decode b_MO_findBest 24 = .ok (.aload_n 0, 1) := by decide +kernel
theorem d_MO_findBest_25 : decode b_MO_findBest 25 = .ok (.getfield 26, 3) := by decide +kernel
theorem d_MO_findBest_28 : decode b_MO_findBest 28 = .ok (.iload_n 3, 1) := by decide +kernel
theorem d_MO_findBest_29 : decode b_MO_findBest 29 = .ok (.iaload, 1) := by decide +kernel
theorem d_MO_findBest_30 : decode b_MO_findBest 30 = .ok (.goto (4), 3) := by decide +kernel
theorem d_MO_findBest_33 : decode b_MO_findBest 33 = .ok (.iconst 0, 1) := by decide +kernel
theorem d_MO_findBest_34 : decode b_MO_findBest 34 = .ok (.iastore, 1) := by decide +kernel
theorem d_MO_findBest_35 : decode b_MO_findBest 35 = .ok (.aload_n 0, 1) := by decide +kernel
theorem d_MO_findBest_36 : decode b_MO_findBest 36 = .ok (.getfield 32, 3) := by decide +kernel
theorem d_MO_findBest_39 : decode b_MO_findBest 39 = .ok (.iload_n 3, 1) := by decide +kernel
theorem d_MO_findBest_40 : decode b_MO_findBest 40 = .ok (.iconst 0, 1) := by decide +kernel
theorem d_MO_findBest_41 : decode b_MO_findBest 41 = .ok (.iastore, 1) := by decide +kernel
theorem d_MO_findBest_42 : decode b_MO_findBest 42 = .ok (.iinc 3 1, 3) := by decide +kernel
theorem d_MO_findBest_45 : decode b_MO_findBest 45 = .ok (.goto (-39), 3) := by decide +kernel
theorem d_MO_findBest_48 : decode b_MO_findBest 48 = .ok (.iconst 1, 1) := by decide +kernel
theorem d_MO_findBest_49 : decode b_MO_findBest 49 = .ok (.istore_n 3, 1) := by decide +kernel
theorem d_MO_findBest_50 : decode b_MO_findBest 50 = .ok (.iload_n 3, 1) := by decide +kernel
theorem d_MO_findBest_51 : decode b_MO_findBest 51 = .ok (.ifCond .eq (121), 3) := by decide +kernel
theorem d_MO_findBest_54 : decode b_MO_findBest 54 = .ok (.aload_n 0, 1) := by decide +kernel
theorem d_MO_findBest_55 : decode b_MO_findBest 55 = .ok (.invokevirtual 83, 3) := by decide +kernel
theorem d_MO_findBest_58 : decode b_MO_findBest 58 = .ok (.istore 4, 2) := by decide +kernel
theorem d_MO_findBest_60 : decode b_MO_findBest 60 = .ok (.aload_n 0, 1) := by decide +kernel
theorem d_MO_findBest_61 : decode b_MO_findBest 61 = .ok (.invokevirtual 87, 3) := by decide +kernel
theorem d_MO_findBest_64 : decode b_MO_findBest 64 = .ok (.istore 5, 2) := by decide +kernel
theorem d_MO_findBest_66 : decode b_MO_findBest 66 = .ok (.iload 4, 2) := by decide +kernel
theorem d_MO_findBest_68 : decode b_MO_findBest 68 = .ok (.ifCond .le (32), 3) := by decide +kernel
theorem d_MO_findBest_71 : decode b_MO_findBest 71 = .ok (.iload 4, 2) := by decide +kernel
theorem d_MO_findBest_73 : decode b_MO_findBest 73 = .ok (.aload_n 0, 1) := by decide +kernel
theorem d_MO_findBest_74 : decode b_MO_findBest 74 = .ok (.getfield 19, 3) := by decide +kernel
theorem d_MO_findBest_77 : decode b_MO_findBest 77 = .ok (.if_icmp .ge (23), 3) := by decide +kernel
theorem d_MO_findBest_80 : decode b_MO_findBest 80 = .ok (.iload 5, 2) := by decide +kernel
theorem d_MO_findBest_82 : decode b_MO_findBest 82 = .ok (.aload_n 0, 1) := by decide +kernel
theorem d_MO_findBest_83 : decode b_MO_findBest 83 = .ok (.getfield 7, 3) := by decide +kernel
theorem d_MO_findBest_86 : decode b_MO_findBest 86 = .ok (.iconst 2, 1) := by decide +kernel
theorem d_MO_findBest_87 : decode b_MO_findBest 87 = .ok (.aload_n 0, 1) := by decide +kernel
theorem d_MO_findBest_88 : decode b_MO_findBest 88 = .ok (.getfield 16, 3) := by decide +kernel
theorem d_MO_findBest_91 : decode b_MO_findBest 91 = .ok (.imul, 1) := by decide +kernel
theorem d_MO_findBest_92 : decode b_MO_findBest 92 = .ok (.isub, 1) := by decide +kernel
theorem d_MO_findBest_93 : decode b_MO_findBest 93 = .ok (.if_icmp .gt (7), 3) := by decide +kernel
theorem d_MO_findBest_96 : decode b_MO_findBest 96 = .ok (.iconst 1, 1) := by decide +kernel
theorem d_MO_findBest_97 : decode b_MO_findBest 97 = .ok (.goto (4), 3) := by decide +kernel
theorem d_MO_findBest_100 : decode b_MO_findBest 100 = .ok (.iconst 0, 1) := by decide +kernel
theorem d_MO_findBest_101 : decode b_MO_findBest 101 = .ok (.istore 6, 2) := by decide +kernel
theorem d_MO_findBest_103 : decode b_MO_findBest 103 = .ok (.iload 6, 2) := by decide +kernel
theorem d_MO_findBest_105 : decode b_MO_findBest 105 = .ok (.ifCond .eq (59), 3) := by decide +kernel
theorem d_MO_findBest_108 : decode b_MO_findBest 108 = .ok (.iload 5, 2) := by decide +kernel
theorem d_MO_findBest_110 : decode b_MO_findBest 110 = .ok (.iload_n 1, 1) := by decide +kernel
theorem d_MO_findBest_111 : decode b_MO_findBest 111 = .ok (.if_icmp .gt (15), 3) := by decide +kernel
theorem d_MO_findBest_114 : decode b_MO_findBest 114 = .ok (.iload 5, 2) := by decide +kernel
theorem d_MO_findBest_116 : decode b_MO_findBest 116 = .ok (.iload_n 1, 1) := by decide +kernel
theorem d_MO_findBest_117 : decode b_MO_findBest 117 = .ok (.if_icmp .ne (47), 3) := by decide +kernel
theorem d_MO_findBest_120 : decode b_MO_findBest 120 = .ok (.iload 4, 2) := by decide +kernel
theorem d_MO_findBest_122 : decode b_MO_findBest 122 = .ok (.iload_n 2, 1) := by decide +kernel
theorem d_MO_findBest_123 : decode b_MO_findBest 123 = .ok (.if_icmp .ge (41), 3) := by decide +kernel
theorem d_MO_findBest_126 : decode b_MO_findBest 126 = .ok (.iload 5, 2) := by decide +kernel
theorem d_MO_findBest_128 : decode b_MO_findBest 128 = .ok (.istore_n 1, 1) := by decide +kernel
theorem d_MO_findBest_129 : decode b_MO_findBest 129 = .ok (.iload 4, 2) := by decide +kernel
theorem d_MO_findBest_131 : decode b_MO_findBest 131 = .ok (.istore_n 2, 1) := by decide +kernel
theorem d_MO_findBest_132 : decode b_MO_findBest 132 = .ok (.iconst 0, 1) := by decide +kernel
theorem d_MO_findBest_133 : decode b_MO_findBest 133 = .ok (.istore 7, 2) := by decide +kernel
theorem d_MO_findBest_135 : decode b_MO_findBest 135 = .ok (.iload 7, 2) := by decide +kernel
theorem d_MO_findBest_137 : decode b_MO_findBest 137 = .ok (.aload_n 0, 1) := by decide +kernel
theorem d_MO_findBest_138 : decode b_MO_findBest 138 = .ok (.getfield 80, 3) := by decide +kernel
theorem d_MO_findBest_141 : decode b_MO_findBest 141 = .ok (.if_icmp .ge (23), 3) := by decide +kernel
theorem d_MO_findBest_144 : decode b_MO_findBest 144 = .ok (.aload_n 0, 1) := by decide +kernel
theorem d_MO_findBest_145 : decode b_MO_findBest 145 = .ok (.getfield 32, 3) := by decide +kernel
theorem d_MO_findBest_148 : decode b_MO_findBest 148 = .ok (.iload 7, 2) := by decide +kernel
theorem d_MO_findBest_150 : decode b_MO_findBest 150 = .ok (.aload_n 0, 1) := by decide +kernel
theorem d_MO_findBest_151 : decode b_MO_findBest 151 = .ok (.getfield 29, 3) := by decide +kernel
theorem d_MO_findBest_154 : decode b_MO_findBest 154 = .ok (.iload 7, 2) := by decide +kernel
theorem d_MO_findBest_156 : decode b_MO_findBest 156 = .ok (.iaload, 1) := by decide +kernel
theorem d_MO_findBest_157 : decode b_MO_findBest 157 = .ok (.iastore, 1) := by decide +kernel
theorem d_MO_findBest_158 : decode b_MO_findBest 158 = .ok (.iinc 7 1, 3) := by decide +kernel
theorem d_MO_findBest_161 : decode b_MO_findBest 161 = .ok (.goto (-26), 3) := by decide +kernel
theorem d_MO_findBest_164 : decode b_MO_findBest 164 = .ok (.aload_n 0, 1) := by decide +kernel
theorem d_MO_findBest_165 : decode b_MO_findBest 165 = .ok (.invokevirtual 90, 3) := by decide +kernel
theorem d_MO_findBest_168 : decode b_MO_findBest 168 = .ok (.istore_n 3, 1) := by decide +kernel
theorem d_MO_findBest_169 : decode b_MO_findBest 169 = .ok (.goto (-119), 3) := by decide +kernel
theorem d_MO_findBest_172 : decode b_MO_findBest 172 = .ok (.iload_n 1, 1) := by decide +kernel
theorem d_MO_findBest_173 : decode b_MO_findBest 173 = .ok (.ireturn, 1) := by decide +kernel
theorem d_MO_fill_0 : decode b_MO_fill 0 = .ok (.aload_n 0, 1) := by decide +kernel
theorem d_MO_fill_1 : decode b_MO_fill 1 = .ok (.iconst 0, 1) := by decide +kernel
theorem d_MO_fill_2 : decode b_MO_fill 2 = .ok (.putfield 65, 3) := by decide +kernel
theorem d_MO_fill_5 : decode b_MO_fill 5 = .ok (.aload_n 0, 1) := by decide +kernel
theorem d_MO_fill_6 : decode b_MO_fill 6 = .ok (.invokevirtual 94, 3) := by decide +kernel
theorem d_MO_fill_9 : decode b_MO_fill 9 = .ok (.ireturn, 1) := by decide +kernel
theorem d_MO_best_0 : decode b_MO_best 0 = .ok (.aload_n 0, 1) := by decide +kernel
theorem d_MO_best_1 : decode b_MO_best 1 = .ok (.iload_n 1, 1) := by decide +kernel
theorem d_MO_best_2 : decode b_MO_best 2 = .ok (.iconst 0, 1) := by decide +kernel
theorem d_MO_best_3 : decode b_MO_best 3 = .ok (.aload_n 0, 1) := by decide +kernel
theorem d_MO_best_4 : decode b_MO_best 4 = .ok (.getfield 80, 3) := by decide +kernel
theorem d_MO_best_7 : decode b_MO_best 7 = .ok (.iconst 1, 1) := by decide +kernel
theorem d_MO_best_8 : decode b_MO_best 8 = .ok (.isub, 1) := by decide +kernel
theorem d_MO_best_9 : decode b_MO_best 9 = .ok (.invokestatic 68, 3) := by decide +kernel
theorem d_MO_best_12 : decode b_MO_best 12 = .ok (.ifCond .ne (7), 3) := by decide +kernel
theorem d_MO_best_15 : decode b_MO_best 15 = .ok (.iconst 1, 1) := by decide +kernel
theorem d_MO_best_16 : decode b_MO_best 16 = .ok (.goto (4), 3) := by decide +kernel
theorem d_MO_best_19 : decode b_MO_best 19 = .ok (.iconst 0, 1) := by decide +kernel
theorem d_MO_best_20 : decode b_MO_best 20 = .ok (.iconst 0, 1) := by decide +kernel
theorem d_MO_best_21 : decode b_MO_best 21 = .ok (.invokevirtual 73, 3) := by decide +kernel
theorem d_MO_best_24 : decode b_MO_best 24 = .ok (.ifCond .eq (5), 3) := by decide +kernel
theorem d_MO_best_27 : decode b_MO_best 27 = .ok (.iconst 0, 1) := by decide +kernel
theorem d_MO_best_28 : decode b_MO_best 28 = .ok (.ireturn, 1) := by decide +kernel
theorem d_MO_best_29 : decode b_MO_best 29 = .ok (.aload_n 0, 1) := by decide +kernel
theorem d_MO_best_30 : decode b_MO_best 30 = .ok (.invokevirtual 94, 3) := by decide +kernel
theorem d_MO_best_33 : decode b_MO_best 33 = .ok (.pop, 1) := by decide +kernel
theorem d_MO_best_34 : decode b_MO_best 34 = .ok (.aload_n 0, 1) := by decide +kernel
theorem d_MO_best_35 : decode b_MO_best 35 = .ok (.getfield 32, 3) := by decide +kernel
theorem d_MO_best_38 : decode b_MO_best 38 = .ok (.iload_n 1, 1) := by decide +kernel
theorem d_MO_best_39 : decode b_MO_best 39 = .ok (.iaload, 1) := by decide +kernel
theorem d_MO_best_40 : decode b_MO_best 40 = .ok (.ireturn, 1) := by decide +kernel
theorem d_MO_cut_0 : decode b_MO_cut 0 = .ok (.aload_n 0, 1) := by decide +kernel
theorem d_MO_cut_1 : decode b_MO_cut 1 = .ok (.invokevirtual 94, 3) := by decide +kernel
theorem d_MO_cut_4 : decode b_MO_cut 4 = .ok (.istore_n 1, 1) := by decide +kernel
theorem d_MO_cut_5 : decode b_MO_cut 5 = .ok (.aload_n 0, 1) := by decide +kernel
theorem d_MO_cut_6 : decode b_MO_cut 6 = .ok (.aload_n 0, 1) := by decide +kernel
theorem d_MO_cut_7 : decode b_MO_cut 7 = .ok (.getfield 97, 3) := by decide +kernel
theorem d_MO_cut_10 : decode b_MO_cut 10 = .ok (.bipush 9, 2) := by decide +kernel
theorem d_MO_cut_12 : decode b_MO_cut 12 = .ok (.if_icmp .ne (7), 3) := by decide +kernel
theorem d_MO_cut_15 : decode b_MO_cut 15 = .ok (.iconst 1, 1) := by decide +kernel
theorem d_MO_cut_16 : decode b_MO_cut 16 = .ok (.goto (4), 3) := by decide +kernel
theorem d_MO_cut_19 : decode b_MO_cut 19 = .ok (.iconst 0, 1) := by decide +kernel
theorem d_MO_cut_20 : decode b_MO_cut 20 = .ok (.iload_n 1, 1) := by decide +kernel
theorem d_MO_cut_21 : decode b_MO_cut 21 = .ok (.ifCond .ne (7), 3) := by decide +kernel
theorem d_MO_cut_24 : decode b_MO_cut 24 = .ok (.iconst 1, 1) := by decide +kernel
theorem d_MO_cut_25 : decode b_MO_cut 25 = .ok (.goto (4), 3) := by decide +kernel
theorem d_MO_cut_28 : decode b_MO_cut 28 = .ok (.iconst 0, 1) := by decide +kernel
theorem d_MO_cut_29 : decode b_MO_cut 29 = .ok (.invokevirtual 73, 3) := by decide +kernel
theorem d_MO_cut_32 : decode b_MO_cut 32 = .ok (.ifCond .eq (5), 3) := by decide +kernel
theorem d_MO_cut_35 : decode b_MO_cut 35 = .ok (.iconst 0, 1) := by decide +kernel
theorem d_MO_cut_36 : decode b_MO_cut 36 = .ok (.ireturn, 1) := by decide +kernel
theorem d_MO_cut_37 : decode b_MO_cut 37 = .ok (.aload_n 0, 1) := by decide +kernel
theorem d_MO_cut_38 : decode b_MO_cut 38 = .ok (.getfield 35, 3) := by decide +kernel
theorem d_MO_cut_41 : decode b_MO_cut 41 = .ok (.aload_n 0, 1) := by decide +kernel
theorem d_MO_cut_42 : decode b_MO_cut 42 = .ok (.getfield 97, 3) := by decide +kernel
theorem d_MO_cut_45 : decode b_MO_cut 45 = .ok (.aload_n 0, 1) := by decide +kernel
theorem d_MO_cut_46 : decode b_MO_cut 46 = .ok (.getfield 7, 3) := by decide +kernel
theorem d_MO_cut_49 : decode b_MO_cut 49 = .ok (.iastore, 1) := by decide +kernel
theorem d_MO_cut_50 : decode b_MO_cut 50 = .ok (.aload_n 0, 1) := by decide +kernel
theorem d_MO_cut_51 : decode b_MO_cut 51 = .ok (.getfield 38, 3) := by decide +kernel
theorem d_MO_cut_54 : decode b_MO_cut 54 = .ok (.aload_n 0, 1) := by decide +kernel
theorem d_MO_cut_55 : decode b_MO_cut 55 = .ok (.getfield 97, 3) := by decide +kernel
theorem d_MO_cut_58 : decode b_MO_cut 58 = .ok (.aload_n 0, 1) := by decide +kernel
theorem d_MO_cut_59 : decode b_MO_cut 59 = .ok (.getfield 13, 3) := by decide +kernel
theorem d_MO_cut_62 : decode b_MO_cut 62 = .ok (.iastore, 1) := by decide +kernel
theorem d_MO_cut_63 : decode b_MO_cut 63 = .ok (.aload_n 0, 1) := by decide +kernel
theorem d_MO_cut_64 : decode b_MO_cut 64 = .ok (.getfield 41, 3) := by decide +kernel
theorem d_MO_cut_67 : decode b_MO_cut 67 = .ok (.aload_n 0, 1) := by decide +kernel
theorem d_MO_cut_68 : decode b_MO_cut 68 = .ok (.getfield 97, 3) := by decide +kernel
theorem d_MO_cut_71 : decode b_MO_cut 71 = .ok (.aload_n 0, 1) := by decide +kernel
theorem d_MO_cut_72 : decode b_MO_cut 72 = .ok (.getfield 16, 3) := by decide +kernel
theorem d_MO_cut_75 : decode b_MO_cut 75 = .ok (.iastore, 1) := by decide +kernel
theorem d_MO_cut_76 : decode b_MO_cut 76 = .ok (.aload_n 0, 1) := by decide +kernel
theorem d_MO_cut_77 : decode b_MO_cut 77 = .ok (.getfield 44, 3) := by decide +kernel
theorem d_MO_cut_80 : decode b_MO_cut 80 = .ok (.aload_n 0, 1) := by decide +kernel
theorem d_MO_cut_81 : decode b_MO_cut 81 = .ok (.getfield 97, 3) := by decide +kernel
theorem d_MO_cut_84 : decode b_MO_cut 84 = .ok (.aload_n 0, 1) := by decide +kernel
theorem d_MO_cut_85 : decode b_MO_cut 85 = .ok (.getfield 77, 3) := by decide +kernel
theorem d_MO_cut_88 : decode b_MO_cut 88 = .ok (.iastore, 1) := by decide +kernel
theorem d_MO_cut_89 : decode b_MO_cut 89 = .ok (.aload_n 0, 1) := by decide +kernel
theorem d_MO_cut_90 : decode b_MO_cut 90 = .ok (.getfield 47, 3) := by decide +kernel
theorem d_MO_cut_93 : decode b_MO_cut 93 = .ok (.aload_n 0, 1) := by decide +kernel
theorem d_MO_cut_94 : decode b_MO_cut 94 = .ok (.getfield 97, 3) := by decide +kernel
theorem d_MO_cut_97 : decode b_MO_cut 97 = .ok (.aload_n 0, 1) := by decide +kernel
theorem d_MO_cut_98 : decode b_MO_cut 98 = .ok (.getfield 16, 3) := by decide +kernel
theorem d_MO_cut_101 : decode b_MO_cut 101 = .ok (.iastore, 1) := by decide +kernel
theorem d_MO_cut_102 : decode b_MO_cut 102 = .ok (.iconst 0, 1) := by decide +kernel
theorem d_MO_cut_103 : decode b_MO_cut 103 = .ok (.istore_n 2, 1) := by decide +kernel
theorem d_MO_cut_104 : decode b_MO_cut 104 = .ok (.iload_n 2, 1) := by decide +kernel
theorem d_MO_cut_105 : decode b_MO_cut 105 = .ok (.iconst 5, 1) := by decide +kernel
theorem d_MO_cut_106 : decode b_MO_cut 106 = .ok (.if_icmp .ge (43), 3) := by decide +kernel
theorem d_MO_cut_109 : decode b_MO_cut 109 = .ok (.aload_n 0, 1) := by decide +kernel
theorem d_MO_cut_110 : decode b_MO_cut 110 = .ok (.getfield 50, 3) := by decide +kernel
theorem d_MO_cut_113 : decode b_MO_cut 113 = .ok (.iconst 5, 1) := by decide +kernel
theorem d_MO_cut_114 : decode b_MO_cut 114 = .ok (.aload_n 0, 1) := by decide +kernel
theorem d_MO_cut_115 : decode b_MO_cut 115 = .ok (.getfield 97, 3) := by decide +kernel
theorem d_MO_cut_118 : decode b_MO_cut 118 = .ok (.imul, 1) := by decide +kernel
theorem d_MO_cut_119 : decode b_MO_cut 119 = .ok (.iload_n 2, 1) := by decide +kernel
theorem d_MO_cut_120 : decode b_MO_cut 120 = .ok (.iadd, 1) := by decide +kernel
theorem d_MO_cut_121 : decode b_MO_cut 121 = .ok (.aload_n 0, 1) := by decide +kernel
theorem d_MO_cut_122 : decode b_MO_cut 122 = .ok (.getfield 32, 3) := by decide +kernel
theorem d_MO_cut_125 : decode b_MO_cut 125 = .ok (.iload_n 2, 1) := by decide +kernel
theorem d_MO_cut_126 : decode b_MO_cut 126 = .ok (.iaload, 1) := by decide +kernel
theorem d_MO_cut_127 : decode b_MO_cut 127 = .ok (.iastore, 1) := by decide +kernel
theorem d_MO_cut_128 : decode b_MO_cut 128 = .ok (.aload_n 0, 1) := by decide +kernel
theorem d_MO_cut_129 : decode b_MO_cut 129 = .ok (.getfield 26, 3) := by decide +kernel
theorem d_MO_cut_132 : decode b_MO_cut 132 = .ok (.iload_n 2, 1) := by decide +kernel
theorem d_MO_cut_133 : decode b_MO_cut 133 = .ok (.dup2, 1) := by decide +kernel
theorem d_MO_cut_134 : decode b_MO_cut 134 = .ok (.iaload, 1) := by decide +kernel
theorem d_MO_cut_135 : decode b_MO_cut 135 = .ok (.aload_n 0, 1) := by decide +kernel
theorem d_MO_cut_136 : decode b_MO_cut 136 = .ok (.getfield 32, 3) := by decide +kernel
theorem d_MO_cut_139 : decode b_MO_cut 139 = .ok (.iload_n 2, 1) := by decide +kernel
theorem d_MO_cut_140 : decode b_MO_cut 140 = .ok (.iaload, 1) := by decide +kernel
theorem d_MO_cut_141 : decode b_MO_cut 141 = .ok (.isub, 1) := by decide +kernel
theorem d_MO_cut_142 : decode b_MO_cut 142 = .ok (.iastore, 1) := by decide +kernel
theorem d_MO_cut_143 : decode b_MO_cut 143 = .ok (.iinc 2 1, 3) := by decide +kernel
theorem d_MO_cut_146 : decode b_MO_cut 146 = .ok (.goto (-42), 3) := by decide +kernel
theorem d_MO_cut_149 : decode b_MO_cut 149 = .ok (.aload_n 0, 1) := by decide +kernel
theorem d_MO_cut_150 : decode b_MO_cut 150 = .ok (.dup, 1) := by decide +kernel
theorem d_MO_cut_151 : decode b_MO_cut 151 = .ok (.getfield 97, 3) := by decide +kernel
theorem d_MO_cut_154 : decode b_MO_cut 154 = .ok (.iconst 1, 1) := by decide +kernel
theorem d_MO_cut_155 : decode b_MO_cut 155 = .ok (.iadd, 1) := by decide +kernel
theorem d_MO_cut_156 : decode b_MO_cut 156 = .ok (.putfield 97, 3) := by decide +kernel
theorem d_MO_cut_159 : decode b_MO_cut 159 = .ok (.aload_n 0, 1) := by decide +kernel
theorem d_MO_cut_160 : decode b_MO_cut 160 = .ok (.getfield 97, 3) := by decide +kernel
theorem d_MO_cut_163 : decode b_MO_cut 163 = .ok (.iconst 1, 1) := by decide +kernel
theorem d_MO_cut_164 : decode b_MO_cut 164 = .ok (.isub, 1) := by decide +kernel
theorem d_MO_cut_165 : decode b_MO_cut 165 = .ok (.ireturn, 1) := by decide +kernel
theorem d_MO_isSetup_0 : decode b_MO_isSetup 0 = .ok (.iload_n 1, 1) := by decide +kernel
theorem d_MO_isSetup_1 : decode b_MO_isSetup 1 = .ok (.iconst 0, 1) := by decide +kernel
theorem d_MO_isSetup_2 : decode b_MO_isSetup 2 = .ok (.aload_n 0, 1) := by decide +kernel
theorem d_MO_isSetup_3 : decode b_MO_isSetup 3 = .ok (.getfield 97, 3) := by decide +kernel
theorem d_MO_isSetup_6 : decode b_MO_isSetup 6 = .ok (.iconst 1, 1) := by decide +kernel
theorem d_MO_isSetup_7 : decode b_MO_isSetup 7 = .ok (.isub, 1) := by decide +kernel
theorem d_MO_isSetup_8 : decode b_MO_isSetup 8 = .ok (.invokestatic 68, 3) := by decide +kernel
theorem d_MO_isSetup_11 : decode b_MO_isSetup 11 = .ok (.ireturn, 1) := by decide +kernel
theorem d_MO_many_0 : decode b_MO_many 0 = .ok (.iconst 0, 1) := by decide +kernel
theorem d_MO_many_1 : decode b_MO_many 1 = .ok (.istore_n 2, 1) := by decide +kernel
theorem d_MO_many_2 : decode b_MO_many 2 = .ok (.iconst 0, 1) := by decide +kernel
theorem d_MO_many_3 : decode b_MO_many 3 = .ok (.istore_n 3, 1) := by decide +kernel
theorem d_MO_many_4 : decode b_MO_many 4 = .ok (.iload_n 3, 1) := by decide +kernel
theorem d_MO_many_5 : decode b_MO_many 5 = .ok (.iconst 5, 1) := by decide +kernel
theorem d_MO_many_6 : decode b_MO_many 6 = .ok (.if_icmp .ge (22), 3) := by decide +kernel
theorem d_MO_many_9 : decode b_MO_many 9 = .ok (.iload_n 2, 1) := by decide +kernel
theorem d_MO_many_10 : decode b_MO_many 10 = .ok (.aload_n 0, 1) := by decide +kernel
theorem d_MO_many_11 : decode b_MO_many 11 = .ok (.getfield 50, 3) := by decide +kernel
theorem d_MO_many_14 : decode b_MO_many 14 = .ok (.iconst 5, 1) := by decide +kernel
theorem d_MO_many_15 : decode b_MO_many 15 = .ok (.iload_n 1, 1) := by decide +kernel
theorem d_MO_many_16 : decode b_MO_many 16 = .ok (.imul, 1) := by decide +kernel
theorem d_MO_many_17 : decode b_MO_many 17 = .ok (.iload_n 3, 1) := by decide +kernel
theorem d_MO_many_18 : decode b_MO_many 18 = .ok (.iadd, 1) := by decide +kernel
theorem d_MO_many_19 : decode b_MO_many 19 = .ok (.iaload, 1) := by decide +kernel
theorem d_MO_many_20 : decode b_MO_many 20 = .ok (.iadd, 1) := by decide +kernel
theorem d_MO_many_21 : decode b_MO_many 21 = .ok (.istore_n 2, 1) := by decide +kernel
theorem d_MO_many_22 : decode b_MO_many 22 = .ok (.iinc 3 1, 3) := by decide +kernel
theorem d_MO_many_25 : decode b_MO_many 25 = .ok (.goto (-21), 3) := by decide +kernel
theorem d_MO_many_28 : decode b_MO_many 28 = .ok (.iload_n 2, 1) := by decide +kernel
theorem d_MO_many_29 : decode b_MO_many 29 = .ok (.ireturn, 1) := by decide +kernel
theorem d_MO_wantOf_0 : decode b_MO_wantOf 0 = .ok (.iconst 0, 1) := by decide +kernel
theorem d_MO_wantOf_1 : decode b_MO_wantOf 1 = .ok (.istore_n 3, 1) := by decide +kernel
theorem d_MO_wantOf_2 : decode b_MO_wantOf 2 = .ok (.iload_n 2, 1) := by decide +kernel
theorem d_MO_wantOf_3 : decode b_MO_wantOf 3 = .ok (.istore 4, 2) := by decide +kernel
theorem d_MO_wantOf_5 : decode b_MO_wantOf 5 = .ok (.iload 4, 2) := by decide +kernel
theorem d_MO_wantOf_7 : decode b_MO_wantOf 7 = .ok (.aload_n 0, 1) := by decide +kernel
theorem d_MO_wantOf_8 : decode b_MO_wantOf 8 = .ok (.getfield 50, 3) := by decide +kernel
theorem d_MO_wantOf_11 : decode b_MO_wantOf 11 = .ok (.iconst 5, 1) := by decide +kernel
theorem d_MO_wantOf_12 : decode b_MO_wantOf 12 = .ok (.iload_n 1, 1) := by decide +kernel
theorem d_MO_wantOf_13 : decode b_MO_wantOf 13 = .ok (.imul, 1) := by decide +kernel
theorem d_MO_wantOf_14 : decode b_MO_wantOf 14 = .ok (.iload_n 3, 1) := by decide +kernel
theorem d_MO_wantOf_15 : decode b_MO_wantOf 15 = .ok (.iadd, 1) := by decide +kernel
theorem d_MO_wantOf_16 : decode b_MO_wantOf 16 = .ok (.iaload, 1) := by decide +kernel
theorem d_MO_wantOf_17 : decode b_MO_wantOf 17 = .ok (.if_icmp .lt (24), 3) := by decide +kernel
theorem d_MO_wantOf_20 : decode b_MO_wantOf 20 = .ok (.iload 4, 2) := by decide +kernel
theorem d_MO_wantOf_22 : decode b_MO_wantOf 22 = .ok (.aload_n 0, 1) := by decide +kernel
theorem d_MO_wantOf_23 : decode b_MO_wantOf 23 = .ok (.getfield 50, 3) := by decide +kernel
theorem d_MO_wantOf_26 : decode b_MO_wantOf 26 = .ok (.iconst 5, 1) := by decide +kernel
theorem d_MO_wantOf_27 : decode b_MO_wantOf 27 = .ok (.iload_n 1, 1) := by decide +kernel
theorem d_MO_wantOf_28 : decode b_MO_wantOf 28 = .ok (.imul, 1) := by decide +kernel
theorem d_MO_wantOf_29 : decode b_MO_wantOf 29 = .ok (.iload_n 3, 1) := by decide +kernel
theorem d_MO_wantOf_30 : decode b_MO_wantOf 30 = .ok (.iadd, 1) := by decide +kernel
theorem d_MO_wantOf_31 : decode b_MO_wantOf 31 = .ok (.iaload, 1) := by decide +kernel
theorem d_MO_wantOf_32 : decode b_MO_wantOf 32 = .ok (.isub, 1) := by decide +kernel
theorem d_MO_wantOf_33 : decode b_MO_wantOf 33 = .ok (.istore 4, 2) := by decide +kernel
theorem d_MO_wantOf_35 : decode b_MO_wantOf 35 = .ok (.iinc 3 1, 3) := by decide +kernel
theorem d_MO_wantOf_38 : decode b_MO_wantOf 38 = .ok (.goto (-33), 3) := by decide +kernel
theorem d_MO_wantOf_41 : decode b_MO_wantOf 41 = .ok (.iload_n 3, 1) := by decide +kernel
theorem d_MO_wantOf_42 : decode b_MO_wantOf 42 = .ok (.ireturn, 1) := by decide +kernel
theorem d_MO_beginOf_0 : decode b_MO_beginOf 0 = .ok (.aload_n 0, 1) := by decide +kernel
theorem d_MO_beginOf_1 : decode b_MO_beginOf 1 = .ok (.getfield 47, 3) := by decide +kernel
theorem d_MO_beginOf_4 : decode b_MO_beginOf 4 = .ok (.iload_n 1, 1) := by decide +kernel
theorem d_MO_beginOf_5 : decode b_MO_beginOf 5 = .ok (.iaload, 1) := by decide +kernel
theorem d_MO_beginOf_6 : decode b_MO_beginOf 6 = .ok (.istore_n 3, 1) := by decide +kernel
theorem d_MO_beginOf_7 : decode b_MO_beginOf 7 = .ok (.iconst 0, 1) := by decide +kernel
theorem d_MO_beginOf_8 : decode b_MO_beginOf 8 = .ok (.istore 4, 2) := by decide +kernel
theorem d_MO_beginOf_10 : decode b_MO_beginOf 10 = .ok (.iload 4, 2) := by decide +kernel
theorem d_MO_beginOf_12 : decode b_MO_beginOf 12 = .ok (.iload_n 2, 1) := by decide +kernel
theorem d_MO_beginOf_13 : decode b_MO_beginOf 13 = .ok (.if_icmp .ge (31), 3) := by decide +kernel
theorem d_MO_beginOf_16 : decode b_MO_beginOf 16 = .ok (.iload_n 3, 1) := by decide +kernel
theorem d_MO_beginOf_17 : decode b_MO_beginOf 17 = .ok (.aload_n 0, 1) := by decide +kernel
theorem d_MO_beginOf_18 : decode b_MO_beginOf 18 = .ok (.getfield 22, 3) := by decide +kernel
theorem d_MO_beginOf_21 : decode b_MO_beginOf 21 = .ok (.aload_n 0, 1) := by decide +kernel
theorem d_MO_beginOf_22 : decode b_MO_beginOf 22 = .ok (.iload_n 1, 1) := by decide +kernel
theorem d_MO_beginOf_23 : decode b_MO_beginOf 23 = .ok (.iload 4, 2) := by decide +kernel
theorem d_MO_beginOf_25 : decode b_MO_beginOf 25 = .ok (.invokevirtual 100, 3) := by decide +kernel
theorem d_MO_beginOf_28 : decode b_MO_beginOf 28 = .ok (.iaload, 1) := by decide +kernel
theorem d_MO_beginOf_29 : decode b_MO_beginOf 29 = .ok (.aload_n 0, 1) := by decide +kernel
theorem d_MO_beginOf_30 : decode b_MO_beginOf 30 = .ok (.getfield 44, 3) := by decide +kernel
theorem d_MO_beginOf_33 : decode b_MO_beginOf 33 = .ok (.iload_n 1, 1) := by decide +kernel
theorem d_MO_beginOf_34 : decode b_MO_beginOf 34 = .ok (.iaload, 1) := by decide +kernel
theorem d_MO_beginOf_35 : decode b_MO_beginOf 35 = .ok (.iadd, 1) := by decide +kernel
theorem d_MO_beginOf_36 : decode b_MO_beginOf 36 = .ok (.iadd, 1) := by decide +kernel
theorem d_MO_beginOf_37 : decode b_MO_beginOf 37 = .ok (.istore_n 3, 1) := by decide +kernel
theorem d_MO_beginOf_38 : decode b_MO_beginOf 38 = .ok (.iinc 4 1, 3) := by decide +kernel
theorem d_MO_beginOf_41 : decode b_MO_beginOf 41 = .ok (.goto (-31), 3) := by decide +kernel
theorem d_MO_beginOf_44 : decode b_MO_beginOf 44 = .ok (.iload_n 3, 1) := by decide +kernel
theorem d_MO_beginOf_45 : decode b_MO_beginOf 45 = .ok (.ireturn, 1) := by decide +kernel
theorem d_MO_endOf_0 : decode b_MO_endOf 0 = .ok (.aload_n 0, 1) := by decide +kernel
theorem d_MO_endOf_1 : decode b_MO_endOf 1 = .ok (.iload_n 1, 1) := by decide +kernel
theorem d_MO_endOf_2 : decode b_MO_endOf 2 = .ok (.iload_n 2, 1) := by decide +kernel
theorem d_MO_endOf_3 : decode b_MO_endOf 3 = .ok (.invokevirtual 104, 3) := by decide +kernel
theorem d_MO_endOf_6 : decode b_MO_endOf 6 = .ok (.aload_n 0, 1) := by decide +kernel
theorem d_MO_endOf_7 : decode b_MO_endOf 7 = .ok (.getfield 22, 3) := by decide +kernel
theorem d_MO_endOf_10 : decode b_MO_endOf 10 = .ok (.aload_n 0, 1) := by decide +kernel
theorem d_MO_endOf_11 : decode b_MO_endOf 11 = .ok (.iload_n 1, 1) := by decide +kernel
theorem d_MO_endOf_12 : decode b_MO_endOf 12 = .ok (.iload_n 2, 1) := by decide +kernel
theorem d_MO_endOf_13 : decode b_MO_endOf 13 = .ok (.invokevirtual 100, 3) := by decide +kernel
theorem d_MO_endOf_16 : decode b_MO_endOf 16 = .ok (.iaload, 1) := by decide +kernel
theorem d_MO_endOf_17 : decode b_MO_endOf 17 = .ok (.iadd, 1) := by decide +kernel
theorem d_MO_endOf_18 : decode b_MO_endOf 18 = .ok (.ireturn, 1) := by decide +kernel
theorem d_MO_weightOf_0 : decode b_MO_weightOf 0 = .ok (.aload_n 0, 1) := by decide +kernel
theorem d_MO_weightOf_1 : decode b_MO_weightOf 1 = .ok (.getfield 38, 3) := by decide +kernel
theorem d_MO_weightOf_4 : decode b_MO_weightOf 4 = .ok (.iload_n 1, 1) := by decide +kernel
theorem d_MO_weightOf_5 : decode b_MO_weightOf 5 = .ok (.iaload, 1) := by decide +kernel
theorem d_MO_weightOf_6 : decode b_MO_weightOf 6 = .ok (.i2l, 1) := by decide +kernel
theorem d_MO_weightOf_7 : decode b_MO_weightOf 7 = .ok (.aload_n 0, 1) := by decide +kernel
theorem d_MO_weightOf_8 : decode b_MO_weightOf 8 = .ok (.iload_n 1, 1) := by decide +kernel
theorem d_MO_weightOf_9 : decode b_MO_weightOf 9 = .ok (.iload_n 2, 1) := by decide +kernel
theorem d_MO_weightOf_10 : decode b_MO_weightOf 10 = .ok (.invokevirtual 107, 3) := by decide +kernel
theorem d_MO_weightOf_13 : decode b_MO_weightOf 13 = .ok (.i2l, 1) := by decide +kernel
theorem d_MO_weightOf_14 : decode b_MO_weightOf 14 = .ok (.lmul, 1) := by decide +kernel
theorem d_MO_weightOf_15 : decode b_MO_weightOf 15 = .ok (.aload_n 0, 1) := by decide +kernel
theorem d_MO_weightOf_16 : decode b_MO_weightOf 16 = .ok (.getfield 35, 3) := by decide +kernel
theorem d_MO_weightOf_19 : decode b_MO_weightOf 19 = .ok (.iload_n 1, 1) := by decide +kernel
theorem d_MO_weightOf_20 : decode b_MO_weightOf 20 = .ok (.iaload, 1) := by decide +kernel
theorem d_MO_weightOf_21 : decode b_MO_weightOf 21 = .ok (.i2l, 1) := by decide +kernel
theorem d_MO_weightOf_22 : decode b_MO_weightOf 22 = .ok (.ldiv, 1) := by decide +kernel
theorem d_MO_weightOf_23 : decode b_MO_weightOf 23 = .ok (.lstore_n 3, 1) := by decide +kernel
theorem d_MO_weightOf_24 : decode b_MO_weightOf 24 = .ok (.aload_n 0, 1) := by decide +kernel
theorem d_MO_weightOf_25 : decode b_MO_weightOf 25 = .ok (.getfield 38, 3) := by decide +kernel
theorem d_MO_weightOf_28 : decode b_MO_weightOf 28 = .ok (.iload_n 1, 1) := by decide +kernel
theorem d_MO_weightOf_29 : decode b_MO_weightOf 29 = .ok (.iaload, 1) := by decide +kernel
theorem d_MO_weightOf_30 : decode b_MO_weightOf 30 = .ok (.i2l, 1) := by decide +kernel
theorem d_MO_weightOf_31 : decode b_MO_weightOf 31 = .ok (.aload_n 0, 1) := by decide +kernel
theorem d_MO_weightOf_32 : decode b_MO_weightOf 32 = .ok (.iload_n 1, 1) := by decide +kernel
theorem d_MO_weightOf_33 : decode b_MO_weightOf 33 = .ok (.iload_n 2, 1) := by decide +kernel
theorem d_MO_weightOf_34 : decode b_MO_weightOf 34 = .ok (.invokevirtual 104, 3) := by decide +kernel
theorem d_MO_weightOf_37 : decode b_MO_weightOf 37 = .ok (.i2l, 1) := by decide +kernel
theorem d_MO_weightOf_38 : decode b_MO_weightOf 38 = .ok (.lmul, 1) := by decide +kernel
theorem d_MO_weightOf_39 : decode b_MO_weightOf 39 = .ok (.aload_n 0, 1) := by decide +kernel
theorem d_MO_weightOf_40 : decode b_MO_weightOf 40 = .ok (.getfield 35, 3) := by decide +kernel
theorem d_MO_weightOf_43 : decode b_MO_weightOf 43 = .ok (.iload_n 1, 1) := by decide +kernel
theorem d_MO_weightOf_44 : decode b_MO_weightOf 44 = .ok (.iaload, 1) := by decide +kernel
theorem d_MO_weightOf_45 : decode b_MO_weightOf 45 = .ok (.i2l, 1) := by decide +kernel
theorem d_MO_weightOf_46 : decode b_MO_weightOf 46 = .ok (.ldiv, 1) := by decide +kernel
theorem d_MO_weightOf_47 : decode b_MO_weightOf 47 = .ok (.lstore 5, 2) := by decide +kernel
theorem d_MO_weightOf_49 : decode b_MO_weightOf 49 = .ok (.lload_n 3, 1) := by decide +kernel
theorem d_MO_weightOf_50 : decode b_MO_weightOf 50 = .ok (.lload 5, 2) := by decide +kernel
theorem d_MO_weightOf_52 : decode b_MO_weightOf 52 = .ok (.lsub, 1) := by decide +kernel
theorem d_MO_weightOf_53 : decode b_MO_weightOf 53 = .ok (.l2i, 1) := by decide +kernel
theorem d_MO_weightOf_54 : decode b_MO_weightOf 54 = .ok (.ireturn, 1) := by decide +kernel
theorem d_MO_strip_0 : decode b_MO_strip 0 = .ok (.aload_n 0, 1) := by decide +kernel
theorem d_MO_strip_1 : decode b_MO_strip 1 = .ok (.aload_n 0, 1) := by decide +kernel
theorem d_MO_strip_2 : decode b_MO_strip 2 = .ok (.iload_n 1, 1) := by decide +kernel
theorem d_MO_strip_3 : decode b_MO_strip 3 = .ok (.invokevirtual 110, 3) := by decide +kernel
theorem d_MO_strip_6 : decode b_MO_strip 6 = .ok (.ifCond .eq (16), 3) := by decide +kernel
theorem d_MO_strip_9 : decode b_MO_strip 9 = .ok (.iload_n 3, 1) := by decide +kernel
theorem d_MO_strip_10 : decode b_MO_strip 10 = .ok (.iconst 0, 1) := by decide +kernel
theorem d_MO_strip_11 : decode b_MO_strip 11 = .ok (.iconst 3, 1) := by decide +kernel
theorem d_MO_strip_12 : decode b_MO_strip 12 = .ok (.invokestatic 68, 3) := by decide +kernel
theorem d_MO_strip_15 : decode b_MO_strip 15 = .ok (.ifCond .eq (7), 3) := by decide +kernel
theorem d_MO_strip_18 : decode b_MO_strip 18 = .ok (.iload_n 2, 1) := by decide +kernel
theorem d_MO_strip_19 : decode b_MO_strip 19 = .ok (.ifCond .ge (7), 3) := by decide +kernel
theorem d_MO_strip_22 : decode b_MO_strip 22 = .ok (.iconst 1, 1) := by decide +kernel
theorem d_MO_strip_23 : decode b_MO_strip 23 = .ok (.goto (4), 3) := by decide +kernel
theorem d_MO_strip_26 : decode b_MO_strip 26 = .ok (.iconst 0, 1) := by decide +kernel
theorem d_MO_strip_27 : decode b_MO_strip 27 = .ok (.iconst 0, 1) := by decide +kernel
theorem d_MO_strip_28 : decode b_MO_strip 28 = .ok (.invokevirtual 73, 3) := by decide +kernel
theorem d_MO_strip_31 : decode b_MO_strip 31 = .ok (.ifCond .eq (5), 3) := by decide +kernel
theorem d_MO_strip_34 : decode b_MO_strip 34 = .ok (.iconst 0, 1) := by decide +kernel
theorem d_MO_strip_35 : decode b_MO_strip 35 = .ok (.ireturn, 1) := by decide +kernel
theorem d_MO_strip_36 : decode b_MO_strip 36 = .ok (.iload_n 2, 1) := by decide +kernel
theorem d_MO_strip_37 : decode b_MO_strip 37 = .ok (.aload_n 0, 1) := by decide +kernel
theorem d_MO_strip_38 : decode b_MO_strip 38 = .ok (.iload_n 1, 1) := by decide +kernel
theorem d_MO_strip_39 : decode b_MO_strip 39 = .ok (.invokevirtual 114, 3) := by decide +kernel
theorem d_MO_strip_42 : decode b_MO_strip 42 = .ok (.if_icmp .lt (5), 3) := by decide +kernel
theorem d_MO_strip_45 : decode b_MO_strip 45 = .ok (.iconst (-1), 1) := by decide +kernel
theorem d_MO_strip_46 : decode b_MO_strip 46 = .ok (.ireturn, 1) := by decide +kernel
theorem d_MO_strip_47 : decode b_MO_strip 47 = .ok (.iload_n 3, 1) := by decide +kernel
theorem d_MO_strip_48 : decode b_MO_strip 48 = .ok (.ifCond .ne (12), 3) := by decide +kernel
theorem d_MO_strip_51 : decode b_MO_strip 51 = .ok (.aload_n 0, 1) := by decide +kernel
theorem d_MO_strip_52 : decode b_MO_strip 52 = .ok (.iload_n 1, 1) := by decide +kernel
theorem d_MO_strip_53 : decode b_MO_strip 53 = .ok (.iload_n 2, 1) := by decide +kernel
theorem d_MO_strip_54 : decode b_MO_strip 54 = .ok (.invokevirtual 100, 3) := by decide +kernel
theorem d_MO_strip_57 : decode b_MO_strip 57 = .ok (.goto (37), 3) := by decide +kernel
theorem d_MO_strip_60 : decode b_MO_strip 60 = .ok (.iload_n 3, 1) := by decide +kernel
theorem d_MO_strip_61 : decode b_MO_strip 61 = .ok (.iconst 1, 1) := by decide +kernel
theorem d_MO_strip_62 : decode b_MO_strip 62 = .ok (.if_icmp .ne (12), 3) := by decide +kernel
theorem d_MO_strip_65 : decode b_MO_strip 65 = .ok (.aload_n 0, 1) := by decide +kernel
theorem d_MO_strip_66 : decode b_MO_strip 66 = .ok (.iload_n 1, 1) := by decide +kernel
theorem d_MO_strip_67 : decode b_MO_strip 67 = .ok (.iload_n 2, 1) := by decide +kernel
theorem d_MO_strip_68 : decode b_MO_strip 68 = .ok (.invokevirtual 104, 3) := by decide +kernel
theorem d_MO_strip_71 : decode b_MO_strip 71 = .ok (.goto (23), 3) := by decide +kernel
theorem d_MO_strip_74 : decode b_MO_strip 74 = .ok (.iload_n 3, 1) := by decide +kernel
theorem d_MO_strip_75 : decode b_MO_strip 75 = .ok (.iconst 2, 1) := by decide +kernel
theorem d_MO_strip_76 : decode b_MO_strip 76 = .ok (.if_icmp .ne (12), 3) := by decide +kernel
theorem d_MO_strip_79 : decode b_MO_strip 79 = .ok (.aload_n 0, 1) := by decide +kernel
theorem d_MO_strip_80 : decode b_MO_strip 80 = .ok (.iload_n 1, 1) := by decide +kernel
theorem d_MO_strip_81 : decode b_MO_strip 81 = .ok (.iload_n 2, 1) := by decide +kernel
theorem d_MO_strip_82 : decode b_MO_strip 82 = .ok (.invokevirtual 107, 3) := by decide +kernel
theorem d_MO_strip_85 : decode b_MO_strip 85 = .ok (.goto (9), 3) := by decide +kernel
theorem d_MO_strip_88 : decode b_MO_strip 88 = .ok (.aload_n 0, 1) := by decide +kernel
theorem d_MO_strip_89 : decode b_MO_strip 89 = .ok (.iload_n 1, 1) := by decide +kernel
theorem d_MO_strip_90 : decode b_MO_strip 90 = .ok (.iload_n 2, 1) := by decide +kernel
theorem d_MO_strip_91 : decode b_MO_strip 91 = .ok (.invokevirtual 118, 3) := by decide +kernel
theorem d_MO_strip_94 : decode b_MO_strip 94 = .ok (.ireturn, 1) := by decide +kernel
theorem d_MO_scrap_0 : decode b_MO_scrap 0 = .ok (.aload_n 0, 1) := by decide +kernel
theorem d_MO_scrap_1 : decode b_MO_scrap 1 = .ok (.aload_n 0, 1) := by decide +kernel
theorem d_MO_scrap_2 : decode b_MO_scrap 2 = .ok (.iload_n 1, 1) := by decide +kernel
theorem d_MO_scrap_3 : decode b_MO_scrap 3 = .ok (.invokevirtual 110, 3) := by decide +kernel
theorem d_MO_scrap_6 : decode b_MO_scrap 6 = .ok (.ifCond .ne (7), 3) := by decide +kernel
theorem d_MO_scrap_9 : decode b_MO_scrap 9 = .ok (.iconst 1, 1) := by decide +kernel
theorem d_MO_scrap_10 : decode b_MO_scrap 10 = .ok (.goto (4), 3) := by decide +kernel
theorem d_MO_scrap_13 : decode b_MO_scrap 13 = .ok (.iconst 0, 1) := by decide +kernel
theorem d_MO_scrap_14 : decode b_MO_scrap 14 = .ok (.iconst 0, 1) := by decide +kernel
theorem d_MO_scrap_15 : decode b_MO_scrap 15 = .ok (.invokevirtual 73, 3) := by decide +kernel
theorem d_MO_scrap_18 : decode b_MO_scrap 18 = .ok (.ifCond .eq (5), 3) := by decide +kernel
theorem d_MO_scrap_21 : decode b_MO_scrap 21 = .ok (.iconst 0, 1) := by decide +kernel
theorem d_MO_scrap_22 : decode b_MO_scrap 22 = .ok (.ireturn, 1) := by decide +kernel
theorem d_MO_scrap_23 : decode b_MO_scrap 23 = .ok (.aload_n 0, 1) := by decide +kernel
theorem d_MO_scrap_24 : decode b_MO_scrap 24 = .ok (.getfield 38, 3) := by decide +kernel
theorem d_MO_scrap_27 : decode b_MO_scrap 27 = .ok (.iload_n 1, 1) := by decide +kernel
theorem d_MO_scrap_28 : decode b_MO_scrap 28 = .ok (.iaload, 1) := by decide +kernel
theorem d_MO_scrap_29 : decode b_MO_scrap 29 = .ok (.istore_n 2, 1) := by decide +kernel
theorem d_MO_scrap_30 : decode b_MO_scrap 30 = .ok (.iconst 0, 1) := by decide +kernel
theorem d_MO_scrap_31 : decode b_MO_scrap 31 = .ok (.istore_n 3, 1) := by decide +kernel
theorem d_MO_scrap_32 : decode b_MO_scrap 32 = .ok (.iload_n 3, 1) := by decide +kernel
theorem d_MO_scrap_33 : decode b_MO_scrap 33 = .ok (.aload_n 0, 1) := by decide +kernel
theorem d_MO_scrap_34 : decode b_MO_scrap 34 = .ok (.iload_n 1, 1) := by decide +kernel
theorem d_MO_scrap_35 : decode b_MO_scrap 35 = .ok (.invokevirtual 114, 3) := by decide +kernel
theorem d_MO_scrap_38 : decode b_MO_scrap 38 = .ok (.if_icmp .ge (18), 3) := by decide +kernel
theorem d_MO_scrap_41 : decode b_MO_scrap 41 = .ok (.iload_n 2, 1) := by decide +kernel
theorem d_MO_scrap_42 : decode b_MO_scrap 42 = .ok (.aload_n 0, 1) := by decide +kernel
theorem d_MO_scrap_43 : decode b_MO_scrap 43 = .ok (.iload_n 1, 1) := by decide +kernel
theorem d_MO_scrap_44 : decode b_MO_scrap 44 = .ok (.iload_n 3, 1) := by decide +kernel
theorem d_MO_scrap_45 : decode b_MO_scrap 45 = .ok (.invokevirtual 118, 3) := by decide +kernel
theorem d_MO_scrap_48 : decode b_MO_scrap 48 = .ok (.isub, 1) := by decide +kernel
theorem d_MO_scrap_49 : decode b_MO_scrap 49 = .ok (.istore_n 2, 1) := by decide +kernel
theorem d_MO_scrap_50 : decode b_MO_scrap 50 = .ok (.iinc 3 1, 3) := by decide +kernel
theorem d_MO_scrap_53 : decode b_MO_scrap 53 = .ok (.goto (-21), 3) := by decide +kernel
theorem d_MO_scrap_56 : decode b_MO_scrap 56 = .ok (.iload_n 2, 1) := by decide +kernel
theorem d_MO_scrap_57 : decode b_MO_scrap 57 = .ok (.ireturn, 1) := by decide +kernel
theorem d_MO_hasKnife_0 : decode b_MO_hasKnife 0 = .ok (.iconst 0, 1) := by decide +kernel
theorem d_MO_hasKnife_1 : decode b_MO_hasKnife 1 = .ok (.istore_n 3, 1) := by decide +kernel
theorem d_MO_hasKnife_2 : decode b_MO_hasKnife 2 = .ok (.iconst 0, 1) := by decide +kernel
theorem d_MO_hasKnife_3 : decode b_MO_hasKnife 3 = .ok (.istore 4, 2) := by decide +kernel
theorem d_MO_hasKnife_5 : decode b_MO_hasKnife 5 = .ok (.iload 4, 2) := by decide +kernel
theorem d_MO_hasKnife_7 : decode b_MO_hasKnife 7 = .ok (.aload_n 0, 1) := by decide +kernel
theorem d_MO_hasKnife_8 : decode b_MO_hasKnife 8 = .ok (.iload_n 1, 1) := by decide +kernel
theorem d_MO_hasKnife_9 : decode b_MO_hasKnife 9 = .ok (.invokevirtual 114, 3) := by decide +kernel
theorem d_MO_hasKnife_12 : decode b_MO_hasKnife 12 = .ok (.if_icmp .ge (41), 3) := by decide +kernel
theorem d_MO_hasKnife_15 : decode b_MO_hasKnife 15 = .ok (.iload_n 3, 1) := by decide +kernel
theorem d_MO_hasKnife_16 : decode b_MO_hasKnife 16 = .ok (.ifCond .ne (25), 3) := by decide +kernel
theorem d_MO_hasKnife_19 : decode b_MO_hasKnife 19 = .ok (.aload_n 0, 1) := by decide +kernel
theorem d_MO_hasKnife_20 : decode b_MO_hasKnife 20 = .ok (.iload_n 1, 1) := by decide +kernel
theorem d_MO_hasKnife_21 : decode b_MO_hasKnife 21 = .ok (.iload 4, 2) := by decide +kernel
theorem d_MO_hasKnife_23 : decode b_MO_hasKnife 23 = .ok (.invokevirtual 104, 3) := by decide +kernel
theorem d_MO_hasKnife_26 : decode b_MO_hasKnife 26 = .ok (.iload_n 2, 1) := by decide +kernel
theorem d_MO_hasKnife_27 : decode b_MO_hasKnife 27 = .ok (.if_icmp .eq (14), 3) := by decide +kernel
theorem d_MO_hasKnife_30 : decode b_MO_hasKnife 30 = .ok (.aload_n 0, 1) := by decide +kernel
theorem d_MO_hasKnife_31 : decode b_MO_hasKnife 31 = .ok (.iload_n 1, 1) := by decide +kernel
theorem d_MO_hasKnife_32 : decode b_MO_hasKnife 32 = .ok (.iload 4, 2) := by decide +kernel
theorem d_MO_hasKnife_34 : decode b_MO_hasKnife 34 = .ok (.invokevirtual 107, 3) := by decide +kernel
theorem d_MO_hasKnife_37 : decode b_MO_hasKnife 37 = .ok (.iload_n 2, 1) := by decide +kernel
theorem d_MO_hasKnife_38 : decode b_MO_hasKnife 38 = .ok (.if_icmp .ne (7), 3) := by decide +kernel
theorem d_MO_hasKnife_41 : decode b_MO_hasKnife 41 = .ok (.iconst 1, 1) := by decide +kernel
theorem d_MO_hasKnife_42 : decode b_MO_hasKnife 42 = .ok (.goto (4), 3) := by decide +kernel
theorem d_MO_hasKnife_45 : decode b_MO_hasKnife 45 = .ok (.iconst 0, 1) := by decide +kernel
theorem d_MO_hasKnife_46 : decode b_MO_hasKnife 46 = .ok (.istore_n 3, 1) := by decide +kernel
theorem d_MO_hasKnife_47 : decode b_MO_hasKnife 47 = .ok (.iinc 4 1, 3) := by decide +kernel
theorem d_MO_hasKnife_50 : decode b_MO_hasKnife 50 = .ok (.goto (-45), 3) := by decide +kernel
theorem d_MO_hasKnife_53 : decode b_MO_hasKnife 53 = .ok (.iload_n 3, 1) := by decide +kernel
theorem d_MO_hasKnife_54 : decode b_MO_hasKnife 54 = .ok (.ireturn, 1) := by decide +kernel
theorem d_MO_movesFrom_0 : decode b_MO_movesFrom 0 = .ok (.iconst 0, 1) := by decide +kernel
theorem d_MO_movesFrom_1 : decode b_MO_movesFrom 1 = .ok (.istore_n 3, 1) := by decide +kernel
theorem d_MO_movesFrom_2 : decode b_MO_movesFrom 2 = .ok (.iconst 0, 1) := by decide +kernel
theorem d_MO_movesFrom_3 : decode b_MO_movesFrom 3 = .ok (.istore 4, 2) := by decide +kernel
theorem d_MO_movesFrom_5 : decode b_MO_movesFrom 5 = .ok (.iload 4, 2) := by decide +kernel
theorem d_MO_movesFrom_7 : decode b_MO_movesFrom 7 = .ok (.aload_n 0, 1) := by decide +kernel
theorem d_MO_movesFrom_8 : decode b_MO_movesFrom 8 = .ok (.iload_n 2, 1) := by decide +kernel
theorem d_MO_movesFrom_9 : decode b_MO_movesFrom 9 = .ok (.invokevirtual 114, 3) := by decide +kernel
theorem d_MO_movesFrom_12 : decode b_MO_movesFrom 12 = .ok (.if_icmp .ge (91), 3) := by decide +kernel
theorem d_MO_movesFrom_15 : decode b_MO_movesFrom 15 = .ok (.iload 4, 2) := by decide +kernel
theorem d_MO_movesFrom_17 : decode b_MO_movesFrom 17 = .ok (.ifCond .le (26), 3) := by decide +kernel
theorem d_MO_movesFrom_20 : decode b_MO_movesFrom 20 = .ok (.aload_n 0, 1) := by decide +kernel
theorem d_MO_movesFrom_21 : decode b_MO_movesFrom 21 = .ok (.iload_n 2, 1) := by decide +kernel
theorem d_MO_movesFrom_22 : decode b_MO_movesFrom 22 = .ok (.iload 4, 2) := by decide +kernel
theorem d_MO_movesFrom_24 : decode b_MO_movesFrom 24 = .ok (.iconst 1, 1) := by decide +kernel
theorem d_MO_movesFrom_25 : decode b_MO_movesFrom 25 = .ok (.isub, 1) := by decide +kernel
theorem d_MO_movesFrom_26 : decode b_MO_movesFrom 26 = .ok (.invokevirtual 107, 3) := by decide +kernel
theorem d_MO_movesFrom_29 : decode b_MO_movesFrom 29 = .ok (.aload_n 0, 1) := by decide +kernel
theorem d_MO_movesFrom_30 : decode b_MO_movesFrom 30 = .ok (.iload_n 2, 1) := by decide +kernel
theorem d_MO_movesFrom_31 : decode b_MO_movesFrom 31 = .ok (.iload 4, 2) := by decide +kernel
theorem d_MO_movesFrom_33 : decode b_MO_movesFrom 33 = .ok (.invokevirtual 104, 3) := by decide +kernel
theorem d_MO_movesFrom_36 : decode b_MO_movesFrom 36 = .ok (.if_icmp .ne (7), 3) := by decide +kernel
theorem d_MO_movesFrom_39 : decode b_MO_movesFrom 39 = .ok (.iconst 1, 1) := by decide +kernel
theorem d_MO_movesFrom_40 : decode b_MO_movesFrom 40 = .ok (.goto (4), 3) := by decide +kernel
theorem d_MO_movesFrom_43 : decode b_MO_movesFrom 43 = .ok (.iconst 0, 1) := by decide +kernel
theorem d_MO_movesFrom_44 : decode b_MO_movesFrom 44 = .ok (.istore 5, 2) := by decide +kernel
theorem d_MO_movesFrom_46 : decode b_MO_movesFrom 46 = .ok (.iload_n 3, 1) := by decide +kernel
theorem d_MO_movesFrom_47 : decode b_MO_movesFrom 47 = .ok (.iload 5, 2) := by decide +kernel
theorem d_MO_movesFrom_49 : decode b_MO_movesFrom 49 = .ok (.ifCond .ne (18), 3) := by decide +kernel
theorem d_MO_movesFrom_52 : decode b_MO_movesFrom 52 = .ok (.aload_n 0, 1) := by decide +kernel
theorem d_MO_movesFrom_53 : decode b_MO_movesFrom 53 = .ok (.iload_n 1, 1) := by decide +kernel
theorem d_MO_movesFrom_54 : decode b_MO_movesFrom 54 = .ok (.aload_n 0, 1) := by decide +kernel
theorem d_MO_movesFrom_55 : decode b_MO_movesFrom 55 = .ok (.iload_n 2, 1) := by decide +kernel
theorem d_MO_movesFrom_56 : decode b_MO_movesFrom 56 = .ok (.iload 4, 2) := by decide +kernel
theorem d_MO_movesFrom_58 : decode b_MO_movesFrom 58 = .ok (.invokevirtual 104, 3) := by decide +kernel
theorem d_MO_movesFrom_61 : decode b_MO_movesFrom 61 = .ok (.invokevirtual 121, 3) := by decide +kernel
theorem d_MO_movesFrom_64 : decode b_MO_movesFrom 64 = .ok (.ifCond .eq (7), 3) := by decide +kernel
theorem d_MO_movesFrom_67 : decode b_MO_movesFrom 67 = .ok (.iconst 0, 1) := by decide +kernel
theorem d_MO_movesFrom_68 : decode b_MO_movesFrom 68 = .ok (.goto (4), 3) := by decide +kernel
theorem d_MO_movesFrom_71 : decode b_MO_movesFrom 71 = .ok (.iconst 1, 1) := by decide +kernel
theorem d_MO_movesFrom_72 : decode b_MO_movesFrom 72 = .ok (.iadd, 1) := by decide +kernel
theorem d_MO_movesFrom_73 : decode b_MO_movesFrom 73 = .ok (.istore_n 3, 1) := by decide +kernel
theorem d_MO_movesFrom_74 : decode b_MO_movesFrom 74 = .ok (.iload_n 3, 1) := by decide +kernel
theorem d_MO_movesFrom_75 : decode b_MO_movesFrom 75 = .ok (.aload_n 0, 1) := by decide +kernel
theorem d_MO_movesFrom_76 : decode b_MO_movesFrom 76 = .ok (.iload_n 1, 1) := by decide +kernel
theorem d_MO_movesFrom_77 : decode b_MO_movesFrom 77 = .ok (.aload_n 0, 1) := by decide +kernel
theorem d_MO_movesFrom_78 : decode b_MO_movesFrom 78 = .ok (.iload_n 2, 1) := by decide +kernel
theorem d_MO_movesFrom_79 : decode b_MO_movesFrom 79 = .ok (.iload 4, 2) := by decide +kernel
theorem d_MO_movesFrom_81 : decode b_MO_movesFrom 81 = .ok (.invokevirtual 107, 3) := by decide +kernel
theorem d_MO_movesFrom_84 : decode b_MO_movesFrom 84 = .ok (.invokevirtual 121, 3) := by decide +kernel
theorem d_MO_movesFrom_87 : decode b_MO_movesFrom 87 = .ok (.ifCond .eq (7), 3) := by decide +kernel
theorem d_MO_movesFrom_90 : decode b_MO_movesFrom 90 = .ok (.iconst 0, 1) := by decide +kernel
theorem d_MO_movesFrom_91 : decode b_MO_movesFrom 91 = .ok (.goto (4), 3) := by decide +kernel
theorem d_MO_movesFrom_94 : decode b_MO_movesFrom 94 = .ok (.iconst 1, 1) := by decide +kernel
theorem d_MO_movesFrom_95 : decode b_MO_movesFrom 95 = .ok (.iadd, 1) := by decide +kernel
theorem d_MO_movesFrom_96 : decode b_MO_movesFrom 96 = .ok (.istore_n 3, 1) := by decide +kernel
theorem d_MO_movesFrom_97 : decode b_MO_movesFrom 97 = .ok (.iinc 4 1, 3) := by decide +kernel
theorem d_MO_movesFrom_100 : decode b_MO_movesFrom 100 = .ok (.goto (-95), 3) := by decide +kernel
theorem d_MO_movesFrom_103 : decode b_MO_movesFrom 103 = .ok (.iload_n 3, 1) := by decide +kernel
theorem d_MO_movesFrom_104 : decode b_MO_movesFrom 104 = .ok (.ireturn, 1) := by decide +kernel
theorem d_MO_moves_0 : decode b_MO_moves 0 = .ok (.aload_n 0, 1) := by decide +kernel
theorem d_MO_moves_1 : decode b_MO_moves 1 = .ok (.aload_n 0, 1) := by decide +kernel
theorem d_MO_moves_2 : decode b_MO_moves 2 = .ok (.iload_n 1, 1) := by decide +kernel
theorem d_MO_moves_3 : decode b_MO_moves 3 = .ok (.invokevirtual 110, 3) := by decide +kernel
theorem d_MO_moves_6 : decode b_MO_moves 6 = .ok (.ifCond .eq (11), 3) := by decide +kernel
theorem d_MO_moves_9 : decode b_MO_moves 9 = .ok (.aload_n 0, 1) := by decide +kernel
theorem d_MO_moves_10 : decode b_MO_moves 10 = .ok (.iload_n 2, 1) := by decide +kernel
theorem d_MO_moves_11 : decode b_MO_moves 11 = .ok (.invokevirtual 110, 3) := by decide +kernel
theorem d_MO_moves_14 : decode b_MO_moves 14 = .ok (.ifCond .ne (7), 3) := by decide +kernel
theorem d_MO_moves_17 : decode b_MO_moves 17 = .ok (.iconst 1, 1) := by decide +kernel
theorem d_MO_moves_18 : decode b_MO_moves 18 = .ok (.goto (4), 3) := by decide +kernel
theorem d_MO_moves_21 : decode b_MO_moves 21 = .ok (.iconst 0, 1) := by decide +kernel
theorem d_MO_moves_22 : decode b_MO_moves 22 = .ok (.iconst 0, 1) := by decide +kernel
theorem d_MO_moves_23 : decode b_MO_moves 23 = .ok (.invokevirtual 73, 3) := by decide +kernel
theorem d_MO_moves_26 : decode b_MO_moves 26 = .ok (.ifCond .eq (5), 3) := by decide +kernel
theorem d_MO_moves_29 : decode b_MO_moves 29 = .ok (.iconst 0, 1) := by decide +kernel
theorem d_MO_moves_30 : decode b_MO_moves 30 = .ok (.ireturn, 1) := by decide +kernel
theorem d_MO_moves_31 : decode b_MO_moves 31 = .ok (.aload_n 0, 1) := by decide +kernel
theorem d_MO_moves_32 : decode b_MO_moves 32 = .ok (.iload_n 1, 1) := by decide +kernel
theorem d_MO_moves_33 : decode b_MO_moves 33 = .ok (.iload_n 2, 1) := by decide +kernel
theorem d_MO_moves_34 : decode b_MO_moves 34 = .ok (.invokevirtual 125, 3) := by decide +kernel
theorem d_MO_moves_37 : decode b_MO_moves 37 = .ok (.ireturn, 1) := by decide +kernel
theorem d_MO_plan_0 : decode b_MO_plan 0 = .ok (.iconst 0, 1) := by decide +kernel
theorem d_MO_plan_1 : decode b_MO_plan 1 = .ok (.istore_n 1, 1) := by decide +kernel
theorem d_MO_plan_2 : decode b_MO_plan 2 = .ok (.iload_n 1, 1) := by decide +kernel
theorem d_MO_plan_3 : decode b_MO_plan 3 = .ok (.aload_n 0, 1) := by decide +kernel
theorem d_MO_plan_4 : decode b_MO_plan 4 = .ok (.getfield 97, 3) := by decide +kernel
theorem d_MO_plan_7 : decode b_MO_plan 7 = .ok (.if_icmp .ge (42), 3) := by decide +kernel
theorem d_MO_plan_10 : decode b_MO_plan 10 = .ok (.iconst 0, 1) := by decide +kernel
theorem d_MO_plan_11 : decode b_MO_plan 11 = .ok (.istore_n 2, 1) := by decide +kernel
theorem d_MO_plan_12 : decode b_MO_plan 12 = .ok (.iload_n 2, 1) := by decide +kernel
theorem d_MO_plan_13 : decode b_MO_plan 13 = .ok (.aload_n 0, 1) := by decide +kernel
theorem d_MO_plan_14 : decode b_MO_plan 14 = .ok (.getfield 97, 3) := by decide +kernel
theorem d_MO_plan_17 : decode b_MO_plan 17 = .ok (.if_icmp .ge (26), 3) := by decide +kernel
theorem d_MO_plan_20 : decode b_MO_plan 20 = .ok (.aload_n 0, 1) := by decide +kernel
theorem d_MO_plan_21 : decode b_MO_plan 21 = .ok (.getfield 62, 3) := by decide +kernel
theorem d_MO_plan_24 : decode b_MO_plan 24 = .ok (.bipush 9, 2) := by decide +kernel
theorem d_MO_plan_26 : decode b_MO_plan 26 = .ok (.iload_n 1, 1) := by decide +kernel
theorem d_MO_plan_27 : decode b_MO_plan 27 = .ok (.imul, 1) := by decide +kernel
theorem d_MO_plan_28 : decode b_MO_plan 28 = .ok (.iload_n 2, 1) := by decide +kernel
theorem d_MO_plan_29 : decode b_MO_plan 29 = .ok (.iadd, 1) := by decide +kernel
theorem d_MO_plan_30 : decode b_MO_plan 30 = .ok (.aload_n 0, 1) := by decide +kernel
theorem d_MO_plan_31 : decode b_MO_plan 31 = .ok (.iload_n 1, 1) := by decide +kernel
theorem d_MO_plan_32 : decode b_MO_plan 32 = .ok (.iload_n 2, 1) := by decide +kernel
theorem d_MO_plan_33 : decode b_MO_plan 33 = .ok (.invokevirtual 125, 3) := by decide +kernel
theorem d_MO_plan_36 : decode b_MO_plan 36 = .ok (.iastore, 1) := by decide +kernel
theorem d_MO_plan_37 : decode b_MO_plan 37 = .ok (.iinc 2 1, 3) := by decide +kernel
theorem d_MO_plan_40 : decode b_MO_plan 40 = .ok (.goto (-28), 3) := by decide +kernel
theorem d_MO_plan_43 : decode b_MO_plan 43 = .ok (.iinc 1 1, 3) := by decide +kernel
theorem d_MO_plan_46 : decode b_MO_plan 46 = .ok (.goto (-44), 3) := by decide +kernel
theorem d_MO_plan_49 : decode b_MO_plan 49 = .ok (.iconst 1, 1) := by decide +kernel
theorem d_MO_plan_50 : decode b_MO_plan 50 = .ok (.aload_n 0, 1) := by decide +kernel
theorem d_MO_plan_51 : decode b_MO_plan 51 = .ok (.getfield 97, 3) := by decide +kernel
theorem d_MO_plan_54 : decode b_MO_plan 54 = .ok (.ishl, 1) := by decide +kernel
theorem d_MO_plan_55 : decode b_MO_plan 55 = .ok (.iconst 1, 1) := by decide +kernel
theorem d_MO_plan_56 : decode b_MO_plan 56 = .ok (.isub, 1) := by decide +kernel
theorem d_MO_plan_57 : decode b_MO_plan 57 = .ok (.istore_n 1, 1) := by decide +kernel
theorem d_MO_plan_58 : decode b_MO_plan 58 = .ok (.iload_n 1, 1) := by decide +kernel
theorem d_MO_plan_59 : decode b_MO_plan 59 = .ok (.istore_n 2, 1) := by decide +kernel
theorem d_MO_plan_60 : decode b_MO_plan 60 = .ok (.iload_n 2, 1) := by decide +kernel
theorem d_MO_plan_61 : decode b_MO_plan 61 = .ok (.ifCond .le (151), 3) := by decide +kernel
theorem d_MO_plan_64 : decode b_MO_plan 64 = .ok (.iconst 0, 1) := by decide +kernel
theorem d_MO_plan_65 : decode b_MO_plan 65 = .ok (.istore_n 3, 1) := by decide +kernel
theorem d_MO_plan_66 : decode b_MO_plan 66 = .ok (.iload_n 3, 1) := by decide +kernel
theorem d_MO_plan_67 : decode b_MO_plan 67 = .ok (.aload_n 0, 1) := by decide +kernel
theorem d_MO_plan_68 : decode b_MO_plan 68 = .ok (.getfield 97, 3) := by decide +kernel
theorem d_MO_plan_71 : decode b_MO_plan 71 = .ok (.if_icmp .ge (135), 3) := by decide +kernel
theorem d_MO_plan_74 : decode b_MO_plan 74 = .ok (.iconst (-1), 1) := by decide +kernel
theorem d_MO_plan_75 : decode b_MO_plan 75 = .ok (.istore 4, 2) := by decide +kernel
theorem d_MO_plan_77 : decode b_MO_plan 77 = .ok (.iconst 0, 1) := by decide +kernel
theorem d_MO_plan_78 : decode b_MO_plan 78 = .ok (.istore 5, 2) := by decide +kernel
theorem d_MO_plan_80 : decode b_MO_plan 80 = .ok (.iload 5, 2) := by decide +kernel
theorem d_MO_plan_82 : decode b_MO_plan 82 = .ok (.aload_n 0, 1) := by decide +kernel
theorem d_MO_plan_83 : decode b_MO_plan 83 = .ok (.getfield 97, 3) := by decide +kernel
theorem d_MO_plan_86 : decode b_MO_plan 86 = .ok (.if_icmp .ge (92), 3) := by decide +kernel
theorem d_MO_plan_89 : decode b_MO_plan 89 = .ok (.iload_n 2, 1) := by decide +kernel
theorem d_MO_plan_90 : decode b_MO_plan 90 = .ok (.iload 5, 2) := by decide +kernel
theorem d_MO_plan_92 : decode b_MO_plan 92 = .ok (.ishr, 1) := by decide +kernel
theorem d_MO_plan_93 : decode b_MO_plan 93 = .ok (.iconst 1, 1) := by decide +kernel
theorem d_MO_plan_94 : decode b_MO_plan 94 = .ok (.iand, 1) := by decide +kernel
theorem d_MO_plan_95 : decode b_MO_plan 95 = .ok (.ifCond .ne (7), 3) := by decide +kernel
theorem d_MO_plan_98 : decode b_MO_plan 98 = .ok (.iconst 1, 1) := by decide +kernel
theorem d_MO_plan_99 : decode b_MO_plan 99 = .ok (.goto (4), 3) := by decide +kernel
theorem d_MO_plan_102 : decode b_MO_plan 102 = .ok (.iconst 0, 1) := by decide +kernel
theorem d_MO_plan_103 : decode b_MO_plan 103 = .ok (.istore 6, 2) := by decide +kernel
theorem d_MO_plan_105 : decode b_MO_plan 105 = .ok (.iload 6, 2) := by decide +kernel
theorem d_MO_plan_107 : decode b_MO_plan 107 = .ok (.ifCond .eq (36), 3) := by decide +kernel
theorem d_MO_plan_110 : decode b_MO_plan 110 = .ok (.aload_n 0, 1) := by decide +kernel
theorem d_MO_plan_111 : decode b_MO_plan 111 = .ok (.getfield 62, 3) := by decide +kernel
theorem d_MO_plan_114 : decode b_MO_plan 114 = .ok (.bipush 9, 2) := by decide +kernel
theorem d_MO_plan_116 : decode b_MO_plan 116 = .ok (.iload_n 3, 1) := by decide +kernel
theorem d_MO_plan_117 : decode b_MO_plan 117 = .ok (.imul, 1) := by decide +kernel
theorem d_MO_plan_118 : decode b_MO_plan 118 = .ok (.iload 5, 2) := by decide +kernel
theorem d_MO_plan_120 : decode b_MO_plan 120 = .ok (.iadd, 1) := by decide +kernel
theorem d_MO_plan_121 : decode b_MO_plan 121 = .ok (.iaload, 1) := by decide +kernel
theorem d_MO_plan_122 : decode b_MO_plan 122 = .ok (.aload_n 0, 1) := by decide +kernel
theorem d_MO_plan_123 : decode b_MO_plan 123 = .ok (.getfield 59, 3) := by decide +kernel
theorem d_MO_plan_126 : decode b_MO_plan 126 = .ok (.bipush 9, 2) := by decide +kernel
theorem d_MO_plan_128 : decode b_MO_plan 128 = .ok (.iload_n 2, 1) := by decide +kernel
theorem d_MO_plan_129 : decode b_MO_plan 129 = .ok (.iconst 1, 1) := by decide +kernel
theorem d_MO_plan_130 : decode b_MO_plan 130 = .ok (.iload 5, 2) := by decide +kernel
theorem d_MO_plan_132 : decode b_MO_plan 132 = .ok (.ishl, 1) := by decide +kernel
theorem d_MO_plan_133 : decode b_MO_plan 133 = .ok (.ior, 1) := by decide +kernel
theorem d_MO_plan_134 : decode b_MO_plan 134 = .ok (.imul, 1) := by decide +kernel
theorem d_MO_plan_135 : decode b_MO_plan 135 = .ok (.iload 5, 2) := by decide +kernel
theorem d_MO_plan_137 : decode b_MO_plan 137 = .ok (.iadd, 1) := by decide +kernel
theorem d_MO_plan_138 : decode b_MO_plan 138 = .ok (.iaload, 1) := by decide +kernel
theorem d_MO_plan_139 : decode b_MO_plan 139 = .ok (.iadd, 1) := by decide +kernel
theorem d_MO_plan_140 : decode b_MO_plan 140 = .ok (.goto (4), 3) := by decide +kernel
theorem d_MO_plan_143 : decode b_MO_plan 143 = .ok (.iconst 0, 1) := by decide +kernel
theorem d_MO_plan_144 : decode b_MO_plan 144 = .ok (.istore 7, 2) := by decide +kernel
theorem d_MO_plan_146 : decode b_MO_plan 146 = .ok (.iload 6, 2) := by decide +kernel
theorem d_MO_plan_148 : decode b_MO_plan 148 = .ok (.ifCond .eq (20), 3) := by decide +kernel
theorem d_MO_plan_151 : decode b_MO_plan 151 = .ok (.iload 4, 2) := by decide +kernel
theorem d_MO_plan_153 : decode b_MO_plan 153 = .ok (.ifCond .lt (10), 3) := by decide +kernel
theorem d_MO_plan_156 : decode b_MO_plan 156 = .ok (.iload 7, 2) := by decide +kernel
theorem d_MO_plan_158 : decode b_MO_plan 158 = .ok (.iload 4, 2) := by decide +kernel
theorem d_MO_plan_160 : decode b_MO_plan 160 = .ok (.if_icmp .ge (8), 3) := by decide +kernel
theorem d_MO_plan_163 : decode b_MO_plan 163 = .ok (.iload 7, 2) := by decide +kernel
theorem d_MO_plan_165 : decode b_MO_plan 165 = .ok (.goto (5), 3) := by decide +kernel
theorem d_MO_plan_168 : decode b_MO_plan 168 = .ok (.iload 4, 2) := by decide +kernel
theorem d_MO_plan_170 : decode b_MO_plan 170 = .ok (.istore 4, 2) := by decide +kernel
theorem d_MO_plan_172 : decode b_MO_plan 172 = .ok (.iinc 5 1, 3) := by decide +kernel
theorem d_MO_plan_175 : decode b_MO_plan 175 = .ok (.goto (-95), 3) := by decide +kernel
theorem d_MO_plan_178 : decode b_MO_plan 178 = .ok (.aload_n 0, 1) := by decide +kernel
theorem d_MO_plan_179 : decode b_MO_plan 179 = .ok (.getfield 59, 3) := by decide +kernel
theorem d_MO_plan_182 : decode b_MO_plan 182 = .ok (.bipush 9, 2) := by decide +kernel
theorem d_MO_plan_184 : decode b_MO_plan 184 = .ok (.iload_n 2, 1) := by decide +kernel
theorem d_MO_plan_185 : decode b_MO_plan 185 = .ok (.imul, 1) := by decide +kernel
theorem d_MO_plan_186 : decode b_MO_plan 186 = .ok (.iload_n 3, 1) := by decide +kernel
theorem d_MO_plan_187 : decode b_MO_plan 187 = .ok (.iadd, 1) := by decide +kernel
theorem d_MO_plan_188 : decode b_MO_plan 188 = .ok (.iload 4, 2) := by decide +kernel
theorem d_MO_plan_190 : decode b_MO_plan 190 = .ok (.ifCond .ge (7), 3) := by decide +kernel
theorem d_MO_plan_193 : decode b_MO_plan 193 = .ok (.iconst 0, 1) := by decide +kernel
theorem d_MO_plan_194 : decode b_MO_plan 194 = .ok (.goto (5), 3) := by decide +kernel
theorem d_MO_plan_197 : decode b_MO_plan 197 = .ok (.iload 4, 2) := by decide +kernel
theorem d_MO_plan_199 : decode b_MO_plan 199 = .ok (.iastore, 1) := by decide +kernel
theorem d_MO_plan_200 : decode b_MO_plan 200 = .ok (.iinc 3 1, 3) := by decide +kernel
theorem d_MO_plan_203 : decode b_MO_plan 203 = .ok (.goto (-137), 3) := by decide +kernel
theorem d_MO_plan_206 : decode b_MO_plan 206 = .ok (.iinc 2 (-1), 3) := by decide +kernel
theorem d_MO_plan_209 : decode b_MO_plan 209 = .ok (.goto (-149), 3) := by decide +kernel
theorem d_MO_plan_212 : decode b_MO_plan 212 = .ok (.iconst 0, 1) := by decide +kernel
theorem d_MO_plan_213 : decode b_MO_plan 213 = .ok (.istore_n 2, 1) := by decide +kernel
theorem d_MO_plan_214 : decode b_MO_plan 214 = .ok (.iconst 0, 1) := by decide +kernel
theorem d_MO_plan_215 : decode b_MO_plan 215 = .ok (.istore_n 3, 1) := by decide +kernel
theorem d_MO_plan_216 : decode b_MO_plan 216 = .ok (.iload_n 3, 1) := by decide +kernel
theorem d_MO_plan_217 : decode b_MO_plan 217 = .ok (.aload_n 0, 1) := by decide +kernel
theorem d_MO_plan_218 : decode b_MO_plan 218 = .ok (.getfield 97, 3) := by decide +kernel
theorem d_MO_plan_221 : decode b_MO_plan 221 = .ok (.if_icmp .ge (48), 3) := by decide +kernel
theorem d_MO_plan_224 : decode b_MO_plan 224 = .ok (.iload_n 3, 1) := by decide +kernel
theorem d_MO_plan_225 : decode b_MO_plan 225 = .ok (.ifCond .eq (20), 3) := by decide +kernel
theorem d_MO_plan_228 : decode b_MO_plan 228 = .ok (.aload_n 0, 1) := by decide +kernel
theorem d_MO_plan_229 : decode b_MO_plan 229 = .ok (.getfield 59, 3) := by decide +kernel
theorem d_MO_plan_232 : decode b_MO_plan 232 = .ok (.bipush 9, 2) := by decide +kernel
theorem d_MO_plan_234 : decode b_MO_plan 234 = .ok (.iconst 1, 1) := by decide +kernel
theorem d_MO_plan_235 : decode b_MO_plan 235 = .ok (.iload_n 3, 1) := by decide +kernel
theorem d_MO_plan_236 : decode b_MO_plan 236 = .ok (.ishl, 1) := by decide +kernel
theorem d_MO_plan_237 : decode b_MO_plan 237 = .ok (.imul, 1) := by decide +kernel
theorem d_MO_plan_238 : decode b_MO_plan 238 = .ok (.iload_n 3, 1) := by decide +kernel
theorem d_MO_plan_239 : decode b_MO_plan 239 = .ok (.iadd, 1) := by decide +kernel
theorem d_MO_plan_240 : decode b_MO_plan 240 = .ok (.iaload, 1) := by decide +kernel
theorem d_MO_plan_241 : decode b_MO_plan 241 = .ok (.iload_n 2, 1) := by decide +kernel
theorem d_MO_plan_242 : decode b_MO_plan 242 = .ok (.if_icmp .ge (19), 3) := by decide +kernel
theorem d_MO_plan_245 : decode b_MO_plan 245 = .ok (.aload_n 0, 1) := by decide +kernel
theorem d_MO_plan_246 : decode b_MO_plan 246 = .ok (.getfield 59, 3) := by decide +kernel
theorem d_MO_plan_249 : decode b_MO_plan 249 = .ok (.bipush 9, 2) := by decide +kernel
theorem d_MO_plan_251 : decode b_MO_plan 251 = .ok (.iconst 1, 1) := by decide +kernel
theorem d_MO_plan_252 : decode b_MO_plan 252 = .ok (.iload_n 3, 1) := by decide +kernel
theorem d_MO_plan_253 : decode b_MO_plan 253 = .ok (.ishl, 1) := by decide +kernel
theorem d_MO_plan_254 : decode b_MO_plan 254 = .ok (.imul, 1) := by decide +kernel
theorem d_MO_plan_255 : decode b_MO_plan 255 = .ok (.iload_n 3, 1) := by decide +kernel
theorem d_MO_plan_256 : decode b_MO_plan 256 = .ok (.iadd, 1) := by decide +kernel
theorem d_MO_plan_257 : decode b_MO_plan 257 = .ok (.iaload, 1) := by decide +kernel
theorem d_MO_plan_258 : decode b_MO_plan 258 = .ok (.goto (4), 3) := by decide +kernel
theorem d_MO_plan_261 : decode b_MO_plan 261 = .ok (.iload_n 2, 1) := by decide +kernel
theorem d_MO_plan_262 : decode b_MO_plan 262 = .ok (.istore_n 2, 1) := by decide +kernel
theorem d_MO_plan_263 : decode b_MO_plan 263 = .ok (.iinc 3 1, 3) := by decide +kernel
theorem d_MO_plan_266 : decode b_MO_plan 266 = .ok (.goto (-50), 3) := by decide +kernel
theorem d_MO_plan_269 : decode b_MO_plan 269 = .ok (.iload_n 2, 1) := by decide +kernel
theorem d_MO_plan_270 : decode b_MO_plan 270 = .ok (.ireturn, 1) := by decide +kernel
theorem d_MO_order_0 : decode b_MO_order 0 = .ok (.aload_n 0, 1) := by decide +kernel
theorem d_MO_order_1 : decode b_MO_order 1 = .ok (.iconst 0, 1) := by decide +kernel
theorem d_MO_order_2 : decode b_MO_order 2 = .ok (.putfield 65, 3) := by decide +kernel
theorem d_MO_order_5 : decode b_MO_order 5 = .ok (.aload_n 0, 1) := by decide +kernel
theorem d_MO_order_6 : decode b_MO_order 6 = .ok (.invokevirtual 128, 3) := by decide +kernel
theorem d_MO_order_9 : decode b_MO_order 9 = .ok (.ireturn, 1) := by decide +kernel
theorem d_MO_ordered_0 : decode b_MO_ordered 0 = .ok (.aload_n 0, 1) := by decide +kernel
theorem d_MO_ordered_1 : decode b_MO_ordered 1 = .ok (.iload_n 1, 1) := by decide +kernel
theorem d_MO_ordered_2 : decode b_MO_ordered 2 = .ok (.ifCond .ge (7), 3) := by decide +kernel
theorem d_MO_ordered_5 : decode b_MO_ordered 5 = .ok (.iconst 1, 1) := by decide +kernel
theorem d_MO_ordered_6 : decode b_MO_ordered 6 = .ok (.goto (4), 3) := by decide +kernel
theorem d_MO_ordered_9 : decode b_MO_ordered 9 = .ok (.iconst 0, 1) := by decide +kernel
theorem d_MO_ordered_10 : decode b_MO_ordered 10 = .ok (.iconst 0, 1) := by decide +kernel
theorem d_MO_ordered_11 : decode b_MO_ordered 11 = .ok (.invokevirtual 73, 3) := by decide +kernel
theorem d_MO_ordered_14 : decode b_MO_ordered 14 = .ok (.ifCond .eq (5), 3) := by decide +kernel
theorem d_MO_ordered_17 : decode b_MO_ordered 17 = .ok (.iconst 0, 1) := by decide +kernel
theorem d_MO_ordered_18 : decode b_MO_ordered 18 = .ok (.ireturn, 1) := by decide +kernel
theorem d_MO_ordered_19 : decode b_MO_ordered 19 = .ok (.iload_n 1, 1) := by decide +kernel
theorem d_MO_ordered_20 : decode b_MO_ordered 20 = .ok (.aload_n 0, 1) := by decide +kernel
theorem d_MO_ordered_21 : decode b_MO_ordered 21 = .ok (.getfield 97, 3) := by decide +kernel
theorem d_MO_ordered_24 : decode b_MO_ordered 24 = .ok (.if_icmp .lt (5), 3) := by decide +kernel
theorem d_MO_ordered_27 : decode b_MO_ordered 27 = .ok (.iconst (-1), 1) := by decide +kernel
theorem d_MO_ordered_28 : decode b_MO_ordered 28 = .ok (.ireturn, 1) := by decide +kernel
theorem d_MO_ordered_29 : decode b_MO_ordered 29 = .ok (.aload_n 0, 1) := by decide +kernel
theorem d_MO_ordered_30 : decode b_MO_ordered 30 = .ok (.invokevirtual 128, 3) := by decide +kernel
theorem d_MO_ordered_33 : decode b_MO_ordered 33 = .ok (.istore_n 2, 1) := by decide +kernel
theorem d_MO_ordered_34 : decode b_MO_ordered 34 = .ok (.iconst 0, 1) := by decide +kernel
theorem d_MO_ordered_35 : decode b_MO_ordered 35 = .ok (.istore_n 3, 1) := by decide +kernel
theorem d_MO_ordered_36 : decode b_MO_ordered 36 = .ok (.iconst (-1), 1) := by decide +kernel
theorem d_MO_ordered_37 : decode b_MO_ordered 37 = .ok (.istore 4, 2) := by decide +kernel
theorem d_MO_ordered_39 : decode b_MO_ordered 39 = .ok (.iconst 0, 1) := by decide +kernel
theorem d_MO_ordered_40 : decode b_MO_ordered 40 = .ok (.istore 5, 2) := by decide +kernel
theorem d_MO_ordered_42 : decode b_MO_ordered 42 = .ok (.iload 5, 2) := by decide +kernel
theorem d_MO_ordered_44 : decode b_MO_ordered 44 = .ok (.iload_n 1, 1) := by decide +kernel
theorem d_MO_ordered_45 : decode b_MO_ordered 45 = .ok (.if_icmp .gt (133), 3) := by decide +kernel
theorem d_MO_ordered_48 : decode b_MO_ordered 48 = .ok (.iconst (-1), 1) := by decide +kernel
theorem d_MO_ordered_49 : decode b_MO_ordered 49 = .ok (.istore 6, 2) := by decide +kernel
theorem d_MO_ordered_51 : decode b_MO_ordered 51 = .ok (.aload_n 0, 1) := by decide +kernel
theorem d_MO_ordered_52 : decode b_MO_ordered 52 = .ok (.getfield 97, 3) := by decide +kernel
theorem d_MO_ordered_55 : decode b_MO_ordered 55 = .ok (.iconst 1, 1) := by decide +kernel
theorem d_MO_ordered_56 : decode b_MO_ordered 56 = .ok (.isub, 1) := by decide +kernel
theorem d_MO_ordered_57 : decode b_MO_ordered 57 = .ok (.istore 7, 2) := by decide +kernel
theorem d_MO_ordered_59 : decode b_MO_ordered 59 = .ok (.iload 7, 2) := by decide +kernel
theorem d_MO_ordered_61 : decode b_MO_ordered 61 = .ok (.ifCond .lt (75), 3) := by decide +kernel
theorem d_MO_ordered_64 : decode b_MO_ordered 64 = .ok (.iload 4, 2) := by decide +kernel
theorem d_MO_ordered_66 : decode b_MO_ordered 66 = .ok (.ifCond .ge (7), 3) := by decide +kernel
theorem d_MO_ordered_69 : decode b_MO_ordered 69 = .ok (.iconst 0, 1) := by decide +kernel
theorem d_MO_ordered_70 : decode b_MO_ordered 70 = .ok (.goto (16), 3) := by decide +kernel
theorem d_MO_ordered_73 : decode b_MO_ordered 73 = .ok (.aload_n 0, 1) := by decide +kernel
theorem d_MO_ordered_74 : decode b_MO_ordered 74 = .ok (.getfield 62, 3) := by decide +kernel
theorem d_MO_ordered_77 : decode b_MO_ordered 77 = .ok (.bipush 9, 2) := by decide +kernel
theorem d_MO_ordered_79 : decode b_MO_ordered 79 = .ok (.iload 4, 2) := by decide +kernel
theorem d_MO_ordered_81 : decode b_MO_ordered 81 = .ok (.imul, 1) := by decide +kernel
theorem d_MO_ordered_82 : decode b_MO_ordered 82 = .ok (.iload 7, 2) := by decide +kernel
theorem d_MO_ordered_84 : decode b_MO_ordered 84 = .ok (.iadd, 1) := by decide +kernel
theorem d_MO_ordered_85 : decode b_MO_ordered 85 = .ok (.iaload, 1) := by decide +kernel
theorem d_MO_ordered_86 : decode b_MO_ordered 86 = .ok (.aload_n 0, 1) := by decide +kernel
theorem d_MO_ordered_87 : decode b_MO_ordered 87 = .ok (.getfield 59, 3) := by decide +kernel
theorem d_MO_ordered_90 : decode b_MO_ordered 90 = .ok (.bipush 9, 2) := by decide +kernel
theorem d_MO_ordered_92 : decode b_MO_ordered 92 = .ok (.iload_n 3, 1) := by decide +kernel
theorem d_MO_ordered_93 : decode b_MO_ordered 93 = .ok (.iconst 1, 1) := by decide +kernel
theorem d_MO_ordered_94 : decode b_MO_ordered 94 = .ok (.iload 7, 2) := by decide +kernel
theorem d_MO_ordered_96 : decode b_MO_ordered 96 = .ok (.ishl, 1) := by decide +kernel
theorem d_MO_ordered_97 : decode b_MO_ordered 97 = .ok (.ior, 1) := by decide +kernel
theorem d_MO_ordered_98 : decode b_MO_ordered 98 = .ok (.imul, 1) := by decide +kernel
theorem d_MO_ordered_99 : decode b_MO_ordered 99 = .ok (.iload 7, 2) := by decide +kernel
theorem d_MO_ordered_101 : decode b_MO_ordered 101 = .ok (.iadd, 1) := by decide +kernel
theorem d_MO_ordered_102 : decode b_MO_ordered 102 = .ok (.iaload, 1) := by decide +kernel
theorem d_MO_ordered_103 : decode b_MO_ordered 103 = .ok (.iadd, 1) := by decide +kernel
theorem d_MO_ordered_104 : decode b_MO_ordered 104 = .ok (.istore 8, 2) := by decide +kernel
theorem d_MO_ordered_106 : decode b_MO_ordered 106 = .ok (.iload_n 3, 1) := by decide +kernel
theorem d_MO_ordered_107 : decode b_MO_ordered 107 = .ok (.iload 7, 2) := by decide +kernel
theorem d_MO_ordered_109 : decode b_MO_ordered 109 = .ok (.ishr, 1) := by decide +kernel
theorem d_MO_ordered_110 : decode b_MO_ordered 110 = .ok (.iconst 1, 1) := by decide +kernel
theorem d_MO_ordered_111 : decode b_MO_ordered 111 = .ok (.iand, 1) := by decide +kernel
theorem d_MO_ordered_112 : decode b_MO_ordered 112 = .ok (.ifCond .ne (14), 3) := by decide +kernel
theorem d_MO_ordered_115 : decode b_MO_ordered 115 = .ok (.iload 8, 2) := by decide +kernel
theorem d_MO_ordered_117 : decode b_MO_ordered 117 = .ok (.iload_n 2, 1) := by decide +kernel
theorem d_MO_ordered_118 : decode b_MO_ordered 118 = .ok (.if_icmp .ne (8), 3) := by decide +kernel
theorem d_MO_ordered_121 : decode b_MO_ordered 121 = .ok (.iload 7, 2) := by decide +kernel
theorem d_MO_ordered_123 : decode b_MO_ordered 123 = .ok (.goto (5), 3) := by decide +kernel
theorem d_MO_ordered_126 : decode b_MO_ordered 126 = .ok (.iload 6, 2) := by decide +kernel
theorem d_MO_ordered_128 : decode b_MO_ordered 128 = .ok (.istore 6, 2) := by decide +kernel
theorem d_MO_ordered_130 : decode b_MO_ordered 130 = .ok (.iinc 7 (-1), 3) := by decide +kernel
theorem d_MO_ordered_133 : decode b_MO_ordered 133 = .ok (.goto (-74), 3) := by decide +kernel
theorem d_MO_ordered_136 : decode b_MO_ordered 136 = .ok (.iload_n 2, 1) := by decide +kernel
theorem d_MO_ordered_137 : decode b_MO_ordered 137 = .ok (.iload 4, 2) := by decide +kernel
theorem d_MO_ordered_139 : decode b_MO_ordered 139 = .ok (.ifCond .ge (7), 3) := by decide +kernel
theorem d_MO_ordered_142 : decode b_MO_ordered 142 = .ok (.iconst 0, 1) := by decide +kernel
theorem d_MO_ordered_143 : decode b_MO_ordered 143 = .ok (.goto (16), 3) := by decide +kernel
theorem d_MO_ordered_146 : decode b_MO_ordered 146 = .ok (.aload_n 0, 1) := by decide +kernel
theorem d_MO_ordered_147 : decode b_MO_ordered 147 = .ok (.getfield 62, 3) := by decide +kernel
theorem d_MO_ordered_150 : decode b_MO_ordered 150 = .ok (.bipush 9, 2) := by decide +kernel
theorem d_MO_ordered_152 : decode b_MO_ordered 152 = .ok (.iload 4, 2) := by decide +kernel
theorem d_MO_ordered_154 : decode b_MO_ordered 154 = .ok (.imul, 1) := by decide +kernel
theorem d_MO_ordered_155 : decode b_MO_ordered 155 = .ok (.iload 6, 2) := by decide +kernel
theorem d_MO_ordered_157 : decode b_MO_ordered 157 = .ok (.iadd, 1) := by decide +kernel
theorem d_MO_ordered_158 : decode b_MO_ordered 158 = .ok (.iaload, 1) := by decide +kernel
theorem d_MO_ordered_159 : decode b_MO_ordered 159 = .ok (.isub, 1) := by decide +kernel
theorem d_MO_ordered_160 : decode b_MO_ordered 160 = .ok (.istore_n 2, 1) := by decide +kernel
theorem d_MO_ordered_161 : decode b_MO_ordered 161 = .ok (.iload 6, 2) := by decide +kernel
theorem d_MO_ordered_163 : decode b_MO_ordered 163 = .ok (.istore 4, 2) := by decide +kernel
theorem d_MO_ordered_165 : decode b_MO_ordered 165 = .ok (.iload_n 3, 1) := by decide +kernel
theorem d_MO_ordered_166 : decode b_MO_ordered 166 = .ok (.iconst 1, 1) := by decide +kernel
theorem d_MO_ordered_167 : decode b_MO_ordered 167 = .ok (.iload 6, 2) := by decide +kernel
theorem d_MO_ordered_169 : decode b_MO_ordered 169 = .ok (.ishl, 1) := by decide +kernel
theorem d_MO_ordered_170 : decode b_MO_ordered 170 = .ok (.ior, 1) := by decide +kernel
theorem d_MO_ordered_171 : decode b_MO_ordered 171 = .ok (.istore_n 3, 1) := by decide +kernel
theorem d_MO_ordered_172 : decode b_MO_ordered 172 = .ok (.iinc 5 1, 3) := by decide +kernel
theorem d_MO_ordered_175 : decode b_MO_ordered 175 = .ok (.goto (-133), 3) := by decide +kernel
theorem d_MO_ordered_178 : decode b_MO_ordered 178 = .ok (.iload 4, 2) := by decide +kernel
theorem d_MO_ordered_180 : decode b_MO_ordered 180 = .ok (.ireturn, 1) := by decide +kernel
theorem d_MO_defect_0 : decode b_MO_defect 0 = .ok (.aload_n 0, 1) := by decide +kernel
theorem d_MO_defect_1 : decode b_MO_defect 1 = .ok (.aload_n 0, 1) := by decide +kernel
theorem d_MO_defect_2 : decode b_MO_defect 2 = .ok (.getfield 131, 3) := by decide +kernel
theorem d_MO_defect_5 : decode b_MO_defect 5 = .ok (.bipush 10, 2) := by decide +kernel
theorem d_MO_defect_7 : decode b_MO_defect 7 = .ok (.if_icmp .ne (7), 3) := by decide +kernel
theorem d_MO_defect_10 : decode b_MO_defect 10 = .ok (.iconst 1, 1) := by decide +kernel
theorem d_MO_defect_11 : decode b_MO_defect 11 = .ok (.goto (4), 3) := by decide +kernel
theorem d_MO_defect_14 : decode b_MO_defect 14 = .ok (.iconst 0, 1) := by decide +kernel
theorem d_MO_defect_15 : decode b_MO_defect 15 = .ok (.iload_n 1, 1) := by decide +kernel
theorem d_MO_defect_16 : decode b_MO_defect 16 = .ok (.iconst 0, 1) := by decide +kernel
theorem d_MO_defect_17 : decode b_MO_defect 17 = .ok (.sipush 20000, 3) := by decide +kernel
theorem d_MO_defect_20 : decode b_MO_defect 20 = .ok (.invokestatic 68, 3) := by decide +kernel
theorem d_MO_defect_23 : decode b_MO_defect 23 = .ok (.ifCond .eq (19), 3) := by decide +kernel
theorem d_MO_defect_26 : decode b_MO_defect 26 = .ok (.iload_n 2, 1) := by decide +kernel
theorem d_MO_defect_27 : decode b_MO_defect 27 = .ok (.iconst 0, 1) := by decide +kernel
theorem d_MO_defect_28 : decode b_MO_defect 28 = .ok (.sipush 20000, 3) := by decide +kernel
theorem d_MO_defect_31 : decode b_MO_defect 31 = .ok (.invokestatic 68, 3) := by decide +kernel
theorem d_MO_defect_34 : decode b_MO_defect 34 = .ok (.ifCond .eq (8), 3) := by decide +kernel
theorem d_MO_defect_37 : decode b_MO_defect 37 = .ok (.iload_n 2, 1) := by decide +kernel
theorem d_MO_defect_38 : decode b_MO_defect 38 = .ok (.iload_n 1, 1) := by decide +kernel
theorem d_MO_defect_39 : decode b_MO_defect 39 = .ok (.if_icmp .gt (7), 3) := by decide +kernel
theorem d_MO_defect_42 : decode b_MO_defect 42 = .ok (.iconst 1, 1) := by decide +kernel
theorem d_MO_defect_43 : decode b_MO_defect 43 = .ok (.goto (4), 3) := by decide +kernel
theorem d_MO_defect_46 : decode b_MO_defect 46 = .ok (.iconst 0, 1) := by decide +kernel
theorem d_MO_defect_47 : decode b_MO_defect 47 = .ok (.invokevirtual 73, 3) := by decide +kernel
theorem d_MO_defect_50 : decode b_MO_defect 50 = .ok (.ifCond .eq (5), 3) := by decide +kernel
theorem d_MO_defect_53 : decode b_MO_defect 53 = .ok (.iconst 0, 1) := by decide +kernel
theorem d_MO_defect_54 : decode b_MO_defect 54 = .ok (.ireturn, 1) := by decide +kernel
theorem d_MO_defect_55 : decode b_MO_defect 55 = .ok (.aload_n 0, 1) := by decide +kernel
theorem d_MO_defect_56 : decode b_MO_defect 56 = .ok (.getfield 53, 3) := by decide +kernel
theorem d_MO_defect_59 : decode b_MO_defect 59 = .ok (.aload_n 0, 1) := by decide +kernel
theorem d_MO_defect_60 : decode b_MO_defect 60 = .ok (.getfield 131, 3) := by decide +kernel
theorem d_MO_defect_63 : decode b_MO_defect 63 = .ok (.iload_n 1, 1) := by decide +kernel
theorem d_MO_defect_64 : decode b_MO_defect 64 = .ok (.iastore, 1) := by decide +kernel
theorem d_MO_defect_65 : decode b_MO_defect 65 = .ok (.aload_n 0, 1) := by decide +kernel
theorem d_MO_defect_66 : decode b_MO_defect 66 = .ok (.getfield 56, 3) := by decide +kernel
theorem d_MO_defect_69 : decode b_MO_defect 69 = .ok (.aload_n 0, 1) := by decide +kernel
theorem d_MO_defect_70 : decode b_MO_defect 70 = .ok (.getfield 131, 3) := by decide +kernel
theorem d_MO_defect_73 : decode b_MO_defect 73 = .ok (.iload_n 2, 1) := by decide +kernel
theorem d_MO_defect_74 : decode b_MO_defect 74 = .ok (.iastore, 1) := by decide +kernel
theorem d_MO_defect_75 : decode b_MO_defect 75 = .ok (.aload_n 0, 1) := by decide +kernel
theorem d_MO_defect_76 : decode b_MO_defect 76 = .ok (.dup, 1) := by decide +kernel
theorem d_MO_defect_77 : decode b_MO_defect 77 = .ok (.getfield 131, 3) := by decide +kernel
theorem d_MO_defect_80 : decode b_MO_defect 80 = .ok (.iconst 1, 1) := by decide +kernel
theorem d_MO_defect_81 : decode b_MO_defect 81 = .ok (.iadd, 1) := by decide +kernel
theorem d_MO_defect_82 : decode b_MO_defect 82 = .ok (.putfield 131, 3) := by decide +kernel
theorem d_MO_defect_85 : decode b_MO_defect 85 = .ok (.aload_n 0, 1) := by decide +kernel
theorem d_MO_defect_86 : decode b_MO_defect 86 = .ok (.getfield 131, 3) := by decide +kernel
theorem d_MO_defect_89 : decode b_MO_defect 89 = .ok (.ireturn, 1) := by decide +kernel
theorem d_MO_sound_0 : decode b_MO_sound 0 = .ok (.aload_n 0, 1) := by decide +kernel
theorem d_MO_sound_1 : decode b_MO_sound 1 = .ok (.iconst 0, 1) := by decide +kernel
theorem d_MO_sound_2 : decode b_MO_sound 2 = .ok (.putfield 65, 3) := by decide +kernel
theorem d_MO_sound_5 : decode b_MO_sound 5 = .ok (.aload_n 0, 1) := by decide +kernel
theorem d_MO_sound_6 : decode b_MO_sound 6 = .ok (.iconst 0, 1) := by decide +kernel
theorem d_MO_sound_7 : decode b_MO_sound 7 = .ok (.putfield 131, 3) := by decide +kernel
theorem d_MO_sound_10 : decode b_MO_sound 10 = .ok (.return_, 1) := by decide +kernel
theorem d_MO_isSound_0 : decode b_MO_isSound 0 = .ok (.iconst 1, 1) := by decide +kernel
theorem d_MO_isSound_1 : decode b_MO_isSound 1 = .ok (.istore_n 3, 1) := by decide +kernel
theorem d_MO_isSound_2 : decode b_MO_isSound 2 = .ok (.iconst 0, 1) := by decide +kernel
theorem d_MO_isSound_3 : decode b_MO_isSound 3 = .ok (.istore 4, 2) := by decide +kernel
theorem d_MO_isSound_5 : decode b_MO_isSound 5 = .ok (.iload 4, 2) := by decide +kernel
theorem d_MO_isSound_7 : decode b_MO_isSound 7 = .ok (.aload_n 0, 1) := by decide +kernel
theorem d_MO_isSound_8 : decode b_MO_isSound 8 = .ok (.iload_n 1, 1) := by decide +kernel
theorem d_MO_isSound_9 : decode b_MO_isSound 9 = .ok (.invokevirtual 114, 3) := by decide +kernel
theorem d_MO_isSound_12 : decode b_MO_isSound 12 = .ok (.if_icmp .ge (75), 3) := by decide +kernel
theorem d_MO_isSound_15 : decode b_MO_isSound 15 = .ok (.iconst 0, 1) := by decide +kernel
theorem d_MO_isSound_16 : decode b_MO_isSound 16 = .ok (.istore 5, 2) := by decide +kernel
theorem d_MO_isSound_18 : decode b_MO_isSound 18 = .ok (.iload 5, 2) := by decide +kernel
theorem d_MO_isSound_20 : decode b_MO_isSound 20 = .ok (.aload_n 0, 1) := by decide +kernel
theorem d_MO_isSound_21 : decode b_MO_isSound 21 = .ok (.getfield 131, 3) := by decide +kernel
theorem d_MO_isSound_24 : decode b_MO_isSound 24 = .ok (.if_icmp .ge (57), 3) := by decide +kernel
theorem d_MO_isSound_27 : decode b_MO_isSound 27 = .ok (.iload_n 3, 1) := by decide +kernel
theorem d_MO_isSound_28 : decode b_MO_isSound 28 = .ok (.ifCond .eq (45), 3) := by decide +kernel
theorem d_MO_isSound_31 : decode b_MO_isSound 31 = .ok (.aload_n 0, 1) := by decide +kernel
theorem d_MO_isSound_32 : decode b_MO_isSound 32 = .ok (.iload_n 1, 1) := by decide +kernel
theorem d_MO_isSound_33 : decode b_MO_isSound 33 = .ok (.iload 4, 2) := by decide +kernel
theorem d_MO_isSound_35 : decode b_MO_isSound 35 = .ok (.invokevirtual 107, 3) := by decide +kernel
theorem d_MO_isSound_38 : decode b_MO_isSound 38 = .ok (.iload_n 2, 1) := by decide +kernel
theorem d_MO_isSound_39 : decode b_MO_isSound 39 = .ok (.iadd, 1) := by decide +kernel
theorem d_MO_isSound_40 : decode b_MO_isSound 40 = .ok (.aload_n 0, 1) := by decide +kernel
theorem d_MO_isSound_41 : decode b_MO_isSound 41 = .ok (.getfield 53, 3) := by decide +kernel
theorem d_MO_isSound_44 : decode b_MO_isSound 44 = .ok (.iload 5, 2) := by decide +kernel
theorem d_MO_isSound_46 : decode b_MO_isSound 46 = .ok (.iaload, 1) := by decide +kernel
theorem d_MO_isSound_47 : decode b_MO_isSound 47 = .ok (.if_icmp .le (22), 3) := by decide +kernel
theorem d_MO_isSound_50 : decode b_MO_isSound 50 = .ok (.aload_n 0, 1) := by decide +kernel
theorem d_MO_isSound_51 : decode b_MO_isSound 51 = .ok (.iload_n 1, 1) := by decide +kernel
theorem d_MO_isSound_52 : decode b_MO_isSound 52 = .ok (.iload 4, 2) := by decide +kernel
theorem d_MO_isSound_54 : decode b_MO_isSound 54 = .ok (.invokevirtual 104, 3) := by decide +kernel
theorem d_MO_isSound_57 : decode b_MO_isSound 57 = .ok (.iload_n 2, 1) := by decide +kernel
theorem d_MO_isSound_58 : decode b_MO_isSound 58 = .ok (.iadd, 1) := by decide +kernel
theorem d_MO_isSound_59 : decode b_MO_isSound 59 = .ok (.aload_n 0, 1) := by decide +kernel
theorem d_MO_isSound_60 : decode b_MO_isSound 60 = .ok (.getfield 56, 3) := by decide +kernel
theorem d_MO_isSound_63 : decode b_MO_isSound 63 = .ok (.iload 5, 2) := by decide +kernel
theorem d_MO_isSound_65 : decode b_MO_isSound 65 = .ok (.iaload, 1) := by decide +kernel
theorem d_MO_isSound_66 : decode b_MO_isSound 66 = .ok (.if_icmp .lt (7), 3) := by decide +kernel
theorem d_MO_isSound_69 : decode b_MO_isSound 69 = .ok (.iconst 1, 1) := by decide +kernel
theorem d_MO_isSound_70 : decode b_MO_isSound 70 = .ok (.goto (4), 3) := by decide +kernel
theorem d_MO_isSound_73 : decode b_MO_isSound 73 = .ok (.iconst 0, 1) := by decide +kernel
theorem d_MO_isSound_74 : decode b_MO_isSound 74 = .ok (.istore_n 3, 1) := by decide +kernel
theorem d_MO_isSound_75 : decode b_MO_isSound 75 = .ok (.iinc 5 1, 3) := by decide +kernel
theorem d_MO_isSound_78 : decode b_MO_isSound 78 = .ok (.goto (-60), 3) := by decide +kernel
theorem d_MO_isSound_81 : decode b_MO_isSound 81 = .ok (.iinc 4 1, 3) := by decide +kernel
theorem d_MO_isSound_84 : decode b_MO_isSound 84 = .ok (.goto (-79), 3) := by decide +kernel
theorem d_MO_isSound_87 : decode b_MO_isSound 87 = .ok (.iload_n 3, 1) := by decide +kernel
theorem d_MO_isSound_88 : decode b_MO_isSound 88 = .ok (.ireturn, 1) := by decide +kernel
theorem d_MO_shift_0 : decode b_MO_shift 0 = .ok (.aload_n 0, 1) := by decide +kernel
theorem d_MO_shift_1 : decode b_MO_shift 1 = .ok (.aload_n 0, 1) := by decide +kernel
theorem d_MO_shift_2 : decode b_MO_shift 2 = .ok (.iload_n 1, 1) := by decide +kernel
theorem d_MO_shift_3 : decode b_MO_shift 3 = .ok (.invokevirtual 110, 3) := by decide +kernel
theorem d_MO_shift_6 : decode b_MO_shift 6 = .ok (.ifCond .ne (7), 3) := by decide +kernel
theorem d_MO_shift_9 : decode b_MO_shift 9 = .ok (.iconst 1, 1) := by decide +kernel
theorem d_MO_shift_10 : decode b_MO_shift 10 = .ok (.goto (4), 3) := by decide +kernel
theorem d_MO_shift_13 : decode b_MO_shift 13 = .ok (.iconst 0, 1) := by decide +kernel
theorem d_MO_shift_14 : decode b_MO_shift 14 = .ok (.iconst 0, 1) := by decide +kernel
theorem d_MO_shift_15 : decode b_MO_shift 15 = .ok (.invokevirtual 73, 3) := by decide +kernel
theorem d_MO_shift_18 : decode b_MO_shift 18 = .ok (.ifCond .eq (5), 3) := by decide +kernel
theorem d_MO_shift_21 : decode b_MO_shift 21 = .ok (.iconst 0, 1) := by decide +kernel
theorem d_MO_shift_22 : decode b_MO_shift 22 = .ok (.ireturn, 1) := by decide +kernel
theorem d_MO_shift_23 : decode b_MO_shift 23 = .ok (.aload_n 0, 1) := by decide +kernel
theorem d_MO_shift_24 : decode b_MO_shift 24 = .ok (.iload_n 1, 1) := by decide +kernel
theorem d_MO_shift_25 : decode b_MO_shift 25 = .ok (.aload_n 0, 1) := by decide +kernel
theorem d_MO_shift_26 : decode b_MO_shift 26 = .ok (.iload_n 1, 1) := by decide +kernel
theorem d_MO_shift_27 : decode b_MO_shift 27 = .ok (.invokevirtual 114, 3) := by decide +kernel
theorem d_MO_shift_30 : decode b_MO_shift 30 = .ok (.iconst 1, 1) := by decide +kernel
theorem d_MO_shift_31 : decode b_MO_shift 31 = .ok (.isub, 1) := by decide +kernel
theorem d_MO_shift_32 : decode b_MO_shift 32 = .ok (.invokevirtual 107, 3) := by decide +kernel
theorem d_MO_shift_35 : decode b_MO_shift 35 = .ok (.aload_n 0, 1) := by decide +kernel
theorem d_MO_shift_36 : decode b_MO_shift 36 = .ok (.getfield 47, 3) := by decide +kernel
theorem d_MO_shift_39 : decode b_MO_shift 39 = .ok (.iload_n 1, 1) := by decide +kernel
theorem d_MO_shift_40 : decode b_MO_shift 40 = .ok (.iaload, 1) := by decide +kernel
theorem d_MO_shift_41 : decode b_MO_shift 41 = .ok (.isub, 1) := by decide +kernel
theorem d_MO_shift_42 : decode b_MO_shift 42 = .ok (.istore_n 2, 1) := by decide +kernel
theorem d_MO_shift_43 : decode b_MO_shift 43 = .ok (.aload_n 0, 1) := by decide +kernel
theorem d_MO_shift_44 : decode b_MO_shift 44 = .ok (.getfield 41, 3) := by decide +kernel
theorem d_MO_shift_47 : decode b_MO_shift 47 = .ok (.iload_n 1, 1) := by decide +kernel
theorem d_MO_shift_48 : decode b_MO_shift 48 = .ok (.iaload, 1) := by decide +kernel
theorem d_MO_shift_49 : decode b_MO_shift 49 = .ok (.istore_n 3, 1) := by decide +kernel
theorem d_MO_shift_50 : decode b_MO_shift 50 = .ok (.iload_n 3, 1) := by decide +kernel
theorem d_MO_shift_51 : decode b_MO_shift 51 = .ok (.iload_n 2, 1) := by decide +kernel
theorem d_MO_shift_52 : decode b_MO_shift 52 = .ok (.iadd, 1) := by decide +kernel
theorem d_MO_shift_53 : decode b_MO_shift 53 = .ok (.aload_n 0, 1) := by decide +kernel
theorem d_MO_shift_54 : decode b_MO_shift 54 = .ok (.getfield 41, 3) := by decide +kernel
theorem d_MO_shift_57 : decode b_MO_shift 57 = .ok (.iload_n 1, 1) := by decide +kernel
theorem d_MO_shift_58 : decode b_MO_shift 58 = .ok (.iaload, 1) := by decide +kernel
theorem d_MO_shift_59 : decode b_MO_shift 59 = .ok (.iadd, 1) := by decide +kernel
theorem d_MO_shift_60 : decode b_MO_shift 60 = .ok (.aload_n 0, 1) := by decide +kernel
theorem d_MO_shift_61 : decode b_MO_shift 61 = .ok (.getfield 35, 3) := by decide +kernel
theorem d_MO_shift_64 : decode b_MO_shift 64 = .ok (.iload_n 1, 1) := by decide +kernel
theorem d_MO_shift_65 : decode b_MO_shift 65 = .ok (.iaload, 1) := by decide +kernel
theorem d_MO_shift_66 : decode b_MO_shift 66 = .ok (.if_icmp .gt (25), 3) := by decide +kernel
theorem d_MO_shift_69 : decode b_MO_shift 69 = .ok (.aload_n 0, 1) := by decide +kernel
theorem d_MO_shift_70 : decode b_MO_shift 70 = .ok (.iload_n 1, 1) := by decide +kernel
theorem d_MO_shift_71 : decode b_MO_shift 71 = .ok (.iload_n 3, 1) := by decide +kernel
theorem d_MO_shift_72 : decode b_MO_shift 72 = .ok (.aload_n 0, 1) := by decide +kernel
theorem d_MO_shift_73 : decode b_MO_shift 73 = .ok (.getfield 47, 3) := by decide +kernel
theorem d_MO_shift_76 : decode b_MO_shift 76 = .ok (.iload_n 1, 1) := by decide +kernel
theorem d_MO_shift_77 : decode b_MO_shift 77 = .ok (.iaload, 1) := by decide +kernel
theorem d_MO_shift_78 : decode b_MO_shift 78 = .ok (.isub, 1) := by decide +kernel
theorem d_MO_shift_79 : decode b_MO_shift 79 = .ok (.invokevirtual 134, 3) := by decide +kernel
theorem d_MO_shift_82 : decode b_MO_shift 82 = .ok (.ifCond .ne (9), 3) := by decide +kernel
theorem d_MO_shift_85 : decode b_MO_shift 85 = .ok (.iinc 3 1, 3) := by decide +kernel
theorem d_MO_shift_88 : decode b_MO_shift 88 = .ok (.goto (-38), 3) := by decide +kernel
theorem d_MO_shift_91 : decode b_MO_shift 91 = .ok (.aload_n 0, 1) := by decide +kernel
theorem d_MO_shift_92 : decode b_MO_shift 92 = .ok (.iconst 0, 1) := by decide +kernel
theorem d_MO_shift_93 : decode b_MO_shift 93 = .ok (.iload_n 3, 1) := by decide +kernel
theorem d_MO_shift_94 : decode b_MO_shift 94 = .ok (.iload_n 2, 1) := by decide +kernel
theorem d_MO_shift_95 : decode b_MO_shift 95 = .ok (.iadd, 1) := by decide +kernel
theorem d_MO_shift_96 : decode b_MO_shift 96 = .ok (.aload_n 0, 1) := by decide +kernel
theorem d_MO_shift_97 : decode b_MO_shift 97 = .ok (.getfield 41, 3) := by decide +kernel
theorem d_MO_shift_100 : decode b_MO_shift 100 = .ok (.iload_n 1, 1) := by decide +kernel
theorem d_MO_shift_101 : decode b_MO_shift 101 = .ok (.iaload, 1) := by decide +kernel
theorem d_MO_shift_102 : decode b_MO_shift 102 = .ok (.iadd, 1) := by decide +kernel
theorem d_MO_shift_103 : decode b_MO_shift 103 = .ok (.aload_n 0, 1) := by decide +kernel
theorem d_MO_shift_104 : decode b_MO_shift 104 = .ok (.getfield 35, 3) := by decide +kernel
theorem d_MO_shift_107 : decode b_MO_shift 107 = .ok (.iload_n 1, 1) := by decide +kernel
theorem d_MO_shift_108 : decode b_MO_shift 108 = .ok (.iaload, 1) := by decide +kernel
theorem d_MO_shift_109 : decode b_MO_shift 109 = .ok (.if_icmp .le (7), 3) := by decide +kernel
theorem d_MO_shift_112 : decode b_MO_shift 112 = .ok (.iconst 1, 1) := by decide +kernel
theorem d_MO_shift_113 : decode b_MO_shift 113 = .ok (.goto (4), 3) := by decide +kernel
theorem d_MO_shift_116 : decode b_MO_shift 116 = .ok (.iconst 0, 1) := by decide +kernel
theorem d_MO_shift_117 : decode b_MO_shift 117 = .ok (.invokevirtual 73, 3) := by decide +kernel
theorem d_MO_shift_120 : decode b_MO_shift 120 = .ok (.ifCond .eq (5), 3) := by decide +kernel
theorem d_MO_shift_123 : decode b_MO_shift 123 = .ok (.iconst 0, 1) := by decide +kernel
theorem d_MO_shift_124 : decode b_MO_shift 124 = .ok (.ireturn, 1) := by decide +kernel
theorem d_MO_shift_125 : decode b_MO_shift 125 = .ok (.aload_n 0, 1) := by decide +kernel
theorem d_MO_shift_126 : decode b_MO_shift 126 = .ok (.getfield 47, 3) := by decide +kernel
theorem d_MO_shift_129 : decode b_MO_shift 129 = .ok (.iload_n 1, 1) := by decide +kernel
theorem d_MO_shift_130 : decode b_MO_shift 130 = .ok (.iload_n 3, 1) := by decide +kernel
theorem d_MO_shift_131 : decode b_MO_shift 131 = .ok (.iastore, 1) := by decide +kernel
theorem d_MO_shift_132 : decode b_MO_shift 132 = .ok (.iload_n 3, 1) := by decide +kernel
theorem d_MO_shift_133 : decode b_MO_shift 133 = .ok (.ireturn, 1) := by decide +kernel
