theorem cpy5_eq (f g : Nat → Nat) : va_cpy (aN f) (aN g) (nI 0).toNatClampNeg (nI 0).toNatClampNeg (nI 5).toNatClampNeg = aN (cpy5 f g) := by
  have e0 : (nI 0).toNatClampNeg = 0 := by decide +kernel
  have e5 : (nI 5).toNatClampNeg = 5 := by decide +kernel
  rw [e0, e5]
  funext j
  by_cases h : j < 5
  · simp [va_cpy, aN, cpy5, h]
  · simp [va_cpy, aN, cpy5, h]
/-- the rest of a loop that counts down -/
def dn (f : Nat → PS → PS) (z : Int) (q : PS) : PS := if z < 0 then q else downP f z.toNat q
theorem dn_neg {f : Nat → PS → PS} {z : Int} {q : PS} (h : z < 0) : dn f z q = q := if_pos h
theorem dn_step {f : Nat → PS → PS} {z : Int} {q : PS} (h : 0 ≤ z) : dn f z q = dn f (z - 1) (f z.toNat q) := by
  unfold dn
  rw [if_neg (by omega)]
  obtain ⟨n, rfl⟩ : ∃ n : Nat, z = n := ⟨z.toNat, by omega⟩
  cases n with
  | zero => rw [if_pos (by omega)]; rfl
  | succ n =>
    rw [if_neg (by omega), show ((n + 1 : Nat) : Int) - 1 = (n : Int) by omega, Int.toNat_natCast, Int.toNat_natCast]
    rfl
def tcB (pi st pf : Nat → Nat) (room : Int) (most k w sum strips : Nat) : Nat → PS → PS := fun n q => if ((sum + n * pi w : Nat) : Int) ≤ room ∧ strips + n ≤ most then tcP pi st pf room most k (w + 1) (sum + n * pi w) (strips + n) (q.1, q.2.1, q.2.2.1, up q.2.2.2 w n) else q
theorem tcP_0 {pi st pf : Nat → Nat} {room : Int} {most w sum strips : Nat} {q : PS} : tcP pi st pf room most 0 w sum strips q = keepP sum strips q := by rw [tcP]
theorem tcP_cut {pi st pf : Nat → Nat} {room : Int} {most k w sum strips : Nat} {q : PS} (h : sum + pf w < q.1) : tcP pi st pf room most (k + 1) w sum strips q = q := by rw [tcP, if_pos h]
theorem tcP_S {pi st pf : Nat → Nat} {room : Int} {most k w sum strips : Nat} {q : PS} (h : ¬ sum + pf w < q.1) : tcP pi st pf room most (k + 1) w sum strips q = dn (tcB pi st pf room most k w sum strips) (st w : Int) q := by
  rw [tcP, if_neg h]
  unfold dn
  rw [if_neg (by omega), Int.toNat_natCast]
  rfl
theorem tcP_le {pi st pf : Nat → Nat} {room : Int} {most B M : Nat} (hr : room ≤ B) (hM : most ≤ M) : ∀ (k w sum strips : Nat) (q : PS), sum ≤ B → strips ≤ M → q.1 ≤ B → q.2.1 ≤ M → (tcP pi st pf room most k w sum strips q).1 ≤ B ∧ (tcP pi st pf room most k w sum strips q).2.1 ≤ M := by
  intro k
  induction k with
  | zero =>
    intro w sum strips q h1 h2 h3 h4
    rw [tcP]
    unfold keepP
    split
    · exact ⟨h1, h2⟩
    · exact ⟨h3, h4⟩
  | succ k ih =>
    intro w sum strips q h1 h2 h3 h4
    rw [tcP]
    split
    · exact ⟨h3, h4⟩
    · exact downP_ind (P := fun _ q => q.1 ≤ B ∧ q.2.1 ≤ M) (fun n q hq => by
        split
        · rename_i hif
          exact ih _ _ _ _ (by omega) (by omega) hq.1 hq.2
        · exact hq) _ _ ⟨h3, h4⟩
theorem keepP_eq {s n : Nat} {q : PS} (h : q.1 < s ∨ (s = q.1 ∧ n < q.2.1)) : keepP s n q = (s, n, cpy5 q.2.2.2 q.2.2.1, q.2.2.2) := if_pos h
theorem keepP_ne {s n : Nat} {q : PS} (h : ¬ (q.1 < s ∨ (s = q.1 ∧ n < q.2.1))) : keepP s n q = q := if_neg h
theorem d_PS_init_0 : decode b_PS_init 0 = .ok (.aload_n 0, 1) := by decide +kernel
theorem d_PS_init_1 : decode b_PS_init 1 = .ok (.invokespecial 3, 3) := by decide +kernel
theorem d_PS_init_4 : decode b_PS_init 4 = .ok (.aload_n 0, 1) := by decide +kernel
theorem d_PS_init_5 : decode b_PS_init 5 = .ok (.iconst 5, 1) := by decide +kernel
theorem d_PS_init_6 : decode b_PS_init 6 = .ok (.newarray .int, 2) := by decide +kernel
theorem d_PS_init_8 : decode b_PS_init 8 = .ok (.putfield 9, 3) := by decide +kernel
theorem d_PS_init_11 : decode b_PS_init 11 = .ok (.aload_n 0, 1) := by decide +kernel
theorem d_PS_init_12 : decode b_PS_init 12 = .ok (.iconst 0, 1) := by decide +kernel
theorem d_PS_init_13 : decode b_PS_init 13 = .ok (.putfield 15, 3) := by decide +kernel
theorem d_PS_init_16 : decode b_PS_init 16 = .ok (.aload_n 0, 1) := by decide +kernel
theorem d_PS_init_17 : decode b_PS_init 17 = .ok (.iconst 0, 1) := by decide +kernel
theorem d_PS_init_18 : decode b_PS_init 18 = .ok (.putfield 19, 3) := by decide +kernel
theorem d_PS_init_21 : decode b_PS_init 21 = .ok (.aload_n 0, 1) := by decide +kernel
theorem d_PS_init_22 : decode b_PS_init 22 = .ok (.iconst 0, 1) := by decide +kernel
theorem d_PS_init_23 : decode b_PS_init 23 = .ok (.putfield 22, 3) := by decide +kernel
theorem d_PS_init_26 : decode b_PS_init 26 = .ok (.aload_n 0, 1) := by decide +kernel
theorem d_PS_init_27 : decode b_PS_init 27 = .ok (.iconst 5, 1) := by decide +kernel
theorem d_PS_init_28 : decode b_PS_init 28 = .ok (.newarray .int, 2) := by decide +kernel
theorem d_PS_init_30 : decode b_PS_init 30 = .ok (.putfield 26, 3) := by decide +kernel
theorem d_PS_init_33 : decode b_PS_init 33 = .ok (.aload_n 0, 1) := by decide +kernel
theorem d_PS_init_34 : decode b_PS_init 34 = .ok (.bipush 6, 2) := by decide +kernel
theorem d_PS_init_36 : decode b_PS_init 36 = .ok (.newarray .int, 2) := by decide +kernel
theorem d_PS_init_38 : decode b_PS_init 38 = .ok (.putfield 29, 3) := by decide +kernel
theorem d_PS_init_41 : decode b_PS_init 41 = .ok (.aload_n 0, 1) := by decide +kernel
theorem d_PS_init_42 : decode b_PS_init 42 = .ok (.iconst 5, 1) := by decide +kernel
theorem d_PS_init_43 : decode b_PS_init 43 = .ok (.newarray .int, 2) := by decide +kernel
theorem d_PS_init_45 : decode b_PS_init 45 = .ok (.putfield 32, 3) := by decide +kernel
theorem d_PS_init_48 : decode b_PS_init 48 = .ok (.aload_n 0, 1) := by decide +kernel
theorem d_PS_init_49 : decode b_PS_init 49 = .ok (.iconst 0, 1) := by decide +kernel
theorem d_PS_init_50 : decode b_PS_init 50 = .ok (.putfield 35, 3) := by decide +kernel
theorem d_PS_init_53 : decode b_PS_init 53 = .ok (.aload_n 0, 1) := by decide +kernel
theorem d_PS_init_54 : decode b_PS_init 54 = .ok (.iconst 0, 1) := by decide +kernel
theorem d_PS_init_55 : decode b_PS_init 55 = .ok (.putfield 38, 3) := by decide +kernel
theorem d_PS_init_58 : decode b_PS_init 58 = .ok (.aload_n 0, 1) := by decide +kernel
theorem d_PS_init_59 : decode b_PS_init 59 = .ok (.iconst 0, 1) := by decide +kernel
theorem d_PS_init_60 : decode b_PS_init 60 = .ok (.putfield 41, 3) := by decide +kernel
theorem d_PS_init_63 : decode b_PS_init 63 = .ok (.return_, 1) := by decide +kernel
theorem d_PS_find_0 : decode b_PS_find 0 = .ok (.aload_n 0, 1) := by decide +kernel
theorem d_PS_find_1 : decode b_PS_find 1 = .ok (.getfield 22, 3) := by decide +kernel
theorem d_PS_find_4 : decode b_PS_find 4 = .ok (.ifCond .eq (4), 3) := by decide +kernel
theorem d_PS_find_7 : decode b_PS_find 7 = .ok (.return_, 1) := by decide +kernel
theorem d_PS_find_8 : decode b_PS_find 8 = .ok (.aload_n 0, 1) := by decide +kernel
theorem d_PS_find_9 : decode b_PS_find 9 = .ok (.getfield 9, 3) := by decide +kernel
theorem d_PS_find_12 : decode b_PS_find 12 = .ok (.iconst 0, 1) := by decide +kernel
theorem d_PS_find_13 : decode b_PS_find 13 = .ok (.invokestatic 44, 3) := by decide +kernel
theorem d_PS_find_16 : decode b_PS_find 16 = .ok (.aload_n 0, 1) := by decide +kernel
theorem d_PS_find_17 : decode b_PS_find 17 = .ok (.iconst 0, 1) := by decide +kernel
theorem d_PS_find_18 : decode b_PS_find 18 = .ok (.putfield 15, 3) := by decide +kernel
theorem d_PS_find_21 : decode b_PS_find 21 = .ok (.aload_n 0, 1) := by decide +kernel
theorem d_PS_find_22 : decode b_PS_find 22 = .ok (.iconst 0, 1) := by decide +kernel
theorem d_PS_find_23 : decode b_PS_find 23 = .ok (.putfield 41, 3) := by decide +kernel
theorem d_PS_find_26 : decode b_PS_find 26 = .ok (.aload_n 0, 1) := by decide +kernel
theorem d_PS_find_27 : decode b_PS_find 27 = .ok (.aload_n 1, 1) := by decide +kernel
theorem d_PS_find_28 : decode b_PS_find 28 = .ok (.getfield 50, 3) := by decide +kernel
theorem d_PS_find_31 : decode b_PS_find 31 = .ok (.iconst 2, 1) := by decide +kernel
theorem d_PS_find_32 : decode b_PS_find 32 = .ok (.aload_n 1, 1) := by decide +kernel
theorem d_PS_find_33 : decode b_PS_find 33 = .ok (.getfield 55, 3) := by decide +kernel
theorem d_PS_find_36 : decode b_PS_find 36 = .ok (.imul, 1) := by decide +kernel
theorem d_PS_find_37 : decode b_PS_find 37 = .ok (.isub, 1) := by decide +kernel
theorem d_PS_find_38 : decode b_PS_find 38 = .ok (.aload_n 1, 1) := by decide +kernel
theorem d_PS_find_39 : decode b_PS_find 39 = .ok (.getfield 58, 3) := by decide +kernel
theorem d_PS_find_42 : decode b_PS_find 42 = .ok (.iadd, 1) := by decide +kernel
theorem d_PS_find_43 : decode b_PS_find 43 = .ok (.putfield 35, 3) := by decide +kernel
theorem d_PS_find_46 : decode b_PS_find 46 = .ok (.aload_n 0, 1) := by decide +kernel
theorem d_PS_find_47 : decode b_PS_find 47 = .ok (.aload_n 1, 1) := by decide +kernel
theorem d_PS_find_48 : decode b_PS_find 48 = .ok (.getfield 61, 3) := by decide +kernel
theorem d_PS_find_51 : decode b_PS_find 51 = .ok (.iconst 1, 1) := by decide +kernel
theorem d_PS_find_52 : decode b_PS_find 52 = .ok (.isub, 1) := by decide +kernel
theorem d_PS_find_53 : decode b_PS_find 53 = .ok (.putfield 38, 3) := by decide +kernel
theorem d_PS_find_56 : decode b_PS_find 56 = .ok (.aload_n 0, 1) := by decide +kernel
theorem d_PS_find_57 : decode b_PS_find 57 = .ok (.aload_n 1, 1) := by decide +kernel
theorem d_PS_find_58 : decode b_PS_find 58 = .ok (.aload_n 2, 1) := by decide +kernel
theorem d_PS_find_59 : decode b_PS_find 59 = .ok (.invokevirtual 64, 3) := by decide +kernel
theorem d_PS_find_62 : decode b_PS_find 62 = .ok (.aload_n 0, 1) := by decide +kernel
theorem d_PS_find_63 : decode b_PS_find 63 = .ok (.aload_n 2, 1) := by decide +kernel
theorem d_PS_find_64 : decode b_PS_find 64 = .ok (.iconst 0, 1) := by decide +kernel
theorem d_PS_find_65 : decode b_PS_find 65 = .ok (.iconst 0, 1) := by decide +kernel
theorem d_PS_find_66 : decode b_PS_find 66 = .ok (.iconst 0, 1) := by decide +kernel
theorem d_PS_find_67 : decode b_PS_find 67 = .ok (.invokevirtual 68, 3) := by decide +kernel
theorem d_PS_find_70 : decode b_PS_find 70 = .ok (.aload_n 0, 1) := by decide +kernel
theorem d_PS_find_71 : decode b_PS_find 71 = .ok (.aload_n 0, 1) := by decide +kernel
theorem d_PS_find_72 : decode b_PS_find 72 = .ok (.getfield 15, 3) := by decide +kernel
theorem d_PS_find_75 : decode b_PS_find 75 = .ok (.ifCond .ne (7), 3) := by decide +kernel
theorem d_PS_find_78 : decode b_PS_find 78 = .ok (.iconst 0, 1) := by decide +kernel
theorem d_PS_find_79 : decode b_PS_find 79 = .ok (.goto (12), 3) := by decide +kernel
theorem d_PS_find_82 : decode b_PS_find 82 = .ok (.aload_n 0, 1) := by decide +kernel
theorem d_PS_find_83 : decode b_PS_find 83 = .ok (.getfield 41, 3) := by decide +kernel
theorem d_PS_find_86 : decode b_PS_find 86 = .ok (.aload_n 1, 1) := by decide +kernel
theorem d_PS_find_87 : decode b_PS_find 87 = .ok (.getfield 58, 3) := by decide +kernel
theorem d_PS_find_90 : decode b_PS_find 90 = .ok (.isub, 1) := by decide +kernel
theorem d_PS_find_91 : decode b_PS_find 91 = .ok (.putfield 19, 3) := by decide +kernel
theorem d_PS_find_94 : decode b_PS_find 94 = .ok (.aload_n 0, 1) := by decide +kernel
theorem d_PS_find_95 : decode b_PS_find 95 = .ok (.iconst 1, 1) := by decide +kernel
theorem d_PS_find_96 : decode b_PS_find 96 = .ok (.putfield 22, 3) := by decide +kernel
theorem d_PS_find_99 : decode b_PS_find 99 = .ok (.return_, 1) := by decide +kernel
theorem d_PS_measure_0 : decode b_PS_measure 0 = .ok (.aload_n 0, 1) := by decide +kernel
theorem d_PS_measure_1 : decode b_PS_measure 1 = .ok (.getfield 29, 3) := by decide +kernel
theorem d_PS_measure_4 : decode b_PS_measure 4 = .ok (.aload_n 2, 1) := by decide +kernel
theorem d_PS_measure_5 : decode b_PS_measure 5 = .ok (.getfield 72, 3) := by decide +kernel
theorem d_PS_measure_8 : decode b_PS_measure 8 = .ok (.iconst 0, 1) := by decide +kernel
theorem d_PS_measure_9 : decode b_PS_measure 9 = .ok (.iastore, 1) := by decide +kernel
theorem d_PS_measure_10 : decode b_PS_measure 10 = .ok (.aload_n 2, 1) := by decide +kernel
theorem d_PS_measure_11 : decode b_PS_measure 11 = .ok (.getfield 72, 3) := by decide +kernel
theorem d_PS_measure_14 : decode b_PS_measure 14 = .ok (.iconst 1, 1) := by decide +kernel
theorem d_PS_measure_15 : decode b_PS_measure 15 = .ok (.isub, 1) := by decide +kernel
theorem d_PS_measure_16 : decode b_PS_measure 16 = .ok (.istore_n 3, 1) := by decide +kernel
theorem d_PS_measure_17 : decode b_PS_measure 17 = .ok (.iload_n 3, 1) := by decide +kernel
theorem d_PS_measure_18 : decode b_PS_measure 18 = .ok (.ifCond .lt (54), 3) := by decide +kernel
theorem d_PS_measure_21 : decode b_PS_measure 21 = .ok (.aload_n 0, 1) := by decide +kernel
theorem d_PS_measure_22 : decode b_PS_measure 22 = .ok (.getfield 26, 3) := by decide +kernel
theorem d_PS_measure_25 : decode b_PS_measure 25 = .ok (.iload_n 3, 1) := by decide +kernel
theorem d_PS_measure_26 : decode b_PS_measure 26 = .ok (.aload_n 2, 1) := by decide +kernel
theorem d_PS_measure_27 : decode b_PS_measure 27 = .ok (.getfield 77, 3) := by decide +kernel
theorem d_PS_measure_30 : decode b_PS_measure 30 = .ok (.iload_n 3, 1) := by decide +kernel
theorem d_PS_measure_31 : decode b_PS_measure 31 = .ok (.iaload, 1) := by decide +kernel
theorem d_PS_measure_32 : decode b_PS_measure 32 = .ok (.aload_n 1, 1) := by decide +kernel
theorem d_PS_measure_33 : decode b_PS_measure 33 = .ok (.getfield 58, 3) := by decide +kernel
theorem d_PS_measure_36 : decode b_PS_measure 36 = .ok (.iadd, 1) := by decide +kernel
theorem d_PS_measure_37 : decode b_PS_measure 37 = .ok (.iastore, 1) := by decide +kernel
theorem d_PS_measure_38 : decode b_PS_measure 38 = .ok (.aload_n 0, 1) := by decide +kernel
theorem d_PS_measure_39 : decode b_PS_measure 39 = .ok (.getfield 29, 3) := by decide +kernel
theorem d_PS_measure_42 : decode b_PS_measure 42 = .ok (.iload_n 3, 1) := by decide +kernel
theorem d_PS_measure_43 : decode b_PS_measure 43 = .ok (.aload_n 0, 1) := by decide +kernel
theorem d_PS_measure_44 : decode b_PS_measure 44 = .ok (.getfield 29, 3) := by decide +kernel
theorem d_PS_measure_47 : decode b_PS_measure 47 = .ok (.iload_n 3, 1) := by decide +kernel
theorem d_PS_measure_48 : decode b_PS_measure 48 = .ok (.iconst 1, 1) := by decide +kernel
theorem d_PS_measure_49 : decode b_PS_measure 49 = .ok (.iadd, 1) := by decide +kernel
theorem d_PS_measure_50 : decode b_PS_measure 50 = .ok (.iaload, 1) := by decide +kernel
theorem d_PS_measure_51 : decode b_PS_measure 51 = .ok (.aload_n 2, 1) := by decide +kernel
theorem d_PS_measure_52 : decode b_PS_measure 52 = .ok (.getfield 80, 3) := by decide +kernel
theorem d_PS_measure_55 : decode b_PS_measure 55 = .ok (.iload_n 3, 1) := by decide +kernel
theorem d_PS_measure_56 : decode b_PS_measure 56 = .ok (.iaload, 1) := by decide +kernel
theorem d_PS_measure_57 : decode b_PS_measure 57 = .ok (.aload_n 0, 1) := by decide +kernel
theorem d_PS_measure_58 : decode b_PS_measure 58 = .ok (.getfield 26, 3) := by decide +kernel
theorem d_PS_measure_61 : decode b_PS_measure 61 = .ok (.iload_n 3, 1) := by decide +kernel
theorem d_PS_measure_62 : decode b_PS_measure 62 = .ok (.iaload, 1) := by decide +kernel
theorem d_PS_measure_63 : decode b_PS_measure 63 = .ok (.imul, 1) := by decide +kernel
theorem d_PS_measure_64 : decode b_PS_measure 64 = .ok (.iadd, 1) := by decide +kernel
theorem d_PS_measure_65 : decode b_PS_measure 65 = .ok (.iastore, 1) := by decide +kernel
theorem d_PS_measure_66 : decode b_PS_measure 66 = .ok (.iinc 3 (-1), 3) := by decide +kernel
theorem d_PS_measure_69 : decode b_PS_measure 69 = .ok (.goto (-52), 3) := by decide +kernel
theorem d_PS_measure_72 : decode b_PS_measure 72 = .ok (.return_, 1) := by decide +kernel
theorem d_PS_tryCounts_0 : decode b_PS_tryCounts 0 = .ok (.iload_n 2, 1) := by decide +kernel
theorem d_PS_tryCounts_1 : decode b_PS_tryCounts 1 = .ok (.aload_n 1, 1) := by decide +kernel
theorem d_PS_tryCounts_2 : decode b_PS_tryCounts 2 = .ok (.getfield 72, 3) := by decide +kernel
theorem d_PS_tryCounts_5 : decode b_PS_tryCounts 5 = .ok (.if_icmp .lt (11), 3) := by decide +kernel
theorem d_PS_tryCounts_8 : decode b_PS_tryCounts 8 = .ok (.aload_n 0, 1) := by decide +kernel
theorem d_PS_tryCounts_9 : decode b_PS_tryCounts 9 = .ok (.iload_n 3, 1) := by decide +kernel
theorem d_PS_tryCounts_10 : decode b_PS_tryCounts 10 = .ok (.iload 4, 2) := by decide +kernel
theorem d_PS_tryCounts_12 : decode b_PS_tryCounts 12 = .ok (.invokevirtual 83, 3) := by decide +kernel
theorem d_PS_tryCounts_15 : decode b_PS_tryCounts 15 = .ok (.return_, 1) := by decide +kernel
theorem d_PS_tryCounts_16 : decode b_PS_tryCounts 16 = .ok (.iload_n 3, 1) := by decide +kernel
theorem d_PS_tryCounts_17 : decode b_PS_tryCounts 17 = .ok (.aload_n 0, 1) := by decide +kernel
theorem d_PS_tryCounts_18 : decode b_PS_tryCounts 18 = .ok (.getfield 29, 3) := by decide +kernel
theorem d_PS_tryCounts_21 : decode b_PS_tryCounts 21 = .ok (.iload_n 2, 1) := by decide +kernel
theorem d_PS_tryCounts_22 : decode b_PS_tryCounts 22 = .ok (.iaload, 1) := by decide +kernel
theorem d_PS_tryCounts_23 : decode b_PS_tryCounts 23 = .ok (.iadd, 1) := by decide +kernel
theorem d_PS_tryCounts_24 : decode b_PS_tryCounts 24 = .ok (.aload_n 0, 1) := by decide +kernel
theorem d_PS_tryCounts_25 : decode b_PS_tryCounts 25 = .ok (.getfield 41, 3) := by decide +kernel
theorem d_PS_tryCounts_28 : decode b_PS_tryCounts 28 = .ok (.if_icmp .ge (4), 3) := by decide +kernel
theorem d_PS_tryCounts_31 : decode b_PS_tryCounts 31 = .ok (.return_, 1) := by decide +kernel
theorem d_PS_tryCounts_32 : decode b_PS_tryCounts 32 = .ok (.aload_n 1, 1) := by decide +kernel
theorem d_PS_tryCounts_33 : decode b_PS_tryCounts 33 = .ok (.getfield 80, 3) := by decide +kernel
theorem d_PS_tryCounts_36 : decode b_PS_tryCounts 36 = .ok (.iload_n 2, 1) := by decide +kernel
theorem d_PS_tryCounts_37 : decode b_PS_tryCounts 37 = .ok (.iaload, 1) := by decide +kernel
theorem d_PS_tryCounts_38 : decode b_PS_tryCounts 38 = .ok (.istore 5, 2) := by decide +kernel
theorem d_PS_tryCounts_40 : decode b_PS_tryCounts 40 = .ok (.iload 5, 2) := by decide +kernel
theorem d_PS_tryCounts_42 : decode b_PS_tryCounts 42 = .ok (.ifCond .lt (66), 3) := by decide +kernel
theorem d_PS_tryCounts_45 : decode b_PS_tryCounts 45 = .ok (.iload_n 3, 1) := by decide +kernel
theorem d_PS_tryCounts_46 : decode b_PS_tryCounts 46 = .ok (.iload 5, 2) := by decide +kernel
theorem d_PS_tryCounts_48 : decode b_PS_tryCounts 48 = .ok (.aload_n 0, 1) := by decide +kernel
theorem d_PS_tryCounts_49 : decode b_PS_tryCounts 49 = .ok (.getfield 26, 3) := by decide +kernel
theorem d_PS_tryCounts_52 : decode b_PS_tryCounts 52 = .ok (.iload_n 2, 1) := by decide +kernel
theorem d_PS_tryCounts_53 : decode b_PS_tryCounts 53 = .ok (.iaload, 1) := by decide +kernel
theorem d_PS_tryCounts_54 : decode b_PS_tryCounts 54 = .ok (.imul, 1) := by decide +kernel
theorem d_PS_tryCounts_55 : decode b_PS_tryCounts 55 = .ok (.iadd, 1) := by decide +kernel
theorem d_PS_tryCounts_56 : decode b_PS_tryCounts 56 = .ok (.istore 6, 2) := by decide +kernel
theorem d_PS_tryCounts_58 : decode b_PS_tryCounts 58 = .ok (.iload 6, 2) := by decide +kernel
theorem d_PS_tryCounts_60 : decode b_PS_tryCounts 60 = .ok (.aload_n 0, 1) := by decide +kernel
theorem d_PS_tryCounts_61 : decode b_PS_tryCounts 61 = .ok (.getfield 35, 3) := by decide +kernel
theorem d_PS_tryCounts_64 : decode b_PS_tryCounts 64 = .ok (.if_icmp .gt (38), 3) := by decide +kernel
theorem d_PS_tryCounts_67 : decode b_PS_tryCounts 67 = .ok (.iload 4, 2) := by decide +kernel
theorem d_PS_tryCounts_69 : decode b_PS_tryCounts 69 = .ok (.iload 5, 2) := by decide +kernel
theorem d_PS_tryCounts_71 : decode b_PS_tryCounts 71 = .ok (.iadd, 1) := by decide +kernel
theorem d_PS_tryCounts_72 : decode b_PS_tryCounts 72 = .ok (.aload_n 0, 1) := by decide +kernel
theorem d_PS_tryCounts_73 : decode b_PS_tryCounts 73 = .ok (.getfield 38, 3) := by decide +kernel
theorem d_PS_tryCounts_76 : decode b_PS_tryCounts 76 = .ok (.if_icmp .gt (26), 3) := by decide +kernel
theorem d_PS_tryCounts_79 : decode b_PS_tryCounts 79 = .ok (.aload_n 0, 1) := by decide +kernel
theorem d_PS_tryCounts_80 : decode b_PS_tryCounts 80 = .ok (.getfield 32, 3) := by decide +kernel
theorem d_PS_tryCounts_83 : decode b_PS_tryCounts 83 = .ok (.iload_n 2, 1) := by decide +kernel
theorem d_PS_tryCounts_84 : decode b_PS_tryCounts 84 = .ok (.iload 5, 2) := by decide +kernel
theorem d_PS_tryCounts_86 : decode b_PS_tryCounts 86 = .ok (.iastore, 1) := by decide +kernel
theorem d_PS_tryCounts_87 : decode b_PS_tryCounts 87 = .ok (.aload_n 0, 1) := by decide +kernel
theorem d_PS_tryCounts_88 : decode b_PS_tryCounts 88 = .ok (.aload_n 1, 1) := by decide +kernel
theorem d_PS_tryCounts_89 : decode b_PS_tryCounts 89 = .ok (.iload_n 2, 1) := by decide +kernel
theorem d_PS_tryCounts_90 : decode b_PS_tryCounts 90 = .ok (.iconst 1, 1) := by decide +kernel
theorem d_PS_tryCounts_91 : decode b_PS_tryCounts 91 = .ok (.iadd, 1) := by decide +kernel
theorem d_PS_tryCounts_92 : decode b_PS_tryCounts 92 = .ok (.iload 6, 2) := by decide +kernel
theorem d_PS_tryCounts_94 : decode b_PS_tryCounts 94 = .ok (.iload 4, 2) := by decide +kernel
theorem d_PS_tryCounts_96 : decode b_PS_tryCounts 96 = .ok (.iload 5, 2) := by decide +kernel
theorem d_PS_tryCounts_98 : decode b_PS_tryCounts 98 = .ok (.iadd, 1) := by decide +kernel
theorem d_PS_tryCounts_99 : decode b_PS_tryCounts 99 = .ok (.invokevirtual 68, 3) := by decide +kernel
theorem d_PS_tryCounts_102 : decode b_PS_tryCounts 102 = .ok (.iinc 5 (-1), 3) := by decide +kernel
theorem d_PS_tryCounts_105 : decode b_PS_tryCounts 105 = .ok (.goto (-65), 3) := by decide +kernel
theorem d_PS_tryCounts_108 : decode b_PS_tryCounts 108 = .ok (.return_, 1) := by decide +kernel
theorem d_PS_keepIfBetter_0 : decode b_PS_keepIfBetter 0 = .ok (.iload_n 1, 1) := by decide +kernel
theorem d_PS_keepIfBetter_1 : decode b_PS_keepIfBetter 1 = .ok (.aload_n 0, 1) := by decide +kernel
theorem d_PS_keepIfBetter_2 : decode b_PS_keepIfBetter 2 = .ok (.getfield 41, 3) := by decide +kernel
theorem d_PS_keepIfBetter_5 : decode b_PS_keepIfBetter 5 = .ok (.if_icmp .gt (19), 3) := by decide +kernel
theorem d_PS_keepIfBetter_8 : decode b_PS_keepIfBetter 8 = .ok (.iload_n 1, 1) := by decide +kernel
theorem d_PS_keepIfBetter_9 : decode b_PS_keepIfBetter 9 = .ok (.aload_n 0, 1) := by decide +kernel
theorem d_PS_keepIfBetter_10 : decode b_PS_keepIfBetter 10 = .ok (.getfield 41, 3) := by decide +kernel
theorem d_PS_keepIfBetter_13 : decode b_PS_keepIfBetter 13 = .ok (.if_icmp .ne (35), 3) := by decide +kernel
theorem d_PS_keepIfBetter_16 : decode b_PS_keepIfBetter 16 = .ok (.iload_n 2, 1) := by decide +kernel
theorem d_PS_keepIfBetter_17 : decode b_PS_keepIfBetter 17 = .ok (.aload_n 0, 1) := by decide +kernel
theorem d_PS_keepIfBetter_18 : decode b_PS_keepIfBetter 18 = .ok (.getfield 15, 3) := by decide +kernel
theorem d_PS_keepIfBetter_21 : decode b_PS_keepIfBetter 21 = .ok (.if_icmp .ge (27), 3) := by decide +kernel
theorem d_PS_keepIfBetter_24 : decode b_PS_keepIfBetter 24 = .ok (.aload_n 0, 1) := by decide +kernel
theorem d_PS_keepIfBetter_25 : decode b_PS_keepIfBetter 25 = .ok (.iload_n 1, 1) := by decide +kernel
theorem d_PS_keepIfBetter_26 : decode b_PS_keepIfBetter 26 = .ok (.putfield 41, 3) := by decide +kernel
theorem d_PS_keepIfBetter_29 : decode b_PS_keepIfBetter 29 = .ok (.aload_n 0, 1) := by decide +kernel
theorem d_PS_keepIfBetter_30 : decode b_PS_keepIfBetter 30 = .ok (.iload_n 2, 1) := by decide +kernel
theorem d_PS_keepIfBetter_31 : decode b_PS_keepIfBetter 31 = .ok (.putfield 15, 3) := by decide +kernel
theorem d_PS_keepIfBetter_34 : decode b_PS_keepIfBetter 34 = .ok (.aload_n 0, 1) := by decide +kernel
theorem d_PS_keepIfBetter_35 : decode b_PS_keepIfBetter 35 = .ok (.getfield 32, 3) := by decide +kernel
theorem d_PS_keepIfBetter_38 : decode b_PS_keepIfBetter 38 = .ok (.iconst 0, 1) := by decide +kernel
theorem d_PS_keepIfBetter_39 : decode b_PS_keepIfBetter 39 = .ok (.aload_n 0, 1) := by decide +kernel
theorem d_PS_keepIfBetter_40 : decode b_PS_keepIfBetter 40 = .ok (.getfield 9, 3) := by decide +kernel
theorem d_PS_keepIfBetter_43 : decode b_PS_keepIfBetter 43 = .ok (.iconst 0, 1) := by decide +kernel
theorem d_PS_keepIfBetter_44 : decode b_PS_keepIfBetter 44 = .ok (.iconst 5, 1) := by decide +kernel
theorem d_PS_keepIfBetter_45 : decode b_PS_keepIfBetter 45 = .ok (.invokestatic 87, 3) := by decide +kernel
theorem d_PS_keepIfBetter_48 : decode b_PS_keepIfBetter 48 = .ok (.return_, 1) := by decide +kernel
theorem d_AR_fill_0 : decode b_AR_fill 0 = .ok (.iconst 0, 1) := by decide +kernel
theorem d_AR_fill_1 : decode b_AR_fill 1 = .ok (.istore_n 2, 1) := by decide +kernel
theorem d_AR_fill_2 : decode b_AR_fill 2 = .ok (.aload_n 0, 1) := by decide +kernel
theorem d_AR_fill_3 : decode b_AR_fill 3 = .ok (.arraylength, 1) := by decide +kernel
theorem d_AR_fill_4 : decode b_AR_fill 4 = .ok (.istore_n 3, 1) := by decide +kernel
theorem d_AR_fill_5 : decode b_AR_fill 5 = .ok (.iload_n 2, 1) := by decide +kernel
theorem d_AR_fill_6 : decode b_AR_fill 6 = .ok (.iload_n 3, 1) := by decide +kernel
theorem d_AR_fill_7 : decode b_AR_fill 7 = .ok (.if_icmp .ge (13), 3) := by decide +kernel
theorem d_AR_fill_10 : decode b_AR_fill 10 = .ok (.aload_n 0, 1) := by decide +kernel
theorem d_AR_fill_11 : decode b_AR_fill 11 = .ok (.iload_n 2, 1) := by decide +kernel
theorem d_AR_fill_12 : decode b_AR_fill 12 = .ok (.iload_n 1, 1) := by decide +kernel
theorem d_AR_fill_13 : decode b_AR_fill 13 = .ok (.iastore, 1) := by decide +kernel
theorem d_AR_fill_14 : decode b_AR_fill 14 = .ok (.iinc 2 1, 3) := by decide +kernel
theorem d_AR_fill_17 : decode b_AR_fill 17 = .ok (.goto (-12), 3) := by decide +kernel
theorem d_AR_fill_20 : decode b_AR_fill 20 = .ok (.return_, 1) := by decide +kernel
