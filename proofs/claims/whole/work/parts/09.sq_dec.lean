/-! the order of set-ups: sets are numbers below 512 -/
def bit (S b : Nat) : Nat := S / 2 ^ b % 2
def clr (S b : Nat) : Nat := if S / 2 ^ b % 2 = 1 then S - 2 ^ b else S
def sto (S b : Nat) : Nat := if S / 2 ^ b % 2 = 1 then S else S + 2 ^ b
set_option maxRecDepth 100000 in
theorem bt_bit : ∀ S, S < 512 → ∀ b, b < 9 → (nI S >>> (nI b &&& 31)) &&& nI 1 = nI (bit S b) := by decide +kernel
set_option maxRecDepth 100000 in
theorem bt_clr : ∀ S, S < 512 → ∀ b, b < 9 → nI S &&& ((nI 1 <<< (nI b &&& 31)) ^^^ zI (-1)) = nI (clr S b) := by decide +kernel
set_option maxRecDepth 100000 in
theorem bt_sto : ∀ S, S < 512 → ∀ b, b < 9 → nI S ||| (nI 1 <<< (nI b &&& 31)) = nI (sto S b) := by decide +kernel
theorem bt_pow : ∀ b, b < 10 → nI 1 <<< (nI b &&& 31) = nI (2 ^ b) := by decide +kernel
theorem clr_le (S b : Nat) : clr S b ≤ S := by
  unfold clr
  split
  · exact Nat.sub_le _ _
  · exact Nat.le_refl _
theorem bit_01 (S b : Nat) : bit S b = 0 ∨ bit S b = 1 := by unfold bit; omega
/-- the moves from la (none: -1) to x -/
def stp (sp : Nat → Nat) (la : Int) (x : Nat) : Nat := if la = -1 then 0 else sp (la.toNat * 9 + x)
/-- the moves by way of x -/
def thr (sp fw : Nat → Nat) (S : Nat) (la : Int) (x : Nat) : Nat := stp sp la x + fw (clr S x * 9 + x)
/-- the lowest of the set below n by way of which the moves are fewest, or -1 -/
def LN (f : Nat → Nat) (S n : Nat) (lo : Int) : Prop := (lo = -1 ∧ ∀ y, y < n → bit S y = 0) ∨ (∃ x : Nat, lo = x ∧ x < n ∧ bit S x = 1 ∧ ∀ y, y < n → bit S y = 1 → f x ≤ f y ∧ (y < x → f x < f y))
def LNI (f : Nat → Nat) (S n : Nat) (lo : Int) (le : Nat) : Prop := (lo = -1 ∧ ∀ y, y < n → bit S y = 0) ∨ (∃ x : Nat, lo = x ∧ le = f x ∧ x < n ∧ bit S x = 1 ∧ ∀ y, y < n → bit S y = 1 → f x ≤ f y ∧ (y < x → f x < f y))
theorem LNI.ln {f : Nat → Nat} {S n : Nat} {lo : Int} {le : Nat} (h : LNI f S n lo le) : LN f S n lo := by
  rcases h with h | ⟨x, h1, -, h2⟩
  · exact Or.inl h
  · exact Or.inr ⟨x, h1, h2⟩
theorem LNI.init (f : Nat → Nat) (S : Nat) (le : Nat) : LNI f S 0 (-1) le := Or.inl ⟨rfl, fun _ h => by omega⟩
theorem LNI.range {f : Nat → Nat} {S n : Nat} {lo : Int} {le : Nat} (h : LNI f S n lo le) : -1 ≤ lo ∧ lo < n := by
  rcases h with ⟨h, _⟩ | ⟨x, h1, _, h2, _⟩ <;> omega
theorem LNI.skip {f : Nat → Nat} {S n : Nat} {lo : Int} {le : Nat} (h : LNI f S n lo le) (hb : bit S n = 0) : LNI f S (n + 1) lo le := by
  rcases h with ⟨h, h2⟩ | ⟨x, h1, h0, h2, h3, h4⟩
  · exact Or.inl ⟨h, lt_s h2 hb⟩
  · exact Or.inr ⟨x, h1, h0, by omega, h3, lt_s h4 (fun g => by omega)⟩
theorem LNI.keep {f : Nat → Nat} {S n : Nat} {lo : Int} {le : Nat} (h : LNI f S n lo le) (h1 : ¬ lo = -1) (h2 : le ≤ f n) : LNI f S (n + 1) lo le := by
  rcases h with ⟨h, _⟩ | ⟨x, g1, g0, g2, g3, g4⟩
  · exact absurd h h1
  · exact Or.inr ⟨x, g1, g0, by omega, g3, lt_s g4 (fun _ => ⟨by omega, fun g => by omega⟩)⟩
theorem LNI.take {f : Nat → Nat} {S n : Nat} {lo : Int} {le : Nat} (h : LNI f S n lo le) (hb : bit S n = 1) (h1 : lo = -1 ∨ f n < le) : LNI f S (n + 1) (n : Int) (f n) := by
  refine Or.inr ⟨n, rfl, rfl, by omega, hb, lt_s (fun y hy hb2 => ?_) (fun _ => ⟨Nat.le_refl _, fun g => by omega⟩)⟩
  rcases h with ⟨h, h2⟩ | ⟨x, g1, g0, g2, g3, g4⟩
  · have := h2 y hy
    omega
  · have := (g4 y hy hb2).1
    rcases h1 with h1 | h1 <;> omega
theorem d_SQ_init_0 : decode b_SQ_init 0 = .ok (.aload_n 0, 1) := by decide +kernel
theorem d_SQ_init_1 : decode b_SQ_init 1 = .ok (.invokespecial 3, 3) := by decide +kernel
theorem d_SQ_init_4 : decode b_SQ_init 4 = .ok (.aload_n 0, 1) := by decide +kernel
theorem d_SQ_init_5 : decode b_SQ_init 5 = .ok (.bipush 9, 2) := by decide +kernel
theorem d_SQ_init_7 : decode b_SQ_init 7 = .ok (.newarray .int, 2) := by decide +kernel
theorem d_SQ_init_9 : decode b_SQ_init 9 = .ok (.putfield 9, 3) := by decide +kernel
theorem d_SQ_init_12 : decode b_SQ_init 12 = .ok (.aload_n 0, 1) := by decide +kernel
theorem d_SQ_init_13 : decode b_SQ_init 13 = .ok (.iconst 0, 1) := by decide +kernel
theorem d_SQ_init_14 : decode b_SQ_init 14 = .ok (.putfield 15, 3) := by decide +kernel
theorem d_SQ_init_17 : decode b_SQ_init 17 = .ok (.aload_n 0, 1) := by decide +kernel
theorem d_SQ_init_18 : decode b_SQ_init 18 = .ok (.iconst 0, 1) := by decide +kernel
theorem d_SQ_init_19 : decode b_SQ_init 19 = .ok (.putfield 19, 3) := by decide +kernel
theorem d_SQ_init_22 : decode b_SQ_init 22 = .ok (.aload_n 0, 1) := by decide +kernel
theorem d_SQ_init_23 : decode b_SQ_init 23 = .ok (.bipush 81, 2) := by decide +kernel
theorem d_SQ_init_25 : decode b_SQ_init 25 = .ok (.newarray .int, 2) := by decide +kernel
theorem d_SQ_init_27 : decode b_SQ_init 27 = .ok (.putfield 23, 3) := by decide +kernel
theorem d_SQ_init_30 : decode b_SQ_init 30 = .ok (.aload_n 0, 1) := by decide +kernel
theorem d_SQ_init_31 : decode b_SQ_init 31 = .ok (.sipush 4608, 3) := by decide +kernel
theorem d_SQ_init_34 : decode b_SQ_init 34 = .ok (.newarray .int, 2) := by decide +kernel
theorem d_SQ_init_36 : decode b_SQ_init 36 = .ok (.putfield 26, 3) := by decide +kernel
theorem d_SQ_init_39 : decode b_SQ_init 39 = .ok (.return_, 1) := by decide +kernel
theorem d_SQ_find_0 : decode b_SQ_find 0 = .ok (.aload_n 0, 1) := by decide +kernel
theorem d_SQ_find_1 : decode b_SQ_find 1 = .ok (.getfield 19, 3) := by decide +kernel
theorem d_SQ_find_4 : decode b_SQ_find 4 = .ok (.ifCond .eq (4), 3) := by decide +kernel
theorem d_SQ_find_7 : decode b_SQ_find 7 = .ok (.return_, 1) := by decide +kernel
theorem d_SQ_find_8 : decode b_SQ_find 8 = .ok (.aload_n 0, 1) := by decide +kernel
theorem d_SQ_find_9 : decode b_SQ_find 9 = .ok (.aload_n 1, 1) := by decide +kernel
theorem d_SQ_find_10 : decode b_SQ_find 10 = .ok (.iload_n 2, 1) := by decide +kernel
theorem d_SQ_find_11 : decode b_SQ_find 11 = .ok (.invokevirtual 29, 3) := by decide +kernel
theorem d_SQ_find_14 : decode b_SQ_find 14 = .ok (.aload_n 0, 1) := by decide +kernel
theorem d_SQ_find_15 : decode b_SQ_find 15 = .ok (.iload_n 2, 1) := by decide +kernel
theorem d_SQ_find_16 : decode b_SQ_find 16 = .ok (.invokevirtual 33, 3) := by decide +kernel
theorem d_SQ_find_19 : decode b_SQ_find 19 = .ok (.aload_n 0, 1) := by decide +kernel
theorem d_SQ_find_20 : decode b_SQ_find 20 = .ok (.iload_n 2, 1) := by decide +kernel
theorem d_SQ_find_21 : decode b_SQ_find 21 = .ok (.invokevirtual 37, 3) := by decide +kernel
theorem d_SQ_find_24 : decode b_SQ_find 24 = .ok (.aload_n 0, 1) := by decide +kernel
theorem d_SQ_find_25 : decode b_SQ_find 25 = .ok (.iconst 1, 1) := by decide +kernel
theorem d_SQ_find_26 : decode b_SQ_find 26 = .ok (.putfield 19, 3) := by decide +kernel
theorem d_SQ_find_29 : decode b_SQ_find 29 = .ok (.return_, 1) := by decide +kernel
theorem d_SQ_measureSteps_0 : decode b_SQ_measureSteps 0 = .ok (.iconst 0, 1) := by decide +kernel
theorem d_SQ_measureSteps_1 : decode b_SQ_measureSteps 1 = .ok (.istore_n 3, 1) := by decide +kernel
theorem d_SQ_measureSteps_2 : decode b_SQ_measureSteps 2 = .ok (.iload_n 3, 1) := by decide +kernel
theorem d_SQ_measureSteps_3 : decode b_SQ_measureSteps 3 = .ok (.iload_n 2, 1) := by decide +kernel
theorem d_SQ_measureSteps_4 : decode b_SQ_measureSteps 4 = .ok (.if_icmp .ge (46), 3) := by decide +kernel
theorem d_SQ_measureSteps_7 : decode b_SQ_measureSteps 7 = .ok (.iconst 0, 1) := by decide +kernel
theorem d_SQ_measureSteps_8 : decode b_SQ_measureSteps 8 = .ok (.istore 4, 2) := by decide +kernel
theorem d_SQ_measureSteps_10 : decode b_SQ_measureSteps 10 = .ok (.iload 4, 2) := by decide +kernel
theorem d_SQ_measureSteps_12 : decode b_SQ_measureSteps 12 = .ok (.iload_n 2, 1) := by decide +kernel
theorem d_SQ_measureSteps_13 : decode b_SQ_measureSteps 13 = .ok (.if_icmp .ge (31), 3) := by decide +kernel
theorem d_SQ_measureSteps_16 : decode b_SQ_measureSteps 16 = .ok (.aload_n 0, 1) := by decide +kernel
theorem d_SQ_measureSteps_17 : decode b_SQ_measureSteps 17 = .ok (.getfield 23, 3) := by decide +kernel
theorem d_SQ_measureSteps_20 : decode b_SQ_measureSteps 20 = .ok (.iload_n 3, 1) := by decide +kernel
theorem d_SQ_measureSteps_21 : decode b_SQ_measureSteps 21 = .ok (.bipush 9, 2) := by decide +kernel
theorem d_SQ_measureSteps_23 : decode b_SQ_measureSteps 23 = .ok (.imul, 1) := by decide +kernel
theorem d_SQ_measureSteps_24 : decode b_SQ_measureSteps 24 = .ok (.iload 4, 2) := by decide +kernel
theorem d_SQ_measureSteps_26 : decode b_SQ_measureSteps 26 = .ok (.iadd, 1) := by decide +kernel
theorem d_SQ_measureSteps_27 : decode b_SQ_measureSteps 27 = .ok (.aload_n 1, 1) := by decide +kernel
theorem d_SQ_measureSteps_28 : decode b_SQ_measureSteps 28 = .ok (.iload 4, 2) := by decide +kernel
theorem d_SQ_measureSteps_30 : decode b_SQ_measureSteps 30 = .ok (.aaload, 1) := by decide +kernel
theorem d_SQ_measureSteps_31 : decode b_SQ_measureSteps 31 = .ok (.aload_n 1, 1) := by decide +kernel
theorem d_SQ_measureSteps_32 : decode b_SQ_measureSteps 32 = .ok (.iload_n 3, 1) := by decide +kernel
theorem d_SQ_measureSteps_33 : decode b_SQ_measureSteps 33 = .ok (.aaload, 1) := by decide +kernel
theorem d_SQ_measureSteps_34 : decode b_SQ_measureSteps 34 = .ok (.invokevirtual 40, 3) := by decide +kernel
theorem d_SQ_measureSteps_37 : decode b_SQ_measureSteps 37 = .ok (.iastore, 1) := by decide +kernel
theorem d_SQ_measureSteps_38 : decode b_SQ_measureSteps 38 = .ok (.iinc 4 1, 3) := by decide +kernel
theorem d_SQ_measureSteps_41 : decode b_SQ_measureSteps 41 = .ok (.goto (-31), 3) := by decide +kernel
theorem d_SQ_measureSteps_44 : decode b_SQ_measureSteps 44 = .ok (.iinc 3 1, 3) := by decide +kernel
theorem d_SQ_measureSteps_47 : decode b_SQ_measureSteps 47 = .ok (.goto (-45), 3) := by decide +kernel
theorem d_SQ_measureSteps_50 : decode b_SQ_measureSteps 50 = .ok (.return_, 1) := by decide +kernel
theorem d_SQ_measureSets_0 : decode b_SQ_measureSets 0 = .ok (.iconst 0, 1) := by decide +kernel
theorem d_SQ_measureSets_1 : decode b_SQ_measureSets 1 = .ok (.istore_n 2, 1) := by decide +kernel
theorem d_SQ_measureSets_2 : decode b_SQ_measureSets 2 = .ok (.iload_n 2, 1) := by decide +kernel
theorem d_SQ_measureSets_3 : decode b_SQ_measureSets 3 = .ok (.iconst 1, 1) := by decide +kernel
theorem d_SQ_measureSets_4 : decode b_SQ_measureSets 4 = .ok (.iload_n 1, 1) := by decide +kernel
theorem d_SQ_measureSets_5 : decode b_SQ_measureSets 5 = .ok (.ishl, 1) := by decide +kernel
theorem d_SQ_measureSets_6 : decode b_SQ_measureSets 6 = .ok (.if_icmp .ge (68), 3) := by decide +kernel
theorem d_SQ_measureSets_9 : decode b_SQ_measureSets 9 = .ok (.iconst 0, 1) := by decide +kernel
theorem d_SQ_measureSets_10 : decode b_SQ_measureSets 10 = .ok (.istore_n 3, 1) := by decide +kernel
theorem d_SQ_measureSets_11 : decode b_SQ_measureSets 11 = .ok (.iload_n 3, 1) := by decide +kernel
theorem d_SQ_measureSets_12 : decode b_SQ_measureSets 12 = .ok (.iload_n 1, 1) := by decide +kernel
theorem d_SQ_measureSets_13 : decode b_SQ_measureSets 13 = .ok (.if_icmp .ge (55), 3) := by decide +kernel
theorem d_SQ_measureSets_16 : decode b_SQ_measureSets 16 = .ok (.iload_n 2, 1) := by decide +kernel
theorem d_SQ_measureSets_17 : decode b_SQ_measureSets 17 = .ok (.iload_n 3, 1) := by decide +kernel
theorem d_SQ_measureSets_18 : decode b_SQ_measureSets 18 = .ok (.ishr, 1) := by decide +kernel
theorem d_SQ_measureSets_19 : decode b_SQ_measureSets 19 = .ok (.iconst 1, 1) := by decide +kernel
theorem d_SQ_measureSets_20 : decode b_SQ_measureSets 20 = .ok (.iand, 1) := by decide +kernel
theorem d_SQ_measureSets_21 : decode b_SQ_measureSets 21 = .ok (.ifCond .ne (41), 3) := by decide +kernel
theorem d_SQ_measureSets_24 : decode b_SQ_measureSets 24 = .ok (.aload_n 0, 1) := by decide +kernel
theorem d_SQ_measureSets_25 : decode b_SQ_measureSets 25 = .ok (.iload_n 2, 1) := by decide +kernel
theorem d_SQ_measureSets_26 : decode b_SQ_measureSets 26 = .ok (.iload_n 3, 1) := by decide +kernel
theorem d_SQ_measureSets_27 : decode b_SQ_measureSets 27 = .ok (.iload_n 1, 1) := by decide +kernel
theorem d_SQ_measureSets_28 : decode b_SQ_measureSets 28 = .ok (.invokevirtual 46, 3) := by decide +kernel
theorem d_SQ_measureSets_31 : decode b_SQ_measureSets 31 = .ok (.istore 4, 2) := by decide +kernel
theorem d_SQ_measureSets_33 : decode b_SQ_measureSets 33 = .ok (.aload_n 0, 1) := by decide +kernel
theorem d_SQ_measureSets_34 : decode b_SQ_measureSets 34 = .ok (.getfield 26, 3) := by decide +kernel
theorem d_SQ_measureSets_37 : decode b_SQ_measureSets 37 = .ok (.iload_n 2, 1) := by decide +kernel
theorem d_SQ_measureSets_38 : decode b_SQ_measureSets 38 = .ok (.bipush 9, 2) := by decide +kernel
theorem d_SQ_measureSets_40 : decode b_SQ_measureSets 40 = .ok (.imul, 1) := by decide +kernel
theorem d_SQ_measureSets_41 : decode b_SQ_measureSets 41 = .ok (.iload_n 3, 1) := by decide +kernel
theorem d_SQ_measureSets_42 : decode b_SQ_measureSets 42 = .ok (.iadd, 1) := by decide +kernel
theorem d_SQ_measureSets_43 : decode b_SQ_measureSets 43 = .ok (.iload 4, 2) := by decide +kernel
theorem d_SQ_measureSets_45 : decode b_SQ_measureSets 45 = .ok (.iconst (-1), 1) := by decide +kernel
theorem d_SQ_measureSets_46 : decode b_SQ_measureSets 46 = .ok (.if_icmp .ne (7), 3) := by decide +kernel
theorem d_SQ_measureSets_49 : decode b_SQ_measureSets 49 = .ok (.iconst 0, 1) := by decide +kernel
theorem d_SQ_measureSets_50 : decode b_SQ_measureSets 50 = .ok (.goto (11), 3) := by decide +kernel
theorem d_SQ_measureSets_53 : decode b_SQ_measureSets 53 = .ok (.aload_n 0, 1) := by decide +kernel
theorem d_SQ_measureSets_54 : decode b_SQ_measureSets 54 = .ok (.iload_n 2, 1) := by decide +kernel
theorem d_SQ_measureSets_55 : decode b_SQ_measureSets 55 = .ok (.iload_n 3, 1) := by decide +kernel
theorem d_SQ_measureSets_56 : decode b_SQ_measureSets 56 = .ok (.iload 4, 2) := by decide +kernel
theorem d_SQ_measureSets_58 : decode b_SQ_measureSets 58 = .ok (.invokevirtual 50, 3) := by decide +kernel
theorem d_SQ_measureSets_61 : decode b_SQ_measureSets 61 = .ok (.iastore, 1) := by decide +kernel
theorem d_SQ_measureSets_62 : decode b_SQ_measureSets 62 = .ok (.iinc 3 1, 3) := by decide +kernel
theorem d_SQ_measureSets_65 : decode b_SQ_measureSets 65 = .ok (.goto (-54), 3) := by decide +kernel
theorem d_SQ_measureSets_68 : decode b_SQ_measureSets 68 = .ok (.iinc 2 1, 3) := by decide +kernel
theorem d_SQ_measureSets_71 : decode b_SQ_measureSets 71 = .ok (.goto (-69), 3) := by decide +kernel
theorem d_SQ_measureSets_74 : decode b_SQ_measureSets 74 = .ok (.return_, 1) := by decide +kernel
theorem d_SQ_choose_0 : decode b_SQ_choose 0 = .ok (.aload_n 0, 1) := by decide +kernel
theorem d_SQ_choose_1 : decode b_SQ_choose 1 = .ok (.iconst 0, 1) := by decide +kernel
theorem d_SQ_choose_2 : decode b_SQ_choose 2 = .ok (.putfield 15, 3) := by decide +kernel
theorem d_SQ_choose_5 : decode b_SQ_choose 5 = .ok (.iconst 1, 1) := by decide +kernel
theorem d_SQ_choose_6 : decode b_SQ_choose 6 = .ok (.iload_n 1, 1) := by decide +kernel
theorem d_SQ_choose_7 : decode b_SQ_choose 7 = .ok (.ishl, 1) := by decide +kernel
theorem d_SQ_choose_8 : decode b_SQ_choose 8 = .ok (.iconst 1, 1) := by decide +kernel
theorem d_SQ_choose_9 : decode b_SQ_choose 9 = .ok (.isub, 1) := by decide +kernel
theorem d_SQ_choose_10 : decode b_SQ_choose 10 = .ok (.istore_n 2, 1) := by decide +kernel
theorem d_SQ_choose_11 : decode b_SQ_choose 11 = .ok (.iconst (-1), 1) := by decide +kernel
theorem d_SQ_choose_12 : decode b_SQ_choose 12 = .ok (.istore_n 3, 1) := by decide +kernel
theorem d_SQ_choose_13 : decode b_SQ_choose 13 = .ok (.iconst 0, 1) := by decide +kernel
theorem d_SQ_choose_14 : decode b_SQ_choose 14 = .ok (.istore 4, 2) := by decide +kernel
theorem d_SQ_choose_16 : decode b_SQ_choose 16 = .ok (.iload 4, 2) := by decide +kernel
theorem d_SQ_choose_18 : decode b_SQ_choose 18 = .ok (.iload_n 1, 1) := by decide +kernel
theorem d_SQ_choose_19 : decode b_SQ_choose 19 = .ok (.if_icmp .ge (62), 3) := by decide +kernel
theorem d_SQ_choose_22 : decode b_SQ_choose 22 = .ok (.aload_n 0, 1) := by decide +kernel
theorem d_SQ_choose_23 : decode b_SQ_choose 23 = .ok (.iload_n 2, 1) := by decide +kernel
theorem d_SQ_choose_24 : decode b_SQ_choose 24 = .ok (.iload_n 3, 1) := by decide +kernel
theorem d_SQ_choose_25 : decode b_SQ_choose 25 = .ok (.iload_n 1, 1) := by decide +kernel
theorem d_SQ_choose_26 : decode b_SQ_choose 26 = .ok (.invokevirtual 46, 3) := by decide +kernel
theorem d_SQ_choose_29 : decode b_SQ_choose 29 = .ok (.istore 5, 2) := by decide +kernel
theorem d_SQ_choose_31 : decode b_SQ_choose 31 = .ok (.iload 5, 2) := by decide +kernel
theorem d_SQ_choose_33 : decode b_SQ_choose 33 = .ok (.iconst (-1), 1) := by decide +kernel
theorem d_SQ_choose_34 : decode b_SQ_choose 34 = .ok (.if_icmp .ne (4), 3) := by decide +kernel
theorem d_SQ_choose_37 : decode b_SQ_choose 37 = .ok (.return_, 1) := by decide +kernel
theorem d_SQ_choose_38 : decode b_SQ_choose 38 = .ok (.aload_n 0, 1) := by decide +kernel
theorem d_SQ_choose_39 : decode b_SQ_choose 39 = .ok (.dup, 1) := by decide +kernel
theorem d_SQ_choose_40 : decode b_SQ_choose 40 = .ok (.getfield 15, 3) := by decide +kernel
theorem d_SQ_choose_43 : decode b_SQ_choose 43 = .ok (.aload_n 0, 1) := by decide +kernel
theorem d_SQ_choose_44 : decode b_SQ_choose 44 = .ok (.iload_n 3, 1) := by decide +kernel
theorem d_SQ_choose_45 : decode b_SQ_choose 45 = .ok (.iload 5, 2) := by decide +kernel
theorem d_SQ_choose_47 : decode b_SQ_choose 47 = .ok (.invokevirtual 53, 3) := by decide +kernel
theorem d_SQ_choose_50 : decode b_SQ_choose 50 = .ok (.iadd, 1) := by decide +kernel
theorem d_SQ_choose_51 : decode b_SQ_choose 51 = .ok (.putfield 15, 3) := by decide +kernel
theorem d_SQ_choose_54 : decode b_SQ_choose 54 = .ok (.aload_n 0, 1) := by decide +kernel
theorem d_SQ_choose_55 : decode b_SQ_choose 55 = .ok (.getfield 9, 3) := by decide +kernel
theorem d_SQ_choose_58 : decode b_SQ_choose 58 = .ok (.iload 4, 2) := by decide +kernel
theorem d_SQ_choose_60 : decode b_SQ_choose 60 = .ok (.iload 5, 2) := by decide +kernel
theorem d_SQ_choose_62 : decode b_SQ_choose 62 = .ok (.iastore, 1) := by decide +kernel
theorem d_SQ_choose_63 : decode b_SQ_choose 63 = .ok (.iload_n 2, 1) := by decide +kernel
theorem d_SQ_choose_64 : decode b_SQ_choose 64 = .ok (.iconst 1, 1) := by decide +kernel
theorem d_SQ_choose_65 : decode b_SQ_choose 65 = .ok (.iload 5, 2) := by decide +kernel
theorem d_SQ_choose_67 : decode b_SQ_choose 67 = .ok (.ishl, 1) := by decide +kernel
theorem d_SQ_choose_68 : decode b_SQ_choose 68 = .ok (.iconst (-1), 1) := by decide +kernel
theorem d_SQ_choose_69 : decode b_SQ_choose 69 = .ok (.ixor, 1) := by decide +kernel
theorem d_SQ_choose_70 : decode b_SQ_choose 70 = .ok (.iand, 1) := by decide +kernel
theorem d_SQ_choose_71 : decode b_SQ_choose 71 = .ok (.istore_n 2, 1) := by decide +kernel
theorem d_SQ_choose_72 : decode b_SQ_choose 72 = .ok (.iload 5, 2) := by decide +kernel
theorem d_SQ_choose_74 : decode b_SQ_choose 74 = .ok (.istore_n 3, 1) := by decide +kernel
theorem d_SQ_choose_75 : decode b_SQ_choose 75 = .ok (.iinc 4 1, 3) := by decide +kernel
theorem d_SQ_choose_78 : decode b_SQ_choose 78 = .ok (.goto (-62), 3) := by decide +kernel
theorem d_SQ_choose_81 : decode b_SQ_choose 81 = .ok (.return_, 1) := by decide +kernel
theorem d_SQ_lowestNext_0 : decode b_SQ_lowestNext 0 = .ok (.iconst (-1), 1) := by decide +kernel
theorem d_SQ_lowestNext_1 : decode b_SQ_lowestNext 1 = .ok (.istore 4, 2) := by decide +kernel
theorem d_SQ_lowestNext_3 : decode b_SQ_lowestNext 3 = .ok (.iconst 0, 1) := by decide +kernel
theorem d_SQ_lowestNext_4 : decode b_SQ_lowestNext 4 = .ok (.istore 5, 2) := by decide +kernel
theorem d_SQ_lowestNext_6 : decode b_SQ_lowestNext 6 = .ok (.iconst 0, 1) := by decide +kernel
theorem d_SQ_lowestNext_7 : decode b_SQ_lowestNext 7 = .ok (.istore 6, 2) := by decide +kernel
theorem d_SQ_lowestNext_9 : decode b_SQ_lowestNext 9 = .ok (.iload 6, 2) := by decide +kernel
theorem d_SQ_lowestNext_11 : decode b_SQ_lowestNext 11 = .ok (.iload_n 3, 1) := by decide +kernel
theorem d_SQ_lowestNext_12 : decode b_SQ_lowestNext 12 = .ok (.if_icmp .ge (49), 3) := by decide +kernel
theorem d_SQ_lowestNext_15 : decode b_SQ_lowestNext 15 = .ok (.iload_n 1, 1) := by decide +kernel
theorem d_SQ_lowestNext_16 : decode b_SQ_lowestNext 16 = .ok (.iload 6, 2) := by decide +kernel
theorem d_SQ_lowestNext_18 : decode b_SQ_lowestNext 18 = .ok (.ishr, 1) := by decide +kernel
theorem d_SQ_lowestNext_19 : decode b_SQ_lowestNext 19 = .ok (.iconst 1, 1) := by decide +kernel
theorem d_SQ_lowestNext_20 : decode b_SQ_lowestNext 20 = .ok (.iand, 1) := by decide +kernel
theorem d_SQ_lowestNext_21 : decode b_SQ_lowestNext 21 = .ok (.ifCond .eq (34), 3) := by decide +kernel
theorem d_SQ_lowestNext_24 : decode b_SQ_lowestNext 24 = .ok (.aload_n 0, 1) := by decide +kernel
theorem d_SQ_lowestNext_25 : decode b_SQ_lowestNext 25 = .ok (.iload_n 1, 1) := by decide +kernel
theorem d_SQ_lowestNext_26 : decode b_SQ_lowestNext 26 = .ok (.iload_n 2, 1) := by decide +kernel
theorem d_SQ_lowestNext_27 : decode b_SQ_lowestNext 27 = .ok (.iload 6, 2) := by decide +kernel
theorem d_SQ_lowestNext_29 : decode b_SQ_lowestNext 29 = .ok (.invokevirtual 50, 3) := by decide +kernel
theorem d_SQ_lowestNext_32 : decode b_SQ_lowestNext 32 = .ok (.istore 7, 2) := by decide +kernel
theorem d_SQ_lowestNext_34 : decode b_SQ_lowestNext 34 = .ok (.iload 4, 2) := by decide +kernel
theorem d_SQ_lowestNext_36 : decode b_SQ_lowestNext 36 = .ok (.iconst (-1), 1) := by decide +kernel
theorem d_SQ_lowestNext_37 : decode b_SQ_lowestNext 37 = .ok (.if_icmp .eq (10), 3) := by decide +kernel
theorem d_SQ_lowestNext_40 : decode b_SQ_lowestNext 40 = .ok (.iload 7, 2) := by decide +kernel
theorem d_SQ_lowestNext_42 : decode b_SQ_lowestNext 42 = .ok (.iload 5, 2) := by decide +kernel
theorem d_SQ_lowestNext_44 : decode b_SQ_lowestNext 44 = .ok (.if_icmp .ge (11), 3) := by decide +kernel
theorem d_SQ_lowestNext_47 : decode b_SQ_lowestNext 47 = .ok (.iload 6, 2) := by decide +kernel
theorem d_SQ_lowestNext_49 : decode b_SQ_lowestNext 49 = .ok (.istore 4, 2) := by decide +kernel
theorem d_SQ_lowestNext_51 : decode b_SQ_lowestNext 51 = .ok (.iload 7, 2) := by decide +kernel
theorem d_SQ_lowestNext_53 : decode b_SQ_lowestNext 53 = .ok (.istore 5, 2) := by decide +kernel
theorem d_SQ_lowestNext_55 : decode b_SQ_lowestNext 55 = .ok (.iinc 6 1, 3) := by decide +kernel
theorem d_SQ_lowestNext_58 : decode b_SQ_lowestNext 58 = .ok (.goto (-49), 3) := by decide +kernel
theorem d_SQ_lowestNext_61 : decode b_SQ_lowestNext 61 = .ok (.iload 4, 2) := by decide +kernel
theorem d_SQ_lowestNext_63 : decode b_SQ_lowestNext 63 = .ok (.ireturn, 1) := by decide +kernel
theorem d_SQ_through_0 : decode b_SQ_through 0 = .ok (.aload_n 0, 1) := by decide +kernel
theorem d_SQ_through_1 : decode b_SQ_through 1 = .ok (.iload_n 2, 1) := by decide +kernel
theorem d_SQ_through_2 : decode b_SQ_through 2 = .ok (.iload_n 3, 1) := by decide +kernel
theorem d_SQ_through_3 : decode b_SQ_through 3 = .ok (.invokevirtual 53, 3) := by decide +kernel
theorem d_SQ_through_6 : decode b_SQ_through 6 = .ok (.aload_n 0, 1) := by decide +kernel
theorem d_SQ_through_7 : decode b_SQ_through 7 = .ok (.getfield 26, 3) := by decide +kernel
theorem d_SQ_through_10 : decode b_SQ_through 10 = .ok (.iload_n 1, 1) := by decide +kernel
theorem d_SQ_through_11 : decode b_SQ_through 11 = .ok (.iconst 1, 1) := by decide +kernel
theorem d_SQ_through_12 : decode b_SQ_through 12 = .ok (.iload_n 3, 1) := by decide +kernel
theorem d_SQ_through_13 : decode b_SQ_through 13 = .ok (.ishl, 1) := by decide +kernel
theorem d_SQ_through_14 : decode b_SQ_through 14 = .ok (.iconst (-1), 1) := by decide +kernel
theorem d_SQ_through_15 : decode b_SQ_through 15 = .ok (.ixor, 1) := by decide +kernel
theorem d_SQ_through_16 : decode b_SQ_through 16 = .ok (.iand, 1) := by decide +kernel
theorem d_SQ_through_17 : decode b_SQ_through 17 = .ok (.bipush 9, 2) := by decide +kernel
theorem d_SQ_through_19 : decode b_SQ_through 19 = .ok (.imul, 1) := by decide +kernel
theorem d_SQ_through_20 : decode b_SQ_through 20 = .ok (.iload_n 3, 1) := by decide +kernel
theorem d_SQ_through_21 : decode b_SQ_through 21 = .ok (.iadd, 1) := by decide +kernel
theorem d_SQ_through_22 : decode b_SQ_through 22 = .ok (.iaload, 1) := by decide +kernel
theorem d_SQ_through_23 : decode b_SQ_through 23 = .ok (.iadd, 1) := by decide +kernel
theorem d_SQ_through_24 : decode b_SQ_through 24 = .ok (.ireturn, 1) := by decide +kernel
theorem d_SQ_step_0 : decode b_SQ_step 0 = .ok (.iload_n 1, 1) := by decide +kernel
theorem d_SQ_step_1 : decode b_SQ_step 1 = .ok (.iconst (-1), 1) := by decide +kernel
theorem d_SQ_step_2 : decode b_SQ_step 2 = .ok (.if_icmp .ne (7), 3) := by decide +kernel
theorem d_SQ_step_5 : decode b_SQ_step 5 = .ok (.iconst 0, 1) := by decide +kernel
theorem d_SQ_step_6 : decode b_SQ_step 6 = .ok (.goto (14), 3) := by decide +kernel
theorem d_SQ_step_9 : decode b_SQ_step 9 = .ok (.aload_n 0, 1) := by decide +kernel
theorem d_SQ_step_10 : decode b_SQ_step 10 = .ok (.getfield 23, 3) := by decide +kernel
theorem d_SQ_step_13 : decode b_SQ_step 13 = .ok (.iload_n 1, 1) := by decide +kernel
theorem d_SQ_step_14 : decode b_SQ_step 14 = .ok (.bipush 9, 2) := by decide +kernel
theorem d_SQ_step_16 : decode b_SQ_step 16 = .ok (.imul, 1) := by decide +kernel
theorem d_SQ_step_17 : decode b_SQ_step 17 = .ok (.iload_n 2, 1) := by decide +kernel
theorem d_SQ_step_18 : decode b_SQ_step 18 = .ok (.iadd, 1) := by decide +kernel
theorem d_SQ_step_19 : decode b_SQ_step 19 = .ok (.iaload, 1) := by decide +kernel
theorem d_SQ_step_20 : decode b_SQ_step 20 = .ok (.ireturn, 1) := by decide +kernel
