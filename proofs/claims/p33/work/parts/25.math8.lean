/-- a state with the same generators has the same inner code -/
theorem wd_same {σ τ : Nat → Nat} (h : ∀ i, i < 4 → τ (3 + i) = σ (3 + i)) : wdS τ = wdS σ := funext (wdS_cong h)
theorem dd_same {σ τ : Nat → Nat} (h : ∀ i, i < 4 → τ (3 + i) = σ (3 + i)) : ddS τ = ddS σ := by unfold ddS; rw [wd_same h]
theorem out_g (σ : Nat → Nat) (i k : Nat) : ∀ j, j < 4 → outS σ i k (3 + j) = σ (3 + j) := fun j hj => by
  unfold outS
  rw [clr_ne _ (by omega), zu_ne _ _ _ (by omega), zu_ne _ _ _ (by omega)]
theorem snd_g (σ : Nat → Nat) (m n : Nat) : ∀ j, j < 4 → sndI σ m n (3 + j) = σ (3 + j) := fun j hj => sndI_lo _ _ _ (by omega)
theorem flp_g (σ : Nat → Nat) (b mk : Nat) : ∀ j, j < 4 → flpS σ b mk (3 + j) = σ (3 + j) := fun j hj => flp_lo _ _ _ (by omega)
theorem los_g (σ : Nat → Nat) (b v : Nat) : ∀ j, j < 4 → losS σ b v (3 + j) = σ (3 + j) := fun j hj => zu_ne _ _ _ (by omega)
theorem bur_g (σ : Nat → Nat) (st en n : Nat) : ∀ j, j < 4 → burI σ st en n (3 + j) = σ (3 + j) := fun j hj => burI_out _ _ _ _ (by omega)
theorem cas_g (σ : Nat → Nat) (m n : Nat) : ∀ j, j < 4 → casI σ m n (3 + j) = σ (3 + j) := fun j hj => casI_out _ _ _ (by omega)
theorem popc_lost {σ : Nat → Nat} {n : Nat} (hn : n ≤ 12) (h : σ 7 < 2 ^ n) : popc (σ 7) = lostN σ n := by
  have e : popc (σ 7) = lostN σ 12 := by
    show popc (σ 7) = 0 + zL (σ 7) 0 + zL (σ 7) 1 + zL (σ 7) 2 + zL (σ 7) 3 + zL (σ 7) 4 + zL (σ 7) 5 + zL (σ 7) 6 + zL (σ 7) 7 + zL (σ 7) 8 + zL (σ 7) 9 + zL (σ 7) 10 + zL (σ 7) 11
    unfold popc zL
    simp
  rw [e]
  have hz : ∀ d, n + d ≤ 12 → lostN σ (n + d) = lostN σ n := fun d => by
    induction d with
    | zero => intro _; rfl
    | succ d ih =>
      intro hd
      have h0 : zL (σ 7) (n + d) = 0 := by
        unfold zL
        rw [Nat.div_eq_of_lt (Nat.lt_of_lt_of_le h (Nat.pow_le_pow_right (by decide) (by omega)))]
      show lostN σ (n + d) + zL (σ 7) (n + d) = _
      rw [h0, ih (by omega)]; rfl
  have := hz (12 - n) (by omega)
  rw [show n + (12 - n) = 12 from by omega] at this
  exact this
theorem z_m1 : (-1 : Int32) = nI 4294967295 := by decide
theorem los_and {L j : Nat} (hL : L < 4096) (hj : j < 12) : nI L &&& (nI (2 ^ j) ^^^ (-1)) = nI (losM L j 0) := by
  rw [z_m1, nx_xor, nx_and]
  apply congrArg
  have h1 : 2 ^ j < 2 ^ 12 := Nat.pow_lt_pow_right (by decide) hj
  apply pak_ext (b := 32) (Nat.lt_of_le_of_lt Nat.and_le_left (by omega)) (Nat.lt_trans (losM_lt hL hj) (by decide))
  intro i hi
  show _ = ((L ||| 2 ^ j) ^^^ 2 ^ j).testBit i
  rw [Nat.testBit_and, Nat.testBit_xor, Nat.testBit_xor, Nat.testBit_or, Nat.testBit_two_pow, show (4294967295 : Nat) = 2 ^ 32 - 1 from rfl, Nat.testBit_two_pow_sub_one]
  by_cases c : j = i
  · simp [c, hi]
  · simp [c, hi]
theorem los_or {L j v : Nat} (hv : v < 2) : losM L j 0 ||| v * 2 ^ j = losM L j v := by
  rcases (show v = 0 ∨ v = 1 by omega) with rfl | rfl
  · rw [Nat.zero_mul, Nat.or_zero]
  · rw [Nat.one_mul]
    show ((L ||| 2 ^ j) ^^^ 2 ^ j) ||| 2 ^ j = L ||| 2 ^ j
    apply Nat.eq_of_testBit_eq
    intro i
    rw [Nat.testBit_or, Nat.testBit_xor, Nat.testBit_or, Nat.testBit_two_pow]
    by_cases c : j = i
    · simp [c]
    · simp [c]
theorem fa_lost {σ : Nat → Nat} {j : Nat} (h : zL (σ 7) j = 0) : faS σ j = gpS σ (σ (9 + j)) := if_neg (by omega)
theorem sy_same {σ τ : Nat → Nat} (h : ∀ i, i < 4 → τ (3 + i) = σ (3 + i)) (w : Nat) : syS τ w = syS σ w := by unfold syS; rw [wd_same h]
theorem gp_same {σ τ : Nat → Nat} (h : ∀ i, i < 4 → τ (3 + i) = σ (3 + i)) (w : Nat) : gpS τ w = gpS σ w := by unfold gpS; rw [wd_same h, sy_same h]
theorem gpS_le (σ : Nat → Nat) (w : Nat) : gpS σ w ≤ 12 := popc_le _
theorem syS_lt (σ : Nat → Nat) (w : Nat) : syS σ w < 16 := by
  have := sym_le (wdS σ) w 15
  exact Nat.lt_of_le_of_lt this (by decide)
theorem zAreB {P : Prop} {a b : Bool} {x : Nat} (h : P ∧ a = true) : (b = true ∧ ¬ x = 0) ↔ (P ∧ a = true ∧ b = true ∧ (!(x == 0)) = true) := by
  have e : (!(x == 0)) = true ↔ ¬ x = 0 := by simp
  rw [e]
  exact ⟨fun z => ⟨h.1, h.2, z⟩, fun z => z.2.2⟩
