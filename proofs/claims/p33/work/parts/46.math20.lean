/-! bursts, bit by bit -/
theorem xor_top {x r : Nat} (h : x < 2 ^ r) : x ^^^ 2 ^ r = 2 ^ r + x := by
  apply Nat.eq_of_testBit_eq
  intro i
  rw [Nat.testBit_xor, Nat.testBit_two_pow]
  by_cases c : i = r
  · subst c
    rw [Nat.testBit_two_pow_add_eq]; simp
  · by_cases d : i < r
    · rw [Nat.testBit_two_pow_add_gt d]
      simp [show ¬ r = i by omega]
    · have e2 : 2 ^ (r + 1) = 2 * 2 ^ r := by rw [Nat.pow_succ]; omega
      have e3 : 2 ^ (r + 1) ≤ 2 ^ i := Nat.pow_le_pow_right (by decide) (by omega)
      rw [Nat.testBit_lt_two_pow (show 2 ^ r + x < 2 ^ i by omega), Nat.testBit_lt_two_pow (show x < 2 ^ i by omega)]
      simp [show ¬ r = i by omega]
theorem bmask_ss (b j st : Nat) : bmask b j st st = 0 := by
  unfold bmask
  rw [if_neg (by omega)]
theorem bmask_up {b j st p : Nat} (hb : 0 < b) (hst : st ≤ p) : bmask b j st (p + 1) = bmask b j st p ^^^ (if j = p / b then 2 ^ (p % b) else 0) := by
  have hd := Nat.div_add_mod p b
  have hm := Nat.mod_lt p hb
  by_cases c : j = p / b
  · rw [if_pos c, c]
    generalize hq : b * (p / b) = q at hd
    generalize hr : p % b = r at hd hm
    unfold bmask
    rw [hq, show min (p - q) b = r by omega, show min (p + 1 - q) b = r + 1 by omega]
    rw [if_pos (by omega)]
    have e2 : 2 ^ (r + 1) = 2 * 2 ^ r := by rw [Nat.pow_succ]; omega
    by_cases d : st - q < r
    · have h1 : 2 ^ (st - q) ≤ 2 ^ r := Nat.pow_le_pow_right (by decide) (by omega)
      have h2 := Nat.two_pow_pos (st - q)
      rw [if_pos d, xor_top (by omega)]
      omega
    · rw [if_neg d, Nat.zero_xor, show st - q = r by omega]
      omega
  · rw [if_neg c, Nat.xor_zero]
    have h9 : b * j + b ≤ p ∨ p < b * j := by
      by_cases d : j < p / b
      · have := Nat.mul_le_mul_left b (show j + 1 ≤ p / b by omega)
        rw [Nat.mul_succ] at this
        omega
      · have := Nat.mul_le_mul_left b (show p / b + 1 ≤ j by omega)
        rw [Nat.mul_succ] at this
        omega
    unfold bmask
    generalize b * j = q at h9
    rcases h9 with h9 | h9
    · rw [show min (p - q) b = b by omega, show min (p + 1 - q) b = b by omega]
    · rw [if_neg (by omega), if_neg (by omega)]
theorem burP_0 (σ : Nat → Nat) (st n : Nat) : burI σ st st n = σ := funext fun q => by
  unfold burI
  rw [bmask_ss, Nat.xor_zero]
  exact ite_self _
theorem burP_up (σ : Nat → Nat) {st p n : Nat} (hb : 0 < σ 2) (hst : st ≤ p) (hp : p / σ 2 < n) : va_up (burI σ st p n) (9 + p / σ 2) (burI σ st p n (9 + p / σ 2) ^^^ 2 ^ (p % σ 2)) = burI σ st (p + 1) n := by
  funext q
  have hup := fun j => bmask_up (j := j) hb hst
  generalize p / σ 2 = u at hp hup ⊢
  unfold va_up
  by_cases c : q = 9 + u
  · rw [if_pos c, c]
    unfold burI
    rw [if_pos (by omega), if_pos (by omega), hup, if_pos (by omega), Nat.xor_assoc]
  · rw [if_neg c]
    unfold burI
    by_cases d : 9 ≤ q ∧ q < 9 + n
    · rw [if_pos d, if_pos d, hup, if_neg (by omega), Nat.xor_zero]
    · rw [if_neg d, if_neg d]
theorem bmask_iff {b j st en : Nat} (hb : 0 < b) (he : 1 ≤ en) : bmask b j st en ≠ 0 ↔ (st / b ≤ j ∧ j ≤ (en - 1) / b ∧ st < en) := by
  have h1 : st / b ≤ j ↔ st < b * j + b := by
    rw [← Nat.lt_succ_iff, Nat.div_lt_iff_lt_mul hb, Nat.succ_mul, Nat.mul_comm]
  have h2 : j ≤ (en - 1) / b ↔ b * j ≤ en - 1 := by
    rw [Nat.le_div_iff_mul_le hb, Nat.mul_comm]
  rw [h1, h2]
  unfold bmask
  generalize b * j = q
  by_cases c : st - q < min (en - q) b
  · rw [if_pos c]
    have h3 : 2 ^ (st - q) < 2 ^ min (en - q) b := Nat.pow_lt_pow_right (by decide) c
    constructor
    · intro _; omega
    · intro _; omega
  · rw [if_neg c]
    constructor
    · intro h; exact absurd rfl h
    · intro h; omega
theorem cnt_iv {a z : Nat} : ∀ n, cnt (fun j => decide (a ≤ j ∧ j ≤ z)) n = min n (z + 1) - min n a
  | 0 => by show 0 = _; omega
  | n + 1 => by
    show cnt _ n + b01 (decide (a ≤ n ∧ n ≤ z)) = _
    rw [cnt_iv n]
    by_cases c : a ≤ n ∧ n ≤ z
    · rw [show decide (a ≤ n ∧ n ≤ z) = true from decide_eq_true c]
      show _ + 1 = _
      omega
    · rw [show decide (a ≤ n ∧ n ≤ z) = false from decide_eq_false c]
      show _ + 0 = _
      omega
theorem bur_cnt {b st le n : Nat} (hb : 0 < b) (h1 : 1 ≤ le) (h2 : st + le ≤ b * n) : (st + le - 1) / b - st / b + 1 = cnt (fun j => !(bmask b j st (st + le) == 0)) n := by
  have e : cnt (fun j => !(bmask b j st (st + le) == 0)) n = cnt (fun j => decide (st / b ≤ j ∧ j ≤ (st + le - 1) / b)) n := cnt_cong (fun j _ => by
    have h3 := bmask_iff (b := b) (j := j) (st := st) (en := st + le) hb (by omega)
    show (!(bmask b j st (st + le) == 0)) = decide (st / b ≤ j ∧ j ≤ (st + le - 1) / b)
    by_cases c : bmask b j st (st + le) = 0
    · rw [decide_eq_false (fun z => h3.mpr ⟨z.1, z.2, by omega⟩ c), c]; rfl
    · obtain ⟨z1, z2, z3⟩ := h3.mp c
      rw [decide_eq_true ⟨z1, z2⟩, show (bmask b j st (st + le) == 0) = false from beq_false_of_ne c]; rfl)
  rw [e, cnt_iv]
  have h4 : st / b ≤ (st + le - 1) / b := Nat.div_le_div_right (by omega)
  have h5 : (st + le - 1) / b < n := by
    rw [Nat.div_lt_iff_lt_mul hb, Nat.mul_comm]; omega
  omega
