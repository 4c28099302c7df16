theorem right_iff {σ : Nat → Nat} (kσ : zWF σ) : (decodeV σ).toInt = ((σ 8 : Nat) : Int) ↔ ((barS σ : Nat) : Int) < scS σ (σ 8) := by
  have kw := kσ
  obtain ⟨n3, n12, d1, d3, dn, b4, b10, gl, lm, sn, wl, wnz⟩ := kw
  have hm : nMs σ ≤ 4096 := by
    have hk9 : σ 1 = 1 ∨ σ 1 = 2 ∨ σ 1 = 3 := by omega
    unfold nMs
    rcases hk9 with h | h | h <;> rw [h] <;> decide
  have sn9 : σ 8 < nMs σ := sn
  unfold decodeV orI
  by_cases d : lawM σ < nMs σ
  · rw [if_pos d, zt_n (by omega)]
    constructor
    · intro h
      have h1 : lawM σ = σ 8 := by omega
      rw [← h1]
      exact law_lt (zfst_sp d).1
    · intro h
      rw [law_one kσ d sn9 (zfst_sp d).1 (law_t kσ h)]
  · rw [if_neg d]
    constructor
    · intro h
      have h1 : (-1004 : Int32).toInt = -1004 := by decide
      rw [h1] at h
      omega
    · intro h
      exact absurd (zfst_ex sn9 (law_t kσ h)) d
theorem rot_ok9 {b w : Nat} (hb : 1 ≤ b) (hw : w < 2 ^ b) : (w * 2 ^ 1 &&& (2 ^ b - 1)) ||| w / 2 ^ (b - 1) = rotW b w := by
  unfold rotW
  have e : 2 ^ b = 2 * 2 ^ (b - 1) := by rw [← Nat.pow_succ', show (b - 1).succ = b by omega]
  have h1 : w / 2 ^ (b - 1) < 2 := Nat.div_lt_of_lt_mul (by omega)
  have h2 : w / 2 ^ (b - 1) < 2 ^ b := by
    have := Nat.two_pow_pos (b - 1)
    omega
  rw [Nat.and_or_distrib_right, Nat.and_two_pow_sub_one_eq_mod (w / 2 ^ (b - 1)), Nat.mod_eq_of_lt h2]
