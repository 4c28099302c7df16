/-- the trials that give nothing lawful, behind i messages -/
def waI (σ : Nat → Nat) (i : Nat) : Nat := if zfst (lawB σ) i < i then cnt (fun s => !resB σ s (zfst (lawB σ) i)) (σ 0 - σ 1 + 1) else σ 0 - σ 1 + 1
theorem waI_le (σ : Nat → Nat) (i : Nat) : waI σ i ≤ σ 0 - σ 1 + 1 := by
  unfold waI
  split
  · exact cnt_le _ _
  · exact Nat.le_refl _
theorem waI_0 (σ : Nat → Nat) : waI σ 0 = σ 0 - σ 1 + 1 := if_neg (by omega)
theorem waI_end (σ : Nat → Nat) : nI (waI σ (nMs σ)) = wastedV σ := by
  unfold waI wastedV lawM
  split <;> rfl
theorem waI_no {σ : Nat → Nat} {i : Nat} (h : ¬ ((barS σ : Nat) : Int) < scS σ i) : waI σ i = waI σ (i + 1) := by
  have hz := zf_no (law_f h)
  unfold waI
  by_cases d : zfst (lawB σ) i < i
  · rw [if_pos d, hz.1 d, if_pos (by omega)]
  · rw [if_neg d, hz.2 d, if_neg (by omega)]
theorem cnt_not (p : Nat → Bool) : ∀ n, cnt (fun s => !p s) n + cnt p n = n
  | 0 => rfl
  | n + 1 => by
    have ih := cnt_not p n
    show cnt (fun s => !p s) n + b01 (!p n) + (cnt p n + b01 (p n)) = n + 1
    cases p n
    · show _ + 1 + (_ + 0) = _; omega
    · show _ + 0 + (_ + 1) = _; omega
theorem waI_law {σ : Nat → Nat} (kσ : zWF σ) {i : Nat} (hi : i < nMs σ) (h : ((barS σ : Nat) : Int) < scS σ i) : waI σ i = σ 0 - σ 1 + 1 ∧ waI σ (i + 1) = σ 0 - σ 1 + 1 - cnt (fun s => resB σ s i) (σ 0 - σ 1 + 1) := by
  have hL := law_t kσ h
  have hf := law_fst kσ hi hL
  have h5 := cnt_not (fun s => resB σ s i) (σ 0 - σ 1 + 1)
  constructor
  · unfold waI; rw [zfst_no hf]; exact if_neg (by omega)
  · unfold waI; rw [zfst_at (n := i + 1) hf hL (by omega), if_pos (by omega)]
    omega
theorem b01_le (p : Bool) : b01 p ≤ 1 := by cases p <;> decide
