/-! the reference's tables and rows -/
theorem zq_iff {P Q : Prop} [Decidable P] [Decidable Q] (h : P ↔ Q) : zq P = zq Q := by
  unfold zq
  by_cases c : P
  · rw [if_pos c, if_pos (h.mp c)]
  · rw [if_neg c, if_neg (fun z => c (h.mpr z))]
def tmS (q : Nat) : Nat := gmul (q / 16) (q % 16)
def cdS (q : Nat) : Nat := zcw (q / 12) (q % 12)
theorem tmS_at (a : Nat) {b : Nat} (hb : b < 16) : tmS (16 * a + b) = gmul a b := by
  unfold tmS
  rw [show (16 * a + b) / 16 = a from by omega, show (16 * a + b) % 16 = b from by omega]
theorem cdS_at (m : Nat) {j : Nat} (hj : j < 12) : cdS (12 * m + j) = zcw m j := by
  unfold cdS
  rw [show (12 * m + j) / 12 = m from by omega, show (12 * m + j) % 12 = j from by omega]
theorem popc_10 (x : Nat) (h : x < 1024) : popc x ≤ 10 := by unfold popc; omega
theorem dmin_99 {W : Nat → Nat} (h : popc (W 1) ≤ 10) : ∀ i, dmin W 99 (i + 2) = dmin W 10 (i + 2)
  | 0 => by
    show min (dmin W 99 1) (popc (W 1)) = min (dmin W 10 1) (popc (W 1))
    show min 99 (popc (W 1)) = min 10 (popc (W 1))
    omega
  | i + 1 => by
    show min (dmin W 99 (i + 2)) (popc (W (i + 2))) = min (dmin W 10 (i + 2)) (popc (W (i + 2)))
    rw [dmin_99 h i]
def gmin (W : Nat → Nat) (w : Nat) : Nat → Nat
  | 0 => 99
  | i + 1 => if popc (w ^^^ W i) < gmin W w i then popc (w ^^^ W i) else gmin W w i
def smin (W : Nat → Nat) (w s0 : Nat) : Nat → Nat
  | 0 => s0
  | i + 1 => if popc (w ^^^ W i) < gmin W w i then i else smin W w s0 i
theorem gmin_ok (W : Nat → Nat) (w s0 : Nat) : ∀ i, gmin W w (i + 1) = popc (w ^^^ W (sym W w i)) ∧ smin W w s0 (i + 1) = sym W w i
  | 0 => by
    have h := popc_le (w ^^^ W 0)
    have c : popc (w ^^^ W 0) < 99 := by omega
    exact ⟨if_pos c, if_pos c⟩
  | i + 1 => by
    obtain ⟨h1, h2⟩ := gmin_ok W w s0 i
    have e1 : gmin W w (i + 1 + 1) = if popc (w ^^^ W (i + 1)) < gmin W w (i + 1) then popc (w ^^^ W (i + 1)) else gmin W w (i + 1) := rfl
    have e2 : smin W w s0 (i + 1 + 1) = if popc (w ^^^ W (i + 1)) < gmin W w (i + 1) then i + 1 else smin W w s0 (i + 1) := rfl
    have e3 : sym W w (i + 1) = if popc (w ^^^ W (i + 1)) < popc (w ^^^ W (sym W w i)) then i + 1 else sym W w i := rfl
    rw [e1, e2, e3, h1, h2]
    by_cases c : popc (w ^^^ W (i + 1)) < popc (w ^^^ W (sym W w i))
    · rw [if_pos c, if_pos c]; exact ⟨rfl, rfl⟩
    · rw [if_neg c, if_neg c]; exact ⟨rfl, rfl⟩
theorem gmin_le (W : Nat → Nat) (w : Nat) : ∀ i, gmin W w i ≤ 99
  | 0 => Nat.le_refl 99
  | i + 1 => by
    have h1 := gmin_le W w i
    have h2 := popc_le (w ^^^ W i)
    unfold gmin
    split <;> omega
theorem zup_self (f : Nat → Nat) (k v : Nat) (h : f k = v) : f = va_up f k v := by
  funext q
  unfold va_up
  by_cases c : q = k
  · rw [if_pos c, c, h]
  · rw [if_neg c]
/-- the history's rows, all in one -/
def shf (i : Nat) (hf : Nat → Nat) (q : Nat) : Nat := if q < i then hf (q + 21) else hf q
theorem shf_0 (hf : Nat → Nat) : hf = shf 0 hf := funext fun q => (if_neg (Nat.not_lt_zero q)).symm
theorem shf_up (i : Nat) (hf : Nat → Nat) : va_up (shf i hf) i (hf (i + 21)) = shf (i + 1) hf := by
  funext q
  unfold va_up shf
  by_cases c : q = i
  · rw [if_pos c, if_pos (by omega), c]
  · rw [if_neg c]
    by_cases d : q < i
    · rw [if_pos d, if_pos (by omega)]
    · rw [if_neg d, if_neg (by omega)]
def cpf (N i : Nat) (σ hf : Nat → Nat) (q : Nat) : Nat := if 21 * N ≤ q ∧ q < 21 * N + i then σ (q - 21 * N) else hf q
theorem cpf_0 (N : Nat) (σ hf : Nat → Nat) : hf = cpf N 0 σ hf := funext fun q => (if_neg (by omega)).symm
theorem cpf_up (N i : Nat) (σ hf : Nat → Nat) : va_up (cpf N i σ hf) (21 * N + i) (σ i) = cpf N (i + 1) σ hf := by
  funext q
  unfold va_up cpf
  by_cases c : q = 21 * N + i
  · rw [if_pos c, if_pos (by omega), c, show 21 * N + i - 21 * N = i from by omega]
  · rw [if_neg c]
    by_cases d : 21 * N ≤ q ∧ q < 21 * N + i
    · rw [if_pos d, if_pos (by omega)]
    · rw [if_neg d, if_neg (by omega)]
def recF (hf : Nat → Nat) (hn : Nat) (σ : Nat → Nat) (q : Nat) : Nat := if hn = 6 then (if q < 105 then hf (q + 21) else σ (q - 105)) else cpf hn 21 σ hf q
theorem recF_6 {hf σ : Nat → Nat} {hn : Nat} (h : hn = 6) : ∀ j, j < 126 → nI (cpf 5 21 σ (shf 105 hf) j) = nI (recF hf hn σ j) := fun j hj => by
  unfold recF cpf shf
  rw [if_pos h]
  by_cases c : j < 105
  · rw [if_neg (by omega), if_pos c, if_pos c]
  · rw [if_pos (by omega), if_neg c]
theorem recF_n {hf σ : Nat → Nat} {hn : Nat} (h : ¬ hn = 6) : cpf hn 21 σ hf = recF hf hn σ := funext fun q => (if_neg h).symm
def emI (i : Nat) (σ : Nat → Nat) (q : Nat) : Nat := if 9 ≤ q ∧ q < 9 + i then 0 else σ q
theorem emI_0 (σ : Nat → Nat) : σ = emI 0 σ := funext fun q => (if_neg (by omega)).symm
theorem emI_up (i : Nat) (σ : Nat → Nat) : va_up (emI i σ) (9 + i) 0 = emI (i + 1) σ := by
  funext q
  unfold va_up emI
  by_cases c : q = 9 + i
  · rw [if_pos c, if_pos (by omega)]
  · rw [if_neg c]
    by_cases d : 9 ≤ q ∧ q < 9 + i
    · rw [if_pos d, if_pos (by omega)]
    · rw [if_neg d, if_neg (by omega)]
theorem emI_12 (σ : Nat → Nat) : va_up (va_up (emI 12 σ) 7 0) 8 0 = clr σ := by
  funext q
  unfold va_up emI clr
  by_cases c : q = 8
  · rw [if_pos c, if_pos (by omega)]
  · rw [if_neg c]
    by_cases d : q = 7
    · rw [if_pos d, if_pos (by omega)]
    · rw [if_neg d]
      by_cases e : 9 ≤ q ∧ q < 9 + 12
      · rw [if_pos e, if_pos (by omega)]
      · rw [if_neg e, if_neg (by omega)]
