/-! one block or one bit changed -/
abbrev zT6 : Type := (Nat → Nat) × (Nat → Nat) × (Nat → Nat) × (Nat → Nat) × Int32 × Int32
/-- what a decoding of σ leaves of the reference's rows -/
def jn (σ : Nat → Nat) (t : zT6) : zT6 := (ag0 σ t.1, ag1 σ t.2.1, ag2 σ t.2.2.1, insI (trS σ) t.2.2.2.1 (σ 0), decodeV σ, decTV σ)
def jbI (σ : Nat → Nat) (j : Nat) (t : zT6) : Nat → zT6
  | 0 => t
  | i + 1 => jn (flpS σ j (2 ^ i)) (jbI σ j t i)
def jbJ (σ : Nat → Nat) (t : zT6) : Nat → zT6
  | 0 => t
  | j + 1 => if zL (σ 7) j = 1 then jbJ σ t j else jbI σ j (jbJ σ t j) (σ 2)
def jkJ (σ : Nat → Nat) (t : zT6) : Nat → zT6
  | 0 => t
  | j + 1 => jn (losS σ j 1) (jkJ σ t j)
theorem jbJ_los {σ : Nat → Nat} {t : zT6} {j i : Nat} (h : zL (σ 7) j = 1) (hi : i = 0) : jbI σ j (jbJ σ t j) i = jbJ σ t (j + 1) := by
  rw [hi]
  show jbJ σ t j = _
  exact (if_pos h).symm
theorem jbJ_all {σ : Nat → Nat} {t : zT6} {j : Nat} (h : ¬ zL (σ 7) j = 1) : jbI σ j (jbJ σ t j) (σ 2) = jbJ σ t (j + 1) := (if_neg h).symm
theorem flp_flp (σ : Nat → Nat) (j mk : Nat) : flpS (flpS σ j mk) j mk = σ := by
  unfold flpS
  rw [zu_eq, Nat.xor_assoc, Nat.xor_self, Nat.xor_zero]
  funext q
  unfold va_up
  by_cases c : q = 9 + j
  · rw [if_pos c, c]
  · rw [if_neg c, if_neg c]
theorem scS_sm {σ : Nat → Nat} : ∀ n, n ≤ σ 0 → scC (difB σ (σ 8)) (trS σ) n = smI (ptS σ) n
  | 0, _ => rfl
  | n + 1, h => by
    show scC (difB σ (σ 8)) (trS σ) n + _ = smI (ptS σ) n + ptS σ n
    rw [scS_sm n (by omega), difB_in (by omega)]
    unfold ptS
    by_cases c : itS σ n = zcw (σ 8) n
    · rw [if_pos c, c, beq_self_eq_true, if_neg (by decide)]
    · rw [if_neg c, show (zcw (σ 8) n == itS σ n) = false from beq_false_of_ne (fun z => c z.symm), if_pos (by decide)]
theorem smI_chg {f g : Nat → Int} {n j : Nat} (hj : j < n) (h : ∀ i, i < n → i ≠ j → g i = f i) : smI g n = smI f n - f j + g j := by
  have e : smI g n = smI (fun i => f i + (g i - f i)) n := smI_cong (fun i _ => by omega)
  rw [e, smI_add, smI_one (f := fun i => g i - f i) hj (fun i hi hn => by have := h i hi hn; omega)]
  omega
theorem sc_chg {σ τ : Nat → Nat} {j : Nat} (h0 : τ 0 = σ 0) (hj : j < σ 0) (h : ∀ i, i < σ 0 → i ≠ j → ptS τ i = ptS σ i) : scS τ (τ 8) = scS σ (σ 8) - ptS σ j + ptS τ j := by
  unfold scS
  rw [scS_sm (τ 0) (Nat.le_refl _), scS_sm (σ 0) (Nat.le_refl _), h0]
  exact smI_chg hj h
theorem it_same {σ τ : Nat → Nat} (hg : ∀ i, i < 4 → τ (3 + i) = σ (3 + i)) {j : Nat} (h9 : τ (9 + j) = σ (9 + j)) (h7 : zL (τ 7) j = zL (σ 7) j) : itS τ j = itS σ j ∧ trS τ j = trS σ j := by
  unfold itS trS itC trC faC
  rw [wd_same hg, dd_same hg, h9, h7]
  exact ⟨rfl, rfl⟩
theorem sc_flp {σ : Nat → Nat} {j mk : Nat} (hj : j < σ 0) (hz : ¬ zL (σ 7) j = 1) : scS (flpS σ j mk) (flpS σ j mk 8) = scS σ (σ 8) - ptS σ j + ptW σ j (σ (9 + j) ^^^ mk) := by
  have h7 : flpS σ j mk 7 = σ 7 := flp_lo _ _ _ (by decide)
  have h8 : flpS σ j mk 8 = σ 8 := flp_lo _ _ _ (by decide)
  have hw : flpS σ j mk (9 + j) = σ (9 + j) ^^^ mk := zu_eq _ _ _
  have e : ptS (flpS σ j mk) j = ptW σ j (σ (9 + j) ^^^ mk) := by
    have e1 : itS (flpS σ j mk) j = syS σ (σ (9 + j) ^^^ mk) := by
      unfold itS itC
      rw [h7, if_neg hz, hw, wd_same (flp_g σ j mk)]
      rfl
    have e2 : trS (flpS σ j mk) j = relS σ (σ (9 + j) ^^^ mk) := by
      unfold trS trC faC
      rw [h7, if_neg hz, if_neg hz, hw, wd_same (flp_g σ j mk), dd_same (flp_g σ j mk)]
      rfl
    unfold ptS ptW
    rw [e1, e2, h8]
  rw [← e]
  refine sc_chg (flp_lo _ _ _ (by decide)) hj (fun i hi hn => ?_)
  have h9 := it_same (flp_g σ j mk) (j := i) (zu_ne _ _ _ (by omega)) (by rw [h7])
  unfold ptS
  rw [h9.1, h9.2, h8]
theorem sc_los {σ : Nat → Nat} {j : Nat} (hj : j < σ 0) : scS (losS σ j 1) (losS σ j 1 8) = scS σ (σ 8) - ptS σ j := by
  have h7 : losS σ j 1 7 = losM (σ 7) j 1 := zu_eq _ _ _
  have h8 : losS σ j 1 8 = σ 8 := zu_ne _ _ _ (by decide)
  have e : ptS (losS σ j 1) j = 0 := by
    have e2 : trS (losS σ j 1) j = 0 := by
      unfold trS trC
      rw [h7, zL_los (σ 7) (by decide), if_pos rfl, if_pos rfl]
    unfold ptS
    rw [e2]
    split <;> rfl
  have h := sc_chg (τ := losS σ j 1) (zu_ne _ _ _ (by decide)) hj (fun i hi hn => by
    have h9 := it_same (los_g σ j 1) (j := i) (zu_ne _ _ _ (by omega)) (by rw [h7, zL_los (σ 7) (by decide), if_neg hn])
    unfold ptS
    rw [h9.1, h9.2, h8])
  rw [h, e]
  omega
theorem bar_same {σ τ : Nat → Nat} (hg : ∀ i, i < 4 → τ (3 + i) = σ (3 + i)) (h0 : τ 0 = σ 0) (h1 : τ 1 = σ 1) : barS τ = barS σ := by
  unfold barS
  rw [dd_same hg, h0, h1]
theorem frb_y {σ : Nat → Nat} {j i : Nat} (hj : j < σ 0) (hz : ¬ zL (σ 7) j = 1) (h : ((barS (flpS σ j (2 ^ i)) : Nat) : Int) < scS (flpS σ j (2 ^ i)) (flpS σ j (2 ^ i) 8)) : 0 = b01 (frbP σ j i) := by
  rw [bar_same (flp_g σ j _) (flp_lo _ _ _ (by decide)) (flp_lo _ _ _ (by decide)), sc_flp hj hz] at h
  rw [show frbP σ j i = false from decide_eq_false (by omega)]; rfl
theorem frb_n {σ : Nat → Nat} {j i : Nat} (hj : j < σ 0) (hz : ¬ zL (σ 7) j = 1) (h : ¬ ((barS (flpS σ j (2 ^ i)) : Nat) : Int) < scS (flpS σ j (2 ^ i)) (flpS σ j (2 ^ i) 8)) : 1 = b01 (frbP σ j i) := by
  rw [bar_same (flp_g σ j _) (flp_lo _ _ _ (by decide)) (flp_lo _ _ _ (by decide)), sc_flp hj hz] at h
  rw [show frbP σ j i = true from decide_eq_true (by omega)]; rfl
def frkP (σ : Nat → Nat) (j : Nat) : Bool := decide (scS σ (σ 8) - ptS σ j ≤ ((barS σ : Nat) : Int))
theorem frk_y {σ : Nat → Nat} {j : Nat} (hj : j < σ 0) (h : ((barS (losS σ j 1) : Nat) : Int) < scS (losS σ j 1) (losS σ j 1 8)) : 0 = b01 (frkP σ j) := by
  rw [bar_same (los_g σ j _) (zu_ne _ _ _ (by decide)) (zu_ne _ _ _ (by decide)), sc_los hj] at h
  rw [show frkP σ j = false from decide_eq_false (by omega)]; rfl
theorem frk_n {σ : Nat → Nat} {j : Nat} (hj : j < σ 0) (h : ¬ ((barS (losS σ j 1) : Nat) : Int) < scS (losS σ j 1) (losS σ j 1 8)) : 1 = b01 (frkP σ j) := by
  rw [bar_same (los_g σ j _) (zu_ne _ _ _ (by decide)) (zu_ne _ _ _ (by decide)), sc_los hj] at h
  rw [show frkP σ j = true from decide_eq_true (by omega)]; rfl
theorem los_one (σ : Nat → Nat) (j x : Nat) : va_up (va_up σ 7 x) 7 (σ 7 ||| 2 ^ j) = losS σ j 1 := by
  unfold losS
  funext q
  unfold va_up
  by_cases c : q = 7
  · rw [if_pos c, if_pos c]; exact (if_pos rfl).symm
  · rw [if_neg c, if_neg c, if_neg c]
theorem los_back (σ : Nat → Nat) (x : Nat) : va_up (va_up σ 7 x) 7 (σ 7) = σ := by
  funext q
  unfold va_up
  by_cases c : q = 7
  · rw [if_pos c, c]
  · rw [if_neg c, if_neg c]
theorem sy_keep {σ τ sy : Nat → Nat} (hg : ∀ i, i < 4 → τ (3 + i) = σ (3 + i)) (h2 : τ 2 = σ 2) (h : ∀ w9, w9 < 2 ^ σ 2 → sy w9 = syS σ w9) : ∀ w9, w9 < 2 ^ τ 2 → sy w9 = syS τ w9 := fun w9 h9 => by
  rw [h2] at h9
  rw [sy_same hg]; exact h w9 h9
theorem gp_keep {σ τ gp : Nat → Nat} (hg : ∀ i, i < 4 → τ (3 + i) = σ (3 + i)) (h2 : τ 2 = σ 2) (h : ∀ w9, w9 < 2 ^ σ 2 → gp w9 = gpS σ w9) : ∀ w9, w9 < 2 ^ τ 2 → gp w9 = gpS τ w9 := fun w9 h9 => by
  rw [h2] at h9
  rw [gp_same hg]; exact h w9 h9
