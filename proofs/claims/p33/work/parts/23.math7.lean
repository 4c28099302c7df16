def arJ (wt : Nat → Nat) (b : Nat) : Nat → Bool
  | 0 => true
  | i + 1 => arJ wt b i && decide (wt i < 2 ^ b)
def arI (wt : Nat → Nat) (b : Nat) : Nat → Bool
  | 0 => true
  | t + 1 => arI wt b t && (arJ wt b 4 && !(gw wt (t + 1) 4 == 0))
theorem arJ_iff (wt : Nat → Nat) (b : Nat) : ∀ i, arJ wt b i = true ↔ ∀ j, j < i → wt j < 2 ^ b
  | 0 => ⟨fun _ j hj => absurd hj (Nat.not_lt_zero j), fun _ => rfl⟩
  | i + 1 => by
    show (arJ wt b i && decide (wt i < 2 ^ b)) = true ↔ _
    rw [Bool.and_eq_true, arJ_iff wt b i, decide_eq_true_eq]
    constructor
    · intro ⟨h1, h2⟩ j hj
      by_cases c : j = i
      · rw [c]; exact h2
      · exact h1 j (by omega)
    · intro h
      exact ⟨fun j hj => h j (by omega), h i (by omega)⟩
theorem arI_iff (wt : Nat → Nat) (b : Nat) : ∀ t, arI wt b t = true ↔ ∀ s, 0 < s → s ≤ t → arJ wt b 4 = true ∧ ¬ gw wt s 4 = 0
  | 0 => ⟨fun _ s h1 h2 => absurd h1 (by omega), fun _ => rfl⟩
  | t + 1 => by
    show (arI wt b t && (arJ wt b 4 && !(gw wt (t + 1) 4 == 0))) = true ↔ _
    rw [Bool.and_eq_true, Bool.and_eq_true, arI_iff wt b t]
    have e : (!(gw wt (t + 1) 4 == 0)) = true ↔ ¬ gw wt (t + 1) 4 = 0 := by simp
    rw [e]
    constructor
    · intro ⟨h1, h2⟩ s h3 h4
      by_cases c : s = t + 1
      · rw [c]; exact h2
      · exact h1 s h3 (by omega)
    · intro h
      exact ⟨fun s h1 h2 => h s h1 (by omega), h (t + 1) (by omega) (by omega)⟩
theorem arI_gen (wt : Nat → Nat) (b : Nat) : arI wt b 15 = true ↔ genOk wt b = true := by
  rw [arI_iff, genOk_iff]
  constructor
  · intro h
    exact ⟨(arJ_iff wt b 4).mp (h 1 (by decide) (by decide)).1, fun s h1 h2 => (h s h1 (by omega)).2⟩
  · intro ⟨h1, h2⟩ s h3 h4
    exact ⟨(arJ_iff wt b 4).mpr h1, h2 s h3 (by omega)⟩
theorem arI_mono {wt : Nat → Nat} {b t : Nat} (ht : t ≤ 15) (h : arI wt b 15 = true) : arI wt b t = true := by
  rw [arI_iff] at h ⊢
  exact fun s h1 h2 => h s h1 (by omega)
theorem zmB_end (a b : Nat) (ha : a < 16) (hb : b < 16) : mlB (mlA a b 4) 3 = gmul a b := ml_ok ha hb
theorem dd_99 {σ : Nat → Nat} (h : zWF σ) : dmin (wdS σ) 99 16 = ddS σ := dmin_99 (popc_10 _ (zwd_1024 h 1)) 14
theorem gmin_16 (σ : Nat → Nat) (w : Nat) : gmin (wdS σ) w 16 = gpS σ w := (gmin_ok (wdS σ) w 0 15).1
theorem smin_16 (σ : Nat → Nat) (w s0 : Nat) : smin (wdS σ) w s0 16 = syS σ w := (gmin_ok (wdS σ) w s0 15).2
