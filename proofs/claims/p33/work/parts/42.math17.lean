/-- the least difference from o among the first i messages, and the first message that has it -/
def nbI (f : Nat → Nat) (o : Nat) : Nat → Nat × Nat
  | 0 => (99, 0)
  | i + 1 => if i ≠ o ∧ f i < (nbI f o i).1 then (f i, i) else nbI f o i
theorem nbI_ok {f : Nat → Nat} {o d : Nat} (hd : d < 99) : ∀ i, (∀ q, q < i → q ≠ o → d ≤ f q) → (zfst (fun q => decide (q ≠ o ∧ f q = d)) i < i → nbI f o i = (d, zfst (fun q => decide (q ≠ o ∧ f q = d)) i)) ∧ (¬ zfst (fun q => decide (q ≠ o ∧ f q = d)) i < i → d < (nbI f o i).1 ∧ ∀ q, q < i → decide (q ≠ o ∧ f q = d) = false)
  | 0, _ => ⟨fun h => absurd h (Nat.not_lt_zero _), fun _ => ⟨hd, fun q hq => absurd hq (Nat.not_lt_zero q)⟩⟩
  | i + 1, h => by
    obtain ⟨h1, h2⟩ := nbI_ok hd i (fun q hq => h q (by omega))
    have e : nbI f o (i + 1) = if i ≠ o ∧ f i < (nbI f o i).1 then (f i, i) else nbI f o i := rfl
    by_cases c : zfst (fun q => decide (q ≠ o ∧ f q = d)) i < i
    · have hs := zfst_sp c
      have ez : zfst (fun q => decide (q ≠ o ∧ f q = d)) (i + 1) = zfst (fun q => decide (q ≠ o ∧ f q = d)) i := zfst_at hs.2 hs.1 (by omega)
      have e1 := h1 c
      have e2 : nbI f o (i + 1) = nbI f o i := by
        rw [e, if_neg]
        intro z
        have h3 := h i (Nat.lt_succ_self i) z.1
        have h4 := z.2
        rw [e1] at h4
        exact absurd h4 (by show ¬ f i < d; omega)
      refine ⟨fun _ => by rw [e2, e1, ez], fun z => absurd (by rw [ez]; omega) z⟩
    · obtain ⟨h3, h4⟩ := h2 c
      by_cases g : i ≠ o ∧ f i = d
      · have ez : zfst (fun q => decide (q ≠ o ∧ f q = d)) (i + 1) = i := zfst_at h4 (decide_eq_true g) (by omega)
        refine ⟨fun _ => ?_, fun z => absurd (by rw [ez]; omega) z⟩
        rw [e, if_pos ⟨g.1, by rw [g.2]; exact h3⟩, ez, g.2]
      · have h5 : ∀ q, q < i + 1 → decide (q ≠ o ∧ f q = d) = false := fun q hq => by
          by_cases k : q = i
          · rw [k]; exact decide_eq_false g
          · exact h4 q (by omega)
        have ez : zfst (fun q => decide (q ≠ o ∧ f q = d)) (i + 1) = i + 1 := zfst_no h5
        refine ⟨fun z => absurd z (by rw [ez]; omega), fun _ => ⟨?_, h5⟩⟩
        rw [e]
        by_cases k : i ≠ o ∧ f i < (nbI f o i).1
        · rw [if_pos k]
          show d < f i
          have h6 := h i (Nat.lt_succ_self i) k.1
          by_cases w : f i = d
          · exact absurd ⟨k.1, w⟩ g
          · omega
        · rw [if_neg k]; exact h3
