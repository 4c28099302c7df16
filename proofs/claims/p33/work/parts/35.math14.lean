/-- what decoding has found among the first i messages -/
def foI (σ : Nat → Nat) (i : Nat) : Int32 := orI i (zfst (lawB σ) i) (-1004)
def deI (σ : Nat → Nat) (i : Nat) : Int32 := if zfst (lawB σ) i < i then orI (σ 0 - σ 1 + 1) (zfst (fun k9 => resB σ k9 (zfst (lawB σ) i)) (σ 0 - σ 1 + 1)) (-1004) else -1004
theorem foI_0 (σ : Nat → Nat) : -1004 = foI σ 0 := rfl
theorem deI_0 (σ : Nat → Nat) : -1004 = deI σ 0 := rfl
theorem foI_end (σ : Nat → Nat) : foI σ (nMs σ) = decodeV σ := by unfold foI decodeV lawM; rfl
theorem deI_end (σ : Nat → Nat) : deI σ (nMs σ) = decTV σ := by unfold deI decTV lawM; rfl
theorem zf_no {σ : Nat → Nat} {i : Nat} (h : lawB σ i = false) : (zfst (lawB σ) i < i → zfst (lawB σ) (i + 1) = zfst (lawB σ) i) ∧ (¬ zfst (lawB σ) i < i → zfst (lawB σ) (i + 1) = i + 1) := by
  constructor
  · intro d
    have hs := zfst_sp d
    exact zfst_at hs.2 hs.1 (by omega)
  · intro d
    apply zfst_no
    intro j hj
    by_cases f : j = i
    · rw [f]; exact h
    · by_cases g : lawB σ j = true
      · exfalso
        apply d
        have h1 : ∀ (n : Nat), j < n → zfst (lawB σ) n < n := fun n hn => by
          have h2 := zfst_le (lawB σ) n
          by_cases e : zfst (lawB σ) n < n
          · exact e
          · exfalso
            have h3 : ∀ n, (∀ x, x < n → lawB σ x = false) ∨ zfst (lawB σ) n < n := fun n => by
              induction n with
              | zero => exact Or.inl (fun x hx => absurd hx (Nat.not_lt_zero x))
              | succ n ih =>
                rcases ih with ih | ih
                · cases c : lawB σ n
                  · refine Or.inl (fun x hx => ?_)
                    by_cases k : x = n
                    · rw [k]; exact c
                    · exact ih x (by omega)
                  · exact Or.inr (by rw [zfst_at ih c (Nat.lt_succ_self n)]; exact Nat.lt_succ_self n)
                · have hs := zfst_sp ih
                  exact Or.inr (by rw [zfst_at hs.2 hs.1 (Nat.lt_succ_of_lt ih)]; exact Nat.lt_succ_of_lt ih)
            rcases h3 n with h4 | h4
            · rw [h4 j hn] at g; exact absurd g (by decide)
            · exact e h4
        exact h1 i (by omega)
      · exact bool_f g
theorem foI_no {σ : Nat → Nat} {i : Nat} (h : ¬ ((barS σ : Nat) : Int) < scS σ i) : foI σ i = foI σ (i + 1) := by
  have hz := zf_no (law_f h)
  unfold foI orI
  by_cases d : zfst (lawB σ) i < i
  · rw [if_pos d, hz.1 d, if_pos (by omega)]
  · rw [if_neg d, hz.2 d, if_neg (by omega)]
theorem deI_no {σ : Nat → Nat} {i : Nat} (h : ¬ ((barS σ : Nat) : Int) < scS σ i) : deI σ i = deI σ (i + 1) := by
  have hz := zf_no (law_f h)
  unfold deI
  by_cases d : zfst (lawB σ) i < i
  · rw [if_pos d, hz.1 d, if_pos (by omega)]
  · rw [if_neg d, hz.2 d, if_neg (by omega)]
theorem zfst_ex {p : Nat → Bool} {N s : Nat} (hs : s < N) (h : p s = true) : zfst p N < N := by
  have h3 : ∀ n, (∀ x, x < n → p x = false) ∨ zfst p n < n := fun n => by
    induction n with
    | zero => exact Or.inl (fun x hx => absurd hx (Nat.not_lt_zero x))
    | succ n ih =>
      rcases ih with ih | ih
      · cases c : p n
        · refine Or.inl (fun x hx => ?_)
          by_cases k : x = n
          · rw [k]; exact c
          · exact ih x (by omega)
        · exact Or.inr (by rw [zfst_at ih c (Nat.lt_succ_self n)]; exact Nat.lt_succ_self n)
      · have hs := zfst_sp ih
        exact Or.inr (by rw [zfst_at hs.2 hs.1 (Nat.lt_succ_of_lt ih)]; exact Nat.lt_succ_of_lt ih)
  rcases h3 N with h4 | h4
  · rw [h4 s hs] at h; exact absurd h (by decide)
  · exact h4
theorem tri_law {σ : Nat → Nat} (kσ : zWF σ) {i : Nat} (hi : i < nMs σ) (h : ((barS σ : Nat) : Int) < scS σ i) : ∃ s, s < σ 0 - σ 1 + 1 ∧ orI (σ 0 - σ 1 + 1) (zfst (fun k9 => resB σ k9 i) (σ 0 - σ 1 + 1)) (-1) = nI s ∧ nI s = deI σ (i + 1) ∧ nI i = foI σ (i + 1) ∧ deI σ i = -1004 := by
  have hL := law_t kσ h
  have hf := law_fst kσ hi hL
  have e1 : zfst (lawB σ) (i + 1) = i := zfst_at hf hL (by omega)
  have e0 : zfst (lawB σ) i = i := zfst_no hf
  obtain ⟨n3, n12, d1, d3, dn, b4, b10, gl, lm, sn, wl, wnz⟩ := kσ
  obtain ⟨s, h1, h2⟩ := forney d1 n12 h
  have h3 := zfst_ex (p := fun k9 => resB σ k9 i) h1 h2
  refine ⟨_, h3, if_pos h3, ?_, ?_, ?_⟩
  · unfold deI
    rw [e1, if_pos (by omega)]
    exact (if_pos h3).symm
  · unfold foI
    rw [e1]
    exact (if_pos (by omega)).symm
  · unfold deI
    rw [e0, if_neg (by omega)]
