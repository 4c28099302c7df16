def nrF (σ : Nat → Nat) (o m : Nat) : Nat := cnt (fun j => !(zcw m j == zcw o j)) (σ 0)
theorem nbI_le (f : Nat → Nat) (o : Nat) : ∀ i, (nbI f o i).1 ≤ 99 ∧ (nbI f o i).2 ≤ i
  | 0 => ⟨Nat.le_refl _, Nat.le_refl _⟩
  | i + 1 => by
    have h := nbI_le f o i
    show (if i ≠ o ∧ f i < (nbI f o i).1 then (f i, i) else nbI f o i).1 ≤ 99 ∧ (if i ≠ o ∧ f i < (nbI f o i).1 then (f i, i) else nbI f o i).2 ≤ i + 1
    by_cases c : i ≠ o ∧ f i < (nbI f o i).1
    · rw [if_pos c]; exact ⟨by show f i ≤ 99; omega, by show i ≤ i + 1; omega⟩
    · rw [if_neg c]; exact ⟨h.1, by omega⟩
theorem nb_yes {f : Nat → Nat} {o i : Nat} (h1 : i ≠ o) (h2 : f i < (nbI f o i).1) : nbI f o (i + 1) = (f i, i) := if_pos ⟨h1, h2⟩
theorem nb_no {f : Nat → Nat} {o i : Nat} (h : ¬ (i ≠ o ∧ f i < (nbI f o i).1)) : nbI f o (i + 1) = nbI f o i := if_neg h
theorem neB_iff {σ : Nat → Nat} (hn : σ 0 ≤ 12) (o q : Nat) : cnt (dcB σ o q) 12 = nrF σ o q := by
  rw [cnt_out (n := σ 0) hn (fun j hj => by unfold dcB; rw [decide_eq_false (by omega)]; rfl)]
  apply cnt_cong
  intro j hj
  show dcB σ o q j = !(zcw q j == zcw o j)
  unfold dcB
  rw [decide_eq_true hj, Bool.true_and]
  congr 1
  exact Bool.eq_iff_iff.mpr ⟨fun h => by rw [eq_of_beq h]; exact beq_self_eq_true _, fun h => by rw [eq_of_beq h]; exact beq_self_eq_true _⟩
theorem nb_end {σ : Nat → Nat} (kσ : zWF σ) {o : Nat} (ho : o < nMs σ) : nbI (nrF σ o) o (nMs σ) = (σ 0 - σ 1 + 1, zfst (neB σ o) (nMs σ)) ∧ zfst (neB σ o) (nMs σ) < nMs σ := by
  obtain ⟨n3, n12, d1, d3, dn, b4, b10, gl, lm, sn, wl, wnz⟩ := kσ
  have hlow : ∀ q, q < nMs σ → q ≠ o → σ 0 - σ 1 + 1 ≤ nrF σ o q := fun q hq hne => by
    have h1 := eq_few (n := σ 0) d1 d3 n12 hq ho hne
    have h2 := cnt_not (fun j => zcw q j == zcw o j) (σ 0)
    show σ 0 - σ 1 + 1 ≤ cnt (fun j => !(zcw q j == zcw o j)) (σ 0)
    omega
  obtain ⟨a, ha, hne, hc⟩ := near_ex (n := σ 0) d1 d3 dn n12 ho
  have hB : ∀ q, neB σ o q = decide (nrF σ o q = σ 0 - σ 1 + 1) := fun q => by unfold neB; rw [neB_iff n12]
  have hlt := zfst_ex (p := neB σ o) (N := nMs σ) ha (by rw [hB]; exact decide_eq_true hc)
  have hs := zfst_sp hlt
  have e : zfst (fun q => decide (q ≠ o ∧ nrF σ o q = σ 0 - σ 1 + 1)) (nMs σ) = zfst (neB σ o) (nMs σ) := by
    refine zfst_at (fun j hj => ?_) ?_ hlt
    · have h1 := hs.2 j hj
      rw [hB] at h1
      exact decide_eq_false (fun z => of_decide_eq_false h1 z.2)
    · have h1 := hs.1
      rw [hB] at h1
      have h2 := of_decide_eq_true h1
      refine decide_eq_true ⟨fun z => ?_, h2⟩
      rw [z] at h2
      unfold nrF at h2
      rw [cnt_zero (fun j _ => by show (!(zcw o j == zcw o j)) = false; rw [beq_self_eq_true]; rfl)] at h2
      omega
  have h3 := (nbI_ok (f := nrF σ o) (o := o) (d := σ 0 - σ 1 + 1) (by omega) (nMs σ) hlow).1 (by rw [e]; exact hlt)
  rw [e] at h3
  exact ⟨h3, hlt⟩
