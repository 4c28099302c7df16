/-! the least number of bits to a word of another symbol -/
def snI (σ : Nat → Nat) (w0 : Nat) : Nat → Nat
  | 0 => 99
  | i + 1 => if ¬ syS σ i = syS σ w0 ∧ popc (i ^^^ w0) < snI σ w0 i then popc (i ^^^ w0) else snI σ w0 i
theorem snI_le (σ : Nat → Nat) (w0 : Nat) : ∀ i, snI σ w0 i ≤ 99
  | 0 => Nat.le_refl 99
  | i + 1 => by
    have := snI_le σ w0 i
    unfold snI
    split <;> omega
theorem snI_low (σ : Nat → Nat) (w0 : Nat) : ∀ i j, j < i → ¬ syS σ j = syS σ w0 → snI σ w0 i ≤ popc (j ^^^ w0)
  | 0, j, h, _ => absurd h (Nat.not_lt_zero j)
  | i + 1, j, h, hn => by
    unfold snI
    by_cases c : j = i
    · subst c
      by_cases d : popc (j ^^^ w0) < snI σ w0 j
      · rw [if_pos ⟨hn, d⟩]; exact Nat.le_refl _
      · rw [if_neg (fun z => d z.2)]; omega
    · have ih := snI_low σ w0 i j (by omega) hn
      split <;> omega
theorem snI_hit (σ : Nat → Nat) (w0 : Nat) : ∀ i, snI σ w0 i = 99 ∨ ∃ j, j < i ∧ ¬ syS σ j = syS σ w0 ∧ popc (j ^^^ w0) = snI σ w0 i
  | 0 => Or.inl rfl
  | i + 1 => by
    unfold snI
    by_cases c : ¬ syS σ i = syS σ w0 ∧ popc (i ^^^ w0) < snI σ w0 i
    · rw [if_pos c]
      exact Or.inr ⟨i, by omega, c.1, rfl⟩
    · rw [if_neg c]
      rcases snI_hit σ w0 i with h | ⟨j, h1, h2, h3⟩
      · exact Or.inl h
      · exact Or.inr ⟨j, by omega, h2, h3⟩
theorem stL_low (W : Nat → Nat) (w c g : Nat) : ∀ i j, j < i → ¬ j = c → stL W w c g i ≤ stN W w c g j
  | 0, j, h, _ => absurd h (Nat.not_lt_zero j)
  | i + 1, j, h, hn => by
    unfold stL
    by_cases d : j = i
    · subst d
      rw [if_neg hn]; exact Nat.min_le_right _ _
    · have ih := stL_low W w c g i j (by omega) hn
      split <;> omega
theorem stL_hit (W : Nat → Nat) (w c g : Nat) : ∀ i, stL W w c g i = 10 ∨ ∃ j, j < i ∧ ¬ j = c ∧ stN W w c g j = stL W w c g i
  | 0 => Or.inl rfl
  | i + 1 => by
    unfold stL
    have ih := stL_hit W w c g i
    by_cases d : i = c
    · rw [if_pos d]
      rcases ih with h | ⟨j, h1, h2, h3⟩
      · exact Or.inl h
      · exact Or.inr ⟨j, by omega, h2, h3⟩
    · rw [if_neg d]
      by_cases f : stN W w c g i ≤ stL W w c g i
      · exact Or.inr ⟨i, by omega, d, by omega⟩
      · rcases ih with h | ⟨j, h1, h2, h3⟩
        · exact Or.inl (by omega)
        · exact Or.inr ⟨j, by omega, h2, by omega⟩
theorem b01_dec (y : Nat) : b01 (decide (y % 2 = 1)) = y % 2 := by
  have := Nat.mod_lt y (show 0 < 2 by decide)
  by_cases c : y % 2 = 1
  · rw [decide_eq_true c, c]; rfl
  · rw [decide_eq_false c, show y % 2 = 0 by omega]; rfl
theorem popc_cnt (x : Nat) : popc x = cnt (fun i => x.testBit i) 12 := by
  simp only [cnt, Nat.testBit_eq_decide_div_mod_eq, b01_dec, Nat.reducePow, Nat.div_one, Nat.zero_add]
  rfl
theorem cnt_sum {p q r t : Nat → Bool} : ∀ {n : Nat}, (∀ i, i < n → b01 (p i) + b01 (q i) = b01 (r i) + b01 (t i)) → cnt p n + cnt q n = cnt r n + cnt t n
  | 0, _ => rfl
  | n + 1, h => by
    have h1 := cnt_sum (p := p) (q := q) (r := r) (t := t) (n := n) (fun i hi => h i (by omega))
    have h2 := h n (by omega)
    show cnt p n + b01 (p n) + (cnt q n + b01 (q n)) = cnt r n + b01 (r n) + (cnt t n + b01 (t n))
    omega
theorem cnt_add {p q r : Nat → Bool} : ∀ {n : Nat}, (∀ i, i < n → b01 (p i) ≤ b01 (q i) + b01 (r i)) → cnt p n ≤ cnt q n + cnt r n
  | 0, _ => Nat.le_refl 0
  | n + 1, h => by
    have h1 := cnt_add (p := p) (q := q) (r := r) (n := n) (fun i hi => h i (by omega))
    have h2 := h n (by omega)
    show cnt p n + b01 (p n) ≤ cnt q n + b01 (q n) + (cnt r n + b01 (r n))
    omega
theorem popc_tri (a b c : Nat) : popc (a ^^^ c) ≤ popc (a ^^^ b) + popc (b ^^^ c) := by
  rw [popc_cnt, popc_cnt, popc_cnt]
  apply cnt_add
  intro i _
  rw [Nat.testBit_xor, Nat.testBit_xor, Nat.testBit_xor]
  cases a.testBit i <;> cases b.testBit i <;> cases c.testBit i <;> decide
theorem cnt_ivt (p : Nat → Bool) : ∀ n k, k ≤ cnt p n → ∃ t, t ≤ n ∧ cnt p t = k
  | 0, k, h => ⟨0, Nat.le_refl 0, by have : k ≤ 0 := h; show 0 = k; omega⟩
  | n + 1, k, h => by
    by_cases c : k ≤ cnt p n
    · obtain ⟨t, h1, h2⟩ := cnt_ivt p n k c
      exact ⟨t, by omega, h2⟩
    · refine ⟨n + 1, Nat.le_refl _, ?_⟩
      have h9 : k ≤ cnt p n + b01 (p n) := h
      show cnt p n + b01 (p n) = k
      cases hp : p n
      · rw [hp] at h9
        have : k ≤ cnt p n + 0 := h9
        omega
      · rw [hp] at h9
        have : k ≤ cnt p n + 1 := h9
        show cnt p n + 1 = k
        omega
/-- from x, k of the bits in which s is ahead of c -/
theorem way_ex {b x s c k : Nat} (hx : x < 2 ^ b) (hs : s < 2 ^ b) (hk : k ≤ popc ((x ^^^ s) &&& (s ^^^ c))) :
    ∃ w, w < 2 ^ b ∧ popc (w ^^^ x) = k ∧ popc (w ^^^ s) + k = popc (x ^^^ s) ∧ popc (w ^^^ c) = popc (x ^^^ c) + k := by
  rw [popc_cnt] at hk
  obtain ⟨t, ht, e⟩ := cnt_ivt _ 12 k hk
  generalize hM : (x ^^^ s) &&& (s ^^^ c) = M at e
  have hMb : M < 2 ^ b := by rw [← hM]; exact Nat.lt_of_le_of_lt Nat.and_le_left (Nat.xor_lt_two_pow hx hs)
  have hu : popc (M % 2 ^ t) = k := by
    rw [popc_cnt, ← e]
    have h1 : ∀ j, t ≤ j → (M % 2 ^ t).testBit j = false := fun j hj => by
      rw [Nat.testBit_mod_two_pow, decide_eq_false (by omega)]; rfl
    rw [cnt_out (n := t) ht h1]
    apply cnt_cong
    intro j hj
    show (M % 2 ^ t).testBit j = M.testBit j
    rw [Nat.testBit_mod_two_pow, decide_eq_true hj]; rfl
  have hMi : ∀ i, M.testBit i = ((x.testBit i ^^ s.testBit i) && (s.testBit i ^^ c.testBit i)) := fun i => by
    rw [← hM, Nat.testBit_and, Nat.testBit_xor, Nat.testBit_xor]
  refine ⟨x ^^^ M % 2 ^ t, Nat.xor_lt_two_pow hx (Nat.lt_of_le_of_lt (Nat.mod_le _ _) hMb), ?_, ?_, ?_⟩
  · rw [Nat.xor_comm, ← Nat.xor_assoc, Nat.xor_self, Nat.zero_xor]; exact hu
  · have h9 : popc (x ^^^ M % 2 ^ t ^^^ s) + popc (M % 2 ^ t) = popc (x ^^^ s) + popc 0 := by
      rw [popc_cnt, popc_cnt, popc_cnt, popc_cnt]
      apply cnt_sum
      intro i _
      rw [Nat.testBit_xor, Nat.testBit_xor, Nat.testBit_xor, Nat.testBit_mod_two_pow, hMi, Nat.zero_testBit]
      cases decide (i < t) <;> cases x.testBit i <;> cases s.testBit i <;> cases c.testBit i <;> decide
    rw [hu, popc_0] at h9; exact h9
  · have h9 : popc (x ^^^ M % 2 ^ t ^^^ c) + popc 0 = popc (x ^^^ c) + popc (M % 2 ^ t) := by
      rw [popc_cnt, popc_cnt, popc_cnt, popc_cnt]
      apply cnt_sum
      intro i _
      rw [Nat.testBit_xor, Nat.testBit_xor, Nat.testBit_xor, Nat.testBit_mod_two_pow, hMi, Nat.zero_testBit]
      cases decide (i < t) <;> cases x.testBit i <;> cases s.testBit i <;> cases c.testBit i <;> decide
    rw [hu, popc_0] at h9; exact h9
/-- how many bits there are in which s is ahead -/
theorem way_cnt (x s c : Nat) : popc (x ^^^ s) + popc ((x ^^^ c) &&& (s ^^^ c)) = popc (x ^^^ c) + popc ((x ^^^ s) &&& (s ^^^ c)) := by
  rw [popc_cnt, popc_cnt, popc_cnt, popc_cnt]
  apply cnt_sum
  intro i _
  rw [Nat.testBit_and, Nat.testBit_and, Nat.testBit_xor, Nat.testBit_xor, Nat.testBit_xor]
  cases x.testBit i <;> cases s.testBit i <;> cases c.testBit i <;> decide
theorem way_two (x s c : Nat) : popc ((x ^^^ s) &&& (s ^^^ c)) + popc ((x ^^^ c) &&& (s ^^^ c)) = popc (s ^^^ c) + popc 0 := by
  rw [popc_cnt, popc_cnt, popc_cnt, popc_cnt]
  apply cnt_sum
  intro i _
  rw [Nat.testBit_and, Nat.testBit_and, Nat.testBit_xor, Nat.testBit_xor, Nat.testBit_xor, Nat.zero_testBit]
  cases x.testBit i <;> cases s.testBit i <;> cases c.testBit i <;> decide
theorem gw_xor (g : Nat → Nat) (a b : Nat) : ∀ i, gw g (a ^^^ b) i = gw g a i ^^^ gw g b i
  | 0 => (Nat.xor_self 0).symm
  | i + 1 => by
    show gw g (a ^^^ b) i ^^^ _ = (gw g a i ^^^ _) ^^^ (gw g b i ^^^ _)
    rw [gw_xor g a b i]
    have e : (if (a ^^^ b) / 2 ^ i % 2 = 1 then g i else 0) = (if a / 2 ^ i % 2 = 1 then g i else 0) ^^^ (if b / 2 ^ i % 2 = 1 then g i else 0) := by
      have h := Nat.testBit_xor a b i
      rw [Nat.testBit_eq_decide_div_mod_eq, Nat.testBit_eq_decide_div_mod_eq, Nat.testBit_eq_decide_div_mod_eq] at h
      by_cases ca : a / 2 ^ i % 2 = 1 <;> by_cases cb : b / 2 ^ i % 2 = 1 <;> simp [ca, cb] at h <;> simp [ca, cb, h]
    rw [e]
    ac_rfl
theorem popc_pos : ∀ {x : Nat}, x < 1024 → ¬ x = 0 → 0 < popc x := fun {x} h h0 => by
  have h := popc_step x (by omega) h0
  omega
theorem sym_str (W : Nat → Nat) (w : Nat) : ∀ i j, j < sym W w i → popc (w ^^^ W (sym W w i)) < popc (w ^^^ W j)
  | 0, j, h => absurd h (Nat.not_lt_zero j)
  | i + 1, j, h => by
    have e : sym W w (i + 1) = if popc (w ^^^ W (i + 1)) < popc (w ^^^ W (sym W w i)) then i + 1 else sym W w i := rfl
    rw [e] at h ⊢
    by_cases c : popc (w ^^^ W (i + 1)) < popc (w ^^^ W (sym W w i))
    · rw [if_pos c] at h ⊢
      exact Nat.lt_of_lt_of_le c (sym_min W w i j (by omega))
    · rw [if_neg c] at h ⊢
      exact sym_str W w i j h
theorem str_up {σ : Nat → Nat} (kσ : zWF σ) {x s : Nat} (hx : x < 2 ^ σ 2) (hs : s < 16) (hn : ¬ s = syS σ x) :
    snI σ x (2 ^ σ 2) ≤ stN (wdS σ) x (syS σ x) (gpS σ x) s ∧ stN (wdS σ) x (syS σ x) (gpS σ x) s ≤ 10 := by
  have hwnz := kσ.2.2.2.2.2.2.2.2.2.2.2
  have hb := zp_b kσ.2.2.2.2.2.2.1
  have hc16 : syS σ x ≤ 15 := sym_le _ _ _
  have hg : gpS σ x ≤ popc (x ^^^ wdS σ s) := sym_min (wdS σ) x 15 s (by omega)
  have hsw := zwd_b kσ s
  have hcw := zwd_b kσ (syS σ x)
  have hgd : gpS σ x = popc (x ^^^ wdS σ (syS σ x)) := rfl
  generalize hc : syS σ x = c at hn hc16 hcw hgd ⊢
  have h1 := way_cnt x (wdS σ s) (wdS σ c)
  have h2 := way_two x (wdS σ s) (wdS σ c)
  have h3 : 0 < popc (wdS σ s ^^^ wdS σ c) := by
    apply popc_pos (xor_1024 (by omega) (by omega))
    rw [show wdS σ s ^^^ wdS σ c = wdS σ (s ^^^ c) from (gw_xor _ _ _ _).symm]
    exact hwnz _ (Nat.pos_of_ne_zero (fun z => hn (x_zero z))) (x16 hs (by omega))
  have h4 : popc ((x ^^^ wdS σ s) &&& (wdS σ s ^^^ wdS σ c)) ≤ 10 := popc_10 _ (Nat.lt_of_le_of_lt Nat.and_le_left (xor_1024 (by omega) (by omega)))
  rw [popc_0] at h2
  have hk : stN (wdS σ) x c (gpS σ x) s ≤ popc ((x ^^^ wdS σ s) &&& (wdS σ s ^^^ wdS σ c)) := by
    unfold stN
    split <;> omega
  refine ⟨?_, by omega⟩
  obtain ⟨w, w1, w2, w3, w4⟩ := way_ex hx hsw hk
  rw [← w2]
  apply snI_low σ x _ w w1
  rw [hc]
  intro hw
  have hwd : sym (wdS σ) w 15 = c := hw
  by_cases d : s < c
  · have h5 := sym_str (wdS σ) w 15 s (by rw [hwd]; exact d)
    rw [hwd] at h5
    unfold stN at w3 w4
    rw [if_pos d] at w3 w4
    omega
  · have h5 := sym_min (wdS σ) w 15 s (by omega)
    rw [hwd] at h5
    unfold stN at w3 w4
    rw [if_neg d] at w3 w4
    omega
theorem str_low {σ : Nat → Nat} {x j : Nat} (hn : ¬ syS σ j = syS σ x) : stN (wdS σ) x (syS σ x) (gpS σ x) (syS σ j) ≤ popc (j ^^^ x) := by
  have hc16 : syS σ x ≤ 15 := sym_le _ _ _
  have hs16 : syS σ j ≤ 15 := sym_le _ _ _
  have h1 := popc_tri x j (wdS σ (syS σ j))
  have h2 := popc_tri j x (wdS σ (syS σ x))
  have h3 : popc (j ^^^ wdS σ (syS σ j)) ≤ popc (j ^^^ wdS σ (syS σ x)) := sym_min (wdS σ) j 15 _ hc16
  have hgd : gpS σ x = popc (x ^^^ wdS σ (syS σ x)) := rfl
  have h6 : gpS σ x ≤ popc (x ^^^ wdS σ (syS σ j)) := sym_min (wdS σ) x 15 _ hs16
  rw [Nat.xor_comm x j] at h1
  unfold stN
  by_cases d : syS σ j < syS σ x
  · rw [if_pos d]; omega
  · have h5 : popc (j ^^^ wdS σ (syS σ j)) < popc (j ^^^ wdS σ (syS σ x)) := sym_str (wdS σ) j 15 _ (show syS σ x < syS σ j by omega)
    rw [if_neg d]; omega
theorem str_ok {σ : Nat → Nat} (kσ : zWF σ) {x : Nat} (hx : x < 2 ^ σ 2) : snI σ x (2 ^ σ 2) = strS σ x := by
  unfold strS
  apply Nat.le_antisymm
  · rcases stL_hit (wdS σ) x (syS σ x) (gpS σ x) 16 with h | ⟨j, h1, h2, h3⟩
    · rw [h]
      by_cases c : syS σ x = 0
      · have := str_up kσ hx (s := 1) (by omega) (by omega)
        omega
      · have := str_up kσ hx (s := 0) (by omega) (by omega)
        omega
    · rw [← h3]
      exact (str_up kσ hx h1 h2).1
  · rcases snI_hit σ x (2 ^ σ 2) with h | ⟨j, h1, h2, h3⟩
    · rw [h]
      have := stL_le (wdS σ) x (syS σ x) (gpS σ x) 16
      omega
    · rw [← h3]
      have hs16 : syS σ j ≤ 15 := sym_le _ _ _
      exact Nat.le_trans (stL_low (wdS σ) x (syS σ x) (gpS σ x) 16 (syS σ j) (by omega) h2) (str_low h2)
