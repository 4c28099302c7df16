theorem jc_pl {σ i0 i1 i2 i3 : Nat → Nat} (kj : jCon σ i0 i1 i2 i3) {j : Nat} (hj : j < σ 0) : i3 (plS σ j) = j :=
  plS_inj σ (kj _ (plS_lt σ hj)).2.2.2.1 hj (kj _ (plS_lt σ hj)).2.2.2.2
theorem jc_ne {σ i0 i1 i2 i3 : Nat → Nat} (kj : jCon σ i0 i1 i2 i3) {j p : Nat} (hj : j < σ 0) (hp : p ≤ plS σ j) (h : ¬ i3 p = j) : p < plS σ j := by
  by_cases c : p = plS σ j
  · exact absurd (by rw [c]; exact jc_pl kj hj) h
  · omega
theorem jc_eq {σ i0 i1 i2 i3 : Nat → Nat} (kj : jCon σ i0 i1 i2 i3) {j p : Nat} (hp : p < σ 0) (h : i3 p = j) : p = plS σ j := by
  rw [← h]; exact (kj p hp).2.2.2.2.symm
theorem jc_ord {σ i0 i1 i2 i3 : Nat → Nat} (kj : jCon σ i0 i1 i2 i3) {p : Nat} (hp : p < σ 0) : ordS σ p = i3 p := ordS_of (kj p hp).2.2.2.1 (kj p hp).2.2.2.2
theorem law_t {σ : Nat → Nat} (kσ : zWF σ) {m : Nat} (h : ((barS σ : Nat) : Int) < scS σ m) : lawB σ m = true := by
  obtain ⟨n3, n12, d1, d3, dn, b4, b10, gl, lm, sn, wl, wnz⟩ := kσ
  exact decide_eq_true ⟨bar_few d1 dn n12 h, h⟩
theorem law_f {σ : Nat → Nat} {m : Nat} (h : ¬ ((barS σ : Nat) : Int) < scS σ m) : lawB σ m = false := decide_eq_false (fun z => h z.2)
theorem law_lt {σ : Nat → Nat} {m : Nat} (h : lawB σ m = true) : ((barS σ : Nat) : Int) < scS σ m := (of_decide_eq_true h).2
theorem law_one {σ : Nat → Nat} (kσ : zWF σ) {m o : Nat} (hm : m < nMs σ) (ho : o < nMs σ) (h1 : lawB σ m = true) (h2 : lawB σ o = true) : m = o := bar_one kσ hm ho (law_lt h1) (law_lt h2)
theorem law_fst {σ : Nat → Nat} (kσ : zWF σ) {i : Nat} (hi : i < nMs σ) (h : lawB σ i = true) : ∀ j, j < i → lawB σ j = false := fun j hj => by
  cases c : lawB σ j
  · rfl
  · exact absurd (law_one kσ (by omega) hi c h) (by omega)
theorem law_cnt {σ : Nat → Nat} (kσ : zWF σ) : ∀ i, i ≤ nMs σ → cnt (lawB σ) i = if zfst (lawB σ) i < i then 1 else 0
  | 0, _ => by rw [if_neg (by omega)]; rfl
  | i + 1, h => by
    have ih := law_cnt kσ i (by omega)
    show cnt (lawB σ) i + b01 (lawB σ i) = _
    cases c : lawB σ i
    · by_cases d : zfst (lawB σ) i < i
      · have hs := zfst_sp d
        rw [ih, if_pos d, zfst_at (n := i + 1) hs.2 hs.1 (by omega), if_pos (by omega)]; rfl
      · have hz : ∀ j, j < i + 1 → lawB σ j = false := fun j hj => by
          by_cases f : j = i
          · rw [f]; exact c
          · cases g : lawB σ j
            · rfl
            · exfalso
              have := zfst_at (n := i) (law_fst kσ (by omega) g) g (by omega)
              omega
        rw [ih, if_neg d, zfst_no hz, if_neg (by omega)]; rfl
    · rw [ih, zfst_no (law_fst kσ (by omega) c), if_neg (by omega), zfst_at (n := i + 1) (law_fst kσ (by omega) c) c (by omega), if_pos (by omega)]; rfl
theorem orI_at {p : Nat → Bool} {N t : Nat} {no : Int32} (hz : ∀ x, x < t → p x = false) (h : p t = true) (ht : t < N) : nI t = orI N (zfst p N) no := by
  rw [zfst_at hz h ht]; exact (if_pos ht).symm
theorem orI_no {p : Nat → Bool} {N : Nat} {no : Int32} (hz : ∀ x, x < N → p x = false) : no = orI N (zfst p N) no := by
  rw [zfst_no hz]; exact (if_neg (by omega)).symm
theorem bool_f {b : Bool} (h : ¬ b = true) : b = false := by cases b <;> simp_all
theorem all_up {p : Nat → Bool} {t : Nat} (hz : ∀ x, x < t → p x = false) (h : ¬ p t = true) : ∀ x, x < t + 1 → p x = false := fun x hx => by
  by_cases c : x = t
  · rw [c]; exact bool_f h
  · exact hz x (by omega)
theorem guar_t {σ : Nat → Nat} (h : 2 * wrN (wdS σ) σ (σ 0) + ddS σ * lostN σ (σ 0) < ddS σ * (σ 0 - σ 1 + 1)) : nI 1 = guarV σ := by unfold guarV; rw [if_pos h]
theorem guar_f {σ : Nat → Nat} (h : ¬ 2 * wrN (wdS σ) σ (σ 0) + ddS σ * lostN σ (σ 0) < ddS σ * (σ 0 - σ 1 + 1)) : nI 0 = guarV σ := by unfold guarV; rw [if_neg h]
