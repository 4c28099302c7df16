/-- the reference's readings are those of the words as they are -/
def jCon (σ i0 i1 i2 i3 : Nat → Nat) : Prop := ∀ j, j < σ 0 → i0 j = itS σ j ∧ i1 j = faS σ j ∧ i2 j = trS σ j ∧ i3 j < σ 0 ∧ plS σ (i3 j) = j
theorem jCon_ju (σ i0 i1 i2 i3 : Nat → Nat) : jCon σ (ag0 σ i0) (ag1 σ i1) (ag2 σ i2) (insI (trS σ) i3 (σ 0)) := fun j hj =>
  ⟨zmx_in _ _ hj, zmx_in _ _ hj, zmx_in _ _ hj, (insI_ok (trS σ) i3 (σ 0) j hj).1, (insI_ok (trS σ) i3 (σ 0) j hj).2⟩
theorem insA_go {tr o : Nat → Nat} {j a : Nat} (h : tr j < tr (o a)) : insA tr j (a + 1) o = insA tr j a (va_up o (a + 1) (o a)) := if_pos h
theorem insA_no {tr o : Nat → Nat} {j a : Nat} (h : ¬ tr j < tr (o a)) : insA tr j (a + 1) o = va_up o (a + 1) j := if_neg h
theorem insI_lt (tr o0 : Nat → Nat) {n p : Nat} (h : p < n) : insI tr o0 n p < n := (insI_ok tr o0 n p h).1
theorem difB_in {σ : Nat → Nat} {m j : Nat} (hj : j < σ 0) : difB σ m j = !(zcw m j == itS σ j) := by unfold difB; rw [decide_eq_true hj, Bool.true_and]
theorem difB_t {σ : Nat → Nat} {m j : Nat} (hj : j < σ 0) (h : ¬ itS σ j = zcw m j) : difB σ m j = true := by
  rw [difB_in hj, show (zcw m j == itS σ j) = false from beq_false_of_ne (fun z => h z.symm)]; rfl
theorem difB_f {σ : Nat → Nat} {m j : Nat} (hj : j < σ 0) (h : itS σ j = zcw m j) : difB σ m j = false := by
  rw [difB_in hj, h, beq_self_eq_true]; rfl
/-- the differences at the places from s on, t of them -/
def erI (σ : Nat → Nat) (m : Nat) (r : Nat → Nat) (s : Nat) : Nat → Nat
  | 0 => 0
  | t + 1 => erI σ m r s t + b01 (difB σ m (r (s + t)))
theorem erI_le (σ : Nat → Nat) (m : Nat) (r : Nat → Nat) (s : Nat) : ∀ t, erI σ m r s t ≤ t
  | 0 => Nat.le_refl 0
  | t + 1 => by
    have h := erI_le σ m r s t
    show erI σ m r s t + b01 _ ≤ t + 1
    unfold b01; split <;> omega
theorem smI_cnt (p : Nat → Bool) : ∀ n, smI (fun j => ((b01 (p j) : Nat) : Int)) n = ((cnt p n : Nat) : Int)
  | 0 => rfl
  | n + 1 => by
    show smI _ n + ((b01 (p n) : Nat) : Int) = ((cnt p n + b01 (p n) : Nat) : Int)
    rw [smI_cnt p n]; omega
theorem erI_sm {σ i0 i1 i2 i3 : Nat → Nat} (kj : jCon σ i0 i1 i2 i3) (m s : Nat) : ∀ t, s + t ≤ σ 0 → ((erI σ m i3 s t : Nat) : Int) + smT (fun j => ((b01 (difB σ m j) : Nat) : Int)) (plS σ) (σ 0) (s + t) = smT (fun j => ((b01 (difB σ m j) : Nat) : Int)) (plS σ) (σ 0) s
  | 0, _ => by
    show ((0 : Nat) : Int) + _ = _
    rw [Nat.add_zero]; omega
  | t + 1, h => by
    have ih := erI_sm kj m s t (by omega)
    obtain ⟨h1, h2⟩ := (kj (s + t) (by omega)).2.2.2
    rw [smT_step (f := fun j => ((b01 (difB σ m j) : Nat) : Int)) (r := i3) (s := s + t) (fun a b ha hb z => plS_inj σ ha hb z) h1 h2] at ih
    show ((erI σ m i3 s t + b01 (difB σ m (i3 (s + t))) : Nat) : Int) + smT _ _ _ (s + t + 1) = _
    rw [← ih]
    generalize smT (fun j => ((b01 (difB σ m j) : Nat) : Int)) (plS σ) (σ 0) (s + t + 1) = x
    omega
theorem cnt_out {p : Nat → Bool} {n : Nat} : ∀ {k : Nat}, n ≤ k → (∀ j, n ≤ j → p j = false) → cnt p k = cnt p n
  | 0, h, _ => by rw [show n = 0 by omega]
  | k + 1, h, hz => by
    by_cases c : n = k + 1
    · rw [c]
    · show cnt p k + b01 (p k) = _
      rw [cnt_out (by omega) hz, hz k (by omega)]; rfl
theorem erI_ok {σ i0 i1 i2 i3 : Nat → Nat} (kj : jCon σ i0 i1 i2 i3) (hn : σ 0 ≤ 12) (m : Nat) {s : Nat} (hs : s ≤ σ 0) : erI σ m i3 s (σ 0 - s) = cnt (fun j => difB σ m j && kpB σ s j) 12 := by
  have h := erI_sm kj m s (σ 0 - s) (by omega)
  rw [show s + (σ 0 - s) = σ 0 by omega, smT_n (fun j hj => plS_lt σ hj) (Nat.le_refl _)] at h
  have e : smT (fun j => ((b01 (difB σ m j) : Nat) : Int)) (plS σ) (σ 0) s = ((cnt (fun j => difB σ m j && kpB σ s j) (σ 0) : Nat) : Int) := by
    rw [← smI_cnt]
    unfold smT
    apply smI_cong
    intro j hj
    show (if s ≤ plS σ j then ((b01 (difB σ m j) : Nat) : Int) else 0) = ((b01 (difB σ m j && kpB σ s j) : Nat) : Int)
    unfold kpB
    by_cases c : s ≤ plS σ j
    · rw [if_pos c, decide_eq_true hj, decide_eq_true c, Bool.and_true, Bool.and_true]
    · rw [if_neg c, decide_eq_false c, Bool.and_false, Bool.and_false]; rfl
  rw [e] at h
  rw [cnt_out (n := σ 0) hn (fun j hj => by
    show (difB σ m j && kpB σ s j) = false
    unfold difB
    rw [decide_eq_false (by omega)]; rfl)]
  omega
theorem insA_go9 {tr o : Nat → Nat} {j a : Nat} (h0 : 0 < a) (h : tr j < tr (o (a - 1))) : insA tr j a o = insA tr j (a - 1) (va_up o a (o (a - 1))) := by
  obtain ⟨b, rfl⟩ : ∃ b, a = b + 1 := ⟨a - 1, by omega⟩
  exact insA_go h
theorem insA_end {tr o : Nat → Nat} {j a : Nat} (h : a = 0 ∨ ¬ tr j < tr (o (a - 1))) : insA tr j a o = va_up o a j := by
  by_cases c : a = 0
  · rw [c]; rfl
  · obtain ⟨b, rfl⟩ : ∃ b, a = b + 1 := ⟨a - 1, by omega⟩
    exact insA_no (h.resolve_left c)
theorem res_t {σ i0 i1 i2 i3 : Nat → Nat} (kj : jCon σ i0 i1 i2 i3) (hn : σ 0 ≤ 12) {m s : Nat} (hs : s ≤ σ 0) (h : 2 * erI σ m i3 s (σ 0 - s) + s < σ 0 - σ 1 + 1) : resB σ s m = true := by
  unfold resB; rw [← erI_ok kj hn m hs]; exact decide_eq_true h
theorem res_f {σ i0 i1 i2 i3 : Nat → Nat} (kj : jCon σ i0 i1 i2 i3) (hn : σ 0 ≤ 12) {m s : Nat} (hs : s ≤ σ 0) (h : ¬ 2 * erI σ m i3 s (σ 0 - s) + s < σ 0 - σ 1 + 1) : ¬ resB σ s m = true := by
  unfold resB; rw [← erI_ok kj hn m hs, decide_eq_false h]; decide
