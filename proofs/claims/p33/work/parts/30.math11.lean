theorem smI_swap (f : Nat → Nat → Int) (C : Nat) : ∀ n, smI (fun j => smI (f j) C) n = smI (fun c => smI (fun j => f j c) n) C
  | 0 => (smI_zero (fun _ _ => rfl)).symm
  | n + 1 => by
    show smI (fun j => smI (f j) C) n + smI (f n) C = smI (fun c => smI (fun j => f j c) n + f n c) C
    rw [smI_add (fun c => smI (fun j => f j c) n) (f n) C, smI_swap f C n]
theorem smI_const (g : Int) : ∀ n, smI (fun _ => g) n = ((n : Nat) : Int) * g
  | 0 => by show (0 : Int) = _; simp
  | n + 1 => by
    show smI (fun _ => g) n + g = _
    rw [smI_const g n, Int.natCast_add, Int.add_mul]; simp
theorem lay_min (r : Nat) (g : Int) : ∀ C, smI (fun c => if c < r then g else 0) C = ((min r C : Nat) : Int) * g
  | 0 => by show (0 : Int) = _; rw [Nat.min_zero]; simp
  | C + 1 => by
    show smI (fun c => if c < r then g else 0) C + (if C < r then g else 0) = _
    rw [lay_min r g C]
    by_cases c : C < r
    · rw [if_pos c, show min r (C + 1) = C + 1 by omega, show min r C = C by omega, Int.natCast_add, Int.add_mul]; simp
    · rw [if_neg c, show min r (C + 1) = r by omega, show min r C = r by omega]; simp
def gS (σ : Nat → Nat) (m j : Nat) : Int := if difB σ m j = true then -1 else 1
theorem scC_sm (d : Nat → Bool) (r : Nat → Nat) : ∀ n, scC d r n = smI (fun j => ((r j : Nat) : Int) * (if d j = true then -1 else 1)) n
  | 0 => rfl
  | n + 1 => by
    show scC d r n + _ = smI _ n + _
    rw [scC_sm d r n]
    congr 1
    by_cases c : d n = true
    · simp [c]
    · simp [c]
theorem scS_lay (σ : Nat → Nat) (m : Nat) : scS σ m = smI (fun c => smI (fun j => if c < trS σ j then gS σ m j else 0) (σ 0)) (ddS σ) := by
  unfold scS
  rw [scC_sm, ← smI_swap (fun j c => if c < trS σ j then gS σ m j else 0) (ddS σ) (σ 0)]
  apply smI_cong
  intro j hj
  rw [lay_min, show min (trS σ j) (ddS σ) = trS σ j from Nat.min_eq_left (trC_le _ _ _ _)]; rfl
/-- how many blocks are trusted at most c -/
def lowC (σ : Nat → Nat) (c : Nat) : Nat := cnt (fun i => decide (trS σ i ≤ c)) (σ 0)
theorem lowC_le (σ : Nat → Nat) (c : Nat) : lowC σ c ≤ σ 0 := cnt_le _ _
theorem lowC_iff (σ : Nat → Nat) {c j : Nat} (hj : j < σ 0) : c < trS σ j ↔ lowC σ c ≤ plS σ j := by
  constructor
  · intro h
    exact cnt_mono (fun i hi hp => by
      have hp := of_decide_eq_true hp
      exact decide_eq_true (by omega))
  · intro h
    by_cases d : c < trS σ j
    · exact d
    · have : plS σ j < lowC σ c := cnt_less (fun i hi hp => by
        have hp := of_decide_eq_true hp
        exact decide_eq_true (by omega)) hj (befP_self (trS σ) j) (decide_eq_true (by omega))
      omega
theorem smT_cnt (σ : Nat → Nat) (p : Nat → Bool) (s : Nat) : smT (fun j => ((b01 (p j) : Nat) : Int)) (plS σ) (σ 0) s = ((cnt (fun j => p j && kpB σ s j) (σ 0) : Nat) : Int) := by
  rw [← smI_cnt]
  unfold smT
  apply smI_cong
  intro j hj
  show (if s ≤ plS σ j then ((b01 (p j) : Nat) : Int) else 0) = ((b01 (p j && kpB σ s j) : Nat) : Int)
  unfold kpB
  by_cases c : s ≤ plS σ j
  · rw [if_pos c, decide_eq_true hj, decide_eq_true c, Bool.and_true, Bool.and_true]
  · rw [if_neg c, decide_eq_false c, Bool.and_false, Bool.and_false]; rfl
theorem smT_one (σ : Nat → Nat) : ∀ t, t ≤ σ 0 → smT (fun _ => 1) (plS σ) (σ 0) (σ 0 - t) = ((t : Nat) : Int)
  | 0, _ => by rw [smT_n (fun j hj => plS_lt σ hj) (by omega)]; rfl
  | t + 1, h => by
    have hk := insI_ok (trS σ) (fun _ => 0) (σ 0) (σ 0 - (t + 1)) (by omega)
    rw [smT_step (f := fun _ => 1) (r := insI (trS σ) (fun _ => 0) (σ 0)) (s := σ 0 - (t + 1)) (fun a b ha hb z => plS_inj σ ha hb z) hk.1 hk.2, show σ 0 - (t + 1) + 1 = σ 0 - t by omega, smT_one σ t (by omega)]
    omega
theorem smT_g (σ : Nat → Nat) (m : Nat) {s : Nat} (hs : s ≤ σ 0) : smT (gS σ m) (plS σ) (σ 0) s = ((σ 0 : Nat) : Int) - ((s : Nat) : Int) - 2 * ((cnt (fun j => difB σ m j && kpB σ s j) (σ 0) : Nat) : Int) := by
  have h1 := smT_one σ (σ 0 - s) (by omega)
  rw [show σ 0 - (σ 0 - s) = s by omega] at h1
  have h2 := smT_cnt σ (difB σ m) s
  have h3 : smT (fun _ => 1) (plS σ) (σ 0) s = smT (gS σ m) (plS σ) (σ 0) s + (smT (fun j => ((b01 (difB σ m j) : Nat) : Int)) (plS σ) (σ 0) s + smT (fun j => ((b01 (difB σ m j) : Nat) : Int)) (plS σ) (σ 0) s) := by
    unfold smT
    rw [← smI_add, ← smI_add]
    apply smI_cong
    intro j hj
    by_cases c : s ≤ plS σ j
    · simp only [if_pos c]
      unfold gS b01
      split <;> rfl
    · simp only [if_neg c]; rfl
  rw [h1, h2] at h3
  omega
/-- the law's own theorem: what passes the bar is the result of a trial -/
theorem forney {σ : Nat → Nat} {m : Nat} (hk : 1 ≤ σ 1) (hn : σ 0 ≤ 12) (h : ((barS σ : Nat) : Int) < scS σ m) : ∃ s, s < σ 0 - σ 1 + 1 ∧ resB σ s m = true := by
  apply Classical.byContradiction
  intro hno
  have hres : ∀ s, s < σ 0 - σ 1 + 1 → σ 0 - σ 1 + 1 ≤ 2 * cnt (fun j => difB σ m j && kpB σ s j) (σ 0) + s := fun s hs => by
    have h1 : ¬ resB σ s m = true := fun z => hno ⟨s, hs, z⟩
    unfold resB at h1
    rw [cnt_out (n := σ 0) hn (fun j hj => by
      show (difB σ m j && kpB σ s j) = false
      unfold difB
      rw [decide_eq_false (by omega)]; rfl)] at h1
    have h2 : ¬ (2 * cnt (fun j => difB σ m j && kpB σ s j) (σ 0) + s < σ 0 - σ 1 + 1) := fun z => h1 (decide_eq_true z)
    omega
  have hb : scS σ m ≤ ((barS σ : Nat) : Int) := by
    rw [scS_lay]
    have e : ((barS σ : Nat) : Int) = smI (fun _ => ((σ 0 - (σ 0 - σ 1 + 1) : Nat) : Int)) (ddS σ) := by
      rw [smI_const]; unfold barS; rw [Int.natCast_mul]
    rw [e]
    apply smI_le
    intro c hc
    have e2 : smI (fun j => if c < trS σ j then gS σ m j else 0) (σ 0) = smT (gS σ m) (plS σ) (σ 0) (lowC σ c) := by
      unfold smT
      apply smI_cong
      intro j hj
      have h4 := lowC_iff σ (c := c) hj
      by_cases d : c < trS σ j
      · rw [if_pos d, if_pos (h4.mp d)]
      · rw [if_neg d, if_neg (fun z => d (h4.mpr z))]
    rw [e2, smT_g σ m (lowC_le σ c)]
    have h5 := lowC_le σ c
    by_cases d : lowC σ c < σ 0 - σ 1 + 1
    · have h6 := hres _ d
      omega
    · omega
  omega
theorem scC_cnt (d : Nat → Bool) (r : Nat → Nat) (C : Nat) : ∀ n, (∀ j, j < n → r j ≤ C) → scC d r n + ((C * cnt d n : Nat) : Int) ≤ ((C * n : Nat) : Int)
  | 0, _ => by show (0 : Int) + _ ≤ _; simp [cnt]
  | n + 1, h => by
    have ih := scC_cnt d r C n (fun j hj => h j (by omega))
    have h1 := h n (by omega)
    show scC d r n + _ + ((C * (cnt d n + b01 (d n)) : Nat) : Int) ≤ _
    cases hd : d n
    · rw [show C * (cnt d n + b01 false) = C * cnt d n from by rw [show b01 false = 0 from rfl, Nat.add_zero], show C * (n + 1) = C * n + C from rfl, if_neg (by decide)]
      omega
    · rw [show C * (cnt d n + b01 true) = C * cnt d n + C from rfl, show C * (n + 1) = C * n + C from rfl, if_pos rfl]
      omega
/-- what passes the bar differs in fewer blocks than the distance -/
theorem bar_few {σ : Nat → Nat} {m : Nat} (hk : 1 ≤ σ 1) (hkn : σ 1 < σ 0) (hn : σ 0 ≤ 12) (h : ((barS σ : Nat) : Int) < scS σ m) : cnt (difB σ m) 12 < σ 0 - σ 1 + 1 := by
  rw [cnt_out (n := σ 0) hn (fun j hj => by unfold difB; rw [decide_eq_false (by omega)]; rfl)]
  have h1 := scC_cnt (difB σ m) (trS σ) (ddS σ) (σ 0) (fun j _ => trC_le _ _ _ _)
  by_cases c : cnt (difB σ m) (σ 0) < σ 0 - σ 1 + 1
  · exact c
  · have h2 : ddS σ * (σ 0 - σ 1 + 1) ≤ ddS σ * cnt (difB σ m) (σ 0) := Nat.mul_le_mul_left _ (by omega)
    have h3 : ddS σ * σ 0 = ddS σ * (σ 0 - (σ 0 - σ 1 + 1)) + ddS σ * (σ 0 - σ 1 + 1) := by rw [← Nat.mul_add, show σ 0 - (σ 0 - σ 1 + 1) + (σ 0 - σ 1 + 1) = σ 0 by omega]
    have h4 : scS σ m = scC (difB σ m) (trS σ) (σ 0) := rfl
    unfold barS at h
    rw [h4] at h
    omega
