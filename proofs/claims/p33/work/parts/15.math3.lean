/-! what the reading of a state is -/
def itS (σ : Nat → Nat) (j : Nat) : Nat := itC (wdS σ) σ j
def faS (σ : Nat → Nat) (j : Nat) : Nat := faC (wdS σ) σ j
def trS (σ : Nat → Nat) (j : Nat) : Nat := trC (wdS σ) (ddS σ) σ j
/-- the place of block j in the order -/
def plS (σ : Nat → Nat) (j : Nat) : Nat := bef (trS σ) (σ 0) j
/-- the rows of the reading hold what the state says -/
def zCon (σ r0 r1 r2 r3 r4 : Nat → Nat) : Prop := ∀ j, j < σ 0 → r0 j = itS σ j ∧ r1 j = faS σ j ∧ r2 j = trS σ j ∧ r4 j = plS σ j ∧ r3 j < σ 0 ∧ plS σ (r3 j) = j
def ag0 (σ r0 : Nat → Nat) : Nat → Nat := zmx (σ 0) (itC (wdS σ) σ) r0
def ag1 (σ r1 : Nat → Nat) : Nat → Nat := zmx (σ 0) (faC (wdS σ) σ) r1
def ag2 (σ r2 : Nat → Nat) : Nat → Nat := zmx (σ 0) (trC (wdS σ) (ddS σ) σ) r2
def ag3 (σ r2 r3 : Nat → Nat) : Nat → Nat := ordI (bef (ag2 σ r2) (σ 0)) r3 (σ 0)
def ag4 (σ r2 r4 : Nat → Nat) : Nat → Nat := zmx (σ 0) (bef (ag2 σ r2) (σ 0)) r4
theorem bef_ag (σ r2 : Nat → Nat) {j : Nat} (hj : j < σ 0) : bef (ag2 σ r2) (σ 0) j = plS σ j := by
  apply cnt_cong
  intro i hi
  have e1 : ag2 σ r2 i = trS σ i := zmx_in _ _ hi
  have e2 : ag2 σ r2 j = trS σ j := zmx_in _ _ hj
  show befP (ag2 σ r2) j i = befP (trS σ) j i
  unfold befP
  rw [e1, e2]
/-- of two blocks the one stands ahead of the other -/
theorem befP_tr {r : Nat → Nat} {a b i : Nat} (h : befP r b a = true) (hi : befP r a i = true) : befP r b i = true := by
  have h1 := of_decide_eq_true h
  have h2 := of_decide_eq_true hi
  exact decide_eq_true (by omega)
theorem cnt_mono {p q : Nat → Bool} : ∀ {n : Nat}, (∀ i, i < n → p i = true → q i = true) → cnt p n ≤ cnt q n
  | 0, _ => Nat.le_refl 0
  | n + 1, h => by
    have h1 := cnt_mono (p := p) (q := q) (n := n) (fun i hi => h i (by omega))
    have h2 := h n (by omega)
    show cnt p n + b01 (p n) ≤ cnt q n + b01 (q n)
    cases hp : p n
    · simp [b01]; omega
    · rw [h2 hp]; omega
theorem cnt_less {p q : Nat → Bool} : ∀ {n k : Nat}, (∀ i, i < n → p i = true → q i = true) → k < n → p k = false → q k = true → cnt p n < cnt q n
  | 0, k, _, h, _, _ => absurd h (Nat.not_lt_zero k)
  | n + 1, k, h, hk, hp, hq => by
    show cnt p n + b01 (p n) < cnt q n + b01 (q n)
    by_cases c : k = n
    · subst c
      have h1 := cnt_mono (p := p) (q := q) (n := k) (fun i hi => h i (by omega))
      rw [hp, hq]; show cnt p k + 0 < cnt q k + 1; omega
    · have h1 := cnt_less (p := p) (q := q) (n := n) (k := k) (fun i hi => h i (by omega)) (by omega) hp hq
      have h2 := h n (by omega)
      cases hn : p n
      · simp [b01]; omega
      · rw [h2 hn]; omega
theorem befP_self (r : Nat → Nat) (j : Nat) : befP r j j = false := decide_eq_false (by omega)
theorem bef_less {r : Nat → Nat} {N a b : Nat} (ha : a < N) (h : befP r b a = true) : bef r N a < bef r N b := cnt_less (fun i _ hi => befP_tr h hi) ha (befP_self r a) h
theorem befP_or (r : Nat → Nat) {a b : Nat} (h : a ≠ b) : befP r b a = true ∨ befP r a b = true := by
  by_cases c : r a < r b ∨ (r a = r b ∧ a < b)
  · exact Or.inl (decide_eq_true c)
  · exact Or.inr (decide_eq_true (by omega))
theorem bef_inj {r : Nat → Nat} {N a b : Nat} (ha : a < N) (hb : b < N) (h : bef r N a = bef r N b) : a = b := by
  by_cases c : a = b
  · exact c
  · rcases befP_or r c with z | z
    · have := bef_less ha z; omega
    · have := bef_less hb z; omega
/-- n different numbers below n are all of them -/
theorem holes : ∀ (n : Nat) (f : Nat → Nat), (∀ i, i < n → f i < n) → (∀ i j, i < n → j < n → f i = f j → i = j) → ∀ y, y < n → ∃ i, i < n ∧ f i = y
  | 0, _, _, _, y, hy => absurd hy (Nat.not_lt_zero y)
  | n + 1, f, hf, hi, y, hy => by
    -- swap so that f n is put where y' = n was
    by_cases hn : f n = y
    · exact ⟨n, Nat.lt_succ_self n, hn⟩
    · -- g i = f i, but f n where f i = n
      have hg : ∀ i, i < n → (if f i = n then f n else f i) < n := fun i h => by
        have h1 := hf i (by omega)
        have h2 := hf n (by omega)
        by_cases c : f i = n
        · rw [if_pos c]
          have : f n ≠ n := fun z => by have := hi i n (by omega) (by omega) (by rw [c, z]); omega
          omega
        · rw [if_neg c]; omega
      have hgi : ∀ i j, i < n → j < n → (if f i = n then f n else f i) = (if f j = n then f n else f j) → i = j := fun i j h1 h2 e => by
        by_cases c1 : f i = n
        · by_cases c2 : f j = n
          · exact hi i j (by omega) (by omega) (by rw [c1, c2])
          · rw [if_pos c1, if_neg c2] at e
            have := hi n j (by omega) (by omega) e; omega
        · by_cases c2 : f j = n
          · rw [if_neg c1, if_pos c2] at e
            have := hi i n (by omega) (by omega) e; omega
          · rw [if_neg c1, if_neg c2] at e
            exact hi i j (by omega) (by omega) e
      by_cases hyn : y = n
      · -- n is hit: else f would map n+1 numbers below n
        obtain ⟨i, h1, h2⟩ : ∃ i, i < n + 1 ∧ f i = n := by
          by_cases c : ∃ i, i < n ∧ f i = n
          · obtain ⟨i, a, b⟩ := c; exact ⟨i, by omega, b⟩
          · -- then f n < n is hit by some i < n, too
            have hfn : f n ≠ n := fun z => hn (by rw [z, hyn])
            have h3 : ∀ i, i < n → f i < n := fun i h => by
              have := hf i (by omega)
              have : f i ≠ n := fun z => c ⟨i, h, z⟩
              omega
            obtain ⟨i, a, b⟩ := holes n f h3 (fun i j h1 h2 e => hi i j (by omega) (by omega) e) (f n) (by have := hf n (by omega); omega)
            have := hi i n (by omega) (by omega) b
            omega
        exact ⟨i, h1, by rw [h2, hyn]⟩
      · obtain ⟨i, h1, h2⟩ := holes n (fun i => if f i = n then f n else f i) hg hgi y (by omega)
        have h2 : (if f i = n then f n else f i) = y := h2
        by_cases c : f i = n
        · rw [if_pos c] at h2; exact absurd h2 hn
        · rw [if_neg c] at h2; exact ⟨i, by omega, h2⟩
theorem plS_lt (σ : Nat → Nat) {j : Nat} (hj : j < σ 0) : plS σ j < σ 0 := bef_lt _ hj
theorem plS_inj (σ : Nat → Nat) {a b : Nat} (ha : a < σ 0) (hb : b < σ 0) (h : plS σ a = plS σ b) : a = b := bef_inj ha hb h
/-- at its place stands the block itself -/
theorem ordI_at {pl r : Nat → Nat} {N : Nat} (inj : ∀ a b, a < N → b < N → pl a = pl b → a = b) : ∀ i, i ≤ N → ∀ j, j < i → ordI pl r i (pl j) = j
  | 0, _, j, hj => absurd hj (Nat.not_lt_zero j)
  | i + 1, hi, j, hj => by
    show va_up (ordI pl r i) (pl i) i (pl j) = j
    by_cases c : j = i
    · rw [c]; exact if_pos rfl
    · have h1 : pl j ≠ pl i := fun z => c (inj j i (by omega) (by omega) z)
      rw [show va_up (ordI pl r i) (pl i) i (pl j) = ordI pl r i (pl j) from if_neg h1]
      exact ordI_at inj i (by omega) j (by omega)
theorem zCon_ag (σ r0 r1 r2 r3 r4 : Nat → Nat) : zCon σ (ag0 σ r0) (ag1 σ r1) (ag2 σ r2) (ag3 σ r2 r3) (ag4 σ r2 r4) := by
  intro j hj
  refine ⟨zmx_in _ _ hj, zmx_in _ _ hj, zmx_in _ _ hj, (zmx_in _ _ hj).trans (bef_ag σ r2 hj), ?_⟩
  obtain ⟨i, h1, h2⟩ := holes (σ 0) (plS σ) (fun i hi => plS_lt σ hi) (fun a b ha hb h => plS_inj σ ha hb h) j hj
  have h3 : ag3 σ r2 r3 j = i := by
    have h4 := ordI_at (pl := bef (ag2 σ r2) (σ 0)) (r := r3) (N := σ 0) (fun a b ha hb h => plS_inj σ ha hb (by rw [← bef_ag σ r2 ha, ← bef_ag σ r2 hb]; exact h)) (σ 0) (Nat.le_refl _) i h1
    rw [bef_ag σ r2 h1, h2] at h4
    exact h4
  rw [h3]
  exact ⟨h1, h2⟩
/-! scores -/
def scC (d : Nat → Bool) (r : Nat → Nat) : Nat → Int
  | 0 => 0
  | i + 1 => scC d r i + (if d i = true then -((r i : Nat) : Int) else ((r i : Nat) : Int))
theorem mkP_at (p : Nat → Bool) {i : Nat} (hi : i < 12) : mkP p / 2 ^ (4 * i) % 2 = b01 (p i) := by
  have h := pak_at (f := fun j => b01 (p j)) (b := 12) (fun j _ => b01_lt (p j)) hi
  have e : mkP p = pak (fun j => b01 (p j)) 12 := rfl
  rw [e]
  have h1 : pak (fun j => b01 (p j)) 12 / 2 ^ (4 * i) % 16 % 2 = pak (fun j => b01 (p j)) 12 / 2 ^ (4 * i) % 2 := by omega
  rw [← h1, h]
  cases p i <;> rfl
theorem scD_ok {p : Nat → Bool} {r r' : Nat → Nat} : ∀ {n : Nat}, n ≤ 12 → (∀ j, j < n → r j = r' j) → scD (mkP p) r n = scC p r' n
  | 0, _, _ => rfl
  | n + 1, h, hr => by
    show scD (mkP p) r n + _ = scC p r' n + _
    rw [scD_ok (by omega) (fun j hj => hr j (by omega)), mkP_at p (by omega), hr n (by omega)]
    cases p n <;> simp [b01]
/-- the blocks whose symbol differs from that of the codeword of m -/
def difB (σ : Nat → Nat) (m j : Nat) : Bool := decide (j < σ 0) && !(zcw m j == itS σ j)
theorem itS_lt (σ : Nat → Nat) (j : Nat) : itS σ j < 16 := itC_lt _ _ _
theorem zdif {σ : Nat → Nat} {m : Nat} (hn : σ 0 ≤ 12) (hm : m < 4096) : mkS (zcwP m ^^^ pak (itC (wdS σ) σ) (σ 0)) &&& mkP (fun j => decide (j < σ 0)) = mkP (difB σ m) := by
  have e : pak (itC (wdS σ) σ) (σ 0) = pak (fun j => if j < σ 0 then itS σ j else 0) 12 := by
    rw [pak_zero hn (fun j h1 h2 => if_neg (by omega))]
    exact pak_cong (fun j hj => (if_pos hj).symm)
  have b1 : ∀ j, j < 12 → zcw m j < 16 := fun j hj => zcw_lt hm hj
  have b2 : ∀ j, j < 12 → (fun j => if j < σ 0 then itS σ j else 0) j < 16 := fun j hj => by
    show (if j < σ 0 then itS σ j else 0) < 16
    split
    · exact itS_lt σ j
    · decide
  rw [e, zcwP_ok hm, pak_xor b1 b2, mkS_pak (fun j hj => Nat.xor_lt_two_pow (n := 4) (b1 j hj) (b2 j hj)), mkP_and]
  apply mkP_cong
  intro j hj
  unfold difB
  by_cases c : j < σ 0
  · simp only [c, decide_true, Bool.and_true, Bool.true_and, if_true]
    congr 1
    by_cases d : zcw m j = itS σ j
    · simp [d]
    · have : zcw m j ^^^ itS σ j ≠ 0 := fun z => by
        have h9 : (zcw m j ^^^ itS σ j) ^^^ itS σ j = 0 ^^^ itS σ j := by rw [z]
        rw [Nat.xor_assoc, Nat.xor_self, Nat.xor_zero, Nat.zero_xor] at h9
        exact d h9
      rw [show (zcw m j ^^^ itS σ j == 0) = false from beq_false_of_ne this, show (zcw m j == itS σ j) = false from beq_false_of_ne d]
  · simp [c]
/-- the score of the codeword of m -/
def scS (σ : Nat → Nat) (m : Nat) : Int := scC (difB σ m) (trS σ) (σ 0)
/-- what the law asks to be passed -/
def barS (σ : Nat → Nat) : Nat := ddS σ * (σ 0 - (σ 0 - σ 1 + 1))
theorem barS_le {σ : Nat → Nat} (h : zWF σ) : barS σ ≤ 120 := by
  have h1 := dd_le σ
  have h2 : σ 0 ≤ 12 := h.2.1
  unfold barS
  generalize ddS σ = x at h1 ⊢
  have h3 : σ 0 - (σ 0 - σ 1 + 1) ≤ 12 := by omega
  generalize σ 0 - (σ 0 - σ 1 + 1) = y at h3 ⊢
  have h4 : x * y ≤ 10 * 12 := Nat.mul_le_mul h1 h3
  omega
theorem scC_b {d : Nat → Bool} {r : Nat → Nat} {c : Nat} : ∀ {n : Nat}, (∀ j, j < n → r j ≤ c) → -((n * c : Nat) : Int) ≤ scC d r n ∧ scC d r n ≤ ((n * c : Nat) : Int)
  | 0, _ => by simp [scC]
  | n + 1, h => by
    have h1 := scC_b (d := d) (r := r) (c := c) (n := n) (fun j hj => h j (by omega))
    have h2 := h n (by omega)
    have e : (n + 1) * c = n * c + c := Nat.succ_mul n c
    rw [e]
    show _ ≤ scC d r n + (if d n = true then -((r n : Nat) : Int) else ((r n : Nat) : Int)) ∧ scC d r n + (if d n = true then -((r n : Nat) : Int) else ((r n : Nat) : Int)) ≤ _
    split <;> omega
theorem trS_le (σ : Nat → Nat) (j : Nat) : trS σ j ≤ 10 := Nat.le_trans (trC_le _ _ _ _) (dd_le σ)
theorem scS_b {σ : Nat → Nat} (h : σ 0 ≤ 12) (m : Nat) : -120 ≤ scS σ m ∧ scS σ m ≤ 120 := by
  have h1 := scC_b (d := difB σ m) (r := trS σ) (c := 10) (n := σ 0) (fun j _ => trS_le σ j)
  have h2 : σ 0 * 10 ≤ 120 := by omega
  unfold scS
  omega
/-- the first number below N with p; N where there is none -/
def zfst (p : Nat → Bool) : Nat → Nat
  | 0 => 0
  | n + 1 => if zfst p n < n then zfst p n else if p n = true then n else n + 1
theorem zfst_le (p : Nat → Bool) : ∀ n, zfst p n ≤ n
  | 0 => Nat.le_refl 0
  | n + 1 => by
    have := zfst_le p n
    unfold zfst
    split
    · omega
    · split <;> omega
theorem zfst_no {p : Nat → Bool} : ∀ {n : Nat}, (∀ j, j < n → p j = false) → zfst p n = n
  | 0, _ => rfl
  | n + 1, h => by
    have h1 := zfst_no (p := p) (n := n) (fun j hj => h j (by omega))
    unfold zfst
    rw [h1, if_neg (Nat.lt_irrefl n), h n (by omega)]; rfl
theorem zfst_at {p : Nat → Bool} {m : Nat} (h : ∀ j, j < m → p j = false) (hm : p m = true) : ∀ {n : Nat}, m < n → zfst p n = m
  | 0, hn => absurd hn (Nat.not_lt_zero m)
  | n + 1, hn => by
    unfold zfst
    by_cases c : m < n
    · rw [zfst_at h hm c, if_pos c]
    · have e : m = n := by omega
      subst e
      rw [zfst_no h, if_neg (Nat.lt_irrefl m), if_pos hm]
theorem zfst_sp {p : Nat → Bool} : ∀ {n : Nat}, zfst p n < n → p (zfst p n) = true ∧ ∀ j, j < zfst p n → p j = false
  | 0, h => absurd h (Nat.not_lt_zero _)
  | n + 1, h => by
    have hle := zfst_le p n
    unfold zfst at h ⊢
    by_cases c : zfst p n < n
    · rw [if_pos c]; exact zfst_sp c
    · have e : zfst p n = n := by omega
      rw [if_neg c] at h ⊢
      by_cases d : p n = true
      · rw [if_pos d]
        refine ⟨d, fun j hj => ?_⟩
        cases hp : p j
        · rfl
        · exfalso
          have : zfst p n ≤ j := by
            by_cases z : zfst p n ≤ j
            · exact z
            · exfalso
              have hall : ∀ n, j < n → zfst p n ≤ j := fun n => by
                induction n with
                | zero => intro h; exact absurd h (Nat.not_lt_zero j)
                | succ k ih =>
                  intro hk
                  unfold zfst
                  by_cases y : j < k
                  · have := ih y
                    rw [if_pos (by omega)]; exact this
                  · have e2 : j = k := by omega
                    subst e2
                    by_cases w : zfst p j < j
                    · rw [if_pos w]; omega
                    · rw [if_neg w, if_pos hp]; exact Nat.le_refl _
              exact z (hall n hj)
          omega
      · rw [if_neg d] at h; omega
/-- lawful, as the class looks for it -/
def lawB (σ : Nat → Nat) (m : Nat) : Bool := decide (cnt (difB σ m) 12 < σ 0 - σ 1 + 1 ∧ ((barS σ : Nat) : Int) < scS σ m)
/-- the number of messages -/
def nMs (σ : Nat → Nat) : Nat := 2 ^ (4 * σ 1)
def lawM (σ : Nat → Nat) : Nat := zfst (lawB σ) (nMs σ)
/-- what a search gives: the first, or none -/
def orI (N v : Nat) (no : Int32) : Int32 := if v < N then nI v else no
