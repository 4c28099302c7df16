/-! the states behind the changes -/
theorem wdS_cong {σ τ : Nat → Nat} (h : ∀ i, i < 4 → σ (3 + i) = τ (3 + i)) (s : Nat) : wdS σ s = wdS τ s := gw_cong (fun j hj => by unfold zg; rw [if_pos hj, if_pos hj]; exact h j hj)
/-- a state with the same inner code, and words, losses and message in range -/
theorem zWF_keep {σ τ : Nat → Nat} (h : zWF σ) (h0 : τ 0 = σ 0) (h1 : τ 1 = σ 1) (h2 : τ 2 = σ 2) (hg : ∀ i, i < 4 → τ (3 + i) = σ (3 + i)) (h7 : τ 7 < 4096) (h8 : τ 8 < 2 ^ (4 * σ 1)) (hw : ∀ j, j < 12 → τ (9 + j) < 2 ^ σ 2) : zWF τ := by
  obtain ⟨n3, n12, d1, d3, dn, b4, b10, gl, lm, sn, wl, wnz⟩ := h
  refine ⟨by omega, by omega, by omega, by omega, by omega, by omega, by omega, fun j hj => by rw [hg j hj, h2]; exact gl j hj, h7, by rw [h1]; exact h8, fun j hj => by rw [h2]; exact hw j hj, fun s h0 hs => by rw [wdS_cong hg s]; exact wnz s h0 hs⟩
theorem clr_w (σ : Nat → Nat) {j : Nat} (hj : j < 12) : clr σ (9 + j) = 0 := if_pos (by omega)
theorem clr_ne (σ : Nat → Nat) {q : Nat} (hq : q < 7) : clr σ q = σ q := if_neg (by omega)
def outS (σ : Nat → Nat) (i k : Nat) : Nat → Nat := clr (va_up (va_up σ 0 i) 1 k)
theorem zWF_out {σ : Nat → Nat} (h : zWF σ) {i k : Nat} (i3 : 3 ≤ i) (i12 : i ≤ 12) (k1 : 1 ≤ k) (k3 : k ≤ 3) (ki : k < i) : zWF (outS σ i k) := by
  obtain ⟨n3, n12, d1, d3, dn, b4, b10, gl, lm, sn, wl, wnz⟩ := h
  have e0 : outS σ i k 0 = i := rfl
  have e1 : outS σ i k 1 = k := rfl
  have e2 : outS σ i k 2 = σ 2 := rfl
  have eg : ∀ j, j < 4 → outS σ i k (3 + j) = σ (3 + j) := fun j hj => by
    unfold outS
    rw [clr_ne _ (by omega), zu_ne _ _ _ (by omega), zu_ne _ _ _ (by omega)]
  refine ⟨by omega, by omega, by omega, by omega, by omega, by omega, by omega, fun j hj => by rw [eg j hj, e2]; exact gl j hj, ?_, ?_, fun j hj => ?_, fun s h0 hs => by rw [wdS_cong eg s]; exact wnz s h0 hs⟩
  · show 0 < 4096; decide
  · show 0 < _; exact Nat.two_pow_pos _
  · rw [show outS σ i k (9 + j) = 0 from clr_w _ hj]; exact Nat.two_pow_pos _
/-- i words of message m are sent -/
def sndI (σ : Nat → Nat) (m i : Nat) (q : Nat) : Nat := if 9 ≤ q ∧ q < 9 + i then wdS σ (zcw m (q - 9)) else va_up (clr σ) 8 m q
theorem sndI_0 (σ : Nat → Nat) (m : Nat) : va_up (clr σ) 8 m = sndI σ m 0 := funext fun q => (if_neg (by omega)).symm
theorem sndI_up (σ : Nat → Nat) (m i : Nat) : va_up (sndI σ m i) (9 + i) (wdS σ (zcw m i)) = sndI σ m (i + 1) := by
  funext q
  unfold va_up sndI
  by_cases h : q = 9 + i
  · rw [if_pos h, if_pos (by omega), show q - 9 = i from by omega]
  · rw [if_neg h]
    by_cases c : 9 ≤ q ∧ q < 9 + i
    · rw [if_pos c, if_pos (by omega)]
    · rw [if_neg c, if_neg (by omega)]
theorem sndI_lo (σ : Nat → Nat) (m i : Nat) {q : Nat} (hq : q < 7) : sndI σ m i q = σ q := by
  unfold sndI
  rw [if_neg (by omega), zu_ne _ _ _ (by omega), clr_ne _ hq]
theorem zWF_snd {σ : Nat → Nat} (h : zWF σ) {m i : Nat} (hm : m < 2 ^ (4 * σ 1)) : zWF (sndI σ m i) := by
  refine zWF_keep h (sndI_lo _ _ _ (by decide)) (sndI_lo _ _ _ (by decide)) (sndI_lo _ _ _ (by decide)) (fun j hj => sndI_lo _ _ _ (by omega)) ?_ ?_ (fun j hj => ?_)
  · show sndI σ m i 7 < 4096
    unfold sndI
    rw [if_neg (by omega), zu_ne _ _ _ (by decide)]
    show 0 < 4096; decide
  · show sndI σ m i 8 < _
    unfold sndI
    rw [if_neg (by omega), zu_eq]; exact hm
  · show sndI σ m i (9 + j) < _
    unfold sndI
    split
    · exact zwd_b h _
    · rw [zu_ne _ _ _ (by omega), clr_w _ hj]; exact Nat.two_pow_pos _
def sndN (σ : Nat → Nat) (m : Nat) : Nat → Nat
  | 0 => 0
  | i + 1 => sndN σ m i + popc (wdS σ (zcw m i))
theorem sndN_le (σ : Nat → Nat) (m : Nat) : ∀ i, sndN σ m i ≤ 12 * i
  | 0 => Nat.le_refl 0
  | i + 1 => by
    have h1 := sndN_le σ m i
    have h2 := popc_le (wdS σ (zcw m i))
    show sndN σ m i + popc (wdS σ (zcw m i)) ≤ 12 * (i + 1)
    omega
def flpS (σ : Nat → Nat) (j mk : Nat) : Nat → Nat := va_up σ (9 + j) (σ (9 + j) ^^^ mk)
theorem flp_lo (σ : Nat → Nat) (j v : Nat) {q : Nat} (hq : q < 9) : va_up σ (9 + j) v q = σ q := zu_ne _ _ _ (by omega)
theorem zWF_word {σ : Nat → Nat} (h : zWF σ) {j v : Nat} (hv : v < 2 ^ σ 2) : zWF (va_up σ (9 + j) v) := by
  refine zWF_keep h (flp_lo _ _ _ (by decide)) (flp_lo _ _ _ (by decide)) (flp_lo _ _ _ (by decide)) (fun i hi => flp_lo _ _ _ (by omega)) ?_ ?_ (fun i hi => ?_)
  · rw [flp_lo _ _ _ (by decide)]; exact h.2.2.2.2.2.2.2.2.1
  · rw [flp_lo _ _ _ (by decide)]; exact h.2.2.2.2.2.2.2.2.2.1
  · by_cases c : i = j
    · rw [c, zu_eq]; exact hv
    · rw [zu_ne _ _ _ (by omega)]; exact h.2.2.2.2.2.2.2.2.2.2.1 i hi
theorem zWF_flp {σ : Nat → Nat} (h : zWF σ) {j mk : Nat} (hj : j < 12) (hm : mk < 2 ^ σ 2) : zWF (flpS σ j mk) := zWF_word h (Nat.xor_lt_two_pow (h.2.2.2.2.2.2.2.2.2.2.1 j hj) hm)
/-- the mask of the lost blocks with block j set to v -/
def losM (L j v : Nat) : Nat := if v = 1 then L ||| 2 ^ j else (L ||| 2 ^ j) ^^^ 2 ^ j
theorem zL_bit (L j : Nat) : zL L j = b01 (L.testBit j) := by
  unfold zL
  rw [Nat.testBit_eq_decide_div_mod_eq]
  have : L / 2 ^ j % 2 < 2 := Nat.mod_lt _ (by decide)
  by_cases h : L / 2 ^ j % 2 = 1
  · rw [h]; rfl
  · rw [show L / 2 ^ j % 2 = 0 from by omega]; rfl
theorem zL_los (L : Nat) {j v : Nat} (hv : v < 2) (i : Nat) : zL (losM L j v) i = if i = j then v else zL L i := by
  rw [zL_bit, zL_bit]
  unfold losM
  by_cases c : v = 1
  · rw [if_pos c, Nat.testBit_or, Nat.testBit_two_pow]
    by_cases d : i = j
    · rw [if_pos d, d, c]; simp [b01]
    · rw [if_neg d]; have : ¬ j = i := fun z => d z.symm
      simp [this]
  · rw [if_neg c, Nat.testBit_xor, Nat.testBit_or, Nat.testBit_two_pow]
    by_cases d : i = j
    · rw [if_pos d, d, show v = 0 from by omega]; simp [b01]
    · rw [if_neg d]; have : ¬ j = i := fun z => d z.symm
      simp [this]
theorem losM_lt {L j v : Nat} (hL : L < 4096) (hj : j < 12) : losM L j v < 4096 := by
  have h1 : 2 ^ j < 2 ^ 12 := Nat.pow_lt_pow_right (by decide) hj
  have h2 : L ||| 2 ^ j < 2 ^ 12 := Nat.or_lt_two_pow hL h1
  unfold losM
  split
  · exact h2
  · exact Nat.xor_lt_two_pow h2 h1
def losS (σ : Nat → Nat) (j v : Nat) : Nat → Nat := va_up σ 7 (losM (σ 7) j v)
theorem zWF_los {σ : Nat → Nat} (h : zWF σ) {j v : Nat} (hj : j < 12) : zWF (losS σ j v) := by
  refine zWF_keep h (zu_ne _ _ _ (by decide)) (zu_ne _ _ _ (by decide)) (zu_ne _ _ _ (by decide)) (fun i hi => zu_ne _ _ _ (by omega)) ?_ ?_ (fun i hi => ?_)
  · show losS σ j v 7 < 4096
    unfold losS; rw [zu_eq]; exact losM_lt h.2.2.2.2.2.2.2.2.1 hj
  · show losS σ j v 8 < _
    unfold losS; rw [zu_ne _ _ _ (by decide)]; exact h.2.2.2.2.2.2.2.2.2.1
  · show losS σ j v (9 + i) < _
    unfold losS; rw [zu_ne _ _ _ (by omega)]; exact h.2.2.2.2.2.2.2.2.2.2.1 i hi
/-- i words with a burst -/
def burI (σ : Nat → Nat) (st en i : Nat) (q : Nat) : Nat := if 9 ≤ q ∧ q < 9 + i then σ q ^^^ bmask (σ 2) (q - 9) st en else σ q
theorem burI_0 (σ : Nat → Nat) (st en : Nat) : σ = burI σ st en 0 := funext fun q => (if_neg (by omega)).symm
theorem burI_out (σ : Nat → Nat) (st en i : Nat) {q : Nat} (h : q < 9 ∨ 9 + i ≤ q) : burI σ st en i q = σ q := if_neg (by omega)
theorem burI_up (σ : Nat → Nat) (st en i : Nat) : va_up (burI σ st en i) (9 + i) (σ (9 + i) ^^^ bmask (σ 2) i st en) = burI σ st en (i + 1) := by
  funext q
  unfold va_up burI
  by_cases h : q = 9 + i
  · subst h; rw [if_pos rfl, if_pos (by omega), show 9 + i - 9 = i from by omega]
  · rw [if_neg h]
    by_cases c : 9 ≤ q ∧ q < 9 + i
    · rw [if_pos c, if_pos (by omega)]
    · rw [if_neg c, if_neg (by omega)]
theorem bmask_lt (b j st en : Nat) : bmask b j st en < 2 ^ b := by
  unfold bmask
  split
  · have h1 : 2 ^ (min (en - b * j) b) ≤ 2 ^ b := Nat.pow_le_pow_right (by decide) (Nat.min_le_right _ _)
    have h2 := Nat.two_pow_pos (st - b * j)
    have h3 := Nat.two_pow_pos b
    omega
  · exact Nat.two_pow_pos _
theorem zWF_bur {σ : Nat → Nat} (h : zWF σ) (st en i : Nat) : zWF (burI σ st en i) := by
  refine zWF_keep h (burI_out _ _ _ _ (by omega)) (burI_out _ _ _ _ (by omega)) (burI_out _ _ _ _ (by omega)) (fun i hi => burI_out _ _ _ _ (by omega)) ?_ ?_ (fun j hj => ?_)
  · rw [burI_out _ _ _ _ (by omega)]; exact h.2.2.2.2.2.2.2.2.1
  · rw [burI_out _ _ _ _ (by omega)]; exact h.2.2.2.2.2.2.2.2.2.1
  · unfold burI
    split
    · exact Nat.xor_lt_two_pow (h.2.2.2.2.2.2.2.2.2.2.1 j hj) (bmask_lt _ _ _ _)
    · exact h.2.2.2.2.2.2.2.2.2.2.1 j hj
/-- a word turned by one bit -/
def rotW (b w : Nat) : Nat := (w * 2 ^ 1 ||| w / 2 ^ (b - 1)) &&& (2 ^ b - 1)
theorem rotW_lt (b w : Nat) : rotW b w < 2 ^ b := by
  have h := Nat.two_pow_pos b
  exact Nat.lt_of_le_of_lt Nat.and_le_right (by omega)
/-- i words through the second stage -/
def casI (σ : Nat → Nat) (m i : Nat) (q : Nat) : Nat := if 9 ≤ q ∧ q < 9 + i then wdS σ (zcw m (q - 9)) ^^^ rotW (σ 2) (σ q ^^^ wdS σ (zcw m (q - 9))) else va_up σ 8 m q
theorem casI_0 (σ : Nat → Nat) (m : Nat) : va_up σ 8 m = casI σ m 0 := funext fun q => (if_neg (by omega)).symm
theorem casI_out (σ : Nat → Nat) (m i : Nat) {q : Nat} (h : q < 8 ∨ 9 + i ≤ q) : casI σ m i q = σ q := by
  unfold casI
  rw [if_neg (by omega), zu_ne _ _ _ (by omega)]
theorem casI_up (σ : Nat → Nat) (m i : Nat) : va_up (casI σ m i) (9 + i) (wdS σ (zcw m i) ^^^ rotW (σ 2) (σ (9 + i) ^^^ wdS σ (zcw m i))) = casI σ m (i + 1) := by
  funext q
  unfold va_up casI
  by_cases h : q = 9 + i
  · subst h; rw [if_pos rfl, if_pos (by omega), show 9 + i - 9 = i from by omega]
  · rw [if_neg h]
    by_cases c : 9 ≤ q ∧ q < 9 + i
    · rw [if_pos c, if_pos (by omega)]
    · rw [if_neg c, if_neg (by omega)]
theorem zWF_cas {σ : Nat → Nat} (h : zWF σ) {m i : Nat} (hm : m < 2 ^ (4 * σ 1)) : zWF (casI σ m i) := by
  refine zWF_keep h (casI_out _ _ _ (by omega)) (casI_out _ _ _ (by omega)) (casI_out _ _ _ (by omega)) (fun i hi => casI_out _ _ _ (by omega)) ?_ ?_ (fun j hj => ?_)
  · rw [casI_out _ _ _ (by omega)]; exact h.2.2.2.2.2.2.2.2.1
  · unfold casI
    rw [if_neg (by omega), zu_eq]; exact hm
  · unfold casI
    split
    · exact Nat.xor_lt_two_pow (zwd_b h _) (rotW_lt _ _)
    · rw [zu_ne _ _ _ (by omega)]; exact h.2.2.2.2.2.2.2.2.2.2.1 j hj
def casN (σ : Nat → Nat) (m : Nat) : Nat → Nat
  | 0 => 0
  | i + 1 => casN σ m i + popc (rotW (σ 2) (σ (9 + i) ^^^ wdS σ (zcw m i)))
theorem casN_le (σ : Nat → Nat) (m : Nat) : ∀ i, casN σ m i ≤ 12 * i
  | 0 => Nat.le_refl 0
  | i + 1 => by
    have h1 := casN_le σ m i
    have h2 := popc_le (rotW (σ 2) (σ (9 + i) ^^^ wdS σ (zcw m i)))
    show casN σ m i + _ ≤ 12 * (i + 1)
    omega
/-- i generators are set -/
def genI (σ wt : Nat → Nat) (b i : Nat) (q : Nat) : Nat := if 3 ≤ q ∧ q < 3 + i then wt (q - 3) else va_up σ 2 b q
theorem genI_0 (σ wt : Nat → Nat) (b : Nat) : va_up σ 2 b = genI σ wt b 0 := funext fun q => (if_neg (by omega)).symm
theorem genI_up (σ wt : Nat → Nat) (b i : Nat) : va_up (genI σ wt b i) (3 + i) (wt i) = genI σ wt b (i + 1) := by
  funext q
  unfold va_up genI
  by_cases h : q = 3 + i
  · subst h; rw [if_pos rfl, if_pos (by omega), show 3 + i - 3 = i from by omega]
  · rw [if_neg h]
    by_cases c : 3 ≤ q ∧ q < 3 + i
    · rw [if_pos c, if_pos (by omega)]
    · rw [if_neg c, if_neg (by omega)]
def innS (σ wt : Nat → Nat) (b : Nat) : Nat → Nat := clr (genI σ wt b 4)
theorem genI_7 (σ wt : Nat → Nat) (b : Nat) : genI σ wt b 4 7 = σ 7 := by
  unfold genI; rw [if_neg (by omega), zu_ne _ _ _ (by decide)]
theorem zWF_inn {σ wt : Nat → Nat} (h : zWF σ) {b : Nat} (b4' : 4 ≤ b) (b10' : b ≤ 10) (hg : genOk wt b = true) : zWF (innS σ wt b) := by
  obtain ⟨n3, n12, d1, d3, dn, b4, b10, gl, lm, sn, wl, wnz⟩ := h
  obtain ⟨g1, g2⟩ := genOk_iff.mp hg
  have e0 : innS σ wt b 0 = σ 0 := rfl
  have e1 : innS σ wt b 1 = σ 1 := rfl
  have e2 : innS σ wt b 2 = b := rfl
  have eg : ∀ j, j < 4 → innS σ wt b (3 + j) = wt j := fun j hj => by
    unfold innS
    rw [clr_ne _ (by omega)]
    unfold genI
    rw [if_pos (by omega), show 3 + j - 3 = j from by omega]
  refine ⟨by omega, by omega, by omega, by omega, by omega, by omega, by omega, fun j hj => by rw [eg j hj, e2]; exact g1 j hj, ?_, ?_, fun j hj => ?_, fun s h0 hs => ?_⟩
  · show 0 < 4096; decide
  · show 0 < _; exact Nat.two_pow_pos _
  · rw [show innS σ wt b (9 + j) = 0 from clr_w _ hj]; exact Nat.two_pow_pos _
  · have : wdS (innS σ wt b) s = gw wt s 4 := gw_cong (fun j hj => by unfold zg; rw [if_pos hj]; exact eg j hj)
    rw [this]; exact g2 s h0 hs
theorem zI_self (x : Int32) : zI x.toInt = x := by
  have h := fb_rng x
  rw [fa_eq, zI_toInt (by omega) (by omega)]
theorem zI_subx (a : Nat) (x : Int32) : nI a - x = zI ((a : Int) - x.toInt) := by
  have h9 := zI_sub (a : Int) x.toInt
  rw [zI_self] at h9
  rw [zI_nat]; exact h9
