theorem zwL_1 (L j : Nat) : zL L j = 0 ∨ zL L j = 1 := by have := zL_01 L j; omega
def lostN (σ : Nat → Nat) : Nat → Nat
  | 0 => 0
  | i + 1 => lostN σ i + zL (σ 7) i
theorem lostN_le (σ : Nat → Nat) : ∀ i, lostN σ i ≤ i
  | 0 => Nat.le_refl 0
  | i + 1 => by
    have := lostN_le σ i
    have := zL_01 (σ 7) i
    show lostN σ i + zL (σ 7) i ≤ i + 1
    omega
def wrN (wd σ : Nat → Nat) : Nat → Nat
  | 0 => 0
  | i + 1 => wrN wd σ i + (if zL (σ 7) i = 1 then 0 else popc (σ (9 + i) ^^^ wd (zcw (σ 8) i)))
theorem wrN_le (wd σ : Nat → Nat) : ∀ i, wrN wd σ i ≤ 12 * i
  | 0 => Nat.le_refl 0
  | i + 1 => by
    have h1 := wrN_le wd σ i
    have h2 := popc_le (σ (9 + i) ^^^ wd (zcw (σ 8) i))
    show wrN wd σ i + (if zL (σ 7) i = 1 then 0 else popc (σ (9 + i) ^^^ wd (zcw (σ 8) i))) ≤ 12 * (i + 1)
    split <;> omega
/-- the bits of block j from place st on and before place en -/
def bmask (b j st en : Nat) : Nat := if st - b * j < min (en - b * j) b then 2 ^ (min (en - b * j) b) - 2 ^ (st - b * j) else 0
theorem zminI {a : Int} {b : Nat} (h1 : -1000 ≤ a) (h2 : a < 1000) (hb : b < 1000) : (if nI b < zI a then nI b else zI a) = zI (min a (b : Int)) := by
  have e : nI b = zI (b : Int) := zI_nat b
  by_cases h : (b : Int) < a
  · have h3 : nI b < zI a := by rw [fa_lt, zt_n (by omega), zI_toInt (by omega) (by omega)]; exact h
    rw [if_pos h3, e, Int.min_eq_right (by omega)]
  · have h3 : ¬ nI b < zI a := by rw [fa_lt, zt_n (by omega), zI_toInt (by omega) (by omega)]; exact h
    rw [if_neg h3, Int.min_eq_left (by omega)]
theorem zminJ {a : Int} {b : Nat} (h1 : -1000 ≤ a) (h2 : a < 1000) (hb : b < 1000) : (if nI b < zI a then nI b else zI a) = zI (min a (b : Int)) := zminI h1 h2 hb
theorem zI_of {z : Int} {n : Nat} (h : z = (n : Int)) : zI z = nI n := by rw [h, zI_nat]
/-- an argument that is a number below N -/
theorem zNat {x : Int32} {N : Nat} (h0 : 0 ≤ x.toInt) (h1 : x.toInt < (N : Int)) : ∃ j : Nat, j < N ∧ x = nI j := by
  have h2 := fb_rng x
  refine ⟨x.toInt.toNat, by omega, ?_⟩
  rw [fa_eq, zt_n (by omega)]
  omega
theorem zToI {j : Nat} (h : j < 2147483648) : (nI j).toInt.toNat = j := by rw [zt_n h]; rfl
def genOk (g : Nat → Nat) (b : Nat) : Bool := (List.range 4).all (fun i => decide (g i < 2 ^ b)) && (List.range 16).all (fun s => s == 0 || !(gw g s 4 == 0))
theorem genOk_iff {g : Nat → Nat} {b : Nat} : genOk g b = true ↔ (∀ i, i < 4 → g i < 2 ^ b) ∧ ∀ s, 0 < s → s < 16 → ¬ gw g s 4 = 0 := by
  unfold genOk
  rw [Bool.and_eq_true, List.all_eq_true, List.all_eq_true]
  constructor
  · intro ⟨h1, h2⟩
    refine ⟨fun i hi => of_decide_eq_true (h1 i (List.mem_range.mpr hi)), fun s h0 hs => ?_⟩
    have h3 := h2 s (List.mem_range.mpr hs)
    intro h4
    rw [h4] at h3
    have h5 : (s == 0) = false := beq_false_of_ne (by omega)
    rw [h5] at h3
    exact absurd h3 (by decide)
  · intro ⟨h1, h2⟩
    refine ⟨fun i hi => decide_eq_true (h1 i (List.mem_range.mp hi)), fun s hs => ?_⟩
    by_cases h0 : s = 0
    · rw [h0]; rfl
    · have h3 := h2 s (by omega) (List.mem_range.mp hs)
      rw [show (gw g s 4 == 0) = false from beq_false_of_ne h3, Bool.or_eq_true]
      exact Or.inr rfl
/-- what block j adds to the score of what was sent -/
def ptS (σ : Nat → Nat) (j : Nat) : Int := if itS σ j = zcw (σ 8) j then ((trS σ j : Nat) : Int) else -((trS σ j : Nat) : Int)
theorem ptS_b (σ : Nat → Nat) (j : Nat) : -10 ≤ ptS σ j ∧ ptS σ j ≤ 10 := by
  have := trS_le σ j
  unfold ptS
  split <;> omega
def relS (σ : Nat → Nat) (w : Nat) : Nat := ddS σ - 2 * gpS σ w
/-- what block j would add if its word were w -/
def ptW (σ : Nat → Nat) (j w : Nat) : Int := if syS σ w = zcw (σ 8) j then ((relS σ w : Nat) : Int) else -((relS σ w : Nat) : Int)
theorem ptW_b (σ : Nat → Nat) (j w : Nat) : -10 ≤ ptW σ j w ∧ ptW σ j w ≤ 10 := by
  have := dd_le σ
  unfold ptW relS
  split <;> omega
def frbP (σ : Nat → Nat) (j b : Nat) : Bool := decide (scS σ (σ 8) - ptS σ j + ptW σ j (σ (9 + j) ^^^ 2 ^ b) ≤ ((barS σ : Nat) : Int))
/-- the blocks in which two codewords differ -/
def dcB (σ : Nat → Nat) (m o j : Nat) : Bool := decide (j < σ 0) && !(zcw m j == zcw o j)
theorem zdifc {σ : Nat → Nat} {m o : Nat} (hm : m < 4096) (ho : o < 4096) : mkS (zcwP m ^^^ zcwP o) &&& mkP (fun j => decide (j < σ 0)) = mkP (dcB σ m o) := by
  have b1 : ∀ j, j < 12 → zcw m j < 16 := fun j hj => zcw_lt hm hj
  have b2 : ∀ j, j < 12 → zcw o j < 16 := fun j hj => zcw_lt ho hj
  rw [zcwP_ok hm, zcwP_ok ho, pak_xor b1 b2, mkS_pak (fun j hj => Nat.xor_lt_two_pow (n := 4) (b1 j hj) (b2 j hj)), mkP_and]
  apply mkP_cong
  intro j hj
  unfold dcB
  have e : (zcw m j ^^^ zcw o j == 0) = (zcw m j == zcw o j) := by
    by_cases d : zcw m j = zcw o j
    · rw [d, Nat.xor_self]; simp
    · have : zcw m j ^^^ zcw o j ≠ 0 := fun z => by
        have h9 : (zcw m j ^^^ zcw o j) ^^^ zcw o j = 0 ^^^ zcw o j := by rw [z]
        rw [Nat.xor_assoc, Nat.xor_self, Nat.xor_zero, Nat.zero_xor] at h9
        exact d h9
      rw [show (zcw m j ^^^ zcw o j == 0) = false from beq_false_of_ne this, show (zcw m j == zcw o j) = false from beq_false_of_ne d]
  rw [e, Bool.and_comm]
def neB (σ : Nat → Nat) (m o : Nat) : Bool := decide (cnt (dcB σ m o) 12 = σ 0 - σ 1 + 1)
/-- the blocks that stay in trial s -/
def kpB (σ : Nat → Nat) (s j : Nat) : Bool := decide (j < σ 0) && decide (s ≤ plS σ j)
theorem kp_ok {σ r0 r1 r2 r3 r4 : Nat → Nat} (kr : zCon σ r0 r1 r2 r3 r4) : ∀ i, i ≤ σ 0 → ∀ j, kp r3 (σ 0) i j = kpB σ i j
  | 0, _, j => by
    show decide (j < σ 0) = (decide (j < σ 0) && decide (0 ≤ plS σ j))
    simp
  | i + 1, h, j => by
    show (kp r3 (σ 0) i j && !(j == r3 i)) = _
    rw [kp_ok kr i (by omega) j]
    unfold kpB
    by_cases c : j < σ 0
    · obtain ⟨h1, h2⟩ := (kr i (by omega)).2.2.2.2
      have e : j = r3 i ↔ plS σ j = i := ⟨fun z => by rw [z]; exact h2, fun z => plS_inj σ c h1 (by rw [z, h2])⟩
      by_cases d : j = r3 i
      · have d2 := e.mp d
        rw [show (j == r3 i) = true from by rw [d]; simp, show decide (i + 1 ≤ plS σ j) = false from decide_eq_false (by omega)]
        simp
      · have d2 : ¬ plS σ j = i := fun z => d (e.mpr z)
        rw [show (j == r3 i) = false from beq_false_of_ne d]
        by_cases f : i ≤ plS σ j
        · rw [decide_eq_true f, show decide (i + 1 ≤ plS σ j) = true from decide_eq_true (by omega)]
          simp
        · rw [show decide (i ≤ plS σ j) = false from decide_eq_false f, show decide (i + 1 ≤ plS σ j) = false from decide_eq_false (by omega)]
          simp
    · simp [c]
/-- the result of trial s -/
def resB (σ : Nat → Nat) (s m : Nat) : Bool := decide (2 * cnt (fun j => difB σ m j && kpB σ s j) 12 + s < σ 0 - σ 1 + 1)
/-- the block at a place of the order -/
def ordS (σ : Nat → Nat) (p : Nat) : Nat := zfst (fun j => plS σ j == p) (σ 0)
theorem ordS_of {σ : Nat → Nat} {p a : Nat} (h1 : a < σ 0) (h2 : plS σ a = p) : ordS σ p = a := by
  refine zfst_at (fun j hj => ?_) (by rw [h2]; simp) h1
  exact beq_false_of_ne (fun z => by have := plS_inj σ (a := j) (b := a) (by omega) h1 (by rw [z, h2]); omega)
/-! what the reading calls answer -/
def wordV (σ : Nat → Nat) (x : Int) : Int32 := if 0 ≤ x ∧ x < 16 then nI (wdS σ x.toNat) else -1001
def prodV (x y : Int) : Int32 := if (0 ≤ x ∧ x < 16) ∧ (0 ≤ y ∧ y < 16) then nI (gmul x.toNat y.toNat) else -1001
def msgP (σ : Nat → Nat) (x : Int) : Prop := 0 ≤ x ∧ x < ((2 ^ (4 * σ 1) : Nat) : Int)
def blkP (σ : Nat → Nat) (y : Int) : Prop := 0 ≤ y ∧ y < ((σ 0 : Nat) : Int)
def symV (σ : Nat → Nat) (x y : Int) : Int32 := if (0 ≤ x ∧ x < ((2 ^ (4 * σ 1) : Nat) : Int)) ∧ (0 ≤ y ∧ y < ((σ 0 : Nat) : Int)) then nI (zcw x.toNat y.toNat) else -1001
def recvV (σ : Nat → Nat) (y : Int) : Int32 := if 0 ≤ y ∧ y < ((σ 0 : Nat) : Int) then (if zL (σ 7) y.toNat = 1 then -1004 else nI (σ (9 + y.toNat))) else -1001
def blockV (σ : Nat → Nat) (y w : Int) : Int32 := if 0 ≤ y ∧ y < ((σ 0 : Nat) : Int) then (if w = 0 then nI (itS σ y.toNat) else if w = 1 then nI (faS σ y.toNat) else if w = 2 then nI (trS σ y.toNat) else if w = 3 then nI (plS σ y.toNat) else if w = 4 then (if itS σ y.toNat = zcw (σ 8) y.toNat then nI 1 else nI 0) else -1001) else -1001
def blockAtV (σ : Nat → Nat) (y : Int) : Int32 := if 0 ≤ y ∧ y < ((σ 0 : Nat) : Int) then nI (ordS σ y.toNat) else -1001
def strS (σ : Nat → Nat) (w : Nat) : Nat := stL (wdS σ) w (syS σ w) (gpS σ w) 16
def strV (σ : Nat → Nat) (y : Int) : Int32 := if 0 ≤ y ∧ y < ((σ 0 : Nat) : Int) then (if zL (σ 7) y.toNat = 1 then -1002 else nI (strS σ (σ (9 + y.toNat)))) else -1001
def trialV (σ : Nat → Nat) (x : Int) : Int32 := if 0 ≤ x ∧ x < ((σ 0 - σ 1 + 1 : Nat) : Int) then orI (nMs σ) (zfst (resB σ x.toNat) (nMs σ)) (-1004) else -1001
def scoreV (σ : Nat → Nat) (x : Int) : Int32 := if 0 ≤ x ∧ x < ((2 ^ (4 * σ 1) : Nat) : Int) then zI (scS σ x.toNat) else -1001
def lawfulV (σ : Nat → Nat) : Int32 := if lawM σ < nMs σ then nI 1 else nI 0
def decodeV (σ : Nat → Nat) : Int32 := orI (nMs σ) (lawM σ) (-1004)
def decTV (σ : Nat → Nat) : Int32 := if lawM σ < nMs σ then orI (σ 0 - σ 1 + 1) (zfst (fun s => resB σ s (lawM σ)) (σ 0 - σ 1 + 1)) (-1004) else -1004
def marginV (σ : Nat → Nat) : Int32 := if lawM σ < nMs σ then zI (scS σ (lawM σ) - ((barS σ : Nat) : Int)) else -1004
def wastedV (σ : Nat → Nat) : Int32 := if lawM σ < nMs σ then nI (cnt (fun s => !resB σ s (lawM σ)) (σ 0 - σ 1 + 1)) else nI (σ 0 - σ 1 + 1)
def guarV (σ : Nat → Nat) : Int32 := if 2 * wrN (wdS σ) σ (σ 0) + ddS σ * lostN σ (σ 0) < ddS σ * (σ 0 - σ 1 + 1) then nI 1 else nI 0
def frbI (σ : Nat → Nat) : Nat → Nat
  | 0 => 0
  | i + 1 => frbI σ i + (if zL (σ 7) i = 1 then 0 else cnt (frbP σ i) (σ 2))
def frkI (σ : Nat → Nat) : Nat → Nat := cnt (fun j => decide (scS σ (σ 8) - ptS σ j ≤ ((barS σ : Nat) : Int)))
def nearV (σ : Nat → Nat) (x : Int) : Int32 := if 0 ≤ x ∧ x < 2 then (if lawM σ < nMs σ then (if x = 0 then nI (σ 0 - σ 1 + 1) else orI (nMs σ) (zfst (neB σ (lawM σ)) (nMs σ)) (-1004)) else -1004) else -1001
def countV (σ : Nat → Nat) (wn hn : Nat) (x : Int) : Int32 := if x = 0 then nI (σ 0) else if x = 1 then nI (σ 1) else if x = 2 then nI (σ 0 - σ 1 + 1) else if x = 3 then nI (σ 2) else if x = 4 then nI (ddS σ) else if x = 5 then nI wn else if x = 6 then nI hn else if x = 7 then nI (lostN σ (σ 0)) else if x = 8 then nI (wrN (wdS σ) σ (σ 0)) else -1001
theorem frbI_le (σ : Nat → Nat) (h : σ 2 ≤ 10) : ∀ i, frbI σ i ≤ 10 * i
  | 0 => Nat.le_refl 0
  | i + 1 => by
    have h1 := frbI_le σ h i
    have h2 := cnt_le (frbP σ i) (σ 2)
    show frbI σ i + _ ≤ 10 * (i + 1)
    split <;> omega
