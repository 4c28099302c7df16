/-! numbers of ones -/
def popc (x : Nat) : Nat := x % 2 + x / 2 % 2 + x / 4 % 2 + x / 8 % 2 + x / 16 % 2 + x / 32 % 2 + x / 64 % 2 + x / 128 % 2 + x / 256 % 2 + x / 512 % 2 + x / 1024 % 2 + x / 2048 % 2
theorem popc_le (x : Nat) : popc x ≤ 12 := by unfold popc; omega
theorem popc_0 : popc 0 = 0 := by decide
def zswar (x : Nat) : Nat :=
  let v1 := x - (x / 2 ^ 1 &&& 1431655765)
  let v2 := (v1 &&& 858993459) + (v1 / 2 ^ 2 &&& 858993459)
  let v3 := (v2 + v2 / 2 ^ 4) &&& 252645135
  let v4 := v3 + v3 / 2 ^ 8
  let v5 := v4 + v4 / 2 ^ 16
  v5 &&& 63
theorem zswar_ok : ∀ x, x < 4096 → zswar x = popc x := by
  have h : (List.range 4096).all (fun x => zswar x == popc x) = true := by decide +kernel
  intro x hx
  have := List.all_eq_true.mp h x (List.mem_range.mpr hx)
  exact eq_of_beq this
theorem popc_step : ∀ v, v < 4096 → v ≠ 0 → popc (v &&& (v - 1)) + 1 = popc v := by
  have h : (List.range 4096).all (fun v => v == 0 || popc (v &&& (v - 1)) + 1 == popc v) = true := by decide +kernel
  intro v hv h0
  have h1 := List.all_eq_true.mp h v (List.mem_range.mpr hv)
  simp only [Bool.or_eq_true, beq_iff_eq] at h1
  exact h1.resolve_left h0
theorem xor_lt {a b : Nat} (n : Nat) (ha : a < 2 ^ n) (hb : b < 2 ^ n) : a ^^^ b < 2 ^ n := Nat.xor_lt_two_pow ha hb
theorem xor_1024 {a b : Nat} (ha : a < 1024) (hb : b < 1024) : a ^^^ b < 1024 := Nat.xor_lt_two_pow (n := 10) ha hb
/-! the field of 16 numbers: the product, as the class makes it and as the reference does -/
def fpS (a b : Nat) : Nat → Nat × Nat
  | 0 => (0, a)
  | i + 1 => (if b / 2 ^ i % 2 = 1 then (fpS a b i).1 ^^^ (fpS a b i).2 else (fpS a b i).1, if 16 ≤ (fpS a b i).2 * 2 then (fpS a b i).2 * 2 ^^^ 19 else (fpS a b i).2 * 2)
def gmul (a b : Nat) : Nat := (fpS a b 4).1
def mlA (a b : Nat) : Nat → Nat
  | 0 => 0
  | i + 1 => mlA a b i ^^^ (if b / 2 ^ i % 2 = 1 then a * 2 ^ i else 0)
/-- what is left when the bits from 6 down to 7 - i are gone -/
def mlB (x : Nat) : Nat → Nat
  | 0 => x
  | i + 1 => mlB x i ^^^ (if mlB x i / 2 ^ (6 - i) % 2 = 1 then 19 * 2 ^ (2 - i) else 0)
def all16 (p : Nat → Nat → Bool) : Bool := (List.range 16).all (fun a => (List.range 16).all (fun b => p a b))
theorem all16_ok {p : Nat → Nat → Bool} (h : all16 p = true) {a b : Nat} (ha : a < 16) (hb : b < 16) : p a b = true := List.all_eq_true.mp (List.all_eq_true.mp h a (List.mem_range.mpr ha)) b (List.mem_range.mpr hb)
theorem fpS_lt {a b i : Nat} (ha : a < 16) (hb : b < 16) (hi : i ≤ 4) : (fpS a b i).1 < 16 ∧ (fpS a b i).2 < 16 := by
  have h : all16 (fun a b => (List.range 5).all (fun i => decide ((fpS a b i).1 < 16 ∧ (fpS a b i).2 < 16))) = true := by decide +kernel
  exact of_decide_eq_true (List.all_eq_true.mp (all16_ok h ha hb) i (List.mem_range.mpr (by omega)))
theorem gmul_lt {a b : Nat} (ha : a < 16) (hb : b < 16) : gmul a b < 16 := (fpS_lt ha hb (Nat.le_refl 4)).1
theorem mlA_lt {a b i : Nat} (ha : a < 16) (hb : b < 16) (hi : i ≤ 4) : mlA a b i < 128 := by
  have h : all16 (fun a b => (List.range 5).all (fun i => decide (mlA a b i < 128))) = true := by decide +kernel
  exact of_decide_eq_true (List.all_eq_true.mp (all16_ok h ha hb) i (List.mem_range.mpr (by omega)))
theorem mlB_lt {x i : Nat} (hx : x < 128) (hi : i ≤ 3) : mlB x i < 128 := by
  have h : (List.range 128).all (fun x => (List.range 4).all (fun i => decide (mlB x i < 128))) = true := by decide +kernel
  exact of_decide_eq_true (List.all_eq_true.mp (List.all_eq_true.mp h x (List.mem_range.mpr hx)) i (List.mem_range.mpr (by omega)))
theorem ml_ok {a b : Nat} (ha : a < 16) (hb : b < 16) : mlB (mlA a b 4) 3 = gmul a b := by
  have h : all16 (fun a b => mlB (mlA a b 4) 3 == gmul a b) = true := by decide +kernel
  exact eq_of_beq (all16_ok h ha hb)
theorem gmul_sq {a b : Nat} (ha : a < 16) (hb : b < 16) : gmul a (gmul b b) = gmul (gmul a b) b := by
  have h : all16 (fun a b => gmul a (gmul b b) == gmul (gmul a b) b) = true := by decide +kernel
  exact eq_of_beq (all16_ok h ha hb)
/-- what a mask says of place j -/
def zL (L j : Nat) : Nat := L / 2 ^ j % 2
/-- the generators of a state -/
def zg (σ : Nat → Nat) (j : Nat) : Nat := if j < 4 then σ (3 + j) else 0
theorem znand1 (a : Nat) : nI a &&& nI 1 = nI (a % 2) := by rw [nx_and, Nat.and_one_is_mod]
theorem zland1 (a : Nat) : lN a &&& lN 1 = lN (a % 2) := by rw [fb_andL, Nat.and_one_is_mod]
theorem zand15 (a : Nat) : nI a &&& nI 15 = nI (a % 16) := by rw [nx_and, show (15 : Nat) = 2 ^ 4 - 1 from rfl, Nat.and_two_pow_sub_one_eq_mod]
/-- the first i numbers of f, then those of g -/
def zmx (i : Nat) (f g : Nat → Nat) : Nat → Nat := fun j => if j < i then f j else g j
theorem zmx_0 (f g : Nat → Nat) : zmx 0 f g = g := funext fun j => if_neg (Nat.not_lt_zero j)
theorem zmx_in {i j : Nat} (f g : Nat → Nat) (h : j < i) : zmx i f g j = f j := if_pos h
theorem zmx_out {i j : Nat} (f g : Nat → Nat) (h : i ≤ j) : zmx i f g j = g j := if_neg (by omega)
theorem zmx_up (i : Nat) (f g : Nat → Nat) : va_up (zmx i f g) i (f i) = zmx (i + 1) f g := by
  funext j
  unfold va_up zmx
  by_cases h : j = i
  · subst h; rw [if_pos rfl, if_pos (by omega)]
  · rw [if_neg h]
    by_cases c : j < i
    · rw [if_pos c, if_pos (by omega)]
    · rw [if_neg c, if_neg (by omega)]
/-! the words of the inner code -/
def gw (g : Nat → Nat) (s : Nat) : Nat → Nat
  | 0 => 0
  | i + 1 => gw g s i ^^^ (if s / 2 ^ i % 2 = 1 then g i else 0)
theorem gw_lt {g : Nat → Nat} {s : Nat} (n : Nat) : ∀ {i : Nat}, (∀ j, j < i → g j < 2 ^ n) → gw g s i < 2 ^ n
  | 0, _ => Nat.two_pow_pos n
  | i + 1, h => by
    refine Nat.xor_lt_two_pow (gw_lt n (fun j hj => h j (by omega))) ?_
    by_cases c : s / 2 ^ i % 2 = 1
    · rw [if_pos c]; exact h i (by omega)
    · rw [if_neg c]; exact Nat.two_pow_pos n
theorem gw_cong {g g2 : Nat → Nat} {s : Nat} : ∀ {i : Nat}, (∀ j, j < i → g j = g2 j) → gw g s i = gw g2 s i
  | 0, _ => rfl
  | i + 1, h => by
    show gw g s i ^^^ _ = gw g2 s i ^^^ _
    rw [gw_cong (fun j hj => h j (by omega)), h i (by omega)]
/-- the word of a symbol -/
def wdS (σ : Nat → Nat) (s : Nat) : Nat := gw (zg σ) s 4
/-- the least number of ones in a word of the symbols 1 to i - 1, c where there is none below c -/
def dmin (W : Nat → Nat) (c : Nat) : Nat → Nat
  | 0 => c
  | i + 1 => if i = 0 then c else min (dmin W c i) (popc (W i))
def ddS (σ : Nat → Nat) : Nat := dmin (wdS σ) 10 16
/-- the lowest symbol below i + 1 whose word is the closest to w -/
def sym (W : Nat → Nat) (w : Nat) : Nat → Nat
  | 0 => 0
  | i + 1 => if popc (w ^^^ W (i + 1)) < popc (w ^^^ W (sym W w i)) then i + 1 else sym W w i
theorem sym_le (W : Nat → Nat) (w : Nat) : ∀ i, sym W w i ≤ i
  | 0 => Nat.le_refl 0
  | i + 1 => by
    have h := sym_le W w i
    unfold sym
    by_cases c : popc (w ^^^ W (i + 1)) < popc (w ^^^ W (sym W w i))
    · rw [if_pos c]; exact Nat.le_refl _
    · rw [if_neg c]; omega
def syS (σ : Nat → Nat) (w : Nat) : Nat := sym (wdS σ) w 15
def gpS (σ : Nat → Nat) (w : Nat) : Nat := popc (w ^^^ wdS σ (syS σ w))
/-! twelve numbers below 16 in one -/
def pak (f : Nat → Nat) : Nat → Nat
  | 0 => 0
  | b + 1 => pak f b ||| f b * 2 ^ (4 * b)
theorem pak_lt {f : Nat → Nat} : ∀ {b : Nat}, (∀ j, j < b → f j < 16) → pak f b < 2 ^ (4 * b)
  | 0, _ => Nat.zero_lt_one
  | b + 1, h => by
    have h1 : pak f b < 2 ^ (4 * b) := pak_lt (fun j hj => h j (by omega))
    have e : 2 ^ (4 * (b + 1)) = 16 * 2 ^ (4 * b) := by rw [show 4 * (b + 1) = 4 * b + 4 from by omega, Nat.pow_add]; omega
    have h2 : f b * 2 ^ (4 * b) < 2 ^ (4 * (b + 1)) := by
      rw [e]; exact Nat.mul_lt_mul_of_pos_right (h b (by omega)) (Nat.two_pow_pos _)
    exact Nat.or_lt_two_pow (Nat.lt_of_lt_of_le h1 (Nat.pow_le_pow_right (by decide) (by omega))) h2
theorem pak_bit {f : Nat → Nat} : ∀ {b : Nat}, (∀ j, j < b → f j < 16) → ∀ i, (pak f b).testBit i = (decide (i < 4 * b) && (f (i / 4)).testBit (i % 4))
  | 0, _, i => by simp [pak]
  | b + 1, h, i => by
    have h1 := pak_bit (f := f) (b := b) (fun j hj => h j (by omega)) i
    show (pak f b ||| f b * 2 ^ (4 * b)).testBit i = _
    rw [Nat.testBit_or, h1, Nat.testBit_mul_two_pow]
    by_cases c1 : i < 4 * b
    · have c2 : ¬ 4 * b ≤ i := by omega
      have c3 : i < 4 * (b + 1) := by omega
      simp [c1, c2, c3]
    · by_cases c3 : i < 4 * (b + 1)
      · have c2 : 4 * b ≤ i := by omega
        have e1 : i / 4 = b := by omega
        have e2 : i % 4 = i - 4 * b := by omega
        simp [c1, c2, c3, e1, e2]
      · have c2 : 4 * b ≤ i := by omega
        have e0 : (f b).testBit (i - 4 * b) = false := Nat.testBit_lt_two_pow (Nat.lt_of_lt_of_le (h b (by omega)) (show 2 ^ 4 ≤ 2 ^ (i - 4 * b) from Nat.pow_le_pow_right (by decide) (by omega)))
        simp [c1, c2, c3, e0]
theorem pak_cong {f g : Nat → Nat} : ∀ {b : Nat}, (∀ j, j < b → f j = g j) → pak f b = pak g b
  | 0, _ => rfl
  | b + 1, h => by
    show pak f b ||| _ = pak g b ||| _
    rw [pak_cong (fun j hj => h j (by omega)), h b (by omega)]
/-- numbers whose bits below 48 agree -/
theorem pak_ext {x y : Nat} {b : Nat} (hx : x < 2 ^ b) (hy : y < 2 ^ b) (h : ∀ i, i < b → x.testBit i = y.testBit i) : x = y := by
  apply Nat.eq_of_testBit_eq
  intro i
  by_cases c : i < b
  · exact h i c
  · rw [Nat.testBit_lt_two_pow (Nat.lt_of_lt_of_le hx (Nat.pow_le_pow_right (by decide) (by omega))), Nat.testBit_lt_two_pow (Nat.lt_of_lt_of_le hy (Nat.pow_le_pow_right (by decide) (by omega)))]
theorem pak_xor {f g : Nat → Nat} {b : Nat} (hf : ∀ j, j < b → f j < 16) (hg : ∀ j, j < b → g j < 16) : pak f b ^^^ pak g b = pak (fun j => f j ^^^ g j) b := by
  have hfg : ∀ j, j < b → (fun j => f j ^^^ g j) j < 16 := fun j hj => Nat.xor_lt_two_pow (n := 4) (hf j hj) (hg j hj)
  apply pak_ext (Nat.xor_lt_two_pow (pak_lt hf) (pak_lt hg)) (pak_lt hfg)
  intro i hi
  rw [Nat.testBit_xor, pak_bit hf, pak_bit hg, pak_bit hfg]
  simp [hi]
theorem pak_and {f g : Nat → Nat} {b : Nat} (hf : ∀ j, j < b → f j < 16) (hg : ∀ j, j < b → g j < 16) : pak f b &&& pak g b = pak (fun j => f j &&& g j) b := by
  have hfg : ∀ j, j < b → (fun j => f j &&& g j) j < 16 := fun j hj => Nat.and_lt_two_pow (n := 4) _ (hg j hj)
  apply pak_ext (Nat.and_lt_two_pow _ (pak_lt hg)) (pak_lt hfg)
  intro i hi
  rw [Nat.testBit_and, pak_bit hf, pak_bit hg, pak_bit hfg]
  simp [hi]
/-- a number that is 0 from a place on -/
theorem pak_zero {f : Nat → Nat} {n : Nat} : ∀ {b : Nat}, n ≤ b → (∀ j, n ≤ j → j < b → f j = 0) → pak f b = pak f n
  | 0, h, _ => by rw [show n = 0 from by omega]
  | b + 1, h, hz => by
    rcases Nat.lt_or_ge b n with c | c
    · rw [show n = b + 1 from by omega]
    · show pak f b ||| f b * 2 ^ (4 * b) = _
      rw [hz b c (by omega), Nat.zero_mul, Nat.or_zero, pak_zero c (fun j h1 h2 => hz j h1 (by omega))]
theorem pak_at {f : Nat → Nat} {b j : Nat} (hf : ∀ j, j < b → f j < 16) (hj : j < b) : pak f b / 2 ^ (4 * j) % 16 = f j := by
  apply Nat.eq_of_testBit_eq
  intro i
  rw [show (16 : Nat) = 2 ^ 4 from rfl, Nat.testBit_mod_two_pow, Nat.testBit_div_two_pow, pak_bit hf]
  by_cases c : i < 4
  · have e1 : (i + 4 * j) / 4 = j := by omega
    have e2 : (i + 4 * j) % 4 = i := by omega
    have e3 : i + 4 * j < 4 * b := by omega
    simp [c, e1, e2, e3]
  · have e0 : (f j).testBit i = false := Nat.testBit_lt_two_pow (Nat.lt_of_lt_of_le (hf j hj) (show 2 ^ 4 ≤ 2 ^ i from Nat.pow_le_pow_right (by decide) (by omega)))
    simp [c, e0]
def zOnes : Nat := 18764998447377
/-- marks the symbols that are not 0 -/
def mkS (x : Nat) : Nat := ((x ||| x / 2 ^ 1) ||| (x ||| x / 2 ^ 1) / 2 ^ 2) &&& zOnes
def b01 (p : Bool) : Nat := if p then 1 else 0
theorem b01_lt (p : Bool) : b01 p < 16 := by cases p <;> decide
/-- marks of the places where p holds -/
def mkP (p : Nat → Bool) : Nat := pak (fun j => b01 (p j)) 12
theorem mkP_lt (p : Nat → Bool) : mkP p < 2 ^ 48 := pak_lt (b := 12) (fun j _ => b01_lt (p j))
theorem zOnes_pak : zOnes = mkP (fun _ => true) := by decide +kernel
theorem bit_1 (p : Bool) (i : Nat) : (b01 p).testBit i = (p && decide (i = 0)) := by
  cases p
  · simp [b01]
  · by_cases h : i = 0
    · subst h; rfl
    · obtain ⟨k, rfl⟩ : ∃ k, i = k + 1 := ⟨i - 1, by omega⟩
      simp [b01, Nat.testBit_succ]
theorem mkP_bit (p : Nat → Bool) (i : Nat) : (mkP p).testBit i = (decide (i < 48) && (p (i / 4) && decide (i % 4 = 0))) := by
  show (pak (fun j => b01 (p j)) 12).testBit i = _
  rw [pak_bit (fun j _ => b01_lt (p j)), bit_1]
theorem nib_0 (x : Nat) (hx : x < 16) : (x.testBit 0 || x.testBit 1 || x.testBit 2 || x.testBit 3) = !(x == 0) := by
  have h : (List.range 16).all (fun x => (x.testBit 0 || x.testBit 1 || x.testBit 2 || x.testBit 3) == !(x == 0)) = true := by decide
  exact eq_of_beq (List.all_eq_true.mp h x (List.mem_range.mpr hx))
theorem mkS_pak {f : Nat → Nat} (hf : ∀ j, j < 12 → f j < 16) : mkS (pak f 12) = mkP (fun j => !(f j == 0)) := by
  have hp := pak_lt hf
  have h1 : mkS (pak f 12) < 2 ^ 48 := Nat.lt_of_le_of_lt Nat.and_le_right (by decide)
  apply pak_ext h1 (mkP_lt _)
  intro i hi
  rw [mkP_bit]
  unfold mkS
  rw [zOnes_pak, Nat.testBit_and, mkP_bit]
  simp only [Nat.testBit_or, Nat.testBit_div_two_pow, pak_bit hf]
  by_cases c : i % 4 = 0
  · have e1 : (i + 1) / 4 = i / 4 := by omega
    have e2 : (i + 2) / 4 = i / 4 := by omega
    have e3 : (i + 2 + 1) / 4 = i / 4 := by omega
    have m1 : (i + 1) % 4 = 1 := by omega
    have m2 : (i + 2) % 4 = 2 := by omega
    have m3 : (i + 2 + 1) % 4 = 3 := by omega
    have l0 : i < 48 := hi
    have l1 : i + 1 < 48 := by omega
    have l2 : i + 2 < 48 := by omega
    have l3 : i + 2 + 1 < 48 := by omega
    have hn := nib_0 (f (i / 4)) (hf _ (by omega))
    simp only [e1, e2, e3, m1, m2, m3, c, l0, l1, l2, l3, decide_true, Bool.true_and, Bool.and_true]
    rw [← hn]
    simp only [Bool.or_assoc]
  · simp [c]
theorem mkP_and (p q : Nat → Bool) : mkP p &&& mkP q = mkP (fun j => p j && q j) := by
  apply pak_ext (Nat.and_lt_two_pow _ (mkP_lt q)) (mkP_lt _)
  intro i hi
  rw [Nat.testBit_and, mkP_bit, mkP_bit, mkP_bit]
  by_cases c : i % 4 = 0 <;> simp [hi, c]
theorem mkP_cong {p q : Nat → Bool} (h : ∀ j, j < 12 → p j = q j) : mkP p = mkP q := pak_cong (fun j hj => by rw [h j hj])
/-- how many of the first n places p holds at -/
def cnt (p : Nat → Bool) : Nat → Nat
  | 0 => 0
  | n + 1 => cnt p n + b01 (p n)
def mkN (m : Nat) : Nat := mkP (fun j => m / 2 ^ j % 2 == 1)
def zswL (x : Nat) : Nat :=
  let v1 := x - (x / 2 ^ 1 &&& 6148914691236517205)
  let v2 := (v1 &&& 3689348814741910323) + (v1 / 2 ^ 2 &&& 3689348814741910323)
  let v3 := (v2 + v2 / 2 ^ 4) &&& 1085102592571150095
  let v4 := v3 + v3 / 2 ^ 8
  let v5 := v4 + v4 / 2 ^ 16
  let v6 := v5 + v5 / 2 ^ 32
  v6 &&& 127
theorem zswL_N : ∀ m, m < 4096 → zswL (mkN m) = cnt (fun j => m / 2 ^ j % 2 == 1) 12 := by
  have h : (List.range 4096).all (fun m => zswL (mkN m) == cnt (fun j => m / 2 ^ j % 2 == 1) 12) = true := by decide +kernel
  intro m hm
  exact eq_of_beq (List.all_eq_true.mp h m (List.mem_range.mpr hm))
theorem cnt_cong {p q : Nat → Bool} : ∀ {n : Nat}, (∀ j, j < n → p j = q j) → cnt p n = cnt q n
  | 0, _ => rfl
  | n + 1, h => by
    show cnt p n + _ = cnt q n + _
    rw [cnt_cong (fun j hj => h j (by omega)), h n (by omega)]
/-- the number whose bits are p -/
def pm (p : Nat → Bool) : Nat → Nat
  | 0 => 0
  | n + 1 => pm p n + b01 (p n) * 2 ^ n
theorem pm_ok (p : Nat → Bool) : ∀ n, pm p n < 2 ^ n ∧ ∀ j, j < n → (pm p n / 2 ^ j % 2 == 1) = p j
  | 0 => ⟨Nat.zero_lt_one, fun j hj => absurd hj (Nat.not_lt_zero j)⟩
  | n + 1 => by
    obtain ⟨h1, h2⟩ := pm_ok p n
    have e2 : 2 ^ (n + 1) = 2 * 2 ^ n := by rw [Nat.pow_succ]; omega
    have e : pm p (n + 1) = pm p n + b01 (p n) * 2 ^ n := rfl
    refine ⟨by rw [e, e2]; cases p n <;> simp [b01] <;> omega, fun j hj => ?_⟩
    rw [e]
    by_cases c : j = n
    · subst c
      rw [Nat.add_mul_div_right _ _ (Nat.two_pow_pos j), Nat.div_eq_of_lt h1]
      cases p j <;> simp [b01]
    · have hj' : j < n := by omega
      rw [← h2 j hj']
      obtain ⟨d, rfl⟩ : ∃ d, n = j + 1 + d := ⟨n - j - 1, by omega⟩
      have e3 : b01 (p (j + 1 + d)) * 2 ^ (j + 1 + d) = (b01 (p (j + 1 + d)) * 2 ^ d * 2) * 2 ^ j := by
        rw [show 2 ^ (j + 1 + d) = 2 ^ d * 2 * 2 ^ j from by rw [Nat.pow_add, Nat.pow_add, Nat.pow_one, Nat.mul_comm, Nat.mul_assoc, Nat.mul_comm (2 ^ j) 2]]
        simp [Nat.mul_assoc]
      rw [e3, Nat.add_mul_div_right _ _ (Nat.two_pow_pos j), Nat.add_mul_mod_self_right]
theorem zswL_ok (p : Nat → Bool) : zswL (mkP p) = cnt p 12 := by
  obtain ⟨h1, h2⟩ := pm_ok p 12
  have e : mkP p = mkN (pm p 12) := mkP_cong (fun j hj => (h2 j hj).symm)
  rw [e, zswL_N _ h1]
  exact cnt_cong h2
theorem cnt_le (p : Nat → Bool) : ∀ n, cnt p n ≤ n
  | 0 => Nat.le_refl 0
  | n + 1 => by
    have := cnt_le p n
    show cnt p n + b01 (p n) ≤ n + 1
    cases p n <;> simp [b01] <;> omega
/-! the outer code -/
def psym (i v j : Nat) : Nat := if i = 0 then v else if i = 1 then gmul v (j + 1) else gmul (gmul v (j + 1)) (j + 1)
theorem psym_lt {i v j : Nat} (hv : v < 16) (hj : j < 12) : psym i v j < 16 := by
  unfold psym
  split
  · exact hv
  · split
    · exact gmul_lt hv (by omega)
    · exact gmul_lt (gmul_lt hv (by omega)) (by omega)
def zParts (q : Nat) : Nat := pak (psym (q / 16) (q % 16)) 12
/-- the symbol of block j in the codeword of message m -/
def zcw (m j : Nat) : Nat := m % 16 ^^^ gmul (m / 16 % 16) (j + 1) ^^^ gmul (m / 256) (gmul (j + 1) (j + 1))
def zcwP (m : Nat) : Nat := zParts (m % 16) ^^^ zParts (16 + m / 16 % 16) ^^^ zParts (32 + m / 256 % 16)
theorem zcw_lt {m j : Nat} (hm : m < 4096) (hj : j < 12) : zcw m j < 16 := Nat.xor_lt_two_pow (n := 4) (Nat.xor_lt_two_pow (n := 4) (by omega) (gmul_lt (by omega) (by omega))) (gmul_lt (by omega) (gmul_lt (by omega) (by omega)))
theorem zcwP_ok {m : Nat} (hm : m < 4096) : zcwP m = pak (zcw m) 12 := by
  have a0 : ∀ j, j < 12 → psym (m % 16 / 16) (m % 16 % 16) j < 16 := fun j hj => psym_lt (by omega) hj
  have a1 : ∀ j, j < 12 → psym ((16 + m / 16 % 16) / 16) ((16 + m / 16 % 16) % 16) j < 16 := fun j hj => psym_lt (by omega) hj
  have a2 : ∀ j, j < 12 → psym ((32 + m / 256 % 16) / 16) ((32 + m / 256 % 16) % 16) j < 16 := fun j hj => psym_lt (by omega) hj
  unfold zcwP zParts
  rw [pak_xor a0 a1, pak_xor (fun j hj => Nat.xor_lt_two_pow (n := 4) (a0 j hj) (a1 j hj)) a2]
  apply pak_cong
  intro j hj
  have e0 : m % 16 / 16 = 0 := by omega
  have e1 : (16 + m / 16 % 16) / 16 = 1 := by omega
  have e2 : (32 + m / 256 % 16) / 16 = 2 := by omega
  have f0 : m % 16 % 16 = m % 16 := by omega
  have f1 : (16 + m / 16 % 16) % 16 = m / 16 % 16 := by omega
  have f2 : (32 + m / 256 % 16) % 16 = m / 256 := by omega
  simp only [e0, e1, e2, f0, f1, f2]
  show m % 16 ^^^ gmul (m / 16 % 16) (j + 1) ^^^ gmul (gmul (m / 256) (j + 1)) (j + 1) = _
  rw [← gmul_sq (by omega) (by omega)]
  rfl
theorem zcwP_lt {m : Nat} (hm : m < 4096) : zcwP m < 2 ^ 48 := by rw [zcwP_ok hm]; exact pak_lt (b := 12) (fun j hj => zcw_lt hm hj)
/-! one block -/
def itC (wd : Nat → Nat) (σ : Nat → Nat) (j : Nat) : Nat := if zL (σ 7) j = 1 then 0 else sym wd (σ (9 + j)) 15
def faC (wd : Nat → Nat) (σ : Nat → Nat) (j : Nat) : Nat := if zL (σ 7) j = 1 then 0 else popc (σ (9 + j) ^^^ wd (sym wd (σ (9 + j)) 15))
def trC (wd : Nat → Nat) (dd : Nat) (σ : Nat → Nat) (j : Nat) : Nat := if zL (σ 7) j = 1 then 0 else dd - 2 * faC wd σ j
/-- the blocks ahead of block j, by reliability, then by number -/
def befP (r : Nat → Nat) (j i : Nat) : Bool := decide (r i < r j ∨ (r i = r j ∧ i < j))
def bef (r : Nat → Nat) (N j : Nat) : Nat := cnt (befP r j) N
/-- the order after i blocks: block j stands at its place -/
def ordI (pl r : Nat → Nat) : Nat → Nat → Nat
  | 0 => r
  | i + 1 => va_up (ordI pl r i) (pl i) i
/-- the score by the marks of the blocks that differ -/
def scD (d : Nat) (r : Nat → Nat) : Nat → Int
  | 0 => 0
  | i + 1 => scD d r i + (if d / 2 ^ (4 * i) % 2 = 1 then -((r i : Nat) : Int) else ((r i : Nat) : Int))
/-- the blocks that stay when the first i of the order are erased -/
def kp (r : Nat → Nat) (N : Nat) : Nat → Nat → Bool
  | 0 => fun j => decide (j < N)
  | i + 1 => fun j => kp r N i j && !(j == r i)
/-- bits to another symbol -/
def stN (W : Nat → Nat) (w c g i : Nat) : Nat := if i < c then (popc (w ^^^ W i) - g + 1) / 2 else (popc (w ^^^ W i) - g) / 2 + 1
def stL (W : Nat → Nat) (w c g : Nat) : Nat → Nat
  | 0 => 10
  | i + 1 => if i = c then stL W w c g i else min (stL W w c g i) (stN W w c g i)
theorem sym_min (W : Nat → Nat) (w : Nat) : ∀ i j, j ≤ i → popc (w ^^^ W (sym W w i)) ≤ popc (w ^^^ W j)
  | 0, j, h => by rw [show j = 0 from by omega]; exact Nat.le_refl _
  | i + 1, j, h => by
    have hi := sym_min W w i
    have e : sym W w (i + 1) = if popc (w ^^^ W (i + 1)) < popc (w ^^^ W (sym W w i)) then i + 1 else sym W w i := rfl
    rw [e]
    by_cases c : popc (w ^^^ W (i + 1)) < popc (w ^^^ W (sym W w i))
    · rw [if_pos c]
      by_cases hj : j = i + 1
      · rw [hj]; exact Nat.le_refl _
      · have := hi j (by omega); omega
    · rw [if_neg c]
      by_cases hj : j = i + 1
      · rw [hj]; omega
      · exact hi j (by omega)
theorem dmin_le (W : Nat → Nat) (c : Nat) : ∀ i, dmin W c i ≤ c
  | 0 => Nat.le_refl c
  | i + 1 => by
    have := dmin_le W c i
    unfold dmin
    split
    · exact Nat.le_refl c
    · exact Nat.le_trans (Nat.min_le_left _ _) this
theorem mk_marks : ∀ n, n ≤ 12 → 18764998447377 &&& (1 * 2 ^ (4 * n) - 1) = mkP (fun j => decide (j < n)) := by
  have h : (List.range 13).all (fun n => 18764998447377 &&& (1 * 2 ^ (4 * n) - 1) == mkP (fun j => decide (j < n))) = true := by decide +kernel
  intro n hn
  exact eq_of_beq (List.all_eq_true.mp h n (List.mem_range.mpr (by omega)))
/-- what a state keeps at all times -/
def zWF (σ : Nat → Nat) : Prop := 3 ≤ σ 0 ∧ σ 0 ≤ 12 ∧ 1 ≤ σ 1 ∧ σ 1 ≤ 3 ∧ σ 1 < σ 0 ∧ 4 ≤ σ 2 ∧ σ 2 ≤ 10 ∧ (∀ j, j < 4 → σ (3 + j) < 2 ^ σ 2) ∧ σ 7 < 4096 ∧ σ 8 < 2 ^ (4 * σ 1) ∧ (∀ j, j < 12 → σ (9 + j) < 2 ^ σ 2) ∧ ∀ s, 0 < s → s < 16 → ¬ wdS σ s = 0
theorem zg_b {σ : Nat → Nat} (h : zWF σ) : ∀ j, j < 4 → zg σ j < 2 ^ σ 2 := fun j hj => by
  unfold zg; rw [if_pos hj]; exact h.2.2.2.2.2.2.2.1 j hj
theorem zp_b {b : Nat} (h : b ≤ 10) : 2 ^ b ≤ 1024 := (Nat.pow_le_pow_right (by decide) h : 2 ^ b ≤ 2 ^ 10)
theorem zp_k {k : Nat} (h : k ≤ 3) : 2 ^ (4 * k) ≤ 4096 := (Nat.pow_le_pow_right (by decide) (by omega) : 2 ^ (4 * k) ≤ 2 ^ 12)
theorem zwd_b {σ : Nat → Nat} (h : zWF σ) (s : Nat) : wdS σ s < 2 ^ σ 2 := gw_lt (σ 2) (zg_b h)
theorem zwd_1024 {σ : Nat → Nat} (h : zWF σ) (s : Nat) : wdS σ s < 1024 := Nat.lt_of_lt_of_le (zwd_b h s) (zp_b h.2.2.2.2.2.2.1)
theorem zL_01 (L j : Nat) : zL L j < 2 := Nat.mod_lt _ (by decide)
theorem zw_1024 {σ : Nat → Nat} (h : zWF σ) {j : Nat} (hj : j < 12) : σ (9 + j) < 1024 := Nat.lt_of_lt_of_le (h.2.2.2.2.2.2.2.2.2.2.1 j hj) (zp_b h.2.2.2.2.2.2.1)
theorem gw_1024 {g : Nat → Nat} {s : Nat} (h : ∀ j, j < 4 → g j < 1024) : gw g s 4 < 1024 := gw_lt 10 h
theorem dd_le (σ : Nat → Nat) : ddS σ ≤ 10 := dmin_le _ _ _
theorem stL_le (W : Nat → Nat) (w c g : Nat) : ∀ i, stL W w c g i ≤ 10
  | 0 => Nat.le_refl 10
  | i + 1 => by
    have := stL_le W w c g i
    unfold stL
    split
    · exact this
    · exact Nat.le_trans (Nat.min_le_left _ _) this
theorem stN_le (W : Nat → Nat) (w c g i : Nat) : stN W w c g i ≤ 7 := by
  have := popc_le (w ^^^ W i)
  unfold stN
  split <;> omega
