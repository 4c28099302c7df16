/-! the cells behind the constructors -/
def zW4 (Y : Nat → ClassId) (h0 : Nat) (u : Nat → Nat) : va_W := [(h0, .inr (4, [.int (nI (st0 0)), .int (nI (st0 1)), .int (nI (st0 2)), .ref (u 1), .ref (u 2), .ref (u 3), .int (nI (st0 8))])), (u 1, .inl (Y 0, 4, .inl (fun j => nI (zg st0 j)))), (u 2, .inl (Y 0, 12, .inl (fun j => nI (st0 (9 + j))))), (u 3, .inl (Y 1, 12, .inl (fun j => nI (zL (st0 7) j))))]
def zW1 (Y : Nat → ClassId) (h0 : Nat) (u : Nat → Nat) : va_W := [(h0, .inr (1, [.ref (u 1), .int (nI 0)])), (u 1, .inl (Y 0, 16, .inl (fun _ => 0)))]
def zW2 (Y : Nat → ClassId) (h0 : Nat) (u : Nat → Nat) : va_W := [(h0, .inr (2, [.ref (u 1)])), (u 1, .inl (Y 2, 48, .inr (.inl (fun j => lN (zParts j)))))]
def zW3 (Y : Nat → ClassId) (h0 : Nat) (u : Nat → Nat) : va_W := [(h0, .inr (3, [.ref (u 1), .ref (u 2), .ref (u 3), .ref (u 4), .ref (u 5), .int (nI 0), .long (lN 0), .long (lN 0)])), (u 1, .inl (Y 0, 12, .inl (fun _ => 0))), (u 2, .inl (Y 0, 12, .inl (fun _ => 0))), (u 3, .inl (Y 0, 12, .inl (fun _ => 0))), (u 4, .inl (Y 0, 12, .inl (fun _ => 0))), (u 5, .inl (Y 0, 12, .inl (fun _ => 0)))]
def zW0 (Y : Nat → ClassId) (h0 : Nat) (u : Nat → Nat) : va_W := [(h0, .inr (0, [.ref (u 24), .int (nI 0)])), (u 24, .inl (Y 4, 6, .inr (.inr (.inr (.inr (fun j => some (u (4 * j)))))))), (u 0, .inr (4, [.int (nI (st0 0)), .int (nI (st0 1)), .int (nI (st0 2)), .ref (u 1), .ref (u 2), .ref (u 3), .int (nI (st0 8))])), (u 1, .inl (Y 0, 4, .inl (fun j => nI (zg st0 j)))), (u 2, .inl (Y 0, 12, .inl (fun j => nI (st0 (9 + j))))), (u 3, .inl (Y 1, 12, .inl (fun j => nI (zL (st0 7) j)))), (u 4, .inr (4, [.int (nI (st0 0)), .int (nI (st0 1)), .int (nI (st0 2)), .ref (u 5), .ref (u 6), .ref (u 7), .int (nI (st0 8))])), (u 5, .inl (Y 0, 4, .inl (fun j => nI (zg st0 j)))), (u 6, .inl (Y 0, 12, .inl (fun j => nI (st0 (9 + j))))), (u 7, .inl (Y 1, 12, .inl (fun j => nI (zL (st0 7) j)))), (u 8, .inr (4, [.int (nI (st0 0)), .int (nI (st0 1)), .int (nI (st0 2)), .ref (u 9), .ref (u 10), .ref (u 11), .int (nI (st0 8))])), (u 9, .inl (Y 0, 4, .inl (fun j => nI (zg st0 j)))), (u 10, .inl (Y 0, 12, .inl (fun j => nI (st0 (9 + j))))), (u 11, .inl (Y 1, 12, .inl (fun j => nI (zL (st0 7) j)))), (u 12, .inr (4, [.int (nI (st0 0)), .int (nI (st0 1)), .int (nI (st0 2)), .ref (u 13), .ref (u 14), .ref (u 15), .int (nI (st0 8))])), (u 13, .inl (Y 0, 4, .inl (fun j => nI (zg st0 j)))), (u 14, .inl (Y 0, 12, .inl (fun j => nI (st0 (9 + j))))), (u 15, .inl (Y 1, 12, .inl (fun j => nI (zL (st0 7) j)))), (u 16, .inr (4, [.int (nI (st0 0)), .int (nI (st0 1)), .int (nI (st0 2)), .ref (u 17), .ref (u 18), .ref (u 19), .int (nI (st0 8))])), (u 17, .inl (Y 0, 4, .inl (fun j => nI (zg st0 j)))), (u 18, .inl (Y 0, 12, .inl (fun j => nI (st0 (9 + j))))), (u 19, .inl (Y 1, 12, .inl (fun j => nI (zL (st0 7) j)))), (u 20, .inr (4, [.int (nI (st0 0)), .int (nI (st0 1)), .int (nI (st0 2)), .ref (u 21), .ref (u 22), .ref (u 23), .int (nI (st0 8))])), (u 21, .inl (Y 0, 4, .inl (fun j => nI (zg st0 j)))), (u 22, .inl (Y 0, 12, .inl (fun j => nI (st0 (9 + j))))), (u 23, .inl (Y 1, 12, .inl (fun j => nI (zL (st0 7) j))))]
def zOX (Y : Nat → ClassId) (h0 q : Nat) (pz : Nat → Nat) : va_W := [(h0, .inr (2, [.ref q])), (q, .inl (Y 2, 48, .inr (.inl (fun j => lN (pz j)))))]
def zsc (h0 : Nat) (u : Nat → Nat) : Nat → Nat
  | 0 => h0
  | k + 1 => u (k + 1)
def zau (l : List Nat) (f : Nat → Nat) (k : Nat) : Nat := if k < 18 then l.getD k 0 else f (k - 18)
theorem zau_hi (l : List Nat) (f : Nat → Nat) : (fun k => zau l f (k + 18)) = f := funext fun k => by
  unfold zau
  rw [if_neg (by omega), Nat.add_sub_cancel]
/-! the parts of the codewords, made piece by piece -/
def psy (v j : Nat) : Nat → Nat
  | 0 => v
  | i + 1 => gmul (psy v j i) (j + 1)
theorem psy_lt {v j i : Nat} (hv : v < 16) (hj : j < 12) : psy v j i < 16 := by
  induction i with
  | zero => exact hv
  | succ i ih => exact gmul_lt ih (by omega)
theorem psy_ok {v j i : Nat} (hi : i < 3) : psy v j i = psym i v j := by
  rcases (show i = 0 ∨ i = 1 ∨ i = 2 by omega) with rfl | rfl | rfl <;> rfl
def oV (v q : Nat) : Nat := if q % 16 < v ∧ q / 16 < 3 then zParts q else 0
def oT (v t q : Nat) : Nat := if q % 16 = v then pak (psym (q / 16) v) (if q / 16 < 3 then t else 0) else oV v q
def oI (v t i q : Nat) : Nat := if q % 16 = v then pak (psym (q / 16) v) (if q / 16 < i then t + 1 else if q / 16 < 3 then t else 0) else oV v q
theorem oV_0 : oV 0 = fun _ => 0 := funext fun q => if_neg (by omega)
theorem oT_0 (v : Nat) : oV v = oT v 0 := funext fun q => by
  unfold oT
  by_cases c : q % 16 = v
  · rw [if_pos c, ite_self]
    exact if_neg (by omega)
  · rw [if_neg c]
theorem oI_0 (v t : Nat) : oT v t = oI v t 0 := funext fun q => by
  unfold oT oI
  by_cases c : q % 16 = v
  · rw [if_pos c, if_pos c, if_neg (c := q / 16 < 0) (by omega)]
  · rw [if_neg c, if_neg c]
theorem oI_up {v t i : Nat} (hi : i < 3) (hv : v < 16) : va_up (oI v t i) (16 * i + v) (oI v t i (16 * i + v) ||| psy v t i * 2 ^ (4 * t)) = oI v t (i + 1) := funext fun q => by
  unfold va_up
  by_cases c : q = 16 * i + v
  · rw [if_pos c, c]
    unfold oI
    have e1 : (16 * i + v) % 16 = v := by omega
    have e2 : (16 * i + v) / 16 = i := by omega
    rw [if_pos e1, if_pos e1, e2, if_neg (c := i < i) (by omega), if_pos hi, if_pos (by omega), psy_ok hi]
    rfl
  · rw [if_neg c]
    unfold oI
    by_cases d : q % 16 = v
    · rw [if_pos d, if_pos d]
      by_cases f : q / 16 < i
      · rw [if_pos f, if_pos (by omega)]
      · rw [if_neg f, if_neg (c := q / 16 < i + 1) (by omega)]
    · rw [if_neg d, if_neg d]
theorem oI_3 (v t : Nat) : oI v t 3 = oT v (t + 1) := funext fun q => by
  unfold oI oT
  by_cases c : q % 16 = v
  · rw [if_pos c, if_pos c]
    by_cases f : q / 16 < 3
    · rw [if_pos f, if_pos f]
    · rw [if_neg f, if_neg f, if_neg f]
  · rw [if_neg c, if_neg c]
theorem oT_12 (v : Nat) : oT v 12 = oV (v + 1) := funext fun q => by
  unfold oT
  by_cases c : q % 16 = v
  · rw [if_pos c]
    unfold oV
    by_cases f : q / 16 < 3
    · rw [if_pos f, if_pos (by omega)]
      unfold zParts
      rw [c]
    · rw [if_neg f, if_neg (by omega)]; rfl
  · rw [if_neg c]
    unfold oV
    by_cases f : q % 16 < v ∧ q / 16 < 3
    · rw [if_pos f, if_pos (by omega)]
    · rw [if_neg f, if_neg (by omega)]
theorem oV_16 {q : Nat} (h : q < 48) : oV 16 q = zParts q := if_pos (by omega)
theorem cd_up {i t : Nat} (ht : t < 12) (g : Nat → Nat) : va_up (zmx (12 * i + t) cdS g) (12 * i + t) (zcw i t) = zmx (12 * i + (t + 1)) cdS g := by
  rw [← cdS_at i ht]
  exact zmx_up _ _ _
