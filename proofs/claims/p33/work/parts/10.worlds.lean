theorem zupdZ (W : Nat → Nat) (i : Nat) {v : Nat} (hv : v < 2) : upd (fun j => nI (W j)) i (vp_nar .boolean (nI v)) = fun j => nI (va_up W i v j) := by
  have e : vp_nar .boolean (nI v) = nI v := by
    rcases (show v = 0 ∨ v = 1 by omega) with rfl | rfl <;> rfl
  rw [e, zupd]
theorem zupdB (W : Nat → Nat) (i : Nat) {v : Nat} (hv : v < 128) : upd (fun j => nI (W j)) i (vp_nar .byte (nI v)) = fun j => nI (va_up W i v j) := by
  rw [vp_nar_byte, fa_byte_small hv, zupd]
/-- the cells of the class, by the numbers of its state -/
def CXr (Y : Nat → ClassId) (A : Nat → Nat) (B : Nat → Nat) (n k b L sn : Nat) (g w : Nat → Nat) (hn : Nat) (h : Nat → Nat → Nat) (wd : Nat → Nat) (dd : Nat) (r0 : Nat → Nat) (r1 : Nat → Nat) (r2 : Nat → Nat) (r3 : Nat → Nat) (r4 : Nat → Nat) (rl : Nat) (rp : Nat) (rb : Nat) (wt : Nat → Nat) (wn : Nat) : va_W := [(A 0, .inr (5, [.ref (A 1), .ref (A 5), .ref (A 7), .ref (A 9), .ref (A 11), .ref (A 17), .int (nI wn)])),
  (A 1, .inr (4, [.int (nI (n)), .int (nI (k)), .int (nI (b)), .ref (A 2), .ref (A 3), .ref (A 4), .int (nI (sn))])),
  (A 2, .inl (Y 0, 4, .inl (fun j => nI (g j)))),
  (A 3, .inl (Y 0, 12, .inl (fun j => nI (w j)))),
  (A 4, .inl (Y 1, 12, .inl (fun j => nI (zL L j)))),
  (A 5, .inr (0, [.ref (A 6), .int (nI hn)])),
  (A 6, .inl (Y 4, 6, .inr (.inr (.inr (.inr (fun j => some (B (4 * j)))))))),
  (A 7, .inr (1, [.ref (A 8), .int (nI dd)])),
  (A 8, .inl (Y 0, 16, .inl (fun j => nI (wd j)))),
  (A 9, .inr (2, [.ref (A 10)])),
  (A 10, .inl (Y 2, 48, .inr (.inl (fun j => lN (zParts j))))),
  (A 11, .inr (3, [.ref (A 12), .ref (A 13), .ref (A 14), .ref (A 15), .ref (A 16), .int (nI rl), .long (lN (rp)), .long (lN (rb))])),
  (A 12, .inl (Y 0, 12, .inl (fun j => nI (r0 j)))),
  (A 13, .inl (Y 0, 12, .inl (fun j => nI (r1 j)))),
  (A 14, .inl (Y 0, 12, .inl (fun j => nI (r2 j)))),
  (A 15, .inl (Y 0, 12, .inl (fun j => nI (r3 j)))),
  (A 16, .inl (Y 0, 12, .inl (fun j => nI (r4 j)))),
  (A 17, .inl (Y 0, 4, .inl (fun j => nI (wt j)))),
  (B 0, .inr (4, [.int (nI (h 0 0)), .int (nI (h 0 1)), .int (nI (h 0 2)), .ref (B 1), .ref (B 2), .ref (B 3), .int (nI (h 0 8))])),
  (B 1, .inl (Y 0, 4, .inl (fun j => nI (zg (h 0) j)))),
  (B 2, .inl (Y 0, 12, .inl (fun j => nI (h 0 (9 + j))))),
  (B 3, .inl (Y 1, 12, .inl (fun j => nI (zL (h 0 7) j)))),
  (B 4, .inr (4, [.int (nI (h 1 0)), .int (nI (h 1 1)), .int (nI (h 1 2)), .ref (B 5), .ref (B 6), .ref (B 7), .int (nI (h 1 8))])),
  (B 5, .inl (Y 0, 4, .inl (fun j => nI (zg (h 1) j)))),
  (B 6, .inl (Y 0, 12, .inl (fun j => nI (h 1 (9 + j))))),
  (B 7, .inl (Y 1, 12, .inl (fun j => nI (zL (h 1 7) j)))),
  (B 8, .inr (4, [.int (nI (h 2 0)), .int (nI (h 2 1)), .int (nI (h 2 2)), .ref (B 9), .ref (B 10), .ref (B 11), .int (nI (h 2 8))])),
  (B 9, .inl (Y 0, 4, .inl (fun j => nI (zg (h 2) j)))),
  (B 10, .inl (Y 0, 12, .inl (fun j => nI (h 2 (9 + j))))),
  (B 11, .inl (Y 1, 12, .inl (fun j => nI (zL (h 2 7) j)))),
  (B 12, .inr (4, [.int (nI (h 3 0)), .int (nI (h 3 1)), .int (nI (h 3 2)), .ref (B 13), .ref (B 14), .ref (B 15), .int (nI (h 3 8))])),
  (B 13, .inl (Y 0, 4, .inl (fun j => nI (zg (h 3) j)))),
  (B 14, .inl (Y 0, 12, .inl (fun j => nI (h 3 (9 + j))))),
  (B 15, .inl (Y 1, 12, .inl (fun j => nI (zL (h 3 7) j)))),
  (B 16, .inr (4, [.int (nI (h 4 0)), .int (nI (h 4 1)), .int (nI (h 4 2)), .ref (B 17), .ref (B 18), .ref (B 19), .int (nI (h 4 8))])),
  (B 17, .inl (Y 0, 4, .inl (fun j => nI (zg (h 4) j)))),
  (B 18, .inl (Y 0, 12, .inl (fun j => nI (h 4 (9 + j))))),
  (B 19, .inl (Y 1, 12, .inl (fun j => nI (zL (h 4 7) j)))),
  (B 20, .inr (4, [.int (nI (h 5 0)), .int (nI (h 5 1)), .int (nI (h 5 2)), .ref (B 21), .ref (B 22), .ref (B 23), .int (nI (h 5 8))])),
  (B 21, .inl (Y 0, 4, .inl (fun j => nI (zg (h 5) j)))),
  (B 22, .inl (Y 0, 12, .inl (fun j => nI (h 5 (9 + j))))),
  (B 23, .inl (Y 1, 12, .inl (fun j => nI (zL (h 5 7) j))))]
/-- the cells of the class: the state is σ (n, k, b, four generators, the mask of the lost blocks, the message, twelve words), h the states of the history -/
def CX (Y : Nat → ClassId) (A : Nat → Nat) (B : Nat → Nat) (σ : Nat → Nat) (hn : Nat) (h : Nat → Nat → Nat) (wd : Nat → Nat) (dd : Nat) (r0 : Nat → Nat) (r1 : Nat → Nat) (r2 : Nat → Nat) (r3 : Nat → Nat) (r4 : Nat → Nat) (rl : Nat) (rp : Nat) (rb : Nat) (wt : Nat → Nat) (wn : Nat) : va_W := CXr Y A B (σ 0) (σ 1) (σ 2) (σ 7) (σ 8) (zg σ) (fun j => σ (9 + j)) hn h wd dd r0 r1 r2 r3 r4 rl rp rb wt wn
theorem CX_of {Y : Nat → ClassId} {A : Nat → Nat} {B : Nat → Nat} {σ : Nat → Nat} {hn : Nat} {h : Nat → Nat → Nat} {wd : Nat → Nat} {dd : Nat} {r0 : Nat → Nat} {r1 : Nat → Nat} {r2 : Nat → Nat} {r3 : Nat → Nat} {r4 : Nat → Nat} {rl : Nat} {rp : Nat} {rb : Nat} {wt : Nat → Nat} {wn : Nat} {n k b L sn : Nat} {g w : Nat → Nat} (h0 : σ 0 = n) (h1 : σ 1 = k) (h2 : σ 2 = b) (h7 : σ 7 = L) (h8 : σ 8 = sn) (hg : ∀ j, zg σ j = g j) (hw : ∀ j, σ (9 + j) = w j) : CXr Y A B n k b L sn g w hn h wd dd r0 r1 r2 r3 r4 rl rp rb wt wn = CX Y A B σ hn h wd dd r0 r1 r2 r3 r4 rl rp rb wt wn := by
  have eg : zg σ = g := funext hg
  have ew : (fun j => σ (9 + j)) = w := funext hw
  unfold CX
  rw [h0, h1, h2, h7, h8, eg, ew]
theorem zu_ne (σ : Nat → Nat) (k v : Nat) {j : Nat} (h : j ≠ k) : va_up σ k v j = σ j := if_neg h
theorem zu_eq (σ : Nat → Nat) (k v : Nat) : va_up σ k v k = v := if_pos rfl
theorem zg_ne (σ : Nat → Nat) (k v : Nat) (h : k < 3 ∨ 7 ≤ k) (j : Nat) : zg (va_up σ k v) j = zg σ j := by
  unfold zg
  by_cases h4 : j < 4
  · rw [if_pos h4, if_pos h4, zu_ne _ _ _ (by omega)]
  · rw [if_neg h4, if_neg h4]
theorem zg_lt (σ : Nat → Nat) {j : Nat} (h : j < 4) : zg σ j = σ (3 + j) := if_pos h
theorem CX_f0 {Y : Nat → ClassId} {A : Nat → Nat} {B : Nat → Nat} {σ : Nat → Nat} {hn : Nat} {h : Nat → Nat → Nat} {wd : Nat → Nat} {dd : Nat} {r0 : Nat → Nat} {r1 : Nat → Nat} {r2 : Nat → Nat} {r3 : Nat → Nat} {r4 : Nat → Nat} {rl : Nat} {rp : Nat} {rb : Nat} {wt : Nat → Nat} {wn : Nat} {v : Nat} : (CX Y A B σ hn h wd dd r0 r1 r2 r3 r4 rl rp rb wt wn).set 1 (A 1, .inr (4, [.int (nI (σ 0)), .int (nI (σ 1)), .int (nI (σ 2)), .ref (A 2), .ref (A 3), .ref (A 4), .int (nI (σ 8))].set 0 (.int (nI v)))) = CX Y A B (va_up σ 0 v) hn h wd dd r0 r1 r2 r3 r4 rl rp rb wt wn := by
  show CXr Y A B v (σ 1) (σ 2) (σ 7) (σ 8) (zg σ) (fun j => σ (9 + j)) hn h wd dd r0 r1 r2 r3 r4 rl rp rb wt wn = _
  exact CX_of (zu_eq σ 0 v) (zu_ne σ 0 v (by decide)) (zu_ne σ 0 v (by decide)) (zu_ne σ 0 v (by decide)) (zu_ne σ 0 v (by decide)) (zg_ne σ 0 v (by decide)) (fun j => zu_ne σ 0 v (by omega))
theorem CX_f1 {Y : Nat → ClassId} {A : Nat → Nat} {B : Nat → Nat} {σ : Nat → Nat} {hn : Nat} {h : Nat → Nat → Nat} {wd : Nat → Nat} {dd : Nat} {r0 : Nat → Nat} {r1 : Nat → Nat} {r2 : Nat → Nat} {r3 : Nat → Nat} {r4 : Nat → Nat} {rl : Nat} {rp : Nat} {rb : Nat} {wt : Nat → Nat} {wn : Nat} {v : Nat} : (CX Y A B σ hn h wd dd r0 r1 r2 r3 r4 rl rp rb wt wn).set 1 (A 1, .inr (4, [.int (nI (σ 0)), .int (nI (σ 1)), .int (nI (σ 2)), .ref (A 2), .ref (A 3), .ref (A 4), .int (nI (σ 8))].set 1 (.int (nI v)))) = CX Y A B (va_up σ 1 v) hn h wd dd r0 r1 r2 r3 r4 rl rp rb wt wn := by
  show CXr Y A B (σ 0) v (σ 2) (σ 7) (σ 8) (zg σ) (fun j => σ (9 + j)) hn h wd dd r0 r1 r2 r3 r4 rl rp rb wt wn = _
  exact CX_of (zu_ne σ 1 v (by decide)) (zu_eq σ 1 v) (zu_ne σ 1 v (by decide)) (zu_ne σ 1 v (by decide)) (zu_ne σ 1 v (by decide)) (zg_ne σ 1 v (by decide)) (fun j => zu_ne σ 1 v (by omega))
theorem CX_f2 {Y : Nat → ClassId} {A : Nat → Nat} {B : Nat → Nat} {σ : Nat → Nat} {hn : Nat} {h : Nat → Nat → Nat} {wd : Nat → Nat} {dd : Nat} {r0 : Nat → Nat} {r1 : Nat → Nat} {r2 : Nat → Nat} {r3 : Nat → Nat} {r4 : Nat → Nat} {rl : Nat} {rp : Nat} {rb : Nat} {wt : Nat → Nat} {wn : Nat} {v : Nat} : (CX Y A B σ hn h wd dd r0 r1 r2 r3 r4 rl rp rb wt wn).set 1 (A 1, .inr (4, [.int (nI (σ 0)), .int (nI (σ 1)), .int (nI (σ 2)), .ref (A 2), .ref (A 3), .ref (A 4), .int (nI (σ 8))].set 2 (.int (nI v)))) = CX Y A B (va_up σ 2 v) hn h wd dd r0 r1 r2 r3 r4 rl rp rb wt wn := by
  show CXr Y A B (σ 0) (σ 1) v (σ 7) (σ 8) (zg σ) (fun j => σ (9 + j)) hn h wd dd r0 r1 r2 r3 r4 rl rp rb wt wn = _
  exact CX_of (zu_ne σ 2 v (by decide)) (zu_ne σ 2 v (by decide)) (zu_eq σ 2 v) (zu_ne σ 2 v (by decide)) (zu_ne σ 2 v (by decide)) (zg_ne σ 2 v (by decide)) (fun j => zu_ne σ 2 v (by omega))
theorem CX_f8 {Y : Nat → ClassId} {A : Nat → Nat} {B : Nat → Nat} {σ : Nat → Nat} {hn : Nat} {h : Nat → Nat → Nat} {wd : Nat → Nat} {dd : Nat} {r0 : Nat → Nat} {r1 : Nat → Nat} {r2 : Nat → Nat} {r3 : Nat → Nat} {r4 : Nat → Nat} {rl : Nat} {rp : Nat} {rb : Nat} {wt : Nat → Nat} {wn : Nat} {v : Nat} : (CX Y A B σ hn h wd dd r0 r1 r2 r3 r4 rl rp rb wt wn).set 1 (A 1, .inr (4, [.int (nI (σ 0)), .int (nI (σ 1)), .int (nI (σ 2)), .ref (A 2), .ref (A 3), .ref (A 4), .int (nI (σ 8))].set 6 (.int (nI v)))) = CX Y A B (va_up σ 8 v) hn h wd dd r0 r1 r2 r3 r4 rl rp rb wt wn := by
  show CXr Y A B (σ 0) (σ 1) (σ 2) (σ 7) v (zg σ) (fun j => σ (9 + j)) hn h wd dd r0 r1 r2 r3 r4 rl rp rb wt wn = _
  exact CX_of (zu_ne σ 8 v (by decide)) (zu_ne σ 8 v (by decide)) (zu_ne σ 8 v (by decide)) (zu_ne σ 8 v (by decide)) (zu_eq σ 8 v) (zg_ne σ 8 v (by decide)) (fun j => zu_ne σ 8 v (by omega))
theorem CX_w {Y : Nat → ClassId} {A : Nat → Nat} {B : Nat → Nat} {σ : Nat → Nat} {hn : Nat} {h : Nat → Nat → Nat} {wd : Nat → Nat} {dd : Nat} {r0 : Nat → Nat} {r1 : Nat → Nat} {r2 : Nat → Nat} {r3 : Nat → Nat} {r4 : Nat → Nat} {rl : Nat} {rp : Nat} {rb : Nat} {wt : Nat → Nat} {wn : Nat} {i v : Nat} (hi : i < 12) : (CX Y A B σ hn h wd dd r0 r1 r2 r3 r4 rl rp rb wt wn).set 3 (A 3, .inl (Y 0, 12, .inl (upd (fun j => nI (σ (9 + j))) i (nI v)))) = CX Y A B (va_up σ (9 + i) v) hn h wd dd r0 r1 r2 r3 r4 rl rp rb wt wn := by
  rw [zupd (fun j => σ (9 + j))]
  have hw : ∀ j, va_up σ (9 + i) v (9 + j) = va_up (fun j => σ (9 + j)) i v j := fun j => by
    unfold va_up
    by_cases h : j = i
    · rw [if_pos (by omega), if_pos h]
    · rw [if_neg (by omega), if_neg h]
  show CXr Y A B (σ 0) (σ 1) (σ 2) (σ 7) (σ 8) (zg σ) (fun j => va_up (fun j => σ (9 + j)) i v j) hn h wd dd r0 r1 r2 r3 r4 rl rp rb wt wn = _
  exact CX_of (zu_ne σ (9 + i) v (by omega)) (zu_ne σ (9 + i) v (by omega)) (zu_ne σ (9 + i) v (by omega)) (zu_ne σ (9 + i) v (by omega)) (zu_ne σ (9 + i) v (by omega)) (zg_ne σ (9 + i) v (by omega)) hw
theorem CX_g {Y : Nat → ClassId} {A : Nat → Nat} {B : Nat → Nat} {σ : Nat → Nat} {hn : Nat} {h : Nat → Nat → Nat} {wd : Nat → Nat} {dd : Nat} {r0 : Nat → Nat} {r1 : Nat → Nat} {r2 : Nat → Nat} {r3 : Nat → Nat} {r4 : Nat → Nat} {rl : Nat} {rp : Nat} {rb : Nat} {wt : Nat → Nat} {wn : Nat} {i v : Nat} (hi : i < 4) : (CX Y A B σ hn h wd dd r0 r1 r2 r3 r4 rl rp rb wt wn).set 2 (A 2, .inl (Y 0, 4, .inl (upd (fun j => nI (zg σ j)) i (nI v)))) = CX Y A B (va_up σ (3 + i) v) hn h wd dd r0 r1 r2 r3 r4 rl rp rb wt wn := by
  rw [zupd (zg σ)]
  have hg : ∀ j, zg (va_up σ (3 + i) v) j = va_up (zg σ) i v j := fun j => by
    unfold zg va_up
    by_cases h : j = i
    · rw [if_pos (by omega), if_pos (by omega), if_pos h]
    · by_cases h4 : j < 4
      · rw [if_pos h4, if_neg (by omega), if_neg h]; exact (if_pos h4).symm
      · rw [if_neg h4, if_neg h]; exact (if_neg h4).symm
  show CXr Y A B (σ 0) (σ 1) (σ 2) (σ 7) (σ 8) (fun j => va_up (zg σ) i v j) (fun j => σ (9 + j)) hn h wd dd r0 r1 r2 r3 r4 rl rp rb wt wn = _
  exact CX_of (zu_ne σ (3 + i) v (by omega)) (zu_ne σ (3 + i) v (by omega)) (zu_ne σ (3 + i) v (by omega)) (zu_ne σ (3 + i) v (by omega)) (zu_ne σ (3 + i) v (by omega)) hg (fun j => zu_ne σ (3 + i) v (by omega))
theorem CX_l {Y : Nat → ClassId} {A : Nat → Nat} {B : Nat → Nat} {σ : Nat → Nat} {hn : Nat} {h : Nat → Nat → Nat} {wd : Nat → Nat} {dd : Nat} {r0 : Nat → Nat} {r1 : Nat → Nat} {r2 : Nat → Nat} {r3 : Nat → Nat} {r4 : Nat → Nat} {rl : Nat} {rp : Nat} {rb : Nat} {wt : Nat → Nat} {wn : Nat} {i v M : Nat} (hv : v < 2) (hL : ∀ j, zL M j = if j = i then v else zL (σ 7) j) : (CX Y A B σ hn h wd dd r0 r1 r2 r3 r4 rl rp rb wt wn).set 4 (A 4, .inl (Y 1, 12, .inl (upd (fun j => nI (zL (σ 7) j)) i (vp_nar .boolean (nI v))))) = CX Y A B (va_up σ 7 M) hn h wd dd r0 r1 r2 r3 r4 rl rp rb wt wn := by
  rw [zupdZ (zL (σ 7)) i hv, show (fun j => nI (va_up (zL (σ 7)) i v j)) = (fun j => nI (zL M j)) from funext fun j => by rw [hL j]; rfl]
  show CXr Y A B (σ 0) (σ 1) (σ 2) M (σ 8) (zg σ) (fun j => σ (9 + j)) hn h wd dd r0 r1 r2 r3 r4 rl rp rb wt wn = _
  exact CX_of (zu_ne σ 7 M (by decide)) (zu_ne σ 7 M (by decide)) (zu_ne σ 7 M (by decide)) (zu_eq σ 7 M) (zu_ne σ 7 M (by decide)) (zg_ne σ 7 M (by decide)) (fun j => zu_ne σ 7 M (by omega))
theorem CX_f_wn {Y : Nat → ClassId} {A : Nat → Nat} {B : Nat → Nat} {σ : Nat → Nat} {hn : Nat} {h : Nat → Nat → Nat} {wd : Nat → Nat} {dd : Nat} {r0 : Nat → Nat} {r1 : Nat → Nat} {r2 : Nat → Nat} {r3 : Nat → Nat} {r4 : Nat → Nat} {rl : Nat} {rp : Nat} {rb : Nat} {wt : Nat → Nat} {wn : Nat} {v : Nat} : (CX Y A B σ hn h wd dd r0 r1 r2 r3 r4 rl rp rb wt wn).set 0 (A 0, .inr (5, [.ref (A 1), .ref (A 5), .ref (A 7), .ref (A 9), .ref (A 11), .ref (A 17), .int (nI wn)].set 6 (.int (nI v)))) = CX Y A B σ hn h wd dd r0 r1 r2 r3 r4 rl rp rb wt v := rfl
theorem CX_f_hn {Y : Nat → ClassId} {A : Nat → Nat} {B : Nat → Nat} {σ : Nat → Nat} {hn : Nat} {h : Nat → Nat → Nat} {wd : Nat → Nat} {dd : Nat} {r0 : Nat → Nat} {r1 : Nat → Nat} {r2 : Nat → Nat} {r3 : Nat → Nat} {r4 : Nat → Nat} {rl : Nat} {rp : Nat} {rb : Nat} {wt : Nat → Nat} {wn : Nat} {v : Nat} : (CX Y A B σ hn h wd dd r0 r1 r2 r3 r4 rl rp rb wt wn).set 5 (A 5, .inr (0, [.ref (A 6), .int (nI hn)].set 1 (.int (nI v)))) = CX Y A B σ v h wd dd r0 r1 r2 r3 r4 rl rp rb wt wn := rfl
theorem CX_f_dd {Y : Nat → ClassId} {A : Nat → Nat} {B : Nat → Nat} {σ : Nat → Nat} {hn : Nat} {h : Nat → Nat → Nat} {wd : Nat → Nat} {dd : Nat} {r0 : Nat → Nat} {r1 : Nat → Nat} {r2 : Nat → Nat} {r3 : Nat → Nat} {r4 : Nat → Nat} {rl : Nat} {rp : Nat} {rb : Nat} {wt : Nat → Nat} {wn : Nat} {v : Nat} : (CX Y A B σ hn h wd dd r0 r1 r2 r3 r4 rl rp rb wt wn).set 7 (A 7, .inr (1, [.ref (A 8), .int (nI dd)].set 1 (.int (nI v)))) = CX Y A B σ hn h wd v r0 r1 r2 r3 r4 rl rp rb wt wn := rfl
theorem CX_s8 {Y : Nat → ClassId} {A : Nat → Nat} {B : Nat → Nat} {σ : Nat → Nat} {hn : Nat} {h : Nat → Nat → Nat} {wd : Nat → Nat} {dd : Nat} {r0 : Nat → Nat} {r1 : Nat → Nat} {r2 : Nat → Nat} {r3 : Nat → Nat} {r4 : Nat → Nat} {rl : Nat} {rp : Nat} {rb : Nat} {wt : Nat → Nat} {wn : Nat} {v : Nat → Nat} : (CX Y A B σ hn h wd dd r0 r1 r2 r3 r4 rl rp rb wt wn).set 8 (A 8, .inl (Y 0, 16, .inl (fun j => nI (v j)))) = CX Y A B σ hn h v dd r0 r1 r2 r3 r4 rl rp rb wt wn := rfl
theorem CX_f_rl {Y : Nat → ClassId} {A : Nat → Nat} {B : Nat → Nat} {σ : Nat → Nat} {hn : Nat} {h : Nat → Nat → Nat} {wd : Nat → Nat} {dd : Nat} {r0 : Nat → Nat} {r1 : Nat → Nat} {r2 : Nat → Nat} {r3 : Nat → Nat} {r4 : Nat → Nat} {rl : Nat} {rp : Nat} {rb : Nat} {wt : Nat → Nat} {wn : Nat} {v : Nat} : (CX Y A B σ hn h wd dd r0 r1 r2 r3 r4 rl rp rb wt wn).set 11 (A 11, .inr (3, [.ref (A 12), .ref (A 13), .ref (A 14), .ref (A 15), .ref (A 16), .int (nI rl), .long (lN (rp)), .long (lN (rb))].set 5 (.int (nI v)))) = CX Y A B σ hn h wd dd r0 r1 r2 r3 r4 v rp rb wt wn := rfl
theorem CX_f_rp {Y : Nat → ClassId} {A : Nat → Nat} {B : Nat → Nat} {σ : Nat → Nat} {hn : Nat} {h : Nat → Nat → Nat} {wd : Nat → Nat} {dd : Nat} {r0 : Nat → Nat} {r1 : Nat → Nat} {r2 : Nat → Nat} {r3 : Nat → Nat} {r4 : Nat → Nat} {rl : Nat} {rp : Nat} {rb : Nat} {wt : Nat → Nat} {wn : Nat} {v : Nat} : (CX Y A B σ hn h wd dd r0 r1 r2 r3 r4 rl rp rb wt wn).set 11 (A 11, .inr (3, [.ref (A 12), .ref (A 13), .ref (A 14), .ref (A 15), .ref (A 16), .int (nI rl), .long (lN (rp)), .long (lN (rb))].set 6 (.long (lN v)))) = CX Y A B σ hn h wd dd r0 r1 r2 r3 r4 rl v rb wt wn := rfl
theorem CX_f_rb {Y : Nat → ClassId} {A : Nat → Nat} {B : Nat → Nat} {σ : Nat → Nat} {hn : Nat} {h : Nat → Nat → Nat} {wd : Nat → Nat} {dd : Nat} {r0 : Nat → Nat} {r1 : Nat → Nat} {r2 : Nat → Nat} {r3 : Nat → Nat} {r4 : Nat → Nat} {rl : Nat} {rp : Nat} {rb : Nat} {wt : Nat → Nat} {wn : Nat} {v : Nat} : (CX Y A B σ hn h wd dd r0 r1 r2 r3 r4 rl rp rb wt wn).set 11 (A 11, .inr (3, [.ref (A 12), .ref (A 13), .ref (A 14), .ref (A 15), .ref (A 16), .int (nI rl), .long (lN (rp)), .long (lN (rb))].set 7 (.long (lN v)))) = CX Y A B σ hn h wd dd r0 r1 r2 r3 r4 rl rp v wt wn := rfl
theorem CX_s12 {Y : Nat → ClassId} {A : Nat → Nat} {B : Nat → Nat} {σ : Nat → Nat} {hn : Nat} {h : Nat → Nat → Nat} {wd : Nat → Nat} {dd : Nat} {r0 : Nat → Nat} {r1 : Nat → Nat} {r2 : Nat → Nat} {r3 : Nat → Nat} {r4 : Nat → Nat} {rl : Nat} {rp : Nat} {rb : Nat} {wt : Nat → Nat} {wn : Nat} {v : Nat → Nat} : (CX Y A B σ hn h wd dd r0 r1 r2 r3 r4 rl rp rb wt wn).set 12 (A 12, .inl (Y 0, 12, .inl (fun j => nI (v j)))) = CX Y A B σ hn h wd dd v r1 r2 r3 r4 rl rp rb wt wn := rfl
theorem CX_s13 {Y : Nat → ClassId} {A : Nat → Nat} {B : Nat → Nat} {σ : Nat → Nat} {hn : Nat} {h : Nat → Nat → Nat} {wd : Nat → Nat} {dd : Nat} {r0 : Nat → Nat} {r1 : Nat → Nat} {r2 : Nat → Nat} {r3 : Nat → Nat} {r4 : Nat → Nat} {rl : Nat} {rp : Nat} {rb : Nat} {wt : Nat → Nat} {wn : Nat} {v : Nat → Nat} : (CX Y A B σ hn h wd dd r0 r1 r2 r3 r4 rl rp rb wt wn).set 13 (A 13, .inl (Y 0, 12, .inl (fun j => nI (v j)))) = CX Y A B σ hn h wd dd r0 v r2 r3 r4 rl rp rb wt wn := rfl
theorem CX_s14 {Y : Nat → ClassId} {A : Nat → Nat} {B : Nat → Nat} {σ : Nat → Nat} {hn : Nat} {h : Nat → Nat → Nat} {wd : Nat → Nat} {dd : Nat} {r0 : Nat → Nat} {r1 : Nat → Nat} {r2 : Nat → Nat} {r3 : Nat → Nat} {r4 : Nat → Nat} {rl : Nat} {rp : Nat} {rb : Nat} {wt : Nat → Nat} {wn : Nat} {v : Nat → Nat} : (CX Y A B σ hn h wd dd r0 r1 r2 r3 r4 rl rp rb wt wn).set 14 (A 14, .inl (Y 0, 12, .inl (fun j => nI (v j)))) = CX Y A B σ hn h wd dd r0 r1 v r3 r4 rl rp rb wt wn := rfl
theorem CX_s15 {Y : Nat → ClassId} {A : Nat → Nat} {B : Nat → Nat} {σ : Nat → Nat} {hn : Nat} {h : Nat → Nat → Nat} {wd : Nat → Nat} {dd : Nat} {r0 : Nat → Nat} {r1 : Nat → Nat} {r2 : Nat → Nat} {r3 : Nat → Nat} {r4 : Nat → Nat} {rl : Nat} {rp : Nat} {rb : Nat} {wt : Nat → Nat} {wn : Nat} {v : Nat → Nat} : (CX Y A B σ hn h wd dd r0 r1 r2 r3 r4 rl rp rb wt wn).set 15 (A 15, .inl (Y 0, 12, .inl (fun j => nI (v j)))) = CX Y A B σ hn h wd dd r0 r1 r2 v r4 rl rp rb wt wn := rfl
theorem CX_s16 {Y : Nat → ClassId} {A : Nat → Nat} {B : Nat → Nat} {σ : Nat → Nat} {hn : Nat} {h : Nat → Nat → Nat} {wd : Nat → Nat} {dd : Nat} {r0 : Nat → Nat} {r1 : Nat → Nat} {r2 : Nat → Nat} {r3 : Nat → Nat} {r4 : Nat → Nat} {rl : Nat} {rp : Nat} {rb : Nat} {wt : Nat → Nat} {wn : Nat} {v : Nat → Nat} : (CX Y A B σ hn h wd dd r0 r1 r2 r3 r4 rl rp rb wt wn).set 16 (A 16, .inl (Y 0, 12, .inl (fun j => nI (v j)))) = CX Y A B σ hn h wd dd r0 r1 r2 r3 v rl rp rb wt wn := rfl
theorem CX_s17 {Y : Nat → ClassId} {A : Nat → Nat} {B : Nat → Nat} {σ : Nat → Nat} {hn : Nat} {h : Nat → Nat → Nat} {wd : Nat → Nat} {dd : Nat} {r0 : Nat → Nat} {r1 : Nat → Nat} {r2 : Nat → Nat} {r3 : Nat → Nat} {r4 : Nat → Nat} {rl : Nat} {rp : Nat} {rb : Nat} {wt : Nat → Nat} {wn : Nat} {v : Nat → Nat} : (CX Y A B σ hn h wd dd r0 r1 r2 r3 r4 rl rp rb wt wn).set 17 (A 17, .inl (Y 0, 4, .inl (fun j => nI (v j)))) = CX Y A B σ hn h wd dd r0 r1 r2 r3 r4 rl rp rb v wn := rfl
theorem CX_dd {Y : Nat → ClassId} {A : Nat → Nat} {B : Nat → Nat} {σ : Nat → Nat} {hn : Nat} {h : Nat → Nat → Nat} {wd : Nat → Nat} {dd : Nat} {r0 : Nat → Nat} {r1 : Nat → Nat} {r2 : Nat → Nat} {r3 : Nat → Nat} {r4 : Nat → Nat} {rl : Nat} {rp : Nat} {rb : Nat} {wt : Nat → Nat} {wn : Nat} {σ' : Nat → Nat} {hn' : Nat} {h' : Nat → Nat → Nat} {wd' : Nat → Nat} {dd' : Nat} {r0' : Nat → Nat} {r1' : Nat → Nat} {r2' : Nat → Nat} {r3' : Nat → Nat} {r4' : Nat → Nat} {rl' : Nat} {rp' : Nat} {rb' : Nat} {wt' : Nat → Nat} {wn' : Nat} {F : Nat → Prop} (hD : va_D F (CX Y A B σ hn h wd dd r0 r1 r2 r3 r4 rl rp rb wt wn)) : va_D F (CX Y A B σ' hn' h' wd' dd' r0' r1' r2' r3' r4' rl' rp' rb' wt' wn') := zD_same hD rfl
