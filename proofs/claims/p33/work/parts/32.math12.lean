/-! two codewords -/
theorem gmul_xor {a b x : Nat} (ha : a < 16) (hb : b < 16) (hx : x < 16) : gmul (a ^^^ b) x = gmul a x ^^^ gmul b x := by
  have h : all16 (fun a b => (List.range 16).all (fun x => gmul (a ^^^ b) x == (gmul a x ^^^ gmul b x))) = true := by decide +kernel
  exact eq_of_beq (List.all_eq_true.mp (all16_ok h ha hb) x (List.mem_range.mpr hx))
def dfM (m o : Nat) : Nat := (m % 16 ^^^ o % 16) + 16 * (m / 16 % 16 ^^^ o / 16 % 16) + 256 * (m / 256 ^^^ o / 256)
theorem x16 {a b : Nat} (ha : a < 16) (hb : b < 16) : a ^^^ b < 16 := Nat.xor_lt_two_pow (n := 4) ha hb
theorem x_zero {a b : Nat} (h : a ^^^ b = 0) : a = b := by
  have h9 : (a ^^^ b) ^^^ b = 0 ^^^ b := by rw [h]
  rwa [Nat.xor_assoc, Nat.xor_self, Nat.xor_zero, Nat.zero_xor] at h9
theorem dfM_zcw {m o j : Nat} (hm : m < 4096) (ho : o < 4096) (hj : j < 12) : zcw (dfM m o) j = zcw m j ^^^ zcw o j := by
  have a0 := x16 (a := m % 16) (b := o % 16) (by omega) (by omega)
  have a1 := x16 (a := m / 16 % 16) (b := o / 16 % 16) (by omega) (by omega)
  have a2 := x16 (a := m / 256) (b := o / 256) (by omega) (by omega)
  unfold zcw
  have e0 : dfM m o % 16 = m % 16 ^^^ o % 16 := by unfold dfM; omega
  have e1 : dfM m o / 16 % 16 = m / 16 % 16 ^^^ o / 16 % 16 := by unfold dfM; omega
  have e2 : dfM m o / 256 = m / 256 ^^^ o / 256 := by unfold dfM; omega
  rw [e0, e1, e2, gmul_xor (by omega) (by omega) (by omega), gmul_xor (by omega) (by omega) (gmul_lt (by omega) (by omega))]
  ac_rfl
theorem dfM_lt {m o k : Nat} (hk1 : 1 ≤ k) (hk : k ≤ 3) (hm : m < 2 ^ (4 * k)) (ho : o < 2 ^ (4 * k)) : dfM m o < 2 ^ (4 * k) := by
  have a0 := x16 (a := m % 16) (b := o % 16) (by omega) (by omega)
  have a1 := x16 (a := m / 16 % 16) (b := o / 16 % 16) (by omega) (by omega)
  have hk9 : k = 1 ∨ k = 2 ∨ k = 3 := by omega
  rcases hk9 with rfl | rfl | rfl
  · have : m / 16 % 16 = 0 ∧ o / 16 % 16 = 0 ∧ m / 256 = 0 ∧ o / 256 = 0 := by omega
    unfold dfM
    rw [this.1, this.2.1, this.2.2.1, this.2.2.2, Nat.xor_self]
    omega
  · have : m / 256 = 0 ∧ o / 256 = 0 := by omega
    unfold dfM
    rw [this.1, this.2, Nat.xor_self]
    omega
  · have a2 := x16 (a := m / 256) (b := o / 256) (by omega) (by omega)
    unfold dfM; omega
theorem dfM_ne {m o : Nat} (hm : m < 4096) (ho : o < 4096) (h : m ≠ o) : dfM m o ≠ 0 := fun z => h (by
  unfold dfM at z
  have b0 := x_zero (a := m % 16) (b := o % 16) (by omega)
  have b1 := x_zero (a := m / 16 % 16) (b := o / 16 % 16) (by omega)
  have b2 := x_zero (a := m / 256) (b := o / 256) (by omega)
  omega)
theorem zer_few {w k : Nat} (hk1 : 1 ≤ k) (hk : k ≤ 3) (hw : w < 2 ^ (4 * k)) (h0 : w ≠ 0) : cnt (fun j => zcw w j == 0) 12 < k := by
  have hk9 : k = 1 ∨ k = 2 ∨ k = 3 := by omega
  have hw9 : w < 4096 := by rcases hk9 with rfl | rfl | rfl <;> omega
  have h := zer_all hw9
  rw [Bool.or_eq_true] at h
  have h1 := of_decide_eq_true (h.resolve_left (fun z => h0 (eq_of_beq z)))
  have e : cnt (fun j => zcwP w / 2 ^ (4 * j) % 16 == 0) 12 = cnt (fun j => zcw w j == 0) 12 := cnt_cong (fun j hj => by
    show (zcwP w / 2 ^ (4 * j) % 16 == 0) = (zcw w j == 0)
    rw [zcwP_ok hw9, pak_at (fun j hj => zcw_lt hw9 hj) hj])
  rw [e] at h1
  rcases hk9 with rfl | rfl | rfl
  · rw [if_pos (by omega)] at h1; exact h1
  · by_cases c : w < 16
    · rw [if_pos c] at h1; omega
    · rw [if_neg c, if_pos (by omega)] at h1; exact h1
  · by_cases c : w < 16
    · rw [if_pos c] at h1; omega
    · rw [if_neg c] at h1
      by_cases d : w < 256
      · rw [if_pos d] at h1; omega
      · rw [if_neg d] at h1; exact h1
theorem cnt_up (p : Nat → Bool) {n : Nat} : ∀ {k : Nat}, n ≤ k → cnt p n ≤ cnt p k
  | 0, h => by rw [show n = 0 by omega]; exact Nat.le_refl _
  | k + 1, h => by
    by_cases c : n = k + 1
    · rw [c]; exact Nat.le_refl _
    · have := cnt_up p (n := n) (k := k) (by omega)
      show cnt p n ≤ cnt p k + b01 (p k)
      omega
theorem eq_few {m o k n : Nat} (hk1 : 1 ≤ k) (hk : k ≤ 3) (hn : n ≤ 12) (hm : m < 2 ^ (4 * k)) (ho : o < 2 ^ (4 * k)) (h : m ≠ o) : cnt (fun j => zcw m j == zcw o j) n < k := by
  have hk9 : k = 1 ∨ k = 2 ∨ k = 3 := by omega
  have hm9 : m < 4096 := by rcases hk9 with rfl | rfl | rfl <;> omega
  have ho9 : o < 4096 := by rcases hk9 with rfl | rfl | rfl <;> omega
  have h1 := zer_few hk1 hk (dfM_lt hk1 hk hm ho) (dfM_ne hm9 ho9 h)
  have e : cnt (fun j => zcw (dfM m o) j == 0) 12 = cnt (fun j => zcw m j == zcw o j) 12 := cnt_cong (fun j hj => by
    show (zcw (dfM m o) j == 0) = (zcw m j == zcw o j)
    rw [dfM_zcw hm9 ho9 hj]
    by_cases d : zcw m j = zcw o j
    · rw [d, Nat.xor_self]; simp
    · rw [show (zcw m j == zcw o j) = false from beq_false_of_ne d]
      exact beq_false_of_ne (fun z => d (x_zero z)))
  have h2 := cnt_up (fun j => zcw m j == zcw o j) hn
  omega
theorem two_cnt (σ : Nat → Nat) (m o : Nat) (r : Nat → Nat) (C : Nat) : ∀ n, n ≤ σ 0 → (∀ j, j < n → r j ≤ C) → scC (difB σ m) r n + scC (difB σ o) r n ≤ 2 * ((C * cnt (fun j => zcw m j == zcw o j) n : Nat) : Int)
  | 0, _, _ => by show (0 : Int) + 0 ≤ _; simp [cnt]
  | n + 1, h, hr => by
    have ih := two_cnt σ m o r C n (by omega) (fun j hj => hr j (by omega))
    have h1 := hr n (by omega)
    show scC (difB σ m) r n + _ + (scC (difB σ o) r n + _) ≤ 2 * ((C * (cnt (fun j => zcw m j == zcw o j) n + b01 (zcw m n == zcw o n)) : Nat) : Int)
    by_cases d : zcw m n = zcw o n
    · rw [show (zcw m n == zcw o n) = true from by rw [d]; exact beq_self_eq_true _, show ∀ x, C * (x + b01 true) = C * x + C from fun _ => rfl]
      split <;> split <;> omega
    · rw [show (zcw m n == zcw o n) = false from beq_false_of_ne d, show ∀ x, C * (x + b01 false) = C * x from fun x => by rw [show b01 false = 0 from rfl, Nat.add_zero]]
      have h2 : difB σ m n = true ∨ difB σ o n = true := by
        rw [difB_in (by omega), difB_in (by omega)]
        by_cases f : zcw m n = itS σ n
        · refine Or.inr ?_
          rw [show (zcw o n == itS σ n) = false from beq_false_of_ne (fun z => d (by rw [f, z]))]; rfl
        · refine Or.inl ?_
          rw [show (zcw m n == itS σ n) = false from beq_false_of_ne f]; rfl
      split <;> split <;> first | omega | (exfalso; rcases h2 with h2 | h2 <;> contradiction)
/-- at most one codeword passes the bar -/
theorem bar_one {σ : Nat → Nat} {m o : Nat} (kσ : zWF σ) (hm : m < 2 ^ (4 * σ 1)) (ho : o < 2 ^ (4 * σ 1)) (h1 : ((barS σ : Nat) : Int) < scS σ m) (h2 : ((barS σ : Nat) : Int) < scS σ o) : m = o := by
  obtain ⟨n3, n12, d1, d3, dn, b4, b10, gl, lm, sn, wl, wnz⟩ := kσ
  by_cases c : m = o
  · exact c
  · have h3 := eq_few (n := σ 0) d1 d3 n12 hm ho c
    have h4 := two_cnt σ m o (trS σ) (ddS σ) (σ 0) (Nat.le_refl _) (fun j _ => trC_le _ _ _ _)
    have h5 : ddS σ * cnt (fun j => zcw m j == zcw o j) (σ 0) ≤ ddS σ * (σ 0 - (σ 0 - σ 1 + 1)) := Nat.mul_le_mul_left _ (by omega)
    unfold barS scS at h1 h2
    omega
