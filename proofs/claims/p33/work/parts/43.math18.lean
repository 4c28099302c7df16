def delM (k : Nat) : Nat := if k = 1 then 1 else if k = 2 then 17 else 306
theorem delM_ok : (List.range 4).all (fun k => (List.range 13).all (fun n => k == 0 || decide (n ≤ k) || (decide (delM k < 2 ^ (4 * k)) && cnt (fun j => !(zcw (delM k) j == 0)) n == n - k + 1))) = true := by decide +kernel
theorem delM_at {k n : Nat} (hk1 : 1 ≤ k) (hk : k ≤ 3) (hkn : k < n) (hn : n ≤ 12) : delM k < 2 ^ (4 * k) ∧ cnt (fun j => !(zcw (delM k) j == 0)) n = n - k + 1 := by
  have h := List.all_eq_true.mp (List.all_eq_true.mp delM_ok k (List.mem_range.mpr (by omega))) n (List.mem_range.mpr (by omega))
  rw [show (k == 0) = false from beq_false_of_ne (by omega), show decide (n ≤ k) = false from decide_eq_false (by omega), Bool.false_or, Bool.false_or, Bool.and_eq_true] at h
  exact ⟨of_decide_eq_true h.1, eq_of_beq h.2⟩
theorem cnt_zero {p : Nat → Bool} : ∀ {n : Nat}, (∀ j, j < n → p j = false) → cnt p n = 0
  | 0, _ => rfl
  | n + 1, h => by
    show cnt p n + b01 (p n) = 0
    rw [cnt_zero (fun j hj => h j (by omega)), h n (by omega)]; rfl
/-- some codeword differs from that of m in as many blocks as the distance -/
theorem near_ex {m k n : Nat} (hk1 : 1 ≤ k) (hk : k ≤ 3) (hkn : k < n) (hn : n ≤ 12) (hm : m < 2 ^ (4 * k)) : ∃ o, o < 2 ^ (4 * k) ∧ o ≠ m ∧ cnt (fun j => !(zcw o j == zcw m j)) n = n - k + 1 := by
  obtain ⟨hd, hc⟩ := delM_at hk1 hk hkn hn
  have hk9 : k = 1 ∨ k = 2 ∨ k = 3 := by omega
  have hm9 : m < 4096 := by rcases hk9 with rfl | rfl | rfl <;> omega
  have hd9 : delM k < 4096 := by rcases hk9 with rfl | rfl | rfl <;> omega
  have e : cnt (fun j => !(zcw (dfM m (delM k)) j == zcw m j)) n = n - k + 1 := by
    rw [← hc]
    apply cnt_cong
    intro j hj
    show (!(zcw (dfM m (delM k)) j == zcw m j)) = !(zcw (delM k) j == 0)
    rw [dfM_zcw hm9 hd9 (by omega)]
    congr 1
    by_cases d : zcw (delM k) j = 0
    · rw [d, Nat.xor_zero]; simp
    · rw [show (zcw (delM k) j == 0) = false from beq_false_of_ne d]
      refine beq_false_of_ne (fun z => d ?_)
      have h9 : zcw m j ^^^ (zcw m j ^^^ zcw (delM k) j) = zcw m j ^^^ zcw m j := by rw [z]
      rwa [← Nat.xor_assoc, Nat.xor_self, Nat.zero_xor] at h9
  refine ⟨_, dfM_lt hk1 hk hm hd, fun z => ?_, e⟩
  rw [z, cnt_zero (fun j _ => by show (!(zcw m j == zcw m j)) = false; rw [beq_self_eq_true]; rfl)] at e
  omega
