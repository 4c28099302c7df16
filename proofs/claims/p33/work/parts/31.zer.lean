def zerC (a : Nat) : Bool := (List.range 256).all (fun q => 256 * a + q == 0 || decide (cnt (fun j => zcwP (256 * a + q) / 2 ^ (4 * j) % 16 == 0) 12 < (if 256 * a + q < 16 then 1 else if 256 * a + q < 256 then 2 else 3)))
theorem zer_c0 : zerC 0 = true := by decide +kernel
theorem zer_c1 : zerC 1 = true := by decide +kernel
theorem zer_c2 : zerC 2 = true := by decide +kernel
theorem zer_c3 : zerC 3 = true := by decide +kernel
theorem zer_c4 : zerC 4 = true := by decide +kernel
theorem zer_c5 : zerC 5 = true := by decide +kernel
theorem zer_c6 : zerC 6 = true := by decide +kernel
theorem zer_c7 : zerC 7 = true := by decide +kernel
theorem zer_c8 : zerC 8 = true := by decide +kernel
theorem zer_c9 : zerC 9 = true := by decide +kernel
theorem zer_c10 : zerC 10 = true := by decide +kernel
theorem zer_c11 : zerC 11 = true := by decide +kernel
theorem zer_c12 : zerC 12 = true := by decide +kernel
theorem zer_c13 : zerC 13 = true := by decide +kernel
theorem zer_c14 : zerC 14 = true := by decide +kernel
theorem zer_c15 : zerC 15 = true := by decide +kernel
theorem zer_at {a : Nat} (h : a < 16) : zerC a = true := by
  have hh : a = 0 ∨ a = 1 ∨ a = 2 ∨ a = 3 ∨ a = 4 ∨ a = 5 ∨ a = 6 ∨ a = 7 ∨ a = 8 ∨ a = 9 ∨ a = 10 ∨ a = 11 ∨ a = 12 ∨ a = 13 ∨ a = 14 ∨ a = 15 := by omega
  rcases hh with rfl | rfl | rfl | rfl | rfl | rfl | rfl | rfl | rfl | rfl | rfl | rfl | rfl | rfl | rfl | rfl
  · exact zer_c0
  · exact zer_c1
  · exact zer_c2
  · exact zer_c3
  · exact zer_c4
  · exact zer_c5
  · exact zer_c6
  · exact zer_c7
  · exact zer_c8
  · exact zer_c9
  · exact zer_c10
  · exact zer_c11
  · exact zer_c12
  · exact zer_c13
  · exact zer_c14
  · exact zer_c15
theorem zer_all {w : Nat} (hw : w < 4096) : (w == 0 || decide (cnt (fun j => zcwP w / 2 ^ (4 * j) % 16 == 0) 12 < (if w < 16 then 1 else if w < 256 then 2 else 3))) = true := by
  have h := List.all_eq_true.mp (zer_at (a := w / 256) (by omega)) (w % 256) (List.mem_range.mpr (by omega))
  have e : 256 * (w / 256) + w % 256 = w := by omega
  rw [e] at h
  exact h
