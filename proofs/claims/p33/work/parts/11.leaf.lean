theorem qJ6_bitCount_0f7a4_Cond_constant_RJ6_265_1431655765_ : Cond.constant RJ6 265 (1431655765) ∈ wsJ6_bitCount_0f7a4 := by decide +kernel
theorem qJ6_bitCount_0f7a4_Cond_constant_RJ6_266_858993459_ : Cond.constant RJ6 266 (858993459) ∈ wsJ6_bitCount_0f7a4 := by decide +kernel
theorem qJ6_bitCount_0f7a4_Cond_constant_RJ6_267_252645135_ : Cond.constant RJ6 267 (252645135) ∈ wsJ6_bitCount_0f7a4 := by decide +kernel
set_option maxHeartbeats 4000000 in
set_option maxRecDepth 100000 in
theorem c_J6_bitCount_0f7a4 (l : Launch) (D : va_G) (Y : Nat → ClassId)  (x : Nat)  (hx0 : x < 4096) : Met l yJ6_bitCount_0f7a4 wsJ6_bitCount_0f7a4 ({ frames := 0, cells := 0, slots := 0, locals := 0 } : Room) (va_Pc [.int (nI x)] (zB D Y ([]))) (zR (.int (nI (popc x)))) 0 0 (fun _ => False) := by
  refine zr_of (cc := cJ6_bitCount_0f7a4) (maxL := 1) (ret := (some .int)) (by decide) rfl (Nat.le_of_ble_eq_true rfl) ?_
  intro p e s m below meth c R args Q hR hx hb hml hr hlk hown hts hK hN hP hQ ls hl
  have hown : s.vm.findClass RJ6 = some m.cls := hown
  have hl : lv_has ls 1 [(0, .int (nI x))] := hl
  refine lv_iload_n hx hb dJ6_bitCount_0f7a4_0 rfl (lv_at hl 0 rfl) ?_
  refine lv_iload_n hx hb dJ6_bitCount_0f7a4_1 rfl (lv_at hl 0 rfl) ?_
  refine lv_iconst (v := (nI 1)) hx hb dJ6_bitCount_0f7a4_2 (by decide) ?_
  refine lv_iushr hx hb dJ6_bitCount_0f7a4_3 (v := (nI (x / 2 ^ 1))) (zUshr (by omega) (by omega)) ?_
  refine lv_ldcw hx hb hown (hts _ qJ6_bitCount_0f7a4_Cond_constant_RJ6_265_1431655765_) dJ6_bitCount_0f7a4_4 ?_
  refine zt_i (v := nI 1431655765) (by rfl) ?_
  refine zv_iand hx hb (v := (nI ((x / 2 ^ 1) &&& 1431655765))) dJ6_bitCount_0f7a4_7 (nx_and _ _) ?_
  refine zv_isub hx hb (v := (nI (x - ((x / 2 ^ 1) &&& 1431655765)))) dJ6_bitCount_0f7a4_8 (pk_sub (Nat.le_trans Nat.and_le_left (by omega))) ?_
  obtain ⟨v1, e1⟩ : ∃ z, z = x - (x / 2 ^ 1 &&& 1431655765) := ⟨_, rfl⟩
  refine zt_i (v := (nI v1)) (by rw [e1]) ?_
  refine lv_istore_n (lv' := [(0, .int (nI v1))]) hx hb dJ6_bitCount_0f7a4_9 rfl hl (by decide) rfl (fun ls hl => ?_)
  refine lv_iload_n hx hb dJ6_bitCount_0f7a4_10 rfl (lv_at hl 0 rfl) ?_
  refine lv_ldcw hx hb hown (hts _ qJ6_bitCount_0f7a4_Cond_constant_RJ6_266_858993459_) dJ6_bitCount_0f7a4_11 ?_
  refine zt_i (v := nI 858993459) (by rfl) ?_
  refine zv_iand hx hb (v := (nI (v1 &&& 858993459))) dJ6_bitCount_0f7a4_14 (nx_and _ _) ?_
  refine lv_iload_n hx hb dJ6_bitCount_0f7a4_15 rfl (lv_at hl 0 rfl) ?_
  refine lv_iconst (v := (nI 2)) hx hb dJ6_bitCount_0f7a4_16 (by decide) ?_
  refine lv_iushr hx hb dJ6_bitCount_0f7a4_17 (v := (nI (v1 / 2 ^ 2))) (zUshr (by omega) (by omega)) ?_
  refine lv_ldcw hx hb hown (hts _ qJ6_bitCount_0f7a4_Cond_constant_RJ6_266_858993459_) dJ6_bitCount_0f7a4_18 ?_
  refine zt_i (v := nI 858993459) (by rfl) ?_
  refine zv_iand hx hb (v := (nI ((v1 / 2 ^ 2) &&& 858993459))) dJ6_bitCount_0f7a4_21 (nx_and _ _) ?_
  refine zv_iadd hx hb (v := (nI ((v1 &&& 858993459) + ((v1 / 2 ^ 2) &&& 858993459)))) dJ6_bitCount_0f7a4_22 (nI_add _ _) ?_
  have b1 : v1 &&& 858993459 ≤ v1 := Nat.and_le_left
  have b2 : v1 / 2 ^ 2 &&& 858993459 ≤ v1 / 2 ^ 2 := Nat.and_le_left
  obtain ⟨v2, e2⟩ : ∃ z, z = (v1 &&& 858993459) + (v1 / 2 ^ 2 &&& 858993459) := ⟨_, rfl⟩
  refine zt_i (v := (nI v2)) (by rw [e2]) ?_
  refine lv_istore_n (lv' := [(0, .int (nI v2))]) hx hb dJ6_bitCount_0f7a4_23 rfl hl (by decide) rfl (fun ls hl => ?_)
  refine lv_iload_n hx hb dJ6_bitCount_0f7a4_24 rfl (lv_at hl 0 rfl) ?_
  refine lv_iload_n hx hb dJ6_bitCount_0f7a4_25 rfl (lv_at hl 0 rfl) ?_
  refine lv_iconst (v := (nI 4)) hx hb dJ6_bitCount_0f7a4_26 (by decide) ?_
  refine lv_iushr hx hb dJ6_bitCount_0f7a4_27 (v := (nI (v2 / 2 ^ 4))) (zUshr (by omega) (by omega)) ?_
  refine zv_iadd hx hb (v := (nI (v2 + (v2 / 2 ^ 4)))) dJ6_bitCount_0f7a4_28 (nI_add _ _) ?_
  refine lv_ldcw hx hb hown (hts _ qJ6_bitCount_0f7a4_Cond_constant_RJ6_267_252645135_) dJ6_bitCount_0f7a4_29 ?_
  refine zt_i (v := nI 252645135) (by rfl) ?_
  refine zv_iand hx hb (v := (nI ((v2 + (v2 / 2 ^ 4)) &&& 252645135))) dJ6_bitCount_0f7a4_32 (nx_and _ _) ?_
  have b3 : (v2 + v2 / 2 ^ 4) &&& 252645135 ≤ v2 + v2 / 2 ^ 4 := Nat.and_le_left
  obtain ⟨v3, e3⟩ : ∃ z, z = (v2 + v2 / 2 ^ 4) &&& 252645135 := ⟨_, rfl⟩
  refine zt_i (v := (nI v3)) (by rw [e3]) ?_
  refine lv_istore_n (lv' := [(0, .int (nI v3))]) hx hb dJ6_bitCount_0f7a4_33 rfl hl (by decide) rfl (fun ls hl => ?_)
  refine lv_iload_n hx hb dJ6_bitCount_0f7a4_34 rfl (lv_at hl 0 rfl) ?_
  refine lv_iload_n hx hb dJ6_bitCount_0f7a4_35 rfl (lv_at hl 0 rfl) ?_
  refine lv_bipush (v := (nI 8)) hx hb dJ6_bitCount_0f7a4_36 (by decide) ?_
  refine lv_iushr hx hb dJ6_bitCount_0f7a4_38 (v := (nI (v3 / 2 ^ 8))) (zUshr (by omega) (by omega)) ?_
  refine zv_iadd hx hb (v := (nI (v3 + (v3 / 2 ^ 8)))) dJ6_bitCount_0f7a4_39 (nI_add _ _) ?_
  obtain ⟨v4, e4⟩ : ∃ z, z = v3 + v3 / 2 ^ 8 := ⟨_, rfl⟩
  refine zt_i (v := (nI v4)) (by rw [e4]) ?_
  refine lv_istore_n (lv' := [(0, .int (nI v4))]) hx hb dJ6_bitCount_0f7a4_40 rfl hl (by decide) rfl (fun ls hl => ?_)
  refine lv_iload_n hx hb dJ6_bitCount_0f7a4_41 rfl (lv_at hl 0 rfl) ?_
  refine lv_iload_n hx hb dJ6_bitCount_0f7a4_42 rfl (lv_at hl 0 rfl) ?_
  refine lv_bipush (v := (nI 16)) hx hb dJ6_bitCount_0f7a4_43 (by decide) ?_
  refine lv_iushr hx hb dJ6_bitCount_0f7a4_45 (v := (nI (v4 / 2 ^ 16))) (zUshr (by omega) (by omega)) ?_
  refine zv_iadd hx hb (v := (nI (v4 + (v4 / 2 ^ 16)))) dJ6_bitCount_0f7a4_46 (nI_add _ _) ?_
  obtain ⟨v5, e5⟩ : ∃ z, z = v4 + v4 / 2 ^ 16 := ⟨_, rfl⟩
  refine zt_i (v := (nI v5)) (by rw [e5]) ?_
  refine lv_istore_n (lv' := [(0, .int (nI v5))]) hx hb dJ6_bitCount_0f7a4_47 rfl hl (by decide) rfl (fun ls hl => ?_)
  refine lv_iload_n hx hb dJ6_bitCount_0f7a4_48 rfl (lv_at hl 0 rfl) ?_
  refine lv_bipush (v := (nI 63)) hx hb dJ6_bitCount_0f7a4_49 (by decide) ?_
  refine zv_iand hx hb (v := (nI (v5 &&& 63))) dJ6_bitCount_0f7a4_51 (nx_and _ _) ?_
  exact zr_i hx hb hr hlk hQ dJ6_bitCount_0f7a4_52 (by rw [← zswar_ok x hx0, e5, e4, e3, e2, e1]; rfl)


