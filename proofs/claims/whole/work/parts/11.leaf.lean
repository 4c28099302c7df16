theorem qJ6_bitCount_0f7a4_Cond_constant_RJ6_265_1431655765_ : Cond.constant RJ6 265 (1431655765) ∈ wsJ6_bitCount_0f7a4 := by decide +kernel
theorem qJ6_bitCount_0f7a4_Cond_constant_RJ6_266_858993459_ : Cond.constant RJ6 266 (858993459) ∈ wsJ6_bitCount_0f7a4 := by decide +kernel
theorem qJ6_bitCount_0f7a4_Cond_constant_RJ6_267_252645135_ : Cond.constant RJ6 267 (252645135) ∈ wsJ6_bitCount_0f7a4 := by decide +kernel
set_option maxHeartbeats 4000000 in
set_option maxRecDepth 100000 in
theorem c_J6_bitCount_0f7a4 (l : Launch) (D : va_G) (Y : Nat → ClassId)  (x : Nat)  (hx0 : x < 4096) : Met l yJ6_bitCount_0f7a4 wsJ6_bitCount_0f7a4 ({ frames := 0, cells := 0, slots := 0, locals := 0 } : Room) (va_Pc [.int (nI x)] (zB D Y ([]))) (zR (.int (nI (popc x)))) 0 0 (fun _ => False) := by
  refine zr_of (cc := cJ6_bitCount_0f7a4) (maxL := 1) (ret := (some .int)) (by decide) rfl (Nat.le_of_ble_eq_true rfl) ?_
  intro p e s m below meth c R args Q hR hx hb hml hr hlk hown hts hK hN hP hQ ls hl
  have hown : s.vm.findClass RJ6 = some m.cls := hown
  have hl : lv_has ls 1 [(0, .int (nI x))] := hl
  refine lv_iload_n hx hb dJ6_bitCount_0f7a4_0 rfl (lv_at hl 0 rfl) ?_
  refine lv_iload_n hx hb dJ6_bitCount_0f7a4_1 rfl (lv_at hl 0 rfl) ?_
  refine lv_iconst (v := (nI 1)) hx hb dJ6_bitCount_0f7a4_2 (by decide) ?_
  refine lv_iushr hx hb dJ6_bitCount_0f7a4_3 (v := (nI (x / 2 ^ 1))) (zUshr (by omega) (by omega)) ?_
  refine lv_ldcw hx hb hown (hts _ qJ6_bitCount_0f7a4_Cond_constant_RJ6_265_1431655765_) dJ6_bitCount_0f7a4_4 ?_
  refine zt_i (v := nI 1431655765) (by rfl) ?_
  refine zv_iand hx hb (v := (nI ((x / 2 ^ 1) &&& 1431655765))) dJ6_bitCount_0f7a4_7 (nx_and _ _) ?_
  refine zv_isub hx hb (v := (nI (x - ((x / 2 ^ 1) &&& 1431655765)))) dJ6_bitCount_0f7a4_8 (pk_sub (Nat.le_trans Nat.and_le_left (by omega))) ?_
  obtain ⟨v1, e1⟩ : ∃ z, z = x - (x / 2 ^ 1 &&& 1431655765) := ⟨_, rfl⟩
  refine zt_i (v := (nI v1)) (by rw [e1]) ?_
  refine lv_istore_n (lv' := [(0, .int (nI v1))]) hx hb dJ6_bitCount_0f7a4_9 rfl hl (by decide) rfl (fun ls hl => ?_)
  refine lv_iload_n hx hb dJ6_bitCount_0f7a4_10 rfl (lv_at hl 0 rfl) ?_
  refine lv_ldcw hx hb hown (hts _ qJ6_bitCount_0f7a4_Cond_constant_RJ6_266_858993459_) dJ6_bitCount_0f7a4_11 ?_
  refine zt_i (v := nI 858993459) (by rfl) ?_
  refine zv_iand hx hb (v := (nI (v1 &&& 858993459))) dJ6_bitCount_0f7a4_14 (nx_and _ _) ?_
  refine lv_iload_n hx hb dJ6_bitCount_0f7a4_15 rfl (lv_at hl 0 rfl) ?_
  refine lv_iconst (v := (nI 2)) hx hb dJ6_bitCount_0f7a4_16 (by decide) ?_
  refine lv_iushr hx hb dJ6_bitCount_0f7a4_17 (v := (nI (v1 / 2 ^ 2))) (zUshr (by omega) (by omega)) ?_
  refine lv_ldcw hx hb hown (hts _ qJ6_bitCount_0f7a4_Cond_constant_RJ6_266_858993459_) dJ6_bitCount_0f7a4_18 ?_
  refine zt_i (v := nI 858993459) (by rfl) ?_
  refine zv_iand hx hb (v := (nI ((v1 / 2 ^ 2) &&& 858993459))) dJ6_bitCount_0f7a4_21 (nx_and _ _) ?_
  refine zv_iadd hx hb (v := (nI ((v1 &&& 858993459) + ((v1 / 2 ^ 2) &&& 858993459)))) dJ6_bitCount_0f7a4_22 (nI_add _ _) ?_
  have b1 : v1 &&& 858993459 ≤ v1 := Nat.and_le_left
  have b2 : v1 / 2 ^ 2 &&& 858993459 ≤ v1 / 2 ^ 2 := Nat.and_le_left
  obtain ⟨v2, e2⟩ : ∃ z, z = (v1 &&& 858993459) + (v1 / 2 ^ 2 &&& 858993459) := ⟨_, rfl⟩
  refine zt_i (v := (nI v2)) (by rw [e2]) ?_
  refine lv_istore_n (lv' := [(0, .int (nI v2))]) hx hb dJ6_bitCount_0f7a4_23 rfl hl (by decide) rfl (fun ls hl => ?_)
  refine lv_iload_n hx hb dJ6_bitCount_0f7a4_24 rfl (lv_at hl 0 rfl) ?_
  refine lv_iload_n hx hb dJ6_bitCount_0f7a4_25 rfl (lv_at hl 0 rfl) ?_
  refine lv_iconst (v := (nI 4)) hx hb dJ6_bitCount_0f7a4_26 (by decide) ?_
  refine lv_iushr hx hb dJ6_bitCount_0f7a4_27 (v := (nI (v2 / 2 ^ 4))) (zUshr (by omega) (by omega)) ?_
  refine zv_iadd hx hb (v := (nI (v2 + (v2 / 2 ^ 4)))) dJ6_bitCount_0f7a4_28 (nI_add _ _) ?_
  refine lv_ldcw hx hb hown (hts _ qJ6_bitCount_0f7a4_Cond_constant_RJ6_267_252645135_) dJ6_bitCount_0f7a4_29 ?_
  refine zt_i (v := nI 252645135) (by rfl) ?_
  refine zv_iand hx hb (v := (nI ((v2 + (v2 / 2 ^ 4)) &&& 252645135))) dJ6_bitCount_0f7a4_32 (nx_and _ _) ?_
  have b3 : (v2 + v2 / 2 ^ 4) &&& 252645135 ≤ v2 + v2 / 2 ^ 4 := Nat.and_le_left
  obtain ⟨v3, e3⟩ : ∃ z, z = (v2 + v2 / 2 ^ 4) &&& 252645135 := ⟨_, rfl⟩
  refine zt_i (v := (nI v3)) (by rw [e3]) ?_
  refine lv_istore_n (lv' := [(0, .int (nI v3))]) hx hb dJ6_bitCount_0f7a4_33 rfl hl (by decide) rfl (fun ls hl => ?_)
  refine lv_iload_n hx hb dJ6_bitCount_0f7a4_34 rfl (lv_at hl 0 rfl) ?_
  refine lv_iload_n hx hb dJ6_bitCount_0f7a4_35 rfl (lv_at hl 0 rfl) ?_
  refine lv_bipush (v := (nI 8)) hx hb dJ6_bitCount_0f7a4_36 (by decide) ?_
  refine lv_iushr hx hb dJ6_bitCount_0f7a4_38 (v := (nI (v3 / 2 ^ 8))) (zUshr (by omega) (by omega)) ?_
  refine zv_iadd hx hb (v := (nI (v3 + (v3 / 2 ^ 8)))) dJ6_bitCount_0f7a4_39 (nI_add _ _) ?_
  obtain ⟨v4, e4⟩ : ∃ z, z = v3 + v3 / 2 ^ 8 := ⟨_, rfl⟩
  refine zt_i (v := (nI v4)) (by rw [e4]) ?_
  refine lv_istore_n (lv' := [(0, .int (nI v4))]) hx hb dJ6_bitCount_0f7a4_40 rfl hl (by decide) rfl (fun ls hl => ?_)
  refine lv_iload_n hx hb dJ6_bitCount_0f7a4_41 rfl (lv_at hl 0 rfl) ?_
  refine lv_iload_n hx hb dJ6_bitCount_0f7a4_42 rfl (lv_at hl 0 rfl) ?_
  refine lv_bipush (v := (nI 16)) hx hb dJ6_bitCount_0f7a4_43 (by decide) ?_
  refine lv_iushr hx hb dJ6_bitCount_0f7a4_45 (v := (nI (v4 / 2 ^ 16))) (zUshr (by omega) (by omega)) ?_
  refine zv_iadd hx hb (v := (nI (v4 + (v4 / 2 ^ 16)))) dJ6_bitCount_0f7a4_46 (nI_add _ _) ?_
  obtain ⟨v5, e5⟩ : ∃ z, z = v4 + v4 / 2 ^ 16 := ⟨_, rfl⟩
  refine zt_i (v := (nI v5)) (by rw [e5]) ?_
  refine lv_istore_n (lv' := [(0, .int (nI v5))]) hx hb dJ6_bitCount_0f7a4_47 rfl hl (by decide) rfl (fun ls hl => ?_)
  refine lv_iload_n hx hb dJ6_bitCount_0f7a4_48 rfl (lv_at hl 0 rfl) ?_
  refine lv_bipush (v := (nI 63)) hx hb dJ6_bitCount_0f7a4_49 (by decide) ?_
  refine zv_iand hx hb (v := (nI (v5 &&& 63))) dJ6_bitCount_0f7a4_51 (nx_and _ _) ?_
  exact zr_i hx hb hr hlk hQ dJ6_bitCount_0f7a4_52 (by rw [← zswar_ok x hx0, e5, e4, e3, e2, e1]; rfl)
set_option maxHeartbeats 4000000 in
set_option maxRecDepth 100000 in
theorem c_X6_in (l : Launch) (D : va_G) (Y : Nat → ClassId)  (v : Int32) (a : Int32) (b : Int32)   : Met l yX6_in wsX6_in ({ frames := 0, cells := 0, slots := 0, locals := 0 } : Room) (va_Pc [.int (v), .int (a), .int (b)] (zB D Y ([]))) (zR (.int (zq ((a).toInt ≤ (v).toInt ∧ (v).toInt ≤ (b).toInt)))) 0 0 (fun _ => False) := by
  refine zr_of (cc := cX6_in) (maxL := 3) (ret := (some .boolean)) (by decide) rfl (Nat.le_of_ble_eq_true rfl) ?_
  intro p e s m below meth c R args Q hR hx hb hml hr hlk hown hts hK hN hP hQ ls hl
  have hown : s.vm.findClass RX6 = some m.cls := hown
  have hl : lv_has ls 3 [(0, .int (v)), (1, .int (a)), (2, .int (b))] := hl
  refine lv_iload_n hx hb dX6_in_0 rfl (lv_at hl 0 rfl) ?_
  refine lv_iload_n hx hb dX6_in_1 rfl (lv_at hl 1 rfl) ?_
  have J15 : W p l e R s m args below meth c s.heap [] 0 0 Q (F0 m 15 ls [.int (zq (a.toInt ≤ v.toInt ∧ v.toInt ≤ b.toInt))]) := by
    exact zr_z hx hb hr hlk hQ dX6_in_15 (rfl) (by first | exact zq_or _ | decide)
  refine zz_icmp_lt (tgt := 14) (a := (v).toInt) (b := (a).toInt) hx hb dX6_in_2 (by decide) (rfl) (rfl) (fun c2 => ?_) (fun c2 => ?_)
  · refine lv_iconst (v := (nI 0)) hx hb dX6_in_14 (by decide) ?_
    refine zt_i (v := (zq (a.toInt ≤ v.toInt ∧ v.toInt ≤ b.toInt))) (by first | exact zq_nt (by omega) | exact zq_nf (by omega)) ?_
    exact J15
  · refine lv_iload_n hx hb dX6_in_5 rfl (lv_at hl 0 rfl) ?_
    refine lv_iload_n hx hb dX6_in_6 rfl (lv_at hl 2 rfl) ?_
    refine zz_icmp_gt (tgt := 14) (a := (v).toInt) (b := (b).toInt) hx hb dX6_in_7 (by decide) (rfl) (rfl) (fun c7 => ?_) (fun c7 => ?_)
    · refine lv_iconst (v := (nI 0)) hx hb dX6_in_14 (by decide) ?_
      refine zt_i (v := (zq (a.toInt ≤ v.toInt ∧ v.toInt ≤ b.toInt))) (by first | exact zq_nt (by omega) | exact zq_nf (by omega)) ?_
      exact J15
    · refine lv_iconst (v := (nI 1)) hx hb dX6_in_10 (by decide) ?_
      refine lv_goto (tgt := 15) hx hb dX6_in_11 (by decide) ?_
      refine zt_i (v := (zq (a.toInt ≤ v.toInt ∧ v.toInt ≤ b.toInt))) (by first | exact zq_nt (by omega) | exact zq_nf (by omega)) ?_
      exact J15
set_option maxHeartbeats 4000000 in
set_option maxRecDepth 100000 in
theorem c_X6_ones (l : Launch) (D : va_G) (Y : Nat → ClassId)  (v : Nat)  (hv : v < 4096) : Met l yX6_ones wsX6_ones ({ frames := 0, cells := 0, slots := 0, locals := 0 } : Room) (va_Pc [.int (nI v)] (zB D Y ([]))) (zR (.int (nI (popc v)))) 0 0 (fun _ => False) := by
  refine zr_of (cc := cX6_ones) (maxL := 3) (ret := (some .int)) (by decide) rfl (Nat.le_of_ble_eq_true rfl) ?_
  intro p e s m below meth c R args Q hR hx hb hml hr hlk hown hts hK hN hP hQ ls hl
  have hown : s.vm.findClass RX6 = some m.cls := hown
  have hl : lv_has ls 3 [(0, .int (nI v))] := hl
  refine lv_iconst (v := (nI 0)) hx hb dX6_ones_0 (by decide) ?_
  refine lv_istore_n (lv' := [(1, .int (nI 0)), (0, .int (nI v))]) hx hb dX6_ones_1 rfl hl (by decide) rfl (fun ls hl => ?_)
  refine lv_iload_n hx hb dX6_ones_2 rfl (lv_at hl 1 rfl) ?_
  refine lv_istore_n (lv' := [(2, .int (nI v)), (1, .int (nI 0)), (0, .int (nI v))]) hx hb dX6_ones_3 rfl hl (by decide) rfl (fun ls hl => ?_)
  have L4 : ∀ (n9 : Nat) (r : Nat) (k : Nat) (hr9 : r < 4096) (hs : k + popc r = popc v), r < n9 → ∀ ls : Array Slot, lv_has ls 3 [(2, .int (nI r)), (1, .int (nI k)), (0, .int (nI v))] → W p l e R s m args below meth c s.heap [] 0 0 Q (F0 m 4 ls []) := by
    intro n9
    induction n9 with
    | zero => intro r k hr9 hs hn9; exact absurd hn9 (Nat.not_lt_zero _)
    | succ n9 ih9 =>
      have ih4 := ih9
      clear ih9
      intro r k hr9 hs hn9 ls hl
      have hpr := popc_le r
      have hpv := popc_le v
      refine lv_iload_n hx hb dX6_ones_4 rfl (lv_at hl 0 rfl) ?_
      refine zn_if_eq (tgt := 20)  hx hb dX6_ones_5 (by decide) (by omega) (fun c5 => ?_) (fun c5 => ?_)
      · refine lv_iload_n hx hb dX6_ones_20 rfl (lv_at hl 1 rfl) ?_
        exact zr_i hx hb hr hlk hQ dX6_ones_21 (by subst c5; rw [popc_0] at hs; rw [← hs]; rfl)
      · refine lv_iinc (v := (nI (k + 1))) (lv' := [(1, .int (nI (k + 1))), (2, .int (nI r)), (0, .int (nI v))]) hx hb dX6_ones_8 hl (k := 1) rfl (zinc _) (by decide) rfl (fun ls hl => ?_)
        refine lv_iload_n hx hb dX6_ones_11 rfl (lv_at hl 1 rfl) ?_
        refine lv_iload_n hx hb dX6_ones_12 rfl (lv_at hl 1 rfl) ?_
        refine lv_iconst (v := (nI 1)) hx hb dX6_ones_13 (by decide) ?_
        refine zv_isub hx hb (v := (nI (r - 1))) dX6_ones_14 (pk_sub (by omega)) ?_
        refine zv_iand hx hb (v := (nI (r &&& (r - 1)))) dX6_ones_15 (nx_and _ _) ?_
        refine lv_istore_n (lv' := [(2, .int (nI (r &&& (r - 1)))), (1, .int (nI (k + 1))), (0, .int (nI v))]) hx hb dX6_ones_16 rfl hl (by decide) rfl (fun ls hl => ?_)
        refine lv_goto (tgt := 4) hx hb dX6_ones_17 (by decide) ?_
        have hand : r &&& (r - 1) ≤ r - 1 := Nat.and_le_right
        have hst := popc_step r hr9 c5
        exact ih4 (r &&& (r - 1)) (k + 1) (by omega) (by omega) (by omega) ls (lv_sub hl [0, 1, 2] rfl)
  exact L4 (v + 1) v 0 (by omega) (by omega) (Nat.lt_succ_self _) ls (lv_sub hl [0, 1, 2] rfl)
