theorem kM_X5_61 {s : State} (hN : zNw s) : va_Nw (Cond.methodLinkNest RX5 61 yX0_record "NestedCodes") s := show va_Nw (Cond.methodLinkNest RX5 61 yX0_record "NestedCodes") s from hN.2 ("NestedCodes", 61, yX0_record, "NestedCodes") (by decide +kernel)
theorem kM_X5_65 {s : State} (hN : zNw s) : va_Nw (Cond.methodLinkNest RX5 65 yX4_clearBlocks "NestedCodes") s := show va_Nw (Cond.methodLinkNest RX5 65 yX4_clearBlocks "NestedCodes") s from hN.2 ("NestedCodes", 65, yX4_clearBlocks, "NestedCodes") (by decide +kernel)
theorem kM_X5_84 {s : State} (hN : zNw s) : va_Nw (Cond.methodLinkNest RX5 84 yX0_restoreLatest "NestedCodes") s := show va_Nw (Cond.methodLinkNest RX5 84 yX0_restoreLatest "NestedCodes") s from hN.2 ("NestedCodes", 84, yX0_restoreLatest, "NestedCodes") (by decide +kernel)
theorem kM_X5_135 {s : State} (hN : zNw s) : va_Nw (Cond.methodLinkNest RX5 135 yX4_allBits "NestedCodes") s := show va_Nw (Cond.methodLinkNest RX5 135 yX4_allBits "NestedCodes") s from hN.2 ("NestedCodes", 135, yX4_allBits, "NestedCodes") (by decide +kernel)
theorem kN_X5_142 {args : Array Value} {s : State} (hN : zNw s) : (Cond.fieldLinkNest RX5 142 "NestedCodes$Reading" "gaps" "[I" "NestedCodes").before args s = true := va_Nw.use (w := Cond.fieldLinkNest RX5 142 "NestedCodes$Reading" "gaps" "[I" "NestedCodes") rfl (show va_Nw (Cond.fieldLinkNest RX5 142 "NestedCodes$Reading" "gaps" "[I" "NestedCodes") s from hN.1 ("NestedCodes", 142, "NestedCodes$Reading", "gaps", "[I", "NestedCodes") (by decide +kernel))
theorem kM_X5_152 {s : State} (hN : zNw s) : va_Nw (Cond.methodLinkNest RX5 152 yX4_shiftedRound "NestedCodes") s := show va_Nw (Cond.methodLinkNest RX5 152 yX4_shiftedRound "NestedCodes") s from hN.2 ("NestedCodes", 152, yX4_shiftedRound, "NestedCodes") (by decide +kernel)
set_option maxHeartbeats 4000000 in
set_option maxRecDepth 100000 in
theorem c_X5_setOuter_bad (l : Launch) (D : va_G) (Y : Nat → ClassId) (A : Nat → Nat) (B : Nat → Nat) (σ : Nat → Nat) (hn : Nat) (h : Nat → Nat → Nat) (r0 : Nat → Nat) (r1 : Nat → Nat) (r2 : Nat → Nat) (r3 : Nat → Nat) (r4 : Nat → Nat) (wt : Nat → Nat) (wn : Nat) (x : Int32) (y : Int32)  (kσ : zWF σ) (kr : zCon σ r0 r1 r2 r3 r4) (hbad : ¬ (3 ≤ (x).toInt ∧ (x).toInt ≤ 12 ∧ 1 ≤ (y).toInt ∧ (y).toInt ≤ 3 ∧ (y).toInt < (x).toInt)) : Met l yX5_setOuter wsX5_setOuter ({ frames := 6, cells := 0, slots := 0, locals := 132 } : Room) (va_Pc [.ref (A 0), .int (x), .int (y)] (zB D Y (CX Y A B σ hn h (wdS σ) (ddS σ) r0 r1 r2 r3 r4 (σ 0) (pak (itC (wdS σ) σ) (σ 0)) (mkP (fun k9 => decide (k9 < σ 0))) wt wn))) (zR (.int (-1001))) 0 0 (fun _ => False) := by
  refine zr_of (cc := cX5_setOuter) (maxL := 4) (ret := (some .int)) (by decide) rfl (Nat.le_of_ble_eq_true rfl) ?_
  intro p e s m below meth c R args Q hR hx hb hml hr hlk hown hts hK hN hP hQ ls hl
  have hown : s.vm.findClass RX5 = some m.cls := hown
  have hl : lv_has ls 4 [(0, .ref (A 0)), (1, .int (x)), (2, .int (y))] := hl
  have kw := kσ
  obtain ⟨n3, n12, d1, d3, dn, b4, b10, gl, lm, sn, wl, wnz⟩ := kw
  have pb := zp_b b10
  have pk9 := zp_k d3
  have hpak : pak (itC (wdS σ) σ) (σ 0) < 281474976710656 := Nat.lt_of_lt_of_le (pak_lt (fun j _ => itC_lt _ _ j)) (show 2 ^ (4 * σ 0) ≤ 2 ^ 48 from Nat.pow_le_pow_right (by decide) (by omega))
  have hbar := barS_le kσ
  refine lv_iload_n hx hb dX5_setOuter_0 rfl (lv_at hl 1 rfl) ?_
  refine lv_iconst (v := (nI 3)) hx hb dX5_setOuter_1 (by decide) ?_
  refine zz_icmp_lt (tgt := 11) (a := (x).toInt) (b := (((3 : Nat)) : Int)) hx hb dX5_setOuter_2 (by decide) (rfl) (zt_n (by omega)) (fun c2 => ?_) (fun c2 => ?_)
  · refine lv_sipush (v := (-1001)) hx hb dX5_setOuter_11 (by decide) ?_
    exact zr_i hx hb hr hlk hQ dX5_setOuter_14 (rfl)
  · refine lv_iload_n hx hb dX5_setOuter_5 rfl (lv_at hl 1 rfl) ?_
    refine lv_bipush (v := (nI 12)) hx hb dX5_setOuter_6 (by decide) ?_
    refine zz_icmp_le (tgt := 15) (a := (x).toInt) (b := (((12 : Nat)) : Int)) hx hb dX5_setOuter_8 (by decide) (rfl) (zt_n (by omega)) (fun c8 => ?_) (fun c8 => ?_)
    · refine lv_iload_n hx hb dX5_setOuter_15 rfl (lv_at hl 2 rfl) ?_
      refine lv_iconst (v := (nI 1)) hx hb dX5_setOuter_16 (by decide) ?_
      refine zz_icmp_lt (tgt := 30) (a := (y).toInt) (b := (((1 : Nat)) : Int)) hx hb dX5_setOuter_17 (by decide) (rfl) (zt_n (by omega)) (fun c17 => ?_) (fun c17 => ?_)
      · refine lv_sipush (v := (-1001)) hx hb dX5_setOuter_30 (by decide) ?_
        exact zr_i hx hb hr hlk hQ dX5_setOuter_33 (rfl)
      · refine lv_iload_n hx hb dX5_setOuter_20 rfl (lv_at hl 2 rfl) ?_
        refine lv_iconst (v := (nI 3)) hx hb dX5_setOuter_21 (by decide) ?_
        refine zz_icmp_gt (tgt := 30) (a := (y).toInt) (b := (((3 : Nat)) : Int)) hx hb dX5_setOuter_22 (by decide) (rfl) (zt_n (by omega)) (fun c22 => ?_) (fun c22 => ?_)
        · refine lv_sipush (v := (-1001)) hx hb dX5_setOuter_30 (by decide) ?_
          exact zr_i hx hb hr hlk hQ dX5_setOuter_33 (rfl)
        · refine lv_iload_n hx hb dX5_setOuter_25 rfl (lv_at hl 2 rfl) ?_
          refine lv_iload_n hx hb dX5_setOuter_26 rfl (lv_at hl 1 rfl) ?_
          refine zz_icmp_lt (tgt := 34) (a := (y).toInt) (b := (x).toInt) hx hb dX5_setOuter_27 (by decide) (rfl) (rfl) (fun c27 => ?_) (fun c27 => ?_)
          · exact absurd c27 (by omega)
          · refine lv_sipush (v := (-1001)) hx hb dX5_setOuter_30 (by decide) ?_
            exact zr_i hx hb hr hlk hQ dX5_setOuter_33 (rfl)
    · refine lv_sipush (v := (-1001)) hx hb dX5_setOuter_11 (by decide) ?_
      exact zr_i hx hb hr hlk hQ dX5_setOuter_14 (rfl)
theorem qX5_setOuter_Cond_fieldLink_RX5_10_NestedCodes_state_LNestedCodes_State_ : Cond.fieldLink RX5 10 "NestedCodes" "state" "LNestedCodes$State;" ∈ wsX5_setOuter := by decide +kernel
theorem qX5_setOuter_inX5 : ∀ w ∈ wsX50, w ∈ wsX5_setOuter := by decide +kernel
theorem qX5_setOuter_inX4 : ∀ w ∈ wsX40, w ∈ wsX5_setOuter := by decide +kernel
theorem qX5_setOuter_Cond_fieldLink_RX5_19_NestedCodes_history_LNestedCodes_History_ : Cond.fieldLink RX5 19 "NestedCodes" "history" "LNestedCodes$History;" ∈ wsX5_setOuter := by decide +kernel
theorem qX5_setOuter_Cond_initialized_RX0 : Cond.initialized RX0 ∈ wsX5_setOuter := by decide +kernel
theorem qX5_setOuter_Cond_instanceMethod_yX0_record : Cond.instanceMethod yX0_record ∈ wsX5_setOuter := by decide +kernel
theorem qX5_setOuter_Cond_selects_RX0_yX0_record_yX0_record : Cond.selects RX0 yX0_record yX0_record ∈ wsX5_setOuter := by decide +kernel
theorem qX5_setOuter_Cond_initialized_RX4 : Cond.initialized RX4 ∈ wsX5_setOuter := by decide +kernel
theorem qX5_setOuter_Cond_instanceMethod_yX4_clearBlocks : Cond.instanceMethod yX4_clearBlocks ∈ wsX5_setOuter := by decide +kernel
theorem qX5_setOuter_Cond_selects_RX4_yX4_clearBlocks_yX4_clearBlocks : Cond.selects RX4 yX4_clearBlocks yX4_clearBlocks ∈ wsX5_setOuter := by decide +kernel
set_option maxHeartbeats 4000000 in
set_option maxRecDepth 100000 in
theorem c_X5_setOuter (l : Launch) (D : va_G) (Y : Nat → ClassId) (A : Nat → Nat) (B : Nat → Nat) (σ : Nat → Nat) (hn : Nat) (h : Nat → Nat → Nat) (r0 : Nat → Nat) (r1 : Nat → Nat) (r2 : Nat → Nat) (r3 : Nat → Nat) (r4 : Nat → Nat) (wt : Nat → Nat) (wn : Nat) (i : Nat) (k : Nat)  (kσ : zWF σ) (kr : zCon σ r0 r1 r2 r3 r4) (khn : hn ≤ 6) (i3 : 3 ≤ i) (i12 : i ≤ 12) (k1 : 1 ≤ k) (k3 : k ≤ 3) (ki : k < i) : Met l yX5_setOuter wsX5_setOuter ({ frames := 6, cells := 0, slots := 0, locals := 132 } : Room) (va_Pc [.ref (A 0), .int (nI i), .int (nI k)] (zBw D Y (CX Y A B σ hn h (wdS σ) (ddS σ) r0 r1 r2 r3 r4 (σ 0) (pak (itC (wdS σ) σ) (σ 0)) (mkP (fun k9 => decide (k9 < σ 0))) wt wn))) (zW (some (.int (nI (10 * σ 0 + σ 1)))) D (CX Y A (recB B hn) (outS σ i k) (recN hn) (recH h hn σ) (wdS (outS σ i k)) (ddS (outS σ i k)) (ag0 (outS σ i k) r0) (ag1 (outS σ i k) r1) (ag2 (outS σ i k) r2) (ag3 (outS σ i k) r2 r3) (ag4 (outS σ i k) r2 r4) ((outS σ i k) 0) (pak (itC (wdS (outS σ i k)) (outS σ i k)) ((outS σ i k) 0)) (mkP (fun k9 => decide (k9 < (outS σ i k) 0))) wt wn) (zA (CX Y A B σ hn h (wdS σ) (ddS σ) r0 r1 r2 r3 r4 (σ 0) (pak (itC (wdS σ) σ) (σ 0)) (mkP (fun k9 => decide (k9 < σ 0))) wt wn))) 0 0 (zA (CX Y A B σ hn h (wdS σ) (ddS σ) r0 r1 r2 r3 r4 (σ 0) (pak (itC (wdS σ) σ) (σ 0)) (mkP (fun k9 => decide (k9 < σ 0))) wt wn)) := by
  refine zw_of (cc := cX5_setOuter) (maxL := 4) (ret := (some .int)) (by decide) rfl (Nat.le_of_ble_eq_true rfl) ?_
  intro p e s m below meth c R args Q FA hR hx hb hml hr hlk hown hts hK hN hQ hP hD hS ls hl
  have hown : s.vm.findClass RX5 = some m.cls := hown
  have hl : lv_has ls 4 [(0, .ref (A 0)), (1, .int (nI i)), (2, .int (nI k))] := hl
  have hS := hS
  have kw := kσ
  obtain ⟨n3, n12, d1, d3, dn, b4, b10, gl, lm, sn, wl, wnz⟩ := kw
  have pb := zp_b b10
  have pk9 := zp_k d3
  have hpak : pak (itC (wdS σ) σ) (σ 0) < 281474976710656 := Nat.lt_of_lt_of_le (pak_lt (fun j _ => itC_lt _ _ j)) (show 2 ^ (4 * σ 0) ≤ 2 ^ 48 from Nat.pow_le_pow_right (by decide) (by omega))
  have hbar := barS_le kσ
  suffices hgo : ∀ (H : Heap) (locs : List Loc), va_P D vwCl (CX Y A B σ hn h (wdS σ) (ddS σ) r0 r1 r2 r3 r4 (σ 0) (pak (itC (wdS σ) σ) (σ 0)) (mkP (fun k9 => decide (k9 < σ 0))) wt wn) H → va_S FA s.heap H locs → W p l e R s m args below meth c H locs 0 0 Q (F0 m 0 ls []) from hgo _ _ hP hS
  clear hP hS
  intro H locs hP hS
  refine lv_iload_n hx hb dX5_setOuter_0 rfl (lv_at hl 1 rfl) ?_
  refine lv_iconst (v := (nI 3)) hx hb dX5_setOuter_1 (by decide) ?_
  refine zn_icmp_lt (tgt := 11)  hx hb dX5_setOuter_2 (by decide) (by omega) (by omega) (fun c2 => ?_) (fun c2 => ?_)
  · exact absurd c2 (by omega)
  · refine lv_iload_n hx hb dX5_setOuter_5 rfl (lv_at hl 1 rfl) ?_
    refine lv_bipush (v := (nI 12)) hx hb dX5_setOuter_6 (by decide) ?_
    refine zn_icmp_le (tgt := 15)  hx hb dX5_setOuter_8 (by decide) (by omega) (by omega) (fun c8 => ?_) (fun c8 => ?_)
    · refine lv_iload_n hx hb dX5_setOuter_15 rfl (lv_at hl 2 rfl) ?_
      refine lv_iconst (v := (nI 1)) hx hb dX5_setOuter_16 (by decide) ?_
      refine zn_icmp_lt (tgt := 30)  hx hb dX5_setOuter_17 (by decide) (by omega) (by omega) (fun c17 => ?_) (fun c17 => ?_)
      · exact absurd c17 (by omega)
      · refine lv_iload_n hx hb dX5_setOuter_20 rfl (lv_at hl 2 rfl) ?_
        refine lv_iconst (v := (nI 3)) hx hb dX5_setOuter_21 (by decide) ?_
        refine zn_icmp_gt (tgt := 30)  hx hb dX5_setOuter_22 (by decide) (by omega) (by omega) (fun c22 => ?_) (fun c22 => ?_)
        · exact absurd c22 (by omega)
        · refine lv_iload_n hx hb dX5_setOuter_25 rfl (lv_at hl 2 rfl) ?_
          refine lv_iload_n hx hb dX5_setOuter_26 rfl (lv_at hl 1 rfl) ?_
          refine zn_icmp_lt (tgt := 34)  hx hb dX5_setOuter_27 (by decide) (by omega) (by omega) (fun c27 => ?_) (fun c27 => ?_)
          · refine lv_bipush (v := (nI 10)) hx hb dX5_setOuter_34 (by decide) ?_
            refine lv_aload_n hx hb dX5_setOuter_36 rfl (lv_at hl 0 rfl) ?_
            refine va_get (D := D) (ci := 5) (v := .ref (A 1)) (C := RX5) (T := TX5) (N := 7) hx hb hts qX5_setOuter_inX5 hown hK hP 0 rfl rfl 0 (by decide) (hts _ qX5_setOuter_Cond_fieldLink_RX5_10_NestedCodes_state_LNestedCodes_State_) (fun _ h9 => h9) rfl dX5_setOuter_37 ?_
            refine va_getN (D := D) (ci := 4) (v := .int (nI (σ 0))) (C := RX4) (T := TX4) (N := 7) hx hb hts qX5_setOuter_inX4 hown hK hP 1 rfl rfl 0 (by decide) (kN_X5_55 hN) (fun _ h9 => h9) rfl dX5_setOuter_40 ?_
            refine zv_imul hx hb (v := (nI (10 * (σ 0)))) dX5_setOuter_43 (pk_mul _ _) ?_
            refine lv_aload_n hx hb dX5_setOuter_44 rfl (lv_at hl 0 rfl) ?_
            refine va_get (D := D) (ci := 5) (v := .ref (A 1)) (C := RX5) (T := TX5) (N := 7) hx hb hts qX5_setOuter_inX5 hown hK hP 0 rfl rfl 0 (by decide) (hts _ qX5_setOuter_Cond_fieldLink_RX5_10_NestedCodes_state_LNestedCodes_State_) (fun _ h9 => h9) rfl dX5_setOuter_45 ?_
            refine va_getN (D := D) (ci := 4) (v := .int (nI (σ 1))) (C := RX4) (T := TX4) (N := 7) hx hb hts qX5_setOuter_inX4 hown hK hP 1 rfl rfl 1 (by decide) (kN_X5_58 hN) (fun _ h9 => h9) rfl dX5_setOuter_48 ?_
            refine zv_iadd hx hb (v := (nI ((10 * (σ 0)) + (σ 1)))) dX5_setOuter_51 (nI_add _ _) ?_
            refine lv_istore_n (lv' := [(3, .int (nI ((10 * (σ 0)) + (σ 1)))), (0, .ref (A 0)), (1, .int (nI i)), (2, .int (nI k))]) hx hb dX5_setOuter_52 rfl hl (by decide) rfl (fun ls hl => ?_)
            refine lv_aload_n hx hb dX5_setOuter_53 rfl (lv_at hl 1 rfl) ?_
            refine va_get (D := D) (ci := 5) (v := .ref (A 5)) (C := RX5) (T := TX5) (N := 7) hx hb hts qX5_setOuter_inX5 hown hK hP 0 rfl rfl 1 (by decide) (hts _ qX5_setOuter_Cond_fieldLink_RX5_19_NestedCodes_history_LNestedCodes_History_) (fun _ h9 => h9) rfl dX5_setOuter_54 ?_
            refine lv_aload_n hx hb dX5_setOuter_57 rfl (lv_at hl 1 rfl) ?_
            refine va_get (D := D) (ci := 5) (v := .ref (A 1)) (C := RX5) (T := TX5) (N := 7) hx hb hts qX5_setOuter_inX5 hown hK hP 0 rfl rfl 0 (by decide) (hts _ qX5_setOuter_Cond_fieldLink_RX5_10_NestedCodes_state_LNestedCodes_State_) (fun _ h9 => h9) rfl dX5_setOuter_58 ?_
            refine zc_w (va_runVN (C := RX0) (As := [.ref (A 1)]) (rest := []) ⟨hx, hb, hml, hown, hts⟩ (c_X0_record l D Y A B σ hn h (wdS σ) (ddS σ) r0 r1 r2 r3 r4 (σ 0) (pak (itC (wdS σ) σ) (σ 0)) (mkP (fun k9 => decide (k9 < σ 0))) wt wn  khn) ⟨(va_cnB 1 hts gX5_setOuter_X0_record_n61 rfl rfl rfl (kM_X5_61 hN) (hts _ qX5_setOuter_Cond_initialized_RX0) (by decide +kernel) (by rw [hR]; exact ⟨Nat.le_of_ble_eq_true rfl, Nat.le_of_ble_eq_true rfl⟩)), (hts _ qX5_setOuter_Cond_instanceMethod_yX0_record), (hts _ qX5_setOuter_Cond_selects_RX0_yX0_record_yX0_record)⟩ ⟨zBw_blind, va_recv hK hP (ci := 0) (q0 := 5) rfl rfl, zp_w hP hD hK hN⟩ rfl rfl hl.1 rfl (lv_room (Nat.le_of_ble_eq_true rfl)) dX5_setOuter_61 ⟨Nat.zero_le _, Nat.zero_le _⟩).run hS (zA_of hD) (fun H locs hP hz hk hS => ?_)
            have hD : va_D FA (CX Y A (recB B hn) σ (recN hn) (recH h hn σ) (wdS σ) (ddS σ) r0 r1 r2 r3 r4 (σ 0) (pak (itC (wdS σ) σ) (σ 0)) (mkP (fun k9 => decide (k9 < σ 0))) wt wn) := CX_recD hD
            refine lv_aload_n hx hb dX5_setOuter_64 rfl (lv_at hl 1 rfl) ?_
            refine va_get (D := D) (ci := 5) (v := .ref (A 1)) (C := RX5) (T := TX5) (N := 7) hx hb hts qX5_setOuter_inX5 hown hK hP 0 rfl rfl 0 (by decide) (hts _ qX5_setOuter_Cond_fieldLink_RX5_10_NestedCodes_state_LNestedCodes_State_) (fun _ h9 => h9) rfl dX5_setOuter_65 ?_
            refine lv_iload_n hx hb dX5_setOuter_68 rfl (lv_at hl 2 rfl) ?_
            refine va_putN (D := D) (ci := 4) (v := .int (nI i)) (ty := .int) (C := RX4) (T := TX4) (N := 7) hx hb hts qX5_setOuter_inX4 tyX4 tyX4_ok nmX4 hown hK hP hD hS 1 rfl rfl 0 (by decide) (kN_X5_55 hN) (fun _ h9 => h9) rfl (by decide +kernel) rfl rfl (Nat.le_of_ble_eq_true rfl) dX5_setOuter_69 (fun H locs hP hD9 hS => ?_)
            have hP : va_P D vwCl (CX Y A (recB B hn) (va_up σ 0 i) (recN hn) (recH h hn σ) (wdS σ) (ddS σ) r0 r1 r2 r3 r4 (σ 0) (pak (itC (wdS σ) σ) (σ 0)) (mkP (fun k9 => decide (k9 < σ 0))) wt wn) H := by rw [CX_f0] at hP; exact hP
            have hD : va_D FA (CX Y A (recB B hn) (va_up σ 0 i) (recN hn) (recH h hn σ) (wdS σ) (ddS σ) r0 r1 r2 r3 r4 (σ 0) (pak (itC (wdS σ) σ) (σ 0)) (mkP (fun k9 => decide (k9 < σ 0))) wt wn) := CX_dd hD
            clear hD9
            refine lv_aload_n hx hb dX5_setOuter_72 rfl (lv_at hl 1 rfl) ?_
            refine va_get (D := D) (ci := 5) (v := .ref (A 1)) (C := RX5) (T := TX5) (N := 7) hx hb hts qX5_setOuter_inX5 hown hK hP 0 rfl rfl 0 (by decide) (hts _ qX5_setOuter_Cond_fieldLink_RX5_10_NestedCodes_state_LNestedCodes_State_) (fun _ h9 => h9) rfl dX5_setOuter_73 ?_
            refine lv_iload_n hx hb dX5_setOuter_76 rfl (lv_at hl 3 rfl) ?_
            refine va_putN (D := D) (ci := 4) (v := .int (nI k)) (ty := .int) (C := RX4) (T := TX4) (N := 7) hx hb hts qX5_setOuter_inX4 tyX4 tyX4_ok nmX4 hown hK hP hD hS 1 rfl rfl 1 (by decide) (kN_X5_58 hN) (fun _ h9 => h9) rfl (by decide +kernel) rfl rfl (Nat.le_of_ble_eq_true rfl) dX5_setOuter_77 (fun H locs hP hD9 hS => ?_)
            have hP : va_P D vwCl (CX Y A (recB B hn) (va_up (va_up σ 0 i) 1 k) (recN hn) (recH h hn σ) (wdS σ) (ddS σ) r0 r1 r2 r3 r4 (σ 0) (pak (itC (wdS σ) σ) (σ 0)) (mkP (fun k9 => decide (k9 < σ 0))) wt wn) H := by rw [CX_f1] at hP; exact hP
            have hD : va_D FA (CX Y A (recB B hn) (va_up (va_up σ 0 i) 1 k) (recN hn) (recH h hn σ) (wdS σ) (ddS σ) r0 r1 r2 r3 r4 (σ 0) (pak (itC (wdS σ) σ) (σ 0)) (mkP (fun k9 => decide (k9 < σ 0))) wt wn) := CX_dd hD
            clear hD9
            refine lv_aload_n hx hb dX5_setOuter_80 rfl (lv_at hl 1 rfl) ?_
            refine va_get (D := D) (ci := 5) (v := .ref (A 1)) (C := RX5) (T := TX5) (N := 7) hx hb hts qX5_setOuter_inX5 hown hK hP 0 rfl rfl 0 (by decide) (hts _ qX5_setOuter_Cond_fieldLink_RX5_10_NestedCodes_state_LNestedCodes_State_) (fun _ h9 => h9) rfl dX5_setOuter_81 ?_
            refine zc_w (va_runVN (C := RX4) (As := []) (rest := []) ⟨hx, hb, hml, hown, hts⟩ (c_X4_clearBlocks l D Y A (recB B hn) (va_up (va_up σ 0 i) 1 k) (recN hn) (recH h hn σ) (wdS σ) (ddS σ) r0 r1 r2 r3 r4 (σ 0) (pak (itC (wdS σ) σ) (σ 0)) (mkP (fun k9 => decide (k9 < σ 0))) wt wn  (show va_up (va_up σ 0 i) 1 k 7 < 4096 from lm)) ⟨(va_cnB 0 hts gX5_setOuter_X4_clearBlocks_n65 rfl rfl rfl (kM_X5_65 hN) (hts _ qX5_setOuter_Cond_initialized_RX4) (by decide +kernel) (by rw [hR]; exact ⟨Nat.le_of_ble_eq_true rfl, Nat.le_of_ble_eq_true rfl⟩)), (hts _ qX5_setOuter_Cond_instanceMethod_yX4_clearBlocks), (hts _ qX5_setOuter_Cond_selects_RX4_yX4_clearBlocks_yX4_clearBlocks)⟩ ⟨zBw_blind, va_recv hK hP (ci := 4) (q0 := 1) rfl rfl, zp_w hP hD hK hN⟩ rfl rfl hl.1 rfl (lv_room (Nat.le_of_ble_eq_true rfl)) dX5_setOuter_84 ⟨Nat.zero_le _, Nat.zero_le _⟩).run hS (zA_of hD) (fun H locs hP hz hk hS => ?_)
            have hD : va_D FA (CX Y A (recB B hn) (clr (va_up (va_up σ 0 i) 1 k)) (recN hn) (recH h hn σ) (wdS σ) (ddS σ) r0 r1 r2 r3 r4 (σ 0) (pak (itC (wdS σ) σ) (σ 0)) (mkP (fun k9 => decide (k9 < σ 0))) wt wn) := CX_dd hD
            have hP : va_P D vwCl (CX Y A (recB B hn) (outS σ i k) (recN hn) (recH h hn σ) (wdS σ) (ddS σ) r0 r1 r2 r3 r4 (σ 0) (pak (itC (wdS σ) σ) (σ 0)) (mkP (fun k9 => decide (k9 < σ 0))) wt wn) H := hP
            have hD : va_D FA (CX Y A (recB B hn) (outS σ i k) (recN hn) (recH h hn σ) (wdS σ) (ddS σ) r0 r1 r2 r3 r4 (σ 0) (pak (itC (wdS σ) σ) (σ 0)) (mkP (fun k9 => decide (k9 < σ 0))) wt wn) := CX_dd hD
            refine lv_aload_n hx hb dX5_setOuter_87 rfl (lv_at hl 1 rfl) ?_
            refine zc_w (va_runV (As := []) (rest := []) ⟨hx, hb, hml, hown, hts⟩ (c_X5_readAgain l D Y A (recB B hn) (outS σ i k) (recN hn) (recH h hn σ) (wdS σ) (ddS σ) r0 r1 r2 r3 r4 (σ 0) (pak (itC (wdS σ) σ) (σ 0)) (mkP (fun k9 => decide (k9 < σ 0))) wt wn  (zWF_out kσ i3 i12 k1 k3 ki)) (cwV 0 hts gX5_setOuter_X5_readAgain rfl rfl rfl (by decide +kernel) (by rw [hR]; exact ⟨Nat.le_of_ble_eq_true rfl, Nat.le_of_ble_eq_true rfl⟩)) ⟨zBw_blind, va_recv hK hP (ci := 5) (q0 := 0) rfl rfl, zp_w hP hD hK hN⟩ rfl rfl hl.1 rfl (lv_room (Nat.le_of_ble_eq_true rfl)) dX5_setOuter_88 ⟨Nat.zero_le _, Nat.zero_le _⟩).run hS (zA_of hD) (fun H locs hP hz hk hS => ?_)
            have hD : va_D FA (CX Y A (recB B hn) (outS σ i k) (recN hn) (recH h hn σ) (wdS (outS σ i k)) (ddS (outS σ i k)) (ag0 (outS σ i k) r0) (ag1 (outS σ i k) r1) (ag2 (outS σ i k) r2) (ag3 (outS σ i k) r2 r3) (ag4 (outS σ i k) r2 r4) ((outS σ i k) 0) (pak (itC (wdS (outS σ i k)) (outS σ i k)) ((outS σ i k) 0)) (mkP (fun k9 => decide (k9 < (outS σ i k) 0))) wt wn) := CX_dd hD
            refine lv_iload_n hx hb dX5_setOuter_91 rfl (lv_at hl 0 rfl) ?_
            exact zw_i hx hb hr hlk hQ hS dX5_setOuter_92 (rfl) (hP)
          · exact absurd c27 (by omega)
    · exact absurd c8 (by omega)



theorem qX5_clearGenerators_Cond_fieldLink_RX5_48_NestedCodes_waitingCount_I_ : Cond.fieldLink RX5 48 "NestedCodes" "waitingCount" "I" ∈ wsX5_clearGenerators := by decide +kernel
theorem qX5_clearGenerators_inX5 : ∀ w ∈ wsX50, w ∈ wsX5_clearGenerators := by decide +kernel
set_option maxHeartbeats 4000000 in
set_option maxRecDepth 100000 in
theorem c_X5_clearGenerators (l : Launch) (D : va_G) (Y : Nat → ClassId) (A : Nat → Nat) (B : Nat → Nat) (σ : Nat → Nat) (hn : Nat) (h : Nat → Nat → Nat) (r0 : Nat → Nat) (r1 : Nat → Nat) (r2 : Nat → Nat) (r3 : Nat → Nat) (r4 : Nat → Nat) (wt : Nat → Nat) (wn : Nat)   (kσ : zWF σ) (kr : zCon σ r0 r1 r2 r3 r4) : Met l yX5_clearGenerators wsX5_clearGenerators ({ frames := 0, cells := 0, slots := 0, locals := 0 } : Room) (va_Pc [.ref (A 0)] (zBw D Y (CX Y A B σ hn h (wdS σ) (ddS σ) r0 r1 r2 r3 r4 (σ 0) (pak (itC (wdS σ) σ) (σ 0)) (mkP (fun k9 => decide (k9 < σ 0))) wt wn))) (zW (some (.int (nI wn))) D (CX Y A B σ hn h (wdS σ) (ddS σ) r0 r1 r2 r3 r4 (σ 0) (pak (itC (wdS σ) σ) (σ 0)) (mkP (fun k9 => decide (k9 < σ 0))) wt 0) (zA (CX Y A B σ hn h (wdS σ) (ddS σ) r0 r1 r2 r3 r4 (σ 0) (pak (itC (wdS σ) σ) (σ 0)) (mkP (fun k9 => decide (k9 < σ 0))) wt wn))) 0 0 (zA (CX Y A B σ hn h (wdS σ) (ddS σ) r0 r1 r2 r3 r4 (σ 0) (pak (itC (wdS σ) σ) (σ 0)) (mkP (fun k9 => decide (k9 < σ 0))) wt wn)) := by
  refine zw_of (cc := cX5_clearGenerators) (maxL := 2) (ret := (some .int)) (by decide) rfl (Nat.le_of_ble_eq_true rfl) ?_
  intro p e s m below meth c R args Q FA hR hx hb hml hr hlk hown hts hK hN hQ hP hD hS ls hl
  have hown : s.vm.findClass RX5 = some m.cls := hown
  have hl : lv_has ls 2 [(0, .ref (A 0))] := hl
  have hS := hS
  have kw := kσ
  obtain ⟨n3, n12, d1, d3, dn, b4, b10, gl, lm, sn, wl, wnz⟩ := kw
  have pb := zp_b b10
  have pk9 := zp_k d3
  have hpak : pak (itC (wdS σ) σ) (σ 0) < 281474976710656 := Nat.lt_of_lt_of_le (pak_lt (fun j _ => itC_lt _ _ j)) (show 2 ^ (4 * σ 0) ≤ 2 ^ 48 from Nat.pow_le_pow_right (by decide) (by omega))
  have hbar := barS_le kσ
  suffices hgo : ∀ (H : Heap) (locs : List Loc), va_P D vwCl (CX Y A B σ hn h (wdS σ) (ddS σ) r0 r1 r2 r3 r4 (σ 0) (pak (itC (wdS σ) σ) (σ 0)) (mkP (fun k9 => decide (k9 < σ 0))) wt wn) H → va_S FA s.heap H locs → W p l e R s m args below meth c H locs 0 0 Q (F0 m 0 ls []) from hgo _ _ hP hS
  clear hP hS
  intro H locs hP hS
  refine lv_aload_n hx hb dX5_clearGenerators_0 rfl (lv_at hl 0 rfl) ?_
  refine va_get (D := D) (ci := 5) (v := .int (nI wn)) (C := RX5) (T := TX5) (N := 7) hx hb hts qX5_clearGenerators_inX5 hown hK hP 0 rfl rfl 6 (by decide) (hts _ qX5_clearGenerators_Cond_fieldLink_RX5_48_NestedCodes_waitingCount_I_) (fun _ h9 => h9) rfl dX5_clearGenerators_1 ?_
  refine lv_istore_n (lv' := [(1, .int (nI wn)), (0, .ref (A 0))]) hx hb dX5_clearGenerators_4 rfl hl (by decide) rfl (fun ls hl => ?_)
  refine lv_aload_n hx hb dX5_clearGenerators_5 rfl (lv_at hl 1 rfl) ?_
  refine lv_iconst (v := (nI 0)) hx hb dX5_clearGenerators_6 (by decide) ?_
  refine va_put (D := D) (ci := 5) (v := .int (nI 0)) (ty := .int) (C := RX5) (T := TX5) (N := 7) hx hb hts qX5_clearGenerators_inX5 tyX5 tyX5_ok nmX5 hown hK hP hD hS 0 rfl rfl 6 (by decide) (hts _ qX5_clearGenerators_Cond_fieldLink_RX5_48_NestedCodes_waitingCount_I_) (fun _ h9 => h9) rfl (by decide +kernel) rfl rfl (Nat.le_of_ble_eq_true rfl) dX5_clearGenerators_7 (fun H locs hP hD9 hS => ?_)
  rw [CX_f_wn] at hP
  have hP : va_P D vwCl (CX Y A B σ hn h (wdS σ) (ddS σ) r0 r1 r2 r3 r4 (σ 0) (pak (itC (wdS σ) σ) (σ 0)) (mkP (fun k9 => decide (k9 < σ 0))) wt 0) H := hP
  have hD : va_D FA (CX Y A B σ hn h (wdS σ) (ddS σ) r0 r1 r2 r3 r4 (σ 0) (pak (itC (wdS σ) σ) (σ 0)) (mkP (fun k9 => decide (k9 < σ 0))) wt 0) := CX_dd hD
  clear hD9
  refine lv_iload_n hx hb dX5_clearGenerators_10 rfl (lv_at hl 0 rfl) ?_
  exact zw_i hx hb hr hlk hQ hS dX5_clearGenerators_11 (rfl) (hP)



theorem qX5_undo_Cond_fieldLink_RX5_19_NestedCodes_history_LNestedCodes_History_ : Cond.fieldLink RX5 19 "NestedCodes" "history" "LNestedCodes$History;" ∈ wsX5_undo := by decide +kernel
theorem qX5_undo_inX5 : ∀ w ∈ wsX50, w ∈ wsX5_undo := by decide +kernel
theorem qX5_undo_inX0 : ∀ w ∈ wsX00, w ∈ wsX5_undo := by decide +kernel
set_option maxHeartbeats 4000000 in
set_option maxRecDepth 100000 in
theorem c_X5_undo_not (l : Launch) (D : va_G) (Y : Nat → ClassId) (A : Nat → Nat) (B : Nat → Nat) (σ : Nat → Nat) (hn : Nat) (h : Nat → Nat → Nat) (r0 : Nat → Nat) (r1 : Nat → Nat) (r2 : Nat → Nat) (r3 : Nat → Nat) (r4 : Nat → Nat) (wt : Nat → Nat) (wn : Nat)   (kσ : zWF σ) (kr : zCon σ r0 r1 r2 r3 r4) (hn0 : hn = 0) : Met l yX5_undo wsX5_undo ({ frames := 6, cells := 0, slots := 0, locals := 132 } : Room) (va_Pc [.ref (A 0)] (zB D Y (CX Y A B σ hn h (wdS σ) (ddS σ) r0 r1 r2 r3 r4 (σ 0) (pak (itC (wdS σ) σ) (σ 0)) (mkP (fun k9 => decide (k9 < σ 0))) wt wn))) (zR (.int (-1002))) 0 0 (fun _ => False) := by
  refine zr_of (cc := cX5_undo) (maxL := 1) (ret := (some .int)) (by decide) rfl (Nat.le_of_ble_eq_true rfl) ?_
  intro p e s m below meth c R args Q hR hx hb hml hr hlk hown hts hK hN hP hQ ls hl
  have hown : s.vm.findClass RX5 = some m.cls := hown
  have hl : lv_has ls 1 [(0, .ref (A 0))] := hl
  have kw := kσ
  obtain ⟨n3, n12, d1, d3, dn, b4, b10, gl, lm, sn, wl, wnz⟩ := kw
  have pb := zp_b b10
  have pk9 := zp_k d3
  have hpak : pak (itC (wdS σ) σ) (σ 0) < 281474976710656 := Nat.lt_of_lt_of_le (pak_lt (fun j _ => itC_lt _ _ j)) (show 2 ^ (4 * σ 0) ≤ 2 ^ 48 from Nat.pow_le_pow_right (by decide) (by omega))
  have hbar := barS_le kσ
  refine lv_aload_n hx hb dX5_undo_0 rfl (lv_at hl 0 rfl) ?_
  refine va_get (D := D) (ci := 5) (v := .ref (A 5)) (C := RX5) (T := TX5) (N := 7) hx hb hts qX5_undo_inX5 hown hK hP 0 rfl rfl 1 (by decide) (hts _ qX5_undo_Cond_fieldLink_RX5_19_NestedCodes_history_LNestedCodes_History_) (fun _ h9 => h9) rfl dX5_undo_1 ?_
  refine va_getN (D := D) (ci := 0) (v := .int (nI hn)) (C := RX0) (T := TX0) (N := 2) hx hb hts qX5_undo_inX0 hown hK hP 5 rfl rfl 1 (by decide) (kN_X5_81 hN) (fun _ h9 => h9) rfl dX5_undo_4 ?_
  refine zn_if_ne (tgt := 14)  hx hb dX5_undo_7 (by decide) (by omega) (fun c7 => ?_) (fun c7 => ?_)
  · exact absurd c7 (by omega)
  · refine lv_sipush (v := (-1002)) hx hb dX5_undo_10 (by decide) ?_
    exact zr_i hx hb hr hlk hQ dX5_undo_13 (rfl)
theorem qX5_undo_Cond_fieldLink_RX5_10_NestedCodes_state_LNestedCodes_State_ : Cond.fieldLink RX5 10 "NestedCodes" "state" "LNestedCodes$State;" ∈ wsX5_undo := by decide +kernel
theorem qX5_undo_Cond_initialized_RX0 : Cond.initialized RX0 ∈ wsX5_undo := by decide +kernel
theorem qX5_undo_Cond_instanceMethod_yX0_restoreLatest : Cond.instanceMethod yX0_restoreLatest ∈ wsX5_undo := by decide +kernel
theorem qX5_undo_Cond_selects_RX0_yX0_restoreLatest_yX0_restoreLatest : Cond.selects RX0 yX0_restoreLatest yX0_restoreLatest ∈ wsX5_undo := by decide +kernel
set_option maxHeartbeats 4000000 in
set_option maxRecDepth 100000 in
theorem c_X5_undo (l : Launch) (D : va_G) (Y : Nat → ClassId) (A : Nat → Nat) (B : Nat → Nat) (σ : Nat → Nat) (hn : Nat) (h : Nat → Nat → Nat) (r0 : Nat → Nat) (r1 : Nat → Nat) (r2 : Nat → Nat) (r3 : Nat → Nat) (r4 : Nat → Nat) (wt : Nat → Nat) (wn : Nat)   (kσ : zWF σ) (kr : zCon σ r0 r1 r2 r3 r4) (khn : hn ≤ 6) (hn0 : 0 < hn) (kτ : zWF (h (hn - 1))) : Met l yX5_undo wsX5_undo ({ frames := 6, cells := 0, slots := 0, locals := 132 } : Room) (va_Pc [.ref (A 0)] (zBw D Y (CX Y A B σ hn h (wdS σ) (ddS σ) r0 r1 r2 r3 r4 (σ 0) (pak (itC (wdS σ) σ) (σ 0)) (mkP (fun k9 => decide (k9 < σ 0))) wt wn))) (zW (some (.int (nI (hn - 1)))) D (CX Y A B (h (hn - 1)) (hn - 1) h (wdS (h (hn - 1))) (ddS (h (hn - 1))) (ag0 (h (hn - 1)) r0) (ag1 (h (hn - 1)) r1) (ag2 (h (hn - 1)) r2) (ag3 (h (hn - 1)) r2 r3) (ag4 (h (hn - 1)) r2 r4) ((h (hn - 1)) 0) (pak (itC (wdS (h (hn - 1))) (h (hn - 1))) ((h (hn - 1)) 0)) (mkP (fun k9 => decide (k9 < (h (hn - 1)) 0))) wt wn) (zA (CX Y A B σ hn h (wdS σ) (ddS σ) r0 r1 r2 r3 r4 (σ 0) (pak (itC (wdS σ) σ) (σ 0)) (mkP (fun k9 => decide (k9 < σ 0))) wt wn))) 0 0 (zA (CX Y A B σ hn h (wdS σ) (ddS σ) r0 r1 r2 r3 r4 (σ 0) (pak (itC (wdS σ) σ) (σ 0)) (mkP (fun k9 => decide (k9 < σ 0))) wt wn)) := by
  refine zw_of (cc := cX5_undo) (maxL := 1) (ret := (some .int)) (by decide) rfl (Nat.le_of_ble_eq_true rfl) ?_
  intro p e s m below meth c R args Q FA hR hx hb hml hr hlk hown hts hK hN hQ hP hD hS ls hl
  have hown : s.vm.findClass RX5 = some m.cls := hown
  have hl : lv_has ls 1 [(0, .ref (A 0))] := hl
  have hS := hS
  have kw := kσ
  obtain ⟨n3, n12, d1, d3, dn, b4, b10, gl, lm, sn, wl, wnz⟩ := kw
  have pb := zp_b b10
  have pk9 := zp_k d3
  have hpak : pak (itC (wdS σ) σ) (σ 0) < 281474976710656 := Nat.lt_of_lt_of_le (pak_lt (fun j _ => itC_lt _ _ j)) (show 2 ^ (4 * σ 0) ≤ 2 ^ 48 from Nat.pow_le_pow_right (by decide) (by omega))
  have hbar := barS_le kσ
  suffices hgo : ∀ (H : Heap) (locs : List Loc), va_P D vwCl (CX Y A B σ hn h (wdS σ) (ddS σ) r0 r1 r2 r3 r4 (σ 0) (pak (itC (wdS σ) σ) (σ 0)) (mkP (fun k9 => decide (k9 < σ 0))) wt wn) H → va_S FA s.heap H locs → W p l e R s m args below meth c H locs 0 0 Q (F0 m 0 ls []) from hgo _ _ hP hS
  clear hP hS
  intro H locs hP hS
  refine lv_aload_n hx hb dX5_undo_0 rfl (lv_at hl 0 rfl) ?_
  refine va_get (D := D) (ci := 5) (v := .ref (A 5)) (C := RX5) (T := TX5) (N := 7) hx hb hts qX5_undo_inX5 hown hK hP 0 rfl rfl 1 (by decide) (hts _ qX5_undo_Cond_fieldLink_RX5_19_NestedCodes_history_LNestedCodes_History_) (fun _ h9 => h9) rfl dX5_undo_1 ?_
  refine va_getN (D := D) (ci := 0) (v := .int (nI hn)) (C := RX0) (T := TX0) (N := 2) hx hb hts qX5_undo_inX0 hown hK hP 5 rfl rfl 1 (by decide) (kN_X5_81 hN) (fun _ h9 => h9) rfl dX5_undo_4 ?_
  refine zn_if_ne (tgt := 14)  hx hb dX5_undo_7 (by decide) (by omega) (fun c7 => ?_) (fun c7 => ?_)
  · refine lv_aload_n hx hb dX5_undo_14 rfl (lv_at hl 0 rfl) ?_
    refine va_get (D := D) (ci := 5) (v := .ref (A 5)) (C := RX5) (T := TX5) (N := 7) hx hb hts qX5_undo_inX5 hown hK hP 0 rfl rfl 1 (by decide) (hts _ qX5_undo_Cond_fieldLink_RX5_19_NestedCodes_history_LNestedCodes_History_) (fun _ h9 => h9) rfl dX5_undo_15 ?_
    refine lv_aload_n hx hb dX5_undo_18 rfl (lv_at hl 0 rfl) ?_
    refine va_get (D := D) (ci := 5) (v := .ref (A 1)) (C := RX5) (T := TX5) (N := 7) hx hb hts qX5_undo_inX5 hown hK hP 0 rfl rfl 0 (by decide) (hts _ qX5_undo_Cond_fieldLink_RX5_10_NestedCodes_state_LNestedCodes_State_) (fun _ h9 => h9) rfl dX5_undo_19 ?_
    refine zc_w (va_runVN (C := RX0) (As := [.ref (A 1)]) (rest := []) ⟨hx, hb, hml, hown, hts⟩ (c_X0_restoreLatest l D Y A B σ hn h (wdS σ) (ddS σ) r0 r1 r2 r3 r4 (σ 0) (pak (itC (wdS σ) σ) (σ 0)) (mkP (fun k9 => decide (k9 < σ 0))) wt wn  khn (by omega)) ⟨(va_cnB 1 hts gX5_undo_X0_restoreLatest_n84 rfl rfl rfl (kM_X5_84 hN) (hts _ qX5_undo_Cond_initialized_RX0) (by decide +kernel) (by rw [hR]; exact ⟨Nat.le_of_ble_eq_true rfl, Nat.le_of_ble_eq_true rfl⟩)), (hts _ qX5_undo_Cond_instanceMethod_yX0_restoreLatest), (hts _ qX5_undo_Cond_selects_RX0_yX0_restoreLatest_yX0_restoreLatest)⟩ ⟨zBw_blind, va_recv hK hP (ci := 0) (q0 := 5) rfl rfl, zp_w hP hD hK hN⟩ rfl rfl hl.1 rfl (lv_room (Nat.le_of_ble_eq_true rfl)) dX5_undo_22 ⟨Nat.zero_le _, Nat.zero_le _⟩).run hS (zA_of hD) (fun H locs hP hz hk hS => ?_)
    have hD : va_D FA (CX Y A B (h (hn - 1)) (hn - 1) h (wdS σ) (ddS σ) r0 r1 r2 r3 r4 (σ 0) (pak (itC (wdS σ) σ) (σ 0)) (mkP (fun k9 => decide (k9 < σ 0))) wt wn) := CX_dd hD
    refine lv_aload_n hx hb dX5_undo_25 rfl (lv_at hl 0 rfl) ?_
    refine zc_w (va_runV (As := []) (rest := []) ⟨hx, hb, hml, hown, hts⟩ (c_X5_readAgain l D Y A B (h (hn - 1)) (hn - 1) h (wdS σ) (ddS σ) r0 r1 r2 r3 r4 (σ 0) (pak (itC (wdS σ) σ) (σ 0)) (mkP (fun k9 => decide (k9 < σ 0))) wt wn  kτ) (cwV 0 hts gX5_undo_X5_readAgain rfl rfl rfl (by decide +kernel) (by rw [hR]; exact ⟨Nat.le_of_ble_eq_true rfl, Nat.le_of_ble_eq_true rfl⟩)) ⟨zBw_blind, va_recv hK hP (ci := 5) (q0 := 0) rfl rfl, zp_w hP hD hK hN⟩ rfl rfl hl.1 rfl (lv_room (Nat.le_of_ble_eq_true rfl)) dX5_undo_26 ⟨Nat.zero_le _, Nat.zero_le _⟩).run hS (zA_of hD) (fun H locs hP hz hk hS => ?_)
    have hD : va_D FA (CX Y A B (h (hn - 1)) (hn - 1) h (wdS (h (hn - 1))) (ddS (h (hn - 1))) (ag0 (h (hn - 1)) r0) (ag1 (h (hn - 1)) r1) (ag2 (h (hn - 1)) r2) (ag3 (h (hn - 1)) r2 r3) (ag4 (h (hn - 1)) r2 r4) ((h (hn - 1)) 0) (pak (itC (wdS (h (hn - 1))) (h (hn - 1))) ((h (hn - 1)) 0)) (mkP (fun k9 => decide (k9 < (h (hn - 1)) 0))) wt wn) := CX_dd hD
    refine lv_aload_n hx hb dX5_undo_29 rfl (lv_at hl 0 rfl) ?_
    refine va_get (D := D) (ci := 5) (v := .ref (A 5)) (C := RX5) (T := TX5) (N := 7) hx hb hts qX5_undo_inX5 hown hK hP 0 rfl rfl 1 (by decide) (hts _ qX5_undo_Cond_fieldLink_RX5_19_NestedCodes_history_LNestedCodes_History_) (fun _ h9 => h9) rfl dX5_undo_30 ?_
    refine va_getN (D := D) (ci := 0) (v := .int (nI (hn - 1))) (C := RX0) (T := TX0) (N := 2) hx hb hts qX5_undo_inX0 hown hK hP 5 rfl rfl 1 (by decide) (kN_X5_81 hN) (fun _ h9 => h9) rfl dX5_undo_33 ?_
    exact zw_i hx hb hr hlk hQ hS dX5_undo_36 (rfl) (hP)
  · exact absurd c7 (by omega)
set_option maxHeartbeats 4000000 in
set_option maxRecDepth 100000 in
theorem c_X5_send_bad (l : Launch) (D : va_G) (Y : Nat → ClassId) (A : Nat → Nat) (B : Nat → Nat) (σ : Nat → Nat) (hn : Nat) (h : Nat → Nat → Nat) (r0 : Nat → Nat) (r1 : Nat → Nat) (r2 : Nat → Nat) (r3 : Nat → Nat) (r4 : Nat → Nat) (wt : Nat → Nat) (wn : Nat) (x : Int32)  (kσ : zWF σ) (kr : zCon σ r0 r1 r2 r3 r4) (hbad : ¬ (0 ≤ (x).toInt ∧ (x).toInt < ((2 ^ (4 * σ 1) : Nat) : Int))) : Met l yX5_send wsX5_send ({ frames := 6, cells := 0, slots := 0, locals := 132 } : Room) (va_Pc [.ref (A 0), .int (x)] (zB D Y (CX Y A B σ hn h (wdS σ) (ddS σ) r0 r1 r2 r3 r4 (σ 0) (pak (itC (wdS σ) σ) (σ 0)) (mkP (fun k9 => decide (k9 < σ 0))) wt wn))) (zR (.int (-1001))) 0 0 (fun _ => False) := by
  refine zr_of (cc := cX5_send) (maxL := 5) (ret := (some .int)) (by decide) rfl (Nat.le_of_ble_eq_true rfl) ?_
  intro p e s m below meth c R args Q hR hx hb hml hr hlk hown hts hK hN hP hQ ls hl
  have hown : s.vm.findClass RX5 = some m.cls := hown
  have hl : lv_has ls 5 [(0, .ref (A 0)), (1, .int (x))] := hl
  have kw := kσ
  obtain ⟨n3, n12, d1, d3, dn, b4, b10, gl, lm, sn, wl, wnz⟩ := kw
  have pb := zp_b b10
  have pk9 := zp_k d3
  have hpak : pak (itC (wdS σ) σ) (σ 0) < 281474976710656 := Nat.lt_of_lt_of_le (pak_lt (fun j _ => itC_lt _ _ j)) (show 2 ^ (4 * σ 0) ≤ 2 ^ 48 from Nat.pow_le_pow_right (by decide) (by omega))
  have hbar := barS_le kσ
  refine lv_aload_n hx hb dX5_send_0 rfl (lv_at hl 0 rfl) ?_
  refine lv_iload_n hx hb dX5_send_1 rfl (lv_at hl 1 rfl) ?_
  refine zc_r (va_runV (As := [.int (x)]) (rest := []) ⟨hx, hb, hml, hown, hts⟩ (c_X5_isMessage l D Y A B σ hn h (wdS σ) (ddS σ) r0 r1 r2 r3 r4 (σ 0) (pak (itC (wdS σ) σ) (σ 0)) (mkP (fun k9 => decide (k9 < σ 0))) wt wn x kσ) (cwV 1 hts gX5_send_X5_isMessage rfl rfl rfl (by decide +kernel) (by rw [hR]; exact ⟨Nat.le_of_ble_eq_true rfl, Nat.le_of_ble_eq_true rfl⟩)) ⟨zB_blind, va_recv hK hP (ci := 5) (q0 := 0) rfl rfl, zp_r hP hK hN⟩ rfl rfl hl.1 rfl (lv_room (Nat.le_of_ble_eq_true rfl)) dX5_send_2 ⟨Nat.zero_le _, Nat.zero_le _⟩).run ?_
  refine zb_if_ne (tgt := 12)  hx hb dX5_send_5 (by decide)  (fun c5 => ?_) (fun c5 => ?_)
  · exact absurd c5 hbad
  · refine lv_sipush (v := (-1001)) hx hb dX5_send_8 (by decide) ?_
    exact zr_i hx hb hr hlk hQ dX5_send_11 (rfl)
theorem qX5_send_Cond_fieldLink_RX5_19_NestedCodes_history_LNestedCodes_History_ : Cond.fieldLink RX5 19 "NestedCodes" "history" "LNestedCodes$History;" ∈ wsX5_send := by decide +kernel
theorem qX5_send_inX5 : ∀ w ∈ wsX50, w ∈ wsX5_send := by decide +kernel
theorem qX5_send_Cond_fieldLink_RX5_10_NestedCodes_state_LNestedCodes_State_ : Cond.fieldLink RX5 10 "NestedCodes" "state" "LNestedCodes$State;" ∈ wsX5_send := by decide +kernel
theorem qX5_send_Cond_initialized_RX0 : Cond.initialized RX0 ∈ wsX5_send := by decide +kernel
theorem qX5_send_Cond_instanceMethod_yX0_record : Cond.instanceMethod yX0_record ∈ wsX5_send := by decide +kernel
theorem qX5_send_Cond_selects_RX0_yX0_record_yX0_record : Cond.selects RX0 yX0_record yX0_record ∈ wsX5_send := by decide +kernel
theorem qX5_send_Cond_initialized_RX4 : Cond.initialized RX4 ∈ wsX5_send := by decide +kernel
theorem qX5_send_Cond_instanceMethod_yX4_clearBlocks : Cond.instanceMethod yX4_clearBlocks ∈ wsX5_send := by decide +kernel
theorem qX5_send_Cond_selects_RX4_yX4_clearBlocks_yX4_clearBlocks : Cond.selects RX4 yX4_clearBlocks yX4_clearBlocks ∈ wsX5_send := by decide +kernel
theorem qX5_send_inX4 : ∀ w ∈ wsX40, w ∈ wsX5_send := by decide +kernel
set_option maxHeartbeats 4000000 in
set_option maxRecDepth 100000 in
theorem c_X5_send (l : Launch) (D : va_G) (Y : Nat → ClassId) (A : Nat → Nat) (B : Nat → Nat) (σ : Nat → Nat) (hn : Nat) (h : Nat → Nat → Nat) (r0 : Nat → Nat) (r1 : Nat → Nat) (r2 : Nat → Nat) (r3 : Nat → Nat) (r4 : Nat → Nat) (wt : Nat → Nat) (wn : Nat) (m9 : Nat)  (kσ : zWF σ) (kr : zCon σ r0 r1 r2 r3 r4) (khn : hn ≤ 6) (hm : m9 < 2 ^ (4 * σ 1)) : Met l yX5_send wsX5_send ({ frames := 6, cells := 0, slots := 0, locals := 132 } : Room) (va_Pc [.ref (A 0), .int (nI m9)] (zBw D Y (CX Y A B σ hn h (wdS σ) (ddS σ) r0 r1 r2 r3 r4 (σ 0) (pak (itC (wdS σ) σ) (σ 0)) (mkP (fun k9 => decide (k9 < σ 0))) wt wn))) (zW (some (.int (nI (sndN σ m9 (σ 0))))) D (CX Y A (recB B hn) (sndI σ m9 (σ 0)) (recN hn) (recH h hn σ) (wdS (sndI σ m9 (σ 0))) (ddS (sndI σ m9 (σ 0))) (ag0 (sndI σ m9 (σ 0)) r0) (ag1 (sndI σ m9 (σ 0)) r1) (ag2 (sndI σ m9 (σ 0)) r2) (ag3 (sndI σ m9 (σ 0)) r2 r3) (ag4 (sndI σ m9 (σ 0)) r2 r4) ((sndI σ m9 (σ 0)) 0) (pak (itC (wdS (sndI σ m9 (σ 0))) (sndI σ m9 (σ 0))) ((sndI σ m9 (σ 0)) 0)) (mkP (fun k9 => decide (k9 < (sndI σ m9 (σ 0)) 0))) wt wn) (zA (CX Y A B σ hn h (wdS σ) (ddS σ) r0 r1 r2 r3 r4 (σ 0) (pak (itC (wdS σ) σ) (σ 0)) (mkP (fun k9 => decide (k9 < σ 0))) wt wn))) 0 0 (zA (CX Y A B σ hn h (wdS σ) (ddS σ) r0 r1 r2 r3 r4 (σ 0) (pak (itC (wdS σ) σ) (σ 0)) (mkP (fun k9 => decide (k9 < σ 0))) wt wn)) := by
  refine zw_of (cc := cX5_send) (maxL := 5) (ret := (some .int)) (by decide) rfl (Nat.le_of_ble_eq_true rfl) ?_
  intro p e s m below meth c R args Q FA hR hx hb hml hr hlk hown hts hK hN hQ hP hD hS ls hl
  have hown : s.vm.findClass RX5 = some m.cls := hown
  have hl : lv_has ls 5 [(0, .ref (A 0)), (1, .int (nI m9))] := hl
  have hS := hS
  have kw := kσ
  obtain ⟨n3, n12, d1, d3, dn, b4, b10, gl, lm, sn, wl, wnz⟩ := kw
  have pb := zp_b b10
  have pk9 := zp_k d3
  have hpak : pak (itC (wdS σ) σ) (σ 0) < 281474976710656 := Nat.lt_of_lt_of_le (pak_lt (fun j _ => itC_lt _ _ j)) (show 2 ^ (4 * σ 0) ≤ 2 ^ 48 from Nat.pow_le_pow_right (by decide) (by omega))
  have hbar := barS_le kσ
  suffices hgo : ∀ (H : Heap) (locs : List Loc), va_P D vwCl (CX Y A B σ hn h (wdS σ) (ddS σ) r0 r1 r2 r3 r4 (σ 0) (pak (itC (wdS σ) σ) (σ 0)) (mkP (fun k9 => decide (k9 < σ 0))) wt wn) H → va_S FA s.heap H locs → W p l e R s m args below meth c H locs 0 0 Q (F0 m 0 ls []) from hgo _ _ hP hS
  clear hP hS
  intro H locs hP hS
  refine lv_aload_n hx hb dX5_send_0 rfl (lv_at hl 0 rfl) ?_
  refine lv_iload_n hx hb dX5_send_1 rfl (lv_at hl 1 rfl) ?_
  refine zc_r (va_runV (As := [.int (nI m9)]) (rest := []) ⟨hx, hb, hml, hown, hts⟩ (c_X5_isMessage l D Y A B σ hn h (wdS σ) (ddS σ) r0 r1 r2 r3 r4 (σ 0) (pak (itC (wdS σ) σ) (σ 0)) (mkP (fun k9 => decide (k9 < σ 0))) wt wn ((nI m9)) kσ) (cwV 1 hts gX5_send_X5_isMessage rfl rfl rfl (by decide +kernel) (by rw [hR]; exact ⟨Nat.le_of_ble_eq_true rfl, Nat.le_of_ble_eq_true rfl⟩)) ⟨zB_blind, va_recv hK hP (ci := 5) (q0 := 0) rfl rfl, zp_r hP hK hN⟩ rfl rfl hl.1 rfl (lv_room (Nat.le_of_ble_eq_true rfl)) dX5_send_2 ⟨Nat.zero_le _, Nat.zero_le _⟩).run ?_
  refine zb_if_ne (tgt := 12)  hx hb dX5_send_5 (by decide)  (fun c5 => ?_) (fun c5 => ?_)
  · refine lv_aload_n hx hb dX5_send_12 rfl (lv_at hl 0 rfl) ?_
    refine va_get (D := D) (ci := 5) (v := .ref (A 5)) (C := RX5) (T := TX5) (N := 7) hx hb hts qX5_send_inX5 hown hK hP 0 rfl rfl 1 (by decide) (hts _ qX5_send_Cond_fieldLink_RX5_19_NestedCodes_history_LNestedCodes_History_) (fun _ h9 => h9) rfl dX5_send_13 ?_
    refine lv_aload_n hx hb dX5_send_16 rfl (lv_at hl 0 rfl) ?_
    refine va_get (D := D) (ci := 5) (v := .ref (A 1)) (C := RX5) (T := TX5) (N := 7) hx hb hts qX5_send_inX5 hown hK hP 0 rfl rfl 0 (by decide) (hts _ qX5_send_Cond_fieldLink_RX5_10_NestedCodes_state_LNestedCodes_State_) (fun _ h9 => h9) rfl dX5_send_17 ?_
    refine zc_w (va_runVN (C := RX0) (As := [.ref (A 1)]) (rest := []) ⟨hx, hb, hml, hown, hts⟩ (c_X0_record l D Y A B σ hn h (wdS σ) (ddS σ) r0 r1 r2 r3 r4 (σ 0) (pak (itC (wdS σ) σ) (σ 0)) (mkP (fun k9 => decide (k9 < σ 0))) wt wn  khn) ⟨(va_cnB 1 hts gX5_send_X0_record_n61 rfl rfl rfl (kM_X5_61 hN) (hts _ qX5_send_Cond_initialized_RX0) (by decide +kernel) (by rw [hR]; exact ⟨Nat.le_of_ble_eq_true rfl, Nat.le_of_ble_eq_true rfl⟩)), (hts _ qX5_send_Cond_instanceMethod_yX0_record), (hts _ qX5_send_Cond_selects_RX0_yX0_record_yX0_record)⟩ ⟨zBw_blind, va_recv hK hP (ci := 0) (q0 := 5) rfl rfl, zp_w hP hD hK hN⟩ rfl rfl hl.1 rfl (lv_room (Nat.le_of_ble_eq_true rfl)) dX5_send_20 ⟨Nat.zero_le _, Nat.zero_le _⟩).run hS (zA_of hD) (fun H locs hP hz hk hS => ?_)
    have hD : va_D FA (CX Y A (recB B hn) σ (recN hn) (recH h hn σ) (wdS σ) (ddS σ) r0 r1 r2 r3 r4 (σ 0) (pak (itC (wdS σ) σ) (σ 0)) (mkP (fun k9 => decide (k9 < σ 0))) wt wn) := CX_recD hD
    refine lv_aload_n hx hb dX5_send_23 rfl (lv_at hl 0 rfl) ?_
    refine va_get (D := D) (ci := 5) (v := .ref (A 1)) (C := RX5) (T := TX5) (N := 7) hx hb hts qX5_send_inX5 hown hK hP 0 rfl rfl 0 (by decide) (hts _ qX5_send_Cond_fieldLink_RX5_10_NestedCodes_state_LNestedCodes_State_) (fun _ h9 => h9) rfl dX5_send_24 ?_
    refine zc_w (va_runVN (C := RX4) (As := []) (rest := []) ⟨hx, hb, hml, hown, hts⟩ (c_X4_clearBlocks l D Y A (recB B hn) σ (recN hn) (recH h hn σ) (wdS σ) (ddS σ) r0 r1 r2 r3 r4 (σ 0) (pak (itC (wdS σ) σ) (σ 0)) (mkP (fun k9 => decide (k9 < σ 0))) wt wn  lm) ⟨(va_cnB 0 hts gX5_send_X4_clearBlocks_n65 rfl rfl rfl (kM_X5_65 hN) (hts _ qX5_send_Cond_initialized_RX4) (by decide +kernel) (by rw [hR]; exact ⟨Nat.le_of_ble_eq_true rfl, Nat.le_of_ble_eq_true rfl⟩)), (hts _ qX5_send_Cond_instanceMethod_yX4_clearBlocks), (hts _ qX5_send_Cond_selects_RX4_yX4_clearBlocks_yX4_clearBlocks)⟩ ⟨zBw_blind, va_recv hK hP (ci := 4) (q0 := 1) rfl rfl, zp_w hP hD hK hN⟩ rfl rfl hl.1 rfl (lv_room (Nat.le_of_ble_eq_true rfl)) dX5_send_27 ⟨Nat.zero_le _, Nat.zero_le _⟩).run hS (zA_of hD) (fun H locs hP hz hk hS => ?_)
    have hD : va_D FA (CX Y A (recB B hn) (clr σ) (recN hn) (recH h hn σ) (wdS σ) (ddS σ) r0 r1 r2 r3 r4 (σ 0) (pak (itC (wdS σ) σ) (σ 0)) (mkP (fun k9 => decide (k9 < σ 0))) wt wn) := CX_dd hD
    refine lv_aload_n hx hb dX5_send_30 rfl (lv_at hl 0 rfl) ?_
    refine va_get (D := D) (ci := 5) (v := .ref (A 1)) (C := RX5) (T := TX5) (N := 7) hx hb hts qX5_send_inX5 hown hK hP 0 rfl rfl 0 (by decide) (hts _ qX5_send_Cond_fieldLink_RX5_10_NestedCodes_state_LNestedCodes_State_) (fun _ h9 => h9) rfl dX5_send_31 ?_
    refine lv_iload_n hx hb dX5_send_34 rfl (lv_at hl 1 rfl) ?_
    refine va_putN (D := D) (ci := 4) (v := .int (nI m9)) (ty := .int) (C := RX4) (T := TX4) (N := 7) hx hb hts qX5_send_inX4 tyX4 tyX4_ok nmX4 hown hK hP hD hS 1 rfl rfl 6 (by decide) (kN_X5_122 hN) (fun _ h9 => h9) rfl (by decide +kernel) rfl rfl (Nat.le_of_ble_eq_true rfl) dX5_send_35 (fun H locs hP hD9 hS => ?_)
    have hP : va_P D vwCl (CX Y A (recB B hn) (va_up (clr σ) 8 m9) (recN hn) (recH h hn σ) (wdS σ) (ddS σ) r0 r1 r2 r3 r4 (σ 0) (pak (itC (wdS σ) σ) (σ 0)) (mkP (fun k9 => decide (k9 < σ 0))) wt wn) H := by rw [CX_f8] at hP; exact hP
    have hD : va_D FA (CX Y A (recB B hn) (va_up (clr σ) 8 m9) (recN hn) (recH h hn σ) (wdS σ) (ddS σ) r0 r1 r2 r3 r4 (σ 0) (pak (itC (wdS σ) σ) (σ 0)) (mkP (fun k9 => decide (k9 < σ 0))) wt wn) := CX_dd hD
    clear hD9
    refine lv_iconst (v := (nI 0)) hx hb dX5_send_38 (by decide) ?_
    refine lv_istore_n (lv' := [(2, .int (nI 0)), (0, .ref (A 0)), (1, .int (nI m9))]) hx hb dX5_send_39 rfl hl (by decide) rfl (fun ls hl => ?_)
    refine lv_iconst (v := (nI 0)) hx hb dX5_send_40 (by decide) ?_
    refine lv_istore_n (lv' := [(3, .int (nI 0)), (2, .int (nI 0)), (0, .ref (A 0)), (1, .int (nI m9))]) hx hb dX5_send_41 rfl hl (by decide) rfl (fun ls hl => ?_)
    have L42 : ∀ (n9 : Nat) (i : Nat) (hi : i ≤ σ 0), σ 0 - i < n9 → ∀ (H : Heap) (locs : List Loc), va_P D vwCl (CX Y A (recB B hn) (sndI σ m9 i) (recN hn) (recH h hn σ) (wdS σ) (ddS σ) r0 r1 r2 r3 r4 (σ 0) (pak (itC (wdS σ) σ) (σ 0)) (mkP (fun k9 => decide (k9 < σ 0))) wt wn) H → va_D FA (CX Y A (recB B hn) (sndI σ m9 i) (recN hn) (recH h hn σ) (wdS σ) (ddS σ) r0 r1 r2 r3 r4 (σ 0) (pak (itC (wdS σ) σ) (σ 0)) (mkP (fun k9 => decide (k9 < σ 0))) wt wn) → va_S FA s.heap H locs → ∀ ls : Array Slot, lv_has ls 5 [(3, .int (nI i)), (2, .int (nI (sndN σ m9 i))), (0, .ref (A 0)), (1, .int (nI m9))] → W p l e R s m args below meth c H locs 0 0 Q (F0 m 42 ls []) := by
      intro n9
      induction n9 with
      | zero => intro i hi hn9; exact absurd hn9 (Nat.not_lt_zero _)
      | succ n9 ih9 =>
        have ih42 := ih9
        clear ih9
        intro i hi hn9 H locs hP hD hS ls hl
        have hsl := sndN_le σ m9 i
        have hwb := zwd_1024 kσ (zcw m9 i)
        have hpw := popc_le (wdS σ (zcw m9 i))
        refine lv_iload_n hx hb dX5_send_42 rfl (lv_at hl 0 rfl) ?_
        refine lv_aload_n hx hb dX5_send_43 rfl (lv_at hl 2 rfl) ?_
        refine va_get (D := D) (ci := 5) (v := .ref (A 1)) (C := RX5) (T := TX5) (N := 7) hx hb hts qX5_send_inX5 hown hK hP 0 rfl rfl 0 (by decide) (hts _ qX5_send_Cond_fieldLink_RX5_10_NestedCodes_state_LNestedCodes_State_) (fun _ h9 => h9) rfl dX5_send_44 ?_
        refine va_getN (D := D) (ci := 4) (v := .int (nI ((sndI σ m9 i) 0))) (C := RX4) (T := TX4) (N := 7) hx hb hts qX5_send_inX4 hown hK hP 1 rfl rfl 0 (by decide) (kN_X5_55 hN) (fun _ h9 => h9) rfl dX5_send_47 ?_
        refine zt_i (v := (nI (σ 0))) (congrArg nI (sndI_lo σ m9 i (by decide))) ?_
        refine zn_icmp_ge (tgt := 86)  hx hb dX5_send_50 (by decide) (by omega) (by omega) (fun c50 => ?_) (fun c50 => ?_)
        · obtain rfl : i = σ 0 := by omega
          refine lv_aload_n hx hb dX5_send_86 rfl (lv_at hl 2 rfl) ?_
          refine zc_w (va_runV (As := []) (rest := []) ⟨hx, hb, hml, hown, hts⟩ (c_X5_readAgain l D Y A (recB B hn) (sndI σ m9 (σ 0)) (recN hn) (recH h hn σ) (wdS σ) (ddS σ) r0 r1 r2 r3 r4 (σ 0) (pak (itC (wdS σ) σ) (σ 0)) (mkP (fun k9 => decide (k9 < σ 0))) wt wn  (zWF_snd kσ hm)) (cwV 0 hts gX5_send_X5_readAgain rfl rfl rfl (by decide +kernel) (by rw [hR]; exact ⟨Nat.le_of_ble_eq_true rfl, Nat.le_of_ble_eq_true rfl⟩)) ⟨zBw_blind, va_recv hK hP (ci := 5) (q0 := 0) rfl rfl, zp_w hP hD hK hN⟩ rfl rfl hl.1 rfl (lv_room (Nat.le_of_ble_eq_true rfl)) dX5_send_87 ⟨Nat.zero_le _, Nat.zero_le _⟩).run hS (zA_of hD) (fun H locs hP hz hk hS => ?_)
          have hD : va_D FA (CX Y A (recB B hn) (sndI σ m9 (σ 0)) (recN hn) (recH h hn σ) (wdS (sndI σ m9 (σ 0))) (ddS (sndI σ m9 (σ 0))) (ag0 (sndI σ m9 (σ 0)) r0) (ag1 (sndI σ m9 (σ 0)) r1) (ag2 (sndI σ m9 (σ 0)) r2) (ag3 (sndI σ m9 (σ 0)) r2 r3) (ag4 (sndI σ m9 (σ 0)) r2 r4) ((sndI σ m9 (σ 0)) 0) (pak (itC (wdS (sndI σ m9 (σ 0))) (sndI σ m9 (σ 0))) ((sndI σ m9 (σ 0)) 0)) (mkP (fun k9 => decide (k9 < (sndI σ m9 (σ 0)) 0))) wt wn) := CX_dd hD
          refine lv_iload_n hx hb dX5_send_90 rfl (lv_at hl 1 rfl) ?_
          exact zw_i hx hb hr hlk hQ hS dX5_send_91 (rfl) (hP)
        · refine lv_aload_n hx hb dX5_send_53 rfl (lv_at hl 2 rfl) ?_
          refine lv_iload_n hx hb dX5_send_54 rfl (lv_at hl 3 rfl) ?_
          refine lv_iload_n hx hb dX5_send_55 rfl (lv_at hl 0 rfl) ?_
          refine zc_r (va_runV (As := [.int (nI m9), .int (nI i)]) (rest := []) ⟨hx, hb, hml, hown, hts⟩ (c_X5_wordSentFor l D Y A (recB B hn) (sndI σ m9 i) (recN hn) (recH h hn σ) (wdS σ) (ddS σ) r0 r1 r2 r3 r4 (σ 0) (pak (itC (wdS σ) σ) (σ 0)) (mkP (fun k9 => decide (k9 < σ 0))) wt wn m9 i (by omega) (by omega)) (cwV 2 hts gX5_send_X5_wordSentFor rfl rfl rfl (by decide +kernel) (by rw [hR]; exact ⟨Nat.le_of_ble_eq_true rfl, Nat.le_of_ble_eq_true rfl⟩)) ⟨zB_blind, va_recv hK hP (ci := 5) (q0 := 0) rfl rfl, zp_r hP hK hN⟩ rfl rfl hl.1 rfl (lv_room (Nat.le_of_ble_eq_true rfl)) dX5_send_56 ⟨Nat.zero_le _, Nat.zero_le _⟩).run ?_
          refine lv_istore (lv' := [(4, .int (nI ((wdS σ) (zcw m9 i)))), (3, .int (nI i)), (2, .int (nI (sndN σ m9 i))), (0, .ref (A 0)), (1, .int (nI m9))]) hx hb dX5_send_59 hl (by decide) rfl (fun ls hl => ?_)
          refine lv_aload_n hx hb dX5_send_61 rfl (lv_at hl 3 rfl) ?_
          refine va_get (D := D) (ci := 5) (v := .ref (A 1)) (C := RX5) (T := TX5) (N := 7) hx hb hts qX5_send_inX5 hown hK hP 0 rfl rfl 0 (by decide) (hts _ qX5_send_Cond_fieldLink_RX5_10_NestedCodes_state_LNestedCodes_State_) (fun _ h9 => h9) rfl dX5_send_62 ?_
          refine va_getN (D := D) (ci := 4) (v := .ref (A 3)) (C := RX4) (T := TX4) (N := 7) hx hb hts qX5_send_inX4 hown hK hP 1 rfl rfl 4 (by decide) (kN_X5_128 hN) (fun _ h9 => h9) rfl dX5_send_65 ?_
          refine lv_iload_n hx hb dX5_send_68 rfl (lv_at hl 1 rfl) ?_
          refine lv_iload hx hb dX5_send_69 (lv_at hl 0 rfl) ?_
          refine zs_i hx hb hK hP hD hS 3 (f := fun k9 => nI ((sndI σ m9 i) (9 + k9))) rfl (by omega) (by decide) dX5_send_71 (fun H locs hP hD9 hS => ?_)
          have hP : va_P D vwCl (CX Y A (recB B hn) (va_up (sndI σ m9 i) (9 + i) ((wdS σ) (zcw m9 i))) (recN hn) (recH h hn σ) (wdS σ) (ddS σ) r0 r1 r2 r3 r4 (σ 0) (pak (itC (wdS σ) σ) (σ 0)) (mkP (fun k9 => decide (k9 < σ 0))) wt wn) H := by rw [CX_w (i := i) (by omega)] at hP; exact hP
          have hD : va_D FA (CX Y A (recB B hn) (va_up (sndI σ m9 i) (9 + i) ((wdS σ) (zcw m9 i))) (recN hn) (recH h hn σ) (wdS σ) (ddS σ) r0 r1 r2 r3 r4 (σ 0) (pak (itC (wdS σ) σ) (σ 0)) (mkP (fun k9 => decide (k9 < σ 0))) wt wn) := CX_dd hD
          clear hD9
          refine lv_iload_n hx hb dX5_send_72 rfl (lv_at hl 2 rfl) ?_
          refine lv_iload hx hb dX5_send_73 (lv_at hl 0 rfl) ?_
          refine zc_r (va_runS (As := [.int (nI ((wdS σ) (zcw m9 i)))]) (rest := [.int (nI (sndN σ m9 i))]) ⟨hx, hb, hml, hown, hts⟩ (c_J6_bitCount_0f7a4 l D Y  ((wdS σ) (zcw m9 i)) (Nat.lt_trans hwb (by decide))) (va_cwS 1 hts gX5_send_J6_bitCount_0f7a4 rfl rfl rfl (by decide +kernel) (by rw [hR]; exact ⟨Nat.le_of_ble_eq_true rfl, Nat.le_of_ble_eq_true rfl⟩)) ⟨zB_blind, (zp_r (v := [.int (nI ((wdS σ) (zcw m9 i)))]) (fun k q h => absurd h (by simp)) hK hN)⟩ rfl rfl hl.1 rfl (lv_room (Nat.le_of_ble_eq_true rfl)) dX5_send_75 ⟨Nat.zero_le _, Nat.zero_le _⟩).run ?_
          have hp75 := popc_le ((wdS σ) (zcw m9 i))
          refine zv_iadd hx hb (v := (nI ((sndN σ m9 i) + (popc ((wdS σ) (zcw m9 i)))))) dX5_send_78 (nI_add _ _) ?_
          refine lv_istore_n (lv' := [(2, .int (nI ((sndN σ m9 i) + (popc ((wdS σ) (zcw m9 i)))))), (4, .int (nI ((wdS σ) (zcw m9 i)))), (3, .int (nI i)), (0, .ref (A 0)), (1, .int (nI m9))]) hx hb dX5_send_79 rfl hl (by decide) rfl (fun ls hl => ?_)
          refine lv_iinc (v := (nI (i + 1))) (lv' := [(3, .int (nI (i + 1))), (2, .int (nI ((sndN σ m9 i) + (popc ((wdS σ) (zcw m9 i)))))), (4, .int (nI ((wdS σ) (zcw m9 i)))), (0, .ref (A 0)), (1, .int (nI m9))]) hx hb dX5_send_80 hl (k := 2) rfl (zinc _) (by decide) rfl (fun ls hl => ?_)
          refine lv_goto (tgt := 42) hx hb dX5_send_83 (by decide) ?_
          have e9 : (va_up (sndI σ m9 i) (9 + i) ((wdS σ) (zcw m9 i))) = (sndI σ m9 (i + 1)) := sndI_up σ m9 i
          rw [e9] at hP
          clear e9
          have hP : va_P D vwCl (CX Y A (recB B hn) (sndI σ m9 (i + 1)) (recN hn) (recH h hn σ) (wdS σ) (ddS σ) r0 r1 r2 r3 r4 (σ 0) (pak (itC (wdS σ) σ) (σ 0)) (mkP (fun k9 => decide (k9 < σ 0))) wt wn) H := hP
          have hD : va_D FA (CX Y A (recB B hn) (sndI σ m9 (i + 1)) (recN hn) (recH h hn σ) (wdS σ) (ddS σ) r0 r1 r2 r3 r4 (σ 0) (pak (itC (wdS σ) σ) (σ 0)) (mkP (fun k9 => decide (k9 < σ 0))) wt wn) := CX_dd hD
          exact ih42 (i + 1) (by omega) (by omega) H locs hP hD hS ls (lv_sub hl [0, 1, 3, 4] rfl)
    have e9 : (va_up (clr σ) 8 m9) = (sndI σ m9 0) := sndI_0 σ m9
    rw [e9] at hP
    clear e9
    have hP : va_P D vwCl (CX Y A (recB B hn) (sndI σ m9 0) (recN hn) (recH h hn σ) (wdS σ) (ddS σ) r0 r1 r2 r3 r4 (σ 0) (pak (itC (wdS σ) σ) (σ 0)) (mkP (fun k9 => decide (k9 < σ 0))) wt wn) H := hP
    have hD : va_D FA (CX Y A (recB B hn) (sndI σ m9 0) (recN hn) (recH h hn σ) (wdS σ) (ddS σ) r0 r1 r2 r3 r4 (σ 0) (pak (itC (wdS σ) σ) (σ 0)) (mkP (fun k9 => decide (k9 < σ 0))) wt wn) := CX_dd hD
    exact L42 (σ 0 - 0 + 1) 0 (by omega) (Nat.lt_succ_self _) _ _ hP hD hS ls (lv_sub hl [0, 1, 2, 3] rfl)
  · exact absurd ⟨by rw [zt_n (by omega)]; omega, by rw [zt_n (by omega)]; omega⟩ c5
theorem qX5_flip_Cond_fieldLink_RX5_10_NestedCodes_state_LNestedCodes_State_ : Cond.fieldLink RX5 10 "NestedCodes" "state" "LNestedCodes$State;" ∈ wsX5_flip := by decide +kernel
theorem qX5_flip_inX5 : ∀ w ∈ wsX50, w ∈ wsX5_flip := by decide +kernel
theorem qX5_flip_Cond_initialized_RX4 : Cond.initialized RX4 ∈ wsX5_flip := by decide +kernel
theorem qX5_flip_Cond_instanceMethod_yX4_allBits : Cond.instanceMethod yX4_allBits ∈ wsX5_flip := by decide +kernel
theorem qX5_flip_Cond_selects_RX4_yX4_allBits_yX4_allBits : Cond.selects RX4 yX4_allBits yX4_allBits ∈ wsX5_flip := by decide +kernel
set_option maxHeartbeats 4000000 in
set_option maxRecDepth 100000 in
theorem c_X5_flip_bad (l : Launch) (D : va_G) (Y : Nat → ClassId) (A : Nat → Nat) (B : Nat → Nat) (σ : Nat → Nat) (hn : Nat) (h : Nat → Nat → Nat) (r0 : Nat → Nat) (r1 : Nat → Nat) (r2 : Nat → Nat) (r3 : Nat → Nat) (r4 : Nat → Nat) (wt : Nat → Nat) (wn : Nat) (y : Int32) (x : Int32)  (kσ : zWF σ) (kr : zCon σ r0 r1 r2 r3 r4) (hbad : ¬ ((0 ≤ (y).toInt ∧ (y).toInt < ((σ 0 : Nat) : Int)) ∧ 1 ≤ (x).toInt ∧ (x).toInt ≤ ((2 ^ (σ 2) - 1 : Nat) : Int))) : Met l yX5_flip wsX5_flip ({ frames := 6, cells := 0, slots := 0, locals := 132 } : Room) (va_Pc [.ref (A 0), .int (y), .int (x)] (zB D Y (CX Y A B σ hn h (wdS σ) (ddS σ) r0 r1 r2 r3 r4 (σ 0) (pak (itC (wdS σ) σ) (σ 0)) (mkP (fun k9 => decide (k9 < σ 0))) wt wn))) (zR (.int (-1001))) 0 0 (fun _ => False) := by
  refine zr_of (cc := cX5_flip) (maxL := 3) (ret := (some .int)) (by decide) rfl (Nat.le_of_ble_eq_true rfl) ?_
  intro p e s m below meth c R args Q hR hx hb hml hr hlk hown hts hK hN hP hQ ls hl
  have hown : s.vm.findClass RX5 = some m.cls := hown
  have hl : lv_has ls 3 [(0, .ref (A 0)), (1, .int (y)), (2, .int (x))] := hl
  have kw := kσ
  obtain ⟨n3, n12, d1, d3, dn, b4, b10, gl, lm, sn, wl, wnz⟩ := kw
  have pb := zp_b b10
  have pk9 := zp_k d3
  have hpak : pak (itC (wdS σ) σ) (σ 0) < 281474976710656 := Nat.lt_of_lt_of_le (pak_lt (fun j _ => itC_lt _ _ j)) (show 2 ^ (4 * σ 0) ≤ 2 ^ 48 from Nat.pow_le_pow_right (by decide) (by omega))
  have hbar := barS_le kσ
  refine lv_aload_n hx hb dX5_flip_0 rfl (lv_at hl 0 rfl) ?_
  refine lv_iload_n hx hb dX5_flip_1 rfl (lv_at hl 1 rfl) ?_
  refine zc_r (va_runV (As := [.int (y)]) (rest := []) ⟨hx, hb, hml, hown, hts⟩ (c_X5_isBlock l D Y A B σ hn h (wdS σ) (ddS σ) r0 r1 r2 r3 r4 (σ 0) (pak (itC (wdS σ) σ) (σ 0)) (mkP (fun k9 => decide (k9 < σ 0))) wt wn y n12) (cwV 1 hts gX5_flip_X5_isBlock rfl rfl rfl (by decide +kernel) (by rw [hR]; exact ⟨Nat.le_of_ble_eq_true rfl, Nat.le_of_ble_eq_true rfl⟩)) ⟨zB_blind, va_recv hK hP (ci := 5) (q0 := 0) rfl rfl, zp_r hP hK hN⟩ rfl rfl hl.1 rfl (lv_room (Nat.le_of_ble_eq_true rfl)) dX5_flip_2 ⟨Nat.zero_le _, Nat.zero_le _⟩).run ?_
  refine zb_if_eq (tgt := 24)  hx hb dX5_flip_5 (by decide)  (fun c5 => ?_) (fun c5 => ?_)
  · refine lv_sipush (v := (-1001)) hx hb dX5_flip_24 (by decide) ?_
    exact zr_i hx hb hr hlk hQ dX5_flip_27 (rfl)
  · refine lv_iload_n hx hb dX5_flip_8 rfl (lv_at hl 2 rfl) ?_
    refine lv_iconst (v := (nI 1)) hx hb dX5_flip_9 (by decide) ?_
    refine zz_icmp_lt (tgt := 24) (a := (x).toInt) (b := (((1 : Nat)) : Int)) hx hb dX5_flip_10 (by decide) (rfl) (zt_n (by omega)) (fun c10 => ?_) (fun c10 => ?_)
    · refine lv_sipush (v := (-1001)) hx hb dX5_flip_24 (by decide) ?_
      exact zr_i hx hb hr hlk hQ dX5_flip_27 (rfl)
    · refine lv_iload_n hx hb dX5_flip_13 rfl (lv_at hl 2 rfl) ?_
      refine lv_aload_n hx hb dX5_flip_14 rfl (lv_at hl 0 rfl) ?_
      refine va_get (D := D) (ci := 5) (v := .ref (A 1)) (C := RX5) (T := TX5) (N := 7) hx hb hts qX5_flip_inX5 hown hK hP 0 rfl rfl 0 (by decide) (hts _ qX5_flip_Cond_fieldLink_RX5_10_NestedCodes_state_LNestedCodes_State_) (fun _ h9 => h9) rfl dX5_flip_15 ?_
      refine zc_r (va_runVN (C := RX4) (As := []) (rest := [.int (x)]) ⟨hx, hb, hml, hown, hts⟩ (c_X4_allBits l D Y A B σ hn h (wdS σ) (ddS σ) r0 r1 r2 r3 r4 (σ 0) (pak (itC (wdS σ) σ) (σ 0)) (mkP (fun k9 => decide (k9 < σ 0))) wt wn  kσ) ⟨(va_cnB 0 hts gX5_flip_X4_allBits_n135 rfl rfl rfl (kM_X5_135 hN) (hts _ qX5_flip_Cond_initialized_RX4) (by decide +kernel) (by rw [hR]; exact ⟨Nat.le_of_ble_eq_true rfl, Nat.le_of_ble_eq_true rfl⟩)), (hts _ qX5_flip_Cond_instanceMethod_yX4_allBits), (hts _ qX5_flip_Cond_selects_RX4_yX4_allBits_yX4_allBits)⟩ ⟨zB_blind, va_recv hK hP (ci := 4) (q0 := 1) rfl rfl, zp_r hP hK hN⟩ rfl rfl hl.1 rfl (lv_room (Nat.le_of_ble_eq_true rfl)) dX5_flip_18 ⟨Nat.zero_le _, Nat.zero_le _⟩).run ?_
      refine zz_icmp_le (tgt := 28) (a := (x).toInt) (b := (((2 ^ (σ 2) - 1 : Nat)) : Int)) hx hb dX5_flip_21 (by decide) (rfl) (zt_n (by omega)) (fun c21 => ?_) (fun c21 => ?_)
      · exact absurd c21 (by omega)
      · refine lv_sipush (v := (-1001)) hx hb dX5_flip_24 (by decide) ?_
        exact zr_i hx hb hr hlk hQ dX5_flip_27 (rfl)
theorem qX5_flip_inX4 : ∀ w ∈ wsX40, w ∈ wsX5_flip := by decide +kernel
set_option maxHeartbeats 4000000 in
set_option maxRecDepth 100000 in
theorem c_X5_flip_lost (l : Launch) (D : va_G) (Y : Nat → ClassId) (A : Nat → Nat) (B : Nat → Nat) (σ : Nat → Nat) (hn : Nat) (h : Nat → Nat → Nat) (r0 : Nat → Nat) (r1 : Nat → Nat) (r2 : Nat → Nat) (r3 : Nat → Nat) (r4 : Nat → Nat) (wt : Nat → Nat) (wn : Nat) (j : Nat) (mk : Nat)  (kσ : zWF σ) (kr : zCon σ r0 r1 r2 r3 r4) (hj : j < σ 0) (hm1 : 1 ≤ mk) (hm2 : mk ≤ 2 ^ (σ 2) - 1) (hls : zL (σ 7) j = 1) : Met l yX5_flip wsX5_flip ({ frames := 6, cells := 0, slots := 0, locals := 132 } : Room) (va_Pc [.ref (A 0), .int (nI j), .int (nI mk)] (zB D Y (CX Y A B σ hn h (wdS σ) (ddS σ) r0 r1 r2 r3 r4 (σ 0) (pak (itC (wdS σ) σ) (σ 0)) (mkP (fun k9 => decide (k9 < σ 0))) wt wn))) (zR (.int (-1002))) 0 0 (fun _ => False) := by
  refine zr_of (cc := cX5_flip) (maxL := 3) (ret := (some .int)) (by decide) rfl (Nat.le_of_ble_eq_true rfl) ?_
  intro p e s m below meth c R args Q hR hx hb hml hr hlk hown hts hK hN hP hQ ls hl
  have hown : s.vm.findClass RX5 = some m.cls := hown
  have hl : lv_has ls 3 [(0, .ref (A 0)), (1, .int (nI j)), (2, .int (nI mk))] := hl
  have kw := kσ
  obtain ⟨n3, n12, d1, d3, dn, b4, b10, gl, lm, sn, wl, wnz⟩ := kw
  have pb := zp_b b10
  have pk9 := zp_k d3
  have hpak : pak (itC (wdS σ) σ) (σ 0) < 281474976710656 := Nat.lt_of_lt_of_le (pak_lt (fun j _ => itC_lt _ _ j)) (show 2 ^ (4 * σ 0) ≤ 2 ^ 48 from Nat.pow_le_pow_right (by decide) (by omega))
  have hbar := barS_le kσ
  refine lv_aload_n hx hb dX5_flip_0 rfl (lv_at hl 0 rfl) ?_
  refine lv_iload_n hx hb dX5_flip_1 rfl (lv_at hl 1 rfl) ?_
  refine zc_r (va_runV (As := [.int (nI j)]) (rest := []) ⟨hx, hb, hml, hown, hts⟩ (c_X5_isBlock l D Y A B σ hn h (wdS σ) (ddS σ) r0 r1 r2 r3 r4 (σ 0) (pak (itC (wdS σ) σ) (σ 0)) (mkP (fun k9 => decide (k9 < σ 0))) wt wn ((nI j)) n12) (cwV 1 hts gX5_flip_X5_isBlock rfl rfl rfl (by decide +kernel) (by rw [hR]; exact ⟨Nat.le_of_ble_eq_true rfl, Nat.le_of_ble_eq_true rfl⟩)) ⟨zB_blind, va_recv hK hP (ci := 5) (q0 := 0) rfl rfl, zp_r hP hK hN⟩ rfl rfl hl.1 rfl (lv_room (Nat.le_of_ble_eq_true rfl)) dX5_flip_2 ⟨Nat.zero_le _, Nat.zero_le _⟩).run ?_
  refine zb_if_eq (tgt := 24)  hx hb dX5_flip_5 (by decide)  (fun c5 => ?_) (fun c5 => ?_)
  · exact absurd ⟨by rw [zt_n (by omega)]; omega, by rw [zt_n (by omega)]; omega⟩ c5
  · refine lv_iload_n hx hb dX5_flip_8 rfl (lv_at hl 2 rfl) ?_
    refine lv_iconst (v := (nI 1)) hx hb dX5_flip_9 (by decide) ?_
    refine zn_icmp_lt (tgt := 24)  hx hb dX5_flip_10 (by decide) (by omega) (by omega) (fun c10 => ?_) (fun c10 => ?_)
    · exact absurd c10 (by omega)
    · refine lv_iload_n hx hb dX5_flip_13 rfl (lv_at hl 2 rfl) ?_
      refine lv_aload_n hx hb dX5_flip_14 rfl (lv_at hl 0 rfl) ?_
      refine va_get (D := D) (ci := 5) (v := .ref (A 1)) (C := RX5) (T := TX5) (N := 7) hx hb hts qX5_flip_inX5 hown hK hP 0 rfl rfl 0 (by decide) (hts _ qX5_flip_Cond_fieldLink_RX5_10_NestedCodes_state_LNestedCodes_State_) (fun _ h9 => h9) rfl dX5_flip_15 ?_
      refine zc_r (va_runVN (C := RX4) (As := []) (rest := [.int (nI mk)]) ⟨hx, hb, hml, hown, hts⟩ (c_X4_allBits l D Y A B σ hn h (wdS σ) (ddS σ) r0 r1 r2 r3 r4 (σ 0) (pak (itC (wdS σ) σ) (σ 0)) (mkP (fun k9 => decide (k9 < σ 0))) wt wn  kσ) ⟨(va_cnB 0 hts gX5_flip_X4_allBits_n135 rfl rfl rfl (kM_X5_135 hN) (hts _ qX5_flip_Cond_initialized_RX4) (by decide +kernel) (by rw [hR]; exact ⟨Nat.le_of_ble_eq_true rfl, Nat.le_of_ble_eq_true rfl⟩)), (hts _ qX5_flip_Cond_instanceMethod_yX4_allBits), (hts _ qX5_flip_Cond_selects_RX4_yX4_allBits_yX4_allBits)⟩ ⟨zB_blind, va_recv hK hP (ci := 4) (q0 := 1) rfl rfl, zp_r hP hK hN⟩ rfl rfl hl.1 rfl (lv_room (Nat.le_of_ble_eq_true rfl)) dX5_flip_18 ⟨Nat.zero_le _, Nat.zero_le _⟩).run ?_
      refine zn_icmp_le (tgt := 28)  hx hb dX5_flip_21 (by decide) (by omega) (by omega) (fun c21 => ?_) (fun c21 => ?_)
      · refine lv_aload_n hx hb dX5_flip_28 rfl (lv_at hl 0 rfl) ?_
        refine va_get (D := D) (ci := 5) (v := .ref (A 1)) (C := RX5) (T := TX5) (N := 7) hx hb hts qX5_flip_inX5 hown hK hP 0 rfl rfl 0 (by decide) (hts _ qX5_flip_Cond_fieldLink_RX5_10_NestedCodes_state_LNestedCodes_State_) (fun _ h9 => h9) rfl dX5_flip_29 ?_
        refine va_getN (D := D) (ci := 4) (v := .ref (A 4)) (C := RX4) (T := TX4) (N := 7) hx hb hts qX5_flip_inX4 hown hK hP 1 rfl rfl 5 (by decide) (kN_X5_138 hN) (fun _ h9 => h9) rfl dX5_flip_32 ?_
        refine lv_iload_n hx hb dX5_flip_35 rfl (lv_at hl 1 rfl) ?_
        refine za_z hx hb hK hP 4 (f := fun k9 => nI (zL (σ 7) k9)) (v := (nI (zL (σ 7) j))) rfl (by omega) (by decide) dX5_flip_36 (rfl) ?_
        refine zn_if_eq (tgt := 44)  hx hb dX5_flip_37 (by decide) (by omega) (fun c37 => ?_) (fun c37 => ?_)
        · exact absurd c37 (by omega)
        · refine lv_sipush (v := (-1002)) hx hb dX5_flip_40 (by decide) ?_
          exact zr_i hx hb hr hlk hQ dX5_flip_43 (rfl)
      · exact absurd c21 (by omega)
theorem qX5_flip_Cond_fieldLink_RX5_19_NestedCodes_history_LNestedCodes_History_ : Cond.fieldLink RX5 19 "NestedCodes" "history" "LNestedCodes$History;" ∈ wsX5_flip := by decide +kernel
theorem qX5_flip_Cond_initialized_RX0 : Cond.initialized RX0 ∈ wsX5_flip := by decide +kernel
theorem qX5_flip_Cond_instanceMethod_yX0_record : Cond.instanceMethod yX0_record ∈ wsX5_flip := by decide +kernel
theorem qX5_flip_Cond_selects_RX0_yX0_record_yX0_record : Cond.selects RX0 yX0_record yX0_record ∈ wsX5_flip := by decide +kernel
theorem qX5_flip_Cond_fieldLink_RX5_40_NestedCodes_reading_LNestedCodes_Reading_ : Cond.fieldLink RX5 40 "NestedCodes" "reading" "LNestedCodes$Reading;" ∈ wsX5_flip := by decide +kernel
theorem qX5_flip_inX3 : ∀ w ∈ wsX30, w ∈ wsX5_flip := by decide +kernel
set_option maxHeartbeats 4000000 in
set_option maxRecDepth 100000 in
theorem c_X5_flip (l : Launch) (D : va_G) (Y : Nat → ClassId) (A : Nat → Nat) (B : Nat → Nat) (σ : Nat → Nat) (hn : Nat) (h : Nat → Nat → Nat) (r0 : Nat → Nat) (r1 : Nat → Nat) (r2 : Nat → Nat) (r3 : Nat → Nat) (r4 : Nat → Nat) (wt : Nat → Nat) (wn : Nat) (j : Nat) (mk : Nat)  (kσ : zWF σ) (kr : zCon σ r0 r1 r2 r3 r4) (khn : hn ≤ 6) (hj : j < σ 0) (hm1 : 1 ≤ mk) (hm2 : mk ≤ 2 ^ (σ 2) - 1) (hls : zL (σ 7) j = 0) : Met l yX5_flip wsX5_flip ({ frames := 6, cells := 0, slots := 0, locals := 132 } : Room) (va_Pc [.ref (A 0), .int (nI j), .int (nI mk)] (zBw D Y (CX Y A B σ hn h (wdS σ) (ddS σ) r0 r1 r2 r3 r4 (σ 0) (pak (itC (wdS σ) σ) (σ 0)) (mkP (fun k9 => decide (k9 < σ 0))) wt wn))) (zW (some (.int (nI (faS (flpS σ j mk) j)))) D (CX Y A (recB B hn) (flpS σ j mk) (recN hn) (recH h hn σ) (wdS (flpS σ j mk)) (ddS (flpS σ j mk)) (ag0 (flpS σ j mk) r0) (ag1 (flpS σ j mk) r1) (ag2 (flpS σ j mk) r2) (ag3 (flpS σ j mk) r2 r3) (ag4 (flpS σ j mk) r2 r4) ((flpS σ j mk) 0) (pak (itC (wdS (flpS σ j mk)) (flpS σ j mk)) ((flpS σ j mk) 0)) (mkP (fun k9 => decide (k9 < (flpS σ j mk) 0))) wt wn) (zA (CX Y A B σ hn h (wdS σ) (ddS σ) r0 r1 r2 r3 r4 (σ 0) (pak (itC (wdS σ) σ) (σ 0)) (mkP (fun k9 => decide (k9 < σ 0))) wt wn))) 0 0 (zA (CX Y A B σ hn h (wdS σ) (ddS σ) r0 r1 r2 r3 r4 (σ 0) (pak (itC (wdS σ) σ) (σ 0)) (mkP (fun k9 => decide (k9 < σ 0))) wt wn)) := by
  refine zw_of (cc := cX5_flip) (maxL := 3) (ret := (some .int)) (by decide) rfl (Nat.le_of_ble_eq_true rfl) ?_
  intro p e s m below meth c R args Q FA hR hx hb hml hr hlk hown hts hK hN hQ hP hD hS ls hl
  have hown : s.vm.findClass RX5 = some m.cls := hown
  have hl : lv_has ls 3 [(0, .ref (A 0)), (1, .int (nI j)), (2, .int (nI mk))] := hl
  have hS := hS
  have kw := kσ
  obtain ⟨n3, n12, d1, d3, dn, b4, b10, gl, lm, sn, wl, wnz⟩ := kw
  have pb := zp_b b10
  have pk9 := zp_k d3
  have hpak : pak (itC (wdS σ) σ) (σ 0) < 281474976710656 := Nat.lt_of_lt_of_le (pak_lt (fun j _ => itC_lt _ _ j)) (show 2 ^ (4 * σ 0) ≤ 2 ^ 48 from Nat.pow_le_pow_right (by decide) (by omega))
  have hbar := barS_le kσ
  suffices hgo : ∀ (H : Heap) (locs : List Loc), va_P D vwCl (CX Y A B σ hn h (wdS σ) (ddS σ) r0 r1 r2 r3 r4 (σ 0) (pak (itC (wdS σ) σ) (σ 0)) (mkP (fun k9 => decide (k9 < σ 0))) wt wn) H → va_S FA s.heap H locs → W p l e R s m args below meth c H locs 0 0 Q (F0 m 0 ls []) from hgo _ _ hP hS
  clear hP hS
  intro H locs hP hS
  refine lv_aload_n hx hb dX5_flip_0 rfl (lv_at hl 0 rfl) ?_
  refine lv_iload_n hx hb dX5_flip_1 rfl (lv_at hl 1 rfl) ?_
  refine zc_r (va_runV (As := [.int (nI j)]) (rest := []) ⟨hx, hb, hml, hown, hts⟩ (c_X5_isBlock l D Y A B σ hn h (wdS σ) (ddS σ) r0 r1 r2 r3 r4 (σ 0) (pak (itC (wdS σ) σ) (σ 0)) (mkP (fun k9 => decide (k9 < σ 0))) wt wn ((nI j)) n12) (cwV 1 hts gX5_flip_X5_isBlock rfl rfl rfl (by decide +kernel) (by rw [hR]; exact ⟨Nat.le_of_ble_eq_true rfl, Nat.le_of_ble_eq_true rfl⟩)) ⟨zB_blind, va_recv hK hP (ci := 5) (q0 := 0) rfl rfl, zp_r hP hK hN⟩ rfl rfl hl.1 rfl (lv_room (Nat.le_of_ble_eq_true rfl)) dX5_flip_2 ⟨Nat.zero_le _, Nat.zero_le _⟩).run ?_
  refine zb_if_eq (tgt := 24)  hx hb dX5_flip_5 (by decide)  (fun c5 => ?_) (fun c5 => ?_)
  · exact absurd ⟨by rw [zt_n (by omega)]; omega, by rw [zt_n (by omega)]; omega⟩ c5
  · refine lv_iload_n hx hb dX5_flip_8 rfl (lv_at hl 2 rfl) ?_
    refine lv_iconst (v := (nI 1)) hx hb dX5_flip_9 (by decide) ?_
    refine zn_icmp_lt (tgt := 24)  hx hb dX5_flip_10 (by decide) (by omega) (by omega) (fun c10 => ?_) (fun c10 => ?_)
    · exact absurd c10 (by omega)
    · refine lv_iload_n hx hb dX5_flip_13 rfl (lv_at hl 2 rfl) ?_
      refine lv_aload_n hx hb dX5_flip_14 rfl (lv_at hl 0 rfl) ?_
      refine va_get (D := D) (ci := 5) (v := .ref (A 1)) (C := RX5) (T := TX5) (N := 7) hx hb hts qX5_flip_inX5 hown hK hP 0 rfl rfl 0 (by decide) (hts _ qX5_flip_Cond_fieldLink_RX5_10_NestedCodes_state_LNestedCodes_State_) (fun _ h9 => h9) rfl dX5_flip_15 ?_
      refine zc_r (va_runVN (C := RX4) (As := []) (rest := [.int (nI mk)]) ⟨hx, hb, hml, hown, hts⟩ (c_X4_allBits l D Y A B σ hn h (wdS σ) (ddS σ) r0 r1 r2 r3 r4 (σ 0) (pak (itC (wdS σ) σ) (σ 0)) (mkP (fun k9 => decide (k9 < σ 0))) wt wn  kσ) ⟨(va_cnB 0 hts gX5_flip_X4_allBits_n135 rfl rfl rfl (kM_X5_135 hN) (hts _ qX5_flip_Cond_initialized_RX4) (by decide +kernel) (by rw [hR]; exact ⟨Nat.le_of_ble_eq_true rfl, Nat.le_of_ble_eq_true rfl⟩)), (hts _ qX5_flip_Cond_instanceMethod_yX4_allBits), (hts _ qX5_flip_Cond_selects_RX4_yX4_allBits_yX4_allBits)⟩ ⟨zB_blind, va_recv hK hP (ci := 4) (q0 := 1) rfl rfl, zp_r hP hK hN⟩ rfl rfl hl.1 rfl (lv_room (Nat.le_of_ble_eq_true rfl)) dX5_flip_18 ⟨Nat.zero_le _, Nat.zero_le _⟩).run ?_
      refine zn_icmp_le (tgt := 28)  hx hb dX5_flip_21 (by decide) (by omega) (by omega) (fun c21 => ?_) (fun c21 => ?_)
      · refine lv_aload_n hx hb dX5_flip_28 rfl (lv_at hl 0 rfl) ?_
        refine va_get (D := D) (ci := 5) (v := .ref (A 1)) (C := RX5) (T := TX5) (N := 7) hx hb hts qX5_flip_inX5 hown hK hP 0 rfl rfl 0 (by decide) (hts _ qX5_flip_Cond_fieldLink_RX5_10_NestedCodes_state_LNestedCodes_State_) (fun _ h9 => h9) rfl dX5_flip_29 ?_
        refine va_getN (D := D) (ci := 4) (v := .ref (A 4)) (C := RX4) (T := TX4) (N := 7) hx hb hts qX5_flip_inX4 hown hK hP 1 rfl rfl 5 (by decide) (kN_X5_138 hN) (fun _ h9 => h9) rfl dX5_flip_32 ?_
        refine lv_iload_n hx hb dX5_flip_35 rfl (lv_at hl 1 rfl) ?_
        refine za_z hx hb hK hP 4 (f := fun k9 => nI (zL (σ 7) k9)) (v := (nI (zL (σ 7) j))) rfl (by omega) (by decide) dX5_flip_36 (rfl) ?_
        refine zn_if_eq (tgt := 44)  hx hb dX5_flip_37 (by decide) (by omega) (fun c37 => ?_) (fun c37 => ?_)
        · refine lv_aload_n hx hb dX5_flip_44 rfl (lv_at hl 0 rfl) ?_
          refine va_get (D := D) (ci := 5) (v := .ref (A 5)) (C := RX5) (T := TX5) (N := 7) hx hb hts qX5_flip_inX5 hown hK hP 0 rfl rfl 1 (by decide) (hts _ qX5_flip_Cond_fieldLink_RX5_19_NestedCodes_history_LNestedCodes_History_) (fun _ h9 => h9) rfl dX5_flip_45 ?_
          refine lv_aload_n hx hb dX5_flip_48 rfl (lv_at hl 0 rfl) ?_
          refine va_get (D := D) (ci := 5) (v := .ref (A 1)) (C := RX5) (T := TX5) (N := 7) hx hb hts qX5_flip_inX5 hown hK hP 0 rfl rfl 0 (by decide) (hts _ qX5_flip_Cond_fieldLink_RX5_10_NestedCodes_state_LNestedCodes_State_) (fun _ h9 => h9) rfl dX5_flip_49 ?_
          refine zc_w (va_runVN (C := RX0) (As := [.ref (A 1)]) (rest := []) ⟨hx, hb, hml, hown, hts⟩ (c_X0_record l D Y A B σ hn h (wdS σ) (ddS σ) r0 r1 r2 r3 r4 (σ 0) (pak (itC (wdS σ) σ) (σ 0)) (mkP (fun k9 => decide (k9 < σ 0))) wt wn  khn) ⟨(va_cnB 1 hts gX5_flip_X0_record_n61 rfl rfl rfl (kM_X5_61 hN) (hts _ qX5_flip_Cond_initialized_RX0) (by decide +kernel) (by rw [hR]; exact ⟨Nat.le_of_ble_eq_true rfl, Nat.le_of_ble_eq_true rfl⟩)), (hts _ qX5_flip_Cond_instanceMethod_yX0_record), (hts _ qX5_flip_Cond_selects_RX0_yX0_record_yX0_record)⟩ ⟨zBw_blind, va_recv hK hP (ci := 0) (q0 := 5) rfl rfl, zp_w hP hD hK hN⟩ rfl rfl hl.1 rfl (lv_room (Nat.le_of_ble_eq_true rfl)) dX5_flip_52 ⟨Nat.zero_le _, Nat.zero_le _⟩).run hS (zA_of hD) (fun H locs hP hz hk hS => ?_)
          have hD : va_D FA (CX Y A (recB B hn) σ (recN hn) (recH h hn σ) (wdS σ) (ddS σ) r0 r1 r2 r3 r4 (σ 0) (pak (itC (wdS σ) σ) (σ 0)) (mkP (fun k9 => decide (k9 < σ 0))) wt wn) := CX_recD hD
          refine lv_aload_n hx hb dX5_flip_55 rfl (lv_at hl 0 rfl) ?_
          refine va_get (D := D) (ci := 5) (v := .ref (A 1)) (C := RX5) (T := TX5) (N := 7) hx hb hts qX5_flip_inX5 hown hK hP 0 rfl rfl 0 (by decide) (hts _ qX5_flip_Cond_fieldLink_RX5_10_NestedCodes_state_LNestedCodes_State_) (fun _ h9 => h9) rfl dX5_flip_56 ?_
          refine va_getN (D := D) (ci := 4) (v := .ref (A 3)) (C := RX4) (T := TX4) (N := 7) hx hb hts qX5_flip_inX4 hown hK hP 1 rfl rfl 4 (by decide) (kN_X5_128 hN) (fun _ h9 => h9) rfl dX5_flip_59 ?_
          refine lv_iload_n hx hb dX5_flip_62 rfl (lv_at hl 1 rfl) ?_
          refine lv_dup2_11 hx hb dX5_flip_63 rfl rfl ?_
          refine za_i hx hb hK hP 3 (f := fun k9 => nI (σ (9 + k9))) (v := (nI (σ (9 + j)))) rfl (by omega) (by decide) dX5_flip_64 (rfl) ?_
          refine lv_iload_n hx hb dX5_flip_65 rfl (lv_at hl 2 rfl) ?_
          refine zv_ixor hx hb (v := (nI ((σ (9 + j)) ^^^ mk))) dX5_flip_66 (nx_xor _ _) ?_
          refine zs_i hx hb hK hP hD hS 3 (f := fun k9 => nI (σ (9 + k9))) rfl (by omega) (by decide) dX5_flip_67 (fun H locs hP hD9 hS => ?_)
          have hP : va_P D vwCl (CX Y A (recB B hn) (flpS σ j mk) (recN hn) (recH h hn σ) (wdS σ) (ddS σ) r0 r1 r2 r3 r4 (σ 0) (pak (itC (wdS σ) σ) (σ 0)) (mkP (fun k9 => decide (k9 < σ 0))) wt wn) H := by rw [CX_w (i := j) (by omega)] at hP; exact hP
          have hD : va_D FA (CX Y A (recB B hn) (flpS σ j mk) (recN hn) (recH h hn σ) (wdS σ) (ddS σ) r0 r1 r2 r3 r4 (σ 0) (pak (itC (wdS σ) σ) (σ 0)) (mkP (fun k9 => decide (k9 < σ 0))) wt wn) := CX_dd hD
          clear hD9
          refine lv_aload_n hx hb dX5_flip_68 rfl (lv_at hl 0 rfl) ?_
          refine zc_w (va_runV (As := []) (rest := []) ⟨hx, hb, hml, hown, hts⟩ (c_X5_readAgain l D Y A (recB B hn) (flpS σ j mk) (recN hn) (recH h hn σ) (wdS σ) (ddS σ) r0 r1 r2 r3 r4 (σ 0) (pak (itC (wdS σ) σ) (σ 0)) (mkP (fun k9 => decide (k9 < σ 0))) wt wn  (zWF_flp kσ (by omega) (by omega))) (cwV 0 hts gX5_flip_X5_readAgain rfl rfl rfl (by decide +kernel) (by rw [hR]; exact ⟨Nat.le_of_ble_eq_true rfl, Nat.le_of_ble_eq_true rfl⟩)) ⟨zBw_blind, va_recv hK hP (ci := 5) (q0 := 0) rfl rfl, zp_w hP hD hK hN⟩ rfl rfl hl.1 rfl (lv_room (Nat.le_of_ble_eq_true rfl)) dX5_flip_69 ⟨Nat.zero_le _, Nat.zero_le _⟩).run hS (zA_of hD) (fun H locs hP hz hk hS => ?_)
          have hD : va_D FA (CX Y A (recB B hn) (flpS σ j mk) (recN hn) (recH h hn σ) (wdS (flpS σ j mk)) (ddS (flpS σ j mk)) (ag0 (flpS σ j mk) r0) (ag1 (flpS σ j mk) r1) (ag2 (flpS σ j mk) r2) (ag3 (flpS σ j mk) r2 r3) (ag4 (flpS σ j mk) r2 r4) ((flpS σ j mk) 0) (pak (itC (wdS (flpS σ j mk)) (flpS σ j mk)) ((flpS σ j mk) 0)) (mkP (fun k9 => decide (k9 < (flpS σ j mk) 0))) wt wn) := CX_dd hD
          refine lv_aload_n hx hb dX5_flip_72 rfl (lv_at hl 0 rfl) ?_
          refine va_get (D := D) (ci := 5) (v := .ref (A 11)) (C := RX5) (T := TX5) (N := 7) hx hb hts qX5_flip_inX5 hown hK hP 0 rfl rfl 4 (by decide) (hts _ qX5_flip_Cond_fieldLink_RX5_40_NestedCodes_reading_LNestedCodes_Reading_) (fun _ h9 => h9) rfl dX5_flip_73 ?_
          refine va_getN (D := D) (ci := 3) (v := .ref (A 13)) (C := RX3) (T := TX3) (N := 8) hx hb hts qX5_flip_inX3 hown hK hP 11 rfl rfl 1 (by decide) (kN_X5_142 hN) (fun _ h9 => h9) rfl dX5_flip_76 ?_
          refine lv_iload_n hx hb dX5_flip_79 rfl (lv_at hl 1 rfl) ?_
          refine za_i hx hb hK hP 13 (f := fun k9 => nI ((ag1 (flpS σ j mk) r1) k9)) (v := (nI (faS (flpS σ j mk) j))) rfl (by omega) (by decide) dX5_flip_80 (congrArg nI (zmx_in _ _ (show j < flpS σ j mk 0 by rw [show flpS σ j mk 0 = σ 0 from flp_lo _ _ _ (by decide)]; exact hj))) ?_
          exact zw_i hx hb hr hlk hQ hS dX5_flip_81 (rfl) (hP)
        · exact absurd c37 (by omega)
      · exact absurd c21 (by omega)
set_option maxHeartbeats 4000000 in
set_option maxRecDepth 100000 in
theorem c_X5_lose_bad (l : Launch) (D : va_G) (Y : Nat → ClassId) (A : Nat → Nat) (B : Nat → Nat) (σ : Nat → Nat) (hn : Nat) (h : Nat → Nat → Nat) (r0 : Nat → Nat) (r1 : Nat → Nat) (r2 : Nat → Nat) (r3 : Nat → Nat) (r4 : Nat → Nat) (wt : Nat → Nat) (wn : Nat) (y : Int32) (x : Int32)  (kσ : zWF σ) (kr : zCon σ r0 r1 r2 r3 r4) (hbad : ¬ ((0 ≤ (y).toInt ∧ (y).toInt < ((σ 0 : Nat) : Int)) ∧ 0 ≤ (x).toInt ∧ (x).toInt ≤ 1)) : Met l yX5_lose wsX5_lose ({ frames := 6, cells := 0, slots := 0, locals := 132 } : Room) (va_Pc [.ref (A 0), .int (y), .int (x)] (zB D Y (CX Y A B σ hn h (wdS σ) (ddS σ) r0 r1 r2 r3 r4 (σ 0) (pak (itC (wdS σ) σ) (σ 0)) (mkP (fun k9 => decide (k9 < σ 0))) wt wn))) (zR (.int (-1001))) 0 0 (fun _ => False) := by
  refine zr_of (cc := cX5_lose) (maxL := 4) (ret := (some .int)) (by decide) rfl (Nat.le_of_ble_eq_true rfl) ?_
  intro p e s m below meth c R args Q hR hx hb hml hr hlk hown hts hK hN hP hQ ls hl
  have hown : s.vm.findClass RX5 = some m.cls := hown
  have hl : lv_has ls 4 [(0, .ref (A 0)), (1, .int (y)), (2, .int (x))] := hl
  have kw := kσ
  obtain ⟨n3, n12, d1, d3, dn, b4, b10, gl, lm, sn, wl, wnz⟩ := kw
  have pb := zp_b b10
  have pk9 := zp_k d3
  have hpak : pak (itC (wdS σ) σ) (σ 0) < 281474976710656 := Nat.lt_of_lt_of_le (pak_lt (fun j _ => itC_lt _ _ j)) (show 2 ^ (4 * σ 0) ≤ 2 ^ 48 from Nat.pow_le_pow_right (by decide) (by omega))
  have hbar := barS_le kσ
  refine lv_aload_n hx hb dX5_lose_0 rfl (lv_at hl 0 rfl) ?_
  refine lv_iload_n hx hb dX5_lose_1 rfl (lv_at hl 1 rfl) ?_
  refine zc_r (va_runV (As := [.int (y)]) (rest := []) ⟨hx, hb, hml, hown, hts⟩ (c_X5_isBlock l D Y A B σ hn h (wdS σ) (ddS σ) r0 r1 r2 r3 r4 (σ 0) (pak (itC (wdS σ) σ) (σ 0)) (mkP (fun k9 => decide (k9 < σ 0))) wt wn y n12) (cwV 1 hts gX5_lose_X5_isBlock rfl rfl rfl (by decide +kernel) (by rw [hR]; exact ⟨Nat.le_of_ble_eq_true rfl, Nat.le_of_ble_eq_true rfl⟩)) ⟨zB_blind, va_recv hK hP (ci := 5) (q0 := 0) rfl rfl, zp_r hP hK hN⟩ rfl rfl hl.1 rfl (lv_room (Nat.le_of_ble_eq_true rfl)) dX5_lose_2 ⟨Nat.zero_le _, Nat.zero_le _⟩).run ?_
  refine zb_if_eq (tgt := 17)  hx hb dX5_lose_5 (by decide)  (fun c5 => ?_) (fun c5 => ?_)
  · refine lv_sipush (v := (-1001)) hx hb dX5_lose_17 (by decide) ?_
    exact zr_i hx hb hr hlk hQ dX5_lose_20 (rfl)
  · refine lv_iload_n hx hb dX5_lose_8 rfl (lv_at hl 2 rfl) ?_
    refine zz_if_lt (tgt := 17) (a := (x).toInt) hx hb dX5_lose_9 (by decide) (rfl) (fun c9 => ?_) (fun c9 => ?_)
    · refine lv_sipush (v := (-1001)) hx hb dX5_lose_17 (by decide) ?_
      exact zr_i hx hb hr hlk hQ dX5_lose_20 (rfl)
    · refine lv_iload_n hx hb dX5_lose_12 rfl (lv_at hl 2 rfl) ?_
      refine lv_iconst (v := (nI 1)) hx hb dX5_lose_13 (by decide) ?_
      refine zz_icmp_le (tgt := 21) (a := (x).toInt) (b := (((1 : Nat)) : Int)) hx hb dX5_lose_14 (by decide) (rfl) (zt_n (by omega)) (fun c14 => ?_) (fun c14 => ?_)
      · exact absurd c14 (by omega)
      · refine lv_sipush (v := (-1001)) hx hb dX5_lose_17 (by decide) ?_
        exact zr_i hx hb hr hlk hQ dX5_lose_20 (rfl)
theorem qX5_lose_Cond_fieldLink_RX5_10_NestedCodes_state_LNestedCodes_State_ : Cond.fieldLink RX5 10 "NestedCodes" "state" "LNestedCodes$State;" ∈ wsX5_lose := by decide +kernel
theorem qX5_lose_inX5 : ∀ w ∈ wsX50, w ∈ wsX5_lose := by decide +kernel
theorem qX5_lose_inX4 : ∀ w ∈ wsX40, w ∈ wsX5_lose := by decide +kernel
theorem qX5_lose_Cond_fieldLink_RX5_19_NestedCodes_history_LNestedCodes_History_ : Cond.fieldLink RX5 19 "NestedCodes" "history" "LNestedCodes$History;" ∈ wsX5_lose := by decide +kernel
theorem qX5_lose_Cond_initialized_RX0 : Cond.initialized RX0 ∈ wsX5_lose := by decide +kernel
theorem qX5_lose_Cond_instanceMethod_yX0_record : Cond.instanceMethod yX0_record ∈ wsX5_lose := by decide +kernel
theorem qX5_lose_Cond_selects_RX0_yX0_record_yX0_record : Cond.selects RX0 yX0_record yX0_record ∈ wsX5_lose := by decide +kernel
set_option maxHeartbeats 4000000 in
set_option maxRecDepth 100000 in
theorem c_X5_lose (l : Launch) (D : va_G) (Y : Nat → ClassId) (A : Nat → Nat) (B : Nat → Nat) (σ : Nat → Nat) (hn : Nat) (h : Nat → Nat → Nat) (r0 : Nat → Nat) (r1 : Nat → Nat) (r2 : Nat → Nat) (r3 : Nat → Nat) (r4 : Nat → Nat) (wt : Nat → Nat) (wn : Nat) (j : Nat) (v9 : Nat)  (kσ : zWF σ) (kr : zCon σ r0 r1 r2 r3 r4) (khn : hn ≤ 6) (hj : j < σ 0) (hv : v9 < 2) : Met l yX5_lose wsX5_lose ({ frames := 6, cells := 0, slots := 0, locals := 132 } : Room) (va_Pc [.ref (A 0), .int (nI j), .int (nI v9)] (zBw D Y (CX Y A B σ hn h (wdS σ) (ddS σ) r0 r1 r2 r3 r4 (σ 0) (pak (itC (wdS σ) σ) (σ 0)) (mkP (fun k9 => decide (k9 < σ 0))) wt wn))) (zW (some (.int (nI (zL (σ 7) j)))) D (CX Y A (recB B hn) (losS σ j v9) (recN hn) (recH h hn σ) (wdS (losS σ j v9)) (ddS (losS σ j v9)) (ag0 (losS σ j v9) r0) (ag1 (losS σ j v9) r1) (ag2 (losS σ j v9) r2) (ag3 (losS σ j v9) r2 r3) (ag4 (losS σ j v9) r2 r4) ((losS σ j v9) 0) (pak (itC (wdS (losS σ j v9)) (losS σ j v9)) ((losS σ j v9) 0)) (mkP (fun k9 => decide (k9 < (losS σ j v9) 0))) wt wn) (zA (CX Y A B σ hn h (wdS σ) (ddS σ) r0 r1 r2 r3 r4 (σ 0) (pak (itC (wdS σ) σ) (σ 0)) (mkP (fun k9 => decide (k9 < σ 0))) wt wn))) 0 0 (zA (CX Y A B σ hn h (wdS σ) (ddS σ) r0 r1 r2 r3 r4 (σ 0) (pak (itC (wdS σ) σ) (σ 0)) (mkP (fun k9 => decide (k9 < σ 0))) wt wn)) := by
  refine zw_of (cc := cX5_lose) (maxL := 4) (ret := (some .int)) (by decide) rfl (Nat.le_of_ble_eq_true rfl) ?_
  intro p e s m below meth c R args Q FA hR hx hb hml hr hlk hown hts hK hN hQ hP hD hS ls hl
  have hown : s.vm.findClass RX5 = some m.cls := hown
  have hl : lv_has ls 4 [(0, .ref (A 0)), (1, .int (nI j)), (2, .int (nI v9))] := hl
  have hS := hS
  have kw := kσ
  obtain ⟨n3, n12, d1, d3, dn, b4, b10, gl, lm, sn, wl, wnz⟩ := kw
  have pb := zp_b b10
  have pk9 := zp_k d3
  have hpak : pak (itC (wdS σ) σ) (σ 0) < 281474976710656 := Nat.lt_of_lt_of_le (pak_lt (fun j _ => itC_lt _ _ j)) (show 2 ^ (4 * σ 0) ≤ 2 ^ 48 from Nat.pow_le_pow_right (by decide) (by omega))
  have hbar := barS_le kσ
  suffices hgo : ∀ (H : Heap) (locs : List Loc), va_P D vwCl (CX Y A B σ hn h (wdS σ) (ddS σ) r0 r1 r2 r3 r4 (σ 0) (pak (itC (wdS σ) σ) (σ 0)) (mkP (fun k9 => decide (k9 < σ 0))) wt wn) H → va_S FA s.heap H locs → W p l e R s m args below meth c H locs 0 0 Q (F0 m 0 ls []) from hgo _ _ hP hS
  clear hP hS
  intro H locs hP hS
  have hz := zL_01 (σ 7) j
  refine lv_aload_n hx hb dX5_lose_0 rfl (lv_at hl 0 rfl) ?_
  refine lv_iload_n hx hb dX5_lose_1 rfl (lv_at hl 1 rfl) ?_
  refine zc_r (va_runV (As := [.int (nI j)]) (rest := []) ⟨hx, hb, hml, hown, hts⟩ (c_X5_isBlock l D Y A B σ hn h (wdS σ) (ddS σ) r0 r1 r2 r3 r4 (σ 0) (pak (itC (wdS σ) σ) (σ 0)) (mkP (fun k9 => decide (k9 < σ 0))) wt wn ((nI j)) n12) (cwV 1 hts gX5_lose_X5_isBlock rfl rfl rfl (by decide +kernel) (by rw [hR]; exact ⟨Nat.le_of_ble_eq_true rfl, Nat.le_of_ble_eq_true rfl⟩)) ⟨zB_blind, va_recv hK hP (ci := 5) (q0 := 0) rfl rfl, zp_r hP hK hN⟩ rfl rfl hl.1 rfl (lv_room (Nat.le_of_ble_eq_true rfl)) dX5_lose_2 ⟨Nat.zero_le _, Nat.zero_le _⟩).run ?_
  refine zb_if_eq (tgt := 17)  hx hb dX5_lose_5 (by decide)  (fun c5 => ?_) (fun c5 => ?_)
  · exact absurd ⟨by rw [zt_n (by omega)]; omega, by rw [zt_n (by omega)]; omega⟩ c5
  · refine lv_iload_n hx hb dX5_lose_8 rfl (lv_at hl 2 rfl) ?_
    refine zn_if_lt (tgt := 17)  hx hb dX5_lose_9 (by decide) (by omega) (fun c9 => ?_) (fun c9 => ?_)
    · exact absurd c9 (by omega)
    · refine lv_iload_n hx hb dX5_lose_12 rfl (lv_at hl 2 rfl) ?_
      refine lv_iconst (v := (nI 1)) hx hb dX5_lose_13 (by decide) ?_
      refine zn_icmp_le (tgt := 21)  hx hb dX5_lose_14 (by decide) (by omega) (by omega) (fun c14 => ?_) (fun c14 => ?_)
      · refine lv_aload_n hx hb dX5_lose_21 rfl (lv_at hl 0 rfl) ?_
        refine va_get (D := D) (ci := 5) (v := .ref (A 1)) (C := RX5) (T := TX5) (N := 7) hx hb hts qX5_lose_inX5 hown hK hP 0 rfl rfl 0 (by decide) (hts _ qX5_lose_Cond_fieldLink_RX5_10_NestedCodes_state_LNestedCodes_State_) (fun _ h9 => h9) rfl dX5_lose_22 ?_
        refine va_getN (D := D) (ci := 4) (v := .ref (A 4)) (C := RX4) (T := TX4) (N := 7) hx hb hts qX5_lose_inX4 hown hK hP 1 rfl rfl 5 (by decide) (kN_X5_138 hN) (fun _ h9 => h9) rfl dX5_lose_25 ?_
        refine lv_iload_n hx hb dX5_lose_28 rfl (lv_at hl 1 rfl) ?_
        refine za_z hx hb hK hP 4 (f := fun k9 => nI (zL (σ 7) k9)) (v := (nI (zL (σ 7) j))) rfl (by omega) (by decide) dX5_lose_29 (rfl) ?_
        have J38 : W p l e R s m args below meth c H locs 0 0 Q (F0 m 38 ls [.int (nI (zL (σ 7) j))]) := by
          refine lv_istore_n (lv' := [(3, .int (nI (zL (σ 7) j))), (0, .ref (A 0)), (1, .int (nI j)), (2, .int (nI v9))]) hx hb dX5_lose_38 rfl hl (by decide) rfl (fun ls hl => ?_)
          refine lv_aload_n hx hb dX5_lose_39 rfl (lv_at hl 1 rfl) ?_
          refine va_get (D := D) (ci := 5) (v := .ref (A 5)) (C := RX5) (T := TX5) (N := 7) hx hb hts qX5_lose_inX5 hown hK hP 0 rfl rfl 1 (by decide) (hts _ qX5_lose_Cond_fieldLink_RX5_19_NestedCodes_history_LNestedCodes_History_) (fun _ h9 => h9) rfl dX5_lose_40 ?_
          refine lv_aload_n hx hb dX5_lose_43 rfl (lv_at hl 1 rfl) ?_
          refine va_get (D := D) (ci := 5) (v := .ref (A 1)) (C := RX5) (T := TX5) (N := 7) hx hb hts qX5_lose_inX5 hown hK hP 0 rfl rfl 0 (by decide) (hts _ qX5_lose_Cond_fieldLink_RX5_10_NestedCodes_state_LNestedCodes_State_) (fun _ h9 => h9) rfl dX5_lose_44 ?_
          refine zc_w (va_runVN (C := RX0) (As := [.ref (A 1)]) (rest := []) ⟨hx, hb, hml, hown, hts⟩ (c_X0_record l D Y A B σ hn h (wdS σ) (ddS σ) r0 r1 r2 r3 r4 (σ 0) (pak (itC (wdS σ) σ) (σ 0)) (mkP (fun k9 => decide (k9 < σ 0))) wt wn  khn) ⟨(va_cnB 1 hts gX5_lose_X0_record_n61 rfl rfl rfl (kM_X5_61 hN) (hts _ qX5_lose_Cond_initialized_RX0) (by decide +kernel) (by rw [hR]; exact ⟨Nat.le_of_ble_eq_true rfl, Nat.le_of_ble_eq_true rfl⟩)), (hts _ qX5_lose_Cond_instanceMethod_yX0_record), (hts _ qX5_lose_Cond_selects_RX0_yX0_record_yX0_record)⟩ ⟨zBw_blind, va_recv hK hP (ci := 0) (q0 := 5) rfl rfl, zp_w hP hD hK hN⟩ rfl rfl hl.1 rfl (lv_room (Nat.le_of_ble_eq_true rfl)) dX5_lose_47 ⟨Nat.zero_le _, Nat.zero_le _⟩).run hS (zA_of hD) (fun H locs hP hz hk hS => ?_)
          have hD : va_D FA (CX Y A (recB B hn) σ (recN hn) (recH h hn σ) (wdS σ) (ddS σ) r0 r1 r2 r3 r4 (σ 0) (pak (itC (wdS σ) σ) (σ 0)) (mkP (fun k9 => decide (k9 < σ 0))) wt wn) := CX_recD hD
          refine lv_aload_n hx hb dX5_lose_50 rfl (lv_at hl 1 rfl) ?_
          refine va_get (D := D) (ci := 5) (v := .ref (A 1)) (C := RX5) (T := TX5) (N := 7) hx hb hts qX5_lose_inX5 hown hK hP 0 rfl rfl 0 (by decide) (hts _ qX5_lose_Cond_fieldLink_RX5_10_NestedCodes_state_LNestedCodes_State_) (fun _ h9 => h9) rfl dX5_lose_51 ?_
          refine va_getN (D := D) (ci := 4) (v := .ref (A 4)) (C := RX4) (T := TX4) (N := 7) hx hb hts qX5_lose_inX4 hown hK hP 1 rfl rfl 5 (by decide) (kN_X5_138 hN) (fun _ h9 => h9) rfl dX5_lose_54 ?_
          refine lv_iload_n hx hb dX5_lose_57 rfl (lv_at hl 2 rfl) ?_
          refine lv_iload_n hx hb dX5_lose_58 rfl (lv_at hl 3 rfl) ?_
          refine lv_iconst (v := (nI 1)) hx hb dX5_lose_59 (by decide) ?_
          have J68 : W p l e R s m args below meth c H locs 0 0 Q (F0 m 68 ls [.int (nI v9), .int (nI j), .ref (A 4)]) := by
            refine zs_z hx hb hK hP hD hS 4 (f := fun k9 => nI (zL (σ 7) k9)) rfl (by omega) (by decide) dX5_lose_68 (fun H locs hP hD9 hS => ?_)
            have hP : va_P D vwCl (CX Y A (recB B hn) (losS σ j v9) (recN hn) (recH h hn σ) (wdS σ) (ddS σ) r0 r1 r2 r3 r4 (σ 0) (pak (itC (wdS σ) σ) (σ 0)) (mkP (fun k9 => decide (k9 < σ 0))) wt wn) H := by rw [CX_l (i := j) (v := v9) (M := losM (σ 7) j v9) (by omega) (zL_los (σ 7) (by omega))] at hP; exact hP
            have hD : va_D FA (CX Y A (recB B hn) (losS σ j v9) (recN hn) (recH h hn σ) (wdS σ) (ddS σ) r0 r1 r2 r3 r4 (σ 0) (pak (itC (wdS σ) σ) (σ 0)) (mkP (fun k9 => decide (k9 < σ 0))) wt wn) := CX_dd hD
            clear hD9
            refine lv_aload_n hx hb dX5_lose_69 rfl (lv_at hl 1 rfl) ?_
            refine zc_w (va_runV (As := []) (rest := []) ⟨hx, hb, hml, hown, hts⟩ (c_X5_readAgain l D Y A (recB B hn) (losS σ j v9) (recN hn) (recH h hn σ) (wdS σ) (ddS σ) r0 r1 r2 r3 r4 (σ 0) (pak (itC (wdS σ) σ) (σ 0)) (mkP (fun k9 => decide (k9 < σ 0))) wt wn  (zWF_los kσ (by omega))) (cwV 0 hts gX5_lose_X5_readAgain rfl rfl rfl (by decide +kernel) (by rw [hR]; exact ⟨Nat.le_of_ble_eq_true rfl, Nat.le_of_ble_eq_true rfl⟩)) ⟨zBw_blind, va_recv hK hP (ci := 5) (q0 := 0) rfl rfl, zp_w hP hD hK hN⟩ rfl rfl hl.1 rfl (lv_room (Nat.le_of_ble_eq_true rfl)) dX5_lose_70 ⟨Nat.zero_le _, Nat.zero_le _⟩).run hS (zA_of hD) (fun H locs hP hz hk hS => ?_)
            have hD : va_D FA (CX Y A (recB B hn) (losS σ j v9) (recN hn) (recH h hn σ) (wdS (losS σ j v9)) (ddS (losS σ j v9)) (ag0 (losS σ j v9) r0) (ag1 (losS σ j v9) r1) (ag2 (losS σ j v9) r2) (ag3 (losS σ j v9) r2 r3) (ag4 (losS σ j v9) r2 r4) ((losS σ j v9) 0) (pak (itC (wdS (losS σ j v9)) (losS σ j v9)) ((losS σ j v9) 0)) (mkP (fun k9 => decide (k9 < (losS σ j v9) 0))) wt wn) := CX_dd hD
            refine lv_iload_n hx hb dX5_lose_73 rfl (lv_at hl 0 rfl) ?_
            exact zw_i hx hb hr hlk hQ hS dX5_lose_74 (rfl) (hP)
          refine zn_icmp_ne (tgt := 67)  hx hb dX5_lose_60 (by decide) (by omega) (by omega) (fun c60 => ?_) (fun c60 => ?_)
          · refine lv_iconst (v := (nI 0)) hx hb dX5_lose_67 (by decide) ?_
            refine zt_i (v := (nI v9)) (congrArg nI (show _ = _ by omega)) ?_
            exact J68
          · refine lv_iconst (v := (nI 1)) hx hb dX5_lose_63 (by decide) ?_
            refine lv_goto (tgt := 68) hx hb dX5_lose_64 (by decide) ?_
            refine zt_i (v := (nI v9)) (congrArg nI (show _ = _ by omega)) ?_
            exact J68
        refine zn_if_eq (tgt := 37)  hx hb dX5_lose_30 (by decide) (by omega) (fun c30 => ?_) (fun c30 => ?_)
        · refine lv_iconst (v := (nI 0)) hx hb dX5_lose_37 (by decide) ?_
          refine zt_i (v := (nI (zL (σ 7) j))) (congrArg nI (show _ = _ by omega)) ?_
          exact J38
        · refine lv_iconst (v := (nI 1)) hx hb dX5_lose_33 (by decide) ?_
          refine lv_goto (tgt := 38) hx hb dX5_lose_34 (by decide) ?_
          refine zt_i (v := (nI (zL (σ 7) j))) (congrArg nI (show _ = _ by omega)) ?_
          exact J38
      · exact absurd c14 (by omega)
theorem qX5_burst_Cond_fieldLink_RX5_10_NestedCodes_state_LNestedCodes_State_ : Cond.fieldLink RX5 10 "NestedCodes" "state" "LNestedCodes$State;" ∈ wsX5_burst := by decide +kernel
theorem qX5_burst_inX5 : ∀ w ∈ wsX50, w ∈ wsX5_burst := by decide +kernel
theorem qX5_burst_inX4 : ∀ w ∈ wsX40, w ∈ wsX5_burst := by decide +kernel
set_option maxHeartbeats 4000000 in
set_option maxRecDepth 100000 in
theorem c_X5_burst_bad (l : Launch) (D : va_G) (Y : Nat → ClassId) (A : Nat → Nat) (B : Nat → Nat) (σ : Nat → Nat) (hn : Nat) (h : Nat → Nat → Nat) (r0 : Nat → Nat) (r1 : Nat → Nat) (r2 : Nat → Nat) (r3 : Nat → Nat) (r4 : Nat → Nat) (wt : Nat → Nat) (wn : Nat) (x : Int32) (y : Int32)  (kσ : zWF σ) (kr : zCon σ r0 r1 r2 r3 r4) (hbad : ¬ (0 ≤ (x).toInt ∧ (x).toInt < ((σ 2 * σ 0 : Nat) : Int) ∧ 1 ≤ (y).toInt ∧ (y).toInt ≤ ((σ 2 * σ 0 : Nat) : Int) - (x).toInt)) : Met l yX5_burst wsX5_burst ({ frames := 6, cells := 0, slots := 0, locals := 132 } : Room) (va_Pc [.ref (A 0), .int (x), .int (y)] (zB D Y (CX Y A B σ hn h (wdS σ) (ddS σ) r0 r1 r2 r3 r4 (σ 0) (pak (itC (wdS σ) σ) (σ 0)) (mkP (fun k9 => decide (k9 < σ 0))) wt wn))) (zR (.int (-1001))) 0 0 (fun _ => False) := by
  refine zr_of (cc := cX5_burst) (maxL := 7) (ret := (some .int)) (by decide) rfl (Nat.le_of_ble_eq_true rfl) ?_
  intro p e s m below meth c R args Q hR hx hb hml hr hlk hown hts hK hN hP hQ ls hl
  have hown : s.vm.findClass RX5 = some m.cls := hown
  have hl : lv_has ls 7 [(0, .ref (A 0)), (1, .int (x)), (2, .int (y))] := hl
  have kw := kσ
  obtain ⟨n3, n12, d1, d3, dn, b4, b10, gl, lm, sn, wl, wnz⟩ := kw
  have pb := zp_b b10
  have pk9 := zp_k d3
  have hpak : pak (itC (wdS σ) σ) (σ 0) < 281474976710656 := Nat.lt_of_lt_of_le (pak_lt (fun j _ => itC_lt _ _ j)) (show 2 ^ (4 * σ 0) ≤ 2 ^ 48 from Nat.pow_le_pow_right (by decide) (by omega))
  have hbar := barS_le kσ
  have hmu : σ 2 * σ 0 ≤ 10 * 12 := Nat.mul_le_mul b10 n12
  refine lv_aload_n hx hb dX5_burst_0 rfl (lv_at hl 0 rfl) ?_
  refine va_get (D := D) (ci := 5) (v := .ref (A 1)) (C := RX5) (T := TX5) (N := 7) hx hb hts qX5_burst_inX5 hown hK hP 0 rfl rfl 0 (by decide) (hts _ qX5_burst_Cond_fieldLink_RX5_10_NestedCodes_state_LNestedCodes_State_) (fun _ h9 => h9) rfl dX5_burst_1 ?_
  refine va_getN (D := D) (ci := 4) (v := .int (nI (σ 2))) (C := RX4) (T := TX4) (N := 7) hx hb hts qX5_burst_inX4 hown hK hP 1 rfl rfl 2 (by decide) (kN_X5_72 hN) (fun _ h9 => h9) rfl dX5_burst_4 ?_
  refine lv_aload_n hx hb dX5_burst_7 rfl (lv_at hl 0 rfl) ?_
  refine va_get (D := D) (ci := 5) (v := .ref (A 1)) (C := RX5) (T := TX5) (N := 7) hx hb hts qX5_burst_inX5 hown hK hP 0 rfl rfl 0 (by decide) (hts _ qX5_burst_Cond_fieldLink_RX5_10_NestedCodes_state_LNestedCodes_State_) (fun _ h9 => h9) rfl dX5_burst_8 ?_
  refine va_getN (D := D) (ci := 4) (v := .int (nI (σ 0))) (C := RX4) (T := TX4) (N := 7) hx hb hts qX5_burst_inX4 hown hK hP 1 rfl rfl 0 (by decide) (kN_X5_55 hN) (fun _ h9 => h9) rfl dX5_burst_11 ?_
  refine zv_imul hx hb (v := (nI ((σ 2) * (σ 0)))) dX5_burst_14 (pk_mul _ _) ?_
  refine lv_istore_n (lv' := [(3, .int (nI ((σ 2) * (σ 0)))), (0, .ref (A 0)), (1, .int (x)), (2, .int (y))]) hx hb dX5_burst_15 rfl hl (by decide) rfl (fun ls hl => ?_)
  refine lv_iload_n hx hb dX5_burst_16 rfl (lv_at hl 2 rfl) ?_
  refine zz_if_lt (tgt := 37) (a := (x).toInt) hx hb dX5_burst_17 (by decide) (rfl) (fun c17 => ?_) (fun c17 => ?_)
  · refine lv_sipush (v := (-1001)) hx hb dX5_burst_37 (by decide) ?_
    exact zr_i hx hb hr hlk hQ dX5_burst_40 (rfl)
  · refine lv_iload_n hx hb dX5_burst_20 rfl (lv_at hl 2 rfl) ?_
    refine lv_iload_n hx hb dX5_burst_21 rfl (lv_at hl 0 rfl) ?_
    refine zz_icmp_ge (tgt := 37) (a := (x).toInt) (b := ((((σ 2) * (σ 0) : Nat)) : Int)) hx hb dX5_burst_22 (by decide) (rfl) (zt_n (by omega)) (fun c22 => ?_) (fun c22 => ?_)
    · refine lv_sipush (v := (-1001)) hx hb dX5_burst_37 (by decide) ?_
      exact zr_i hx hb hr hlk hQ dX5_burst_40 (rfl)
    · refine lv_iload_n hx hb dX5_burst_25 rfl (lv_at hl 3 rfl) ?_
      refine lv_iconst (v := (nI 1)) hx hb dX5_burst_26 (by decide) ?_
      refine zz_icmp_lt (tgt := 37) (a := (y).toInt) (b := (((1 : Nat)) : Int)) hx hb dX5_burst_27 (by decide) (rfl) (zt_n (by omega)) (fun c27 => ?_) (fun c27 => ?_)
      · refine lv_sipush (v := (-1001)) hx hb dX5_burst_37 (by decide) ?_
        exact zr_i hx hb hr hlk hQ dX5_burst_40 (rfl)
      · refine lv_iload_n hx hb dX5_burst_30 rfl (lv_at hl 3 rfl) ?_
        refine lv_iload_n hx hb dX5_burst_31 rfl (lv_at hl 0 rfl) ?_
        refine lv_iload_n hx hb dX5_burst_32 rfl (lv_at hl 2 rfl) ?_
        refine zv_isub hx hb (v := (zI (((σ 2 * σ 0 : Nat) : Int) - (x).toInt))) dX5_burst_33 (zI_subx _ x) ?_
        refine zz_icmp_le (tgt := 41) (a := (y).toInt) (b := ((σ 2 * σ 0 : Nat) : Int) - (x).toInt) hx hb dX5_burst_34 (by decide) (rfl) (zI_toInt (by omega) (by omega)) (fun c34 => ?_) (fun c34 => ?_)
        · exact absurd c34 (by omega)
        · refine lv_sipush (v := (-1001)) hx hb dX5_burst_37 (by decide) ?_
          exact zr_i hx hb hr hlk hQ dX5_burst_40 (rfl)
theorem qX5_burst_Cond_fieldLink_RX5_19_NestedCodes_history_LNestedCodes_History_ : Cond.fieldLink RX5 19 "NestedCodes" "history" "LNestedCodes$History;" ∈ wsX5_burst := by decide +kernel
theorem qX5_burst_Cond_initialized_RX0 : Cond.initialized RX0 ∈ wsX5_burst := by decide +kernel
theorem qX5_burst_Cond_instanceMethod_yX0_record : Cond.instanceMethod yX0_record ∈ wsX5_burst := by decide +kernel
theorem qX5_burst_Cond_selects_RX0_yX0_record_yX0_record : Cond.selects RX0 yX0_record yX0_record ∈ wsX5_burst := by decide +kernel
set_option maxHeartbeats 4000000 in
set_option maxRecDepth 100000 in
theorem c_X5_burst (l : Launch) (D : va_G) (Y : Nat → ClassId) (A : Nat → Nat) (B : Nat → Nat) (σ : Nat → Nat) (hn : Nat) (h : Nat → Nat → Nat) (r0 : Nat → Nat) (r1 : Nat → Nat) (r2 : Nat → Nat) (r3 : Nat → Nat) (r4 : Nat → Nat) (wt : Nat → Nat) (wn : Nat) (st : Nat) (le : Nat)  (kσ : zWF σ) (kr : zCon σ r0 r1 r2 r3 r4) (khn : hn ≤ 6) (hst : st < σ 2 * σ 0) (hl1 : 1 ≤ le) (hl2 : le ≤ σ 2 * σ 0 - st) : Met l yX5_burst wsX5_burst ({ frames := 6, cells := 0, slots := 0, locals := 132 } : Room) (va_Pc [.ref (A 0), .int (nI st), .int (nI le)] (zBw D Y (CX Y A B σ hn h (wdS σ) (ddS σ) r0 r1 r2 r3 r4 (σ 0) (pak (itC (wdS σ) σ) (σ 0)) (mkP (fun k9 => decide (k9 < σ 0))) wt wn))) (zW (some (.int (nI (cnt (fun j => !(bmask (σ 2) j st (st + le) == 0)) (σ 0))))) D (CX Y A (recB B hn) (burI σ st (st + le) (σ 0)) (recN hn) (recH h hn σ) (wdS (burI σ st (st + le) (σ 0))) (ddS (burI σ st (st + le) (σ 0))) (ag0 (burI σ st (st + le) (σ 0)) r0) (ag1 (burI σ st (st + le) (σ 0)) r1) (ag2 (burI σ st (st + le) (σ 0)) r2) (ag3 (burI σ st (st + le) (σ 0)) r2 r3) (ag4 (burI σ st (st + le) (σ 0)) r2 r4) ((burI σ st (st + le) (σ 0)) 0) (pak (itC (wdS (burI σ st (st + le) (σ 0))) (burI σ st (st + le) (σ 0))) ((burI σ st (st + le) (σ 0)) 0)) (mkP (fun k9 => decide (k9 < (burI σ st (st + le) (σ 0)) 0))) wt wn) (zA (CX Y A B σ hn h (wdS σ) (ddS σ) r0 r1 r2 r3 r4 (σ 0) (pak (itC (wdS σ) σ) (σ 0)) (mkP (fun k9 => decide (k9 < σ 0))) wt wn))) 0 0 (zA (CX Y A B σ hn h (wdS σ) (ddS σ) r0 r1 r2 r3 r4 (σ 0) (pak (itC (wdS σ) σ) (σ 0)) (mkP (fun k9 => decide (k9 < σ 0))) wt wn)) := by
  refine zw_of (cc := cX5_burst) (maxL := 7) (ret := (some .int)) (by decide) rfl (Nat.le_of_ble_eq_true rfl) ?_
  intro p e s m below meth c R args Q FA hR hx hb hml hr hlk hown hts hK hN hQ hP hD hS ls hl
  have hown : s.vm.findClass RX5 = some m.cls := hown
  have hl : lv_has ls 7 [(0, .ref (A 0)), (1, .int (nI st)), (2, .int (nI le))] := hl
  have hS := hS
  have kw := kσ
  obtain ⟨n3, n12, d1, d3, dn, b4, b10, gl, lm, sn, wl, wnz⟩ := kw
  have pb := zp_b b10
  have pk9 := zp_k d3
  have hpak : pak (itC (wdS σ) σ) (σ 0) < 281474976710656 := Nat.lt_of_lt_of_le (pak_lt (fun j _ => itC_lt _ _ j)) (show 2 ^ (4 * σ 0) ≤ 2 ^ 48 from Nat.pow_le_pow_right (by decide) (by omega))
  have hbar := barS_le kσ
  suffices hgo : ∀ (H : Heap) (locs : List Loc), va_P D vwCl (CX Y A B σ hn h (wdS σ) (ddS σ) r0 r1 r2 r3 r4 (σ 0) (pak (itC (wdS σ) σ) (σ 0)) (mkP (fun k9 => decide (k9 < σ 0))) wt wn) H → va_S FA s.heap H locs → W p l e R s m args below meth c H locs 0 0 Q (F0 m 0 ls []) from hgo _ _ hP hS
  clear hP hS
  intro H locs hP hS
  have hmu : σ 2 * σ 0 ≤ 10 * 12 := Nat.mul_le_mul b10 n12
  refine lv_aload_n hx hb dX5_burst_0 rfl (lv_at hl 0 rfl) ?_
  refine va_get (D := D) (ci := 5) (v := .ref (A 1)) (C := RX5) (T := TX5) (N := 7) hx hb hts qX5_burst_inX5 hown hK hP 0 rfl rfl 0 (by decide) (hts _ qX5_burst_Cond_fieldLink_RX5_10_NestedCodes_state_LNestedCodes_State_) (fun _ h9 => h9) rfl dX5_burst_1 ?_
  refine va_getN (D := D) (ci := 4) (v := .int (nI (σ 2))) (C := RX4) (T := TX4) (N := 7) hx hb hts qX5_burst_inX4 hown hK hP 1 rfl rfl 2 (by decide) (kN_X5_72 hN) (fun _ h9 => h9) rfl dX5_burst_4 ?_
  refine lv_aload_n hx hb dX5_burst_7 rfl (lv_at hl 0 rfl) ?_
  refine va_get (D := D) (ci := 5) (v := .ref (A 1)) (C := RX5) (T := TX5) (N := 7) hx hb hts qX5_burst_inX5 hown hK hP 0 rfl rfl 0 (by decide) (hts _ qX5_burst_Cond_fieldLink_RX5_10_NestedCodes_state_LNestedCodes_State_) (fun _ h9 => h9) rfl dX5_burst_8 ?_
  refine va_getN (D := D) (ci := 4) (v := .int (nI (σ 0))) (C := RX4) (T := TX4) (N := 7) hx hb hts qX5_burst_inX4 hown hK hP 1 rfl rfl 0 (by decide) (kN_X5_55 hN) (fun _ h9 => h9) rfl dX5_burst_11 ?_
  refine zv_imul hx hb (v := (nI ((σ 2) * (σ 0)))) dX5_burst_14 (pk_mul _ _) ?_
  refine lv_istore_n (lv' := [(3, .int (nI ((σ 2) * (σ 0)))), (0, .ref (A 0)), (1, .int (nI st)), (2, .int (nI le))]) hx hb dX5_burst_15 rfl hl (by decide) rfl (fun ls hl => ?_)
  refine lv_iload_n hx hb dX5_burst_16 rfl (lv_at hl 2 rfl) ?_
  refine zn_if_lt (tgt := 37)  hx hb dX5_burst_17 (by decide) (by omega) (fun c17 => ?_) (fun c17 => ?_)
  · exact absurd c17 (by omega)
  · refine lv_iload_n hx hb dX5_burst_20 rfl (lv_at hl 2 rfl) ?_
    refine lv_iload_n hx hb dX5_burst_21 rfl (lv_at hl 0 rfl) ?_
    refine zn_icmp_ge (tgt := 37)  hx hb dX5_burst_22 (by decide) (by omega) (by omega) (fun c22 => ?_) (fun c22 => ?_)
    · exact absurd c22 (by omega)
    · refine lv_iload_n hx hb dX5_burst_25 rfl (lv_at hl 3 rfl) ?_
      refine lv_iconst (v := (nI 1)) hx hb dX5_burst_26 (by decide) ?_
      refine zn_icmp_lt (tgt := 37)  hx hb dX5_burst_27 (by decide) (by omega) (by omega) (fun c27 => ?_) (fun c27 => ?_)
      · exact absurd c27 (by omega)
      · refine lv_iload_n hx hb dX5_burst_30 rfl (lv_at hl 3 rfl) ?_
        refine lv_iload_n hx hb dX5_burst_31 rfl (lv_at hl 0 rfl) ?_
        refine lv_iload_n hx hb dX5_burst_32 rfl (lv_at hl 2 rfl) ?_
        refine zv_isub hx hb (v := (nI (((σ 2) * (σ 0)) - st))) dX5_burst_33 (pk_sub (by omega)) ?_
        refine zn_icmp_le (tgt := 41)  hx hb dX5_burst_34 (by decide) (by omega) (by omega) (fun c34 => ?_) (fun c34 => ?_)
        · refine lv_aload_n hx hb dX5_burst_41 rfl (lv_at hl 1 rfl) ?_
          refine va_get (D := D) (ci := 5) (v := .ref (A 5)) (C := RX5) (T := TX5) (N := 7) hx hb hts qX5_burst_inX5 hown hK hP 0 rfl rfl 1 (by decide) (hts _ qX5_burst_Cond_fieldLink_RX5_19_NestedCodes_history_LNestedCodes_History_) (fun _ h9 => h9) rfl dX5_burst_42 ?_
          refine lv_aload_n hx hb dX5_burst_45 rfl (lv_at hl 1 rfl) ?_
          refine va_get (D := D) (ci := 5) (v := .ref (A 1)) (C := RX5) (T := TX5) (N := 7) hx hb hts qX5_burst_inX5 hown hK hP 0 rfl rfl 0 (by decide) (hts _ qX5_burst_Cond_fieldLink_RX5_10_NestedCodes_state_LNestedCodes_State_) (fun _ h9 => h9) rfl dX5_burst_46 ?_
          refine zc_w (va_runVN (C := RX0) (As := [.ref (A 1)]) (rest := []) ⟨hx, hb, hml, hown, hts⟩ (c_X0_record l D Y A B σ hn h (wdS σ) (ddS σ) r0 r1 r2 r3 r4 (σ 0) (pak (itC (wdS σ) σ) (σ 0)) (mkP (fun k9 => decide (k9 < σ 0))) wt wn  khn) ⟨(va_cnB 1 hts gX5_burst_X0_record_n61 rfl rfl rfl (kM_X5_61 hN) (hts _ qX5_burst_Cond_initialized_RX0) (by decide +kernel) (by rw [hR]; exact ⟨Nat.le_of_ble_eq_true rfl, Nat.le_of_ble_eq_true rfl⟩)), (hts _ qX5_burst_Cond_instanceMethod_yX0_record), (hts _ qX5_burst_Cond_selects_RX0_yX0_record_yX0_record)⟩ ⟨zBw_blind, va_recv hK hP (ci := 0) (q0 := 5) rfl rfl, zp_w hP hD hK hN⟩ rfl rfl hl.1 rfl (lv_room (Nat.le_of_ble_eq_true rfl)) dX5_burst_49 ⟨Nat.zero_le _, Nat.zero_le _⟩).run hS (zA_of hD) (fun H locs hP hz hk hS => ?_)
          have hD : va_D FA (CX Y A (recB B hn) σ (recN hn) (recH h hn σ) (wdS σ) (ddS σ) r0 r1 r2 r3 r4 (σ 0) (pak (itC (wdS σ) σ) (σ 0)) (mkP (fun k9 => decide (k9 < σ 0))) wt wn) := CX_recD hD
          refine lv_iconst (v := (nI 0)) hx hb dX5_burst_52 (by decide) ?_
          refine lv_istore (lv' := [(4, .int (nI 0)), (3, .int (nI ((σ 2) * (σ 0)))), (0, .ref (A 0)), (1, .int (nI st)), (2, .int (nI le))]) hx hb dX5_burst_53 hl (by decide) rfl (fun ls hl => ?_)
          refine lv_iconst (v := (nI 0)) hx hb dX5_burst_55 (by decide) ?_
          refine lv_istore (lv' := [(5, .int (nI 0)), (4, .int (nI 0)), (3, .int (nI ((σ 2) * (σ 0)))), (0, .ref (A 0)), (1, .int (nI st)), (2, .int (nI le))]) hx hb dX5_burst_56 hl (by decide) rfl (fun ls hl => ?_)
          have L58 : ∀ (n9 : Nat) (i : Nat) (hi : i ≤ σ 0), σ 0 - i < n9 → ∀ (H : Heap) (locs : List Loc), va_P D vwCl (CX Y A (recB B hn) (burI σ st (st + le) i) (recN hn) (recH h hn σ) (wdS σ) (ddS σ) r0 r1 r2 r3 r4 (σ 0) (pak (itC (wdS σ) σ) (σ 0)) (mkP (fun k9 => decide (k9 < σ 0))) wt wn) H → va_D FA (CX Y A (recB B hn) (burI σ st (st + le) i) (recN hn) (recH h hn σ) (wdS σ) (ddS σ) r0 r1 r2 r3 r4 (σ 0) (pak (itC (wdS σ) σ) (σ 0)) (mkP (fun k9 => decide (k9 < σ 0))) wt wn) → va_S FA s.heap H locs → ∀ ls : Array Slot, lv_has ls 7 [(5, .int (nI i)), (4, .int (nI (cnt (fun j => !(bmask (σ 2) j st (st + le) == 0)) i))), (3, .int (nI ((σ 2) * (σ 0)))), (0, .ref (A 0)), (1, .int (nI st)), (2, .int (nI le))] → W p l e R s m args below meth c H locs 0 0 Q (F0 m 58 ls []) := by
            intro n9
            induction n9 with
            | zero => intro i hi hn9; exact absurd hn9 (Nat.not_lt_zero _)
            | succ n9 ih9 =>
              have ih58 := ih9
              clear ih9
              intro i hi hn9 H locs hP hD hS ls hl
              have hcn := cnt_le (fun j => !(bmask (σ 2) j st (st + le) == 0)) i
              have hbm := bmask_lt (σ 2) i st (st + le)
              refine lv_iload hx hb dX5_burst_58 (lv_at hl 0 rfl) ?_
              refine lv_aload_n hx hb dX5_burst_60 rfl (lv_at hl 3 rfl) ?_
              refine va_get (D := D) (ci := 5) (v := .ref (A 1)) (C := RX5) (T := TX5) (N := 7) hx hb hts qX5_burst_inX5 hown hK hP 0 rfl rfl 0 (by decide) (hts _ qX5_burst_Cond_fieldLink_RX5_10_NestedCodes_state_LNestedCodes_State_) (fun _ h9 => h9) rfl dX5_burst_61 ?_
              refine va_getN (D := D) (ci := 4) (v := .int (nI ((burI σ st (st + le) i) 0))) (C := RX4) (T := TX4) (N := 7) hx hb hts qX5_burst_inX4 hown hK hP 1 rfl rfl 0 (by decide) (kN_X5_55 hN) (fun _ h9 => h9) rfl dX5_burst_64 ?_
              refine zt_i (v := (nI (σ 0))) (congrArg nI (burI_out σ st (st + le) i (by omega))) ?_
              refine zn_icmp_ge (tgt := 111)  hx hb dX5_burst_67 (by decide) (by omega) (by omega) (fun c67 => ?_) (fun c67 => ?_)
              · obtain rfl : i = σ 0 := by omega
                refine lv_aload_n hx hb dX5_burst_111 rfl (lv_at hl 3 rfl) ?_
                refine zc_w (va_runV (As := []) (rest := []) ⟨hx, hb, hml, hown, hts⟩ (c_X5_readAgain l D Y A (recB B hn) (burI σ st (st + le) (σ 0)) (recN hn) (recH h hn σ) (wdS σ) (ddS σ) r0 r1 r2 r3 r4 (σ 0) (pak (itC (wdS σ) σ) (σ 0)) (mkP (fun k9 => decide (k9 < σ 0))) wt wn  (zWF_bur kσ st (st + le) (σ 0))) (cwV 0 hts gX5_burst_X5_readAgain rfl rfl rfl (by decide +kernel) (by rw [hR]; exact ⟨Nat.le_of_ble_eq_true rfl, Nat.le_of_ble_eq_true rfl⟩)) ⟨zBw_blind, va_recv hK hP (ci := 5) (q0 := 0) rfl rfl, zp_w hP hD hK hN⟩ rfl rfl hl.1 rfl (lv_room (Nat.le_of_ble_eq_true rfl)) dX5_burst_112 ⟨Nat.zero_le _, Nat.zero_le _⟩).run hS (zA_of hD) (fun H locs hP hz hk hS => ?_)
                have hD : va_D FA (CX Y A (recB B hn) (burI σ st (st + le) (σ 0)) (recN hn) (recH h hn σ) (wdS (burI σ st (st + le) (σ 0))) (ddS (burI σ st (st + le) (σ 0))) (ag0 (burI σ st (st + le) (σ 0)) r0) (ag1 (burI σ st (st + le) (σ 0)) r1) (ag2 (burI σ st (st + le) (σ 0)) r2) (ag3 (burI σ st (st + le) (σ 0)) r2 r3) (ag4 (burI σ st (st + le) (σ 0)) r2 r4) ((burI σ st (st + le) (σ 0)) 0) (pak (itC (wdS (burI σ st (st + le) (σ 0))) (burI σ st (st + le) (σ 0))) ((burI σ st (st + le) (σ 0)) 0)) (mkP (fun k9 => decide (k9 < (burI σ st (st + le) (σ 0)) 0))) wt wn) := CX_dd hD
                refine lv_iload hx hb dX5_burst_115 (lv_at hl 1 rfl) ?_
                exact zw_i hx hb hr hlk hQ hS dX5_burst_117 (rfl) (hP)
              · refine lv_aload_n hx hb dX5_burst_70 rfl (lv_at hl 3 rfl) ?_
                refine lv_iload hx hb dX5_burst_71 (lv_at hl 0 rfl) ?_
                refine lv_iload_n hx hb dX5_burst_73 rfl (lv_at hl 4 rfl) ?_
                refine lv_iload_n hx hb dX5_burst_74 rfl (lv_at hl 4 rfl) ?_
                refine lv_iload_n hx hb dX5_burst_75 rfl (lv_at hl 5 rfl) ?_
                refine zv_iadd hx hb (v := (nI (st + le))) dX5_burst_76 (nI_add _ _) ?_
                refine zc_r (va_runV (As := [.int (nI i), .int (nI st), .int (nI (st + le))]) (rest := []) ⟨hx, hb, hml, hown, hts⟩ (c_X5_burstMask l D Y A (recB B hn) (burI σ st (st + le) i) (recN hn) (recH h hn σ) (wdS σ) (ddS σ) r0 r1 r2 r3 r4 (σ 0) (pak (itC (wdS σ) σ) (σ 0)) (mkP (fun k9 => decide (k9 < σ 0))) wt wn i st (st + le) (zWF_bur kσ st (st + le) i) (by omega) (by omega) (by omega)) (cwV 3 hts gX5_burst_X5_burstMask rfl rfl rfl (by decide +kernel) (by rw [hR]; exact ⟨Nat.le_of_ble_eq_true rfl, Nat.le_of_ble_eq_true rfl⟩)) ⟨zB_blind, va_recv hK hP (ci := 5) (q0 := 0) rfl rfl, zp_r hP hK hN⟩ rfl rfl hl.1 rfl (lv_room (Nat.le_of_ble_eq_true rfl)) dX5_burst_77 ⟨Nat.zero_le _, Nat.zero_le _⟩).run ?_
                refine zt_i (v := (nI (bmask (σ 2) i st (st + le)))) (by rw [burI_out σ st (st + le) i (q := 2) (by omega)]) ?_
                refine lv_istore (lv' := [(6, .int (nI (bmask (σ 2) i st (st + le)))), (5, .int (nI i)), (4, .int (nI (cnt (fun j => !(bmask (σ 2) j st (st + le) == 0)) i))), (3, .int (nI ((σ 2) * (σ 0)))), (0, .ref (A 0)), (1, .int (nI st)), (2, .int (nI le))]) hx hb dX5_burst_80 hl (by decide) rfl (fun ls hl => ?_)
                refine lv_aload_n hx hb dX5_burst_82 rfl (lv_at hl 4 rfl) ?_
                refine va_get (D := D) (ci := 5) (v := .ref (A 1)) (C := RX5) (T := TX5) (N := 7) hx hb hts qX5_burst_inX5 hown hK hP 0 rfl rfl 0 (by decide) (hts _ qX5_burst_Cond_fieldLink_RX5_10_NestedCodes_state_LNestedCodes_State_) (fun _ h9 => h9) rfl dX5_burst_83 ?_
                refine va_getN (D := D) (ci := 4) (v := .ref (A 3)) (C := RX4) (T := TX4) (N := 7) hx hb hts qX5_burst_inX4 hown hK hP 1 rfl rfl 4 (by decide) (kN_X5_128 hN) (fun _ h9 => h9) rfl dX5_burst_86 ?_
                refine lv_iload hx hb dX5_burst_89 (lv_at hl 1 rfl) ?_
                refine lv_dup2_11 hx hb dX5_burst_91 rfl rfl ?_
                refine za_i hx hb hK hP 3 (f := fun k9 => nI ((burI σ st (st + le) i) (9 + k9))) (v := (nI (σ (9 + i)))) rfl (by omega) (by decide) dX5_burst_92 (congrArg nI (burI_out σ st (st + le) i (by omega))) ?_
                refine lv_iload hx hb dX5_burst_93 (lv_at hl 0 rfl) ?_
                refine zv_ixor hx hb (v := (nI ((σ (9 + i)) ^^^ (bmask (σ 2) i st (st + le))))) dX5_burst_95 (nx_xor _ _) ?_
                refine zs_i hx hb hK hP hD hS 3 (f := fun k9 => nI ((burI σ st (st + le) i) (9 + k9))) rfl (by omega) (by decide) dX5_burst_96 (fun H locs hP hD9 hS => ?_)
                have hP : va_P D vwCl (CX Y A (recB B hn) (va_up (burI σ st (st + le) i) (9 + i) ((σ (9 + i)) ^^^ (bmask (σ 2) i st (st + le)))) (recN hn) (recH h hn σ) (wdS σ) (ddS σ) r0 r1 r2 r3 r4 (σ 0) (pak (itC (wdS σ) σ) (σ 0)) (mkP (fun k9 => decide (k9 < σ 0))) wt wn) H := by rw [CX_w (i := i) (by omega)] at hP; exact hP
                have hD : va_D FA (CX Y A (recB B hn) (va_up (burI σ st (st + le) i) (9 + i) ((σ (9 + i)) ^^^ (bmask (σ 2) i st (st + le)))) (recN hn) (recH h hn σ) (wdS σ) (ddS σ) r0 r1 r2 r3 r4 (σ 0) (pak (itC (wdS σ) σ) (σ 0)) (mkP (fun k9 => decide (k9 < σ 0))) wt wn) := CX_dd hD
                clear hD9
                refine lv_iload hx hb dX5_burst_97 (lv_at hl 0 rfl) ?_
                refine zn_if_eq (tgt := 105)  hx hb dX5_burst_99 (by decide) (by omega) (fun c99 => ?_) (fun c99 => ?_)
                · refine lv_iinc (v := (nI (i + 1))) (lv' := [(5, .int (nI (i + 1))), (6, .int (nI (bmask (σ 2) i st (st + le)))), (4, .int (nI (cnt (fun j => !(bmask (σ 2) j st (st + le) == 0)) i))), (3, .int (nI ((σ 2) * (σ 0)))), (0, .ref (A 0)), (1, .int (nI st)), (2, .int (nI le))]) hx hb dX5_burst_105 hl (k := 1) rfl (zinc _) (by decide) rfl (fun ls hl => ?_)
                  refine lv_goto (tgt := 58) hx hb dX5_burst_108 (by decide) ?_
                  rw [show (.int (nI (cnt (fun j => !(bmask (σ 2) j st (st + le) == 0)) i)) : Value) = .int (nI (cnt (fun j => !(bmask (σ 2) j st (st + le) == 0)) (i + 1))) from congrArg _ (congrArg nI (show _ = cnt (fun j => !(bmask (σ 2) j st (st + le) == 0)) i + b01 ((fun j => !(bmask (σ 2) j st (st + le) == 0)) i) from by rw [show (fun j => !(bmask (σ 2) j st (st + le) == 0)) i = false from by simp [c99]]; rfl))] at hl
                  have e9 : (va_up (burI σ st (st + le) i) (9 + i) ((σ (9 + i)) ^^^ (bmask (σ 2) i st (st + le)))) = (burI σ st (st + le) (i + 1)) := burI_up σ st (st + le) i
                  rw [e9] at hP
                  clear e9
                  have hP : va_P D vwCl (CX Y A (recB B hn) (burI σ st (st + le) (i + 1)) (recN hn) (recH h hn σ) (wdS σ) (ddS σ) r0 r1 r2 r3 r4 (σ 0) (pak (itC (wdS σ) σ) (σ 0)) (mkP (fun k9 => decide (k9 < σ 0))) wt wn) H := hP
                  have hD : va_D FA (CX Y A (recB B hn) (burI σ st (st + le) (i + 1)) (recN hn) (recH h hn σ) (wdS σ) (ddS σ) r0 r1 r2 r3 r4 (σ 0) (pak (itC (wdS σ) σ) (σ 0)) (mkP (fun k9 => decide (k9 < σ 0))) wt wn) := CX_dd hD
                  exact ih58 (i + 1) (by omega) (by omega) H locs hP hD hS ls (lv_sub hl [0, 2, 3, 4, 5, 6] rfl)
                · refine lv_iinc (v := (nI (cnt (fun j => !(bmask (σ 2) j st (st + le) == 0)) i + 1))) (lv' := [(4, .int (nI (cnt (fun j => !(bmask (σ 2) j st (st + le) == 0)) i + 1))), (6, .int (nI (bmask (σ 2) i st (st + le)))), (5, .int (nI i)), (3, .int (nI ((σ 2) * (σ 0)))), (0, .ref (A 0)), (1, .int (nI st)), (2, .int (nI le))]) hx hb dX5_burst_102 hl (k := 2) rfl (zinc _) (by decide) rfl (fun ls hl => ?_)
                  refine lv_iinc (v := (nI (i + 1))) (lv' := [(5, .int (nI (i + 1))), (4, .int (nI (cnt (fun j => !(bmask (σ 2) j st (st + le) == 0)) i + 1))), (6, .int (nI (bmask (σ 2) i st (st + le)))), (3, .int (nI ((σ 2) * (σ 0)))), (0, .ref (A 0)), (1, .int (nI st)), (2, .int (nI le))]) hx hb dX5_burst_105 hl (k := 2) rfl (zinc _) (by decide) rfl (fun ls hl => ?_)
                  refine lv_goto (tgt := 58) hx hb dX5_burst_108 (by decide) ?_
                  rw [show (.int (nI (cnt (fun j => !(bmask (σ 2) j st (st + le) == 0)) i + 1)) : Value) = .int (nI (cnt (fun j => !(bmask (σ 2) j st (st + le) == 0)) (i + 1))) from congrArg _ (congrArg nI (show _ = cnt (fun j => !(bmask (σ 2) j st (st + le) == 0)) i + b01 ((fun j => !(bmask (σ 2) j st (st + le) == 0)) i) from by rw [show (fun j => !(bmask (σ 2) j st (st + le) == 0)) i = true from by simp [c99]]; rfl))] at hl
                  have e9 : (va_up (burI σ st (st + le) i) (9 + i) ((σ (9 + i)) ^^^ (bmask (σ 2) i st (st + le)))) = (burI σ st (st + le) (i + 1)) := burI_up σ st (st + le) i
                  rw [e9] at hP
                  clear e9
                  have hP : va_P D vwCl (CX Y A (recB B hn) (burI σ st (st + le) (i + 1)) (recN hn) (recH h hn σ) (wdS σ) (ddS σ) r0 r1 r2 r3 r4 (σ 0) (pak (itC (wdS σ) σ) (σ 0)) (mkP (fun k9 => decide (k9 < σ 0))) wt wn) H := hP
                  have hD : va_D FA (CX Y A (recB B hn) (burI σ st (st + le) (i + 1)) (recN hn) (recH h hn σ) (wdS σ) (ddS σ) r0 r1 r2 r3 r4 (σ 0) (pak (itC (wdS σ) σ) (σ 0)) (mkP (fun k9 => decide (k9 < σ 0))) wt wn) := CX_dd hD
                  exact ih58 (i + 1) (by omega) (by omega) H locs hP hD hS ls (lv_sub hl [0, 1, 3, 4, 5, 6] rfl)
          have hP : va_P D vwCl (CX Y A (recB B hn) (burI σ st (st + le) 0) (recN hn) (recH h hn σ) (wdS σ) (ddS σ) r0 r1 r2 r3 r4 (σ 0) (pak (itC (wdS σ) σ) (σ 0)) (mkP (fun k9 => decide (k9 < σ 0))) wt wn) H := by rw [← burI_0 σ st (st + le)]; exact hP
          have hP : va_P D vwCl (CX Y A (recB B hn) (burI σ st (st + le) 0) (recN hn) (recH h hn σ) (wdS σ) (ddS σ) r0 r1 r2 r3 r4 (σ 0) (pak (itC (wdS σ) σ) (σ 0)) (mkP (fun k9 => decide (k9 < σ 0))) wt wn) H := hP
          have hD : va_D FA (CX Y A (recB B hn) (burI σ st (st + le) 0) (recN hn) (recH h hn σ) (wdS σ) (ddS σ) r0 r1 r2 r3 r4 (σ 0) (pak (itC (wdS σ) σ) (σ 0)) (mkP (fun k9 => decide (k9 < σ 0))) wt wn) := CX_dd hD
          exact L58 (σ 0 - 0 + 1) 0 (by omega) (Nat.lt_succ_self _) _ _ hP hD hS ls (lv_sub hl [0, 1, 2, 3, 4, 5] rfl)
        · exact absurd c34 (by omega)
set_option maxHeartbeats 4000000 in
set_option maxRecDepth 100000 in
theorem c_X5_sendCascade_not (l : Launch) (D : va_G) (Y : Nat → ClassId) (A : Nat → Nat) (B : Nat → Nat) (σ : Nat → Nat) (hn : Nat) (h : Nat → Nat → Nat) (r0 : Nat → Nat) (r1 : Nat → Nat) (r2 : Nat → Nat) (r3 : Nat → Nat) (r4 : Nat → Nat) (wt : Nat → Nat) (wn : Nat)   (kσ : zWF σ) (kr : zCon σ r0 r1 r2 r3 r4) (hlm : nMs σ ≤ lawM σ) : Met l yX5_sendCascade wsX5_sendCascade ({ frames := 6, cells := 0, slots := 0, locals := 132 } : Room) (va_Pc [.ref (A 0)] (zB D Y (CX Y A B σ hn h (wdS σ) (ddS σ) r0 r1 r2 r3 r4 (σ 0) (pak (itC (wdS σ) σ) (σ 0)) (mkP (fun k9 => decide (k9 < σ 0))) wt wn))) (zR (.int (-1002))) 0 0 (fun _ => False) := by
  refine zr_of (cc := cX5_sendCascade) (maxL := 6) (ret := (some .int)) (by decide) rfl (Nat.le_of_ble_eq_true rfl) ?_
  intro p e s m below meth c R args Q hR hx hb hml hr hlk hown hts hK hN hP hQ ls hl
  have hown : s.vm.findClass RX5 = some m.cls := hown
  have hl : lv_has ls 6 [(0, .ref (A 0))] := hl
  have kw := kσ
  obtain ⟨n3, n12, d1, d3, dn, b4, b10, gl, lm, sn, wl, wnz⟩ := kw
  have pb := zp_b b10
  have pk9 := zp_k d3
  have hpak : pak (itC (wdS σ) σ) (σ 0) < 281474976710656 := Nat.lt_of_lt_of_le (pak_lt (fun j _ => itC_lt _ _ j)) (show 2 ^ (4 * σ 0) ≤ 2 ^ 48 from Nat.pow_le_pow_right (by decide) (by omega))
  have hbar := barS_le kσ
  refine lv_aload_n hx hb dX5_sendCascade_0 rfl (lv_at hl 0 rfl) ?_
  refine zc_r (va_runV (As := []) (rest := []) ⟨hx, hb, hml, hown, hts⟩ (c_X5_lawfulMessage l D Y A B σ hn h r0 r1 r2 r3 r4 wt wn  kσ kr) (cwV 0 hts gX5_sendCascade_X5_lawfulMessage rfl rfl rfl (by decide +kernel) (by rw [hR]; exact ⟨Nat.le_of_ble_eq_true rfl, Nat.le_of_ble_eq_true rfl⟩)) ⟨zB_blind, va_recv hK hP (ci := 5) (q0 := 0) rfl rfl, zp_r hP hK hN⟩ rfl rfl hl.1 rfl (lv_room (Nat.le_of_ble_eq_true rfl)) dX5_sendCascade_1 ⟨Nat.zero_le _, Nat.zero_le _⟩).run ?_
  refine zt_i (v := (-1)) (if_neg (by omega)) ?_
  refine lv_istore_n (lv' := [(1, .int (-1)), (0, .ref (A 0))]) hx hb dX5_sendCascade_4 rfl hl (by decide) rfl (fun ls hl => ?_)
  refine lv_iload_n hx hb dX5_sendCascade_5 rfl (lv_at hl 0 rfl) ?_
  refine lv_iconst (v := (-1)) hx hb dX5_sendCascade_6 (by decide) ?_
  refine zz_icmp_ne (tgt := 14) (a := -1) (b := -1) hx hb dX5_sendCascade_7 (by decide) (by decide) (by decide) (fun c7 => ?_) (fun c7 => ?_)
  · exact absurd c7 (by omega)
  · refine lv_sipush (v := (-1002)) hx hb dX5_sendCascade_10 (by decide) ?_
    exact zr_i hx hb hr hlk hQ dX5_sendCascade_13 (rfl)
theorem qX5_sendCascade_Cond_fieldLink_RX5_19_NestedCodes_history_LNestedCodes_History_ : Cond.fieldLink RX5 19 "NestedCodes" "history" "LNestedCodes$History;" ∈ wsX5_sendCascade := by decide +kernel
theorem qX5_sendCascade_inX5 : ∀ w ∈ wsX50, w ∈ wsX5_sendCascade := by decide +kernel
theorem qX5_sendCascade_Cond_fieldLink_RX5_10_NestedCodes_state_LNestedCodes_State_ : Cond.fieldLink RX5 10 "NestedCodes" "state" "LNestedCodes$State;" ∈ wsX5_sendCascade := by decide +kernel
theorem qX5_sendCascade_Cond_initialized_RX0 : Cond.initialized RX0 ∈ wsX5_sendCascade := by decide +kernel
theorem qX5_sendCascade_Cond_instanceMethod_yX0_record : Cond.instanceMethod yX0_record ∈ wsX5_sendCascade := by decide +kernel
theorem qX5_sendCascade_Cond_selects_RX0_yX0_record_yX0_record : Cond.selects RX0 yX0_record yX0_record ∈ wsX5_sendCascade := by decide +kernel
theorem qX5_sendCascade_inX4 : ∀ w ∈ wsX40, w ∈ wsX5_sendCascade := by decide +kernel
theorem qX5_sendCascade_Cond_initialized_RX4 : Cond.initialized RX4 ∈ wsX5_sendCascade := by decide +kernel
theorem qX5_sendCascade_Cond_instanceMethod_yX4_shiftedRound : Cond.instanceMethod yX4_shiftedRound ∈ wsX5_sendCascade := by decide +kernel
theorem qX5_sendCascade_Cond_selects_RX4_yX4_shiftedRound_yX4_shiftedRound : Cond.selects RX4 yX4_shiftedRound yX4_shiftedRound ∈ wsX5_sendCascade := by decide +kernel
set_option maxHeartbeats 4000000 in
set_option maxRecDepth 100000 in
theorem c_X5_sendCascade (l : Launch) (D : va_G) (Y : Nat → ClassId) (A : Nat → Nat) (B : Nat → Nat) (σ : Nat → Nat) (hn : Nat) (h : Nat → Nat → Nat) (r0 : Nat → Nat) (r1 : Nat → Nat) (r2 : Nat → Nat) (r3 : Nat → Nat) (r4 : Nat → Nat) (wt : Nat → Nat) (wn : Nat)   (kσ : zWF σ) (kr : zCon σ r0 r1 r2 r3 r4) (khn : hn ≤ 6) (hlm : lawM σ < nMs σ) : Met l yX5_sendCascade wsX5_sendCascade ({ frames := 6, cells := 0, slots := 0, locals := 132 } : Room) (va_Pc [.ref (A 0)] (zBw D Y (CX Y A B σ hn h (wdS σ) (ddS σ) r0 r1 r2 r3 r4 (σ 0) (pak (itC (wdS σ) σ) (σ 0)) (mkP (fun k9 => decide (k9 < σ 0))) wt wn))) (zW (some (.int (nI (casN σ (lawM σ) (σ 0))))) D (CX Y A (recB B hn) (casI σ (lawM σ) (σ 0)) (recN hn) (recH h hn σ) (wdS (casI σ (lawM σ) (σ 0))) (ddS (casI σ (lawM σ) (σ 0))) (ag0 (casI σ (lawM σ) (σ 0)) r0) (ag1 (casI σ (lawM σ) (σ 0)) r1) (ag2 (casI σ (lawM σ) (σ 0)) r2) (ag3 (casI σ (lawM σ) (σ 0)) r2 r3) (ag4 (casI σ (lawM σ) (σ 0)) r2 r4) ((casI σ (lawM σ) (σ 0)) 0) (pak (itC (wdS (casI σ (lawM σ) (σ 0))) (casI σ (lawM σ) (σ 0))) ((casI σ (lawM σ) (σ 0)) 0)) (mkP (fun k9 => decide (k9 < (casI σ (lawM σ) (σ 0)) 0))) wt wn) (zA (CX Y A B σ hn h (wdS σ) (ddS σ) r0 r1 r2 r3 r4 (σ 0) (pak (itC (wdS σ) σ) (σ 0)) (mkP (fun k9 => decide (k9 < σ 0))) wt wn))) 0 0 (zA (CX Y A B σ hn h (wdS σ) (ddS σ) r0 r1 r2 r3 r4 (σ 0) (pak (itC (wdS σ) σ) (σ 0)) (mkP (fun k9 => decide (k9 < σ 0))) wt wn)) := by
  refine zw_of (cc := cX5_sendCascade) (maxL := 6) (ret := (some .int)) (by decide) rfl (Nat.le_of_ble_eq_true rfl) ?_
  intro p e s m below meth c R args Q FA hR hx hb hml hr hlk hown hts hK hN hQ hP hD hS ls hl
  have hown : s.vm.findClass RX5 = some m.cls := hown
  have hl : lv_has ls 6 [(0, .ref (A 0))] := hl
  have hS := hS
  have kw := kσ
  obtain ⟨n3, n12, d1, d3, dn, b4, b10, gl, lm, sn, wl, wnz⟩ := kw
  have pb := zp_b b10
  have pk9 := zp_k d3
  have hpak : pak (itC (wdS σ) σ) (σ 0) < 281474976710656 := Nat.lt_of_lt_of_le (pak_lt (fun j _ => itC_lt _ _ j)) (show 2 ^ (4 * σ 0) ≤ 2 ^ 48 from Nat.pow_le_pow_right (by decide) (by omega))
  have hbar := barS_le kσ
  suffices hgo : ∀ (H : Heap) (locs : List Loc), va_P D vwCl (CX Y A B σ hn h (wdS σ) (ddS σ) r0 r1 r2 r3 r4 (σ 0) (pak (itC (wdS σ) σ) (σ 0)) (mkP (fun k9 => decide (k9 < σ 0))) wt wn) H → va_S FA s.heap H locs → W p l e R s m args below meth c H locs 0 0 Q (F0 m 0 ls []) from hgo _ _ hP hS
  clear hP hS
  intro H locs hP hS
  have hlm2 : lawM σ < 2 ^ (4 * σ 1) := hlm
  refine lv_aload_n hx hb dX5_sendCascade_0 rfl (lv_at hl 0 rfl) ?_
  refine zc_r (va_runV (As := []) (rest := []) ⟨hx, hb, hml, hown, hts⟩ (c_X5_lawfulMessage l D Y A B σ hn h r0 r1 r2 r3 r4 wt wn  kσ kr) (cwV 0 hts gX5_sendCascade_X5_lawfulMessage rfl rfl rfl (by decide +kernel) (by rw [hR]; exact ⟨Nat.le_of_ble_eq_true rfl, Nat.le_of_ble_eq_true rfl⟩)) ⟨zB_blind, va_recv hK hP (ci := 5) (q0 := 0) rfl rfl, zp_r hP hK hN⟩ rfl rfl hl.1 rfl (lv_room (Nat.le_of_ble_eq_true rfl)) dX5_sendCascade_1 ⟨Nat.zero_le _, Nat.zero_le _⟩).run ?_
  refine zt_i (v := (nI (lawM σ))) (if_pos hlm) ?_
  refine lv_istore_n (lv' := [(1, .int (nI (lawM σ))), (0, .ref (A 0))]) hx hb dX5_sendCascade_4 rfl hl (by decide) rfl (fun ls hl => ?_)
  refine lv_iload_n hx hb dX5_sendCascade_5 rfl (lv_at hl 0 rfl) ?_
  refine lv_iconst (v := (-1)) hx hb dX5_sendCascade_6 (by decide) ?_
  refine zz_icmp_ne (tgt := 14) (a := (((lawM σ : Nat)) : Int)) (b := -1) hx hb dX5_sendCascade_7 (by decide) (zt_n (by omega)) (by decide) (fun c7 => ?_) (fun c7 => ?_)
  · refine lv_aload_n hx hb dX5_sendCascade_14 rfl (lv_at hl 1 rfl) ?_
    refine va_get (D := D) (ci := 5) (v := .ref (A 5)) (C := RX5) (T := TX5) (N := 7) hx hb hts qX5_sendCascade_inX5 hown hK hP 0 rfl rfl 1 (by decide) (hts _ qX5_sendCascade_Cond_fieldLink_RX5_19_NestedCodes_history_LNestedCodes_History_) (fun _ h9 => h9) rfl dX5_sendCascade_15 ?_
    refine lv_aload_n hx hb dX5_sendCascade_18 rfl (lv_at hl 1 rfl) ?_
    refine va_get (D := D) (ci := 5) (v := .ref (A 1)) (C := RX5) (T := TX5) (N := 7) hx hb hts qX5_sendCascade_inX5 hown hK hP 0 rfl rfl 0 (by decide) (hts _ qX5_sendCascade_Cond_fieldLink_RX5_10_NestedCodes_state_LNestedCodes_State_) (fun _ h9 => h9) rfl dX5_sendCascade_19 ?_
    refine zc_w (va_runVN (C := RX0) (As := [.ref (A 1)]) (rest := []) ⟨hx, hb, hml, hown, hts⟩ (c_X0_record l D Y A B σ hn h (wdS σ) (ddS σ) r0 r1 r2 r3 r4 (σ 0) (pak (itC (wdS σ) σ) (σ 0)) (mkP (fun k9 => decide (k9 < σ 0))) wt wn  khn) ⟨(va_cnB 1 hts gX5_sendCascade_X0_record_n61 rfl rfl rfl (kM_X5_61 hN) (hts _ qX5_sendCascade_Cond_initialized_RX0) (by decide +kernel) (by rw [hR]; exact ⟨Nat.le_of_ble_eq_true rfl, Nat.le_of_ble_eq_true rfl⟩)), (hts _ qX5_sendCascade_Cond_instanceMethod_yX0_record), (hts _ qX5_sendCascade_Cond_selects_RX0_yX0_record_yX0_record)⟩ ⟨zBw_blind, va_recv hK hP (ci := 0) (q0 := 5) rfl rfl, zp_w hP hD hK hN⟩ rfl rfl hl.1 rfl (lv_room (Nat.le_of_ble_eq_true rfl)) dX5_sendCascade_22 ⟨Nat.zero_le _, Nat.zero_le _⟩).run hS (zA_of hD) (fun H locs hP hz hk hS => ?_)
    have hD : va_D FA (CX Y A (recB B hn) σ (recN hn) (recH h hn σ) (wdS σ) (ddS σ) r0 r1 r2 r3 r4 (σ 0) (pak (itC (wdS σ) σ) (σ 0)) (mkP (fun k9 => decide (k9 < σ 0))) wt wn) := CX_recD hD
    refine lv_aload_n hx hb dX5_sendCascade_25 rfl (lv_at hl 1 rfl) ?_
    refine va_get (D := D) (ci := 5) (v := .ref (A 1)) (C := RX5) (T := TX5) (N := 7) hx hb hts qX5_sendCascade_inX5 hown hK hP 0 rfl rfl 0 (by decide) (hts _ qX5_sendCascade_Cond_fieldLink_RX5_10_NestedCodes_state_LNestedCodes_State_) (fun _ h9 => h9) rfl dX5_sendCascade_26 ?_
    refine lv_iload_n hx hb dX5_sendCascade_29 rfl (lv_at hl 0 rfl) ?_
    refine va_putN (D := D) (ci := 4) (v := .int (nI (lawM σ))) (ty := .int) (C := RX4) (T := TX4) (N := 7) hx hb hts qX5_sendCascade_inX4 tyX4 tyX4_ok nmX4 hown hK hP hD hS 1 rfl rfl 6 (by decide) (kN_X5_122 hN) (fun _ h9 => h9) rfl (by decide +kernel) rfl rfl (Nat.le_of_ble_eq_true rfl) dX5_sendCascade_30 (fun H locs hP hD9 hS => ?_)
    have hP : va_P D vwCl (CX Y A (recB B hn) (va_up σ 8 (lawM σ)) (recN hn) (recH h hn σ) (wdS σ) (ddS σ) r0 r1 r2 r3 r4 (σ 0) (pak (itC (wdS σ) σ) (σ 0)) (mkP (fun k9 => decide (k9 < σ 0))) wt wn) H := by rw [CX_f8] at hP; exact hP
    have hD : va_D FA (CX Y A (recB B hn) (va_up σ 8 (lawM σ)) (recN hn) (recH h hn σ) (wdS σ) (ddS σ) r0 r1 r2 r3 r4 (σ 0) (pak (itC (wdS σ) σ) (σ 0)) (mkP (fun k9 => decide (k9 < σ 0))) wt wn) := CX_dd hD
    clear hD9
    refine lv_iconst (v := (nI 0)) hx hb dX5_sendCascade_33 (by decide) ?_
    refine lv_istore_n (lv' := [(2, .int (nI 0)), (1, .int (nI (lawM σ))), (0, .ref (A 0))]) hx hb dX5_sendCascade_34 rfl hl (by decide) rfl (fun ls hl => ?_)
    refine lv_iconst (v := (nI 0)) hx hb dX5_sendCascade_35 (by decide) ?_
    refine lv_istore_n (lv' := [(3, .int (nI 0)), (2, .int (nI 0)), (1, .int (nI (lawM σ))), (0, .ref (A 0))]) hx hb dX5_sendCascade_36 rfl hl (by decide) rfl (fun ls hl => ?_)
    have L37 : ∀ (n9 : Nat) (i : Nat) (hi : i ≤ σ 0), σ 0 - i < n9 → ∀ (H : Heap) (locs : List Loc), va_P D vwCl (CX Y A (recB B hn) (casI σ (lawM σ) i) (recN hn) (recH h hn σ) (wdS σ) (ddS σ) r0 r1 r2 r3 r4 (σ 0) (pak (itC (wdS σ) σ) (σ 0)) (mkP (fun k9 => decide (k9 < σ 0))) wt wn) H → va_D FA (CX Y A (recB B hn) (casI σ (lawM σ) i) (recN hn) (recH h hn σ) (wdS σ) (ddS σ) r0 r1 r2 r3 r4 (σ 0) (pak (itC (wdS σ) σ) (σ 0)) (mkP (fun k9 => decide (k9 < σ 0))) wt wn) → va_S FA s.heap H locs → ∀ ls : Array Slot, lv_has ls 6 [(3, .int (nI i)), (2, .int (nI (casN σ (lawM σ) i))), (1, .int (nI (lawM σ))), (0, .ref (A 0))] → W p l e R s m args below meth c H locs 0 0 Q (F0 m 37 ls []) := by
      intro n9
      induction n9 with
      | zero => intro i hi hn9; exact absurd hn9 (Nat.not_lt_zero _)
      | succ n9 ih9 =>
        have ih37 := ih9
        clear ih9
        intro i hi hn9 H locs hP hD hS ls hl
        have hsl := casN_le σ (lawM σ) i
        have hrw := rotW_lt (σ 2) (σ (9 + i) ^^^ wdS σ (zcw (lawM σ) i))
        have hpr := popc_le (rotW (σ 2) (σ (9 + i) ^^^ wdS σ (zcw (lawM σ) i)))
        refine lv_iload_n hx hb dX5_sendCascade_37 rfl (lv_at hl 0 rfl) ?_
        refine lv_aload_n hx hb dX5_sendCascade_38 rfl (lv_at hl 3 rfl) ?_
        refine va_get (D := D) (ci := 5) (v := .ref (A 1)) (C := RX5) (T := TX5) (N := 7) hx hb hts qX5_sendCascade_inX5 hown hK hP 0 rfl rfl 0 (by decide) (hts _ qX5_sendCascade_Cond_fieldLink_RX5_10_NestedCodes_state_LNestedCodes_State_) (fun _ h9 => h9) rfl dX5_sendCascade_39 ?_
        refine va_getN (D := D) (ci := 4) (v := .int (nI ((casI σ (lawM σ) i) 0))) (C := RX4) (T := TX4) (N := 7) hx hb hts qX5_sendCascade_inX4 hown hK hP 1 rfl rfl 0 (by decide) (kN_X5_55 hN) (fun _ h9 => h9) rfl dX5_sendCascade_42 ?_
        refine zt_i (v := (nI (σ 0))) (congrArg nI (casI_out σ (lawM σ) i (by omega))) ?_
        refine zn_icmp_ge (tgt := 105)  hx hb dX5_sendCascade_45 (by decide) (by omega) (by omega) (fun c45 => ?_) (fun c45 => ?_)
        · obtain rfl : i = σ 0 := by omega
          refine lv_aload_n hx hb dX5_sendCascade_105 rfl (lv_at hl 3 rfl) ?_
          refine zc_w (va_runV (As := []) (rest := []) ⟨hx, hb, hml, hown, hts⟩ (c_X5_readAgain l D Y A (recB B hn) (casI σ (lawM σ) (σ 0)) (recN hn) (recH h hn σ) (wdS σ) (ddS σ) r0 r1 r2 r3 r4 (σ 0) (pak (itC (wdS σ) σ) (σ 0)) (mkP (fun k9 => decide (k9 < σ 0))) wt wn  (zWF_cas kσ hlm2)) (cwV 0 hts gX5_sendCascade_X5_readAgain rfl rfl rfl (by decide +kernel) (by rw [hR]; exact ⟨Nat.le_of_ble_eq_true rfl, Nat.le_of_ble_eq_true rfl⟩)) ⟨zBw_blind, va_recv hK hP (ci := 5) (q0 := 0) rfl rfl, zp_w hP hD hK hN⟩ rfl rfl hl.1 rfl (lv_room (Nat.le_of_ble_eq_true rfl)) dX5_sendCascade_106 ⟨Nat.zero_le _, Nat.zero_le _⟩).run hS (zA_of hD) (fun H locs hP hz hk hS => ?_)
          have hD : va_D FA (CX Y A (recB B hn) (casI σ (lawM σ) (σ 0)) (recN hn) (recH h hn σ) (wdS (casI σ (lawM σ) (σ 0))) (ddS (casI σ (lawM σ) (σ 0))) (ag0 (casI σ (lawM σ) (σ 0)) r0) (ag1 (casI σ (lawM σ) (σ 0)) r1) (ag2 (casI σ (lawM σ) (σ 0)) r2) (ag3 (casI σ (lawM σ) (σ 0)) r2 r3) (ag4 (casI σ (lawM σ) (σ 0)) r2 r4) ((casI σ (lawM σ) (σ 0)) 0) (pak (itC (wdS (casI σ (lawM σ) (σ 0))) (casI σ (lawM σ) (σ 0))) ((casI σ (lawM σ) (σ 0)) 0)) (mkP (fun k9 => decide (k9 < (casI σ (lawM σ) (σ 0)) 0))) wt wn) := CX_dd hD
          refine lv_iload_n hx hb dX5_sendCascade_109 rfl (lv_at hl 1 rfl) ?_
          exact zw_i hx hb hr hlk hQ hS dX5_sendCascade_110 (rfl) (hP)
        · refine lv_aload_n hx hb dX5_sendCascade_48 rfl (lv_at hl 3 rfl) ?_
          refine lv_iload_n hx hb dX5_sendCascade_49 rfl (lv_at hl 2 rfl) ?_
          refine lv_iload_n hx hb dX5_sendCascade_50 rfl (lv_at hl 0 rfl) ?_
          refine zc_r (va_runV (As := [.int (nI (lawM σ)), .int (nI i)]) (rest := []) ⟨hx, hb, hml, hown, hts⟩ (c_X5_wordSentFor l D Y A (recB B hn) (casI σ (lawM σ) i) (recN hn) (recH h hn σ) (wdS σ) (ddS σ) r0 r1 r2 r3 r4 (σ 0) (pak (itC (wdS σ) σ) (σ 0)) (mkP (fun k9 => decide (k9 < σ 0))) wt wn (lawM σ) i (by omega) (by omega)) (cwV 2 hts gX5_sendCascade_X5_wordSentFor rfl rfl rfl (by decide +kernel) (by rw [hR]; exact ⟨Nat.le_of_ble_eq_true rfl, Nat.le_of_ble_eq_true rfl⟩)) ⟨zB_blind, va_recv hK hP (ci := 5) (q0 := 0) rfl rfl, zp_r hP hK hN⟩ rfl rfl hl.1 rfl (lv_room (Nat.le_of_ble_eq_true rfl)) dX5_sendCascade_51 ⟨Nat.zero_le _, Nat.zero_le _⟩).run ?_
          refine lv_istore (lv' := [(4, .int (nI ((wdS σ) (zcw (lawM σ) i)))), (3, .int (nI i)), (2, .int (nI (casN σ (lawM σ) i))), (1, .int (nI (lawM σ))), (0, .ref (A 0))]) hx hb dX5_sendCascade_54 hl (by decide) rfl (fun ls hl => ?_)
          refine lv_aload_n hx hb dX5_sendCascade_56 rfl (lv_at hl 4 rfl) ?_
          refine va_get (D := D) (ci := 5) (v := .ref (A 1)) (C := RX5) (T := TX5) (N := 7) hx hb hts qX5_sendCascade_inX5 hown hK hP 0 rfl rfl 0 (by decide) (hts _ qX5_sendCascade_Cond_fieldLink_RX5_10_NestedCodes_state_LNestedCodes_State_) (fun _ h9 => h9) rfl dX5_sendCascade_57 ?_
          refine lv_aload_n hx hb dX5_sendCascade_60 rfl (lv_at hl 4 rfl) ?_
          refine va_get (D := D) (ci := 5) (v := .ref (A 1)) (C := RX5) (T := TX5) (N := 7) hx hb hts qX5_sendCascade_inX5 hown hK hP 0 rfl rfl 0 (by decide) (hts _ qX5_sendCascade_Cond_fieldLink_RX5_10_NestedCodes_state_LNestedCodes_State_) (fun _ h9 => h9) rfl dX5_sendCascade_61 ?_
          refine va_getN (D := D) (ci := 4) (v := .ref (A 3)) (C := RX4) (T := TX4) (N := 7) hx hb hts qX5_sendCascade_inX4 hown hK hP 1 rfl rfl 4 (by decide) (kN_X5_128 hN) (fun _ h9 => h9) rfl dX5_sendCascade_64 ?_
          refine lv_iload_n hx hb dX5_sendCascade_67 rfl (lv_at hl 1 rfl) ?_
          refine za_i hx hb hK hP 3 (f := fun k9 => nI ((casI σ (lawM σ) i) (9 + k9))) (v := (nI (σ (9 + i)))) rfl (by omega) (by decide) dX5_sendCascade_68 (congrArg nI (casI_out σ (lawM σ) i (by omega))) ?_
          refine lv_iload hx hb dX5_sendCascade_69 (lv_at hl 0 rfl) ?_
          refine zv_ixor hx hb (v := (nI ((σ (9 + i)) ^^^ ((wdS σ) (zcw (lawM σ) i))))) dX5_sendCascade_71 (nx_xor _ _) ?_
          refine zc_r (va_runVN (C := RX4) (As := [.int (nI ((σ (9 + i)) ^^^ ((wdS σ) (zcw (lawM σ) i))))]) (rest := []) ⟨hx, hb, hml, hown, hts⟩ (c_X4_shiftedRound l D Y A (recB B hn) (casI σ (lawM σ) i) (recN hn) (recH h hn σ) (wdS σ) (ddS σ) r0 r1 r2 r3 r4 (σ 0) (pak (itC (wdS σ) σ) (σ 0)) (mkP (fun k9 => decide (k9 < σ 0))) wt wn ((σ (9 + i)) ^^^ ((wdS σ) (zcw (lawM σ) i))) (by rw [casI_out σ (lawM σ) i (q := 2) (by omega)]; exact Nat.xor_lt_two_pow (wl i (by omega)) (zwd_b kσ _)) (zWF_cas kσ hlm2)) ⟨(va_cnB 1 hts gX5_sendCascade_X4_shiftedRound_n152 rfl rfl rfl (kM_X5_152 hN) (hts _ qX5_sendCascade_Cond_initialized_RX4) (by decide +kernel) (by rw [hR]; exact ⟨Nat.le_of_ble_eq_true rfl, Nat.le_of_ble_eq_true rfl⟩)), (hts _ qX5_sendCascade_Cond_instanceMethod_yX4_shiftedRound), (hts _ qX5_sendCascade_Cond_selects_RX4_yX4_shiftedRound_yX4_shiftedRound)⟩ ⟨zB_blind, va_recv hK hP (ci := 4) (q0 := 1) rfl rfl, zp_r hP hK hN⟩ rfl rfl hl.1 rfl (lv_room (Nat.le_of_ble_eq_true rfl)) dX5_sendCascade_72 ⟨Nat.zero_le _, Nat.zero_le _⟩).run ?_
          refine zt_i (v := (nI (rotW (σ 2) (σ (9 + i) ^^^ wdS σ (zcw (lawM σ) i))))) (congrArg nI (show rotW (casI σ (lawM σ) i 2) _ = _ from by rw [casI_out σ (lawM σ) i (q := 2) (by omega)])) ?_
          refine lv_istore (lv' := [(5, .int (nI (rotW (σ 2) (σ (9 + i) ^^^ wdS σ (zcw (lawM σ) i))))), (4, .int (nI ((wdS σ) (zcw (lawM σ) i)))), (3, .int (nI i)), (2, .int (nI (casN σ (lawM σ) i))), (1, .int (nI (lawM σ))), (0, .ref (A 0))]) hx hb dX5_sendCascade_75 hl (by decide) rfl (fun ls hl => ?_)
          refine lv_aload_n hx hb dX5_sendCascade_77 rfl (lv_at hl 5 rfl) ?_
          refine va_get (D := D) (ci := 5) (v := .ref (A 1)) (C := RX5) (T := TX5) (N := 7) hx hb hts qX5_sendCascade_inX5 hown hK hP 0 rfl rfl 0 (by decide) (hts _ qX5_sendCascade_Cond_fieldLink_RX5_10_NestedCodes_state_LNestedCodes_State_) (fun _ h9 => h9) rfl dX5_sendCascade_78 ?_
          refine va_getN (D := D) (ci := 4) (v := .ref (A 3)) (C := RX4) (T := TX4) (N := 7) hx hb hts qX5_sendCascade_inX4 hown hK hP 1 rfl rfl 4 (by decide) (kN_X5_128 hN) (fun _ h9 => h9) rfl dX5_sendCascade_81 ?_
          refine lv_iload_n hx hb dX5_sendCascade_84 rfl (lv_at hl 2 rfl) ?_
          refine lv_iload hx hb dX5_sendCascade_85 (lv_at hl 1 rfl) ?_
          refine lv_iload hx hb dX5_sendCascade_87 (lv_at hl 0 rfl) ?_
          refine zv_ixor hx hb (v := (nI (((wdS σ) (zcw (lawM σ) i)) ^^^ (rotW (σ 2) (σ (9 + i) ^^^ wdS σ (zcw (lawM σ) i)))))) dX5_sendCascade_89 (nx_xor _ _) ?_
          refine zs_i hx hb hK hP hD hS 3 (f := fun k9 => nI ((casI σ (lawM σ) i) (9 + k9))) rfl (by omega) (by decide) dX5_sendCascade_90 (fun H locs hP hD9 hS => ?_)
          have hP : va_P D vwCl (CX Y A (recB B hn) (va_up (casI σ (lawM σ) i) (9 + i) (((wdS σ) (zcw (lawM σ) i)) ^^^ (rotW (σ 2) (σ (9 + i) ^^^ wdS σ (zcw (lawM σ) i))))) (recN hn) (recH h hn σ) (wdS σ) (ddS σ) r0 r1 r2 r3 r4 (σ 0) (pak (itC (wdS σ) σ) (σ 0)) (mkP (fun k9 => decide (k9 < σ 0))) wt wn) H := by rw [CX_w (i := i) (by omega)] at hP; exact hP
          have hD : va_D FA (CX Y A (recB B hn) (va_up (casI σ (lawM σ) i) (9 + i) (((wdS σ) (zcw (lawM σ) i)) ^^^ (rotW (σ 2) (σ (9 + i) ^^^ wdS σ (zcw (lawM σ) i))))) (recN hn) (recH h hn σ) (wdS σ) (ddS σ) r0 r1 r2 r3 r4 (σ 0) (pak (itC (wdS σ) σ) (σ 0)) (mkP (fun k9 => decide (k9 < σ 0))) wt wn) := CX_dd hD
          clear hD9
          refine lv_iload_n hx hb dX5_sendCascade_91 rfl (lv_at hl 3 rfl) ?_
          refine lv_iload hx hb dX5_sendCascade_92 (lv_at hl 0 rfl) ?_
          refine zc_r (va_runS (As := [.int (nI (rotW (σ 2) (σ (9 + i) ^^^ wdS σ (zcw (lawM σ) i))))]) (rest := [.int (nI (casN σ (lawM σ) i))]) ⟨hx, hb, hml, hown, hts⟩ (c_J6_bitCount_0f7a4 l D Y  (rotW (σ 2) (σ (9 + i) ^^^ wdS σ (zcw (lawM σ) i))) (Nat.lt_trans (Nat.lt_of_lt_of_le hrw pb) (by decide))) (va_cwS 1 hts gX5_sendCascade_J6_bitCount_0f7a4 rfl rfl rfl (by decide +kernel) (by rw [hR]; exact ⟨Nat.le_of_ble_eq_true rfl, Nat.le_of_ble_eq_true rfl⟩)) ⟨zB_blind, (zp_r (v := [.int (nI (rotW (σ 2) (σ (9 + i) ^^^ wdS σ (zcw (lawM σ) i))))]) (fun k q h => absurd h (by simp)) hK hN)⟩ rfl rfl hl.1 rfl (lv_room (Nat.le_of_ble_eq_true rfl)) dX5_sendCascade_94 ⟨Nat.zero_le _, Nat.zero_le _⟩).run ?_
          have hp94 := popc_le (rotW (σ 2) (σ (9 + i) ^^^ wdS σ (zcw (lawM σ) i)))
          refine zv_iadd hx hb (v := (nI ((casN σ (lawM σ) i) + (popc (rotW (σ 2) (σ (9 + i) ^^^ wdS σ (zcw (lawM σ) i))))))) dX5_sendCascade_97 (nI_add _ _) ?_
          refine lv_istore_n (lv' := [(2, .int (nI ((casN σ (lawM σ) i) + (popc (rotW (σ 2) (σ (9 + i) ^^^ wdS σ (zcw (lawM σ) i))))))), (5, .int (nI (rotW (σ 2) (σ (9 + i) ^^^ wdS σ (zcw (lawM σ) i))))), (4, .int (nI ((wdS σ) (zcw (lawM σ) i)))), (3, .int (nI i)), (1, .int (nI (lawM σ))), (0, .ref (A 0))]) hx hb dX5_sendCascade_98 rfl hl (by decide) rfl (fun ls hl => ?_)
          refine lv_iinc (v := (nI (i + 1))) (lv' := [(3, .int (nI (i + 1))), (2, .int (nI ((casN σ (lawM σ) i) + (popc (rotW (σ 2) (σ (9 + i) ^^^ wdS σ (zcw (lawM σ) i))))))), (5, .int (nI (rotW (σ 2) (σ (9 + i) ^^^ wdS σ (zcw (lawM σ) i))))), (4, .int (nI ((wdS σ) (zcw (lawM σ) i)))), (1, .int (nI (lawM σ))), (0, .ref (A 0))]) hx hb dX5_sendCascade_99 hl (k := 3) rfl (zinc _) (by decide) rfl (fun ls hl => ?_)
          refine lv_goto (tgt := 37) hx hb dX5_sendCascade_102 (by decide) ?_
          have e9 : (va_up (casI σ (lawM σ) i) (9 + i) (((wdS σ) (zcw (lawM σ) i)) ^^^ (rotW (σ 2) (σ (9 + i) ^^^ wdS σ (zcw (lawM σ) i))))) = (casI σ (lawM σ) (i + 1)) := casI_up σ (lawM σ) i
          rw [e9] at hP
          clear e9
          have hP : va_P D vwCl (CX Y A (recB B hn) (casI σ (lawM σ) (i + 1)) (recN hn) (recH h hn σ) (wdS σ) (ddS σ) r0 r1 r2 r3 r4 (σ 0) (pak (itC (wdS σ) σ) (σ 0)) (mkP (fun k9 => decide (k9 < σ 0))) wt wn) H := hP
          have hD : va_D FA (CX Y A (recB B hn) (casI σ (lawM σ) (i + 1)) (recN hn) (recH h hn σ) (wdS σ) (ddS σ) r0 r1 r2 r3 r4 (σ 0) (pak (itC (wdS σ) σ) (σ 0)) (mkP (fun k9 => decide (k9 < σ 0))) wt wn) := CX_dd hD
          exact ih37 (i + 1) (by omega) (by omega) H locs hP hD hS ls (lv_sub hl [0, 1, 4, 5] rfl)
    have e9 : (va_up σ 8 (lawM σ)) = (casI σ (lawM σ) 0) := casI_0 σ (lawM σ)
    rw [e9] at hP
    clear e9
    have hP : va_P D vwCl (CX Y A (recB B hn) (casI σ (lawM σ) 0) (recN hn) (recH h hn σ) (wdS σ) (ddS σ) r0 r1 r2 r3 r4 (σ 0) (pak (itC (wdS σ) σ) (σ 0)) (mkP (fun k9 => decide (k9 < σ 0))) wt wn) H := hP
    have hD : va_D FA (CX Y A (recB B hn) (casI σ (lawM σ) 0) (recN hn) (recH h hn σ) (wdS σ) (ddS σ) r0 r1 r2 r3 r4 (σ 0) (pak (itC (wdS σ) σ) (σ 0)) (mkP (fun k9 => decide (k9 < σ 0))) wt wn) := CX_dd hD
    exact L37 (σ 0 - 0 + 1) 0 (by omega) (Nat.lt_succ_self _) _ _ hP hD hS ls (lv_sub hl [0, 1, 2, 3] rfl)
  · exact absurd c7 (by omega)
